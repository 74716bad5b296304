def sv (T : Nat → Nat) (p : Nat) : Int32 := if T p = 0 then -1 else nI (T p)
theorem txt_0 {S : Ln} {p : Nat} (hS : tsg S) (h : ¬ txt S.1 S.2 p = 0) : p < S.2 ∧ txt S.1 S.2 p = S.1 p ∧ 32 ≤ S.1 p ∧ S.1 p ≤ 126 := by
  have := txt_le (t := S.1) (n := S.2) (p := p) h
  exact ⟨this, if_pos this, hS.2 p this⟩
theorem txt_126 {S : Ln} (hS : tsg S) (p : Nat) : txt S.1 S.2 p ≤ 126 := by
  by_cases q : txt S.1 S.2 p = 0
  · omega
  · have := txt_0 hS q
    omega
def dvS (T : Nat → Nat) (m : Nat) (s : Bool × Nat) : Nat := if s.1 = true then dv T 0 m s.2 else 0
def bhV (T : Nat → Nat) (c m : Nat) (s : Bool × Nat) : Nat := dvS T m (sS T c s)
theorem sN_t {T : Nat → Nat} {m p : Nat} : sN T m (true, p) = (decide (0 < dc T m p), p + dc T m p) := rfl
theorem sN_f {T : Nat → Nat} {m p : Nat} : sN T m (false, p) = (false, p) := rfl
theorem sS_t {T : Nat → Nat} {c p : Nat} : sS T c (true, p) = (decide (T p = c), sgP T c p) := rfl
theorem sS_f {T : Nat → Nat} {c p : Nat} : sS T c (false, p) = (false, p) := rfl
theorem sPM_t {T : Nat → Nat} {p : Nat} : sPM T (true, p) = (decide (T p = 43 ∨ T p = 45), pmP T p) := rfl
theorem sPM_f {T : Nat → Nat} {p : Nat} : sPM T (false, p) = (false, p) := rfl
set_option maxRecDepth 20000 in
set_option maxHeartbeats 4000000 in
theorem t_X7_sign {l : Launch} {G : vG} {h : AH} {n : Nat} {m ch sw tn ln dg : Nat} {fl wy dt : Int32} {S : Ln} {X : Nat → Nat} {p w : Nat} (ho : h m = some (mo m ch sw tn p S.2 ln w dg fl wy dt)) (htx : h (m + 6) = some (ar G 60 X)) (hX : lrel X S) (hS : tsg S) (hp : p ≤ S.2) : Mt l G mX7_sign [.ref m] (n) h 0 0 (fun r n2 h2 => r = some (.int (sv (txt S.1 S.2) p)) ∧ n2 = n ∧ h2 = h) := by
  refine Mt.of (by decide) (Nat.le_of_ble_eq_true rfl) rfl ?_
  refine v_ls (ls2 := [some (.ref m)]) rfl ?_
  have hS60 := hS.1
  refine v_aload_n dX7_sign_0 rfl ?_
  refine fX7_179 (v := .int (nI p)) rfl dX7_sign_1 ho rfl ?_
  refine v_aload_n dX7_sign_4 rfl ?_
  refine fX7_182 (v := .int (nI S.2)) rfl dX7_sign_5 ho rfl ?_
  refine n_icmp_ge (tgt := 23) (x := p) (y := S.2) dX7_sign_8 (by decide) (by omega) (by omega) (fun c21 => ?_) (fun c21 => ?_)
  · refine v_iconst (v := (-1)) dX7_sign_23 (by decide) ?_
    refine v_iret dX7_sign_24 rfl ?_ (Nat.le_of_ble_eq_true rfl) (Nat.le_of_ble_eq_true rfl)
    exact ⟨by rw [show sv (txt S.1 S.2) p = -1 from if_pos (if_neg (by omega))], rfl, rfl⟩
  · refine v_aload_n dX7_sign_11 rfl ?_
    refine fX7_25 (v := .ref (m + 6)) rfl dX7_sign_12 ho rfl ?_
    refine v_aload_n dX7_sign_15 rfl ?_
    refine fX7_179 (v := .int (nI p)) rfl dX7_sign_16 ho rfl ?_
    refine n_ialdv (f := X) (j := p) (y := X p) dX7_sign_19 htx (by omega) (by decide) rfl ?_
    refine v_goto (tgt := 24) dX7_sign_20 (by decide) ?_
    refine v_iret dX7_sign_24 rfl ?_ (Nat.le_of_ble_eq_true rfl) (Nat.le_of_ble_eq_true rfl)
    have e9 : (txt S.1 S.2) p = S.1 p := if_pos (by omega)
    have e8 := (hS.2 p (by omega)).1
    exact ⟨by rw [hX p (by omega), ← e9, show sv (txt S.1 S.2) p = nI ((txt S.1 S.2) p) from if_neg (by omega)], rfl, rfl⟩
set_option maxRecDepth 20000 in
set_option maxHeartbeats 4000000 in
theorem t_X7_mark_true {l : Launch} {G : vG} {h : AH} {n : Nat} {m ch sw tn ln dg : Nat} {fl wy dt : Int32} {S : Ln} {X : Nat → Nat} {p c : Nat} (ho : h m = some (mo m ch sw tn p S.2 ln 0 dg fl wy dt)) (htx : h (m + 6) = some (ar G 60 X)) (hX : lrel X S) (hS : tsg S) (hp : p ≤ S.2) (hc0 : 0 < c) (hc1 : c < 128) : Mt l G mX7_mark [.ref m, .int (nI c)] (n) h 0 0 (fun r n2 h2 => r = none ∧ n2 = n ∧ h2 m = some (mo m ch sw tn ((sS (txt S.1 S.2) c (true, p)).2) S.2 ln (bI ((sS (txt S.1 S.2) c (true, p)).1 = false)) dg fl wy dt) ∧ offn 1 m h h2) := by
  refine Mt.of (by decide) (Nat.le_of_ble_eq_true rfl) rfl ?_
  refine v_ls (ls2 := [some (.ref m), some (.int (nI c))]) rfl ?_
  have hS60 := hS.1
  refine v_aload_n dX7_mark_0 rfl ?_
  refine fX7_185 (v := .int (nI 0)) rfl dX7_mark_1 ho rfl ?_
  refine n_if_eq (tgt := 8) (x := 0) dX7_mark_4 (by decide) (by decide) (fun _ => ?_) (fun c => absurd c (by decide))
  refine v_aload_n dX7_mark_8 rfl ?_
  refine v_aload_n dX7_mark_9 rfl ?_
  refine v_callV (st := [.ref m]) dX7_mark_10 (t_X7_sign ho htx hX hS (by omega)) wX7_189 ho rfl rfl ⟨Nat.le_of_ble_eq_true rfl, Nat.le_of_ble_eq_true rfl⟩ (Nat.le_of_ble_eq_true rfl) ⟨Nat.le_of_ble_eq_true rfl, Nat.le_of_ble_eq_true rfl⟩ (fun r n2 h2 hq => ?_)
  obtain ⟨rfl, hn9, hh9⟩ := hq; replace hn9 := hn9.symm; subst hn9; replace hh9 := hh9.symm; subst hh9
  refine v_st (st2 := [.int (sv (txt S.1 S.2) p), .ref m]) rfl ?_
  have hbhz21 := txt_126 hS p
  by_cases hz21 : (txt S.1 S.2) p = 0
  · refine v_st (st2 := [.int ((-1)), .ref m]) (by rw [show sv (txt S.1 S.2) p = -1 from if_pos hz21]; try rfl) ?_
    refine v_iload_n dX7_mark_13 rfl ?_
    refine v_icmp_eq (tgt := 21) dX7_mark_14 (by decide) (fun z => absurd z.symm (nI_ng (by omega) (by decide))) (fun _ => ?_)
    refine v_iconst (v := nI 1) dX7_mark_17 (by decide) ?_
    refine v_goto (tgt := 22) dX7_mark_18 (by decide) ?_
    refine pX7_185 rfl dX7_mark_22 ho (Nat.le_of_ble_eq_true rfl) (by decide) (by decide) ?_
    refine nw (fun h1 f1 s1 => ?_)
    have fa22 : h1 (m) = some (.inr (8, [.int fl, .int (nI ch), .int wy, .int dt, .int (nI sw), .ref (m + 1), .ref (m + 2), .ref (m + 3), .ref (m + 4), .ref (m + 5), .ref (m + 6), .ref (m + 7), .int (nI tn), .int (nI p), .int (nI S.2), .int (nI ln), .int (nI 1), .int (nI dg)])) := f1
    have sa22 := s1
    clear f1 s1
    have fa23 := (sa22 (m + 6) (by omega)).trans htx
    have fr24 := offn_in (k := 1) (q := m) offn_rf sa22 (by omega)
    refine v_aload_n dX7_mark_25 rfl ?_
    refine v_dup dX7_mark_26 rfl ?_
    refine fX7_179 (v := .int (nI p)) rfl dX7_mark_27 fa22 rfl ?_
    refine v_aload_n dX7_mark_30 rfl ?_
    refine fX7_185 (v := .int (nI 1)) rfl dX7_mark_31 fa22 rfl ?_
    refine n_if_eq (tgt := 41) (x := 1) dX7_mark_34 (by decide) (by decide) (fun c => absurd c (by decide)) (fun _ => ?_)
    refine v_iconst (v := nI 0) dX7_mark_37 (by decide) ?_
    refine v_goto (tgt := 42) dX7_mark_38 (by decide) ?_
    refine n_iadd (x := p) (y := 0) dX7_mark_42 ?_
    refine v_st (st2 := [.int (nI p), .ref m]) rfl ?_
    refine pX7_179 rfl dX7_mark_43 fa22 (Nat.le_of_ble_eq_true rfl) ?_
    refine nw (fun h1 f1 s1 => ?_)
    have fa25 : h1 (m) = some (.inr (8, [.int fl, .int (nI ch), .int wy, .int dt, .int (nI sw), .ref (m + 1), .ref (m + 2), .ref (m + 3), .ref (m + 4), .ref (m + 5), .ref (m + 6), .ref (m + 7), .int (nI tn), .int (nI p), .int (nI S.2), .int (nI ln), .int (nI 1), .int (nI dg)])) := f1
    have sa25 := s1
    clear f1 s1
    have fa26 := (sa25 (m + 6) (by omega)).trans fa23
    have fr27 := offn_in (k := 1) (q := m) fr24 sa25 (by omega)
    refine v_vret dX7_mark_46 rfl ?_ (Nat.le_of_ble_eq_true rfl) (Nat.le_of_ble_eq_true rfl)
    have e9 : (sS (txt S.1 S.2) c (true, p)) = (false, p) := by rw [sS_t, show sgP (txt S.1 S.2) c p = p from if_neg (show ¬ (txt S.1 S.2) p = c by omega), decide_eq_false (show ¬ (txt S.1 S.2) p = c by omega)]
    exact ⟨rfl, rfl, by rw [e9, bI_t rfl]; exact fa25, fr27⟩
  · have hlhz21 := txt_le hz21
    refine v_st (st2 := [.int (nI ((txt S.1 S.2) p)), .ref m]) (by rw [show sv (txt S.1 S.2) p = nI ((txt S.1 S.2) p) from if_neg hz21]; try rfl) ?_
    refine v_iload_n dX7_mark_13 rfl ?_
    refine n_icmp_eq (tgt := 21) (x := (txt S.1 S.2) p) (y := c) dX7_mark_14 (by decide) (by omega) (by omega) (fun c28 => ?_) (fun c28 => ?_)
    · refine v_iconst (v := nI 0) dX7_mark_21 (by decide) ?_
      refine pX7_185 rfl dX7_mark_22 ho (Nat.le_of_ble_eq_true rfl) (by decide) (by decide) ?_
      refine nw (fun h1 f1 s1 => ?_)
      have fa29 : h1 (m) = some (.inr (8, [.int fl, .int (nI ch), .int wy, .int dt, .int (nI sw), .ref (m + 1), .ref (m + 2), .ref (m + 3), .ref (m + 4), .ref (m + 5), .ref (m + 6), .ref (m + 7), .int (nI tn), .int (nI p), .int (nI S.2), .int (nI ln), .int (nI 0), .int (nI dg)])) := f1
      have sa29 := s1
      clear f1 s1
      have fa30 := (sa29 (m + 6) (by omega)).trans htx
      have fr31 := offn_in (k := 1) (q := m) offn_rf sa29 (by omega)
      refine v_aload_n dX7_mark_25 rfl ?_
      refine v_dup dX7_mark_26 rfl ?_
      refine fX7_179 (v := .int (nI p)) rfl dX7_mark_27 fa29 rfl ?_
      refine v_aload_n dX7_mark_30 rfl ?_
      refine fX7_185 (v := .int (nI 0)) rfl dX7_mark_31 fa29 rfl ?_
      refine n_if_eq (tgt := 41) (x := 0) dX7_mark_34 (by decide) (by decide) (fun _ => ?_) (fun c => absurd c (by decide))
      refine v_iconst (v := nI 1) dX7_mark_41 (by decide) ?_
      refine n_iadd (x := p) (y := 1) dX7_mark_42 ?_
      refine pX7_179 rfl dX7_mark_43 fa29 (Nat.le_of_ble_eq_true rfl) ?_
      refine nw (fun h1 f1 s1 => ?_)
      have fa32 : h1 (m) = some (.inr (8, [.int fl, .int (nI ch), .int wy, .int dt, .int (nI sw), .ref (m + 1), .ref (m + 2), .ref (m + 3), .ref (m + 4), .ref (m + 5), .ref (m + 6), .ref (m + 7), .int (nI tn), .int (nI (p + 1)), .int (nI S.2), .int (nI ln), .int (nI 0), .int (nI dg)])) := f1
      have sa32 := s1
      clear f1 s1
      have fa33 := (sa32 (m + 6) (by omega)).trans fa30
      have fr34 := offn_in (k := 1) (q := m) fr31 sa32 (by omega)
      refine v_vret dX7_mark_46 rfl ?_ (Nat.le_of_ble_eq_true rfl) (Nat.le_of_ble_eq_true rfl)
      have e9 : (sS (txt S.1 S.2) c (true, p)) = (true, p + 1) := by rw [sS_t, show sgP (txt S.1 S.2) c p = p + 1 from if_pos c28, decide_eq_true c28]
      exact ⟨rfl, rfl, by rw [e9, bI_f Bool.noConfusion]; exact fa32, fr34⟩
    · refine v_iconst (v := nI 1) dX7_mark_17 (by decide) ?_
      refine v_goto (tgt := 22) dX7_mark_18 (by decide) ?_
      refine pX7_185 rfl dX7_mark_22 ho (Nat.le_of_ble_eq_true rfl) (by decide) (by decide) ?_
      refine nw (fun h1 f1 s1 => ?_)
      have fa35 : h1 (m) = some (.inr (8, [.int fl, .int (nI ch), .int wy, .int dt, .int (nI sw), .ref (m + 1), .ref (m + 2), .ref (m + 3), .ref (m + 4), .ref (m + 5), .ref (m + 6), .ref (m + 7), .int (nI tn), .int (nI p), .int (nI S.2), .int (nI ln), .int (nI 1), .int (nI dg)])) := f1
      have sa35 := s1
      clear f1 s1
      have fa36 := (sa35 (m + 6) (by omega)).trans htx
      have fr37 := offn_in (k := 1) (q := m) offn_rf sa35 (by omega)
      refine v_aload_n dX7_mark_25 rfl ?_
      refine v_dup dX7_mark_26 rfl ?_
      refine fX7_179 (v := .int (nI p)) rfl dX7_mark_27 fa35 rfl ?_
      refine v_aload_n dX7_mark_30 rfl ?_
      refine fX7_185 (v := .int (nI 1)) rfl dX7_mark_31 fa35 rfl ?_
      refine n_if_eq (tgt := 41) (x := 1) dX7_mark_34 (by decide) (by decide) (fun c => absurd c (by decide)) (fun _ => ?_)
      refine v_iconst (v := nI 0) dX7_mark_37 (by decide) ?_
      refine v_goto (tgt := 42) dX7_mark_38 (by decide) ?_
      refine n_iadd (x := p) (y := 0) dX7_mark_42 ?_
      refine v_st (st2 := [.int (nI p), .ref m]) rfl ?_
      refine pX7_179 rfl dX7_mark_43 fa35 (Nat.le_of_ble_eq_true rfl) ?_
      refine nw (fun h1 f1 s1 => ?_)
      have fa38 : h1 (m) = some (.inr (8, [.int fl, .int (nI ch), .int wy, .int dt, .int (nI sw), .ref (m + 1), .ref (m + 2), .ref (m + 3), .ref (m + 4), .ref (m + 5), .ref (m + 6), .ref (m + 7), .int (nI tn), .int (nI p), .int (nI S.2), .int (nI ln), .int (nI 1), .int (nI dg)])) := f1
      have sa38 := s1
      clear f1 s1
      have fa39 := (sa38 (m + 6) (by omega)).trans fa36
      have fr40 := offn_in (k := 1) (q := m) fr37 sa38 (by omega)
      refine v_vret dX7_mark_46 rfl ?_ (Nat.le_of_ble_eq_true rfl) (Nat.le_of_ble_eq_true rfl)
      have e9 : (sS (txt S.1 S.2) c (true, p)) = (false, p) := by rw [sS_t, show sgP (txt S.1 S.2) c p = p from if_neg (show ¬ (txt S.1 S.2) p = c by omega), decide_eq_false (show ¬ (txt S.1 S.2) p = c by omega)]
      exact ⟨rfl, rfl, by rw [e9, bI_t rfl]; exact fa38, fr40⟩
set_option maxRecDepth 20000 in
set_option maxHeartbeats 4000000 in
theorem t_X7_mark_false {l : Launch} {G : vG} {h : AH} {n : Nat} {m ch sw tn ln dg : Nat} {fl wy dt : Int32} {S : Ln} {X : Nat → Nat} {p c : Nat} (ho : h m = some (mo m ch sw tn p S.2 ln 1 dg fl wy dt)) (htx : h (m + 6) = some (ar G 60 X)) (hX : lrel X S) (hS : tsg S) (hp : p ≤ S.2) (hc0 : 0 < c) (hc1 : c < 128) : Mt l G mX7_mark [.ref m, .int (nI c)] (n) h 0 0 (fun r n2 h2 => r = none ∧ n2 = n ∧ h2 m = some (mo m ch sw tn ((sS (txt S.1 S.2) c (false, p)).2) S.2 ln (bI ((sS (txt S.1 S.2) c (false, p)).1 = false)) dg fl wy dt) ∧ offn 1 m h h2) := by
  refine Mt.of (by decide) (Nat.le_of_ble_eq_true rfl) rfl ?_
  refine v_ls (ls2 := [some (.ref m), some (.int (nI c))]) rfl ?_
  have hS60 := hS.1
  refine v_aload_n dX7_mark_0 rfl ?_
  refine fX7_185 (v := .int (nI 1)) rfl dX7_mark_1 ho rfl ?_
  refine n_if_eq (tgt := 8) (x := 1) dX7_mark_4 (by decide) (by decide) (fun c => absurd c (by decide)) (fun _ => ?_)
  refine v_vret dX7_mark_7 rfl ?_ (Nat.le_of_ble_eq_true rfl) (Nat.le_of_ble_eq_true rfl)
  have e9 : (sS (txt S.1 S.2) c (false, p)) = (false, p) := by rfl
  exact ⟨rfl, rfl, by rw [e9, bI_t rfl]; exact ho, offn_rf⟩
theorem t_X7_mark {l : Launch} {G : vG} {h : AH} {n : Nat} {m ch sw tn ln dg : Nat} {fl wy dt : Int32} {S : Ln} {X : Nat → Nat}  {c : Nat} {s : Bool × Nat} (ho : h m = some (mo m ch sw tn s.2 S.2 ln (bI (s.1 = false)) dg fl wy dt)) (htx : h (m + 6) = some (ar G 60 X)) (hX : lrel X S) (hS : tsg S) (hp : s.2 ≤ S.2) (hc0 : 0 < c) (hc1 : c < 128) : Mt l G mX7_mark [.ref m, .int (nI c)] n h 0 0 (fun r n2 h2 => r = none ∧ n2 = n ∧ h2 m = some (mo m ch sw tn ((sS (txt S.1 S.2) c s).2) S.2 ln (bI ((sS (txt S.1 S.2) c s).1 = false)) dg fl wy dt) ∧ offn 1 m h h2) := by
  obtain ⟨b, p⟩ := s
  cases b
  · exact t_X7_mark_false ho htx hX hS hp hc0 hc1
  · exact t_X7_mark_true ho htx hX hS hp hc0 hc1
set_option maxRecDepth 20000 in
set_option maxHeartbeats 4000000 in
theorem t_X7_digits1_true {l : Launch} {G : vG} {h : AH} {n : Nat} {m ch sw tn ln dg : Nat} {fl wy dt : Int32} {S : Ln} {X : Nat → Nat} {p : Nat} (ho : h m = some (mo m ch sw tn p S.2 ln 0 dg fl wy dt)) (htx : h (m + 6) = some (ar G 60 X)) (hX : lrel X S) (hS : tsg S) (hp : p ≤ S.2) : Mt l G mX7_digits [.ref m, .int (nI 1)] (n) h 0 0 (fun r n2 h2 => r = some (.int (nI (dvS (txt S.1 S.2) 1 (true, p)))) ∧ n2 = n ∧ h2 m = some (mo m ch sw tn ((sN (txt S.1 S.2) 1 (true, p)).2) S.2 ln (bI ((sN (txt S.1 S.2) 1 (true, p)).1 = false)) dg fl wy dt) ∧ offn 1 m h h2) := by
  refine Mt.of (by decide) (Nat.le_of_ble_eq_true rfl) rfl ?_
  refine v_ls (ls2 := [some (.ref m), some (.int (nI 1)), none, none]) rfl ?_
  have hS60 := hS.1
  refine v_iconst (v := nI 0) dX7_digits_0 (by decide) ?_
  refine v_istore_n dX7_digits_1 rfl (by decide) ?_
  refine v_ls (ls2 := [some (.ref m), some (.int (nI 1)), some (.int (nI 0)), none]) rfl ?_
  refine v_iconst (v := nI 0) dX7_digits_2 (by decide) ?_
  refine v_istore_n dX7_digits_3 rfl (by decide) ?_
  refine v_ls (ls2 := [some (.ref m), some (.int (nI 1)), some (.int (nI 0)), some (.int (nI 0))]) rfl ?_
  refine v_aload_n dX7_digits_4 rfl ?_
  refine fX7_185 (v := .int (nI 0)) rfl dX7_digits_5 ho rfl ?_
  refine n_if_ne (tgt := 59) (x := 0) dX7_digits_8 (by decide) (by decide) (fun c => absurd c (by decide)) (fun _ => ?_)
  refine v_iload_n dX7_digits_11 rfl ?_
  refine v_iload_n dX7_digits_12 rfl ?_
  refine n_icmp_ge (tgt := 59) (x := 0) (y := 1) dX7_digits_13 (by decide) (by decide) (by decide) (fun c => absurd c (by decide)) (fun _ => ?_)
  refine v_aload_n dX7_digits_16 rfl ?_
  refine v_callV (st := []) dX7_digits_17 (t_X7_sign ho htx hX hS (by omega)) wX7_189 ho rfl rfl ⟨Nat.le_of_ble_eq_true rfl, Nat.le_of_ble_eq_true rfl⟩ (Nat.le_of_ble_eq_true rfl) ⟨Nat.le_of_ble_eq_true rfl, Nat.le_of_ble_eq_true rfl⟩ (fun r n2 h2 hq => ?_)
  obtain ⟨rfl, hn9, hh9⟩ := hq; replace hn9 := hn9.symm; subst hn9; replace hh9 := hh9.symm; subst hh9
  refine v_st (st2 := [.int (sv (txt S.1 S.2) p)]) rfl ?_
  have hbhz21 := txt_126 hS p
  by_cases hz21 : (txt S.1 S.2) p = 0
  · refine v_st (st2 := [.int ((-1))]) (by rw [show sv (txt S.1 S.2) p = -1 from if_pos hz21]; try rfl) ?_
    refine v_bipush (v := nI 48) dX7_digits_20 (by decide) ?_
    refine v_bipush (v := nI 57) dX7_digits_22 (by decide) ?_
    refine v_callS (st := []) dX7_digits_24 (t_X7_isIn (x := (-1)) (a := nI 48) (z := nI 57)) wX7_52 rfl ⟨Nat.le_of_ble_eq_true rfl, Nat.le_of_ble_eq_true rfl⟩ (Nat.le_of_ble_eq_true rfl) ⟨Nat.le_of_ble_eq_true rfl, Nat.le_of_ble_eq_true rfl⟩ (fun r n2 h2 hq => ?_)
    obtain ⟨rfl, hn9, hh9⟩ := hq; replace hn9 := hn9.symm; subst hn9; replace hh9 := hh9.symm; subst hh9
    refine v_st (st2 := [.int (nI (bI (¬ (-1) < nI 48 ∧ ¬ nI 57 < (-1))))]) rfl ?_
    refine n_ifb_eq (tgt := 59) (p := ¬ (-1) < nI 48 ∧ ¬ nI 57 < (-1)) dX7_digits_27 (by decide) (fun c22 => ?_) (fun c22 => ?_)
    · have md23 : ¬ isd ((txt S.1 S.2) p) := fun z => by rw [hz21] at z; exact absurd z.1 (by decide)
      refine v_aload_n dX7_digits_59 rfl ?_
      refine v_dup dX7_digits_60 rfl ?_
      refine fX7_185 (v := .int (nI 0)) rfl dX7_digits_61 ho rfl ?_
      refine v_iload_n dX7_digits_64 rfl ?_
      refine n_if_ne (tgt := 72) (x := 0) dX7_digits_65 (by decide) (by decide) (fun c => absurd c (by decide)) (fun _ => ?_)
      refine v_iconst (v := nI 1) dX7_digits_68 (by decide) ?_
      refine v_goto (tgt := 73) dX7_digits_69 (by decide) ?_
      refine v_ior dX7_digits_73 ?_
      refine v_st (st2 := [.int (nI 1), .ref m]) (by first | rfl | decide) ?_
      refine pX7_185 rfl dX7_digits_74 ho (Nat.le_of_ble_eq_true rfl) (by decide) (by decide) ?_
      refine nw (fun h1 f1 s1 => ?_)
      have fa24 : h1 (m) = some (.inr (8, [.int fl, .int (nI ch), .int wy, .int dt, .int (nI sw), .ref (m + 1), .ref (m + 2), .ref (m + 3), .ref (m + 4), .ref (m + 5), .ref (m + 6), .ref (m + 7), .int (nI tn), .int (nI p), .int (nI S.2), .int (nI ln), .int (nI 1), .int (nI dg)])) := f1
      have sa24 := s1
      clear f1 s1
      have fa25 := (sa24 (m + 6) (by omega)).trans htx
      have fr26 := offn_in (k := 1) (q := m) offn_rf sa24 (by omega)
      refine v_iload_n dX7_digits_77 rfl ?_
      refine v_iret dX7_digits_78 rfl ?_ (Nat.le_of_ble_eq_true rfl) (Nat.le_of_ble_eq_true rfl)
      have e9 : (sN (txt S.1 S.2) 1 (true, p)) = (false, p) := by rw [sN_t]; rw [show dc (txt S.1 S.2) 1 p = 0 from if_neg md23]; rfl
      exact ⟨congrArg (fun z => some (Value.int (nI z))) (show 0 = dvS (txt S.1 S.2) 1 (true, p) by rw [show dvS (txt S.1 S.2) 1 (true, p) = dv (txt S.1 S.2) 0 1 p from rfl, show dv (txt S.1 S.2) 0 1 p = 0 from if_neg md23]; try omega), rfl, by rw [e9, bI_t rfl]; exact fa24, fr26⟩
    · exact absurd (show (-1 : Int32) < nI 48 by decide) c22.1
  · have hlhz21 := txt_le hz21
    refine v_st (st2 := [.int (nI ((txt S.1 S.2) p))]) (by rw [show sv (txt S.1 S.2) p = nI ((txt S.1 S.2) p) from if_neg hz21]; try rfl) ?_
    refine v_bipush (v := nI 48) dX7_digits_20 (by decide) ?_
    refine v_bipush (v := nI 57) dX7_digits_22 (by decide) ?_
    refine v_callS (st := []) dX7_digits_24 (t_X7_isIn (x := nI ((txt S.1 S.2) p)) (a := nI 48) (z := nI 57)) wX7_52 rfl ⟨Nat.le_of_ble_eq_true rfl, Nat.le_of_ble_eq_true rfl⟩ (Nat.le_of_ble_eq_true rfl) ⟨Nat.le_of_ble_eq_true rfl, Nat.le_of_ble_eq_true rfl⟩ (fun r n2 h2 hq => ?_)
    obtain ⟨rfl, hn9, hh9⟩ := hq; replace hn9 := hn9.symm; subst hn9; replace hh9 := hh9.symm; subst hh9
    refine v_st (st2 := [.int (nI (bI (¬ nI ((txt S.1 S.2) p) < nI 48 ∧ ¬ nI 57 < nI ((txt S.1 S.2) p))))]) rfl ?_
    refine n_ifb_eq (tgt := 59) (p := ¬ nI ((txt S.1 S.2) p) < nI 48 ∧ ¬ nI 57 < nI ((txt S.1 S.2) p)) dX7_digits_27 (by decide) (fun c28 => ?_) (fun c28 => ?_)
    · have md29 : ¬ isd ((txt S.1 S.2) p) := fun z => c28 (by rw [nI_ltI (by omega) (by decide), nI_ltI (by decide) (by omega)]; exact ⟨by omega, by omega⟩)
      refine v_aload_n dX7_digits_59 rfl ?_
      refine v_dup dX7_digits_60 rfl ?_
      refine fX7_185 (v := .int (nI 0)) rfl dX7_digits_61 ho rfl ?_
      refine v_iload_n dX7_digits_64 rfl ?_
      refine n_if_ne (tgt := 72) (x := 0) dX7_digits_65 (by decide) (by decide) (fun c => absurd c (by decide)) (fun _ => ?_)
      refine v_iconst (v := nI 1) dX7_digits_68 (by decide) ?_
      refine v_goto (tgt := 73) dX7_digits_69 (by decide) ?_
      refine v_ior dX7_digits_73 ?_
      refine v_st (st2 := [.int (nI 1), .ref m]) (by first | rfl | decide) ?_
      refine pX7_185 rfl dX7_digits_74 ho (Nat.le_of_ble_eq_true rfl) (by decide) (by decide) ?_
      refine nw (fun h1 f1 s1 => ?_)
      have fa30 : h1 (m) = some (.inr (8, [.int fl, .int (nI ch), .int wy, .int dt, .int (nI sw), .ref (m + 1), .ref (m + 2), .ref (m + 3), .ref (m + 4), .ref (m + 5), .ref (m + 6), .ref (m + 7), .int (nI tn), .int (nI p), .int (nI S.2), .int (nI ln), .int (nI 1), .int (nI dg)])) := f1
      have sa30 := s1
      clear f1 s1
      have fa31 := (sa30 (m + 6) (by omega)).trans htx
      have fr32 := offn_in (k := 1) (q := m) offn_rf sa30 (by omega)
      refine v_iload_n dX7_digits_77 rfl ?_
      refine v_iret dX7_digits_78 rfl ?_ (Nat.le_of_ble_eq_true rfl) (Nat.le_of_ble_eq_true rfl)
      have e9 : (sN (txt S.1 S.2) 1 (true, p)) = (false, p) := by rw [sN_t]; rw [show dc (txt S.1 S.2) 1 p = 0 from if_neg md29]; rfl
      exact ⟨congrArg (fun z => some (Value.int (nI z))) (show 0 = dvS (txt S.1 S.2) 1 (true, p) by rw [show dvS (txt S.1 S.2) 1 (true, p) = dv (txt S.1 S.2) 0 1 p from rfl, show dv (txt S.1 S.2) 0 1 p = 0 from if_neg md29]; try omega), rfl, by rw [e9, bI_t rfl]; exact fa30, fr32⟩
    · have dd33 : isd ((txt S.1 S.2) p) := by rw [nI_ltI (by omega) (by decide), nI_ltI (by decide) (by omega)] at c28; exact ⟨by omega, by omega⟩
      refine v_bipush (v := nI 10) dX7_digits_30 (by decide) ?_
      refine v_iload_n dX7_digits_32 rfl ?_
      refine n_imul (x := 10) (y := 0) dX7_digits_33 ?_
      refine v_aload_n dX7_digits_34 rfl ?_
      refine v_callV (st := [.int (nI (10 * 0))]) dX7_digits_35 (t_X7_sign ho htx hX hS (by omega)) wX7_189 ho rfl rfl ⟨Nat.le_of_ble_eq_true rfl, Nat.le_of_ble_eq_true rfl⟩ (Nat.le_of_ble_eq_true rfl) ⟨Nat.le_of_ble_eq_true rfl, Nat.le_of_ble_eq_true rfl⟩ (fun r n2 h2 hq => ?_)
      obtain ⟨rfl, hn9, hh9⟩ := hq; replace hn9 := hn9.symm; subst hn9; replace hh9 := hh9.symm; subst hh9
      refine v_st (st2 := [.int (nI ((txt S.1 S.2) p)), .int (nI (10 * 0))]) (by rw [show sv (txt S.1 S.2) p = nI ((txt S.1 S.2) p) from if_neg hz21]; try rfl) ?_
      refine n_iadd (x := 10 * 0) (y := (txt S.1 S.2) p) dX7_digits_38 ?_
      refine v_bipush (v := nI 48) dX7_digits_39 (by decide) ?_
      refine n_isub (x := (10 * 0) + (txt S.1 S.2) p) (y := 48) dX7_digits_41 (by omega) ?_
      refine v_istore_n dX7_digits_42 rfl (by decide) ?_
      refine v_ls (ls2 := [some (.ref m), some (.int (nI 1)), some (.int (nI (((10 * 0) + (txt S.1 S.2) p) - 48))), some (.int (nI 0))]) rfl ?_
      refine v_aload_n dX7_digits_43 rfl ?_
      refine v_dup dX7_digits_44 rfl ?_
      refine fX7_179 (v := .int (nI p)) rfl dX7_digits_45 ho rfl ?_
      refine v_iconst (v := nI 1) dX7_digits_48 (by decide) ?_
      refine n_iadd (x := p) (y := 1) dX7_digits_49 ?_
      refine pX7_179 rfl dX7_digits_50 ho (Nat.le_of_ble_eq_true rfl) ?_
      refine nw (fun h1 f1 s1 => ?_)
      have fa35 : h1 (m) = some (.inr (8, [.int fl, .int (nI ch), .int wy, .int dt, .int (nI sw), .ref (m + 1), .ref (m + 2), .ref (m + 3), .ref (m + 4), .ref (m + 5), .ref (m + 6), .ref (m + 7), .int (nI tn), .int (nI (p + 1)), .int (nI S.2), .int (nI ln), .int (nI 0), .int (nI dg)])) := f1
      have sa35 := s1
      clear f1 s1
      have fa36 := (sa35 (m + 6) (by omega)).trans htx
      have fr37 := offn_in (k := 1) (q := m) offn_rf sa35 (by omega)
      refine n_iinc (k := 1) (x := 0) dX7_digits_53 (by decide) rfl rfl (by decide) ?_
      refine v_ls (ls2 := [some (.ref m), some (.int (nI 1)), some (.int (nI (((10 * 0) + (txt S.1 S.2) p) - 48))), some (.int (nI 1))]) rfl ?_
      refine v_goto (tgt := 4) dX7_digits_56 (by decide) ?_
      refine v_aload_n dX7_digits_4 rfl ?_
      refine fX7_185 (v := .int (nI 0)) rfl dX7_digits_5 fa35 rfl ?_
      refine n_if_ne (tgt := 59) (x := 0) dX7_digits_8 (by decide) (by decide) (fun c => absurd c (by decide)) (fun _ => ?_)
      refine v_iload_n dX7_digits_11 rfl ?_
      refine v_iload_n dX7_digits_12 rfl ?_
      refine n_icmp_ge (tgt := 59) (x := 1) (y := 1) dX7_digits_13 (by decide) (by decide) (by decide) (fun _ => ?_) (fun c => absurd c (by decide))
      refine v_aload_n dX7_digits_59 rfl ?_
      refine v_dup dX7_digits_60 rfl ?_
      refine fX7_185 (v := .int (nI 0)) rfl dX7_digits_61 fa35 rfl ?_
      refine v_iload_n dX7_digits_64 rfl ?_
      refine n_if_ne (tgt := 72) (x := 1) dX7_digits_65 (by decide) (by decide) (fun _ => ?_) (fun c => absurd c (by decide))
      refine v_iconst (v := nI 0) dX7_digits_72 (by decide) ?_
      refine v_ior dX7_digits_73 ?_
      refine v_st (st2 := [.int (nI 0), .ref m]) (by first | rfl | decide) ?_
      refine pX7_185 rfl dX7_digits_74 fa35 (Nat.le_of_ble_eq_true rfl) (by decide) (by decide) ?_
      refine nw (fun h1 f1 s1 => ?_)
      have fa38 : h1 (m) = some (.inr (8, [.int fl, .int (nI ch), .int wy, .int dt, .int (nI sw), .ref (m + 1), .ref (m + 2), .ref (m + 3), .ref (m + 4), .ref (m + 5), .ref (m + 6), .ref (m + 7), .int (nI tn), .int (nI (p + 1)), .int (nI S.2), .int (nI ln), .int (nI 0), .int (nI dg)])) := f1
      have sa38 := s1
      clear f1 s1
      have fa39 := (sa38 (m + 6) (by omega)).trans fa36
      have fr40 := offn_in (k := 1) (q := m) fr37 sa38 (by omega)
      refine v_iload_n dX7_digits_77 rfl ?_
      refine v_iret dX7_digits_78 rfl ?_ (Nat.le_of_ble_eq_true rfl) (Nat.le_of_ble_eq_true rfl)
      have e9 : (sN (txt S.1 S.2) 1 (true, p)) = (true, p + 1) := by rw [sN_t]; rw [show dc (txt S.1 S.2) 1 p = 1 from if_pos dd33]; rfl
      exact ⟨congrArg (fun z => some (Value.int (nI z))) (show ((10 * 0) + (txt S.1 S.2) p) - 48 = dvS (txt S.1 S.2) 1 (true, p) by rw [show dvS (txt S.1 S.2) 1 (true, p) = dv (txt S.1 S.2) 0 1 p from rfl, show dv (txt S.1 S.2) 0 1 p = (txt S.1 S.2) p - 48 from by rw [dv, if_pos dd33, if_neg (by omega)]; omega]; try omega), rfl, by rw [e9, bI_f Bool.noConfusion]; exact fa38, fr40⟩
set_option maxRecDepth 20000 in
set_option maxHeartbeats 4000000 in
theorem t_X7_digits1_false {l : Launch} {G : vG} {h : AH} {n : Nat} {m ch sw tn ln dg : Nat} {fl wy dt : Int32} {S : Ln} {X : Nat → Nat} {p : Nat} (ho : h m = some (mo m ch sw tn p S.2 ln 1 dg fl wy dt)) (htx : h (m + 6) = some (ar G 60 X)) (hX : lrel X S) (hS : tsg S) (hp : p ≤ S.2) : Mt l G mX7_digits [.ref m, .int (nI 1)] (n) h 0 0 (fun r n2 h2 => r = some (.int (nI (dvS (txt S.1 S.2) 1 (false, p)))) ∧ n2 = n ∧ h2 m = some (mo m ch sw tn ((sN (txt S.1 S.2) 1 (false, p)).2) S.2 ln (bI ((sN (txt S.1 S.2) 1 (false, p)).1 = false)) dg fl wy dt) ∧ offn 1 m h h2) := by
  refine Mt.of (by decide) (Nat.le_of_ble_eq_true rfl) rfl ?_
  refine v_ls (ls2 := [some (.ref m), some (.int (nI 1)), none, none]) rfl ?_
  have hS60 := hS.1
  refine v_iconst (v := nI 0) dX7_digits_0 (by decide) ?_
  refine v_istore_n dX7_digits_1 rfl (by decide) ?_
  refine v_ls (ls2 := [some (.ref m), some (.int (nI 1)), some (.int (nI 0)), none]) rfl ?_
  refine v_iconst (v := nI 0) dX7_digits_2 (by decide) ?_
  refine v_istore_n dX7_digits_3 rfl (by decide) ?_
  refine v_ls (ls2 := [some (.ref m), some (.int (nI 1)), some (.int (nI 0)), some (.int (nI 0))]) rfl ?_
  refine v_aload_n dX7_digits_4 rfl ?_
  refine fX7_185 (v := .int (nI 1)) rfl dX7_digits_5 ho rfl ?_
  refine n_if_ne (tgt := 59) (x := 1) dX7_digits_8 (by decide) (by decide) (fun _ => ?_) (fun c => absurd c (by decide))
  refine v_aload_n dX7_digits_59 rfl ?_
  refine v_dup dX7_digits_60 rfl ?_
  refine fX7_185 (v := .int (nI 1)) rfl dX7_digits_61 ho rfl ?_
  refine v_iload_n dX7_digits_64 rfl ?_
  refine n_if_ne (tgt := 72) (x := 0) dX7_digits_65 (by decide) (by decide) (fun c => absurd c (by decide)) (fun _ => ?_)
  refine v_iconst (v := nI 1) dX7_digits_68 (by decide) ?_
  refine v_goto (tgt := 73) dX7_digits_69 (by decide) ?_
  refine v_ior dX7_digits_73 ?_
  refine v_st (st2 := [.int (nI 1), .ref m]) (by first | rfl | decide) ?_
  refine pX7_185 rfl dX7_digits_74 ho (Nat.le_of_ble_eq_true rfl) (by decide) (by decide) ?_
  refine nw (fun h1 f1 s1 => ?_)
  have fa21 : h1 (m) = some (.inr (8, [.int fl, .int (nI ch), .int wy, .int dt, .int (nI sw), .ref (m + 1), .ref (m + 2), .ref (m + 3), .ref (m + 4), .ref (m + 5), .ref (m + 6), .ref (m + 7), .int (nI tn), .int (nI p), .int (nI S.2), .int (nI ln), .int (nI 1), .int (nI dg)])) := f1
  have sa21 := s1
  clear f1 s1
  have fa22 := (sa21 (m + 6) (by omega)).trans htx
  have fr23 := offn_in (k := 1) (q := m) offn_rf sa21 (by omega)
  refine v_iload_n dX7_digits_77 rfl ?_
  refine v_iret dX7_digits_78 rfl ?_ (Nat.le_of_ble_eq_true rfl) (Nat.le_of_ble_eq_true rfl)
  have e9 : (sN (txt S.1 S.2) 1 (false, p)) = (false, p) := by rfl
  exact ⟨rfl, rfl, by rw [e9, bI_t rfl]; exact fa21, fr23⟩
theorem t_X7_digits1 {l : Launch} {G : vG} {h : AH} {n : Nat} {m ch sw tn ln dg : Nat} {fl wy dt : Int32} {S : Ln} {X : Nat → Nat} {s : Bool × Nat} (ho : h m = some (mo m ch sw tn s.2 S.2 ln (bI (s.1 = false)) dg fl wy dt)) (htx : h (m + 6) = some (ar G 60 X)) (hX : lrel X S) (hS : tsg S) (hp : s.2 ≤ S.2) : Mt l G mX7_digits [.ref m, .int (nI 1)] n h 0 0 (fun r n2 h2 => r = some (.int (nI (dvS (txt S.1 S.2) 1 s))) ∧ n2 = n ∧ h2 m = some (mo m ch sw tn ((sN (txt S.1 S.2) 1 s).2) S.2 ln (bI ((sN (txt S.1 S.2) 1 s).1 = false)) dg fl wy dt) ∧ offn 1 m h h2) := by
  obtain ⟨b, p⟩ := s
  cases b
  · exact t_X7_digits1_false ho htx hX hS hp
  · exact t_X7_digits1_true ho htx hX hS hp
set_option maxRecDepth 20000 in
set_option maxHeartbeats 4000000 in
theorem t_X7_digits2_true {l : Launch} {G : vG} {h : AH} {n : Nat} {m ch sw tn ln dg : Nat} {fl wy dt : Int32} {S : Ln} {X : Nat → Nat} {p : Nat} (ho : h m = some (mo m ch sw tn p S.2 ln 0 dg fl wy dt)) (htx : h (m + 6) = some (ar G 60 X)) (hX : lrel X S) (hS : tsg S) (hp : p ≤ S.2) : Mt l G mX7_digits [.ref m, .int (nI 2)] (n) h 0 0 (fun r n2 h2 => r = some (.int (nI (dvS (txt S.1 S.2) 2 (true, p)))) ∧ n2 = n ∧ h2 m = some (mo m ch sw tn ((sN (txt S.1 S.2) 2 (true, p)).2) S.2 ln (bI ((sN (txt S.1 S.2) 2 (true, p)).1 = false)) dg fl wy dt) ∧ offn 1 m h h2) := by
  refine Mt.of (by decide) (Nat.le_of_ble_eq_true rfl) rfl ?_
  refine v_ls (ls2 := [some (.ref m), some (.int (nI 2)), none, none]) rfl ?_
  have hS60 := hS.1
  refine v_iconst (v := nI 0) dX7_digits_0 (by decide) ?_
  refine v_istore_n dX7_digits_1 rfl (by decide) ?_
  refine v_ls (ls2 := [some (.ref m), some (.int (nI 2)), some (.int (nI 0)), none]) rfl ?_
  refine v_iconst (v := nI 0) dX7_digits_2 (by decide) ?_
  refine v_istore_n dX7_digits_3 rfl (by decide) ?_
  refine v_ls (ls2 := [some (.ref m), some (.int (nI 2)), some (.int (nI 0)), some (.int (nI 0))]) rfl ?_
  refine v_aload_n dX7_digits_4 rfl ?_
  refine fX7_185 (v := .int (nI 0)) rfl dX7_digits_5 ho rfl ?_
  refine n_if_ne (tgt := 59) (x := 0) dX7_digits_8 (by decide) (by decide) (fun c => absurd c (by decide)) (fun _ => ?_)
  refine v_iload_n dX7_digits_11 rfl ?_
  refine v_iload_n dX7_digits_12 rfl ?_
  refine n_icmp_ge (tgt := 59) (x := 0) (y := 2) dX7_digits_13 (by decide) (by decide) (by decide) (fun c => absurd c (by decide)) (fun _ => ?_)
  refine v_aload_n dX7_digits_16 rfl ?_
  refine v_callV (st := []) dX7_digits_17 (t_X7_sign ho htx hX hS (by omega)) wX7_189 ho rfl rfl ⟨Nat.le_of_ble_eq_true rfl, Nat.le_of_ble_eq_true rfl⟩ (Nat.le_of_ble_eq_true rfl) ⟨Nat.le_of_ble_eq_true rfl, Nat.le_of_ble_eq_true rfl⟩ (fun r n2 h2 hq => ?_)
  obtain ⟨rfl, hn9, hh9⟩ := hq; replace hn9 := hn9.symm; subst hn9; replace hh9 := hh9.symm; subst hh9
  refine v_st (st2 := [.int (sv (txt S.1 S.2) p)]) rfl ?_
  have hbhz21 := txt_126 hS p
  by_cases hz21 : (txt S.1 S.2) p = 0
  · refine v_st (st2 := [.int ((-1))]) (by rw [show sv (txt S.1 S.2) p = -1 from if_pos hz21]; try rfl) ?_
    refine v_bipush (v := nI 48) dX7_digits_20 (by decide) ?_
    refine v_bipush (v := nI 57) dX7_digits_22 (by decide) ?_
    refine v_callS (st := []) dX7_digits_24 (t_X7_isIn (x := (-1)) (a := nI 48) (z := nI 57)) wX7_52 rfl ⟨Nat.le_of_ble_eq_true rfl, Nat.le_of_ble_eq_true rfl⟩ (Nat.le_of_ble_eq_true rfl) ⟨Nat.le_of_ble_eq_true rfl, Nat.le_of_ble_eq_true rfl⟩ (fun r n2 h2 hq => ?_)
    obtain ⟨rfl, hn9, hh9⟩ := hq; replace hn9 := hn9.symm; subst hn9; replace hh9 := hh9.symm; subst hh9
    refine v_st (st2 := [.int (nI (bI (¬ (-1) < nI 48 ∧ ¬ nI 57 < (-1))))]) rfl ?_
    refine n_ifb_eq (tgt := 59) (p := ¬ (-1) < nI 48 ∧ ¬ nI 57 < (-1)) dX7_digits_27 (by decide) (fun c22 => ?_) (fun c22 => ?_)
    · have md23 : ¬ isd ((txt S.1 S.2) p) := fun z => by rw [hz21] at z; exact absurd z.1 (by decide)
      refine v_aload_n dX7_digits_59 rfl ?_
      refine v_dup dX7_digits_60 rfl ?_
      refine fX7_185 (v := .int (nI 0)) rfl dX7_digits_61 ho rfl ?_
      refine v_iload_n dX7_digits_64 rfl ?_
      refine n_if_ne (tgt := 72) (x := 0) dX7_digits_65 (by decide) (by decide) (fun c => absurd c (by decide)) (fun _ => ?_)
      refine v_iconst (v := nI 1) dX7_digits_68 (by decide) ?_
      refine v_goto (tgt := 73) dX7_digits_69 (by decide) ?_
      refine v_ior dX7_digits_73 ?_
      refine v_st (st2 := [.int (nI 1), .ref m]) (by first | rfl | decide) ?_
      refine pX7_185 rfl dX7_digits_74 ho (Nat.le_of_ble_eq_true rfl) (by decide) (by decide) ?_
      refine nw (fun h1 f1 s1 => ?_)
      have fa24 : h1 (m) = some (.inr (8, [.int fl, .int (nI ch), .int wy, .int dt, .int (nI sw), .ref (m + 1), .ref (m + 2), .ref (m + 3), .ref (m + 4), .ref (m + 5), .ref (m + 6), .ref (m + 7), .int (nI tn), .int (nI p), .int (nI S.2), .int (nI ln), .int (nI 1), .int (nI dg)])) := f1
      have sa24 := s1
      clear f1 s1
      have fa25 := (sa24 (m + 6) (by omega)).trans htx
      have fr26 := offn_in (k := 1) (q := m) offn_rf sa24 (by omega)
      refine v_iload_n dX7_digits_77 rfl ?_
      refine v_iret dX7_digits_78 rfl ?_ (Nat.le_of_ble_eq_true rfl) (Nat.le_of_ble_eq_true rfl)
      have e9 : (sN (txt S.1 S.2) 2 (true, p)) = (false, p) := by rw [sN_t]; rw [show dc (txt S.1 S.2) 2 p = 0 from if_neg md23]; rfl
      exact ⟨congrArg (fun z => some (Value.int (nI z))) (show 0 = dvS (txt S.1 S.2) 2 (true, p) by rw [show dvS (txt S.1 S.2) 2 (true, p) = dv (txt S.1 S.2) 0 2 p from rfl, show dv (txt S.1 S.2) 0 2 p = 0 from if_neg md23]; try omega), rfl, by rw [e9, bI_t rfl]; exact fa24, fr26⟩
    · exact absurd (show (-1 : Int32) < nI 48 by decide) c22.1
  · have hlhz21 := txt_le hz21
    refine v_st (st2 := [.int (nI ((txt S.1 S.2) p))]) (by rw [show sv (txt S.1 S.2) p = nI ((txt S.1 S.2) p) from if_neg hz21]; try rfl) ?_
    refine v_bipush (v := nI 48) dX7_digits_20 (by decide) ?_
    refine v_bipush (v := nI 57) dX7_digits_22 (by decide) ?_
    refine v_callS (st := []) dX7_digits_24 (t_X7_isIn (x := nI ((txt S.1 S.2) p)) (a := nI 48) (z := nI 57)) wX7_52 rfl ⟨Nat.le_of_ble_eq_true rfl, Nat.le_of_ble_eq_true rfl⟩ (Nat.le_of_ble_eq_true rfl) ⟨Nat.le_of_ble_eq_true rfl, Nat.le_of_ble_eq_true rfl⟩ (fun r n2 h2 hq => ?_)
    obtain ⟨rfl, hn9, hh9⟩ := hq; replace hn9 := hn9.symm; subst hn9; replace hh9 := hh9.symm; subst hh9
    refine v_st (st2 := [.int (nI (bI (¬ nI ((txt S.1 S.2) p) < nI 48 ∧ ¬ nI 57 < nI ((txt S.1 S.2) p))))]) rfl ?_
    refine n_ifb_eq (tgt := 59) (p := ¬ nI ((txt S.1 S.2) p) < nI 48 ∧ ¬ nI 57 < nI ((txt S.1 S.2) p)) dX7_digits_27 (by decide) (fun c28 => ?_) (fun c28 => ?_)
    · have md29 : ¬ isd ((txt S.1 S.2) p) := fun z => c28 (by rw [nI_ltI (by omega) (by decide), nI_ltI (by decide) (by omega)]; exact ⟨by omega, by omega⟩)
      refine v_aload_n dX7_digits_59 rfl ?_
      refine v_dup dX7_digits_60 rfl ?_
      refine fX7_185 (v := .int (nI 0)) rfl dX7_digits_61 ho rfl ?_
      refine v_iload_n dX7_digits_64 rfl ?_
      refine n_if_ne (tgt := 72) (x := 0) dX7_digits_65 (by decide) (by decide) (fun c => absurd c (by decide)) (fun _ => ?_)
      refine v_iconst (v := nI 1) dX7_digits_68 (by decide) ?_
      refine v_goto (tgt := 73) dX7_digits_69 (by decide) ?_
      refine v_ior dX7_digits_73 ?_
      refine v_st (st2 := [.int (nI 1), .ref m]) (by first | rfl | decide) ?_
      refine pX7_185 rfl dX7_digits_74 ho (Nat.le_of_ble_eq_true rfl) (by decide) (by decide) ?_
      refine nw (fun h1 f1 s1 => ?_)
      have fa30 : h1 (m) = some (.inr (8, [.int fl, .int (nI ch), .int wy, .int dt, .int (nI sw), .ref (m + 1), .ref (m + 2), .ref (m + 3), .ref (m + 4), .ref (m + 5), .ref (m + 6), .ref (m + 7), .int (nI tn), .int (nI p), .int (nI S.2), .int (nI ln), .int (nI 1), .int (nI dg)])) := f1
      have sa30 := s1
      clear f1 s1
      have fa31 := (sa30 (m + 6) (by omega)).trans htx
      have fr32 := offn_in (k := 1) (q := m) offn_rf sa30 (by omega)
      refine v_iload_n dX7_digits_77 rfl ?_
      refine v_iret dX7_digits_78 rfl ?_ (Nat.le_of_ble_eq_true rfl) (Nat.le_of_ble_eq_true rfl)
      have e9 : (sN (txt S.1 S.2) 2 (true, p)) = (false, p) := by rw [sN_t]; rw [show dc (txt S.1 S.2) 2 p = 0 from if_neg md29]; rfl
      exact ⟨congrArg (fun z => some (Value.int (nI z))) (show 0 = dvS (txt S.1 S.2) 2 (true, p) by rw [show dvS (txt S.1 S.2) 2 (true, p) = dv (txt S.1 S.2) 0 2 p from rfl, show dv (txt S.1 S.2) 0 2 p = 0 from if_neg md29]; try omega), rfl, by rw [e9, bI_t rfl]; exact fa30, fr32⟩
    · have dd33 : isd ((txt S.1 S.2) p) := by rw [nI_ltI (by omega) (by decide), nI_ltI (by decide) (by omega)] at c28; exact ⟨by omega, by omega⟩
      refine v_bipush (v := nI 10) dX7_digits_30 (by decide) ?_
      refine v_iload_n dX7_digits_32 rfl ?_
      refine n_imul (x := 10) (y := 0) dX7_digits_33 ?_
      refine v_aload_n dX7_digits_34 rfl ?_
      refine v_callV (st := [.int (nI (10 * 0))]) dX7_digits_35 (t_X7_sign ho htx hX hS (by omega)) wX7_189 ho rfl rfl ⟨Nat.le_of_ble_eq_true rfl, Nat.le_of_ble_eq_true rfl⟩ (Nat.le_of_ble_eq_true rfl) ⟨Nat.le_of_ble_eq_true rfl, Nat.le_of_ble_eq_true rfl⟩ (fun r n2 h2 hq => ?_)
      obtain ⟨rfl, hn9, hh9⟩ := hq; replace hn9 := hn9.symm; subst hn9; replace hh9 := hh9.symm; subst hh9
      refine v_st (st2 := [.int (nI ((txt S.1 S.2) p)), .int (nI (10 * 0))]) (by rw [show sv (txt S.1 S.2) p = nI ((txt S.1 S.2) p) from if_neg hz21]; try rfl) ?_
      refine n_iadd (x := 10 * 0) (y := (txt S.1 S.2) p) dX7_digits_38 ?_
      refine v_bipush (v := nI 48) dX7_digits_39 (by decide) ?_
      refine n_isub (x := (10 * 0) + (txt S.1 S.2) p) (y := 48) dX7_digits_41 (by omega) ?_
      refine v_istore_n dX7_digits_42 rfl (by decide) ?_
      refine v_ls (ls2 := [some (.ref m), some (.int (nI 2)), some (.int (nI (((10 * 0) + (txt S.1 S.2) p) - 48))), some (.int (nI 0))]) rfl ?_
      refine v_aload_n dX7_digits_43 rfl ?_
      refine v_dup dX7_digits_44 rfl ?_
      refine fX7_179 (v := .int (nI p)) rfl dX7_digits_45 ho rfl ?_
      refine v_iconst (v := nI 1) dX7_digits_48 (by decide) ?_
      refine n_iadd (x := p) (y := 1) dX7_digits_49 ?_
      refine pX7_179 rfl dX7_digits_50 ho (Nat.le_of_ble_eq_true rfl) ?_
      refine nw (fun h1 f1 s1 => ?_)
      have fa35 : h1 (m) = some (.inr (8, [.int fl, .int (nI ch), .int wy, .int dt, .int (nI sw), .ref (m + 1), .ref (m + 2), .ref (m + 3), .ref (m + 4), .ref (m + 5), .ref (m + 6), .ref (m + 7), .int (nI tn), .int (nI (p + 1)), .int (nI S.2), .int (nI ln), .int (nI 0), .int (nI dg)])) := f1
      have sa35 := s1
      clear f1 s1
      have fa36 := (sa35 (m + 6) (by omega)).trans htx
      have fr37 := offn_in (k := 1) (q := m) offn_rf sa35 (by omega)
      refine n_iinc (k := 1) (x := 0) dX7_digits_53 (by decide) rfl rfl (by decide) ?_
      refine v_ls (ls2 := [some (.ref m), some (.int (nI 2)), some (.int (nI (((10 * 0) + (txt S.1 S.2) p) - 48))), some (.int (nI 1))]) rfl ?_
      refine v_goto (tgt := 4) dX7_digits_56 (by decide) ?_
      refine v_aload_n dX7_digits_4 rfl ?_
      refine fX7_185 (v := .int (nI 0)) rfl dX7_digits_5 fa35 rfl ?_
      refine n_if_ne (tgt := 59) (x := 0) dX7_digits_8 (by decide) (by decide) (fun c => absurd c (by decide)) (fun _ => ?_)
      refine v_iload_n dX7_digits_11 rfl ?_
      refine v_iload_n dX7_digits_12 rfl ?_
      refine n_icmp_ge (tgt := 59) (x := 1) (y := 2) dX7_digits_13 (by decide) (by decide) (by decide) (fun c => absurd c (by decide)) (fun _ => ?_)
      refine v_aload_n dX7_digits_16 rfl ?_
      refine v_callV (st := []) dX7_digits_17 (t_X7_sign fa35 fa36 hX hS (by omega)) wX7_189 fa35 rfl rfl ⟨Nat.le_of_ble_eq_true rfl, Nat.le_of_ble_eq_true rfl⟩ (Nat.le_of_ble_eq_true rfl) ⟨Nat.le_of_ble_eq_true rfl, Nat.le_of_ble_eq_true rfl⟩ (fun r n2 h2 hq => ?_)
      obtain ⟨rfl, hn9, hh9⟩ := hq; replace hn9 := hn9.symm; subst hn9; replace hh9 := hh9.symm; subst hh9
      refine v_st (st2 := [.int (sv (txt S.1 S.2) (p + 1))]) rfl ?_
      have hbhz38 := txt_126 hS (p + 1)
      by_cases hz38 : (txt S.1 S.2) (p + 1) = 0
      · refine v_st (st2 := [.int ((-1))]) (by rw [show sv (txt S.1 S.2) (p + 1) = -1 from if_pos hz38]; try rfl) ?_
        refine v_bipush (v := nI 48) dX7_digits_20 (by decide) ?_
        refine v_bipush (v := nI 57) dX7_digits_22 (by decide) ?_
        refine v_callS (st := []) dX7_digits_24 (t_X7_isIn (x := (-1)) (a := nI 48) (z := nI 57)) wX7_52 rfl ⟨Nat.le_of_ble_eq_true rfl, Nat.le_of_ble_eq_true rfl⟩ (Nat.le_of_ble_eq_true rfl) ⟨Nat.le_of_ble_eq_true rfl, Nat.le_of_ble_eq_true rfl⟩ (fun r n2 h2 hq => ?_)
        obtain ⟨rfl, hn9, hh9⟩ := hq; replace hn9 := hn9.symm; subst hn9; replace hh9 := hh9.symm; subst hh9
        refine v_st (st2 := [.int (nI (bI (¬ (-1) < nI 48 ∧ ¬ nI 57 < (-1))))]) rfl ?_
        refine n_ifb_eq (tgt := 59) (p := ¬ (-1) < nI 48 ∧ ¬ nI 57 < (-1)) dX7_digits_27 (by decide) (fun c39 => ?_) (fun c39 => ?_)
        · have md40 : ¬ isd ((txt S.1 S.2) (p + 1)) := fun z => by rw [hz38] at z; exact absurd z.1 (by decide)
          refine v_aload_n dX7_digits_59 rfl ?_
          refine v_dup dX7_digits_60 rfl ?_
          refine fX7_185 (v := .int (nI 0)) rfl dX7_digits_61 fa35 rfl ?_
          refine v_iload_n dX7_digits_64 rfl ?_
          refine n_if_ne (tgt := 72) (x := 1) dX7_digits_65 (by decide) (by decide) (fun _ => ?_) (fun c => absurd c (by decide))
          refine v_iconst (v := nI 0) dX7_digits_72 (by decide) ?_
          refine v_ior dX7_digits_73 ?_
          refine v_st (st2 := [.int (nI 0), .ref m]) (by first | rfl | decide) ?_
          refine pX7_185 rfl dX7_digits_74 fa35 (Nat.le_of_ble_eq_true rfl) (by decide) (by decide) ?_
          refine nw (fun h1 f1 s1 => ?_)
          have fa41 : h1 (m) = some (.inr (8, [.int fl, .int (nI ch), .int wy, .int dt, .int (nI sw), .ref (m + 1), .ref (m + 2), .ref (m + 3), .ref (m + 4), .ref (m + 5), .ref (m + 6), .ref (m + 7), .int (nI tn), .int (nI (p + 1)), .int (nI S.2), .int (nI ln), .int (nI 0), .int (nI dg)])) := f1
          have sa41 := s1
          clear f1 s1
          have fa42 := (sa41 (m + 6) (by omega)).trans fa36
          have fr43 := offn_in (k := 1) (q := m) fr37 sa41 (by omega)
          refine v_iload_n dX7_digits_77 rfl ?_
          refine v_iret dX7_digits_78 rfl ?_ (Nat.le_of_ble_eq_true rfl) (Nat.le_of_ble_eq_true rfl)
          have e9 : (sN (txt S.1 S.2) 2 (true, p)) = (true, p + 1) := by rw [sN_t]; rw [show dc (txt S.1 S.2) 2 p = 1 from by rw [dc, if_pos dd33, dc, if_neg md40]]; rfl
          exact ⟨congrArg (fun z => some (Value.int (nI z))) (show ((10 * 0) + (txt S.1 S.2) p) - 48 = dvS (txt S.1 S.2) 2 (true, p) by rw [show dvS (txt S.1 S.2) 2 (true, p) = dv (txt S.1 S.2) 0 2 p from rfl, show dv (txt S.1 S.2) 0 2 p = (txt S.1 S.2) p - 48 from by rw [dv, if_pos dd33, if_neg (fun z => md40 z.1)]; omega]; try omega), rfl, by rw [e9, bI_f Bool.noConfusion]; exact fa41, fr43⟩
        · exact absurd (show (-1 : Int32) < nI 48 by decide) c39.1
      · have hlhz38 := txt_le hz38
        refine v_st (st2 := [.int (nI ((txt S.1 S.2) (p + 1)))]) (by rw [show sv (txt S.1 S.2) (p + 1) = nI ((txt S.1 S.2) (p + 1)) from if_neg hz38]; try rfl) ?_
        refine v_bipush (v := nI 48) dX7_digits_20 (by decide) ?_
        refine v_bipush (v := nI 57) dX7_digits_22 (by decide) ?_
        refine v_callS (st := []) dX7_digits_24 (t_X7_isIn (x := nI ((txt S.1 S.2) (p + 1))) (a := nI 48) (z := nI 57)) wX7_52 rfl ⟨Nat.le_of_ble_eq_true rfl, Nat.le_of_ble_eq_true rfl⟩ (Nat.le_of_ble_eq_true rfl) ⟨Nat.le_of_ble_eq_true rfl, Nat.le_of_ble_eq_true rfl⟩ (fun r n2 h2 hq => ?_)
        obtain ⟨rfl, hn9, hh9⟩ := hq; replace hn9 := hn9.symm; subst hn9; replace hh9 := hh9.symm; subst hh9
        refine v_st (st2 := [.int (nI (bI (¬ nI ((txt S.1 S.2) (p + 1)) < nI 48 ∧ ¬ nI 57 < nI ((txt S.1 S.2) (p + 1)))))]) rfl ?_
        refine n_ifb_eq (tgt := 59) (p := ¬ nI ((txt S.1 S.2) (p + 1)) < nI 48 ∧ ¬ nI 57 < nI ((txt S.1 S.2) (p + 1))) dX7_digits_27 (by decide) (fun c45 => ?_) (fun c45 => ?_)
        · have md46 : ¬ isd ((txt S.1 S.2) (p + 1)) := fun z => c45 (by rw [nI_ltI (by omega) (by decide), nI_ltI (by decide) (by omega)]; exact ⟨by omega, by omega⟩)
          refine v_aload_n dX7_digits_59 rfl ?_
          refine v_dup dX7_digits_60 rfl ?_
          refine fX7_185 (v := .int (nI 0)) rfl dX7_digits_61 fa35 rfl ?_
          refine v_iload_n dX7_digits_64 rfl ?_
          refine n_if_ne (tgt := 72) (x := 1) dX7_digits_65 (by decide) (by decide) (fun _ => ?_) (fun c => absurd c (by decide))
          refine v_iconst (v := nI 0) dX7_digits_72 (by decide) ?_
          refine v_ior dX7_digits_73 ?_
          refine v_st (st2 := [.int (nI 0), .ref m]) (by first | rfl | decide) ?_
          refine pX7_185 rfl dX7_digits_74 fa35 (Nat.le_of_ble_eq_true rfl) (by decide) (by decide) ?_
          refine nw (fun h1 f1 s1 => ?_)
          have fa47 : h1 (m) = some (.inr (8, [.int fl, .int (nI ch), .int wy, .int dt, .int (nI sw), .ref (m + 1), .ref (m + 2), .ref (m + 3), .ref (m + 4), .ref (m + 5), .ref (m + 6), .ref (m + 7), .int (nI tn), .int (nI (p + 1)), .int (nI S.2), .int (nI ln), .int (nI 0), .int (nI dg)])) := f1
          have sa47 := s1
          clear f1 s1
          have fa48 := (sa47 (m + 6) (by omega)).trans fa36
          have fr49 := offn_in (k := 1) (q := m) fr37 sa47 (by omega)
          refine v_iload_n dX7_digits_77 rfl ?_
          refine v_iret dX7_digits_78 rfl ?_ (Nat.le_of_ble_eq_true rfl) (Nat.le_of_ble_eq_true rfl)
          have e9 : (sN (txt S.1 S.2) 2 (true, p)) = (true, p + 1) := by rw [sN_t]; rw [show dc (txt S.1 S.2) 2 p = 1 from by rw [dc, if_pos dd33, dc, if_neg md46]]; rfl
          exact ⟨congrArg (fun z => some (Value.int (nI z))) (show ((10 * 0) + (txt S.1 S.2) p) - 48 = dvS (txt S.1 S.2) 2 (true, p) by rw [show dvS (txt S.1 S.2) 2 (true, p) = dv (txt S.1 S.2) 0 2 p from rfl, show dv (txt S.1 S.2) 0 2 p = (txt S.1 S.2) p - 48 from by rw [dv, if_pos dd33, if_neg (fun z => md46 z.1)]; omega]; try omega), rfl, by rw [e9, bI_f Bool.noConfusion]; exact fa47, fr49⟩
        · have dd50 : isd ((txt S.1 S.2) (p + 1)) := by rw [nI_ltI (by omega) (by decide), nI_ltI (by decide) (by omega)] at c45; exact ⟨by omega, by omega⟩
          refine v_bipush (v := nI 10) dX7_digits_30 (by decide) ?_
          refine v_iload_n dX7_digits_32 rfl ?_
          refine n_imul (x := 10) (y := ((10 * 0) + (txt S.1 S.2) p) - 48) dX7_digits_33 ?_
          refine v_aload_n dX7_digits_34 rfl ?_
          refine v_callV (st := [.int (nI (10 * (((10 * 0) + (txt S.1 S.2) p) - 48)))]) dX7_digits_35 (t_X7_sign fa35 fa36 hX hS (by omega)) wX7_189 fa35 rfl rfl ⟨Nat.le_of_ble_eq_true rfl, Nat.le_of_ble_eq_true rfl⟩ (Nat.le_of_ble_eq_true rfl) ⟨Nat.le_of_ble_eq_true rfl, Nat.le_of_ble_eq_true rfl⟩ (fun r n2 h2 hq => ?_)
          obtain ⟨rfl, hn9, hh9⟩ := hq; replace hn9 := hn9.symm; subst hn9; replace hh9 := hh9.symm; subst hh9
          refine v_st (st2 := [.int (nI ((txt S.1 S.2) (p + 1))), .int (nI (10 * (((10 * 0) + (txt S.1 S.2) p) - 48)))]) (by rw [show sv (txt S.1 S.2) (p + 1) = nI ((txt S.1 S.2) (p + 1)) from if_neg hz38]; try rfl) ?_
          refine n_iadd (x := 10 * (((10 * 0) + (txt S.1 S.2) p) - 48)) (y := (txt S.1 S.2) (p + 1)) dX7_digits_38 ?_
          refine v_bipush (v := nI 48) dX7_digits_39 (by decide) ?_
          refine n_isub (x := (10 * (((10 * 0) + (txt S.1 S.2) p) - 48)) + ((txt S.1 S.2) (p + 1))) (y := 48) dX7_digits_41 (by omega) ?_
          refine v_istore_n dX7_digits_42 rfl (by decide) ?_
          refine v_ls (ls2 := [some (.ref m), some (.int (nI 2)), some (.int (nI (((10 * (((10 * 0) + (txt S.1 S.2) p) - 48)) + ((txt S.1 S.2) (p + 1))) - 48))), some (.int (nI 1))]) rfl ?_
          refine v_aload_n dX7_digits_43 rfl ?_
          refine v_dup dX7_digits_44 rfl ?_
          refine fX7_179 (v := .int (nI (p + 1))) rfl dX7_digits_45 fa35 rfl ?_
          refine v_iconst (v := nI 1) dX7_digits_48 (by decide) ?_
          refine n_iadd (x := p + 1) (y := 1) dX7_digits_49 ?_
          refine pX7_179 rfl dX7_digits_50 fa35 (Nat.le_of_ble_eq_true rfl) ?_
          refine nw (fun h1 f1 s1 => ?_)
          have fa52 : h1 (m) = some (.inr (8, [.int fl, .int (nI ch), .int wy, .int dt, .int (nI sw), .ref (m + 1), .ref (m + 2), .ref (m + 3), .ref (m + 4), .ref (m + 5), .ref (m + 6), .ref (m + 7), .int (nI tn), .int (nI ((p + 1) + 1)), .int (nI S.2), .int (nI ln), .int (nI 0), .int (nI dg)])) := f1
          have sa52 := s1
          clear f1 s1
          have fa53 := (sa52 (m + 6) (by omega)).trans fa36
          have fr54 := offn_in (k := 1) (q := m) fr37 sa52 (by omega)
          refine n_iinc (k := 1) (x := 1) dX7_digits_53 (by decide) rfl rfl (by decide) ?_
          refine v_ls (ls2 := [some (.ref m), some (.int (nI 2)), some (.int (nI (((10 * (((10 * 0) + (txt S.1 S.2) p) - 48)) + ((txt S.1 S.2) (p + 1))) - 48))), some (.int (nI 2))]) rfl ?_
          refine v_goto (tgt := 4) dX7_digits_56 (by decide) ?_
          refine v_aload_n dX7_digits_4 rfl ?_
          refine fX7_185 (v := .int (nI 0)) rfl dX7_digits_5 fa52 rfl ?_
          refine n_if_ne (tgt := 59) (x := 0) dX7_digits_8 (by decide) (by decide) (fun c => absurd c (by decide)) (fun _ => ?_)
          refine v_iload_n dX7_digits_11 rfl ?_
          refine v_iload_n dX7_digits_12 rfl ?_
          refine n_icmp_ge (tgt := 59) (x := 2) (y := 2) dX7_digits_13 (by decide) (by decide) (by decide) (fun _ => ?_) (fun c => absurd c (by decide))
          refine v_aload_n dX7_digits_59 rfl ?_
          refine v_dup dX7_digits_60 rfl ?_
          refine fX7_185 (v := .int (nI 0)) rfl dX7_digits_61 fa52 rfl ?_
          refine v_iload_n dX7_digits_64 rfl ?_
          refine n_if_ne (tgt := 72) (x := 2) dX7_digits_65 (by decide) (by decide) (fun _ => ?_) (fun c => absurd c (by decide))
          refine v_iconst (v := nI 0) dX7_digits_72 (by decide) ?_
          refine v_ior dX7_digits_73 ?_
          refine v_st (st2 := [.int (nI 0), .ref m]) (by first | rfl | decide) ?_
          refine pX7_185 rfl dX7_digits_74 fa52 (Nat.le_of_ble_eq_true rfl) (by decide) (by decide) ?_
          refine nw (fun h1 f1 s1 => ?_)
          have fa55 : h1 (m) = some (.inr (8, [.int fl, .int (nI ch), .int wy, .int dt, .int (nI sw), .ref (m + 1), .ref (m + 2), .ref (m + 3), .ref (m + 4), .ref (m + 5), .ref (m + 6), .ref (m + 7), .int (nI tn), .int (nI ((p + 1) + 1)), .int (nI S.2), .int (nI ln), .int (nI 0), .int (nI dg)])) := f1
          have sa55 := s1
          clear f1 s1
          have fa56 := (sa55 (m + 6) (by omega)).trans fa53
          have fr57 := offn_in (k := 1) (q := m) fr54 sa55 (by omega)
          refine v_iload_n dX7_digits_77 rfl ?_
          refine v_iret dX7_digits_78 rfl ?_ (Nat.le_of_ble_eq_true rfl) (Nat.le_of_ble_eq_true rfl)
          have e9 : (sN (txt S.1 S.2) 2 (true, p)) = (true, (p + 1) + 1) := by rw [sN_t]; rw [show dc (txt S.1 S.2) 2 p = 2 from by rw [dc, if_pos dd33, dc, if_pos dd50]; rfl]; rfl
          exact ⟨congrArg (fun z => some (Value.int (nI z))) (show ((10 * (((10 * 0) + (txt S.1 S.2) p) - 48)) + ((txt S.1 S.2) (p + 1))) - 48 = dvS (txt S.1 S.2) 2 (true, p) by rw [show dvS (txt S.1 S.2) 2 (true, p) = dv (txt S.1 S.2) 0 2 p from rfl, show dv (txt S.1 S.2) 0 2 p = 10 * ((txt S.1 S.2) p - 48) + ((txt S.1 S.2) (p + 1) - 48) from by rw [dv, if_pos dd33, if_pos ⟨dd50, by decide⟩, dv, if_pos dd50, if_neg (by omega)]; omega]; try omega), rfl, by rw [e9, bI_f Bool.noConfusion]; exact fa55, fr57⟩
set_option maxRecDepth 20000 in
set_option maxHeartbeats 4000000 in
theorem t_X7_digits2_false {l : Launch} {G : vG} {h : AH} {n : Nat} {m ch sw tn ln dg : Nat} {fl wy dt : Int32} {S : Ln} {X : Nat → Nat} {p : Nat} (ho : h m = some (mo m ch sw tn p S.2 ln 1 dg fl wy dt)) (htx : h (m + 6) = some (ar G 60 X)) (hX : lrel X S) (hS : tsg S) (hp : p ≤ S.2) : Mt l G mX7_digits [.ref m, .int (nI 2)] (n) h 0 0 (fun r n2 h2 => r = some (.int (nI (dvS (txt S.1 S.2) 2 (false, p)))) ∧ n2 = n ∧ h2 m = some (mo m ch sw tn ((sN (txt S.1 S.2) 2 (false, p)).2) S.2 ln (bI ((sN (txt S.1 S.2) 2 (false, p)).1 = false)) dg fl wy dt) ∧ offn 1 m h h2) := by
  refine Mt.of (by decide) (Nat.le_of_ble_eq_true rfl) rfl ?_
  refine v_ls (ls2 := [some (.ref m), some (.int (nI 2)), none, none]) rfl ?_
  have hS60 := hS.1
  refine v_iconst (v := nI 0) dX7_digits_0 (by decide) ?_
  refine v_istore_n dX7_digits_1 rfl (by decide) ?_
  refine v_ls (ls2 := [some (.ref m), some (.int (nI 2)), some (.int (nI 0)), none]) rfl ?_
  refine v_iconst (v := nI 0) dX7_digits_2 (by decide) ?_
  refine v_istore_n dX7_digits_3 rfl (by decide) ?_
  refine v_ls (ls2 := [some (.ref m), some (.int (nI 2)), some (.int (nI 0)), some (.int (nI 0))]) rfl ?_
  refine v_aload_n dX7_digits_4 rfl ?_
  refine fX7_185 (v := .int (nI 1)) rfl dX7_digits_5 ho rfl ?_
  refine n_if_ne (tgt := 59) (x := 1) dX7_digits_8 (by decide) (by decide) (fun _ => ?_) (fun c => absurd c (by decide))
  refine v_aload_n dX7_digits_59 rfl ?_
  refine v_dup dX7_digits_60 rfl ?_
  refine fX7_185 (v := .int (nI 1)) rfl dX7_digits_61 ho rfl ?_
  refine v_iload_n dX7_digits_64 rfl ?_
  refine n_if_ne (tgt := 72) (x := 0) dX7_digits_65 (by decide) (by decide) (fun c => absurd c (by decide)) (fun _ => ?_)
  refine v_iconst (v := nI 1) dX7_digits_68 (by decide) ?_
  refine v_goto (tgt := 73) dX7_digits_69 (by decide) ?_
  refine v_ior dX7_digits_73 ?_
  refine v_st (st2 := [.int (nI 1), .ref m]) (by first | rfl | decide) ?_
  refine pX7_185 rfl dX7_digits_74 ho (Nat.le_of_ble_eq_true rfl) (by decide) (by decide) ?_
  refine nw (fun h1 f1 s1 => ?_)
  have fa21 : h1 (m) = some (.inr (8, [.int fl, .int (nI ch), .int wy, .int dt, .int (nI sw), .ref (m + 1), .ref (m + 2), .ref (m + 3), .ref (m + 4), .ref (m + 5), .ref (m + 6), .ref (m + 7), .int (nI tn), .int (nI p), .int (nI S.2), .int (nI ln), .int (nI 1), .int (nI dg)])) := f1
  have sa21 := s1
  clear f1 s1
  have fa22 := (sa21 (m + 6) (by omega)).trans htx
  have fr23 := offn_in (k := 1) (q := m) offn_rf sa21 (by omega)
  refine v_iload_n dX7_digits_77 rfl ?_
  refine v_iret dX7_digits_78 rfl ?_ (Nat.le_of_ble_eq_true rfl) (Nat.le_of_ble_eq_true rfl)
  have e9 : (sN (txt S.1 S.2) 2 (false, p)) = (false, p) := by rfl
  exact ⟨rfl, rfl, by rw [e9, bI_t rfl]; exact fa21, fr23⟩
theorem t_X7_digits2 {l : Launch} {G : vG} {h : AH} {n : Nat} {m ch sw tn ln dg : Nat} {fl wy dt : Int32} {S : Ln} {X : Nat → Nat} {s : Bool × Nat} (ho : h m = some (mo m ch sw tn s.2 S.2 ln (bI (s.1 = false)) dg fl wy dt)) (htx : h (m + 6) = some (ar G 60 X)) (hX : lrel X S) (hS : tsg S) (hp : s.2 ≤ S.2) : Mt l G mX7_digits [.ref m, .int (nI 2)] n h 0 0 (fun r n2 h2 => r = some (.int (nI (dvS (txt S.1 S.2) 2 s))) ∧ n2 = n ∧ h2 m = some (mo m ch sw tn ((sN (txt S.1 S.2) 2 s).2) S.2 ln (bI ((sN (txt S.1 S.2) 2 s).1 = false)) dg fl wy dt) ∧ offn 1 m h h2) := by
  obtain ⟨b, p⟩ := s
  cases b
  · exact t_X7_digits2_false ho htx hX hS hp
  · exact t_X7_digits2_true ho htx hX hS hp
set_option maxRecDepth 20000 in
set_option maxHeartbeats 4000000 in
theorem t_X7_behind58 {l : Launch} {G : vG} {h : AH} {n : Nat} {m ch sw tn ln dg : Nat} {fl wy dt : Int32} {S : Ln} {X : Nat → Nat} {s : Bool × Nat} (ho : h m = some (mo m ch sw tn s.2 S.2 ln (bI (s.1 = false)) dg fl wy dt)) (htx : h (m + 6) = some (ar G 60 X)) (hX : lrel X S) (hS : tsg S) (hp : s.2 ≤ S.2) : Mt l G mX7_behind [.ref m, .int (nI 58), .int (nI 2)] (n) h 0 0 (fun r n2 h2 => r = some (.int (nI (bhV (txt S.1 S.2) 58 2 s))) ∧ n2 = n ∧ h2 m = some (mo m ch sw tn ((sN (txt S.1 S.2) 2 (sS (txt S.1 S.2) 58 s)).2) S.2 ln (bI ((sN (txt S.1 S.2) 2 (sS (txt S.1 S.2) 58 s)).1 = false)) dg fl wy dt) ∧ offn 1 m h h2) := by
  refine Mt.of (by decide) (Nat.le_of_ble_eq_true rfl) rfl ?_
  refine v_ls (ls2 := [some (.ref m), some (.int (nI 58)), some (.int (nI 2))]) rfl ?_
  have hS60 := hS.1
  refine v_aload_n dX7_behind_0 rfl ?_
  refine v_iload_n dX7_behind_1 rfl ?_
  refine v_callV (st := []) dX7_behind_2 (t_X7_mark (s := s) (c := 58) ho htx hX hS (by omega) (by decide) (by decide)) wX7_192 ho rfl rfl ⟨Nat.le_of_ble_eq_true rfl, Nat.le_of_ble_eq_true rfl⟩ (Nat.le_of_ble_eq_true rfl) ⟨Nat.le_of_ble_eq_true rfl, Nat.le_of_ble_eq_true rfl⟩ (fun r n2 h2 hq => ?_)
  obtain ⟨rfl, hn9, fo21, sa21⟩ := hq; replace hn9 := hn9.symm; subst hn9
  refine v_st (st2 := []) rfl ?_
  obtain ⟨s21, hs21⟩ : ∃ z : Bool × Nat, z = sS (txt S.1 S.2) 58 s := ⟨_, rfl⟩
  rw [← hs21] at fo21
  have hle21 : s21.2 ≤ S.2 := by rw [hs21]; exact sS_le (by decide) (by omega)
  have fa22 := (sa21 (m + 6) (by omega)).trans htx
  have fr23 := offn_in (k := 1) (q := m) offn_rf sa21 (by omega)
  refine v_aload_n dX7_behind_5 rfl ?_
  refine fX7_185 (v := .int (nI (bI (s21.1 = false)))) rfl dX7_behind_6 fo21 rfl ?_
  refine n_ifb_eq (tgt := 16) (p := s21.1 = false) dX7_behind_9 (by decide) (fun c24 => ?_) (fun c24 => ?_)
  · refine v_aload_n dX7_behind_16 rfl ?_
    refine v_iload_n dX7_behind_17 rfl ?_
    refine v_callV (st := []) dX7_behind_18 (t_X7_digits2 (s := s21) fo21 fa22 hX hS (by omega)) wX7_195 fo21 rfl rfl ⟨Nat.le_of_ble_eq_true rfl, Nat.le_of_ble_eq_true rfl⟩ (Nat.le_of_ble_eq_true rfl) ⟨Nat.le_of_ble_eq_true rfl, Nat.le_of_ble_eq_true rfl⟩ (fun r n2 h2 hq => ?_)
    obtain ⟨rfl, hn9, fo25, sa25⟩ := hq; replace hn9 := hn9.symm; subst hn9
    refine v_st (st2 := [.int (nI (dvS (txt S.1 S.2) 2 s21))]) rfl ?_
    obtain ⟨s25, hs25⟩ : ∃ z : Bool × Nat, z = sN (txt S.1 S.2) 2 s21 := ⟨_, rfl⟩
    rw [← hs25] at fo25
    have hle25 : s25.2 ≤ S.2 := by rw [hs25]; exact sN_le (by omega)
    have fa26 := (sa25 (m + 6) (by omega)).trans fa22
    have fr27 := offn_in (k := 1) (q := m) fr23 sa25 (by omega)
    refine v_iret dX7_behind_21 rfl ?_ (Nat.le_of_ble_eq_true rfl) (Nat.le_of_ble_eq_true rfl)
    subst hs25
    subst hs21
    exact ⟨rfl, rfl, fo25, fr27⟩
  · refine v_iconst (v := nI 0) dX7_behind_12 (by decide) ?_
    refine v_goto (tgt := 21) dX7_behind_13 (by decide) ?_
    refine v_iret dX7_behind_21 rfl ?_ (Nat.le_of_ble_eq_true rfl) (Nat.le_of_ble_eq_true rfl)
    have e8 : sN (txt S.1 S.2) 2 (sS (txt S.1 S.2) 58 s) = sS (txt S.1 S.2) 58 s := by unfold sN; rw [← hs21, if_neg (by rw [c24]; exact Bool.false_ne_true)]
    have e7 : bhV (txt S.1 S.2) 58 2 s = 0 := by unfold bhV dvS; rw [← hs21, if_neg (by rw [c24]; exact Bool.false_ne_true)]
    exact ⟨by rw [e7], rfl, by rw [e8, ← hs21]; exact fo21, fr23⟩
set_option maxRecDepth 20000 in
set_option maxHeartbeats 4000000 in
theorem t_X7_behind42 {l : Launch} {G : vG} {h : AH} {n : Nat} {m ch sw tn ln dg : Nat} {fl wy dt : Int32} {S : Ln} {X : Nat → Nat} {s : Bool × Nat} (ho : h m = some (mo m ch sw tn s.2 S.2 ln (bI (s.1 = false)) dg fl wy dt)) (htx : h (m + 6) = some (ar G 60 X)) (hX : lrel X S) (hS : tsg S) (hp : s.2 ≤ S.2) : Mt l G mX7_behind [.ref m, .int (nI 42), .int (nI 2)] (n) h 0 0 (fun r n2 h2 => r = some (.int (nI (bhV (txt S.1 S.2) 42 2 s))) ∧ n2 = n ∧ h2 m = some (mo m ch sw tn ((sN (txt S.1 S.2) 2 (sS (txt S.1 S.2) 42 s)).2) S.2 ln (bI ((sN (txt S.1 S.2) 2 (sS (txt S.1 S.2) 42 s)).1 = false)) dg fl wy dt) ∧ offn 1 m h h2) := by
  refine Mt.of (by decide) (Nat.le_of_ble_eq_true rfl) rfl ?_
  refine v_ls (ls2 := [some (.ref m), some (.int (nI 42)), some (.int (nI 2))]) rfl ?_
  have hS60 := hS.1
  refine v_aload_n dX7_behind_0 rfl ?_
  refine v_iload_n dX7_behind_1 rfl ?_
  refine v_callV (st := []) dX7_behind_2 (t_X7_mark (s := s) (c := 42) ho htx hX hS (by omega) (by decide) (by decide)) wX7_192 ho rfl rfl ⟨Nat.le_of_ble_eq_true rfl, Nat.le_of_ble_eq_true rfl⟩ (Nat.le_of_ble_eq_true rfl) ⟨Nat.le_of_ble_eq_true rfl, Nat.le_of_ble_eq_true rfl⟩ (fun r n2 h2 hq => ?_)
  obtain ⟨rfl, hn9, fo21, sa21⟩ := hq; replace hn9 := hn9.symm; subst hn9
  refine v_st (st2 := []) rfl ?_
  obtain ⟨s21, hs21⟩ : ∃ z : Bool × Nat, z = sS (txt S.1 S.2) 42 s := ⟨_, rfl⟩
  rw [← hs21] at fo21
  have hle21 : s21.2 ≤ S.2 := by rw [hs21]; exact sS_le (by decide) (by omega)
  have fa22 := (sa21 (m + 6) (by omega)).trans htx
  have fr23 := offn_in (k := 1) (q := m) offn_rf sa21 (by omega)
  refine v_aload_n dX7_behind_5 rfl ?_
  refine fX7_185 (v := .int (nI (bI (s21.1 = false)))) rfl dX7_behind_6 fo21 rfl ?_
  refine n_ifb_eq (tgt := 16) (p := s21.1 = false) dX7_behind_9 (by decide) (fun c24 => ?_) (fun c24 => ?_)
  · refine v_aload_n dX7_behind_16 rfl ?_
    refine v_iload_n dX7_behind_17 rfl ?_
    refine v_callV (st := []) dX7_behind_18 (t_X7_digits2 (s := s21) fo21 fa22 hX hS (by omega)) wX7_195 fo21 rfl rfl ⟨Nat.le_of_ble_eq_true rfl, Nat.le_of_ble_eq_true rfl⟩ (Nat.le_of_ble_eq_true rfl) ⟨Nat.le_of_ble_eq_true rfl, Nat.le_of_ble_eq_true rfl⟩ (fun r n2 h2 hq => ?_)
    obtain ⟨rfl, hn9, fo25, sa25⟩ := hq; replace hn9 := hn9.symm; subst hn9
    refine v_st (st2 := [.int (nI (dvS (txt S.1 S.2) 2 s21))]) rfl ?_
    obtain ⟨s25, hs25⟩ : ∃ z : Bool × Nat, z = sN (txt S.1 S.2) 2 s21 := ⟨_, rfl⟩
    rw [← hs25] at fo25
    have hle25 : s25.2 ≤ S.2 := by rw [hs25]; exact sN_le (by omega)
    have fa26 := (sa25 (m + 6) (by omega)).trans fa22
    have fr27 := offn_in (k := 1) (q := m) fr23 sa25 (by omega)
    refine v_iret dX7_behind_21 rfl ?_ (Nat.le_of_ble_eq_true rfl) (Nat.le_of_ble_eq_true rfl)
    subst hs25
    subst hs21
    exact ⟨rfl, rfl, fo25, fr27⟩
  · refine v_iconst (v := nI 0) dX7_behind_12 (by decide) ?_
    refine v_goto (tgt := 21) dX7_behind_13 (by decide) ?_
    refine v_iret dX7_behind_21 rfl ?_ (Nat.le_of_ble_eq_true rfl) (Nat.le_of_ble_eq_true rfl)
    have e8 : sN (txt S.1 S.2) 2 (sS (txt S.1 S.2) 42 s) = sS (txt S.1 S.2) 42 s := by unfold sN; rw [← hs21, if_neg (by rw [c24]; exact Bool.false_ne_true)]
    have e7 : bhV (txt S.1 S.2) 42 2 s = 0 := by unfold bhV dvS; rw [← hs21, if_neg (by rw [c24]; exact Bool.false_ne_true)]
    exact ⟨by rw [e7], rfl, by rw [e8, ← hs21]; exact fo21, fr23⟩
set_option maxRecDepth 20000 in
set_option maxHeartbeats 4000000 in
theorem t_X7_behind64 {l : Launch} {G : vG} {h : AH} {n : Nat} {m ch sw tn ln dg : Nat} {fl wy dt : Int32} {S : Ln} {X : Nat → Nat} {s : Bool × Nat} (ho : h m = some (mo m ch sw tn s.2 S.2 ln (bI (s.1 = false)) dg fl wy dt)) (htx : h (m + 6) = some (ar G 60 X)) (hX : lrel X S) (hS : tsg S) (hp : s.2 ≤ S.2) : Mt l G mX7_behind [.ref m, .int (nI 64), .int (nI 1)] (n) h 0 0 (fun r n2 h2 => r = some (.int (nI (bhV (txt S.1 S.2) 64 1 s))) ∧ n2 = n ∧ h2 m = some (mo m ch sw tn ((sN (txt S.1 S.2) 1 (sS (txt S.1 S.2) 64 s)).2) S.2 ln (bI ((sN (txt S.1 S.2) 1 (sS (txt S.1 S.2) 64 s)).1 = false)) dg fl wy dt) ∧ offn 1 m h h2) := by
  refine Mt.of (by decide) (Nat.le_of_ble_eq_true rfl) rfl ?_
  refine v_ls (ls2 := [some (.ref m), some (.int (nI 64)), some (.int (nI 1))]) rfl ?_
  have hS60 := hS.1
  refine v_aload_n dX7_behind_0 rfl ?_
  refine v_iload_n dX7_behind_1 rfl ?_
  refine v_callV (st := []) dX7_behind_2 (t_X7_mark (s := s) (c := 64) ho htx hX hS (by omega) (by decide) (by decide)) wX7_192 ho rfl rfl ⟨Nat.le_of_ble_eq_true rfl, Nat.le_of_ble_eq_true rfl⟩ (Nat.le_of_ble_eq_true rfl) ⟨Nat.le_of_ble_eq_true rfl, Nat.le_of_ble_eq_true rfl⟩ (fun r n2 h2 hq => ?_)
  obtain ⟨rfl, hn9, fo21, sa21⟩ := hq; replace hn9 := hn9.symm; subst hn9
  refine v_st (st2 := []) rfl ?_
  obtain ⟨s21, hs21⟩ : ∃ z : Bool × Nat, z = sS (txt S.1 S.2) 64 s := ⟨_, rfl⟩
  rw [← hs21] at fo21
  have hle21 : s21.2 ≤ S.2 := by rw [hs21]; exact sS_le (by decide) (by omega)
  have fa22 := (sa21 (m + 6) (by omega)).trans htx
  have fr23 := offn_in (k := 1) (q := m) offn_rf sa21 (by omega)
  refine v_aload_n dX7_behind_5 rfl ?_
  refine fX7_185 (v := .int (nI (bI (s21.1 = false)))) rfl dX7_behind_6 fo21 rfl ?_
  refine n_ifb_eq (tgt := 16) (p := s21.1 = false) dX7_behind_9 (by decide) (fun c24 => ?_) (fun c24 => ?_)
  · refine v_aload_n dX7_behind_16 rfl ?_
    refine v_iload_n dX7_behind_17 rfl ?_
    refine v_callV (st := []) dX7_behind_18 (t_X7_digits1 (s := s21) fo21 fa22 hX hS (by omega)) wX7_195 fo21 rfl rfl ⟨Nat.le_of_ble_eq_true rfl, Nat.le_of_ble_eq_true rfl⟩ (Nat.le_of_ble_eq_true rfl) ⟨Nat.le_of_ble_eq_true rfl, Nat.le_of_ble_eq_true rfl⟩ (fun r n2 h2 hq => ?_)
    obtain ⟨rfl, hn9, fo25, sa25⟩ := hq; replace hn9 := hn9.symm; subst hn9
    refine v_st (st2 := [.int (nI (dvS (txt S.1 S.2) 1 s21))]) rfl ?_
    obtain ⟨s25, hs25⟩ : ∃ z : Bool × Nat, z = sN (txt S.1 S.2) 1 s21 := ⟨_, rfl⟩
    rw [← hs25] at fo25
    have hle25 : s25.2 ≤ S.2 := by rw [hs25]; exact sN_le (by omega)
    have fa26 := (sa25 (m + 6) (by omega)).trans fa22
    have fr27 := offn_in (k := 1) (q := m) fr23 sa25 (by omega)
    refine v_iret dX7_behind_21 rfl ?_ (Nat.le_of_ble_eq_true rfl) (Nat.le_of_ble_eq_true rfl)
    subst hs25
    subst hs21
    exact ⟨rfl, rfl, fo25, fr27⟩
  · refine v_iconst (v := nI 0) dX7_behind_12 (by decide) ?_
    refine v_goto (tgt := 21) dX7_behind_13 (by decide) ?_
    refine v_iret dX7_behind_21 rfl ?_ (Nat.le_of_ble_eq_true rfl) (Nat.le_of_ble_eq_true rfl)
    have e8 : sN (txt S.1 S.2) 1 (sS (txt S.1 S.2) 64 s) = sS (txt S.1 S.2) 64 s := by unfold sN; rw [← hs21, if_neg (by rw [c24]; exact Bool.false_ne_true)]
    have e7 : bhV (txt S.1 S.2) 64 1 s = 0 := by unfold bhV dvS; rw [← hs21, if_neg (by rw [c24]; exact Bool.false_ne_true)]
    exact ⟨by rw [e7], rfl, by rw [e8, ← hs21]; exact fo21, fr23⟩
set_option maxRecDepth 20000 in
set_option maxHeartbeats 4000000 in
theorem t_X7_behind61 {l : Launch} {G : vG} {h : AH} {n : Nat} {m ch sw tn ln dg : Nat} {fl wy dt : Int32} {S : Ln} {X : Nat → Nat} {s : Bool × Nat} (ho : h m = some (mo m ch sw tn s.2 S.2 ln (bI (s.1 = false)) dg fl wy dt)) (htx : h (m + 6) = some (ar G 60 X)) (hX : lrel X S) (hS : tsg S) (hp : s.2 ≤ S.2) : Mt l G mX7_behind [.ref m, .int (nI 61), .int (nI 2)] (n) h 0 0 (fun r n2 h2 => r = some (.int (nI (bhV (txt S.1 S.2) 61 2 s))) ∧ n2 = n ∧ h2 m = some (mo m ch sw tn ((sN (txt S.1 S.2) 2 (sS (txt S.1 S.2) 61 s)).2) S.2 ln (bI ((sN (txt S.1 S.2) 2 (sS (txt S.1 S.2) 61 s)).1 = false)) dg fl wy dt) ∧ offn 1 m h h2) := by
  refine Mt.of (by decide) (Nat.le_of_ble_eq_true rfl) rfl ?_
  refine v_ls (ls2 := [some (.ref m), some (.int (nI 61)), some (.int (nI 2))]) rfl ?_
  have hS60 := hS.1
  refine v_aload_n dX7_behind_0 rfl ?_
  refine v_iload_n dX7_behind_1 rfl ?_
  refine v_callV (st := []) dX7_behind_2 (t_X7_mark (s := s) (c := 61) ho htx hX hS (by omega) (by decide) (by decide)) wX7_192 ho rfl rfl ⟨Nat.le_of_ble_eq_true rfl, Nat.le_of_ble_eq_true rfl⟩ (Nat.le_of_ble_eq_true rfl) ⟨Nat.le_of_ble_eq_true rfl, Nat.le_of_ble_eq_true rfl⟩ (fun r n2 h2 hq => ?_)
  obtain ⟨rfl, hn9, fo21, sa21⟩ := hq; replace hn9 := hn9.symm; subst hn9
  refine v_st (st2 := []) rfl ?_
  obtain ⟨s21, hs21⟩ : ∃ z : Bool × Nat, z = sS (txt S.1 S.2) 61 s := ⟨_, rfl⟩
  rw [← hs21] at fo21
  have hle21 : s21.2 ≤ S.2 := by rw [hs21]; exact sS_le (by decide) (by omega)
  have fa22 := (sa21 (m + 6) (by omega)).trans htx
  have fr23 := offn_in (k := 1) (q := m) offn_rf sa21 (by omega)
  refine v_aload_n dX7_behind_5 rfl ?_
  refine fX7_185 (v := .int (nI (bI (s21.1 = false)))) rfl dX7_behind_6 fo21 rfl ?_
  refine n_ifb_eq (tgt := 16) (p := s21.1 = false) dX7_behind_9 (by decide) (fun c24 => ?_) (fun c24 => ?_)
  · refine v_aload_n dX7_behind_16 rfl ?_
    refine v_iload_n dX7_behind_17 rfl ?_
    refine v_callV (st := []) dX7_behind_18 (t_X7_digits2 (s := s21) fo21 fa22 hX hS (by omega)) wX7_195 fo21 rfl rfl ⟨Nat.le_of_ble_eq_true rfl, Nat.le_of_ble_eq_true rfl⟩ (Nat.le_of_ble_eq_true rfl) ⟨Nat.le_of_ble_eq_true rfl, Nat.le_of_ble_eq_true rfl⟩ (fun r n2 h2 hq => ?_)
    obtain ⟨rfl, hn9, fo25, sa25⟩ := hq; replace hn9 := hn9.symm; subst hn9
    refine v_st (st2 := [.int (nI (dvS (txt S.1 S.2) 2 s21))]) rfl ?_
    obtain ⟨s25, hs25⟩ : ∃ z : Bool × Nat, z = sN (txt S.1 S.2) 2 s21 := ⟨_, rfl⟩
    rw [← hs25] at fo25
    have hle25 : s25.2 ≤ S.2 := by rw [hs25]; exact sN_le (by omega)
    have fa26 := (sa25 (m + 6) (by omega)).trans fa22
    have fr27 := offn_in (k := 1) (q := m) fr23 sa25 (by omega)
    refine v_iret dX7_behind_21 rfl ?_ (Nat.le_of_ble_eq_true rfl) (Nat.le_of_ble_eq_true rfl)
    subst hs25
    subst hs21
    exact ⟨rfl, rfl, fo25, fr27⟩
  · refine v_iconst (v := nI 0) dX7_behind_12 (by decide) ?_
    refine v_goto (tgt := 21) dX7_behind_13 (by decide) ?_
    refine v_iret dX7_behind_21 rfl ?_ (Nat.le_of_ble_eq_true rfl) (Nat.le_of_ble_eq_true rfl)
    have e8 : sN (txt S.1 S.2) 2 (sS (txt S.1 S.2) 61 s) = sS (txt S.1 S.2) 61 s := by unfold sN; rw [← hs21, if_neg (by rw [c24]; exact Bool.false_ne_true)]
    have e7 : bhV (txt S.1 S.2) 61 2 s = 0 := by unfold bhV dvS; rw [← hs21, if_neg (by rw [c24]; exact Bool.false_ne_true)]
    exact ⟨by rw [e7], rfl, by rw [e8, ← hs21]; exact fo21, fr23⟩
set_option maxRecDepth 20000 in
set_option maxHeartbeats 4000000 in
theorem t_X7_plus {l : Launch} {G : vG} {h : AH} {n : Nat} {m ch sw tn ln dg : Nat} {fl wy dt : Int32} {S : Ln} {X : Nat → Nat} {s : Bool × Nat} (ho : h m = some (mo m ch sw tn s.2 S.2 ln (bI (s.1 = false)) dg fl wy dt)) (htx : h (m + 6) = some (ar G 60 X)) (hX : lrel X S) (hS : tsg S) (hp : s.2 ≤ S.2) : Mt l G mX7_plus [.ref m] (n) h 0 0 (fun r n2 h2 => r = some (.int (nI (bI ((txt S.1 S.2) s.2 = 43)))) ∧ n2 = n ∧ h2 m = some (mo m ch sw tn ((sPM (txt S.1 S.2) s).2) S.2 ln (bI ((sPM (txt S.1 S.2) s).1 = false)) dg fl wy dt) ∧ offn 1 m h h2) := by
  refine Mt.of (by decide) (Nat.le_of_ble_eq_true rfl) rfl ?_
  refine v_ls (ls2 := [some (.ref m), none]) rfl ?_
  have hS60 := hS.1
  refine v_aload_n dX7_plus_0 rfl ?_
  refine v_callV (st := []) dX7_plus_1 (t_X7_sign ho htx hX hS (by omega)) wX7_189 ho rfl rfl ⟨Nat.le_of_ble_eq_true rfl, Nat.le_of_ble_eq_true rfl⟩ (Nat.le_of_ble_eq_true rfl) ⟨Nat.le_of_ble_eq_true rfl, Nat.le_of_ble_eq_true rfl⟩ (fun r n2 h2 hq => ?_)
  obtain ⟨rfl, hn9, hh9⟩ := hq; replace hn9 := hn9.symm; subst hn9; replace hh9 := hh9.symm; subst hh9
  refine v_st (st2 := [.int (sv (txt S.1 S.2) s.2)]) rfl ?_
  have hbhz21 := txt_126 hS s.2
  by_cases hz21 : (txt S.1 S.2) s.2 = 0
  · refine v_st (st2 := [.int ((-1))]) (by rw [show sv (txt S.1 S.2) s.2 = -1 from if_pos hz21]; try rfl) ?_
    refine v_bipush (v := nI 43) dX7_plus_4 (by decide) ?_
    refine v_icmp_ne (tgt := 13) dX7_plus_6 (by decide) (fun _ => ?_) (fun z => absurd z.symm (nI_ng (by omega) (by decide)))
    have h22 : ¬ (txt S.1 S.2) s.2 = 43 := by omega
    refine v_iconst (v := nI 0) dX7_plus_13 (by decide) ?_
    refine v_istore_n dX7_plus_14 rfl (by decide) ?_
    refine v_ls (ls2 := [some (.ref m), some (.int (nI 0))]) rfl ?_
    refine v_aload_n dX7_plus_15 rfl ?_
    refine v_iload_n dX7_plus_16 rfl ?_
    refine n_if_eq (tgt := 25) (x := 0) dX7_plus_17 (by decide) (by decide) (fun _ => ?_) (fun c => absurd c (by decide))
    refine v_bipush (v := nI 45) dX7_plus_25 (by decide) ?_
    refine v_callV (st := []) dX7_plus_27 (t_X7_mark (s := s) (c := 45) ho htx hX hS (by omega) (by decide) (by decide)) wX7_192 ho rfl rfl ⟨Nat.le_of_ble_eq_true rfl, Nat.le_of_ble_eq_true rfl⟩ (Nat.le_of_ble_eq_true rfl) ⟨Nat.le_of_ble_eq_true rfl, Nat.le_of_ble_eq_true rfl⟩ (fun r n2 h2 hq => ?_)
    obtain ⟨rfl, hn9, fo23, sa23⟩ := hq; replace hn9 := hn9.symm; subst hn9
    refine v_st (st2 := []) rfl ?_
    obtain ⟨s23, hs23⟩ : ∃ z : Bool × Nat, z = sS (txt S.1 S.2) 45 s := ⟨_, rfl⟩
    rw [← hs23] at fo23
    have hle23 : s23.2 ≤ S.2 := by rw [hs23]; exact sS_le (by decide) (by omega)
    have fa24 := (sa23 (m + 6) (by omega)).trans htx
    have fr25 := offn_in (k := 1) (q := m) offn_rf sa23 (by omega)
    refine v_iload_n dX7_plus_30 rfl ?_
    refine n_if_eq (tgt := 38) (x := 0) dX7_plus_31 (by decide) (by decide) (fun _ => ?_) (fun c => absurd c (by decide))
    refine v_iconst (v := nI 0) dX7_plus_38 (by decide) ?_
    refine v_iret dX7_plus_39 rfl ?_ (Nat.le_of_ble_eq_true rfl) (Nat.le_of_ble_eq_true rfl)
    have e6 : bI ((txt S.1 S.2) s.2 = 43) = 0 := bI_f h22
    have e8 : sS (txt S.1 S.2) 45 s = sPM (txt S.1 S.2) s := by
      obtain ⟨b, p⟩ := s
      cases b
      · rfl
      · have h9 : ¬ (txt S.1 S.2) p = 43 := h22
        by_cases q : (txt S.1 S.2) p = 45
        · rw [sS_t, sPM_t, show sgP (txt S.1 S.2) 45 p = p + 1 from if_pos q, show pmP (txt S.1 S.2) p = p + 1 from if_pos (Or.inr q), decide_eq_true q, decide_eq_true (Or.inr q)]
        · rw [sS_t, sPM_t, show sgP (txt S.1 S.2) 45 p = p from if_neg q, show pmP (txt S.1 S.2) p = p from if_neg (fun z => z.elim h9 q), decide_eq_false q, decide_eq_false (fun z => z.elim h9 q)]
    rw [hs23] at fo23
    rw [e8] at fo23
    exact ⟨by rw [e6], rfl, fo23, fr25⟩
  · have hlhz21 := txt_le hz21
    refine v_st (st2 := [.int (nI ((txt S.1 S.2) s.2))]) (by rw [show sv (txt S.1 S.2) s.2 = nI ((txt S.1 S.2) s.2) from if_neg hz21]; try rfl) ?_
    refine v_bipush (v := nI 43) dX7_plus_4 (by decide) ?_
    refine n_icmp_ne (tgt := 13) (x := (txt S.1 S.2) s.2) (y := 43) dX7_plus_6 (by decide) (by omega) (by omega) (fun c26 => ?_) (fun c26 => ?_)
    · refine v_iconst (v := nI 0) dX7_plus_13 (by decide) ?_
      refine v_istore_n dX7_plus_14 rfl (by decide) ?_
      refine v_ls (ls2 := [some (.ref m), some (.int (nI 0))]) rfl ?_
      refine v_aload_n dX7_plus_15 rfl ?_
      refine v_iload_n dX7_plus_16 rfl ?_
      refine n_if_eq (tgt := 25) (x := 0) dX7_plus_17 (by decide) (by decide) (fun _ => ?_) (fun c => absurd c (by decide))
      refine v_bipush (v := nI 45) dX7_plus_25 (by decide) ?_
      refine v_callV (st := []) dX7_plus_27 (t_X7_mark (s := s) (c := 45) ho htx hX hS (by omega) (by decide) (by decide)) wX7_192 ho rfl rfl ⟨Nat.le_of_ble_eq_true rfl, Nat.le_of_ble_eq_true rfl⟩ (Nat.le_of_ble_eq_true rfl) ⟨Nat.le_of_ble_eq_true rfl, Nat.le_of_ble_eq_true rfl⟩ (fun r n2 h2 hq => ?_)
      obtain ⟨rfl, hn9, fo28, sa28⟩ := hq; replace hn9 := hn9.symm; subst hn9
      refine v_st (st2 := []) rfl ?_
      obtain ⟨s28, hs28⟩ : ∃ z : Bool × Nat, z = sS (txt S.1 S.2) 45 s := ⟨_, rfl⟩
      rw [← hs28] at fo28
      have hle28 : s28.2 ≤ S.2 := by rw [hs28]; exact sS_le (by decide) (by omega)
      have fa29 := (sa28 (m + 6) (by omega)).trans htx
      have fr30 := offn_in (k := 1) (q := m) offn_rf sa28 (by omega)
      refine v_iload_n dX7_plus_30 rfl ?_
      refine n_if_eq (tgt := 38) (x := 0) dX7_plus_31 (by decide) (by decide) (fun _ => ?_) (fun c => absurd c (by decide))
      refine v_iconst (v := nI 0) dX7_plus_38 (by decide) ?_
      refine v_iret dX7_plus_39 rfl ?_ (Nat.le_of_ble_eq_true rfl) (Nat.le_of_ble_eq_true rfl)
      have e6 : bI ((txt S.1 S.2) s.2 = 43) = 0 := bI_f c26
      have e8 : sS (txt S.1 S.2) 45 s = sPM (txt S.1 S.2) s := by
        obtain ⟨b, p⟩ := s
        cases b
        · rfl
        · have h9 : ¬ (txt S.1 S.2) p = 43 := c26
          by_cases q : (txt S.1 S.2) p = 45
          · rw [sS_t, sPM_t, show sgP (txt S.1 S.2) 45 p = p + 1 from if_pos q, show pmP (txt S.1 S.2) p = p + 1 from if_pos (Or.inr q), decide_eq_true q, decide_eq_true (Or.inr q)]
          · rw [sS_t, sPM_t, show sgP (txt S.1 S.2) 45 p = p from if_neg q, show pmP (txt S.1 S.2) p = p from if_neg (fun z => z.elim h9 q), decide_eq_false q, decide_eq_false (fun z => z.elim h9 q)]
      rw [hs28] at fo28
      rw [e8] at fo28
      exact ⟨by rw [e6], rfl, fo28, fr30⟩
    · refine v_iconst (v := nI 1) dX7_plus_9 (by decide) ?_
      refine v_goto (tgt := 14) dX7_plus_10 (by decide) ?_
      refine v_istore_n dX7_plus_14 rfl (by decide) ?_
      refine v_ls (ls2 := [some (.ref m), some (.int (nI 1))]) rfl ?_
      refine v_aload_n dX7_plus_15 rfl ?_
      refine v_iload_n dX7_plus_16 rfl ?_
      refine n_if_eq (tgt := 25) (x := 1) dX7_plus_17 (by decide) (by decide) (fun c => absurd c (by decide)) (fun _ => ?_)
      refine v_bipush (v := nI 43) dX7_plus_20 (by decide) ?_
      refine v_goto (tgt := 27) dX7_plus_22 (by decide) ?_
      refine v_callV (st := []) dX7_plus_27 (t_X7_mark (s := s) (c := 43) ho htx hX hS (by omega) (by decide) (by decide)) wX7_192 ho rfl rfl ⟨Nat.le_of_ble_eq_true rfl, Nat.le_of_ble_eq_true rfl⟩ (Nat.le_of_ble_eq_true rfl) ⟨Nat.le_of_ble_eq_true rfl, Nat.le_of_ble_eq_true rfl⟩ (fun r n2 h2 hq => ?_)
      obtain ⟨rfl, hn9, fo31, sa31⟩ := hq; replace hn9 := hn9.symm; subst hn9
      refine v_st (st2 := []) rfl ?_
      obtain ⟨s31, hs31⟩ : ∃ z : Bool × Nat, z = sS (txt S.1 S.2) 43 s := ⟨_, rfl⟩
      rw [← hs31] at fo31
      have hle31 : s31.2 ≤ S.2 := by rw [hs31]; exact sS_le (by decide) (by omega)
      have fa32 := (sa31 (m + 6) (by omega)).trans htx
      have fr33 := offn_in (k := 1) (q := m) offn_rf sa31 (by omega)
      refine v_iload_n dX7_plus_30 rfl ?_
      refine n_if_eq (tgt := 38) (x := 1) dX7_plus_31 (by decide) (by decide) (fun c => absurd c (by decide)) (fun _ => ?_)
      refine v_iconst (v := nI 1) dX7_plus_34 (by decide) ?_
      refine v_goto (tgt := 39) dX7_plus_35 (by decide) ?_
      refine v_iret dX7_plus_39 rfl ?_ (Nat.le_of_ble_eq_true rfl) (Nat.le_of_ble_eq_true rfl)
      have e6 : bI ((txt S.1 S.2) s.2 = 43) = 1 := bI_t c26
      have e8 : sS (txt S.1 S.2) 43 s = sPM (txt S.1 S.2) s := by
        obtain ⟨b, p⟩ := s
        cases b
        · rfl
        · have h9 : (txt S.1 S.2) p = 43 := c26
          rw [sS_t, sPM_t, show sgP (txt S.1 S.2) 43 p = p + 1 from if_pos h9, show pmP (txt S.1 S.2) p = p + 1 from if_pos (Or.inl h9), decide_eq_true h9, decide_eq_true (Or.inl h9)]
      rw [hs31] at fo31
      rw [e8] at fo31
      exact ⟨by rw [e6], rfl, fo31, fr33⟩
set_option maxRecDepth 20000 in
set_option maxHeartbeats 4000000 in
theorem t_X7_isKnown {l : Launch} {G : vG} {h : AH} {n : Nat} {c : Nat} (hc : c < 128) : Mt l G mX7_isKnown [.int (nI c)] (n) h 0 0 (fun r n2 h2 => r = some (.int (nI (bI (shI c < 9)))) ∧ n2 = n ∧ h2 = h) := by
  refine Mt.of (by decide) (Nat.le_of_ble_eq_true rfl) rfl ?_
  refine v_ls (ls2 := [some (.int (nI c))]) rfl ?_
  refine v_iload_n dX7_isKnown_0 rfl ?_
  refine v_bipush (v := nI 102) dX7_isKnown_1 (by decide) ?_
  refine n_icmp_eq (tgt := 54) (x := c) (y := 102) dX7_isKnown_3 (by decide) (by omega) (by omega) (fun c21 => ?_) (fun c21 => ?_)
  · refine v_iconst (v := nI 1) dX7_isKnown_54 (by decide) ?_
    refine v_goto (tgt := 59) dX7_isKnown_55 (by decide) ?_
    refine v_zret (ty := .boolean) dX7_isKnown_59 rfl (by decide) ?_ (Nat.le_of_ble_eq_true rfl) (Nat.le_of_ble_eq_true rfl)
    exact ⟨by rw [show bI (shI c < 9) = 1 by unfold shI; (repeat (first | rw [if_pos (by omega)] | rw [if_neg (by omega)])); first | rfl | decide], rfl, rfl⟩
  · refine v_iload_n dX7_isKnown_6 rfl ?_
    refine v_bipush (v := nI 106) dX7_isKnown_7 (by decide) ?_
    refine n_icmp_eq (tgt := 54) (x := c) (y := 106) dX7_isKnown_9 (by decide) (by omega) (by omega) (fun c22 => ?_) (fun c22 => ?_)
    · refine v_iconst (v := nI 1) dX7_isKnown_54 (by decide) ?_
      refine v_goto (tgt := 59) dX7_isKnown_55 (by decide) ?_
      refine v_zret (ty := .boolean) dX7_isKnown_59 rfl (by decide) ?_ (Nat.le_of_ble_eq_true rfl) (Nat.le_of_ble_eq_true rfl)
      exact ⟨by rw [show bI (shI c < 9) = 1 by unfold shI; (repeat (first | rw [if_pos (by omega)] | rw [if_neg (by omega)])); first | rfl | decide], rfl, rfl⟩
    · refine v_iload_n dX7_isKnown_12 rfl ?_
      refine v_bipush (v := nI 112) dX7_isKnown_13 (by decide) ?_
      refine n_icmp_eq (tgt := 54) (x := c) (y := 112) dX7_isKnown_15 (by decide) (by omega) (by omega) (fun c23 => ?_) (fun c23 => ?_)
      · refine v_iconst (v := nI 1) dX7_isKnown_54 (by decide) ?_
        refine v_goto (tgt := 59) dX7_isKnown_55 (by decide) ?_
        refine v_zret (ty := .boolean) dX7_isKnown_59 rfl (by decide) ?_ (Nat.le_of_ble_eq_true rfl) (Nat.le_of_ble_eq_true rfl)
        exact ⟨by rw [show bI (shI c < 9) = 1 by unfold shI; (repeat (first | rw [if_pos (by omega)] | rw [if_neg (by omega)])); first | rfl | decide], rfl, rfl⟩
      · refine v_iload_n dX7_isKnown_18 rfl ?_
        refine v_bipush (v := nI 98) dX7_isKnown_19 (by decide) ?_
        refine n_icmp_eq (tgt := 54) (x := c) (y := 98) dX7_isKnown_21 (by decide) (by omega) (by omega) (fun c24 => ?_) (fun c24 => ?_)
        · refine v_iconst (v := nI 1) dX7_isKnown_54 (by decide) ?_
          refine v_goto (tgt := 59) dX7_isKnown_55 (by decide) ?_
          refine v_zret (ty := .boolean) dX7_isKnown_59 rfl (by decide) ?_ (Nat.le_of_ble_eq_true rfl) (Nat.le_of_ble_eq_true rfl)
          exact ⟨by rw [show bI (shI c < 9) = 1 by unfold shI; (repeat (first | rw [if_pos (by omega)] | rw [if_neg (by omega)])); first | rfl | decide], rfl, rfl⟩
        · refine v_iload_n dX7_isKnown_24 rfl ?_
          refine v_bipush (v := nI 110) dX7_isKnown_25 (by decide) ?_
          refine n_icmp_eq (tgt := 54) (x := c) (y := 110) dX7_isKnown_27 (by decide) (by omega) (by omega) (fun c25 => ?_) (fun c25 => ?_)
          · refine v_iconst (v := nI 1) dX7_isKnown_54 (by decide) ?_
            refine v_goto (tgt := 59) dX7_isKnown_55 (by decide) ?_
            refine v_zret (ty := .boolean) dX7_isKnown_59 rfl (by decide) ?_ (Nat.le_of_ble_eq_true rfl) (Nat.le_of_ble_eq_true rfl)
            exact ⟨by rw [show bI (shI c < 9) = 1 by unfold shI; (repeat (first | rw [if_pos (by omega)] | rw [if_neg (by omega)])); first | rfl | decide], rfl, rfl⟩
          · refine v_iload_n dX7_isKnown_30 rfl ?_
            refine v_bipush (v := nI 105) dX7_isKnown_31 (by decide) ?_
            refine n_icmp_eq (tgt := 54) (x := c) (y := 105) dX7_isKnown_33 (by decide) (by omega) (by omega) (fun c26 => ?_) (fun c26 => ?_)
            · refine v_iconst (v := nI 1) dX7_isKnown_54 (by decide) ?_
              refine v_goto (tgt := 59) dX7_isKnown_55 (by decide) ?_
              refine v_zret (ty := .boolean) dX7_isKnown_59 rfl (by decide) ?_ (Nat.le_of_ble_eq_true rfl) (Nat.le_of_ble_eq_true rfl)
              exact ⟨by rw [show bI (shI c < 9) = 1 by unfold shI; (repeat (first | rw [if_pos (by omega)] | rw [if_neg (by omega)])); first | rfl | decide], rfl, rfl⟩
            · refine v_iload_n dX7_isKnown_36 rfl ?_
              refine v_bipush (v := nI 97) dX7_isKnown_37 (by decide) ?_
              refine n_icmp_eq (tgt := 54) (x := c) (y := 97) dX7_isKnown_39 (by decide) (by omega) (by omega) (fun c27 => ?_) (fun c27 => ?_)
              · refine v_iconst (v := nI 1) dX7_isKnown_54 (by decide) ?_
                refine v_goto (tgt := 59) dX7_isKnown_55 (by decide) ?_
                refine v_zret (ty := .boolean) dX7_isKnown_59 rfl (by decide) ?_ (Nat.le_of_ble_eq_true rfl) (Nat.le_of_ble_eq_true rfl)
                exact ⟨by rw [show bI (shI c < 9) = 1 by unfold shI; (repeat (first | rw [if_pos (by omega)] | rw [if_neg (by omega)])); first | rfl | decide], rfl, rfl⟩
              · refine v_iload_n dX7_isKnown_42 rfl ?_
                refine v_bipush (v := nI 120) dX7_isKnown_43 (by decide) ?_
                refine n_icmp_eq (tgt := 54) (x := c) (y := 120) dX7_isKnown_45 (by decide) (by omega) (by omega) (fun c28 => ?_) (fun c28 => ?_)
                · refine v_iconst (v := nI 1) dX7_isKnown_54 (by decide) ?_
                  refine v_goto (tgt := 59) dX7_isKnown_55 (by decide) ?_
                  refine v_zret (ty := .boolean) dX7_isKnown_59 rfl (by decide) ?_ (Nat.le_of_ble_eq_true rfl) (Nat.le_of_ble_eq_true rfl)
                  exact ⟨by rw [show bI (shI c < 9) = 1 by unfold shI; (repeat (first | rw [if_pos (by omega)] | rw [if_neg (by omega)])); first | rfl | decide], rfl, rfl⟩
                · refine v_iload_n dX7_isKnown_48 rfl ?_
                  refine v_bipush (v := nI 119) dX7_isKnown_49 (by decide) ?_
                  refine n_icmp_ne (tgt := 58) (x := c) (y := 119) dX7_isKnown_51 (by decide) (by omega) (by omega) (fun c29 => ?_) (fun c29 => ?_)
                  · refine v_iconst (v := nI 0) dX7_isKnown_58 (by decide) ?_
                    refine v_zret (ty := .boolean) dX7_isKnown_59 rfl (by decide) ?_ (Nat.le_of_ble_eq_true rfl) (Nat.le_of_ble_eq_true rfl)
                    exact ⟨by rw [show bI (shI c < 9) = 0 by unfold shI; (repeat (first | rw [if_pos (by omega)] | rw [if_neg (by omega)])); first | rfl | decide], rfl, rfl⟩
                  · refine v_iconst (v := nI 1) dX7_isKnown_54 (by decide) ?_
                    refine v_goto (tgt := 59) dX7_isKnown_55 (by decide) ?_
                    refine v_zret (ty := .boolean) dX7_isKnown_59 rfl (by decide) ?_ (Nat.le_of_ble_eq_true rfl) (Nat.le_of_ble_eq_true rfl)
                    exact ⟨by rw [show bI (shI c < 9) = 1 by unfold shI; (repeat (first | rw [if_pos (by omega)] | rw [if_neg (by omega)])); first | rfl | decide], rfl, rfl⟩
set_option maxRecDepth 20000 in
set_option maxHeartbeats 4000000 in
theorem t_X7_isKnownM {l : Launch} {G : vG} {h : AH} {n : Nat}   : Mt l G mX7_isKnown [.int ((-1))] (n) h 0 0 (fun r n2 h2 => r = some (.int (nI 0)) ∧ n2 = n ∧ h2 = h) := by
  refine Mt.of (by decide) (Nat.le_of_ble_eq_true rfl) rfl ?_
  refine v_ls (ls2 := [some (.int ((-1)))]) rfl ?_
  refine v_iload_n dX7_isKnown_0 rfl ?_
  refine v_bipush (v := nI 102) dX7_isKnown_1 (by decide) ?_
  refine v_icmp_eq (tgt := 54) dX7_isKnown_3 (by decide) (fun z => absurd z.symm (nI_ng (by omega) (by decide))) (fun _ => ?_)
  refine v_iload_n dX7_isKnown_6 rfl ?_
  refine v_bipush (v := nI 106) dX7_isKnown_7 (by decide) ?_
  refine v_icmp_eq (tgt := 54) dX7_isKnown_9 (by decide) (fun z => absurd z.symm (nI_ng (by omega) (by decide))) (fun _ => ?_)
  refine v_iload_n dX7_isKnown_12 rfl ?_
  refine v_bipush (v := nI 112) dX7_isKnown_13 (by decide) ?_
  refine v_icmp_eq (tgt := 54) dX7_isKnown_15 (by decide) (fun z => absurd z.symm (nI_ng (by omega) (by decide))) (fun _ => ?_)
  refine v_iload_n dX7_isKnown_18 rfl ?_
  refine v_bipush (v := nI 98) dX7_isKnown_19 (by decide) ?_
  refine v_icmp_eq (tgt := 54) dX7_isKnown_21 (by decide) (fun z => absurd z.symm (nI_ng (by omega) (by decide))) (fun _ => ?_)
  refine v_iload_n dX7_isKnown_24 rfl ?_
  refine v_bipush (v := nI 110) dX7_isKnown_25 (by decide) ?_
  refine v_icmp_eq (tgt := 54) dX7_isKnown_27 (by decide) (fun z => absurd z.symm (nI_ng (by omega) (by decide))) (fun _ => ?_)
  refine v_iload_n dX7_isKnown_30 rfl ?_
  refine v_bipush (v := nI 105) dX7_isKnown_31 (by decide) ?_
  refine v_icmp_eq (tgt := 54) dX7_isKnown_33 (by decide) (fun z => absurd z.symm (nI_ng (by omega) (by decide))) (fun _ => ?_)
  refine v_iload_n dX7_isKnown_36 rfl ?_
  refine v_bipush (v := nI 97) dX7_isKnown_37 (by decide) ?_
  refine v_icmp_eq (tgt := 54) dX7_isKnown_39 (by decide) (fun z => absurd z.symm (nI_ng (by omega) (by decide))) (fun _ => ?_)
  refine v_iload_n dX7_isKnown_42 rfl ?_
  refine v_bipush (v := nI 120) dX7_isKnown_43 (by decide) ?_
  refine v_icmp_eq (tgt := 54) dX7_isKnown_45 (by decide) (fun z => absurd z.symm (nI_ng (by omega) (by decide))) (fun _ => ?_)
  refine v_iload_n dX7_isKnown_48 rfl ?_
  refine v_bipush (v := nI 119) dX7_isKnown_49 (by decide) ?_
  refine v_icmp_ne (tgt := 58) dX7_isKnown_51 (by decide) (fun _ => ?_) (fun z => absurd z.symm (nI_ng (by omega) (by decide)))
  refine v_iconst (v := nI 0) dX7_isKnown_58 (by decide) ?_
  refine v_zret (ty := .boolean) dX7_isKnown_59 rfl (by decide) ?_ (Nat.le_of_ble_eq_true rfl) (Nat.le_of_ble_eq_true rfl)
  exact ⟨rfl, rfl, rfl⟩
