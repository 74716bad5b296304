theorem nI_ch16 {v : Nat} (hv : v < 65536) : (nI v).toUInt32.toUInt16.toUInt32.toInt32 = nI v := by
  have e : (nI v).toUInt32 = UInt32.ofNat v := by
    apply UInt32.toNat_inj.mp
    show (nI v).toBitVec.toNat = _
    show (BitVec.ofNat 32 v).toNat = (UInt32.ofNat v).toNat
    rw [BitVec.toNat_ofNat, UInt32.toNat_ofNat']
  rw [e]
  have e2 : (UInt32.ofNat v).toUInt16.toUInt32 = UInt32.ofNat v := by
    apply UInt32.toNat_inj.mp
    simp only [UInt32.toNat_ofNat', UInt16.toNat_toUInt32, UInt32.toNat_toUInt16]
    omega
  rw [e2, ← e]
  rfl
theorem t_SBlen {l : Launch} {G : vG} {h : AH} {n s a m k mb : Nat} {t : Nat → Nat} (hb : sbP G h s a m t k mb) : Mt l G mJ4_length_8abf5 [.ref s] n h 0 0 (fun r n2 h2 => r = some (.int (nI k)) ∧ n2 = n ∧ h2 = h) := by
  obtain ⟨hs, f, ha, -⟩ := hb
  exact t_J4_length_8abf5 hs ha
theorem sbP_fr {G : vG} {h h1 : AH} {s a m k mb : Nat} {t : Nat → Nat} (hb : sbP G h s a m t k mb) (h1s : h1 s = h s) (h1a : h1 a = h a) : sbP G h1 s a m t k mb := by
  obtain ⟨hs, f, ha, hr⟩ := hb
  exact ⟨h1s.trans hs, f, h1a.trans ha, hr⟩
/-- the sign at a place, 0 where there is none -/
def txt (t : Nat → Nat) (n p : Nat) : Nat := if p < n then t p else 0
abbrev isd (c : Nat) : Prop := 48 ≤ c ∧ c ≤ 57
def sgP (T : Nat → Nat) (c p : Nat) : Nat := if T p = c then p + 1 else p
/-- how many digits stand at p, at most m; their number -/
def dc (T : Nat → Nat) : Nat → Nat → Nat
  | 0, _ => 0
  | m + 1, p => if isd (T p) then 1 + dc T m (p + 1) else 0
def dv (T : Nat → Nat) : Nat → Nat → Nat → Nat
  | _, 0, _ => 0
  | a, m + 1, p => if isd (T p) then (if isd (T (p + 1)) ∧ 0 < m then dv T (10 * a + (T p - 48)) m (p + 1) else 10 * a + (T p - 48)) else a
theorem n_castN {l : Launch} {G : vG} {M : vM} {rc rs : Nat} {Fz : vFin} {pc : Nat} {ls : List (Option Value)} {st : List Value} {n : Nat} {h : AH} {cells slots : Nat} {a k j v : Nat} {f : Nat → Nat} (hd : decode M.2.1 pc = .ok (.castore, 1)) (he : h a = some (.inl (gC G 1, k, .inl (fun i => nI (f i))))) (hj : j < k) (hk : k < 2 ^ 31) (hv : v < 65536) (kk : V l G M rc rs Fz (pc + 1) ls st n (va_up h a (some (.inl (gC G 1, k, .inl (fun i => nI (va_up f j v i)))))) cells slots) : V l G M rc rs Fz pc ls (.int (nI v) :: .int (nI j) :: .ref a :: st) n h cells slots :=
  v_cast hd he (vp_in_nI hj hk) (by rw [nI_clamp (Nat.lt_trans hj hk), vp_nar_char, show (nI v).toUInt32.toUInt16.toUInt32.toInt32 = nI v from nI_ch16 hv, upd_nI]; exact kk)
theorem n_caldN {l : Launch} {G : vG} {M : vM} {rc rs : Nat} {Fz : vFin} {pc : Nat} {ls : List (Option Value)} {st : List Value} {n : Nat} {h : AH} {cells slots : Nat} {a k j : Nat} {f : Nat → Nat} (hd : decode M.2.1 pc = .ok (.caload, 1)) (he : h a = some (.inl (gC G 1, k, .inl (fun i => nI (f i))))) (hj : j < k) (hk : k < 2 ^ 31) (kk : V l G M rc rs Fz (pc + 1) ls (.int (nI (f j)) :: st) n h cells slots) : V l G M rc rs Fz pc ls (.int (nI j) :: .ref a :: st) n h cells slots :=
  v_cald hd he (vp_in_nI hj hk) (by rw [nI_clamp (Nat.lt_trans hj hk)]; exact kk)
set_option maxRecDepth 20000 in
set_option maxHeartbeats 4000000 in
theorem t_X5_isDigitAhead {l : Launch} {G : vG} {h : AH} {n : Nat} {q a m tn mb c p r : Nat} {t L N : Nat → Nat} (ho : h q = some (.inr (6, [.ref (q + 1), .int (nI c), .int (nI p), .int (nI r), .ref (q + 3), .ref (q + 4)]))) (hb : sbP G h (q + 1) a m t tn mb) (hL : h (q + 3) = some (.inl (gC G 1, 30, .inl (fun i => nI (L i))))) (hN : h (q + 4) = some (ar G 120 N)) (haq : a ≠ q ∧ a ≠ q + 3 ∧ a ≠ q + 4) (hm : m ≤ 142) (htn : tn ≤ 60) (ht : ∀ i, i < tn → 32 ≤ t i ∧ t i ≤ 126) (hp : p ≤ tn) : Mt l G mX5_isDigitAhead [.ref q] (n) h 0 0 (fun r n2 h2 => r = some (.int (nI (bI (isd ((txt t tn) p))))) ∧ n2 = n ∧ h2 = h) := by
  refine Mt.of (by decide) (Nat.le_of_ble_eq_true rfl) rfl ?_
  refine v_ls (ls2 := [some (.ref q)]) rfl ?_
  refine v_aload_n dX5_isDigitAhead_0 rfl ?_
  refine fX5_22 (v := .int (nI p)) rfl dX5_isDigitAhead_1 ho rfl ?_
  refine v_aload_n dX5_isDigitAhead_4 rfl ?_
  refine fX5_12 (v := .ref (q + 1)) rfl dX5_isDigitAhead_5 ho rfl ?_
  refine v_callV (st := [.int (nI p)]) dX5_isDigitAhead_8 (t_SBlen hb) wX5_40 hb.1 rfl rfl ⟨Nat.le_of_ble_eq_true rfl, Nat.le_of_ble_eq_true rfl⟩ (Nat.le_of_ble_eq_true rfl) ⟨Nat.le_of_ble_eq_true rfl, Nat.le_of_ble_eq_true rfl⟩ (fun r n2 h2 hq => ?_)
  obtain ⟨rfl, hn9, rfl⟩ := hq; replace hn9 := hn9.symm; subst hn9
  refine v_st (st2 := [.int (nI tn), .int (nI p)]) rfl ?_
  refine n_icmp_ge (tgt := 50) (x := p) (y := tn) dX5_isDigitAhead_11 (by decide) (by omega) (by omega) (fun c21 => ?_) (fun c21 => ?_)
  · refine v_iconst (v := nI 0) dX5_isDigitAhead_50 (by decide) ?_
    refine v_zret (ty := .boolean) dX5_isDigitAhead_51 rfl (by decide) ?_ (Nat.le_of_ble_eq_true rfl) (Nat.le_of_ble_eq_true rfl)
    exact ⟨by rw [show txt t tn p = 0 from if_neg (by omega), bI_f (by omega)], rfl, rfl⟩
  · refine v_aload_n dX5_isDigitAhead_14 rfl ?_
    refine fX5_12 (v := .ref (q + 1)) rfl dX5_isDigitAhead_15 ho rfl ?_
    refine v_aload_n dX5_isDigitAhead_18 rfl ?_
    refine fX5_22 (v := .int (nI p)) rfl dX5_isDigitAhead_19 ho rfl ?_
    refine v_callV (st := []) dX5_isDigitAhead_22 (t_J4_charAt_5068e (i := p) hb (by omega) (by omega) (by have h9 := ht p (by omega); omega)) wX5_48 hb.1 rfl rfl ⟨Nat.le_of_ble_eq_true rfl, Nat.le_of_ble_eq_true rfl⟩ (Nat.le_of_ble_eq_true rfl) ⟨Nat.le_of_ble_eq_true rfl, Nat.le_of_ble_eq_true rfl⟩ (fun r n2 h2 hq => ?_)
    obtain ⟨rfl, hn9, rfl⟩ := hq; replace hn9 := hn9.symm; subst hn9
    have b22 := ht p (by omega)
    refine v_st (st2 := [.int (nI (t p))]) rfl ?_
    refine v_bipush (v := nI 48) dX5_isDigitAhead_25 (by decide) ?_
    refine n_icmp_lt (tgt := 50) (x := t p) (y := 48) dX5_isDigitAhead_27 (by decide) (by omega) (by omega) (fun c23 => ?_) (fun c23 => ?_)
    · refine v_iconst (v := nI 0) dX5_isDigitAhead_50 (by decide) ?_
      refine v_zret (ty := .boolean) dX5_isDigitAhead_51 rfl (by decide) ?_ (Nat.le_of_ble_eq_true rfl) (Nat.le_of_ble_eq_true rfl)
      exact ⟨by rw [show txt t tn p = t p from if_pos (by omega), bI_f (by omega)], rfl, rfl⟩
    · refine v_aload_n dX5_isDigitAhead_30 rfl ?_
      refine fX5_12 (v := .ref (q + 1)) rfl dX5_isDigitAhead_31 ho rfl ?_
      refine v_aload_n dX5_isDigitAhead_34 rfl ?_
      refine fX5_22 (v := .int (nI p)) rfl dX5_isDigitAhead_35 ho rfl ?_
      refine v_callV (st := []) dX5_isDigitAhead_38 (t_J4_charAt_5068e (i := p) hb (by omega) (by omega) (by have h9 := ht p (by omega); omega)) wX5_48 hb.1 rfl rfl ⟨Nat.le_of_ble_eq_true rfl, Nat.le_of_ble_eq_true rfl⟩ (Nat.le_of_ble_eq_true rfl) ⟨Nat.le_of_ble_eq_true rfl, Nat.le_of_ble_eq_true rfl⟩ (fun r n2 h2 hq => ?_)
      obtain ⟨rfl, hn9, rfl⟩ := hq; replace hn9 := hn9.symm; subst hn9
      have b24 := ht p (by omega)
      refine v_st (st2 := [.int (nI (t p))]) rfl ?_
      refine v_bipush (v := nI 57) dX5_isDigitAhead_41 (by decide) ?_
      refine n_icmp_gt (tgt := 50) (x := t p) (y := 57) dX5_isDigitAhead_43 (by decide) (by omega) (by omega) (fun c25 => ?_) (fun c25 => ?_)
      · refine v_iconst (v := nI 0) dX5_isDigitAhead_50 (by decide) ?_
        refine v_zret (ty := .boolean) dX5_isDigitAhead_51 rfl (by decide) ?_ (Nat.le_of_ble_eq_true rfl) (Nat.le_of_ble_eq_true rfl)
        exact ⟨by rw [show txt t tn p = t p from if_pos (by omega), bI_f (by omega)], rfl, rfl⟩
      · refine v_iconst (v := nI 1) dX5_isDigitAhead_46 (by decide) ?_
        refine v_goto (tgt := 51) dX5_isDigitAhead_47 (by decide) ?_
        refine v_zret (ty := .boolean) dX5_isDigitAhead_51 rfl (by decide) ?_ (Nat.le_of_ble_eq_true rfl) (Nat.le_of_ble_eq_true rfl)
        exact ⟨by rw [show txt t tn p = t p from if_pos (by omega), bI_t (by omega)], rfl, rfl⟩
set_option maxRecDepth 20000 in
set_option maxHeartbeats 4000000 in
theorem t_X5_readSign {l : Launch} {G : vG} {h : AH} {n : Nat} {q a m tn mb c p r cc : Nat} {t L N : Nat → Nat} (ho : h q = some (.inr (6, [.ref (q + 1), .int (nI c), .int (nI p), .int (nI r), .ref (q + 3), .ref (q + 4)]))) (hb : sbP G h (q + 1) a m t tn mb) (hL : h (q + 3) = some (.inl (gC G 1, 30, .inl (fun i => nI (L i))))) (hN : h (q + 4) = some (ar G 120 N)) (haq : a ≠ q ∧ a ≠ q + 3 ∧ a ≠ q + 4) (hm : m ≤ 142) (htn : tn ≤ 60) (ht : ∀ i, i < tn → 32 ≤ t i ∧ t i ≤ 126) (hp : p ≤ tn) (hcc : 0 < cc) (hc2 : cc < 128) : Mt l G mX5_readSign [.ref q, .int (nI cc)] (n) h 0 0 (fun r9 n2 h2 => r9 = some (.int (nI (bI ((txt t tn) p = cc)))) ∧ n2 = n ∧ h2 q = some (.inr (6, [.ref (q + 1), .int (nI c), .int (nI (sgP (txt t tn) cc p)), .int (nI r), .ref (q + 3), .ref (q + 4)])) ∧ offn 1 q h h2) := by
  refine Mt.of (by decide) (Nat.le_of_ble_eq_true rfl) rfl ?_
  refine v_ls (ls2 := [some (.ref q), some (.int (nI cc))]) rfl ?_
  refine v_aload_n dX5_readSign_0 rfl ?_
  refine fX5_22 (v := .int (nI p)) rfl dX5_readSign_1 ho rfl ?_
  refine v_aload_n dX5_readSign_4 rfl ?_
  refine fX5_12 (v := .ref (q + 1)) rfl dX5_readSign_5 ho rfl ?_
  refine v_callV (st := [.int (nI p)]) dX5_readSign_8 (t_SBlen hb) wX5_40 hb.1 rfl rfl ⟨Nat.le_of_ble_eq_true rfl, Nat.le_of_ble_eq_true rfl⟩ (Nat.le_of_ble_eq_true rfl) ⟨Nat.le_of_ble_eq_true rfl, Nat.le_of_ble_eq_true rfl⟩ (fun r n2 h2 hq => ?_)
  obtain ⟨rfl, hn9, rfl⟩ := hq; replace hn9 := hn9.symm; subst hn9
  refine v_st (st2 := [.int (nI tn), .int (nI p)]) rfl ?_
  refine n_icmp_ge (tgt := 29) (x := p) (y := tn) dX5_readSign_11 (by decide) (by omega) (by omega) (fun c21 => ?_) (fun c21 => ?_)
  · refine v_iconst (v := nI 0) dX5_readSign_29 (by decide) ?_
    refine v_zret (ty := .boolean) dX5_readSign_30 rfl (by decide) ?_ (Nat.le_of_ble_eq_true rfl) (Nat.le_of_ble_eq_true rfl)
    have e9 := show txt t tn p = 0 from if_neg (by omega)
    exact ⟨by rw [bI_f (by rw [e9]; omega)], rfl, by rw [show sgP (txt t tn) cc p = _ from if_neg (by rw [e9]; omega)]; exact ho, offn_rf⟩
  · refine v_aload_n dX5_readSign_14 rfl ?_
    refine fX5_12 (v := .ref (q + 1)) rfl dX5_readSign_15 ho rfl ?_
    refine v_aload_n dX5_readSign_18 rfl ?_
    refine fX5_22 (v := .int (nI p)) rfl dX5_readSign_19 ho rfl ?_
    refine v_callV (st := []) dX5_readSign_22 (t_J4_charAt_5068e (i := p) hb (by omega) (by omega) (by have h9 := ht p (by omega); omega)) wX5_48 hb.1 rfl rfl ⟨Nat.le_of_ble_eq_true rfl, Nat.le_of_ble_eq_true rfl⟩ (Nat.le_of_ble_eq_true rfl) ⟨Nat.le_of_ble_eq_true rfl, Nat.le_of_ble_eq_true rfl⟩ (fun r n2 h2 hq => ?_)
    obtain ⟨rfl, hn9, rfl⟩ := hq; replace hn9 := hn9.symm; subst hn9
    have b22 := ht p (by omega)
    refine v_st (st2 := [.int (nI (t p))]) rfl ?_
    refine v_iload_n dX5_readSign_25 rfl ?_
    refine n_icmp_eq (tgt := 31) (x := t p) (y := cc) dX5_readSign_26 (by decide) (by omega) (by omega) (fun c23 => ?_) (fun c23 => ?_)
    · refine v_aload_n dX5_readSign_31 rfl ?_
      refine v_dup dX5_readSign_32 rfl ?_
      refine fX5_22 (v := .int (nI p)) rfl dX5_readSign_33 ho rfl ?_
      refine v_iconst (v := nI 1) dX5_readSign_36 (by decide) ?_
      refine n_iadd (x := p) (y := 1) dX5_readSign_37 ?_
      refine pX5_22 rfl dX5_readSign_38 ho (Nat.le_of_ble_eq_true rfl) ?_
      refine nw (fun h1 f1 s1 => ?_)
      have fa24 : h1 (q) = some (.inr (6, [.ref (q + 1), .int (nI c), .int (nI (p + 1)), .int (nI r), .ref (q + 3), .ref (q + 4)])) := f1
      have sa24 := s1
      clear f1 s1
      have hb25 := sbP_fr hb (sa24 (q + 1) (by omega)) (sa24 (a) (by omega))
      have fa26 := (sa24 (q + 3) (by omega)).trans hL
      have fa27 := (sa24 (q + 4) (by omega)).trans hN
      have fr28 := offn_in (k := 1) (q := q) offn_rf sa24 (by omega)
      refine v_iconst (v := nI 1) dX5_readSign_41 (by decide) ?_
      refine v_zret (ty := .boolean) dX5_readSign_42 rfl (by decide) ?_ (Nat.le_of_ble_eq_true rfl) (Nat.le_of_ble_eq_true rfl)
      have e9 := show txt t tn p = t p from if_pos (by omega)
      exact ⟨by rw [bI_t (by rw [e9]; omega)], rfl, by rw [show sgP (txt t tn) cc p = _ from if_pos (by rw [e9]; omega)]; exact fa24, fr28⟩
    · refine v_iconst (v := nI 0) dX5_readSign_29 (by decide) ?_
      refine v_zret (ty := .boolean) dX5_readSign_30 rfl (by decide) ?_ (Nat.le_of_ble_eq_true rfl) (Nat.le_of_ble_eq_true rfl)
      have e9 := show txt t tn p = t p from if_pos (by omega)
      exact ⟨by rw [bI_f (by rw [e9]; omega)], rfl, by rw [show sgP (txt t tn) cc p = _ from if_neg (by rw [e9]; omega)]; exact ho, offn_rf⟩
set_option maxRecDepth 20000 in
set_option maxHeartbeats 4000000 in
theorem t_X5_keepNumber {l : Launch} {G : vG} {h : AH} {n : Nat} {q a m tn mb c p r v : Nat} {t L N : Nat → Nat} (ho : h q = some (.inr (6, [.ref (q + 1), .int (nI c), .int (nI p), .int (nI r), .ref (q + 3), .ref (q + 4)]))) (hb : sbP G h (q + 1) a m t tn mb) (hL : h (q + 3) = some (.inl (gC G 1, 30, .inl (fun i => nI (L i))))) (hN : h (q + 4) = some (ar G 120 N)) (haq : a ≠ q ∧ a ≠ q + 3 ∧ a ≠ q + 4) (hm : m ≤ 142) (htn : tn ≤ 60) (ht : ∀ i, i < tn → 32 ≤ t i ∧ t i ≤ 126) (hp : p ≤ tn) (hr : r < 4) (hc30 : c < 30) : Mt l G mX5_keepNumber [.ref q, .int (nI v)] (n) h 0 0 (fun r9 n2 h2 => r9 = none ∧ n2 = n ∧ h2 q = some (.inr (6, [.ref (q + 1), .int (nI c), .int (nI p), .int (nI (r + 1)), .ref (q + 3), .ref (q + 4)])) ∧ h2 (q + 4) = some (ar G 120 (va_up N (c * 4 + r) v)) ∧ frP (fun z => z ≠ q ∧ z ≠ q + 4) h h2) := by
  refine Mt.of (by decide) (Nat.le_of_ble_eq_true rfl) rfl ?_
  refine v_ls (ls2 := [some (.ref q), some (.int (nI v))]) rfl ?_
  refine v_aload_n dX5_keepNumber_0 rfl ?_
  refine fX5_25 (v := .int (nI r)) rfl dX5_keepNumber_1 ho rfl ?_
  refine v_iconst (v := nI 4) dX5_keepNumber_4 (by decide) ?_
  refine n_icmp_ge (tgt := 35) (x := r) (y := 4) dX5_keepNumber_5 (by decide) (by omega) (by omega) (fun c21 => ?_) (fun c21 => ?_)
  · exfalso
    omega
  · refine v_aload_n dX5_keepNumber_8 rfl ?_
    refine fX5_32 (v := .ref (q + 4)) rfl dX5_keepNumber_9 ho rfl ?_
    refine v_aload_n dX5_keepNumber_12 rfl ?_
    refine fX5_18 (v := .int (nI c)) rfl dX5_keepNumber_13 ho rfl ?_
    refine v_iconst (v := nI 4) dX5_keepNumber_16 (by decide) ?_
    refine n_imul (x := c) (y := 4) dX5_keepNumber_17 ?_
    refine v_aload_n dX5_keepNumber_18 rfl ?_
    refine fX5_25 (v := .int (nI r)) rfl dX5_keepNumber_19 ho rfl ?_
    refine n_iadd (x := c * 4) (y := r) dX5_keepNumber_22 ?_
    refine v_iload_n dX5_keepNumber_23 rfl ?_
    refine n_iast (f := N) (j := (c * 4) + r) (x := v) dX5_keepNumber_24 hN (by omega) (by decide) ?_
    refine nw (fun h1 f1 s1 => ?_)
    have fa22 : h1 (q + 4) = some (ar G 120 (va_up N ((c * 4) + r) v)) := f1
    have sa22 := s1
    clear f1 s1
    have fa23 := (sa22 (q) (by omega)).trans ho
    have hb24 := sbP_fr hb (sa22 (q + 1) (by omega)) (sa22 (a) (by omega))
    have fa25 := (sa22 (q + 3) (by omega)).trans hL
    have fr26 : frP (fun z => z ≠ q ∧ z ≠ q + 4) _ _ := fun z (hz : z ≠ q ∧ z ≠ q + 4) => sa22 z (by omega)
    refine v_aload_n dX5_keepNumber_25 rfl ?_
    refine v_dup dX5_keepNumber_26 rfl ?_
    refine fX5_25 (v := .int (nI r)) rfl dX5_keepNumber_27 fa23 rfl ?_
    refine v_iconst (v := nI 1) dX5_keepNumber_30 (by decide) ?_
    refine n_iadd (x := r) (y := 1) dX5_keepNumber_31 ?_
    refine pX5_25 rfl dX5_keepNumber_32 fa23 (Nat.le_of_ble_eq_true rfl) ?_
    refine nw (fun h1 f1 s1 => ?_)
    have fa27 : h1 (q) = some (.inr (6, [.ref (q + 1), .int (nI c), .int (nI p), .int (nI (r + 1)), .ref (q + 3), .ref (q + 4)])) := f1
    have sa27 := s1
    clear f1 s1
    have hb28 := sbP_fr hb24 (sa27 (q + 1) (by omega)) (sa27 (a) (by omega))
    have fa29 := (sa27 (q + 3) (by omega)).trans fa25
    have fa30 := (sa27 (q + 4) (by omega)).trans fa22
    have fr31 : frP (fun z => z ≠ q ∧ z ≠ q + 4) _ _ := fun z (hz : z ≠ q ∧ z ≠ q + 4) => (sa27 z (by omega)).trans (fr26 z hz)
    refine v_vret dX5_keepNumber_35 rfl ?_ (Nat.le_of_ble_eq_true rfl) (Nat.le_of_ble_eq_true rfl)
    exact ⟨rfl, rfl, fa27, fa30, fr31⟩
theorem txt_le {t : Nat → Nat} {n p : Nat} (h : txt t n p ≠ 0) : p < n := by
  unfold txt at h
  by_cases q : p < n
  · exact q
  · rw [if_neg q] at h; exact absurd rfl h
theorem sg_le {t : Nat → Nat} {n c p : Nat} (hc : 0 < c) (hp : p ≤ n) : sgP (txt t n) c p ≤ n := by
  unfold sgP
  split
  · rename_i h
    have := txt_le (t := t) (n := n) (p := p) (by omega)
    omega
  · exact hp
theorem txt_d {t : Nat → Nat} {n p : Nat} (h : isd (txt t n p)) : p < n ∧ txt t n p = t p := by
  have := txt_le (t := t) (n := n) (p := p) (by omega)
  exact ⟨this, if_pos this⟩
theorem dc_le {t : Nat → Nat} {n : Nat} : ∀ {m p : Nat}, p ≤ n → p + dc (txt t n) m p ≤ n
  | 0, p, h => h
  | m + 1, p, h => by
    rw [dc]
    split
    · rename_i hd
      have h1 := (txt_d hd).1
      have := dc_le (t := t) (n := n) (m := m) (p := p + 1) (by omega)
      omega
    · exact h
set_option maxRecDepth 20000 in
set_option maxHeartbeats 4000000 in
theorem t_X5_readNumber1 {l : Launch} {G : vG} {h : AH} {n : Nat} {q a m tn mb c p r : Nat} {t L N : Nat → Nat} (ho : h q = some (.inr (6, [.ref (q + 1), .int (nI c), .int (nI p), .int (nI r), .ref (q + 3), .ref (q + 4)]))) (hb : sbP G h (q + 1) a m t tn mb) (hL : h (q + 3) = some (.inl (gC G 1, 30, .inl (fun i => nI (L i))))) (hN : h (q + 4) = some (ar G 120 N)) (haq : a ≠ q ∧ a ≠ q + 3 ∧ a ≠ q + 4) (hm : m ≤ 142) (htn : tn ≤ 60) (ht : ∀ i, i < tn → 32 ≤ t i ∧ t i ≤ 126) (hp : p ≤ tn) (hr : r < 4) (hc30 : c < 30) : Mt l G mX5_readNumber [.ref q, .int (nI 1)] (n) h 0 0 (fun r9 n2 h2 => r9 = some (.int (nI (bI (0 < dc (txt t tn) 1 p)))) ∧ n2 = n ∧ h2 q = some (.inr (6, [.ref (q + 1), .int (nI c), .int (nI (p + dc (txt t tn) 1 p)), .int (nI (r + 1)), .ref (q + 3), .ref (q + 4)])) ∧ h2 (q + 4) = some (ar G 120 (va_up N (c * 4 + r) (dv (txt t tn) 0 1 p))) ∧ frP (fun z => z ≠ q ∧ z ≠ q + 4) h h2) := by
  refine Mt.of (by decide) (Nat.le_of_ble_eq_true rfl) rfl ?_
  refine v_ls (ls2 := [some (.ref q), some (.int (nI 1)), none, none]) rfl ?_
  refine v_iconst (v := nI 0) dX5_readNumber_0 (by decide) ?_
  refine v_istore_n dX5_readNumber_1 rfl (by decide) ?_
  refine v_ls (ls2 := [some (.ref q), some (.int (nI 1)), some (.int (nI 0)), none]) rfl ?_
  refine v_iconst (v := nI 0) dX5_readNumber_2 (by decide) ?_
  refine v_istore_n dX5_readNumber_3 rfl (by decide) ?_
  refine v_ls (ls2 := [some (.ref q), some (.int (nI 1)), some (.int (nI 0)), some (.int (nI 0))]) rfl ?_
  refine v_iload_n dX5_readNumber_4 rfl ?_
  refine v_iload_n dX5_readNumber_5 rfl ?_
  refine n_icmp_ge (tgt := 52) (x := 0) (y := 1) dX5_readNumber_6 (by decide) (by decide) (by decide) (fun c => absurd c (by decide)) (fun _ => ?_)
  refine v_aload_n dX5_readNumber_9 rfl ?_
  refine v_callV (st := []) dX5_readNumber_10 (t_X5_isDigitAhead ho hb hL hN haq hm htn ht (by omega)) wX5_93 ho rfl rfl ⟨Nat.le_of_ble_eq_true rfl, Nat.le_of_ble_eq_true rfl⟩ (Nat.le_of_ble_eq_true rfl) ⟨Nat.le_of_ble_eq_true rfl, Nat.le_of_ble_eq_true rfl⟩ (fun r n2 h2 hq => ?_)
  obtain ⟨rfl, hn9, rfl⟩ := hq; replace hn9 := hn9.symm; subst hn9
  refine v_st (st2 := [.int (nI (bI (isd ((txt t tn) p))))]) rfl ?_
  refine n_ifb_eq (tgt := 52) (p := isd ((txt t tn) p)) dX5_readNumber_13 (by decide) (fun c21 => ?_) (fun c21 => ?_)
  · refine v_aload_n dX5_readNumber_52 rfl ?_
    refine v_iload_n dX5_readNumber_53 rfl ?_
    refine v_callV (st := []) dX5_readNumber_54 (t_X5_keepNumber (v := 0) ho hb hL hN haq hm htn ht (by omega) (by omega) (by omega)) wX5_96 ho rfl rfl ⟨Nat.le_of_ble_eq_true rfl, Nat.le_of_ble_eq_true rfl⟩ (Nat.le_of_ble_eq_true rfl) ⟨Nat.le_of_ble_eq_true rfl, Nat.le_of_ble_eq_true rfl⟩ (fun r n2 h2 hq => ?_)
    obtain ⟨rfl, hn9, fa22, fa23, sa24⟩ := hq; replace hn9 := hn9.symm; subst hn9
    refine v_st (st2 := []) rfl ?_
    have hb25 := sbP_fr hb (sa24 (q + 1) (by omega)) (sa24 (a) (by omega))
    have fa26 := (sa24 (q + 3) (by omega)).trans hL
    have fr27 : frP (fun z => z ≠ q ∧ z ≠ q + 4) _ _ := fun z (hz : z ≠ q ∧ z ≠ q + 4) => sa24 z (by omega)
    refine v_iload_n dX5_readNumber_57 rfl ?_
    refine n_if_le (tgt := 65) (x := 0) dX5_readNumber_58 (by decide) (by decide) (fun _ => ?_) (fun c => absurd c (by decide))
    refine v_iconst (v := nI 0) dX5_readNumber_65 (by decide) ?_
    refine v_zret (ty := .boolean) dX5_readNumber_66 rfl (by decide) ?_ (Nat.le_of_ble_eq_true rfl) (Nat.le_of_ble_eq_true rfl)
    have xn : ¬ isd ((txt t tn) (p)) := c21
    have e1 := show dc (txt t tn) 1 p = 0 from if_neg xn
    have e2 := show dv (txt t tn) 0 1 p = 0 from if_neg xn
    refine ⟨by rw [e1, bI_f (by omega)], rfl, by rw [e1]; exact fa22, ?_, fr27⟩
    rw [e2]; first | exact fa23 | (have h9 := fa23; simp only [Nat.mul_zero, Nat.zero_add] at h9; exact h9)
  · obtain ⟨xlc21, xec21⟩ := txt_d c21
    rw [xec21] at c21
    refine v_bipush (v := nI 10) dX5_readNumber_16 (by decide) ?_
    refine v_iload_n dX5_readNumber_18 rfl ?_
    refine n_imul (x := 10) (y := 0) dX5_readNumber_19 ?_
    refine v_aload_n dX5_readNumber_20 rfl ?_
    refine fX5_12 (v := .ref (q + 1)) rfl dX5_readNumber_21 ho rfl ?_
    refine v_aload_n dX5_readNumber_24 rfl ?_
    refine fX5_22 (v := .int (nI p)) rfl dX5_readNumber_25 ho rfl ?_
    refine v_callV (st := [.int (nI (10 * 0))]) dX5_readNumber_28 (t_J4_charAt_5068e (i := p) hb (by omega) (by omega) (by have h9 := ht p (by omega); omega)) wX5_48 hb.1 rfl rfl ⟨Nat.le_of_ble_eq_true rfl, Nat.le_of_ble_eq_true rfl⟩ (Nat.le_of_ble_eq_true rfl) ⟨Nat.le_of_ble_eq_true rfl, Nat.le_of_ble_eq_true rfl⟩ (fun r n2 h2 hq => ?_)
    obtain ⟨rfl, hn9, rfl⟩ := hq; replace hn9 := hn9.symm; subst hn9
    have b28 := ht p (by omega)
    refine v_st (st2 := [.int (nI (t p)), .int (nI (10 * 0))]) rfl ?_
    refine v_bipush (v := nI 48) dX5_readNumber_31 (by decide) ?_
    refine n_isub (x := t p) (y := 48) dX5_readNumber_33 (by omega) ?_
    refine n_iadd (x := 10 * 0) (y := t p - 48) dX5_readNumber_34 ?_
    refine v_istore_n dX5_readNumber_35 rfl (by decide) ?_
    refine v_ls (ls2 := [some (.ref q), some (.int (nI 1)), some (.int (nI ((10 * 0) + (t p - 48)))), some (.int (nI 0))]) rfl ?_
    refine v_aload_n dX5_readNumber_36 rfl ?_
    refine v_dup dX5_readNumber_37 rfl ?_
    refine fX5_22 (v := .int (nI p)) rfl dX5_readNumber_38 ho rfl ?_
    refine v_iconst (v := nI 1) dX5_readNumber_41 (by decide) ?_
    refine n_iadd (x := p) (y := 1) dX5_readNumber_42 ?_
    refine pX5_22 rfl dX5_readNumber_43 ho (Nat.le_of_ble_eq_true rfl) ?_
    refine nw (fun h1 f1 s1 => ?_)
    have fa29 : h1 (q) = some (.inr (6, [.ref (q + 1), .int (nI c), .int (nI (p + 1)), .int (nI r), .ref (q + 3), .ref (q + 4)])) := f1
    have sa29 := s1
    clear f1 s1
    have hb30 := sbP_fr hb (sa29 (q + 1) (by omega)) (sa29 (a) (by omega))
    have fa31 := (sa29 (q + 3) (by omega)).trans hL
    have fa32 := (sa29 (q + 4) (by omega)).trans hN
    have fr33 : frP (fun z => z ≠ q ∧ z ≠ q + 4) _ _ := fun z (hz : z ≠ q ∧ z ≠ q + 4) => sa29 z (by omega)
    refine n_iinc (k := 1) (x := 0) dX5_readNumber_46 (by decide) rfl rfl (by decide) ?_
    refine v_ls (ls2 := [some (.ref q), some (.int (nI 1)), some (.int (nI ((10 * 0) + (t p - 48)))), some (.int (nI 1))]) rfl ?_
    refine v_goto (tgt := 4) dX5_readNumber_49 (by decide) ?_
    refine v_iload_n dX5_readNumber_4 rfl ?_
    refine v_iload_n dX5_readNumber_5 rfl ?_
    refine n_icmp_ge (tgt := 52) (x := 1) (y := 1) dX5_readNumber_6 (by decide) (by decide) (by decide) (fun _ => ?_) (fun c => absurd c (by decide))
    refine v_aload_n dX5_readNumber_52 rfl ?_
    refine v_iload_n dX5_readNumber_53 rfl ?_
    refine v_callV (st := []) dX5_readNumber_54 (t_X5_keepNumber (v := (10 * 0) + (t p - 48)) fa29 hb30 fa31 fa32 haq hm htn ht (by omega) (by omega) (by omega)) wX5_96 fa29 rfl rfl ⟨Nat.le_of_ble_eq_true rfl, Nat.le_of_ble_eq_true rfl⟩ (Nat.le_of_ble_eq_true rfl) ⟨Nat.le_of_ble_eq_true rfl, Nat.le_of_ble_eq_true rfl⟩ (fun r n2 h2 hq => ?_)
    obtain ⟨rfl, hn9, fa34, fa35, sa36⟩ := hq; replace hn9 := hn9.symm; subst hn9
    refine v_st (st2 := []) rfl ?_
    have hb37 := sbP_fr hb30 (sa36 (q + 1) (by omega)) (sa36 (a) (by omega))
    have fa38 := (sa36 (q + 3) (by omega)).trans fa31
    have fr39 : frP (fun z => z ≠ q ∧ z ≠ q + 4) _ _ := fun z (hz : z ≠ q ∧ z ≠ q + 4) => (sa36 z (by omega)).trans (fr33 z hz)
    refine v_iload_n dX5_readNumber_57 rfl ?_
    refine n_if_le (tgt := 65) (x := 1) dX5_readNumber_58 (by decide) (by decide) (fun c => absurd c (by decide)) (fun _ => ?_)
    refine v_iconst (v := nI 1) dX5_readNumber_61 (by decide) ?_
    refine v_goto (tgt := 66) dX5_readNumber_62 (by decide) ?_
    refine v_zret (ty := .boolean) dX5_readNumber_66 rfl (by decide) ?_ (Nat.le_of_ble_eq_true rfl) (Nat.le_of_ble_eq_true rfl)
    have xd0 : isd ((txt t tn) (p)) := by rw [xec21]; exact c21
    have e1 := show dc (txt t tn) 1 p = 1 from if_pos xd0
    have e2 := show dv (txt t tn) 0 1 p = t p - 48 from by rw [dv, if_pos xd0, if_neg (by omega), xec21]; omega
    refine ⟨by rw [e1, bI_t (by omega)], rfl, by rw [e1]; exact fa34, ?_, fr39⟩
    rw [e2]; first | exact fa35 | (have h9 := fa35; simp only [Nat.mul_zero, Nat.zero_add] at h9; exact h9)
set_option maxRecDepth 20000 in
set_option maxHeartbeats 4000000 in
theorem t_X5_readNumber2 {l : Launch} {G : vG} {h : AH} {n : Nat} {q a m tn mb c p r : Nat} {t L N : Nat → Nat} (ho : h q = some (.inr (6, [.ref (q + 1), .int (nI c), .int (nI p), .int (nI r), .ref (q + 3), .ref (q + 4)]))) (hb : sbP G h (q + 1) a m t tn mb) (hL : h (q + 3) = some (.inl (gC G 1, 30, .inl (fun i => nI (L i))))) (hN : h (q + 4) = some (ar G 120 N)) (haq : a ≠ q ∧ a ≠ q + 3 ∧ a ≠ q + 4) (hm : m ≤ 142) (htn : tn ≤ 60) (ht : ∀ i, i < tn → 32 ≤ t i ∧ t i ≤ 126) (hp : p ≤ tn) (hr : r < 4) (hc30 : c < 30) : Mt l G mX5_readNumber [.ref q, .int (nI 2)] (n) h 0 0 (fun r9 n2 h2 => r9 = some (.int (nI (bI (0 < dc (txt t tn) 2 p)))) ∧ n2 = n ∧ h2 q = some (.inr (6, [.ref (q + 1), .int (nI c), .int (nI (p + dc (txt t tn) 2 p)), .int (nI (r + 1)), .ref (q + 3), .ref (q + 4)])) ∧ h2 (q + 4) = some (ar G 120 (va_up N (c * 4 + r) (dv (txt t tn) 0 2 p))) ∧ frP (fun z => z ≠ q ∧ z ≠ q + 4) h h2) := by
  refine Mt.of (by decide) (Nat.le_of_ble_eq_true rfl) rfl ?_
  refine v_ls (ls2 := [some (.ref q), some (.int (nI 2)), none, none]) rfl ?_
  refine v_iconst (v := nI 0) dX5_readNumber_0 (by decide) ?_
  refine v_istore_n dX5_readNumber_1 rfl (by decide) ?_
  refine v_ls (ls2 := [some (.ref q), some (.int (nI 2)), some (.int (nI 0)), none]) rfl ?_
  refine v_iconst (v := nI 0) dX5_readNumber_2 (by decide) ?_
  refine v_istore_n dX5_readNumber_3 rfl (by decide) ?_
  refine v_ls (ls2 := [some (.ref q), some (.int (nI 2)), some (.int (nI 0)), some (.int (nI 0))]) rfl ?_
  refine v_iload_n dX5_readNumber_4 rfl ?_
  refine v_iload_n dX5_readNumber_5 rfl ?_
  refine n_icmp_ge (tgt := 52) (x := 0) (y := 2) dX5_readNumber_6 (by decide) (by decide) (by decide) (fun c => absurd c (by decide)) (fun _ => ?_)
  refine v_aload_n dX5_readNumber_9 rfl ?_
  refine v_callV (st := []) dX5_readNumber_10 (t_X5_isDigitAhead ho hb hL hN haq hm htn ht (by omega)) wX5_93 ho rfl rfl ⟨Nat.le_of_ble_eq_true rfl, Nat.le_of_ble_eq_true rfl⟩ (Nat.le_of_ble_eq_true rfl) ⟨Nat.le_of_ble_eq_true rfl, Nat.le_of_ble_eq_true rfl⟩ (fun r n2 h2 hq => ?_)
  obtain ⟨rfl, hn9, rfl⟩ := hq; replace hn9 := hn9.symm; subst hn9
  refine v_st (st2 := [.int (nI (bI (isd ((txt t tn) p))))]) rfl ?_
  refine n_ifb_eq (tgt := 52) (p := isd ((txt t tn) p)) dX5_readNumber_13 (by decide) (fun c21 => ?_) (fun c21 => ?_)
  · refine v_aload_n dX5_readNumber_52 rfl ?_
    refine v_iload_n dX5_readNumber_53 rfl ?_
    refine v_callV (st := []) dX5_readNumber_54 (t_X5_keepNumber (v := 0) ho hb hL hN haq hm htn ht (by omega) (by omega) (by omega)) wX5_96 ho rfl rfl ⟨Nat.le_of_ble_eq_true rfl, Nat.le_of_ble_eq_true rfl⟩ (Nat.le_of_ble_eq_true rfl) ⟨Nat.le_of_ble_eq_true rfl, Nat.le_of_ble_eq_true rfl⟩ (fun r n2 h2 hq => ?_)
    obtain ⟨rfl, hn9, fa22, fa23, sa24⟩ := hq; replace hn9 := hn9.symm; subst hn9
    refine v_st (st2 := []) rfl ?_
    have hb25 := sbP_fr hb (sa24 (q + 1) (by omega)) (sa24 (a) (by omega))
    have fa26 := (sa24 (q + 3) (by omega)).trans hL
    have fr27 : frP (fun z => z ≠ q ∧ z ≠ q + 4) _ _ := fun z (hz : z ≠ q ∧ z ≠ q + 4) => sa24 z (by omega)
    refine v_iload_n dX5_readNumber_57 rfl ?_
    refine n_if_le (tgt := 65) (x := 0) dX5_readNumber_58 (by decide) (by decide) (fun _ => ?_) (fun c => absurd c (by decide))
    refine v_iconst (v := nI 0) dX5_readNumber_65 (by decide) ?_
    refine v_zret (ty := .boolean) dX5_readNumber_66 rfl (by decide) ?_ (Nat.le_of_ble_eq_true rfl) (Nat.le_of_ble_eq_true rfl)
    have xn : ¬ isd ((txt t tn) (p)) := c21
    have e1 := show dc (txt t tn) 2 p = 0 from if_neg xn
    have e2 := show dv (txt t tn) 0 2 p = 0 from if_neg xn
    refine ⟨by rw [e1, bI_f (by omega)], rfl, by rw [e1]; exact fa22, ?_, fr27⟩
    rw [e2]; first | exact fa23 | (have h9 := fa23; simp only [Nat.mul_zero, Nat.zero_add] at h9; exact h9)
  · obtain ⟨xlc21, xec21⟩ := txt_d c21
    rw [xec21] at c21
    refine v_bipush (v := nI 10) dX5_readNumber_16 (by decide) ?_
    refine v_iload_n dX5_readNumber_18 rfl ?_
    refine n_imul (x := 10) (y := 0) dX5_readNumber_19 ?_
    refine v_aload_n dX5_readNumber_20 rfl ?_
    refine fX5_12 (v := .ref (q + 1)) rfl dX5_readNumber_21 ho rfl ?_
    refine v_aload_n dX5_readNumber_24 rfl ?_
    refine fX5_22 (v := .int (nI p)) rfl dX5_readNumber_25 ho rfl ?_
    refine v_callV (st := [.int (nI (10 * 0))]) dX5_readNumber_28 (t_J4_charAt_5068e (i := p) hb (by omega) (by omega) (by have h9 := ht p (by omega); omega)) wX5_48 hb.1 rfl rfl ⟨Nat.le_of_ble_eq_true rfl, Nat.le_of_ble_eq_true rfl⟩ (Nat.le_of_ble_eq_true rfl) ⟨Nat.le_of_ble_eq_true rfl, Nat.le_of_ble_eq_true rfl⟩ (fun r n2 h2 hq => ?_)
    obtain ⟨rfl, hn9, rfl⟩ := hq; replace hn9 := hn9.symm; subst hn9
    have b28 := ht p (by omega)
    refine v_st (st2 := [.int (nI (t p)), .int (nI (10 * 0))]) rfl ?_
    refine v_bipush (v := nI 48) dX5_readNumber_31 (by decide) ?_
    refine n_isub (x := t p) (y := 48) dX5_readNumber_33 (by omega) ?_
    refine n_iadd (x := 10 * 0) (y := t p - 48) dX5_readNumber_34 ?_
    refine v_istore_n dX5_readNumber_35 rfl (by decide) ?_
    refine v_ls (ls2 := [some (.ref q), some (.int (nI 2)), some (.int (nI ((10 * 0) + (t p - 48)))), some (.int (nI 0))]) rfl ?_
    refine v_aload_n dX5_readNumber_36 rfl ?_
    refine v_dup dX5_readNumber_37 rfl ?_
    refine fX5_22 (v := .int (nI p)) rfl dX5_readNumber_38 ho rfl ?_
    refine v_iconst (v := nI 1) dX5_readNumber_41 (by decide) ?_
    refine n_iadd (x := p) (y := 1) dX5_readNumber_42 ?_
    refine pX5_22 rfl dX5_readNumber_43 ho (Nat.le_of_ble_eq_true rfl) ?_
    refine nw (fun h1 f1 s1 => ?_)
    have fa29 : h1 (q) = some (.inr (6, [.ref (q + 1), .int (nI c), .int (nI (p + 1)), .int (nI r), .ref (q + 3), .ref (q + 4)])) := f1
    have sa29 := s1
    clear f1 s1
    have hb30 := sbP_fr hb (sa29 (q + 1) (by omega)) (sa29 (a) (by omega))
    have fa31 := (sa29 (q + 3) (by omega)).trans hL
    have fa32 := (sa29 (q + 4) (by omega)).trans hN
    have fr33 : frP (fun z => z ≠ q ∧ z ≠ q + 4) _ _ := fun z (hz : z ≠ q ∧ z ≠ q + 4) => sa29 z (by omega)
    refine n_iinc (k := 1) (x := 0) dX5_readNumber_46 (by decide) rfl rfl (by decide) ?_
    refine v_ls (ls2 := [some (.ref q), some (.int (nI 2)), some (.int (nI ((10 * 0) + (t p - 48)))), some (.int (nI 1))]) rfl ?_
    refine v_goto (tgt := 4) dX5_readNumber_49 (by decide) ?_
    refine v_iload_n dX5_readNumber_4 rfl ?_
    refine v_iload_n dX5_readNumber_5 rfl ?_
    refine n_icmp_ge (tgt := 52) (x := 1) (y := 2) dX5_readNumber_6 (by decide) (by decide) (by decide) (fun c => absurd c (by decide)) (fun _ => ?_)
    refine v_aload_n dX5_readNumber_9 rfl ?_
    refine v_callV (st := []) dX5_readNumber_10 (t_X5_isDigitAhead fa29 hb30 fa31 fa32 haq hm htn ht (by omega)) wX5_93 fa29 rfl rfl ⟨Nat.le_of_ble_eq_true rfl, Nat.le_of_ble_eq_true rfl⟩ (Nat.le_of_ble_eq_true rfl) ⟨Nat.le_of_ble_eq_true rfl, Nat.le_of_ble_eq_true rfl⟩ (fun r n2 h2 hq => ?_)
    obtain ⟨rfl, hn9, rfl⟩ := hq; replace hn9 := hn9.symm; subst hn9
    refine v_st (st2 := [.int (nI (bI (isd ((txt t tn) (p + 1)))))]) rfl ?_
    refine n_ifb_eq (tgt := 52) (p := isd ((txt t tn) (p + 1))) dX5_readNumber_13 (by decide) (fun c34 => ?_) (fun c34 => ?_)
    · refine v_aload_n dX5_readNumber_52 rfl ?_
      refine v_iload_n dX5_readNumber_53 rfl ?_
      refine v_callV (st := []) dX5_readNumber_54 (t_X5_keepNumber (v := (10 * 0) + (t p - 48)) fa29 hb30 fa31 fa32 haq hm htn ht (by omega) (by omega) (by omega)) wX5_96 fa29 rfl rfl ⟨Nat.le_of_ble_eq_true rfl, Nat.le_of_ble_eq_true rfl⟩ (Nat.le_of_ble_eq_true rfl) ⟨Nat.le_of_ble_eq_true rfl, Nat.le_of_ble_eq_true rfl⟩ (fun r n2 h2 hq => ?_)
      obtain ⟨rfl, hn9, fa35, fa36, sa37⟩ := hq; replace hn9 := hn9.symm; subst hn9
      refine v_st (st2 := []) rfl ?_
      have hb38 := sbP_fr hb30 (sa37 (q + 1) (by omega)) (sa37 (a) (by omega))
      have fa39 := (sa37 (q + 3) (by omega)).trans fa31
      have fr40 : frP (fun z => z ≠ q ∧ z ≠ q + 4) _ _ := fun z (hz : z ≠ q ∧ z ≠ q + 4) => (sa37 z (by omega)).trans (fr33 z hz)
      refine v_iload_n dX5_readNumber_57 rfl ?_
      refine n_if_le (tgt := 65) (x := 1) dX5_readNumber_58 (by decide) (by decide) (fun c => absurd c (by decide)) (fun _ => ?_)
      refine v_iconst (v := nI 1) dX5_readNumber_61 (by decide) ?_
      refine v_goto (tgt := 66) dX5_readNumber_62 (by decide) ?_
      refine v_zret (ty := .boolean) dX5_readNumber_66 rfl (by decide) ?_ (Nat.le_of_ble_eq_true rfl) (Nat.le_of_ble_eq_true rfl)
      have xd0 : isd ((txt t tn) (p)) := by rw [xec21]; exact c21
      have xn : ¬ isd ((txt t tn) (p + 1)) := c34
      have e1 := show dc (txt t tn) 2 p = 1 from by rw [dc, if_pos xd0, dc, if_neg xn]
      have e2 := show dv (txt t tn) 0 2 p = t p - 48 from by rw [dv, if_pos xd0, if_neg (fun z => xn z.1), xec21]; omega
      refine ⟨by rw [e1, bI_t (by omega)], rfl, by rw [e1]; exact fa35, ?_, fr40⟩
      rw [e2]; first | exact fa36 | (have h9 := fa36; simp only [Nat.mul_zero, Nat.zero_add] at h9; exact h9)
    · obtain ⟨xlc34, xec34⟩ := txt_d c34
      rw [xec34] at c34
      refine v_bipush (v := nI 10) dX5_readNumber_16 (by decide) ?_
      refine v_iload_n dX5_readNumber_18 rfl ?_
      refine n_imul (x := 10) (y := (10 * 0) + (t p - 48)) dX5_readNumber_19 ?_
      refine v_aload_n dX5_readNumber_20 rfl ?_
      refine fX5_12 (v := .ref (q + 1)) rfl dX5_readNumber_21 fa29 rfl ?_
      refine v_aload_n dX5_readNumber_24 rfl ?_
      refine fX5_22 (v := .int (nI (p + 1))) rfl dX5_readNumber_25 fa29 rfl ?_
      refine v_callV (st := [.int (nI (10 * ((10 * 0) + (t p - 48))))]) dX5_readNumber_28 (t_J4_charAt_5068e (i := p + 1) hb30 (by omega) (by omega) (by have h9 := ht (p + 1) (by omega); omega)) wX5_48 hb30.1 rfl rfl ⟨Nat.le_of_ble_eq_true rfl, Nat.le_of_ble_eq_true rfl⟩ (Nat.le_of_ble_eq_true rfl) ⟨Nat.le_of_ble_eq_true rfl, Nat.le_of_ble_eq_true rfl⟩ (fun r n2 h2 hq => ?_)
      obtain ⟨rfl, hn9, rfl⟩ := hq; replace hn9 := hn9.symm; subst hn9
      have b41 := ht (p + 1) (by omega)
      refine v_st (st2 := [.int (nI (t (p + 1))), .int (nI (10 * ((10 * 0) + (t p - 48))))]) rfl ?_
      refine v_bipush (v := nI 48) dX5_readNumber_31 (by decide) ?_
      refine n_isub (x := t (p + 1)) (y := 48) dX5_readNumber_33 (by omega) ?_
      refine n_iadd (x := 10 * ((10 * 0) + (t p - 48))) (y := (t (p + 1)) - 48) dX5_readNumber_34 ?_
      refine v_istore_n dX5_readNumber_35 rfl (by decide) ?_
      refine v_ls (ls2 := [some (.ref q), some (.int (nI 2)), some (.int (nI ((10 * ((10 * 0) + (t p - 48))) + ((t (p + 1)) - 48)))), some (.int (nI 1))]) rfl ?_
      refine v_aload_n dX5_readNumber_36 rfl ?_
      refine v_dup dX5_readNumber_37 rfl ?_
      refine fX5_22 (v := .int (nI (p + 1))) rfl dX5_readNumber_38 fa29 rfl ?_
      refine v_iconst (v := nI 1) dX5_readNumber_41 (by decide) ?_
      refine n_iadd (x := p + 1) (y := 1) dX5_readNumber_42 ?_
      refine pX5_22 rfl dX5_readNumber_43 fa29 (Nat.le_of_ble_eq_true rfl) ?_
      refine nw (fun h1 f1 s1 => ?_)
      have fa42 : h1 (q) = some (.inr (6, [.ref (q + 1), .int (nI c), .int (nI ((p + 1) + 1)), .int (nI r), .ref (q + 3), .ref (q + 4)])) := f1
      have sa42 := s1
      clear f1 s1
      have hb43 := sbP_fr hb30 (sa42 (q + 1) (by omega)) (sa42 (a) (by omega))
      have fa44 := (sa42 (q + 3) (by omega)).trans fa31
      have fa45 := (sa42 (q + 4) (by omega)).trans fa32
      have fr46 : frP (fun z => z ≠ q ∧ z ≠ q + 4) _ _ := fun z (hz : z ≠ q ∧ z ≠ q + 4) => (sa42 z (by omega)).trans (fr33 z hz)
      refine n_iinc (k := 1) (x := 1) dX5_readNumber_46 (by decide) rfl rfl (by decide) ?_
      refine v_ls (ls2 := [some (.ref q), some (.int (nI 2)), some (.int (nI ((10 * ((10 * 0) + (t p - 48))) + ((t (p + 1)) - 48)))), some (.int (nI 2))]) rfl ?_
      refine v_goto (tgt := 4) dX5_readNumber_49 (by decide) ?_
      refine v_iload_n dX5_readNumber_4 rfl ?_
      refine v_iload_n dX5_readNumber_5 rfl ?_
      refine n_icmp_ge (tgt := 52) (x := 2) (y := 2) dX5_readNumber_6 (by decide) (by decide) (by decide) (fun _ => ?_) (fun c => absurd c (by decide))
      refine v_aload_n dX5_readNumber_52 rfl ?_
      refine v_iload_n dX5_readNumber_53 rfl ?_
      refine v_callV (st := []) dX5_readNumber_54 (t_X5_keepNumber (v := (10 * ((10 * 0) + (t p - 48))) + ((t (p + 1)) - 48)) fa42 hb43 fa44 fa45 haq hm htn ht (by omega) (by omega) (by omega)) wX5_96 fa42 rfl rfl ⟨Nat.le_of_ble_eq_true rfl, Nat.le_of_ble_eq_true rfl⟩ (Nat.le_of_ble_eq_true rfl) ⟨Nat.le_of_ble_eq_true rfl, Nat.le_of_ble_eq_true rfl⟩ (fun r n2 h2 hq => ?_)
      obtain ⟨rfl, hn9, fa47, fa48, sa49⟩ := hq; replace hn9 := hn9.symm; subst hn9
      refine v_st (st2 := []) rfl ?_
      have hb50 := sbP_fr hb43 (sa49 (q + 1) (by omega)) (sa49 (a) (by omega))
      have fa51 := (sa49 (q + 3) (by omega)).trans fa44
      have fr52 : frP (fun z => z ≠ q ∧ z ≠ q + 4) _ _ := fun z (hz : z ≠ q ∧ z ≠ q + 4) => (sa49 z (by omega)).trans (fr46 z hz)
      refine v_iload_n dX5_readNumber_57 rfl ?_
      refine n_if_le (tgt := 65) (x := 2) dX5_readNumber_58 (by decide) (by decide) (fun c => absurd c (by decide)) (fun _ => ?_)
      refine v_iconst (v := nI 1) dX5_readNumber_61 (by decide) ?_
      refine v_goto (tgt := 66) dX5_readNumber_62 (by decide) ?_
      refine v_zret (ty := .boolean) dX5_readNumber_66 rfl (by decide) ?_ (Nat.le_of_ble_eq_true rfl) (Nat.le_of_ble_eq_true rfl)
      have xd0 : isd ((txt t tn) (p)) := by rw [xec21]; exact c21
      have xd1 : isd ((txt t tn) (p + 1)) := by rw [xec34]; exact c34
      have e1 := show dc (txt t tn) 2 p = 2 from by rw [dc, if_pos xd0, dc, if_pos xd1]; rfl
      have e2 := show dv (txt t tn) 0 2 p = 10 * (t p - 48) + (t (p + 1) - 48) from by rw [dv, if_pos xd0, if_pos ⟨xd1, by decide⟩, dv, if_pos xd1, if_neg (by omega), xec21, xec34]; omega
      refine ⟨by rw [e1, bI_t (by omega)], rfl, by rw [e1]; exact fa47, ?_, fr52⟩
      rw [e2]; first | exact fa48 | (have h9 := fa48; simp only [Nat.mul_zero, Nat.zero_add] at h9; exact h9)
def pmP (T : Nat → Nat) (p : Nat) : Nat := if T p = 43 ∨ T p = 45 then p + 1 else p
set_option maxRecDepth 20000 in
set_option maxHeartbeats 4000000 in
theorem t_X5_readPlusOrMinus {l : Launch} {G : vG} {h : AH} {n : Nat} {q a m tn mb c p r : Nat} {t L N : Nat → Nat} (ho : h q = some (.inr (6, [.ref (q + 1), .int (nI c), .int (nI p), .int (nI r), .ref (q + 3), .ref (q + 4)]))) (hb : sbP G h (q + 1) a m t tn mb) (hL : h (q + 3) = some (.inl (gC G 1, 30, .inl (fun i => nI (L i))))) (hN : h (q + 4) = some (ar G 120 N)) (haq : a ≠ q ∧ a ≠ q + 3 ∧ a ≠ q + 4) (hm : m ≤ 142) (htn : tn ≤ 60) (ht : ∀ i, i < tn → 32 ≤ t i ∧ t i ≤ 126) (hp : p ≤ tn) (hr : r < 4) (hc30 : c < 30) : Mt l G mX5_readPlusOrMinus [.ref q] (n) h 0 0 (fun r9 n2 h2 => r9 = some (.int (nI (bI ((txt t tn) p = 43 ∨ (txt t tn) p = 45)))) ∧ n2 = n ∧ h2 q = some (.inr (6, [.ref (q + 1), .int (nI c), .int (nI (pmP (txt t tn) p)), .int (nI (r + 1)), .ref (q + 3), .ref (q + 4)])) ∧ h2 (q + 4) = some (ar G 120 (va_up N (c * 4 + r) (bI ((txt t tn) p = 43)))) ∧ frP (fun z => z ≠ q ∧ z ≠ q + 4) h h2) := by
  refine Mt.of (by decide) (Nat.le_of_ble_eq_true rfl) rfl ?_
  refine v_ls (ls2 := [some (.ref q)]) rfl ?_
  have htn2 : 0 < 43 := by decide
  refine v_aload_n dX5_readPlusOrMinus_0 rfl ?_
  refine v_bipush (v := nI 43) dX5_readPlusOrMinus_1 (by decide) ?_
  refine v_callV (st := []) dX5_readPlusOrMinus_3 (t_X5_readSign (cc := 43) ho hb hL hN haq hm htn ht (by omega) (by omega) (by omega)) wX5_44 ho rfl rfl ⟨Nat.le_of_ble_eq_true rfl, Nat.le_of_ble_eq_true rfl⟩ (Nat.le_of_ble_eq_true rfl) ⟨Nat.le_of_ble_eq_true rfl, Nat.le_of_ble_eq_true rfl⟩ (fun r n2 h2 hq => ?_)
  obtain ⟨rfl, hn9, fa21, sa22⟩ := hq; replace hn9 := hn9.symm; subst hn9
  refine v_st (st2 := [.int (nI (bI ((txt t tn) p = 43)))]) rfl ?_
  have hb23 := sbP_fr hb (sa22 (q + 1) (by omega)) (sa22 (a) (by omega))
  have fa24 := (sa22 (q + 3) (by omega)).trans hL
  have fa25 := (sa22 (q + 4) (by omega)).trans hN
  have fr26 : frP (fun z => z ≠ q ∧ z ≠ q + 4) _ _ := fun z (hz : z ≠ q ∧ z ≠ q + 4) => sa22 z (by omega)
  have bs27 : sgP (txt t tn) 43 p ≤ tn := by first | omega | exact sg_le (by omega) (by omega)
  refine n_ifb_eq (tgt := 16) (p := (txt t tn) p = 43) dX5_readPlusOrMinus_6 (by decide) (fun c28 => ?_) (fun c28 => ?_)
  · refine v_aload_n dX5_readPlusOrMinus_16 rfl ?_
    refine v_iconst (v := nI 0) dX5_readPlusOrMinus_17 (by decide) ?_
    refine v_callV (st := []) dX5_readPlusOrMinus_18 (t_X5_keepNumber (v := 0) fa21 hb23 fa24 fa25 haq hm htn ht (by omega) (by omega) (by omega)) wX5_96 fa21 rfl rfl ⟨Nat.le_of_ble_eq_true rfl, Nat.le_of_ble_eq_true rfl⟩ (Nat.le_of_ble_eq_true rfl) ⟨Nat.le_of_ble_eq_true rfl, Nat.le_of_ble_eq_true rfl⟩ (fun r n2 h2 hq => ?_)
    obtain ⟨rfl, hn9, fa29, fa30, sa31⟩ := hq; replace hn9 := hn9.symm; subst hn9
    refine v_st (st2 := []) rfl ?_
    have hb32 := sbP_fr hb23 (sa31 (q + 1) (by omega)) (sa31 (a) (by omega))
    have fa33 := (sa31 (q + 3) (by omega)).trans fa24
    have fr34 : frP (fun z => z ≠ q ∧ z ≠ q + 4) _ _ := fun z (hz : z ≠ q ∧ z ≠ q + 4) => (sa31 z (by omega)).trans (fr26 z hz)
    refine v_aload_n dX5_readPlusOrMinus_21 rfl ?_
    refine v_bipush (v := nI 45) dX5_readPlusOrMinus_22 (by decide) ?_
    refine v_callV (st := []) dX5_readPlusOrMinus_24 (t_X5_readSign (cc := 45) fa29 hb32 fa33 fa30 haq hm htn ht (by omega) (by omega) (by omega)) wX5_44 fa29 rfl rfl ⟨Nat.le_of_ble_eq_true rfl, Nat.le_of_ble_eq_true rfl⟩ (Nat.le_of_ble_eq_true rfl) ⟨Nat.le_of_ble_eq_true rfl, Nat.le_of_ble_eq_true rfl⟩ (fun r n2 h2 hq => ?_)
    obtain ⟨rfl, hn9, fa35, sa36⟩ := hq; replace hn9 := hn9.symm; subst hn9
    refine v_st (st2 := [.int (nI (bI ((txt t tn) (sgP (txt t tn) 43 p) = 45)))]) rfl ?_
    have hb37 := sbP_fr hb32 (sa36 (q + 1) (by omega)) (sa36 (a) (by omega))
    have fa38 := (sa36 (q + 3) (by omega)).trans fa33
    have fa39 := (sa36 (q + 4) (by omega)).trans fa30
    have fr40 : frP (fun z => z ≠ q ∧ z ≠ q + 4) _ _ := fun z (hz : z ≠ q ∧ z ≠ q + 4) => (sa36 z (by omega)).trans (fr34 z hz)
    have bs41 : sgP (txt t tn) 45 (sgP (txt t tn) 43 p) ≤ tn := by first | omega | exact sg_le (by omega) (by omega)
    refine v_zret (ty := .boolean) dX5_readPlusOrMinus_27 rfl (nI_z _ bI_lt) ?_ (Nat.le_of_ble_eq_true rfl) (Nat.le_of_ble_eq_true rfl)
    have e1 : sgP (txt t tn) 43 p = p := if_neg c28
    rw [e1]
    have e2 : bI ((txt t tn) p = 45) = bI ((txt t tn) p = 43 ∨ (txt t tn) p = 45) := by by_cases z : (txt t tn) p = 45 <;> simp [bI, z, c28]
    have e3 : sgP (txt t tn) 45 p = pmP (txt t tn) p := by unfold sgP pmP; by_cases z : (txt t tn) p = 45 <;> simp [z, c28]
    have h9 := fa35
    rw [e1, e3] at h9
    exact ⟨by rw [e2], rfl, h9, by rw [bI_f c28]; exact fa39, fr40⟩
  · refine v_aload_n dX5_readPlusOrMinus_9 rfl ?_
    refine v_iconst (v := nI 1) dX5_readPlusOrMinus_10 (by decide) ?_
    refine v_callV (st := []) dX5_readPlusOrMinus_11 (t_X5_keepNumber (v := 1) fa21 hb23 fa24 fa25 haq hm htn ht (by omega) (by omega) (by omega)) wX5_96 fa21 rfl rfl ⟨Nat.le_of_ble_eq_true rfl, Nat.le_of_ble_eq_true rfl⟩ (Nat.le_of_ble_eq_true rfl) ⟨Nat.le_of_ble_eq_true rfl, Nat.le_of_ble_eq_true rfl⟩ (fun r n2 h2 hq => ?_)
    obtain ⟨rfl, hn9, fa42, fa43, sa44⟩ := hq; replace hn9 := hn9.symm; subst hn9
    refine v_st (st2 := []) rfl ?_
    have hb45 := sbP_fr hb23 (sa44 (q + 1) (by omega)) (sa44 (a) (by omega))
    have fa46 := (sa44 (q + 3) (by omega)).trans fa24
    have fr47 : frP (fun z => z ≠ q ∧ z ≠ q + 4) _ _ := fun z (hz : z ≠ q ∧ z ≠ q + 4) => (sa44 z (by omega)).trans (fr26 z hz)
    refine v_iconst (v := nI 1) dX5_readPlusOrMinus_14 (by decide) ?_
    refine v_zret (ty := .boolean) dX5_readPlusOrMinus_15 rfl (by decide) ?_ (Nat.le_of_ble_eq_true rfl) (Nat.le_of_ble_eq_true rfl)
    exact ⟨by rw [bI_t (show (txt t tn) p = 43 ∨ (txt t tn) p = 45 from Or.inl c28)], rfl, by rw [show pmP (txt t tn) p = _ from if_pos (Or.inl c28), ← show sgP (txt t tn) 43 p = p + 1 from if_pos c28]; exact fa42, by rw [bI_t c28]; exact fa43, fr47⟩
