theorem oS_ge {T : Nat → Nat} {p : Nat} (h : (oS T (shI (T p)) p).1 = true) : p + 1 ≤ (oS T (shI (T p)) p).2 := by
  have g1 : ∀ (m : Nat) (s : Bool × Nat), s.2 ≤ (sN T m s).2 := fun m s => by
    unfold sN
    split
    · exact Nat.le_add_right _ _
    · exact Nat.le_refl _
  have g2 : ∀ (c : Nat) (s : Bool × Nat), s.2 ≤ (sS T c s).2 := fun c s => by
    unfold sS sgP
    split
    · show s.2 ≤ (if T s.2 = c then s.2 + 1 else s.2)
      split <;> omega
    · exact Nat.le_refl _
  have g3 : ∀ (s : Bool × Nat), s.2 ≤ (sPM T s).2 := fun s => by
    unfold sPM pmP
    split
    · show s.2 ≤ (if T s.2 = 43 ∨ T s.2 = 45 then s.2 + 1 else s.2)
      split <;> omega
    · exact Nat.le_refl _
  rcases shI_cs (T p) with ⟨hk, hs⟩ | ⟨hk, hs⟩ | ⟨hk, hs⟩ | ⟨hk, hs⟩ | ⟨hk, hs⟩ | ⟨hk, hs⟩ | ⟨hk, hs⟩ | ⟨hk, hs⟩ | ⟨hk, hs⟩ | hs
  all_goals rw [hs] at h ⊢
  · exact g1 1 (true, p + 1)
  · exact g1 1 (true, p + 1)
  · exact Nat.le_trans (g1 1 (true, p + 1)) (Nat.le_trans (g2 58 _) (Nat.le_trans (g1 2 _) (Nat.le_trans (g2 42 _) (g1 2 _))))
  · exact Nat.le_trans (g1 1 (true, p + 1)) (Nat.le_trans (g2 58 _) (Nat.le_trans (g1 2 _) (Nat.le_trans (g2 64 _) (Nat.le_trans (g1 1 _) (Nat.le_trans (g2 61 _) (g1 2 _))))))
  · exact Nat.le_refl _
  · exact g1 1 (true, p + 1)
  · exact g1 1 (true, p + 1)
  · exact Nat.le_trans (g1 1 (true, p + 1)) (g3 _)
  · exact g1 2 (true, p + 1)
  · cases h
theorem oS_0 {T : Nat → Nat} {p : Nat} (h : T p = 0) : oS T (shI (T p)) p = (false, p) := by
  rw [h]
  rfl
/-- a text read so far: the i-th order's reading is s -/
def rI (T : Nat → Nat) (n i : Nat) (s : Bool × Nat) : Prop := (s.1 = false → (rdO T n 30 0).1 = false ∧ (rdO T n 30 0).2.2 = s.2) ∧ (s.1 = true → i < 30 ∧ 2 * i ≤ op T i ∧ s = oS T (shI (T (op T i))) (op T i) ∧ rdO T n 30 0 = addc i (rdO T n (30 - i) (op T i)))
theorem rI_mk {t : Nat → Nat} {n i : Nat} (hn : n ≤ 60) (hi : i ≤ 30) (h1 : 2 * i ≤ op (txt t n) i) (h2 : op (txt t n) i ≤ n) (h3 : rdO (txt t n) n 30 0 = addc i (rdO (txt t n) n (30 - i) (op (txt t n) i))) : rI (txt t n) n i (oS (txt t n) (shI (txt t n (op (txt t n) i))) (op (txt t n) i)) := by
  generalize hT : txt t n = T at *
  generalize hp : op T i = p at *
  refine ⟨fun hf => ?_, fun ht => ⟨?_, by rw [hp]; exact h1, by rw [hp], by rw [hp]; exact h3⟩⟩
  · rw [h3]
    by_cases e : i = 30
    · have z : T p = 0 := by
        rw [← hT]
        exact if_neg (by omega)
      rw [oS_0 z, e]
      exact ⟨rfl, rfl⟩
    · rw [rdO_s (by omega), rdO, if_neg (by rw [hf]; exact Bool.false_ne_true)]
      exact ⟨rfl, rfl⟩
  · rcases Nat.lt_or_ge i 30 with q | q
    · exact q
    · have z : T p = 0 := by
        rw [← hT]
        exact if_neg (by omega)
      rw [oS_0 z] at ht
      cases ht
theorem rI_sk {T : Nat → Nat} {n i : Nat} {s : Bool × Nat} (h : rI T n i s) (ht : s.1 = true) (h2 : s.2 ≠ n) (h3 : ¬ T s.2 = 59) : rI T n (i + 1) (false, s.2) := by
  obtain ⟨a1, a2, a3, a4⟩ := h.2 ht
  refine ⟨fun _ => ?_, fun z => by cases z⟩
  rw [a4, rdO_s a1, rdO, ← a3, if_pos ht, if_neg h2, if_neg h3]
  exact ⟨rfl, rfl⟩
theorem rI_st {t : Nat → Nat} {n i : Nat} {s : Bool × Nat} (hn : n ≤ 60) (h : rI (txt t n) n i s) (ht : s.1 = true) (h2 : s.2 < n) (h3 : txt t n s.2 = 59) : op (txt t n) (i + 1) = s.2 + 1 ∧ rI (txt t n) n (i + 1) (oS (txt t n) (shI (txt t n (s.2 + 1))) (s.2 + 1)) := by
  obtain ⟨a1, a2, a3, a4⟩ := h.2 ht
  have e : op (txt t n) (i + 1) = s.2 + 1 := by rw [op, ← a3]
  have g := oS_ge (T := txt t n) (p := op (txt t n) i) (by rw [← a3]; exact ht)
  rw [← a3] at g
  refine ⟨e, ?_⟩
  have k := rI_mk (t := t) (n := n) (i := i + 1) hn (by omega) (by rw [e]; omega) (by rw [e]; omega) (by rw [e, a4, rdO_s a1, rdO, ← a3, if_pos ht, if_neg (by omega), if_pos h3]; unfold addc; simp only [Nat.add_assoc, Nat.add_comm 1 i])
  rw [e] at k
  exact k
theorem rI_end {T : Nat → Nat} {n i : Nat} {s : Bool × Nat} (h : rI T n i s) (ht : s.1 = true) (h2 : s.2 = n) : rdO T n 30 0 = (true, i + 1, n) := by
  obtain ⟨a1, a2, a3, a4⟩ := h.2 ht
  rw [a4, rdO_s a1, rdO, ← a3, if_pos ht, if_pos h2]
  unfold addc
  simp only [Nat.add_comm 1 i]
set_option maxRecDepth 20000 in
set_option maxHeartbeats 4000000 in
theorem t_X7_orders1 {l : Launch} {G : vG} {h : AH} {n : Nat} {m ch sw tn ln : Nat} {wy dt : Int32} {S : Ln} {X : Nat → Nat} {p w : Nat} (ho : h m = some (mo m ch sw tn p S.2 ln w 0 (nI 0) wy dt)) (htx : h (m + 6) = some (ar G 60 X)) (hX : lrel X S) (hS : tsg S) : Mt l G mX7_orders [.ref m] (n) h 0 0 (fun r n2 h2 => (∃ q : Nat, r = some (.int (nI q))) ∧ n2 = n ∧ h2 m = some (mo m ch sw tn ((rdO (txt S.1 S.2) S.2 30 0).2.2) S.2 ln (bI ((rdO (txt S.1 S.2) S.2 30 0).1 = false)) 0 (nI 0) wy dt) ∧ offn 1 m h h2) := by
  refine Mt.of (by decide) (Nat.le_of_ble_eq_true rfl) rfl ?_
  refine v_ls (ls2 := [some (.ref m), none]) rfl ?_
  have hS60 := hS.1
  refine v_aload_n dX7_orders_0 rfl ?_
  refine v_iconst (v := nI 0) dX7_orders_1 (by decide) ?_
  refine pX7_179 rfl dX7_orders_2 ho (Nat.le_of_ble_eq_true rfl) ?_
  refine nw (fun h1 f1 s1 => ?_)
  have fa21 : h1 (m) = some (.inr (8, [.int (nI 0), .int (nI ch), .int wy, .int dt, .int (nI sw), .ref (m + 1), .ref (m + 2), .ref (m + 3), .ref (m + 4), .ref (m + 5), .ref (m + 6), .ref (m + 7), .int (nI tn), .int (nI 0), .int (nI S.2), .int (nI ln), .int (nI w), .int (nI 0)])) := f1
  have sa21 := s1
  clear f1 s1
  have fa22 := (sa21 (m + 6) (by omega)).trans htx
  have fr23 := offn_in (k := 1) (q := m) offn_rf sa21 (by omega)
  refine v_aload_n dX7_orders_5 rfl ?_
  refine v_iconst (v := nI 0) dX7_orders_6 (by decide) ?_
  refine pX7_185 rfl dX7_orders_7 fa21 (Nat.le_of_ble_eq_true rfl) (by decide) (by decide) ?_
  refine nw (fun h1 f1 s1 => ?_)
  have fa24 : h1 (m) = some (.inr (8, [.int (nI 0), .int (nI ch), .int wy, .int dt, .int (nI sw), .ref (m + 1), .ref (m + 2), .ref (m + 3), .ref (m + 4), .ref (m + 5), .ref (m + 6), .ref (m + 7), .int (nI tn), .int (nI 0), .int (nI S.2), .int (nI ln), .int (nI 0), .int (nI 0)])) := f1
  have sa24 := s1
  clear f1 s1
  have fa25 := (sa24 (m + 6) (by omega)).trans fa22
  have fr26 := offn_in (k := 1) (q := m) fr23 sa24 (by omega)
  refine v_iconst (v := nI 1) dX7_orders_10 (by decide) ?_
  refine v_istore_n dX7_orders_11 rfl (by decide) ?_
  refine v_ls (ls2 := [some (.ref m), some (.int (nI 1))]) rfl ?_
  refine v_aload_n dX7_orders_12 rfl ?_
  refine v_callV (st := []) dX7_orders_13 (t_X7_orderR (p := 0) (w := 0) fa24 fa25 hX hS (by omega)) wX7_214 fa24 rfl rfl ⟨Nat.le_of_ble_eq_true rfl, Nat.le_of_ble_eq_true rfl⟩ (Nat.le_of_ble_eq_true rfl) ⟨Nat.le_of_ble_eq_true rfl, Nat.le_of_ble_eq_true rfl⟩ (fun r n2 h2 hq => ?_)
  obtain ⟨rfl, hn9, fo27, sa27⟩ := hq; replace hn9 := hn9.symm; subst hn9
  refine v_st (st2 := []) rfl ?_
  obtain ⟨s27, hs27⟩ : ∃ z : Bool × Nat, z = oS (txt S.1 S.2) (shI ((txt S.1 S.2) 0)) 0 := ⟨_, rfl⟩
  rw [← hs27] at fo27
  have hle27 : s27.2 ≤ S.2 := by rw [hs27]; exact oS_le (by omega)
  have fa28 := (sa27 (m + 6) (by omega)).trans fa25
  have fr29 := offn_in (k := 1) (q := m) fr26 sa27 (by omega)
  have hr0 : rI (txt S.1 S.2) S.2 0 (oS (txt S.1 S.2) (shI ((txt S.1 S.2) 0)) 0) := rI_mk hS.1 (by decide) (Nat.le_refl _) (Nat.zero_le _) rfl
  rw [← hs27] at hr0
  refine v_ls (ls2 := [some (.ref m), some (.int (nI (0 + 1)))]) rfl ?_
  refine loopH (fun i => [some (.ref m), some (.int (nI (i + 1)))]) (fun i h1 => ∃ s : Bool × Nat, h1 m = some (mo m ch sw tn s.2 S.2 ln (bI (s.1 = false)) 0 (nI 0) wy dt) ∧ h1 (m + 6) = some (ar G 60 X) ∧ offn 1 m h h1 ∧ s.2 ≤ S.2 ∧ rI (txt S.1 S.2) S.2 i s) (N := 31) 0 (by omega) rfl ⟨s27, fo27, fa28, fr29, by omega, hr0⟩ (fun i h1 hi hp9 ihi => ?_)
  clear ho htx
  obtain ⟨s, ho, htx, fr0, hle, hri⟩ := hp9
  refine v_aload_n dX7_orders_16 rfl ?_
  refine fX7_185 (v := .int (nI (bI (s.1 = false)))) rfl dX7_orders_17 ho rfl ?_
  refine n_ifb_ne (tgt := 64) (p := s.1 = false) dX7_orders_20 (by decide) (fun c30 => ?_) (fun c30 => ?_)
  · refine v_iload_n dX7_orders_64 rfl ?_
    refine v_iret dX7_orders_65 rfl ?_ (Nat.le_of_ble_eq_true rfl) (Nat.le_of_ble_eq_true rfl)
    have e9 := hri.1 c30
    exact ⟨⟨i + 1, rfl⟩, rfl, by rw [e9.1, e9.2, show bI (false = false) = bI (s.1 = false) from by rw [c30]]; exact ho, fr0⟩
  · refine v_aload_n dX7_orders_23 rfl ?_
    refine fX7_31 (v := .int (nI 0)) rfl dX7_orders_24 ho rfl ?_
    refine n_if_ne (tgt := 64) (x := 0) dX7_orders_27 (by decide) (by decide) (fun c => absurd c (by decide)) (fun _ => ?_)
    refine v_aload_n dX7_orders_30 rfl ?_
    refine fX7_179 (v := .int (nI s.2)) rfl dX7_orders_31 ho rfl ?_
    refine v_aload_n dX7_orders_34 rfl ?_
    refine fX7_182 (v := .int (nI S.2)) rfl dX7_orders_35 ho rfl ?_
    refine n_icmp_ge (tgt := 64) (x := s.2) (y := S.2) dX7_orders_38 (by decide) (by omega) (by omega) (fun c31 => ?_) (fun c31 => ?_)
    · refine v_iload_n dX7_orders_64 rfl ?_
      refine v_iret dX7_orders_65 rfl ?_ (Nat.le_of_ble_eq_true rfl) (Nat.le_of_ble_eq_true rfl)
      have ht1 : s.1 = true := by cases hz : s.1 with | true => rfl | false => exact absurd hz c30
      have e2 : s.2 = S.2 := by omega
      have e9 := rI_end hri ht1 e2
      exact ⟨⟨i + 1, rfl⟩, rfl, by rw [e9]; show _ = some (mo m ch sw tn S.2 S.2 ln (bI (true = false)) 0 (nI 0) wy dt); rw [show bI (true = false) = bI (s.1 = false) from by rw [ht1]]; have h9 := ho; rw [e2] at h9; exact h9, fr0⟩
    · refine v_aload_n dX7_orders_41 rfl ?_
      refine v_bipush (v := nI 59) dX7_orders_42 (by decide) ?_
      refine v_callV (st := []) dX7_orders_44 (t_X7_mark (s := s) (c := 59) ho htx hX hS (by omega) (by decide) (by decide)) wX7_192 ho rfl rfl ⟨Nat.le_of_ble_eq_true rfl, Nat.le_of_ble_eq_true rfl⟩ (Nat.le_of_ble_eq_true rfl) ⟨Nat.le_of_ble_eq_true rfl, Nat.le_of_ble_eq_true rfl⟩ (fun r n2 h2 hq => ?_)
      obtain ⟨rfl, hn9, fo32, sa32⟩ := hq; replace hn9 := hn9.symm; subst hn9
      refine v_st (st2 := []) rfl ?_
      obtain ⟨s32, hs32⟩ : ∃ z : Bool × Nat, z = sS (txt S.1 S.2) 59 s := ⟨_, rfl⟩
      rw [← hs32] at fo32
      have hle32 : s32.2 ≤ S.2 := by rw [hs32]; exact sS_le (by decide) (by omega)
      have fa33 := (sa32 (m + 6) (by omega)).trans htx
      have fr34 := offn_in (k := 1) (q := m) fr0 sa32 (by omega)
      refine v_aload_n dX7_orders_47 rfl ?_
      refine fX7_185 (v := .int (nI (bI (s32.1 = false)))) rfl dX7_orders_48 fo32 rfl ?_
      refine n_ifb_ne (tgt := 58) (p := s32.1 = false) dX7_orders_51 (by decide) (fun c35 => ?_) (fun c35 => ?_)
      · refine n_iinc (k := 1) (x := i + 1) dX7_orders_58 (by decide) rfl rfl (by decide) ?_
        refine v_ls (ls2 := [some (.ref m), some (.int (nI (i + 1 + 1)))]) rfl ?_
        refine v_goto (tgt := 16) dX7_orders_61 (by decide) ?_
        have ht1 : s.1 = true := by cases hz : s.1 with | true => rfl | false => exact absurd hz c30
        have e9 : s32 = (decide ((txt S.1 S.2) s.2 = 59), sgP (txt S.1 S.2) 59 s.2) := by rw [hs32]; unfold sS; rw [if_pos ht1]
        have q9 : ¬ (txt S.1 S.2) s.2 = 59 := fun z => by have c9 := c35; rw [e9] at c9; exact absurd (decide_eq_true z) (by rw [show decide ((txt S.1 S.2) s.2 = 59) = false from c9]; exact Bool.false_ne_true)
        have e8 : s32 = (false, s.2) := by rw [e9, decide_eq_false q9, show sgP (txt S.1 S.2) 59 s.2 = s.2 from if_neg q9]
        exact ihi (by have := (hri.2 ht1).1; omega) _ ⟨s32, fo32, fa33, fr34, by omega, by rw [e8]; exact rI_sk hri ht1 (by omega) q9⟩
      · refine v_aload_n dX7_orders_54 rfl ?_
        refine v_callV (st := []) dX7_orders_55 (t_X7_orderR (p := s32.2) (w := bI (s32.1 = false)) fo32 fa33 hX hS (by omega)) wX7_214 fo32 rfl rfl ⟨Nat.le_of_ble_eq_true rfl, Nat.le_of_ble_eq_true rfl⟩ (Nat.le_of_ble_eq_true rfl) ⟨Nat.le_of_ble_eq_true rfl, Nat.le_of_ble_eq_true rfl⟩ (fun r n2 h2 hq => ?_)
        obtain ⟨rfl, hn9, fo36, sa36⟩ := hq; replace hn9 := hn9.symm; subst hn9
        refine v_st (st2 := []) rfl ?_
        obtain ⟨s36, hs36⟩ : ∃ z : Bool × Nat, z = oS (txt S.1 S.2) (shI ((txt S.1 S.2) s32.2)) s32.2 := ⟨_, rfl⟩
        rw [← hs36] at fo36
        have hle36 : s36.2 ≤ S.2 := by rw [hs36]; exact oS_le (by omega)
        have fa37 := (sa36 (m + 6) (by omega)).trans fa33
        have fr38 := offn_in (k := 1) (q := m) fr34 sa36 (by omega)
        refine n_iinc (k := 1) (x := i + 1) dX7_orders_58 (by decide) rfl rfl (by decide) ?_
        refine v_ls (ls2 := [some (.ref m), some (.int (nI (i + 1 + 1)))]) rfl ?_
        refine v_goto (tgt := 16) dX7_orders_61 (by decide) ?_
        have ht1 : s.1 = true := by cases hz : s.1 with | true => rfl | false => exact absurd hz c30
        have e9 : s32 = (decide ((txt S.1 S.2) s.2 = 59), sgP (txt S.1 S.2) 59 s.2) := by rw [hs32]; unfold sS; rw [if_pos ht1]
        have q9 : (txt S.1 S.2) s.2 = 59 := by
          rcases Decidable.em ((txt S.1 S.2) s.2 = 59) with z | z
          · exact z
          · exact absurd (show s32.1 = false by rw [e9]; exact decide_eq_false z) c35
        have e8 : s32.2 = s.2 + 1 := by rw [e9]; exact if_pos q9
        exact ihi (by have := (hri.2 ht1).1; omega) _ ⟨s36, fo36, fa37, fr38, by omega, by rw [hs36, e8]; exact (rI_st hS.1 hri ht1 (by omega) q9).2⟩
theorem stp_ok9 {T : Nat → Nat} {b k : Nat} {C D : Ct} {R : Rz} {wy dt : Int32} (h : exA T C k = (none, D)) (hR : R = dO T (op T k) D) (hg : gs (b + 3000 * k) R) : (mf R.1 (nI 0) = nI 0 ∧ exA T C (k + 1) = (none, R.2.1) ∧ rf1 R.2.2 wy = wy ∧ rf2 R.2.2 dt = dt ∧ Iv R.2.1 ∧ bdk (b + 3000 * (k + 1)) R.2.1) ∨ (mf R.1 (nI 0) < 0 ∧ ∃ D2 : Ct, exA T C (k + 1) = (some k, D2)) := by
  obtain ⟨g1, g2, g3⟩ := hg
  by_cases hn : R.1 < 0
  · refine Or.inr ⟨by rw [mf_n hn]; exact hn, D, exA_f h (by rw [← hR]; exact hn)⟩
  · have h0 : R.2.2 = none := g3.resolve_right (fun z => hn (by rw [z]; decide))
    refine Or.inl ⟨mf_p hn, by rw [exA_s h (by rw [← hR]; exact hn), ← hR], by rw [h0]; rfl, by rw [h0]; rfl, g1, g2.up (by omega)⟩
theorem op_le {t : Nat → Nat} {n K : Nat} (hall : ∀ j, j < K → (oS (txt t n) (shI (txt t n (op (txt t n) (0 + j)))) (op (txt t n) (0 + j))).1 = true ∧ (j + 1 < K → txt t n (oS (txt t n) (shI (txt t n (op (txt t n) (0 + j)))) (op (txt t n) (0 + j))).2 = 59 ∧ (oS (txt t n) (shI (txt t n (op (txt t n) (0 + j)))) (op (txt t n) (0 + j))).2 ≠ n) ∧ (j + 1 = K → (oS (txt t n) (shI (txt t n (op (txt t n) (0 + j)))) (op (txt t n) (0 + j))).2 = n)) : ∀ i, i < K → op (txt t n) i ≤ n
  | 0, _ => Nat.zero_le _
  | i + 1, h => by
    have h9 := ((hall i (by omega)).2.1 h).1
    rw [Nat.zero_add] at h9
    have := txt_le (t := t) (n := n) (p := (oS (txt t n) (shI (txt t n (op (txt t n) i))) (op (txt t n) i)).2) (by omega)
    exact this
set_option maxRecDepth 20000 in
set_option maxHeartbeats 4000000 in
theorem t_X7_orders2 {l : Launch} {G : vG} {h : AH} {n : Nat} {m ch sw tn ln : Nat} {wy dt : Int32} {S : Ln} {X : Nat → Nat} {p w b : Nat} {C : Ct} (ho : h m = some (mo m ch sw tn p S.2 ln w 1 (nI 0) wy dt)) (htx : h (m + 6) = some (ar G 60 X)) (hX : lrel X S) (hS : tsg S) (hv : h (m + 1) = some (ar G 182 (vO C))) (hK : bdk b C) (hb1 : 200 ≤ b) (hb2 : b + 100000 ≤ 2 ^ 28) (hI : Iv C) (hrt : (rdO (txt S.1 S.2) S.2 30 0).1 = true) (hr30 : (rdO (txt S.1 S.2) S.2 30 0).2.1 ≤ 30) : Mt l G mX7_orders [.ref m] (n) h 0 0 (fun r n2 h2 => ∃ (q : Nat) (D : Ct) (fl2 wy2 dt2 : Int32) (hr2 : Nat), r = some (.int (nI q)) ∧ n2 = n ∧ h2 m = some (mo m ch sw tn hr2 S.2 ln 0 1 fl2 wy2 dt2) ∧ h2 (m + 1) = some (ar G 182 (vO D)) ∧ offn 2 m h h2 ∧ ((fl2 = nI 0 ∧ wy2 = wy ∧ dt2 = dt ∧ q = (rdO (txt S.1 S.2) S.2 30 0).2.1 ∧ exA (txt S.1 S.2) C (rdO (txt S.1 S.2) S.2 30 0).2.1 = (none, D)) ∨ (fl2 < 0 ∧ ∃ (j : Nat) (D2 : Ct), q = j + 1 ∧ exA (txt S.1 S.2) C (rdO (txt S.1 S.2) S.2 30 0).2.1 = (some j, D2)))) := by
  refine Mt.of (by decide) (Nat.le_of_ble_eq_true rfl) rfl ?_
  refine v_ls (ls2 := [some (.ref m), none]) rfl ?_
  have hS60 := hS.1
  refine v_aload_n dX7_orders_0 rfl ?_
  refine v_iconst (v := nI 0) dX7_orders_1 (by decide) ?_
  refine pX7_179 rfl dX7_orders_2 ho (Nat.le_of_ble_eq_true rfl) ?_
  refine nw (fun h1 f1 s1 => ?_)
  have fa21 : h1 (m) = some (.inr (8, [.int ((nI 0)), .int (nI ch), .int wy, .int dt, .int (nI sw), .ref (m + 1), .ref (m + 2), .ref (m + 3), .ref (m + 4), .ref (m + 5), .ref (m + 6), .ref (m + 7), .int (nI tn), .int (nI 0), .int (nI S.2), .int (nI ln), .int (nI w), .int (nI 1)])) := f1
  have sa21 := s1
  clear f1 s1
  have hv22 := (sa21 (m + 1) (by omega)).trans hv
  have fa23 := (sa21 (m + 6) (by omega)).trans htx
  have fr24 := offn_in (k := 2) (q := m) offn_rf sa21 (by omega)
  refine v_aload_n dX7_orders_5 rfl ?_
  refine v_iconst (v := nI 0) dX7_orders_6 (by decide) ?_
  refine pX7_185 rfl dX7_orders_7 fa21 (Nat.le_of_ble_eq_true rfl) (by decide) (by decide) ?_
  refine nw (fun h1 f1 s1 => ?_)
  have fa25 : h1 (m) = some (.inr (8, [.int ((nI 0)), .int (nI ch), .int wy, .int dt, .int (nI sw), .ref (m + 1), .ref (m + 2), .ref (m + 3), .ref (m + 4), .ref (m + 5), .ref (m + 6), .ref (m + 7), .int (nI tn), .int (nI 0), .int (nI S.2), .int (nI ln), .int (nI 0), .int (nI 1)])) := f1
  have sa25 := s1
  clear f1 s1
  have hv26 := (sa25 (m + 1) (by omega)).trans hv22
  have fa27 := (sa25 (m + 6) (by omega)).trans fa23
  have fr28 := offn_in (k := 2) (q := m) fr24 sa25 (by omega)
  refine v_iconst (v := nI 1) dX7_orders_10 (by decide) ?_
  refine v_istore_n dX7_orders_11 rfl (by decide) ?_
  refine v_ls (ls2 := [some (.ref m), some (.int (nI 1))]) rfl ?_
  obtain ⟨hK0, hall⟩ := rdO_all (T := (txt S.1 S.2)) (n := S.2) 30 0 0 rfl hrt
  have ha0 := (hall 0 hK0).1
  rw [Nat.add_zero] at ha0
  refine v_aload_n dX7_orders_12 rfl ?_
  refine v_callV (st := []) dX7_orders_13 (t_X7_orderD (p := 0) (w := 0) fa25 fa27 hX hS (Nat.zero_le _) hv26 hK (by omega) (by omega) hI ha0) wX7_214 fa25 rfl rfl ⟨Nat.le_of_ble_eq_true rfl, Nat.le_of_ble_eq_true rfl⟩ (Nat.le_of_ble_eq_true rfl) ⟨Nat.le_of_ble_eq_true rfl, Nat.le_of_ble_eq_true rfl⟩ (fun r n2 h2 hq => ?_)
  obtain ⟨rfl, hn9, fo29, hv29, sa29, ok29⟩ := hq; replace hn9 := hn9.symm; subst hn9
  refine v_st (st2 := []) rfl ?_
  obtain ⟨R29, hR29⟩ : ∃ R : Rz, R = dO (txt S.1 S.2) 0 C := ⟨_, rfl⟩
  rw [← hR29] at fo29 hv29 ok29
  have gs29 : gs b R29 := by rw [hR29]; exact gs_dO hI hK (by omega)
  have fa30 := (sa29 (m + 6) (by omega)).trans fa27
  have fr31 := offn_in (k := 2) (q := m) fr28 sa29 (by omega)
  have hJ0 : (mf R29.1 (nI 0) = nI 0 ∧ exA (txt S.1 S.2) C (0 + 1) = (none, R29.2.1) ∧ rf1 R29.2.2 wy = wy ∧ rf2 R29.2.2 dt = dt ∧ Iv R29.2.1 ∧ bdk (b + 3000 * (0 + 1)) R29.2.1) ∨ (mf R29.1 (nI 0) < 0 ∧ ∃ D2 : Ct, exA (txt S.1 S.2) C (0 + 1) = (some 0, D2)) := stp_ok9 (T := (txt S.1 S.2)) (k := 0) (D := C) rfl hR29 gs29
  refine v_ls (ls2 := [some (.ref m), some (.int (nI (0 + 1)))]) rfl ?_
  refine loopH (fun i => [some (.ref m), some (.int (nI (i + 1)))]) (fun i h1 => ∃ (D : Ct) (fl2 wy2 dt2 : Int32), h1 m = some (mo m ch sw tn ((oS (txt S.1 S.2) (shI ((txt S.1 S.2) (op (txt S.1 S.2) i))) (op (txt S.1 S.2) i)).2) S.2 ln 0 1 fl2 wy2 dt2) ∧ h1 (m + 1) = some (ar G 182 (vO D)) ∧ h1 (m + 6) = some (ar G 60 X) ∧ offn 2 m h h1 ∧ i < (rdO (txt S.1 S.2) S.2 30 0).2.1 ∧ ((fl2 = nI 0 ∧ exA (txt S.1 S.2) C (i + 1) = (none, D) ∧ wy2 = wy ∧ dt2 = dt ∧ Iv D ∧ bdk (b + 3000 * (i + 1)) D) ∨ (fl2 < 0 ∧ ∃ D2 : Ct, exA (txt S.1 S.2) C (i + 1) = (some i, D2)))) (N := (rdO (txt S.1 S.2) S.2 30 0).2.1) 0 (by omega) rfl ⟨R29.2.1, _, _, _, fo29, hv29, fa30, fr31, hK0, hJ0⟩ (fun i h1 hi hp9 ihi => ?_)
  clear ho hv htx
  obtain ⟨D, fl2, wy2, dt2, ho, hv, htx, fr0, hiK, hJ⟩ := hp9
  have hai := hall i hiK
  rw [Nat.zero_add] at hai
  have hle : (oS (txt S.1 S.2) (shI ((txt S.1 S.2) (op (txt S.1 S.2) i))) (op (txt S.1 S.2) i)).2 ≤ S.2 := oS_le (op_le hall i hiK)
  rcases hJ with ⟨rfl, hex, hwy, hdt, hID, hKD⟩ | ⟨hfn, D2, hex⟩
  · refine v_aload_n dX7_orders_16 rfl ?_
    refine fX7_185 (v := .int (nI 0)) rfl dX7_orders_17 ho rfl ?_
    refine n_if_ne (tgt := 64) (x := 0) dX7_orders_20 (by decide) (by decide) (fun c => absurd c (by decide)) (fun _ => ?_)
    refine v_aload_n dX7_orders_23 rfl ?_
    refine fX7_31 (v := .int (nI 0)) rfl dX7_orders_24 ho rfl ?_
    refine n_if_ne (tgt := 64) (x := 0) dX7_orders_27 (by decide) (by decide) (fun c => absurd c (by decide)) (fun _ => ?_)
    refine v_aload_n dX7_orders_30 rfl ?_
    refine fX7_179 (v := .int (nI ((oS (txt S.1 S.2) (shI ((txt S.1 S.2) (op (txt S.1 S.2) i))) (op (txt S.1 S.2) i)).2))) rfl dX7_orders_31 ho rfl ?_
    refine v_aload_n dX7_orders_34 rfl ?_
    refine fX7_182 (v := .int (nI S.2)) rfl dX7_orders_35 ho rfl ?_
    refine n_icmp_ge (tgt := 64) (x := (oS (txt S.1 S.2) (shI ((txt S.1 S.2) (op (txt S.1 S.2) i))) (op (txt S.1 S.2) i)).2) (y := S.2) dX7_orders_38 (by decide) (by omega) (by omega) (fun c32 => ?_) (fun c32 => ?_)
    · refine v_iload_n dX7_orders_64 rfl ?_
      refine v_iret dX7_orders_65 rfl ?_ (Nat.le_of_ble_eq_true rfl) (Nat.le_of_ble_eq_true rfl)
      have hiE : i + 1 = (rdO (txt S.1 S.2) S.2 30 0).2.1 := by
        rcases Nat.lt_or_ge (i + 1) (rdO (txt S.1 S.2) S.2 30 0).2.1 with z | z
        · exact absurd (hai.2.1 z).2 (by omega)
        · omega
      exact ⟨i + 1, D, nI 0, wy2, dt2, _, rfl, rfl, ho, hv, fr0, Or.inl ⟨rfl, hwy, hdt, hiE, by rw [← hiE]; exact hex⟩⟩
    · have hi1 : i + 1 < (rdO (txt S.1 S.2) S.2 30 0).2.1 := by
        rcases Nat.lt_or_ge (i + 1) (rdO (txt S.1 S.2) S.2 30 0).2.1 with z | z
        · exact z
        · exact absurd (hai.2.2 (by omega)) (by omega)
      have h59 := (hai.2.1 hi1).1
      refine v_aload_n dX7_orders_41 rfl ?_
      refine v_bipush (v := nI 59) dX7_orders_42 (by decide) ?_
      refine v_callV (st := []) dX7_orders_44 (t_X7_mark (s := (true, (oS (txt S.1 S.2) (shI ((txt S.1 S.2) (op (txt S.1 S.2) i))) (op (txt S.1 S.2) i)).2)) (c := 59) ho htx hX hS (by omega) (by decide) (by decide)) wX7_192 ho rfl rfl ⟨Nat.le_of_ble_eq_true rfl, Nat.le_of_ble_eq_true rfl⟩ (Nat.le_of_ble_eq_true rfl) ⟨Nat.le_of_ble_eq_true rfl, Nat.le_of_ble_eq_true rfl⟩ (fun r n2 h2 hq => ?_)
      obtain ⟨rfl, hn9, fo33, sa33⟩ := hq; replace hn9 := hn9.symm; subst hn9
      refine v_st (st2 := []) rfl ?_
      obtain ⟨s33, hs33⟩ : ∃ z : Bool × Nat, z = sS (txt S.1 S.2) 59 (true, (oS (txt S.1 S.2) (shI ((txt S.1 S.2) (op (txt S.1 S.2) i))) (op (txt S.1 S.2) i)).2) := ⟨_, rfl⟩
      rw [← hs33] at fo33
      have hle33 : s33.2 ≤ S.2 := by rw [hs33]; exact sS_le (by decide) (by omega)
      have hv34 := (sa33 (m + 1) (by omega)).trans hv
      have fa35 := (sa33 (m + 6) (by omega)).trans htx
      have fr36 := offn_in (k := 2) (q := m) fr0 sa33 (by omega)
      have e9 : s33 = (true, op (txt S.1 S.2) (i + 1)) := by rw [hs33, sS_t, decide_eq_true h59, show sgP (txt S.1 S.2) 59 (oS (txt S.1 S.2) (shI ((txt S.1 S.2) (op (txt S.1 S.2) i))) (op (txt S.1 S.2) i)).2 = (oS (txt S.1 S.2) (shI ((txt S.1 S.2) (op (txt S.1 S.2) i))) (op (txt S.1 S.2) i)).2 + 1 from if_pos h59]; rfl
      rw [e9] at fo33 hle33
      have hai1 := hall (i + 1) hi1
      rw [Nat.zero_add] at hai1
      refine v_aload_n dX7_orders_47 rfl ?_
      refine fX7_185 (v := .int (nI 0)) rfl dX7_orders_48 fo33 rfl ?_
      refine n_if_ne (tgt := 58) (x := 0) dX7_orders_51 (by decide) (by decide) (fun c => absurd c (by decide)) (fun _ => ?_)
      refine v_aload_n dX7_orders_54 rfl ?_
      refine v_callV (st := []) dX7_orders_55 (t_X7_orderD (p := op (txt S.1 S.2) (i + 1)) (w := 0) fo33 fa35 hX hS hle33 hv34 hKD (by omega) (by omega) hID hai1.1) wX7_214 fo33 rfl rfl ⟨Nat.le_of_ble_eq_true rfl, Nat.le_of_ble_eq_true rfl⟩ (Nat.le_of_ble_eq_true rfl) ⟨Nat.le_of_ble_eq_true rfl, Nat.le_of_ble_eq_true rfl⟩ (fun r n2 h2 hq => ?_)
      obtain ⟨rfl, hn9, fo37, hv37, sa37, ok37⟩ := hq; replace hn9 := hn9.symm; subst hn9
      refine v_st (st2 := []) rfl ?_
      obtain ⟨R37, hR37⟩ : ∃ R : Rz, R = dO (txt S.1 S.2) (op (txt S.1 S.2) (i + 1)) D := ⟨_, rfl⟩
      rw [← hR37] at fo37 hv37 ok37
      have gs37 : gs (b + 3000 * (i + 1)) R37 := by rw [hR37]; exact gs_dO hID hKD (by omega)
      have fa38 := (sa37 (m + 6) (by omega)).trans fa35
      have fr39 := offn_in (k := 2) (q := m) fr36 sa37 (by omega)
      refine n_iinc (k := 1) (x := i + 1) dX7_orders_58 (by decide) rfl rfl (by decide) ?_
      refine v_ls (ls2 := [some (.ref m), some (.int (nI (i + 1 + 1)))]) rfl ?_
      refine v_goto (tgt := 16) dX7_orders_61 (by decide) ?_
      have hJ1 : (mf R37.1 (nI 0) = nI 0 ∧ exA (txt S.1 S.2) C (i + 1 + 1) = (none, R37.2.1) ∧ rf1 R37.2.2 wy2 = wy ∧ rf2 R37.2.2 dt2 = dt ∧ Iv R37.2.1 ∧ bdk (b + 3000 * (i + 1 + 1)) R37.2.1) ∨ (mf R37.1 (nI 0) < 0 ∧ ∃ D2 : Ct, exA (txt S.1 S.2) C (i + 1 + 1) = (some (i + 1), D2)) := by subst hwy; subst hdt; exact stp_ok9 (T := (txt S.1 S.2)) (k := i + 1) (b := b) hex hR37 (gs37.imp id (fun z => ⟨z.1.up (by omega), z.2⟩))
      exact ihi hiK _ ⟨R37.2.1, _, _, _, fo37, hv37, fa38, fr39, hi1, hJ1⟩
  · refine v_aload_n dX7_orders_16 rfl ?_
    refine fX7_185 (v := .int (nI 0)) rfl dX7_orders_17 ho rfl ?_
    refine n_if_ne (tgt := 64) (x := 0) dX7_orders_20 (by decide) (by decide) (fun c => absurd c (by decide)) (fun _ => ?_)
    refine v_aload_n dX7_orders_23 rfl ?_
    refine fX7_31 (v := .int fl2) rfl dX7_orders_24 ho rfl ?_
    refine v_if_ne (tgt := 64) dX7_orders_27 (by decide) (fun _ => ?_) (fun z => absurd hfn (by rw [z]; decide))
    refine v_iload_n dX7_orders_64 rfl ?_
    refine v_iret dX7_orders_65 rfl ?_ (Nat.le_of_ble_eq_true rfl) (Nat.le_of_ble_eq_true rfl)
    exact ⟨i + 1, D, fl2, wy2, dt2, _, rfl, rfl, ho, hv, fr0, Or.inr ⟨hfn, i, D2, rfl, exA_st hex hiK⟩⟩
