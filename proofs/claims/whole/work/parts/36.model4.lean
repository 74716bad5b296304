def cpL (f g : Nat → Nat) (k i : Nat) : Nat := if i < k then f i else g i
theorem cpL_0 {f g : Nat → Nat} (i : Nat) : g i = cpL f g 0 i := (if_neg (by omega)).symm
theorem cpL_s {f g : Nat → Nat} {k : Nat} (i : Nat) : va_up (cpL f g k) k (f k) i = cpL f g (k + 1) i := by
  unfold va_up cpL
  by_cases h : i = k
  · subst h; rw [if_pos rfl, if_pos (show i < i + 1 by omega)]
  · rw [if_neg h]
    by_cases h2 : i < k
    · rw [if_pos h2, if_pos (show i < k + 1 by omega)]
    · rw [if_neg h2, if_neg (by omega)]
theorem cpL_e {f g : Nat → Nat} {k i : Nat} (h : i < k) : cpL f g k i = f i := if_pos h
def shP (P : Nat → Nat) (k i : Nat) : Nat := if i < k then P (i + 182) else P i
theorem shP_0 {P : Nat → Nat} (i : Nat) : P i = shP P 0 i := (if_neg (by omega)).symm
theorem shP_s {P : Nat → Nat} {k : Nat} (i : Nat) : va_up (shP P k) k (P (k + 182)) i = shP P (k + 1) i := by
  unfold va_up shP
  by_cases h : i = k
  · subst h; rw [if_pos rfl, if_pos (show i < i + 1 by omega)]
  · rw [if_neg h]
    by_cases h2 : i < k
    · rw [if_pos h2, if_pos (show i < k + 1 by omega)]
    · rw [if_neg h2, if_neg (by omega)]
theorem shP_hi {P : Nat → Nat} {k i : Nat} (h : k ≤ i) : shP P k i = P i := if_neg (by omega)
def cpT (P B : Nat → Nat) (c k i : Nat) : Nat := if c * 182 ≤ i ∧ i < c * 182 + k then B (i - c * 182) else P i
theorem cpT_0 {P B : Nat → Nat} {c : Nat} (i : Nat) : P i = cpT P B c 0 i := (if_neg (by omega)).symm
theorem cpT_s {P B : Nat → Nat} {c k : Nat} (i : Nat) : va_up (cpT P B c k) (c * 182 + k) (B k) i = cpT P B c (k + 1) i := by
  unfold va_up cpT
  by_cases h : i = c * 182 + k
  · subst h; rw [if_pos rfl, if_pos (by omega), show c * 182 + k - c * 182 = k by omega]
  · rw [if_neg h]
    by_cases h2 : c * 182 ≤ i ∧ i < c * 182 + k
    · rw [if_pos h2, if_pos (by omega)]
    · rw [if_neg h2, if_neg (by omega)]
/-- the model's past keeps the courts of the history's slots -/
def hR (T : Hs) (P : Nat → Nat) : Prop := ∀ i, i < T.1 → ∀ k, k < 182 → P (i * 182 + k) = vO (T.2.2 ((T.2.1 + 8 - T.1 + i) % 8)) k
theorem hR_keep {T : Hs} {P : Nat → Nat} {C : Ct} {y : Int32} (h : hR T P) (hy : ¬ y < 0) (h8 : T.1 < 8) (hx : T.2.1 < 8) : hR (hkp y C T) (cpT P (vO C) T.1 182) := by
  have e : hkp y C T = (T.1 + 1, (T.2.1 + 1) % 8, su T.2.2 T.2.1 C) := by
    unfold hkp
    rw [if_neg hy, show min (T.1 + 1) 8 = T.1 + 1 by omega]
  rw [e]
  intro i hi k hk
  have hi : i < T.1 + 1 := hi
  show cpT P (vO C) T.1 182 (i * 182 + k) = vO (su T.2.2 T.2.1 C (((T.2.1 + 1) % 8 + 8 - (T.1 + 1) + i) % 8)) k
  unfold cpT
  by_cases q : i = T.1
  · subst q
    rw [if_pos (by omega), show ((T.2.1 + 1) % 8 + 8 - (T.1 + 1) + T.1) % 8 = T.2.1 by omega, show T.1 * 182 + k - T.1 * 182 = k by omega]
    show _ = vO (if T.2.1 = T.2.1 then C else T.2.2 T.2.1) k
    rw [if_pos rfl]
  · rw [if_neg (by omega), h i (by omega) k hk]
    show _ = vO (if ((T.2.1 + 1) % 8 + 8 - (T.1 + 1) + i) % 8 = T.2.1 then C else T.2.2 (((T.2.1 + 1) % 8 + 8 - (T.1 + 1) + i) % 8)) k
    rw [if_neg (by omega), show ((T.2.1 + 1) % 8 + 8 - (T.1 + 1) + i) % 8 = (T.2.1 + 8 - T.1 + i) % 8 by omega]
theorem hR_full {T : Hs} {P : Nat → Nat} {C : Ct} {y : Int32} (h : hR T P) (hy : ¬ y < 0) (h8 : T.1 = 8) (hx : T.2.1 < 8) : hR (hkp y C T) (cpT (shP P 1274) (vO C) 7 182) := by
  have e : hkp y C T = (8, (T.2.1 + 1) % 8, su T.2.2 T.2.1 C) := by
    unfold hkp
    rw [if_neg hy, show min (T.1 + 1) 8 = 8 by omega]
  rw [e]
  intro i hi k hk
  have hi : i < 8 := hi
  show cpT (shP P 1274) (vO C) 7 182 (i * 182 + k) = vO (su T.2.2 T.2.1 C (((T.2.1 + 1) % 8 + 8 - 8 + i) % 8)) k
  unfold cpT shP
  by_cases q : i = 7
  · subst q
    rw [if_pos (by omega), show ((T.2.1 + 1) % 8 + 8 - 8 + 7) % 8 = T.2.1 by omega, show 7 * 182 + k - 7 * 182 = k by omega]
    show _ = vO (if T.2.1 = T.2.1 then C else T.2.2 T.2.1) k
    rw [if_pos rfl]
  · rw [if_neg (by omega), if_pos (by omega), show i * 182 + k + 182 = (i + 1) * 182 + k by omega, h (i + 1) (by omega) k hk]
    show _ = vO (if ((T.2.1 + 1) % 8 + 8 - 8 + i) % 8 = T.2.1 then C else T.2.2 (((T.2.1 + 1) % 8 + 8 - 8 + i) % 8)) k
    rw [if_neg (by omega), show ((T.2.1 + 1) % 8 + 8 - 8 + i) % 8 = (T.2.1 + 8 - T.1 + (i + 1)) % 8 by omega]
theorem hR_pop {T : Hs} {P : Nat → Nat} (h : hR T P) (h0 : 0 < T.1) (h8 : T.1 ≤ 8) (hx : T.2.1 < 8) : hR (hpop T) P := by
  intro i hi k hk
  have hi : i < T.1 - 1 := hi
  rw [h i (by omega) k hk]
  show _ = vO (T.2.2 (((T.2.1 + 7) % 8 + 8 - (T.1 - 1) + i) % 8)) k
  rw [show ((T.2.1 + 7) % 8 + 8 - (T.1 - 1) + i) % 8 = (T.2.1 + 8 - T.1 + i) % 8 by omega]
theorem hR_top {T : Hs} {P : Nat → Nat} (h : hR T P) (h0 : 0 < T.1) (h8 : T.1 ≤ 8) (hx : T.2.1 < 8) {k : Nat} (hk : k < 182) : P ((T.1 - 1) * 182 + k) = vO (T.2.2 ((T.2.1 + 7) % 8)) k := by
  rw [h (T.1 - 1) (by omega) k hk, show (T.2.1 + 8 - T.1 + (T.1 - 1)) % 8 = (T.2.1 + 7) % 8 by omega]
set_option maxRecDepth 20000 in
set_option maxHeartbeats 4000000 in
theorem t_X7_lays {l : Launch} {G : vG} {h : AH} {n : Nat} {a a0 : Nat} {f g : Nat → Nat} (hT : h a = some (ar G 182 g)) (hS : h a0 = some (ar G 182 f)) (hne : a0 ≠ a) : Mt l G mX7_lays [.ref a, .ref a0] (n) h 0 0 (fun r n2 h2 => r = none ∧ n2 = n ∧ h2 a = some (ar G 182 f) ∧ offn 1 a h h2) := by
  refine Mt.of (by decide) (Nat.le_of_ble_eq_true rfl) rfl ?_
  refine v_ls (ls2 := [some (.ref a), some (.ref a0), none]) rfl ?_
  refine v_iconst (v := nI 0) dX7_lays_0 (by decide) ?_
  refine v_istore_n dX7_lays_1 rfl (by decide) ?_
  refine v_ls (ls2 := [some (.ref a), some (.ref a0), some (.int (nI 0))]) rfl ?_
  refine v_arr (f := cpL f g 0) hT (fun i hi => cpL_0 i) (fun h1 f1 s1 => ?_)
  have fa21 := f1
  have sa21 := s1
  clear f1 s1
  have fa22 := (sa21 (a0) (by omega)).trans hS
  have fr23 := offn_in (k := 1) (q := a) offn_rf sa21 (by omega)
  refine loopH (fun k => [some (.ref a), some (.ref a0), some (.int (nI k))]) (fun k h1 => h1 a = some (ar G 182 (cpL f g k)) ∧ h1 a0 = some (ar G 182 f) ∧ offn 1 a h h1) (N := 182) 0 (by omega) rfl ⟨fa21, fa22, fr23⟩ (fun k h1 hk hp0 ihk => ?_)
  clear hT hS
  obtain ⟨hT, hS, fr0⟩ := hp0
  refine v_iload_n dX7_lays_2 rfl ?_
  refine v_sipush (v := nI 182) dX7_lays_3 (by decide) ?_
  refine n_icmp_ge (tgt := 21) (x := k) (y := 182) dX7_lays_6 (by decide) (by omega) (by omega) (fun c24 => ?_) (fun c24 => ?_)
  · have ek : k = 182 := by omega
    subst ek
    refine v_arr (f := f) hT (fun i hi => cpL_e hi) (fun h1 f1 s1 => ?_)
    have fa25 := f1
    have sa25 := s1
    clear f1 s1
    have fa26 := (sa25 (a0) (by omega)).trans hS
    have fr27 := offn_in (k := 1) (q := a) fr0 sa25 (by omega)
    refine v_vret dX7_lays_21 rfl ?_ (Nat.le_of_ble_eq_true rfl) (Nat.le_of_ble_eq_true rfl)
    exact ⟨rfl, rfl, fa25, fr27⟩
  · refine v_aload_n dX7_lays_9 rfl ?_
    refine v_iload_n dX7_lays_10 rfl ?_
    refine v_aload_n dX7_lays_11 rfl ?_
    refine v_iload_n dX7_lays_12 rfl ?_
    refine n_ialdv (f := f) (j := k) (y := f k) dX7_lays_13 hS (by omega) (by decide) rfl ?_
    refine n_iast (f := cpL f g k) (j := k) (x := f k) dX7_lays_14 hT (by omega) (by decide) ?_
    refine nw (fun h1 f1 s1 => ?_)
    have fa28 : h1 (a) = some (ar G 182 (va_up (cpL f g k) k (f k))) := f1
    have sa28 := s1
    clear f1 s1
    have fa29 := (sa28 (a0) (by omega)).trans hS
    have fr30 := offn_in (k := 1) (q := a) fr0 sa28 (by omega)
    refine v_arr (f := cpL f g (k + 1)) fa28 (fun i hi => cpL_s i) (fun h1 f1 s1 => ?_)
    have fa31 := f1
    have sa31 := s1
    clear f1 s1
    have fa32 := (sa31 (a0) (by omega)).trans fa29
    have fr33 := offn_in (k := 1) (q := a) fr30 sa31 (by omega)
    refine n_iinc (k := 1) (x := k) dX7_lays_15 (by decide) rfl rfl (by decide) ?_
    refine v_ls (ls2 := [some (.ref a), some (.ref a0), some (.int (nI (k + 1)))]) rfl ?_
    refine v_goto (tgt := 2) dX7_lays_18 (by decide) ?_
    exact ihk (by omega) _ ⟨fa31, fa32, fr33⟩
set_option maxRecDepth 20000 in
set_option maxHeartbeats 4000000 in
theorem t_X7_begins {l : Launch} {G : vG} {h : AH} {n : Nat} {m ch sv tn hr en ln wg dg : Nat} {fl wy dt : Int32} {F B : Nat → Nat} (ho : h m = some (mo m ch sv tn hr en ln wg dg fl wy dt)) (hv : h (m + 1) = some (ar G 182 F)) (hbe : h (m + 2) = some (ar G 182 B)) : Mt l G mX7_begins [.ref m] (n) h 0 0 (fun r n2 h2 => r = none ∧ n2 = n ∧ h2 m = some (mo m ch sv tn hr en ln wg dg (nI 0) wy dt) ∧ h2 (m + 2) = some (ar G 182 F) ∧ frP (fun z => z ≠ m ∧ z ≠ m + 2) h h2) := by
  refine Mt.of (by decide) (Nat.le_of_ble_eq_true rfl) rfl ?_
  refine v_ls (ls2 := [some (.ref m)]) rfl ?_
  refine v_aload_n dX7_begins_0 rfl ?_
  refine v_iconst (v := nI 0) dX7_begins_1 (by decide) ?_
  refine pX7_31 rfl dX7_begins_2 ho (Nat.le_of_ble_eq_true rfl) ?_
  refine nw (fun h1 f1 s1 => ?_)
  have fa21 : h1 (m) = some (.inr (8, [.int (nI 0), .int (nI ch), .int wy, .int dt, .int (nI sv), .ref (m + 1), .ref (m + 2), .ref (m + 3), .ref (m + 4), .ref (m + 5), .ref (m + 6), .ref (m + 7), .int (nI tn), .int (nI hr), .int (nI en), .int (nI ln), .int (nI wg), .int (nI dg)])) := f1
  have sa21 := s1
  clear f1 s1
  have hv22 := (sa21 (m + 1) (by omega)).trans hv
  have fa23 := (sa21 (m + 2) (by omega)).trans hbe
  have fr24 : frP (fun z => z ≠ m ∧ z ≠ m + 2) _ _ := fun z (hz : z ≠ m ∧ z ≠ m + 2) => sa21 z (by omega)
  refine v_aload_n dX7_begins_5 rfl ?_
  refine fX7_13 (v := .ref (m + 2)) rfl dX7_begins_6 fa21 rfl ?_
  refine v_aload_n dX7_begins_9 rfl ?_
  refine fX7_7 (v := .ref (m + 1)) rfl dX7_begins_10 fa21 rfl ?_
  refine v_callS (st := []) dX7_begins_13 (t_X7_lays (f := F) fa23 hv22 (by omega)) wX7_45 rfl ⟨Nat.le_of_ble_eq_true rfl, Nat.le_of_ble_eq_true rfl⟩ (Nat.le_of_ble_eq_true rfl) ⟨Nat.le_of_ble_eq_true rfl, Nat.le_of_ble_eq_true rfl⟩ (fun r n2 h2 hq => ?_)
  obtain ⟨rfl, hn9, hv25, sa25⟩ := hq; replace hn9 := hn9.symm; subst hn9
  refine v_st (st2 := []) rfl ?_
  have fa26 := (sa25 (m) (by omega)).trans fa21
  have hv27 := (sa25 (m + 1) (by omega)).trans hv22
  have fr28 : frP (fun z => z ≠ m ∧ z ≠ m + 2) _ _ := fun z (hz : z ≠ m ∧ z ≠ m + 2) => (sa25 z (by omega)).trans (fr24 z hz)
  refine v_vret dX7_begins_16 rfl ?_ (Nat.le_of_ble_eq_true rfl) (Nat.le_of_ble_eq_true rfl)
  exact ⟨rfl, rfl, fa26, hv25, fr28⟩
set_option maxRecDepth 20000 in
set_option maxHeartbeats 4000000 in
theorem t_X7_closes {l : Launch} {G : vG} {h : AH} {n : Nat} {m sv tn hr en ln wg dg : Nat} {wy dt y : Int32} {F P : Nat → Nat} {C : Ct} {T : Hs} (ho : h m = some (mo m T.1 sv tn hr en ln wg dg (mf y (nI 0)) wy dt)) (hv : h (m + 1) = some (ar G 182 F)) (hbe : h (m + 2) = some (ar G 182 (vO C))) (hpa : h (m + 5) = some (ar G 1456 P)) (hR9 : hR T P) (ht1 : T.1 ≤ 8) (ht2 : T.2.1 < 8) : Mt l G mX7_closes [.ref m, .int y] (n) h 0 0 (fun r n2 h2 => r = some (.int y) ∧ n2 = n ∧ h2 m = some (mo m (hkp y C T).1 sv tn hr en ln wg dg (mf y (nI 0)) wy dt) ∧ h2 (m + 1) = some (ar G 182 (if y < 0 then vO C else F)) ∧ h2 (m + 2) = some (ar G 182 (vO C)) ∧ (∃ P2 : Nat → Nat, h2 (m + 5) = some (ar G 1456 P2) ∧ hR (hkp y C T) P2) ∧ frP (fun z => z < m ∨ z = m + 3 ∨ z = m + 4 ∨ m + 6 ≤ z) h h2) := by
  refine Mt.of (by decide) (Nat.le_of_ble_eq_true rfl) rfl ?_
  refine v_ls (ls2 := [some (.ref m), some (.int y), none]) rfl ?_
  refine v_aload_n dX7_closes_0 rfl ?_
  refine fX7_31 (v := .int ((mf y (nI 0)))) rfl dX7_closes_1 ho rfl ?_
  by_cases hy : y < 0
  · refine v_if_eq (tgt := 23) dX7_closes_4 (by decide) (fun z => ?_) (fun _ => ?_)
    · rw [mf_n hy] at z; subst z; exact absurd hy (by decide)
    refine v_aload_n dX7_closes_7 rfl ?_
    refine fX7_7 (v := .ref (m + 1)) rfl dX7_closes_8 ho rfl ?_
    refine v_aload_n dX7_closes_11 rfl ?_
    refine fX7_13 (v := .ref (m + 2)) rfl dX7_closes_12 ho rfl ?_
    refine v_callS (st := []) dX7_closes_15 (t_X7_lays (f := vO C) hv hbe (by omega)) wX7_45 rfl ⟨Nat.le_of_ble_eq_true rfl, Nat.le_of_ble_eq_true rfl⟩ (Nat.le_of_ble_eq_true rfl) ⟨Nat.le_of_ble_eq_true rfl, Nat.le_of_ble_eq_true rfl⟩ (fun r n2 h2 hq => ?_)
    obtain ⟨rfl, hn9, hv21, sa21⟩ := hq; replace hn9 := hn9.symm; subst hn9
    refine v_st (st2 := []) rfl ?_
    have fa22 := (sa21 (m) (by omega)).trans ho
    have fa23 := (sa21 (m + 2) (by omega)).trans hbe
    have fa24 := (sa21 (m + 5) (by omega)).trans hpa
    have fr25 : frP (fun z => z < m ∨ z = m + 3 ∨ z = m + 4 ∨ m + 6 ≤ z) _ _ := fun z (hz : z < m ∨ z = m + 3 ∨ z = m + 4 ∨ m + 6 ≤ z) => sa21 z (by omega)
    refine v_aload_n dX7_closes_18 rfl ?_
    refine fX7_31 (v := .int ((mf y (nI 0)))) rfl dX7_closes_19 fa22 rfl ?_
    refine v_iret dX7_closes_22 rfl ?_ (Nat.le_of_ble_eq_true rfl) (Nat.le_of_ble_eq_true rfl)
    have e9 : hkp y C T = T := if_pos hy
    exact ⟨by rw [mf_n hy], rfl, by rw [e9]; exact fa22, by rw [if_pos hy]; exact hv21, fa23, ⟨P, fa24, by rw [e9]; exact hR9⟩, fr25⟩
  · refine v_if_eq (tgt := 23) dX7_closes_4 (by decide) (fun _ => ?_) (fun z => absurd (mf_p hy) z)
    refine v_aload_n dX7_closes_23 rfl ?_
    refine fX7_49 (v := .int (nI T.1)) rfl dX7_closes_24 ho rfl ?_
    refine v_bipush (v := nI 8) dX7_closes_27 (by decide) ?_
    refine n_icmp_ne (tgt := 73) (x := T.1) (y := 8) dX7_closes_29 (by decide) (by omega) (by omega) (fun c26 => ?_) (fun c26 => ?_)
    · refine v_iconst (v := nI 0) dX7_closes_73 (by decide) ?_
      refine v_istore_n dX7_closes_74 rfl (by decide) ?_
      refine v_ls (ls2 := [some (.ref m), some (.int y), some (.int (nI 0))]) rfl ?_
      refine v_arr (f := cpT P (vO C) T.1 0) hpa (fun i hi => cpT_0 i) (fun h1 f1 s1 => ?_)
      have fa27 := f1
      have sa27 := s1
      clear f1 s1
      have fa28 := (sa27 (m) (by omega)).trans ho
      have hv29 := (sa27 (m + 1) (by omega)).trans hv
      have fa30 := (sa27 (m + 2) (by omega)).trans hbe
      have fr31 : frP (fun z => z < m ∨ z = m + 3 ∨ z = m + 4 ∨ m + 6 ≤ z) _ _ := fun z (hz : z < m ∨ z = m + 3 ∨ z = m + 4 ∨ m + 6 ≤ z) => sa27 z (by omega)
      refine loopH (fun k => [some (.ref m), some (.int y), some (.int (nI k))]) (fun k h1 => h1 m = some (mo m T.1 sv tn hr en ln wg dg (mf y (nI 0)) wy dt) ∧ h1 (m + 1) = some (ar G 182 F) ∧ h1 (m + 2) = some (ar G 182 (vO C)) ∧ h1 (m + 5) = some (ar G 1456 (cpT P (vO C) T.1 k)) ∧ frP (fun z => z < m ∨ z = m + 3 ∨ z = m + 4 ∨ m + 6 ≤ z) h h1) (N := 182) 0 (by omega) rfl ⟨fa28, hv29, fa30, fa27, fr31⟩ (fun k h1 hk hp0 ihk => ?_)
      clear ho hv hbe hpa
      obtain ⟨ho, hv, hbe, hpa, fr0⟩ := hp0
      refine v_iload_n dX7_closes_75 rfl ?_
      refine v_sipush (v := nI 182) dX7_closes_76 (by decide) ?_
      refine n_icmp_ge (tgt := 109) (x := k) (y := 182) dX7_closes_79 (by decide) (by omega) (by omega) (fun c32 => ?_) (fun c32 => ?_)
      · have ek : k = 182 := by omega
        subst ek
        refine v_aload_n dX7_closes_109 rfl ?_
        refine v_dup dX7_closes_110 rfl ?_
        refine fX7_49 (v := .int (nI T.1)) rfl dX7_closes_111 ho rfl ?_
        refine v_iconst (v := nI 1) dX7_closes_114 (by decide) ?_
        refine n_iadd (x := T.1) (y := 1) dX7_closes_115 ?_
        refine pX7_49 rfl dX7_closes_116 ho (Nat.le_of_ble_eq_true rfl) ?_
        refine nw (fun h1 f1 s1 => ?_)
        have fa33 : h1 (m) = some (.inr (8, [.int ((mf y (nI 0))), .int (nI (T.1 + 1)), .int wy, .int dt, .int (nI sv), .ref (m + 1), .ref (m + 2), .ref (m + 3), .ref (m + 4), .ref (m + 5), .ref (m + 6), .ref (m + 7), .int (nI tn), .int (nI hr), .int (nI en), .int (nI ln), .int (nI wg), .int (nI dg)])) := f1
        have sa33 := s1
        clear f1 s1
        have hv34 := (sa33 (m + 1) (by omega)).trans hv
        have fa35 := (sa33 (m + 2) (by omega)).trans hbe
        have fa36 := (sa33 (m + 5) (by omega)).trans hpa
        have fr37 : frP (fun z => z < m ∨ z = m + 3 ∨ z = m + 4 ∨ m + 6 ≤ z) _ _ := fun z (hz : z < m ∨ z = m + 3 ∨ z = m + 4 ∨ m + 6 ≤ z) => (sa33 z (by omega)).trans (fr0 z hz)
        refine v_iload_n dX7_closes_119 rfl ?_
        refine v_iret dX7_closes_120 rfl ?_ (Nat.le_of_ble_eq_true rfl) (Nat.le_of_ble_eq_true rfl)
        have e9 : (hkp y C T).1 = T.1 + 1 := by unfold hkp; rw [if_neg hy]; show min (T.1 + 1) 8 = _; omega
        exact ⟨rfl, rfl, by rw [e9]; exact fa33, by rw [if_neg hy]; exact hv34, fa35, ⟨_, fa36, hR_keep hR9 hy (by omega) ht2⟩, fr37⟩
      · refine v_aload_n dX7_closes_82 rfl ?_
        refine fX7_22 (v := .ref (m + 5)) rfl dX7_closes_83 ho rfl ?_
        refine v_aload_n dX7_closes_86 rfl ?_
        refine fX7_49 (v := .int (nI T.1)) rfl dX7_closes_87 ho rfl ?_
        refine v_sipush (v := nI 182) dX7_closes_90 (by decide) ?_
        refine n_imul (x := T.1) (y := 182) dX7_closes_93 ?_
        refine v_iload_n dX7_closes_94 rfl ?_
        refine n_iadd (x := T.1 * 182) (y := k) dX7_closes_95 ?_
        refine v_aload_n dX7_closes_96 rfl ?_
        refine fX7_13 (v := .ref (m + 2)) rfl dX7_closes_97 ho rfl ?_
        refine v_iload_n dX7_closes_100 rfl ?_
        refine n_ialdv (f := vO C) (j := k) (y := (vO C) k) dX7_closes_101 hbe (by omega) (by decide) rfl ?_
        refine n_iast (f := cpT P (vO C) T.1 k) (j := (T.1 * 182) + k) (x := (vO C) k) dX7_closes_102 hpa (by omega) (by decide) ?_
        refine nw (fun h1 f1 s1 => ?_)
        have fa38 : h1 (m + 5) = some (ar G 1456 (va_up (cpT P (vO C) T.1 k) ((T.1 * 182) + k) ((vO C) k))) := f1
        have sa38 := s1
        clear f1 s1
        have fa39 := (sa38 (m) (by omega)).trans ho
        have hv40 := (sa38 (m + 1) (by omega)).trans hv
        have fa41 := (sa38 (m + 2) (by omega)).trans hbe
        have fr42 : frP (fun z => z < m ∨ z = m + 3 ∨ z = m + 4 ∨ m + 6 ≤ z) _ _ := fun z (hz : z < m ∨ z = m + 3 ∨ z = m + 4 ∨ m + 6 ≤ z) => (sa38 z (by omega)).trans (fr0 z hz)
        refine v_arr (f := cpT P (vO C) T.1 (k + 1)) fa38 (fun i hi => cpT_s i) (fun h1 f1 s1 => ?_)
        have fa43 := f1
        have sa43 := s1
        clear f1 s1
        have fa44 := (sa43 (m) (by omega)).trans fa39
        have hv45 := (sa43 (m + 1) (by omega)).trans hv40
        have fa46 := (sa43 (m + 2) (by omega)).trans fa41
        have fr47 : frP (fun z => z < m ∨ z = m + 3 ∨ z = m + 4 ∨ m + 6 ≤ z) _ _ := fun z (hz : z < m ∨ z = m + 3 ∨ z = m + 4 ∨ m + 6 ≤ z) => (sa43 z (by omega)).trans (fr42 z hz)
        refine n_iinc (k := 1) (x := k) dX7_closes_103 (by decide) rfl rfl (by decide) ?_
        refine v_ls (ls2 := [some (.ref m), some (.int y), some (.int (nI (k + 1)))]) rfl ?_
        refine v_goto (tgt := 75) dX7_closes_106 (by decide) ?_
        exact ihk (by omega) _ ⟨fa44, hv45, fa46, fa43, fr47⟩
    · refine v_iconst (v := nI 0) dX7_closes_32 (by decide) ?_
      refine v_istore_n dX7_closes_33 rfl (by decide) ?_
      refine v_ls (ls2 := [some (.ref m), some (.int y), some (.int (nI 0))]) rfl ?_
      refine v_arr (f := shP P 0) hpa (fun i hi => shP_0 i) (fun h1 f1 s1 => ?_)
      have fa48 := f1
      have sa48 := s1
      clear f1 s1
      have fa49 := (sa48 (m) (by omega)).trans ho
      have hv50 := (sa48 (m + 1) (by omega)).trans hv
      have fa51 := (sa48 (m + 2) (by omega)).trans hbe
      have fr52 : frP (fun z => z < m ∨ z = m + 3 ∨ z = m + 4 ∨ m + 6 ≤ z) _ _ := fun z (hz : z < m ∨ z = m + 3 ∨ z = m + 4 ∨ m + 6 ≤ z) => sa48 z (by omega)
      refine loopH (fun k => [some (.ref m), some (.int y), some (.int (nI k))]) (fun k h1 => h1 m = some (mo m T.1 sv tn hr en ln wg dg (mf y (nI 0)) wy dt) ∧ h1 (m + 1) = some (ar G 182 F) ∧ h1 (m + 2) = some (ar G 182 (vO C)) ∧ h1 (m + 5) = some (ar G 1456 (shP P k)) ∧ frP (fun z => z < m ∨ z = m + 3 ∨ z = m + 4 ∨ m + 6 ≤ z) h h1) (N := 1274) 0 (by omega) rfl ⟨fa49, hv50, fa51, fa48, fr52⟩ (fun k h1 hk hp0 ihk => ?_)
      clear ho hv hbe hpa
      obtain ⟨ho, hv, hbe, hpa, fr0⟩ := hp0
      refine v_iload_n dX7_closes_34 rfl ?_
      refine v_sipush (v := nI 1274) dX7_closes_35 (by decide) ?_
      refine n_icmp_ge (tgt := 63) (x := k) (y := 1274) dX7_closes_38 (by decide) (by omega) (by omega) (fun c53 => ?_) (fun c53 => ?_)
      · have ek : k = 1274 := by omega
        subst ek
        have e8 : T.1 = 8 := by omega
        refine v_aload_n dX7_closes_63 rfl ?_
        refine v_dup dX7_closes_64 rfl ?_
        refine fX7_49 (v := .int (nI T.1)) rfl dX7_closes_65 ho rfl ?_
        refine v_iconst (v := nI 1) dX7_closes_68 (by decide) ?_
        refine n_isub (x := T.1) (y := 1) dX7_closes_69 (by omega) ?_
        refine pX7_49 rfl dX7_closes_70 ho (Nat.le_of_ble_eq_true rfl) ?_
        refine nw (fun h1 f1 s1 => ?_)
        have fa54 : h1 (m) = some (.inr (8, [.int ((mf y (nI 0))), .int (nI (T.1 - 1)), .int wy, .int dt, .int (nI sv), .ref (m + 1), .ref (m + 2), .ref (m + 3), .ref (m + 4), .ref (m + 5), .ref (m + 6), .ref (m + 7), .int (nI tn), .int (nI hr), .int (nI en), .int (nI ln), .int (nI wg), .int (nI dg)])) := f1
        have sa54 := s1
        clear f1 s1
        have hv55 := (sa54 (m + 1) (by omega)).trans hv
        have fa56 := (sa54 (m + 2) (by omega)).trans hbe
        have fa57 := (sa54 (m + 5) (by omega)).trans hpa
        have fr58 : frP (fun z => z < m ∨ z = m + 3 ∨ z = m + 4 ∨ m + 6 ≤ z) _ _ := fun z (hz : z < m ∨ z = m + 3 ∨ z = m + 4 ∨ m + 6 ≤ z) => (sa54 z (by omega)).trans (fr0 z hz)
        have hO9 := fa54
        rw [e8] at hO9
        refine v_forget 2 ?_
        refine v_iconst (v := nI 0) dX7_closes_73 (by decide) ?_
        refine v_istore_n dX7_closes_74 rfl (by decide) ?_
        refine v_ls (ls2 := [some (.ref m), some (.int y), some (.int (nI 0))]) rfl ?_
        refine v_arr (f := cpT (shP P 1274) (vO C) 7 0) fa57 (fun i hi => cpT_0 i) (fun h1 f1 s1 => ?_)
        have fa59 := f1
        have sa59 := s1
        clear f1 s1
        have fa60 := (sa59 (m) (by omega)).trans hO9
        have hv61 := (sa59 (m + 1) (by omega)).trans hv55
        have fa62 := (sa59 (m + 2) (by omega)).trans fa56
        have fr63 : frP (fun z => z < m ∨ z = m + 3 ∨ z = m + 4 ∨ m + 6 ≤ z) _ _ := fun z (hz : z < m ∨ z = m + 3 ∨ z = m + 4 ∨ m + 6 ≤ z) => (sa59 z (by omega)).trans (fr58 z hz)
        refine loopH (fun k => [some (.ref m), some (.int y), some (.int (nI k))]) (fun k h1 => h1 m = some (mo m 7 sv tn hr en ln wg dg (mf y (nI 0)) wy dt) ∧ h1 (m + 1) = some (ar G 182 F) ∧ h1 (m + 2) = some (ar G 182 (vO C)) ∧ h1 (m + 5) = some (ar G 1456 (cpT (shP P 1274) (vO C) 7 k)) ∧ frP (fun z => z < m ∨ z = m + 3 ∨ z = m + 4 ∨ m + 6 ≤ z) h h1) (N := 182) 0 (by omega) rfl ⟨fa60, hv61, fa62, fa59, fr63⟩ (fun k h1 hk hp0 ihk => ?_)
        clear ho hv hbe hpa
        obtain ⟨ho, hv, hbe, hpa, fr0⟩ := hp0
        refine v_iload_n dX7_closes_75 rfl ?_
        refine v_sipush (v := nI 182) dX7_closes_76 (by decide) ?_
        refine n_icmp_ge (tgt := 109) (x := k) (y := 182) dX7_closes_79 (by decide) (by omega) (by omega) (fun c64 => ?_) (fun c64 => ?_)
        · have ek : k = 182 := by omega
          subst ek
          refine v_aload_n dX7_closes_109 rfl ?_
          refine v_dup dX7_closes_110 rfl ?_
          refine fX7_49 (v := .int (nI 7)) rfl dX7_closes_111 ho rfl ?_
          refine v_iconst (v := nI 1) dX7_closes_114 (by decide) ?_
          refine n_iadd (x := 7) (y := 1) dX7_closes_115 ?_
          refine pX7_49 rfl dX7_closes_116 ho (Nat.le_of_ble_eq_true rfl) ?_
          refine nw (fun h1 f1 s1 => ?_)
          have fa65 : h1 (m) = some (.inr (8, [.int ((mf y (nI 0))), .int (nI (7 + 1)), .int wy, .int dt, .int (nI sv), .ref (m + 1), .ref (m + 2), .ref (m + 3), .ref (m + 4), .ref (m + 5), .ref (m + 6), .ref (m + 7), .int (nI tn), .int (nI hr), .int (nI en), .int (nI ln), .int (nI wg), .int (nI dg)])) := f1
          have sa65 := s1
          clear f1 s1
          have hv66 := (sa65 (m + 1) (by omega)).trans hv
          have fa67 := (sa65 (m + 2) (by omega)).trans hbe
          have fa68 := (sa65 (m + 5) (by omega)).trans hpa
          have fr69 : frP (fun z => z < m ∨ z = m + 3 ∨ z = m + 4 ∨ m + 6 ≤ z) _ _ := fun z (hz : z < m ∨ z = m + 3 ∨ z = m + 4 ∨ m + 6 ≤ z) => (sa65 z (by omega)).trans (fr0 z hz)
          refine v_iload_n dX7_closes_119 rfl ?_
          refine v_iret dX7_closes_120 rfl ?_ (Nat.le_of_ble_eq_true rfl) (Nat.le_of_ble_eq_true rfl)
          have e9 : (hkp y C T).1 = 8 := by unfold hkp; rw [if_neg hy]; show min (T.1 + 1) 8 = 8; omega
          exact ⟨rfl, rfl, by rw [e9]; exact fa65, by rw [if_neg hy]; exact hv66, fa67, ⟨_, fa68, hR_full hR9 hy e8 ht2⟩, fr69⟩
        · refine v_aload_n dX7_closes_82 rfl ?_
          refine fX7_22 (v := .ref (m + 5)) rfl dX7_closes_83 ho rfl ?_
          refine v_aload_n dX7_closes_86 rfl ?_
          refine fX7_49 (v := .int (nI 7)) rfl dX7_closes_87 ho rfl ?_
          refine v_sipush (v := nI 182) dX7_closes_90 (by decide) ?_
          refine n_imul (x := 7) (y := 182) dX7_closes_93 ?_
          refine v_iload_n dX7_closes_94 rfl ?_
          refine n_iadd (x := 7 * 182) (y := k) dX7_closes_95 ?_
          refine v_aload_n dX7_closes_96 rfl ?_
          refine fX7_13 (v := .ref (m + 2)) rfl dX7_closes_97 ho rfl ?_
          refine v_iload_n dX7_closes_100 rfl ?_
          refine n_ialdv (f := vO C) (j := k) (y := (vO C) k) dX7_closes_101 hbe (by omega) (by decide) rfl ?_
          refine n_iast (f := cpT (shP P 1274) (vO C) 7 k) (j := (7 * 182) + k) (x := (vO C) k) dX7_closes_102 hpa (by omega) (by decide) ?_
          refine nw (fun h1 f1 s1 => ?_)
          have fa70 : h1 (m + 5) = some (ar G 1456 (va_up (cpT (shP P 1274) (vO C) 7 k) ((7 * 182) + k) ((vO C) k))) := f1
          have sa70 := s1
          clear f1 s1
          have fa71 := (sa70 (m) (by omega)).trans ho
          have hv72 := (sa70 (m + 1) (by omega)).trans hv
          have fa73 := (sa70 (m + 2) (by omega)).trans hbe
          have fr74 : frP (fun z => z < m ∨ z = m + 3 ∨ z = m + 4 ∨ m + 6 ≤ z) _ _ := fun z (hz : z < m ∨ z = m + 3 ∨ z = m + 4 ∨ m + 6 ≤ z) => (sa70 z (by omega)).trans (fr0 z hz)
          refine v_arr (f := cpT (shP P 1274) (vO C) 7 (k + 1)) fa70 (fun i hi => cpT_s i) (fun h1 f1 s1 => ?_)
          have fa75 := f1
          have sa75 := s1
          clear f1 s1
          have fa76 := (sa75 (m) (by omega)).trans fa71
          have hv77 := (sa75 (m + 1) (by omega)).trans hv72
          have fa78 := (sa75 (m + 2) (by omega)).trans fa73
          have fr79 : frP (fun z => z < m ∨ z = m + 3 ∨ z = m + 4 ∨ m + 6 ≤ z) _ _ := fun z (hz : z < m ∨ z = m + 3 ∨ z = m + 4 ∨ m + 6 ≤ z) => (sa75 z (by omega)).trans (fr74 z hz)
          refine n_iinc (k := 1) (x := k) dX7_closes_103 (by decide) rfl rfl (by decide) ?_
          refine v_ls (ls2 := [some (.ref m), some (.int y), some (.int (nI (k + 1)))]) rfl ?_
          refine v_goto (tgt := 75) dX7_closes_106 (by decide) ?_
          exact ihk (by omega) _ ⟨fa76, hv77, fa78, fa75, fr79⟩
      · refine v_aload_n dX7_closes_41 rfl ?_
        refine fX7_22 (v := .ref (m + 5)) rfl dX7_closes_42 ho rfl ?_
        refine v_iload_n dX7_closes_45 rfl ?_
        refine v_aload_n dX7_closes_46 rfl ?_
        refine fX7_22 (v := .ref (m + 5)) rfl dX7_closes_47 ho rfl ?_
        refine v_iload_n dX7_closes_50 rfl ?_
        refine v_sipush (v := nI 182) dX7_closes_51 (by decide) ?_
        refine n_iadd (x := k) (y := 182) dX7_closes_54 ?_
        refine n_ialdv (f := shP P k) (j := k + 182) (y := P (k + 182)) dX7_closes_55 hpa (by omega) (by decide) (shP_hi (by omega)) ?_
        refine n_iast (f := shP P k) (j := k) (x := P (k + 182)) dX7_closes_56 hpa (by omega) (by decide) ?_
        refine nw (fun h1 f1 s1 => ?_)
        have fa80 : h1 (m + 5) = some (ar G 1456 (va_up (shP P k) k (P (k + 182)))) := f1
        have sa80 := s1
        clear f1 s1
        have fa81 := (sa80 (m) (by omega)).trans ho
        have hv82 := (sa80 (m + 1) (by omega)).trans hv
        have fa83 := (sa80 (m + 2) (by omega)).trans hbe
        have fr84 : frP (fun z => z < m ∨ z = m + 3 ∨ z = m + 4 ∨ m + 6 ≤ z) _ _ := fun z (hz : z < m ∨ z = m + 3 ∨ z = m + 4 ∨ m + 6 ≤ z) => (sa80 z (by omega)).trans (fr0 z hz)
        refine v_arr (f := shP P (k + 1)) fa80 (fun i hi => shP_s i) (fun h1 f1 s1 => ?_)
        have fa85 := f1
        have sa85 := s1
        clear f1 s1
        have fa86 := (sa85 (m) (by omega)).trans fa81
        have hv87 := (sa85 (m + 1) (by omega)).trans hv82
        have fa88 := (sa85 (m + 2) (by omega)).trans fa83
        have fr89 : frP (fun z => z < m ∨ z = m + 3 ∨ z = m + 4 ∨ m + 6 ≤ z) _ _ := fun z (hz : z < m ∨ z = m + 3 ∨ z = m + 4 ∨ m + 6 ≤ z) => (sa85 z (by omega)).trans (fr84 z hz)
        refine n_iinc (k := 1) (x := k) dX7_closes_57 (by decide) rfl rfl (by decide) ?_
        refine v_ls (ls2 := [some (.ref m), some (.int y), some (.int (nI (k + 1)))]) rfl ?_
        refine v_goto (tgt := 34) dX7_closes_60 (by decide) ?_
        exact ihk (by omega) _ ⟨fa86, hv87, fa88, fa85, fr89⟩
/-- what a public change of the model does -/
def pmq (G : vG) (m sv tn hr en ln wg dg : Nat) (wy dt : Int32) (C : Ct) (T : Hs) (h : AH) (n : Nat) (R : Rz) : Option Value → Nat → AH → Prop := fun r n2 h2 => r = some (.int R.1) ∧ n2 = n ∧ h2 m = some (mo m (hkp R.1 C T).1 sv tn hr en ln wg dg (mf R.1 (nI 0)) (rf1 R.2.2 wy) (rf2 R.2.2 dt)) ∧ h2 (m + 1) = some (ar G 182 (vO R.2.1)) ∧ (∃ B2 : Nat → Nat, h2 (m + 2) = some (ar G 182 B2)) ∧ (∃ P2 : Nat → Nat, h2 (m + 5) = some (ar G 1456 P2) ∧ hR (hkp R.1 C T) P2) ∧ frP (fun z => z < m ∨ z = m + 3 ∨ z = m + 4 ∨ m + 6 ≤ z) h h2
set_option maxRecDepth 20000 in
set_option maxHeartbeats 4000000 in
theorem t_X7_fool {l : Launch} {G : vG} {h : AH} {n : Nat} {s : Int32} {m sv tn hr en ln wg dg : Nat} {fl wy dt : Int32} {b : Nat} {C : Ct} {B P : Nat → Nat} {T : Hs} (ho : h m = some (mo m T.1 sv tn hr en ln wg dg fl wy dt)) (hv : h (m + 1) = some (ar G 182 (vO C))) (hbe : h (m + 2) = some (ar G 182 B)) (hpa : h (m + 5) = some (ar G 1456 P)) (hK : bdk b C) (hb1 : 200 ≤ b) (hb2 : b + 5000 ≤ 2 ^ 28) (hI : Iv C) (hR9 : hR T P) (ht1 : T.1 ≤ 8) (ht2 : T.2.1 < 8) : Mt l G mX7_fool [.ref m, .int s] (n) h 0 0 (pmq G m sv tn hr en ln wg dg wy dt C T h n (dFool C s)) := by
  refine Mt.of (by decide) (Nat.le_of_ble_eq_true rfl) rfl ?_
  refine v_ls (ls2 := [some (.ref m), some (.int s)]) rfl ?_
  refine v_aload_n dX7_fool_0 rfl ?_
  refine v_callV (st := []) dX7_fool_1 (t_X7_begins (F := vO C) ho hv hbe) wX7_69 ho rfl rfl ⟨Nat.le_of_ble_eq_true rfl, Nat.le_of_ble_eq_true rfl⟩ (Nat.le_of_ble_eq_true rfl) ⟨Nat.le_of_ble_eq_true rfl, Nat.le_of_ble_eq_true rfl⟩ (fun r n2 h2 hq => ?_)
  obtain ⟨rfl, hn9, fo21, fb21, fr21⟩ := hq; replace hn9 := hn9.symm; subst hn9
  refine v_st (st2 := []) rfl ?_
  have hv22 := (fr21 (m + 1) (by omega)).trans hv
  have fa23 := (fr21 (m + 5) (by omega)).trans hpa
  have fr24 : frP (fun z => z < m ∨ z = m + 3 ∨ z = m + 4 ∨ m + 6 ≤ z) _ _ := fun z (hz : z < m ∨ z = m + 3 ∨ z = m + 4 ∨ m + 6 ≤ z) => fr21 z (by omega)
  refine v_aload_n dX7_fool_4 rfl ?_
  refine v_aload_n dX7_fool_5 rfl ?_
  refine v_iload_n dX7_fool_6 rfl ?_
  refine v_callV (st := [.ref m]) dX7_fool_7 (t_X7_comes fo21 hv22 hK (by omega) (by omega) hI) wX7_72 fo21 rfl rfl ⟨Nat.le_of_ble_eq_true rfl, Nat.le_of_ble_eq_true rfl⟩ (Nat.le_of_ble_eq_true rfl) ⟨Nat.le_of_ble_eq_true rfl, Nat.le_of_ble_eq_true rfl⟩ (fun r n2 h2 hq => ?_)
  obtain ⟨rfl, hn9, fo25, hv25, sa25, ok25⟩ := hq; replace hn9 := hn9.symm; subst hn9
  obtain ⟨R25, hR25⟩ : ∃ R : Rz, R = dFool C s := ⟨_, rfl⟩
  rw [← hR25] at fo25 hv25 ok25
  refine v_st (st2 := [.int R25.1, .ref m]) (by rw [hR25]; rfl) ?_
  have fa26 := (sa25 (m + 2) (by omega)).trans fb21
  have fa27 := (sa25 (m + 5) (by omega)).trans fa23
  have fr28 : frP (fun z => z < m ∨ z = m + 3 ∨ z = m + 4 ∨ m + 6 ≤ z) _ _ := fun z (hz : z < m ∨ z = m + 3 ∨ z = m + 4 ∨ m + 6 ≤ z) => (sa25 z (by omega)).trans (fr24 z hz)
  refine v_callV (st := []) dX7_fool_10 (t_X7_closes (y := R25.1) (C := C) fo25 hv25 fa26 fa27 hR9 ht1 ht2) wX7_75 fo25 rfl rfl ⟨Nat.le_of_ble_eq_true rfl, Nat.le_of_ble_eq_true rfl⟩ (Nat.le_of_ble_eq_true rfl) ⟨Nat.le_of_ble_eq_true rfl, Nat.le_of_ble_eq_true rfl⟩ (fun r n2 h2 hq => ?_)
  obtain ⟨rfl, hn9, co29, cv29, cb29, cp29, cf29⟩ := hq; replace hn9 := hn9.symm; subst hn9
  refine v_st (st2 := [.int R25.1]) rfl ?_
  refine v_iret dX7_fool_13 rfl ?_ (Nat.le_of_ble_eq_true rfl) (Nat.le_of_ble_eq_true rfl)
  have hv9 : (if R25.1 < 0 then vO C else vO R25.2.1) = vO R25.2.1 := (Decidable.em (R25.1 < 0)).elim (fun z => by rw [if_pos z, ok25 z]) (fun z => if_neg z)
  rw [hv9] at cv29
  subst hR25
  exact ⟨rfl, rfl, co29, cv29, ⟨_, cb29⟩, cp29, fun z hz => (cf29 z hz).trans (fr28 z hz)⟩
set_option maxRecDepth 20000 in
set_option maxHeartbeats 4000000 in
theorem t_X7_joke {l : Launch} {G : vG} {h : AH} {n : Nat} {s : Int32} {m sv tn hr en ln wg dg : Nat} {fl wy dt : Int32} {b : Nat} {C : Ct} {B P : Nat → Nat} {T : Hs} (ho : h m = some (mo m T.1 sv tn hr en ln wg dg fl wy dt)) (hv : h (m + 1) = some (ar G 182 (vO C))) (hbe : h (m + 2) = some (ar G 182 B)) (hpa : h (m + 5) = some (ar G 1456 P)) (hK : bdk b C) (hb1 : 200 ≤ b) (hb2 : b + 5000 ≤ 2 ^ 28) (hI : Iv C) (hR9 : hR T P) (ht1 : T.1 ≤ 8) (ht2 : T.2.1 < 8) : Mt l G mX7_joke [.ref m, .int s] (n) h 0 0 (pmq G m sv tn hr en ln wg dg wy dt C T h n (dJoke C s)) := by
  refine Mt.of (by decide) (Nat.le_of_ble_eq_true rfl) rfl ?_
  refine v_ls (ls2 := [some (.ref m), some (.int s)]) rfl ?_
  refine v_aload_n dX7_joke_0 rfl ?_
  refine v_callV (st := []) dX7_joke_1 (t_X7_begins (F := vO C) ho hv hbe) wX7_69 ho rfl rfl ⟨Nat.le_of_ble_eq_true rfl, Nat.le_of_ble_eq_true rfl⟩ (Nat.le_of_ble_eq_true rfl) ⟨Nat.le_of_ble_eq_true rfl, Nat.le_of_ble_eq_true rfl⟩ (fun r n2 h2 hq => ?_)
  obtain ⟨rfl, hn9, fo21, fb21, fr21⟩ := hq; replace hn9 := hn9.symm; subst hn9
  refine v_st (st2 := []) rfl ?_
  have hv22 := (fr21 (m + 1) (by omega)).trans hv
  have fa23 := (fr21 (m + 5) (by omega)).trans hpa
  have fr24 : frP (fun z => z < m ∨ z = m + 3 ∨ z = m + 4 ∨ m + 6 ≤ z) _ _ := fun z (hz : z < m ∨ z = m + 3 ∨ z = m + 4 ∨ m + 6 ≤ z) => fr21 z (by omega)
  refine v_aload_n dX7_joke_4 rfl ?_
  refine v_aload_n dX7_joke_5 rfl ?_
  refine v_iload_n dX7_joke_6 rfl ?_
  refine v_callV (st := [.ref m]) dX7_joke_7 (t_X7_jokes fo21 hv22 hK (by omega) (by omega) hI) wX7_78 fo21 rfl rfl ⟨Nat.le_of_ble_eq_true rfl, Nat.le_of_ble_eq_true rfl⟩ (Nat.le_of_ble_eq_true rfl) ⟨Nat.le_of_ble_eq_true rfl, Nat.le_of_ble_eq_true rfl⟩ (fun r n2 h2 hq => ?_)
  obtain ⟨rfl, hn9, fo25, hv25, sa25, ok25⟩ := hq; replace hn9 := hn9.symm; subst hn9
  obtain ⟨R25, hR25⟩ : ∃ R : Rz, R = dJoke C s := ⟨_, rfl⟩
  rw [← hR25] at fo25 hv25 ok25
  refine v_st (st2 := [.int R25.1, .ref m]) (by rw [hR25]; rfl) ?_
  have fa26 := (sa25 (m + 2) (by omega)).trans fb21
  have fa27 := (sa25 (m + 5) (by omega)).trans fa23
  have fr28 : frP (fun z => z < m ∨ z = m + 3 ∨ z = m + 4 ∨ m + 6 ≤ z) _ _ := fun z (hz : z < m ∨ z = m + 3 ∨ z = m + 4 ∨ m + 6 ≤ z) => (sa25 z (by omega)).trans (fr24 z hz)
  refine v_callV (st := []) dX7_joke_10 (t_X7_closes (y := R25.1) (C := C) fo25 hv25 fa26 fa27 hR9 ht1 ht2) wX7_75 fo25 rfl rfl ⟨Nat.le_of_ble_eq_true rfl, Nat.le_of_ble_eq_true rfl⟩ (Nat.le_of_ble_eq_true rfl) ⟨Nat.le_of_ble_eq_true rfl, Nat.le_of_ble_eq_true rfl⟩ (fun r n2 h2 hq => ?_)
  obtain ⟨rfl, hn9, co29, cv29, cb29, cp29, cf29⟩ := hq; replace hn9 := hn9.symm; subst hn9
  refine v_st (st2 := [.int R25.1]) rfl ?_
  refine v_iret dX7_joke_13 rfl ?_ (Nat.le_of_ble_eq_true rfl) (Nat.le_of_ble_eq_true rfl)
  have hv9 : (if R25.1 < 0 then vO C else vO R25.2.1) = vO R25.2.1 := (Decidable.em (R25.1 < 0)).elim (fun z => by rw [if_pos z, ok25 z]) (fun z => if_neg z)
  rw [hv9] at cv29
  subst hR25
  exact ⟨rfl, rfl, co29, cv29, ⟨_, cb29⟩, cp29, fun z hz => (cf29 z hz).trans (fr28 z hz)⟩
set_option maxRecDepth 20000 in
set_option maxHeartbeats 4000000 in
theorem t_X7_patent {l : Launch} {G : vG} {h : AH} {n : Nat} {f j x : Int32} {m sv tn hr en ln wg dg : Nat} {fl wy dt : Int32} {b : Nat} {C : Ct} {B P : Nat → Nat} {T : Hs} (ho : h m = some (mo m T.1 sv tn hr en ln wg dg fl wy dt)) (hv : h (m + 1) = some (ar G 182 (vO C))) (hbe : h (m + 2) = some (ar G 182 B)) (hpa : h (m + 5) = some (ar G 1456 P)) (hK : bdk b C) (hb1 : 200 ≤ b) (hb2 : b + 5000 ≤ 2 ^ 28) (hI : Iv C) (hR9 : hR T P) (ht1 : T.1 ≤ 8) (ht2 : T.2.1 < 8) : Mt l G mX7_patent [.ref m, .int f, .int j, .int x] (n) h 0 0 (pmq G m sv tn hr en ln wg dg wy dt C T h n (dPat C f j x)) := by
  refine Mt.of (by decide) (Nat.le_of_ble_eq_true rfl) rfl ?_
  refine v_ls (ls2 := [some (.ref m), some (.int f), some (.int j), some (.int x)]) rfl ?_
  refine v_aload_n dX7_patent_0 rfl ?_
  refine v_callV (st := []) dX7_patent_1 (t_X7_begins (F := vO C) ho hv hbe) wX7_69 ho rfl rfl ⟨Nat.le_of_ble_eq_true rfl, Nat.le_of_ble_eq_true rfl⟩ (Nat.le_of_ble_eq_true rfl) ⟨Nat.le_of_ble_eq_true rfl, Nat.le_of_ble_eq_true rfl⟩ (fun r n2 h2 hq => ?_)
  obtain ⟨rfl, hn9, fo21, fb21, fr21⟩ := hq; replace hn9 := hn9.symm; subst hn9
  refine v_st (st2 := []) rfl ?_
  have hv22 := (fr21 (m + 1) (by omega)).trans hv
  have fa23 := (fr21 (m + 5) (by omega)).trans hpa
  have fr24 : frP (fun z => z < m ∨ z = m + 3 ∨ z = m + 4 ∨ m + 6 ≤ z) _ _ := fun z (hz : z < m ∨ z = m + 3 ∨ z = m + 4 ∨ m + 6 ≤ z) => fr21 z (by omega)
  refine v_aload_n dX7_patent_4 rfl ?_
  refine v_aload_n dX7_patent_5 rfl ?_
  refine v_iload_n dX7_patent_6 rfl ?_
  refine v_iload_n dX7_patent_7 rfl ?_
  refine v_iload_n dX7_patent_8 rfl ?_
  refine v_callV (st := [.ref m]) dX7_patent_9 (t_X7_patents fo21 hv22 hK (by omega) (by omega) hI) wX7_91 fo21 rfl rfl ⟨Nat.le_of_ble_eq_true rfl, Nat.le_of_ble_eq_true rfl⟩ (Nat.le_of_ble_eq_true rfl) ⟨Nat.le_of_ble_eq_true rfl, Nat.le_of_ble_eq_true rfl⟩ (fun r n2 h2 hq => ?_)
  obtain ⟨rfl, hn9, fo25, hv25, sa25, ok25⟩ := hq; replace hn9 := hn9.symm; subst hn9
  obtain ⟨R25, hR25⟩ : ∃ R : Rz, R = dPat C f j x := ⟨_, rfl⟩
  rw [← hR25] at fo25 hv25 ok25
  refine v_st (st2 := [.int R25.1, .ref m]) (by rw [hR25]; rfl) ?_
  have fa26 := (sa25 (m + 2) (by omega)).trans fb21
  have fa27 := (sa25 (m + 5) (by omega)).trans fa23
  have fr28 : frP (fun z => z < m ∨ z = m + 3 ∨ z = m + 4 ∨ m + 6 ≤ z) _ _ := fun z (hz : z < m ∨ z = m + 3 ∨ z = m + 4 ∨ m + 6 ≤ z) => (sa25 z (by omega)).trans (fr24 z hz)
  refine v_callV (st := []) dX7_patent_12 (t_X7_closes (y := R25.1) (C := C) fo25 hv25 fa26 fa27 hR9 ht1 ht2) wX7_75 fo25 rfl rfl ⟨Nat.le_of_ble_eq_true rfl, Nat.le_of_ble_eq_true rfl⟩ (Nat.le_of_ble_eq_true rfl) ⟨Nat.le_of_ble_eq_true rfl, Nat.le_of_ble_eq_true rfl⟩ (fun r n2 h2 hq => ?_)
  obtain ⟨rfl, hn9, co29, cv29, cb29, cp29, cf29⟩ := hq; replace hn9 := hn9.symm; subst hn9
  refine v_st (st2 := [.int R25.1]) rfl ?_
  refine v_iret dX7_patent_15 rfl ?_ (Nat.le_of_ble_eq_true rfl) (Nat.le_of_ble_eq_true rfl)
  have hv9 : (if R25.1 < 0 then vO C else vO R25.2.1) = vO R25.2.1 := (Decidable.em (R25.1 < 0)).elim (fun z => by rw [if_pos z, ok25 z]) (fun z => if_neg z)
  rw [hv9] at cv29
  subst hR25
  exact ⟨rfl, rfl, co29, cv29, ⟨_, cb29⟩, cp29, fun z hz => (cf29 z hz).trans (fr28 z hz)⟩
set_option maxRecDepth 20000 in
set_option maxHeartbeats 4000000 in
theorem t_X7_insure {l : Launch} {G : vG} {h : AH} {n : Nat} {f : Int32} {m sv tn hr en ln wg dg : Nat} {fl wy dt : Int32} {b : Nat} {C : Ct} {B P : Nat → Nat} {T : Hs} (ho : h m = some (mo m T.1 sv tn hr en ln wg dg fl wy dt)) (hv : h (m + 1) = some (ar G 182 (vO C))) (hbe : h (m + 2) = some (ar G 182 B)) (hpa : h (m + 5) = some (ar G 1456 P)) (hK : bdk b C) (hb1 : 200 ≤ b) (hb2 : b + 5000 ≤ 2 ^ 28) (hI : Iv C) (hR9 : hR T P) (ht1 : T.1 ≤ 8) (ht2 : T.2.1 < 8) : Mt l G mX7_insure [.ref m, .int f] (n) h 0 0 (pmq G m sv tn hr en ln wg dg wy dt C T h n (dIns C f)) := by
  refine Mt.of (by decide) (Nat.le_of_ble_eq_true rfl) rfl ?_
  refine v_ls (ls2 := [some (.ref m), some (.int f)]) rfl ?_
  refine v_aload_n dX7_insure_0 rfl ?_
  refine v_callV (st := []) dX7_insure_1 (t_X7_begins (F := vO C) ho hv hbe) wX7_69 ho rfl rfl ⟨Nat.le_of_ble_eq_true rfl, Nat.le_of_ble_eq_true rfl⟩ (Nat.le_of_ble_eq_true rfl) ⟨Nat.le_of_ble_eq_true rfl, Nat.le_of_ble_eq_true rfl⟩ (fun r n2 h2 hq => ?_)
  obtain ⟨rfl, hn9, fo21, fb21, fr21⟩ := hq; replace hn9 := hn9.symm; subst hn9
  refine v_st (st2 := []) rfl ?_
  have hv22 := (fr21 (m + 1) (by omega)).trans hv
  have fa23 := (fr21 (m + 5) (by omega)).trans hpa
  have fr24 : frP (fun z => z < m ∨ z = m + 3 ∨ z = m + 4 ∨ m + 6 ≤ z) _ _ := fun z (hz : z < m ∨ z = m + 3 ∨ z = m + 4 ∨ m + 6 ≤ z) => fr21 z (by omega)
  refine v_aload_n dX7_insure_4 rfl ?_
  refine v_aload_n dX7_insure_5 rfl ?_
  refine v_iload_n dX7_insure_6 rfl ?_
  refine v_callV (st := [.ref m]) dX7_insure_7 (t_X7_insures fo21 hv22 hK (by omega) (by omega) hI) wX7_95 fo21 rfl rfl ⟨Nat.le_of_ble_eq_true rfl, Nat.le_of_ble_eq_true rfl⟩ (Nat.le_of_ble_eq_true rfl) ⟨Nat.le_of_ble_eq_true rfl, Nat.le_of_ble_eq_true rfl⟩ (fun r n2 h2 hq => ?_)
  obtain ⟨rfl, hn9, fo25, hv25, sa25, ok25⟩ := hq; replace hn9 := hn9.symm; subst hn9
  obtain ⟨R25, hR25⟩ : ∃ R : Rz, R = dIns C f := ⟨_, rfl⟩
  rw [← hR25] at fo25 hv25 ok25
  refine v_st (st2 := [.int R25.1, .ref m]) (by rw [hR25]; rfl) ?_
  have fa26 := (sa25 (m + 2) (by omega)).trans fb21
  have fa27 := (sa25 (m + 5) (by omega)).trans fa23
  have fr28 : frP (fun z => z < m ∨ z = m + 3 ∨ z = m + 4 ∨ m + 6 ≤ z) _ _ := fun z (hz : z < m ∨ z = m + 3 ∨ z = m + 4 ∨ m + 6 ≤ z) => (sa25 z (by omega)).trans (fr24 z hz)
  refine v_callV (st := []) dX7_insure_10 (t_X7_closes (y := R25.1) (C := C) fo25 hv25 fa26 fa27 hR9 ht1 ht2) wX7_75 fo25 rfl rfl ⟨Nat.le_of_ble_eq_true rfl, Nat.le_of_ble_eq_true rfl⟩ (Nat.le_of_ble_eq_true rfl) ⟨Nat.le_of_ble_eq_true rfl, Nat.le_of_ble_eq_true rfl⟩ (fun r n2 h2 hq => ?_)
  obtain ⟨rfl, hn9, co29, cv29, cb29, cp29, cf29⟩ := hq; replace hn9 := hn9.symm; subst hn9
  refine v_st (st2 := [.int R25.1]) rfl ?_
  refine v_iret dX7_insure_13 rfl ?_ (Nat.le_of_ble_eq_true rfl) (Nat.le_of_ble_eq_true rfl)
  have hv9 : (if R25.1 < 0 then vO C else vO R25.2.1) = vO R25.2.1 := (Decidable.em (R25.1 < 0)).elim (fun z => by rw [if_pos z, ok25 z]) (fun z => if_neg z)
  rw [hv9] at cv29
  subst hR25
  exact ⟨rfl, rfl, co29, cv29, ⟨_, cb29⟩, cp29, fun z hz => (cf29 z hz).trans (fr28 z hz)⟩
set_option maxRecDepth 20000 in
set_option maxHeartbeats 4000000 in
theorem t_X7_audit {l : Launch} {G : vG} {h : AH} {n : Nat} {f : Int32} {m sv tn hr en ln wg dg : Nat} {fl wy dt : Int32} {b : Nat} {C : Ct} {B P : Nat → Nat} {T : Hs} (ho : h m = some (mo m T.1 sv tn hr en ln wg dg fl wy dt)) (hv : h (m + 1) = some (ar G 182 (vO C))) (hbe : h (m + 2) = some (ar G 182 B)) (hpa : h (m + 5) = some (ar G 1456 P)) (hK : bdk b C) (hb1 : 200 ≤ b) (hb2 : b + 5000 ≤ 2 ^ 28) (hI : Iv C) (hR9 : hR T P) (ht1 : T.1 ≤ 8) (ht2 : T.2.1 < 8) : Mt l G mX7_audit [.ref m, .int f] (n) h 0 0 (pmq G m sv tn hr en ln wg dg wy dt C T h n (dAud C f)) := by
  refine Mt.of (by decide) (Nat.le_of_ble_eq_true rfl) rfl ?_
  refine v_ls (ls2 := [some (.ref m), some (.int f)]) rfl ?_
  refine v_aload_n dX7_audit_0 rfl ?_
  refine v_callV (st := []) dX7_audit_1 (t_X7_begins (F := vO C) ho hv hbe) wX7_69 ho rfl rfl ⟨Nat.le_of_ble_eq_true rfl, Nat.le_of_ble_eq_true rfl⟩ (Nat.le_of_ble_eq_true rfl) ⟨Nat.le_of_ble_eq_true rfl, Nat.le_of_ble_eq_true rfl⟩ (fun r n2 h2 hq => ?_)
  obtain ⟨rfl, hn9, fo21, fb21, fr21⟩ := hq; replace hn9 := hn9.symm; subst hn9
  refine v_st (st2 := []) rfl ?_
  have hv22 := (fr21 (m + 1) (by omega)).trans hv
  have fa23 := (fr21 (m + 5) (by omega)).trans hpa
  have fr24 : frP (fun z => z < m ∨ z = m + 3 ∨ z = m + 4 ∨ m + 6 ≤ z) _ _ := fun z (hz : z < m ∨ z = m + 3 ∨ z = m + 4 ∨ m + 6 ≤ z) => fr21 z (by omega)
  refine v_aload_n dX7_audit_4 rfl ?_
  refine v_aload_n dX7_audit_5 rfl ?_
  refine v_iload_n dX7_audit_6 rfl ?_
  refine v_callV (st := [.ref m]) dX7_audit_7 (t_X7_audits fo21 hv22 hK (by omega) (by omega) hI) wX7_98 fo21 rfl rfl ⟨Nat.le_of_ble_eq_true rfl, Nat.le_of_ble_eq_true rfl⟩ (Nat.le_of_ble_eq_true rfl) ⟨Nat.le_of_ble_eq_true rfl, Nat.le_of_ble_eq_true rfl⟩ (fun r n2 h2 hq => ?_)
  obtain ⟨rfl, hn9, fo25, hv25, sa25, ok25⟩ := hq; replace hn9 := hn9.symm; subst hn9
  obtain ⟨R25, hR25⟩ : ∃ R : Rz, R = dAud C f := ⟨_, rfl⟩
  rw [← hR25] at fo25 hv25 ok25
  refine v_st (st2 := [.int R25.1, .ref m]) (by rw [hR25]; rfl) ?_
  have fa26 := (sa25 (m + 2) (by omega)).trans fb21
  have fa27 := (sa25 (m + 5) (by omega)).trans fa23
  have fr28 : frP (fun z => z < m ∨ z = m + 3 ∨ z = m + 4 ∨ m + 6 ≤ z) _ _ := fun z (hz : z < m ∨ z = m + 3 ∨ z = m + 4 ∨ m + 6 ≤ z) => (sa25 z (by omega)).trans (fr24 z hz)
  refine v_callV (st := []) dX7_audit_10 (t_X7_closes (y := R25.1) (C := C) fo25 hv25 fa26 fa27 hR9 ht1 ht2) wX7_75 fo25 rfl rfl ⟨Nat.le_of_ble_eq_true rfl, Nat.le_of_ble_eq_true rfl⟩ (Nat.le_of_ble_eq_true rfl) ⟨Nat.le_of_ble_eq_true rfl, Nat.le_of_ble_eq_true rfl⟩ (fun r n2 h2 hq => ?_)
  obtain ⟨rfl, hn9, co29, cv29, cb29, cp29, cf29⟩ := hq; replace hn9 := hn9.symm; subst hn9
  refine v_st (st2 := [.int R25.1]) rfl ?_
  refine v_iret dX7_audit_13 rfl ?_ (Nat.le_of_ble_eq_true rfl) (Nat.le_of_ble_eq_true rfl)
  have hv9 : (if R25.1 < 0 then vO C else vO R25.2.1) = vO R25.2.1 := (Decidable.em (R25.1 < 0)).elim (fun z => by rw [if_pos z, ok25 z]) (fun z => if_neg z)
  rw [hv9] at cv29
  subst hR25
  exact ⟨rfl, rfl, co29, cv29, ⟨_, cb29⟩, cp29, fun z hz => (cf29 z hz).trans (fr28 z hz)⟩
set_option maxRecDepth 20000 in
set_option maxHeartbeats 4000000 in
theorem t_X7_exempt {l : Launch} {G : vG} {h : AH} {n : Nat} {t x : Int32} {m sv tn hr en ln wg dg : Nat} {fl wy dt : Int32} {b : Nat} {C : Ct} {B P : Nat → Nat} {T : Hs} (ho : h m = some (mo m T.1 sv tn hr en ln wg dg fl wy dt)) (hv : h (m + 1) = some (ar G 182 (vO C))) (hbe : h (m + 2) = some (ar G 182 B)) (hpa : h (m + 5) = some (ar G 1456 P)) (hK : bdk b C) (hb1 : 200 ≤ b) (hb2 : b + 5000 ≤ 2 ^ 28) (hI : Iv C) (hR9 : hR T P) (ht1 : T.1 ≤ 8) (ht2 : T.2.1 < 8) : Mt l G mX7_exempt [.ref m, .int t, .int x] (n) h 0 0 (pmq G m sv tn hr en ln wg dg wy dt C T h n (dExe C t x)) := by
  refine Mt.of (by decide) (Nat.le_of_ble_eq_true rfl) rfl ?_
  refine v_ls (ls2 := [some (.ref m), some (.int t), some (.int x)]) rfl ?_
  refine v_aload_n dX7_exempt_0 rfl ?_
  refine v_callV (st := []) dX7_exempt_1 (t_X7_begins (F := vO C) ho hv hbe) wX7_69 ho rfl rfl ⟨Nat.le_of_ble_eq_true rfl, Nat.le_of_ble_eq_true rfl⟩ (Nat.le_of_ble_eq_true rfl) ⟨Nat.le_of_ble_eq_true rfl, Nat.le_of_ble_eq_true rfl⟩ (fun r n2 h2 hq => ?_)
  obtain ⟨rfl, hn9, fo21, fb21, fr21⟩ := hq; replace hn9 := hn9.symm; subst hn9
  refine v_st (st2 := []) rfl ?_
  have hv22 := (fr21 (m + 1) (by omega)).trans hv
  have fa23 := (fr21 (m + 5) (by omega)).trans hpa
  have fr24 : frP (fun z => z < m ∨ z = m + 3 ∨ z = m + 4 ∨ m + 6 ≤ z) _ _ := fun z (hz : z < m ∨ z = m + 3 ∨ z = m + 4 ∨ m + 6 ≤ z) => fr21 z (by omega)
  refine v_aload_n dX7_exempt_4 rfl ?_
  refine v_aload_n dX7_exempt_5 rfl ?_
  refine v_iload_n dX7_exempt_6 rfl ?_
  refine v_iload_n dX7_exempt_7 rfl ?_
  refine v_callV (st := [.ref m]) dX7_exempt_8 (t_X7_exempts fo21 hv22 hK (by omega) (by omega) hI) wX7_119 fo21 rfl rfl ⟨Nat.le_of_ble_eq_true rfl, Nat.le_of_ble_eq_true rfl⟩ (Nat.le_of_ble_eq_true rfl) ⟨Nat.le_of_ble_eq_true rfl, Nat.le_of_ble_eq_true rfl⟩ (fun r n2 h2 hq => ?_)
  obtain ⟨rfl, hn9, fo25, hv25, sa25, ok25⟩ := hq; replace hn9 := hn9.symm; subst hn9
  obtain ⟨R25, hR25⟩ : ∃ R : Rz, R = dExe C t x := ⟨_, rfl⟩
  rw [← hR25] at fo25 hv25 ok25
  refine v_st (st2 := [.int R25.1, .ref m]) (by rw [hR25]; rfl) ?_
  have fa26 := (sa25 (m + 2) (by omega)).trans fb21
  have fa27 := (sa25 (m + 5) (by omega)).trans fa23
  have fr28 : frP (fun z => z < m ∨ z = m + 3 ∨ z = m + 4 ∨ m + 6 ≤ z) _ _ := fun z (hz : z < m ∨ z = m + 3 ∨ z = m + 4 ∨ m + 6 ≤ z) => (sa25 z (by omega)).trans (fr24 z hz)
  refine v_callV (st := []) dX7_exempt_11 (t_X7_closes (y := R25.1) (C := C) fo25 hv25 fa26 fa27 hR9 ht1 ht2) wX7_75 fo25 rfl rfl ⟨Nat.le_of_ble_eq_true rfl, Nat.le_of_ble_eq_true rfl⟩ (Nat.le_of_ble_eq_true rfl) ⟨Nat.le_of_ble_eq_true rfl, Nat.le_of_ble_eq_true rfl⟩ (fun r n2 h2 hq => ?_)
  obtain ⟨rfl, hn9, co29, cv29, cb29, cp29, cf29⟩ := hq; replace hn9 := hn9.symm; subst hn9
  refine v_st (st2 := [.int R25.1]) rfl ?_
  refine v_iret dX7_exempt_14 rfl ?_ (Nat.le_of_ble_eq_true rfl) (Nat.le_of_ble_eq_true rfl)
  have hv9 : (if R25.1 < 0 then vO C else vO R25.2.1) = vO R25.2.1 := (Decidable.em (R25.1 < 0)).elim (fun z => by rw [if_pos z, ok25 z]) (fun z => if_neg z)
  rw [hv9] at cv29
  subst hR25
  exact ⟨rfl, rfl, co29, cv29, ⟨_, cb29⟩, cp29, fun z hz => (cf29 z hz).trans (fr28 z hz)⟩
set_option maxRecDepth 20000 in
set_option maxHeartbeats 4000000 in
theorem t_X7_book {l : Launch} {G : vG} {h : AH} {n : Nat} {f j t x : Int32} {m sv tn hr en ln wg dg : Nat} {fl wy dt : Int32} {b : Nat} {C : Ct} {B P : Nat → Nat} {T : Hs} (ho : h m = some (mo m T.1 sv tn hr en ln wg dg fl wy dt)) (hv : h (m + 1) = some (ar G 182 (vO C))) (hbe : h (m + 2) = some (ar G 182 B)) (hpa : h (m + 5) = some (ar G 1456 P)) (hK : bdk b C) (hb1 : 200 ≤ b) (hb2 : b + 5000 ≤ 2 ^ 28) (hI : Iv C) (hR9 : hR T P) (ht1 : T.1 ≤ 8) (ht2 : T.2.1 < 8) : Mt l G mX7_book [.ref m, .int f, .int j, .int t, .int x] (n) h 0 0 (pmq G m sv tn hr en ln wg dg wy dt C T h n (dBook C f j t x)) := by
  refine Mt.of (by decide) (Nat.le_of_ble_eq_true rfl) rfl ?_
  refine v_ls (ls2 := [some (.ref m), some (.int f), some (.int j), some (.int t), some (.int x)]) rfl ?_
  refine v_aload_n dX7_book_0 rfl ?_
  refine v_callV (st := []) dX7_book_1 (t_X7_begins (F := vO C) ho hv hbe) wX7_69 ho rfl rfl ⟨Nat.le_of_ble_eq_true rfl, Nat.le_of_ble_eq_true rfl⟩ (Nat.le_of_ble_eq_true rfl) ⟨Nat.le_of_ble_eq_true rfl, Nat.le_of_ble_eq_true rfl⟩ (fun r n2 h2 hq => ?_)
  obtain ⟨rfl, hn9, fo21, fb21, fr21⟩ := hq; replace hn9 := hn9.symm; subst hn9
  refine v_st (st2 := []) rfl ?_
  have hv22 := (fr21 (m + 1) (by omega)).trans hv
  have fa23 := (fr21 (m + 5) (by omega)).trans hpa
  have fr24 : frP (fun z => z < m ∨ z = m + 3 ∨ z = m + 4 ∨ m + 6 ≤ z) _ _ := fun z (hz : z < m ∨ z = m + 3 ∨ z = m + 4 ∨ m + 6 ≤ z) => fr21 z (by omega)
  refine v_aload_n dX7_book_4 rfl ?_
  refine v_aload_n dX7_book_5 rfl ?_
  refine v_iload_n dX7_book_6 rfl ?_
  refine v_iload_n dX7_book_7 rfl ?_
  refine v_iload_n dX7_book_8 rfl ?_
  refine v_iload dX7_book_9 rfl ?_
  refine v_callV (st := [.ref m]) dX7_book_11 (t_X7_books fo21 hv22 hK (by omega) (by omega) hI) wX7_133 fo21 rfl rfl ⟨Nat.le_of_ble_eq_true rfl, Nat.le_of_ble_eq_true rfl⟩ (Nat.le_of_ble_eq_true rfl) ⟨Nat.le_of_ble_eq_true rfl, Nat.le_of_ble_eq_true rfl⟩ (fun r n2 h2 hq => ?_)
  obtain ⟨rfl, hn9, fo25, hv25, sa25, ok25⟩ := hq; replace hn9 := hn9.symm; subst hn9
  obtain ⟨R25, hR25⟩ : ∃ R : Rz, R = dBook C f j t x := ⟨_, rfl⟩
  rw [← hR25] at fo25 hv25 ok25
  refine v_st (st2 := [.int R25.1, .ref m]) (by rw [hR25]; rfl) ?_
  have fa26 := (sa25 (m + 2) (by omega)).trans fb21
  have fa27 := (sa25 (m + 5) (by omega)).trans fa23
  have fr28 : frP (fun z => z < m ∨ z = m + 3 ∨ z = m + 4 ∨ m + 6 ≤ z) _ _ := fun z (hz : z < m ∨ z = m + 3 ∨ z = m + 4 ∨ m + 6 ≤ z) => (sa25 z (by omega)).trans (fr24 z hz)
  refine v_callV (st := []) dX7_book_14 (t_X7_closes (y := R25.1) (C := C) fo25 hv25 fa26 fa27 hR9 ht1 ht2) wX7_75 fo25 rfl rfl ⟨Nat.le_of_ble_eq_true rfl, Nat.le_of_ble_eq_true rfl⟩ (Nat.le_of_ble_eq_true rfl) ⟨Nat.le_of_ble_eq_true rfl, Nat.le_of_ble_eq_true rfl⟩ (fun r n2 h2 hq => ?_)
  obtain ⟨rfl, hn9, co29, cv29, cb29, cp29, cf29⟩ := hq; replace hn9 := hn9.symm; subst hn9
  refine v_st (st2 := [.int R25.1]) rfl ?_
  refine v_iret dX7_book_17 rfl ?_ (Nat.le_of_ble_eq_true rfl) (Nat.le_of_ble_eq_true rfl)
  have hv9 : (if R25.1 < 0 then vO C else vO R25.2.1) = vO R25.2.1 := (Decidable.em (R25.1 < 0)).elim (fun z => by rw [if_pos z, ok25 z]) (fun z => if_neg z)
  rw [hv9] at cv29
  subst hR25
  exact ⟨rfl, rfl, co29, cv29, ⟨_, cb29⟩, cp29, fun z hz => (cf29 z hz).trans (fr28 z hz)⟩
set_option maxRecDepth 20000 in
set_option maxHeartbeats 4000000 in
theorem t_X7_next {l : Launch} {G : vG} {h : AH} {n : Nat}  {m sv tn hr en ln wg dg : Nat} {fl wy dt : Int32} {b : Nat} {C : Ct} {B P : Nat → Nat} {T : Hs} (ho : h m = some (mo m T.1 sv tn hr en ln wg dg fl wy dt)) (hv : h (m + 1) = some (ar G 182 (vO C))) (hbe : h (m + 2) = some (ar G 182 B)) (hpa : h (m + 5) = some (ar G 1456 P)) (hK : bdk b C) (hb1 : 200 ≤ b) (hb2 : b + 5000 ≤ 2 ^ 28) (hI : Iv C) (hR9 : hR T P) (ht1 : T.1 ≤ 8) (ht2 : T.2.1 < 8) : Mt l G mX7_next [.ref m] (n) h 0 0 (pmq G m sv tn hr en ln wg dg wy dt C T h n (dNext C )) := by
  refine Mt.of (by decide) (Nat.le_of_ble_eq_true rfl) rfl ?_
  refine v_ls (ls2 := [some (.ref m)]) rfl ?_
  refine v_aload_n dX7_next_0 rfl ?_
  refine v_callV (st := []) dX7_next_1 (t_X7_begins (F := vO C) ho hv hbe) wX7_69 ho rfl rfl ⟨Nat.le_of_ble_eq_true rfl, Nat.le_of_ble_eq_true rfl⟩ (Nat.le_of_ble_eq_true rfl) ⟨Nat.le_of_ble_eq_true rfl, Nat.le_of_ble_eq_true rfl⟩ (fun r n2 h2 hq => ?_)
  obtain ⟨rfl, hn9, fo21, fb21, fr21⟩ := hq; replace hn9 := hn9.symm; subst hn9
  refine v_st (st2 := []) rfl ?_
  have hv22 := (fr21 (m + 1) (by omega)).trans hv
  have fa23 := (fr21 (m + 5) (by omega)).trans hpa
  have fr24 : frP (fun z => z < m ∨ z = m + 3 ∨ z = m + 4 ∨ m + 6 ≤ z) _ _ := fun z (hz : z < m ∨ z = m + 3 ∨ z = m + 4 ∨ m + 6 ≤ z) => fr21 z (by omega)
  refine v_aload_n dX7_next_4 rfl ?_
  refine v_aload_n dX7_next_5 rfl ?_
  refine v_callV (st := [.ref m]) dX7_next_6 (t_X7_carries fo21 hv22 hK (by omega) (by omega) hI) wX7_151 fo21 rfl rfl ⟨Nat.le_of_ble_eq_true rfl, Nat.le_of_ble_eq_true rfl⟩ (Nat.le_of_ble_eq_true rfl) ⟨Nat.le_of_ble_eq_true rfl, Nat.le_of_ble_eq_true rfl⟩ (fun r n2 h2 hq => ?_)
  obtain ⟨rfl, hn9, fo25, hv25, sa25, ok25⟩ := hq; replace hn9 := hn9.symm; subst hn9
  obtain ⟨R25, hR25⟩ : ∃ R : Rz, R = dNext C := ⟨_, rfl⟩
  rw [← hR25] at fo25 hv25 ok25
  refine v_st (st2 := [.int R25.1, .ref m]) (by rw [hR25]; rfl) ?_
  have fa26 := (sa25 (m + 2) (by omega)).trans fb21
  have fa27 := (sa25 (m + 5) (by omega)).trans fa23
  have fr28 : frP (fun z => z < m ∨ z = m + 3 ∨ z = m + 4 ∨ m + 6 ≤ z) _ _ := fun z (hz : z < m ∨ z = m + 3 ∨ z = m + 4 ∨ m + 6 ≤ z) => (sa25 z (by omega)).trans (fr24 z hz)
  refine v_callV (st := []) dX7_next_9 (t_X7_closes (y := R25.1) (C := C) fo25 hv25 fa26 fa27 hR9 ht1 ht2) wX7_75 fo25 rfl rfl ⟨Nat.le_of_ble_eq_true rfl, Nat.le_of_ble_eq_true rfl⟩ (Nat.le_of_ble_eq_true rfl) ⟨Nat.le_of_ble_eq_true rfl, Nat.le_of_ble_eq_true rfl⟩ (fun r n2 h2 hq => ?_)
  obtain ⟨rfl, hn9, co29, cv29, cb29, cp29, cf29⟩ := hq; replace hn9 := hn9.symm; subst hn9
  refine v_st (st2 := [.int R25.1]) rfl ?_
  refine v_iret dX7_next_12 rfl ?_ (Nat.le_of_ble_eq_true rfl) (Nat.le_of_ble_eq_true rfl)
  have hv9 : (if R25.1 < 0 then vO C else vO R25.2.1) = vO R25.2.1 := (Decidable.em (R25.1 < 0)).elim (fun z => by rw [if_pos z, ok25 z]) (fun z => if_neg z)
  rw [hv9] at cv29
  subst hR25
  exact ⟨rfl, rfl, co29, cv29, ⟨_, cb29⟩, cp29, fun z hz => (cf29 z hz).trans (fr28 z hz)⟩
set_option maxRecDepth 20000 in
set_option maxHeartbeats 4000000 in
theorem t_X7_pass {l : Launch} {G : vG} {h : AH} {n : Nat} {x : Int32} {m sv tn hr en ln wg dg : Nat} {fl wy dt : Int32} {b : Nat} {C : Ct} {B P : Nat → Nat} {T : Hs} (ho : h m = some (mo m T.1 sv tn hr en ln wg dg fl wy dt)) (hv : h (m + 1) = some (ar G 182 (vO C))) (hbe : h (m + 2) = some (ar G 182 B)) (hpa : h (m + 5) = some (ar G 1456 P)) (hK : bdk b C) (hb1 : 200 ≤ b) (hb2 : b + 5000 ≤ 2 ^ 28) (hI : Iv C) (hR9 : hR T P) (ht1 : T.1 ≤ 8) (ht2 : T.2.1 < 8) : Mt l G mX7_pass [.ref m, .int x] (n) h 0 0 (pmq G m sv tn hr en ln wg dg wy dt C T h n (dPass C x)) := by
  refine Mt.of (by decide) (Nat.le_of_ble_eq_true rfl) rfl ?_
  refine v_ls (ls2 := [some (.ref m), some (.int x)]) rfl ?_
  refine v_aload_n dX7_pass_0 rfl ?_
  refine v_callV (st := []) dX7_pass_1 (t_X7_begins (F := vO C) ho hv hbe) wX7_69 ho rfl rfl ⟨Nat.le_of_ble_eq_true rfl, Nat.le_of_ble_eq_true rfl⟩ (Nat.le_of_ble_eq_true rfl) ⟨Nat.le_of_ble_eq_true rfl, Nat.le_of_ble_eq_true rfl⟩ (fun r n2 h2 hq => ?_)
  obtain ⟨rfl, hn9, fo21, fb21, fr21⟩ := hq; replace hn9 := hn9.symm; subst hn9
  refine v_st (st2 := []) rfl ?_
  have hv22 := (fr21 (m + 1) (by omega)).trans hv
  have fa23 := (fr21 (m + 5) (by omega)).trans hpa
  have fr24 : frP (fun z => z < m ∨ z = m + 3 ∨ z = m + 4 ∨ m + 6 ≤ z) _ _ := fun z (hz : z < m ∨ z = m + 3 ∨ z = m + 4 ∨ m + 6 ≤ z) => fr21 z (by omega)
  refine v_aload_n dX7_pass_4 rfl ?_
  refine v_aload_n dX7_pass_5 rfl ?_
  refine v_iload_n dX7_pass_6 rfl ?_
  refine v_callV (st := [.ref m]) dX7_pass_7 (t_X7_passes fo21 hv22 hK (by omega) (by omega) hI) wX7_155 fo21 rfl rfl ⟨Nat.le_of_ble_eq_true rfl, Nat.le_of_ble_eq_true rfl⟩ (Nat.le_of_ble_eq_true rfl) ⟨Nat.le_of_ble_eq_true rfl, Nat.le_of_ble_eq_true rfl⟩ (fun r n2 h2 hq => ?_)
  obtain ⟨rfl, hn9, fo25, hv25, sa25, ok25⟩ := hq; replace hn9 := hn9.symm; subst hn9
  obtain ⟨R25, hR25⟩ : ∃ R : Rz, R = dPass C x := ⟨_, rfl⟩
  rw [← hR25] at fo25 hv25 ok25
  refine v_st (st2 := [.int R25.1, .ref m]) (by rw [hR25]; rfl) ?_
  have fa26 := (sa25 (m + 2) (by omega)).trans fb21
  have fa27 := (sa25 (m + 5) (by omega)).trans fa23
  have fr28 : frP (fun z => z < m ∨ z = m + 3 ∨ z = m + 4 ∨ m + 6 ≤ z) _ _ := fun z (hz : z < m ∨ z = m + 3 ∨ z = m + 4 ∨ m + 6 ≤ z) => (sa25 z (by omega)).trans (fr24 z hz)
  refine v_callV (st := []) dX7_pass_10 (t_X7_closes (y := R25.1) (C := C) fo25 hv25 fa26 fa27 hR9 ht1 ht2) wX7_75 fo25 rfl rfl ⟨Nat.le_of_ble_eq_true rfl, Nat.le_of_ble_eq_true rfl⟩ (Nat.le_of_ble_eq_true rfl) ⟨Nat.le_of_ble_eq_true rfl, Nat.le_of_ble_eq_true rfl⟩ (fun r n2 h2 hq => ?_)
  obtain ⟨rfl, hn9, co29, cv29, cb29, cp29, cf29⟩ := hq; replace hn9 := hn9.symm; subst hn9
  refine v_st (st2 := [.int R25.1]) rfl ?_
  refine v_iret dX7_pass_13 rfl ?_ (Nat.le_of_ble_eq_true rfl) (Nat.le_of_ble_eq_true rfl)
  have hv9 : (if R25.1 < 0 then vO C else vO R25.2.1) = vO R25.2.1 := (Decidable.em (R25.1 < 0)).elim (fun z => by rw [if_pos z, ok25 z]) (fun z => if_neg z)
  rw [hv9] at cv29
  subst hR25
  exact ⟨rfl, rfl, co29, cv29, ⟨_, cb29⟩, cp29, fun z hz => (cf29 z hz).trans (fr28 z hz)⟩
set_option maxRecDepth 20000 in
set_option maxHeartbeats 4000000 in
theorem t_X7_undo {l : Launch} {G : vG} {h : AH} {n : Nat}  {m sv tn hr en ln wg dg : Nat} {fl wy dt : Int32} {C : Ct} {P : Nat → Nat} {T : Hs} (ho : h m = some (mo m T.1 sv tn hr en ln wg dg fl wy dt)) (hv : h (m + 1) = some (ar G 182 (vO C))) (hpa : h (m + 5) = some (ar G 1456 P)) (hR9 : hR T P) (ht1 : T.1 ≤ 8) (ht2 : T.2.1 < 8) : Mt l G mX7_undo [.ref m] (n) h 0 0 (fun r n2 h2 => r = some (.int (if T.1 = 0 then -1015 else nI (T.1 - 1))) ∧ n2 = n ∧ h2 m = some (mo m (if T.1 = 0 then T else hpop T).1 sv tn hr en ln wg dg fl wy dt) ∧ h2 (m + 1) = some (ar G 182 (vO (if T.1 = 0 then C else T.2.2 ((T.2.1 + 7) % 8)))) ∧ hR (if T.1 = 0 then T else hpop T) P ∧ h2 (m + 5) = some (ar G 1456 P) ∧ frP (fun z => z < m ∨ m + 2 ≤ z) h h2) := by
  refine Mt.of (by decide) (Nat.le_of_ble_eq_true rfl) rfl ?_
  refine v_ls (ls2 := [some (.ref m), none]) rfl ?_
  refine v_aload_n dX7_undo_0 rfl ?_
  refine fX7_49 (v := .int (nI T.1)) rfl dX7_undo_1 ho rfl ?_
  refine n_if_ne (tgt := 11) (x := T.1) dX7_undo_4 (by decide) (by omega) (fun c21 => ?_) (fun c21 => ?_)
  · refine v_aload_n dX7_undo_11 rfl ?_
    refine v_dup dX7_undo_12 rfl ?_
    refine fX7_49 (v := .int (nI T.1)) rfl dX7_undo_13 ho rfl ?_
    refine v_iconst (v := nI 1) dX7_undo_16 (by decide) ?_
    refine n_isub (x := T.1) (y := 1) dX7_undo_17 (by omega) ?_
    refine pX7_49 rfl dX7_undo_18 ho (Nat.le_of_ble_eq_true rfl) ?_
    refine nw (fun h1 f1 s1 => ?_)
    have fa22 : h1 (m) = some (.inr (8, [.int fl, .int (nI (T.1 - 1)), .int wy, .int dt, .int (nI sv), .ref (m + 1), .ref (m + 2), .ref (m + 3), .ref (m + 4), .ref (m + 5), .ref (m + 6), .ref (m + 7), .int (nI tn), .int (nI hr), .int (nI en), .int (nI ln), .int (nI wg), .int (nI dg)])) := f1
    have sa22 := s1
    clear f1 s1
    have hv23 := (sa22 (m + 1) (by omega)).trans hv
    have fa24 := (sa22 (m + 5) (by omega)).trans hpa
    have fr25 : frP (fun z => z < m ∨ m + 2 ≤ z) _ _ := fun z (hz : z < m ∨ m + 2 ≤ z) => sa22 z (by omega)
    refine v_iconst (v := nI 0) dX7_undo_21 (by decide) ?_
    refine v_istore_n dX7_undo_22 rfl (by decide) ?_
    refine v_ls (ls2 := [some (.ref m), some (.int (nI 0))]) rfl ?_
    refine v_arr (f := cpL (fun k => P ((T.1 - 1) * 182 + k)) (vO C) 0) hv23 (fun i hi => cpL_0 i) (fun h1 f1 s1 => ?_)
    have hv26 := f1
    have sa26 := s1
    clear f1 s1
    have fa27 := (sa26 (m) (by omega)).trans fa22
    have fa28 := (sa26 (m + 5) (by omega)).trans fa24
    have fr29 : frP (fun z => z < m ∨ m + 2 ≤ z) _ _ := fun z (hz : z < m ∨ m + 2 ≤ z) => (sa26 z (by omega)).trans (fr25 z hz)
    refine loopH (fun k => [some (.ref m), some (.int (nI k))]) (fun k h1 => h1 m = some (mo m (T.1 - 1) sv tn hr en ln wg dg fl wy dt) ∧ h1 (m + 1) = some (ar G 182 (cpL (fun k => P ((T.1 - 1) * 182 + k)) (vO C) k)) ∧ h1 (m + 5) = some (ar G 1456 P) ∧ frP (fun z => z < m ∨ m + 2 ≤ z) h h1) (N := 182) 0 (by omega) rfl ⟨fa27, hv26, fa28, fr29⟩ (fun k h1 hk hp0 ihk => ?_)
    clear ho hv hpa
    obtain ⟨ho, hv, hpa, fr0⟩ := hp0
    refine v_iload_n dX7_undo_23 rfl ?_
    refine v_sipush (v := nI 182) dX7_undo_24 (by decide) ?_
    refine n_icmp_ge (tgt := 57) (x := k) (y := 182) dX7_undo_27 (by decide) (by omega) (by omega) (fun c30 => ?_) (fun c30 => ?_)
    · have ek : k = 182 := by omega
      subst ek
      refine v_arr (f := vO (T.2.2 ((T.2.1 + 7) % 8))) hv (fun i hi => (cpL_e (f := (fun k => P ((T.1 - 1) * 182 + k))) hi).trans (hR_top hR9 (by omega) ht1 ht2 hi)) (fun h1 f1 s1 => ?_)
      have hv31 := f1
      have sa31 := s1
      clear f1 s1
      have fa32 := (sa31 (m) (by omega)).trans ho
      have fa33 := (sa31 (m + 5) (by omega)).trans hpa
      have fr34 : frP (fun z => z < m ∨ m + 2 ≤ z) _ _ := fun z (hz : z < m ∨ m + 2 ≤ z) => (sa31 z (by omega)).trans (fr0 z hz)
      refine v_aload_n dX7_undo_57 rfl ?_
      refine fX7_49 (v := .int (nI (T.1 - 1))) rfl dX7_undo_58 fa32 rfl ?_
      refine v_iret dX7_undo_61 rfl ?_ (Nat.le_of_ble_eq_true rfl) (Nat.le_of_ble_eq_true rfl)
      exact ⟨by rw [if_neg (by omega)], rfl, by rw [if_neg (by omega)]; exact fa32, by rw [if_neg (by omega)]; exact hv31, by rw [if_neg (by omega)]; exact hR_pop hR9 (by omega) ht1 ht2, fa33, fr34⟩
    · refine v_aload_n dX7_undo_30 rfl ?_
      refine fX7_7 (v := .ref (m + 1)) rfl dX7_undo_31 ho rfl ?_
      refine v_iload_n dX7_undo_34 rfl ?_
      refine v_aload_n dX7_undo_35 rfl ?_
      refine fX7_22 (v := .ref (m + 5)) rfl dX7_undo_36 ho rfl ?_
      refine v_aload_n dX7_undo_39 rfl ?_
      refine fX7_49 (v := .int (nI (T.1 - 1))) rfl dX7_undo_40 ho rfl ?_
      refine v_sipush (v := nI 182) dX7_undo_43 (by decide) ?_
      refine n_imul (x := T.1 - 1) (y := 182) dX7_undo_46 ?_
      refine v_iload_n dX7_undo_47 rfl ?_
      refine n_iadd (x := (T.1 - 1) * 182) (y := k) dX7_undo_48 ?_
      refine n_ialdv (f := P) (j := ((T.1 - 1) * 182) + k) (y := P (((T.1 - 1) * 182) + k)) dX7_undo_49 hpa (by omega) (by decide) rfl ?_
      refine n_iast (f := cpL (fun k => P ((T.1 - 1) * 182 + k)) (vO C) k) (j := k) (x := P (((T.1 - 1) * 182) + k)) dX7_undo_50 hv (by omega) (by decide) ?_
      refine nw (fun h1 f1 s1 => ?_)
      have hv35 : h1 (m + 1) = some (ar G 182 (va_up (cpL (fun k => P ((T.1 - 1) * 182 + k)) (vO C) k) k (P (((T.1 - 1) * 182) + k)))) := f1
      have sa35 := s1
      clear f1 s1
      have fa36 := (sa35 (m) (by omega)).trans ho
      have fa37 := (sa35 (m + 5) (by omega)).trans hpa
      have fr38 : frP (fun z => z < m ∨ m + 2 ≤ z) _ _ := fun z (hz : z < m ∨ m + 2 ≤ z) => (sa35 z (by omega)).trans (fr0 z hz)
      refine v_arr (f := cpL (fun k => P ((T.1 - 1) * 182 + k)) (vO C) (k + 1)) hv35 (fun i hi => cpL_s (f := (fun k => P ((T.1 - 1) * 182 + k))) i) (fun h1 f1 s1 => ?_)
      have hv39 := f1
      have sa39 := s1
      clear f1 s1
      have fa40 := (sa39 (m) (by omega)).trans fa36
      have fa41 := (sa39 (m + 5) (by omega)).trans fa37
      have fr42 : frP (fun z => z < m ∨ m + 2 ≤ z) _ _ := fun z (hz : z < m ∨ m + 2 ≤ z) => (sa39 z (by omega)).trans (fr38 z hz)
      refine n_iinc (k := 1) (x := k) dX7_undo_51 (by decide) rfl rfl (by decide) ?_
      refine v_ls (ls2 := [some (.ref m), some (.int (nI (k + 1)))]) rfl ?_
      refine v_goto (tgt := 23) dX7_undo_54 (by decide) ?_
      exact ihk (by omega) _ ⟨fa40, hv39, fa41, fr42⟩
  · refine v_sipush (v := (-1015)) dX7_undo_7 (by decide) ?_
    refine v_iret dX7_undo_10 rfl ?_ (Nat.le_of_ble_eq_true rfl) (Nat.le_of_ble_eq_true rfl)
    exact ⟨by rw [if_pos c21], rfl, by rw [if_pos c21]; exact ho, by rw [if_pos c21]; exact hv, by rw [if_pos c21]; exact hR9, hpa, frP_rf⟩
set_option maxRecDepth 20000 in
set_option maxHeartbeats 4000000 in
theorem t_X7_save {l : Launch} {G : vG} {h : AH} {n : Nat}  {m ch sv tn hr en ln wg dg : Nat} {fl wy dt : Int32} {C : Ct} {F : Nat → Nat} (ho : h m = some (mo m ch sv tn hr en ln wg dg fl wy dt)) (hv : h (m + 1) = some (ar G 182 (vO C))) (hsd : h (m + 3) = some (ar G 182 F)) : Mt l G mX7_save [.ref m] (n) h 0 0 (fun r n2 h2 => r = some (.int (nI (C 0 0))) ∧ n2 = n ∧ h2 m = some (mo m ch 1 tn hr en ln wg dg fl wy dt) ∧ h2 (m + 3) = some (ar G 182 (vO C)) ∧ frP (fun z => z < m ∨ (m + 1 ≤ z ∧ z < m + 3) ∨ m + 4 ≤ z) h h2) := by
  refine Mt.of (by decide) (Nat.le_of_ble_eq_true rfl) rfl ?_
  refine v_ls (ls2 := [some (.ref m)]) rfl ?_
  refine v_aload_n dX7_save_0 rfl ?_
  refine fX7_16 (v := .ref (m + 3)) rfl dX7_save_1 ho rfl ?_
  refine v_aload_n dX7_save_4 rfl ?_
  refine fX7_7 (v := .ref (m + 1)) rfl dX7_save_5 ho rfl ?_
  refine v_callS (st := []) dX7_save_8 (t_X7_lays (f := vO C) hsd hv (by omega)) wX7_45 rfl ⟨Nat.le_of_ble_eq_true rfl, Nat.le_of_ble_eq_true rfl⟩ (Nat.le_of_ble_eq_true rfl) ⟨Nat.le_of_ble_eq_true rfl, Nat.le_of_ble_eq_true rfl⟩ (fun r n2 h2 hq => ?_)
  obtain ⟨rfl, hn9, hv21, sa21⟩ := hq; replace hn9 := hn9.symm; subst hn9
  refine v_st (st2 := []) rfl ?_
  have fa22 := (sa21 (m) (by omega)).trans ho
  have hv23 := (sa21 (m + 1) (by omega)).trans hv
  have fr24 : frP (fun z => z < m ∨ (m + 1 ≤ z ∧ z < m + 3) ∨ m + 4 ≤ z) _ _ := fun z (hz : z < m ∨ (m + 1 ≤ z ∧ z < m + 3) ∨ m + 4 ≤ z) => sa21 z (by omega)
  refine v_aload_n dX7_save_11 rfl ?_
  refine v_iconst (v := nI 1) dX7_save_12 (by decide) ?_
  refine pX7_223 rfl dX7_save_13 fa22 (Nat.le_of_ble_eq_true rfl) (by decide) (by decide) ?_
  refine nw (fun h1 f1 s1 => ?_)
  have fa25 : h1 (m) = some (.inr (8, [.int fl, .int (nI ch), .int wy, .int dt, .int (nI 1), .ref (m + 1), .ref (m + 2), .ref (m + 3), .ref (m + 4), .ref (m + 5), .ref (m + 6), .ref (m + 7), .int (nI tn), .int (nI hr), .int (nI en), .int (nI ln), .int (nI wg), .int (nI dg)])) := f1
  have sa25 := s1
  clear f1 s1
  have hv26 := (sa25 (m + 1) (by omega)).trans hv23
  have fa27 := (sa25 (m + 3) (by omega)).trans hv21
  have fr28 : frP (fun z => z < m ∨ (m + 1 ≤ z ∧ z < m + 3) ∨ m + 4 ≤ z) _ _ := fun z (hz : z < m ∨ (m + 1 ≤ z ∧ z < m + 3) ∨ m + 4 ≤ z) => (sa25 z (by omega)).trans (fr24 z hz)
  refine v_aload_n dX7_save_16 rfl ?_
  refine fX7_7 (v := .ref (m + 1)) rfl dX7_save_17 fa25 rfl ?_
  refine v_iconst (v := nI 0) dX7_save_20 (by decide) ?_
  refine n_ialdv (f := vO C) (j := 0) (y := C 0 0) dX7_save_21 hv26 (by omega) (by decide) ((vrd (C := C) lgn0 (Or.inl (by decide))).trans rfl) ?_
  refine v_iret dX7_save_22 rfl ?_ (Nat.le_of_ble_eq_true rfl) (Nat.le_of_ble_eq_true rfl)
  exact ⟨rfl, rfl, fa25, fa27, fr28⟩
set_option maxRecDepth 20000 in
set_option maxHeartbeats 4000000 in
theorem t_X7_restore {l : Launch} {G : vG} {h : AH} {n : Nat}  {m ch sv tn hr en ln wg dg : Nat} {fl wy dt : Int32} {C S : Ct} (ho : h m = some (mo m ch sv tn hr en ln wg dg fl wy dt)) (hsv : sv ≤ 1) (hv : h (m + 1) = some (ar G 182 (vO C))) (hsd : h (m + 3) = some (ar G 182 (vO S))) : Mt l G mX7_restore [.ref m] (n) h 0 0 (fun r n2 h2 => r = some (.int (if sv = 0 then -1015 else nI (S 0 0))) ∧ n2 = n ∧ h2 m = some (mo m (if sv = 0 then ch else 0) sv tn hr en ln wg dg fl wy dt) ∧ h2 (m + 1) = some (ar G 182 (vO (if sv = 0 then C else S))) ∧ h2 (m + 3) = some (ar G 182 (vO S)) ∧ frP (fun z => z < m ∨ m + 2 ≤ z) h h2) := by
  refine Mt.of (by decide) (Nat.le_of_ble_eq_true rfl) rfl ?_
  refine v_ls (ls2 := [some (.ref m)]) rfl ?_
  refine v_aload_n dX7_restore_0 rfl ?_
  refine fX7_223 (v := .int (nI sv)) rfl dX7_restore_1 ho rfl ?_
  refine n_if_ne (tgt := 11) (x := sv) dX7_restore_4 (by decide) (by omega) (fun c21 => ?_) (fun c21 => ?_)
  · refine v_aload_n dX7_restore_11 rfl ?_
    refine fX7_7 (v := .ref (m + 1)) rfl dX7_restore_12 ho rfl ?_
    refine v_aload_n dX7_restore_15 rfl ?_
    refine fX7_16 (v := .ref (m + 3)) rfl dX7_restore_16 ho rfl ?_
    refine v_callS (st := []) dX7_restore_19 (t_X7_lays (f := vO S) hv hsd (by omega)) wX7_45 rfl ⟨Nat.le_of_ble_eq_true rfl, Nat.le_of_ble_eq_true rfl⟩ (Nat.le_of_ble_eq_true rfl) ⟨Nat.le_of_ble_eq_true rfl, Nat.le_of_ble_eq_true rfl⟩ (fun r n2 h2 hq => ?_)
    obtain ⟨rfl, hn9, hv22, sa22⟩ := hq; replace hn9 := hn9.symm; subst hn9
    refine v_st (st2 := []) rfl ?_
    have fa23 := (sa22 (m) (by omega)).trans ho
    have fa24 := (sa22 (m + 3) (by omega)).trans hsd
    have fr25 : frP (fun z => z < m ∨ m + 2 ≤ z) _ _ := fun z (hz : z < m ∨ m + 2 ≤ z) => sa22 z (by omega)
    refine v_aload_n dX7_restore_22 rfl ?_
    refine v_iconst (v := nI 0) dX7_restore_23 (by decide) ?_
    refine pX7_49 rfl dX7_restore_24 fa23 (Nat.le_of_ble_eq_true rfl) ?_
    refine nw (fun h1 f1 s1 => ?_)
    have fa26 : h1 (m) = some (.inr (8, [.int fl, .int (nI 0), .int wy, .int dt, .int (nI sv), .ref (m + 1), .ref (m + 2), .ref (m + 3), .ref (m + 4), .ref (m + 5), .ref (m + 6), .ref (m + 7), .int (nI tn), .int (nI hr), .int (nI en), .int (nI ln), .int (nI wg), .int (nI dg)])) := f1
    have sa26 := s1
    clear f1 s1
    have hv27 := (sa26 (m + 1) (by omega)).trans hv22
    have fa28 := (sa26 (m + 3) (by omega)).trans fa24
    have fr29 : frP (fun z => z < m ∨ m + 2 ≤ z) _ _ := fun z (hz : z < m ∨ m + 2 ≤ z) => (sa26 z (by omega)).trans (fr25 z hz)
    refine v_aload_n dX7_restore_27 rfl ?_
    refine fX7_7 (v := .ref (m + 1)) rfl dX7_restore_28 fa26 rfl ?_
    refine v_iconst (v := nI 0) dX7_restore_31 (by decide) ?_
    refine n_ialdv (f := vO S) (j := 0) (y := S 0 0) dX7_restore_32 hv27 (by omega) (by decide) ((vrd (C := S) lgn0 (Or.inl (by decide))).trans rfl) ?_
    refine v_iret dX7_restore_33 rfl ?_ (Nat.le_of_ble_eq_true rfl) (Nat.le_of_ble_eq_true rfl)
    exact ⟨by rw [if_neg (by omega)], rfl, by rw [if_neg (by omega)]; exact fa26, by rw [if_neg (by omega)]; exact hv27, fa28, fr29⟩
  · refine v_sipush (v := (-1015)) dX7_restore_7 (by decide) ?_
    refine v_iret dX7_restore_10 rfl ?_ (Nat.le_of_ble_eq_true rfl) (Nat.le_of_ble_eq_true rfl)
    exact ⟨by rw [if_pos c21], rfl, by rw [if_pos c21]; exact ho, by rw [if_pos c21]; exact hv, hsd, frP_rf⟩
