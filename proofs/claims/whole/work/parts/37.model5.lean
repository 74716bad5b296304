theorem bI_iff {p q : Prop} [Decidable p] [Decidable q] (h : p ↔ q) : bI p = bI q := by
  unfold bI
  by_cases z : p
  · rw [if_pos z, if_pos (h.mp z)]
  · rw [if_neg z, if_neg (fun y => z (h.mpr y))]
theorem rg_ixb {x : Int32} {c : Nat} (hc : c < 2 ^ 30) : (¬ x < nI 0 ∧ ¬ (nI c - nI 1) < x) ↔ ixb x c = true := by
  have h1 : (nI c - nI 1).toInt = ((c : Nat) : Int) - ((1 : Nat) : Int) := pk_sub_toInt hc (by decide)
  rw [ixb_iff]
  unfold ix
  rw [i_ltN (by decide), Int32.lt_iff_toInt_lt, h1]
  omega
theorem out_rg {x : Int32} {k b : Nat} (h : ¬ ixb x k = true) (hb : b < k) (hk : k < 2 ^ 30) : ¬ (¬ x < nI 0 ∧ ¬ nI b < x) := fun z => h (by
  rw [ixb_iff]
  unfold ix
  rw [i_ltN (by decide), i_gtN (by omega)] at z
  omega)
theorem out_ne {x : Int32} {k j : Nat} (h : ¬ ixb x k = true) (hj : j < k) (hk : k < 2 ^ 30) : x ≠ nI j := fun z => h (by
  rw [z, ixb_iff]
  unfold ix
  rw [nI_toInt (by omega)]
  omega)
theorem sm_tail {F : Nat → Nat} {n : Nat} (h : ∀ i, n ≤ i → F i = 0) : ∀ {N : Nat}, n ≤ N → sm F N = sm F n
  | 0, hN => by rw [show n = 0 by omega]
  | N + 1, hN => by
    by_cases e : n = N + 1
    · rw [e]
    · rw [sm, sm_tail h (N := N) (by omega), h N (by omega)]
      rfl
theorem crR_bd {X : Ct} (hB : bd X) : crR X < 2 ^ 31 := by
  unfold crR
  split
  · decide
  · split
    · decide
    · exact lau_bd hB _ _ _
def fcit : Nat → Ct → Ct
  | 0, C => C
  | k + 1, C => crG (fcit k C)
theorem fcit_c : ∀ (k : Nat) (C : Ct), fcit k (crG C) = crG (fcit k C)
  | 0, _ => rfl
  | k + 1, C => congrArg crG (fcit_c k C)
theorem fcast_it : ∀ (k : Nat) (C : Ct), fcast k C = fcit k C
  | 0, _ => rfl
  | k + 1, C => (fcast_it k (crG C)).trans (fcit_c k C)
def qAccN (C : Ct) (tn cc : Nat) : Nat → Int32
  | 0 => nI (C 0 0)
  | 1 => nI (C 0 1)
  | 2 => nI (C 0 2)
  | 3 => nI (C 0 3)
  | 4 => nI (sm (C 2) 6)
  | 5 => nI (C 0 4)
  | 6 => nI (sm (C 16) 4)
  | 7 => nI (C 0 5)
  | 8 => nI (C 0 6)
  | 9 => nI (sm (C 3) 6)
  | 10 => nI (C 0 7)
  | 11 => nI (sm (C 6) 6)
  | 12 => nI (pat C)
  | 13 => nI tn
  | _ => nI cc
def qAcc (C : Ct) (tn cc : Nat) (w : Int32) : Int32 := if ixb w 15 = true then qAccN C tn cc w.toNatClampNeg else -1012
set_option maxRecDepth 20000 in
set_option maxHeartbeats 4000000 in
theorem t_X7_foolOf {l : Launch} {G : vG} {h : AH} {n : Nat} {f w : Int32} {m ch sv tn hr en ln wg dg : Nat} {fl wy dt : Int32} {b : Nat} {C : Ct} (ho : h m = some (mo m ch sv tn hr en ln wg dg fl wy dt)) (hv : h (m + 1) = some (ar G 182 (vO C))) (hK : bdk b C) (hb2 : b + 5000 ≤ 2 ^ 28) (hI : Iv C) : Mt l G mX7_foolOf [.ref m, .int f, .int w] (n) h 0 0 (fun r n2 h2 => r = some (.int (qFool C f w)) ∧ n2 = n ∧ h2 = h) := by
  refine Mt.of (by decide) (Nat.le_of_ble_eq_true rfl) rfl ?_
  refine v_ls (ls2 := [some (.ref m), some (.int f), some (.int w)]) rfl ?_
  have hB := hK.bd (by omega)
  obtain ⟨hF, hJ, hn, hs1, hc99, hs4, hs7, hs8, hs15, hbk9, hs9⟩ := hI.1
  have b00 := hB 0 0
  have b01 := hB 0 1
  have b02 := hB 0 2
  have b03 := hB 0 3
  obtain ⟨w1, te, he9, pa9, sl9, br9, lo9, so9, z2, z3, z5, z6, zj, zt, ow9⟩ := id hI.2
  refine v_aload_n dX7_foolOf_0 rfl ?_
  refine v_iload_n dX7_foolOf_1 rfl ?_
  refine v_callV (st := []) dX7_foolOf_2 (t_X7_isFool (x := f) ho hv hK (by omega)) wX7_81 ho rfl rfl ⟨Nat.le_of_ble_eq_true rfl, Nat.le_of_ble_eq_true rfl⟩ (Nat.le_of_ble_eq_true rfl) ⟨Nat.le_of_ble_eq_true rfl, Nat.le_of_ble_eq_true rfl⟩ (fun r n2 h2 hq => ?_)
  obtain ⟨rfl, hn9, hh9⟩ := hq; replace hn9 := hn9.symm; subst hn9; replace hh9 := hh9.symm; subst hh9
  refine v_st (st2 := [.int (nI (bI (ixb f (C 0 0) = true)))]) rfl ?_
  refine n_ifb_ne (tgt := 12) (p := ixb f (C 0 0) = true) dX7_foolOf_5 (by decide) (fun c21 => ?_) (fun c21 => ?_)
  · obtain ⟨F, hF1, rfl⟩ := ix_of c21 (by omega)
    have eF : (nI F).toNatClampNeg = F := nI_clamp (by omega)
    refine v_iload_n dX7_foolOf_12 rfl ?_
    by_cases c22 : ixb w 8 = true
    · obtain ⟨k23, hk23, rfl⟩ := ix_of c22 (by decide)
      obtain rfl | rfl | rfl | rfl | rfl | rfl | rfl | rfl := (by omega : k23 = 0 ∨ k23 = 1 ∨ k23 = 2 ∨ k23 = 3 ∨ k23 = 4 ∨ k23 = 5 ∨ k23 = 6 ∨ k23 = 7)
      · refine v_tsIn (off := 47) (tgt := 60) dX7_foolOf_13 (by decide) (by decide) (by decide) (by decide) ?_
        refine v_aload_n dX7_foolOf_60 rfl ?_
        refine fX7_7 (v := .ref (m + 1)) rfl dX7_foolOf_61 ho rfl ?_
        refine v_iload_n dX7_foolOf_64 rfl ?_
        refine v_iload_n dX7_foolOf_65 rfl ?_
        refine v_callS (st := [.ref (m + 1)]) dX7_foolOf_66 (t_X7_at (f := F) (w := 0)) wX7_63 rfl ⟨Nat.le_of_ble_eq_true rfl, Nat.le_of_ble_eq_true rfl⟩ (Nat.le_of_ble_eq_true rfl) ⟨Nat.le_of_ble_eq_true rfl, Nat.le_of_ble_eq_true rfl⟩ (fun r n2 h2 hq => ?_)
        obtain ⟨rfl, hn9, hh9⟩ := hq; replace hn9 := hn9.symm; subst hn9; replace hh9 := hh9.symm; subst hh9
        refine v_st (st2 := [.int (nI (10 + 6 * F + 0)), .ref (m + 1)]) rfl ?_
        refine n_ialdv (f := vO C) (j := 10 + 6 * F + 0) (y := C 1 F) dX7_foolOf_69 hv (by omega) (by decide) ((vrd (C := C) (lgF (f := F) (w := 0) (by omega) (by decide)) (Or.inl (by omega))).trans rfl) ?_
        have b24 := hK 1 F
        refine v_iret dX7_foolOf_70 rfl ?_ (Nat.le_of_ble_eq_true rfl) (Nat.le_of_ble_eq_true rfl)
        have e9 : qFool C (nI F) (nI 0) = (nI (C 1 F) : Int32) := by unfold qFool; all_goals (repeat (first | rw [if_pos (by first | assumption | omega | rfl | trivial)] | rw [if_neg (by first | assumption | omega)])); all_goals (try simp only [eF]); all_goals (try simp only [qFoolN]); all_goals (repeat (first | rw [if_pos (by first | assumption | omega | rfl | trivial)] | rw [if_neg (by first | assumption | omega)])); all_goals (try rfl)
        exact ⟨by rw [e9], rfl, rfl⟩
      · refine v_tsIn (off := 47) (tgt := 60) dX7_foolOf_13 (by decide) (by decide) (by decide) (by decide) ?_
        refine v_aload_n dX7_foolOf_60 rfl ?_
        refine fX7_7 (v := .ref (m + 1)) rfl dX7_foolOf_61 ho rfl ?_
        refine v_iload_n dX7_foolOf_64 rfl ?_
        refine v_iload_n dX7_foolOf_65 rfl ?_
        refine v_callS (st := [.ref (m + 1)]) dX7_foolOf_66 (t_X7_at (f := F) (w := 1)) wX7_63 rfl ⟨Nat.le_of_ble_eq_true rfl, Nat.le_of_ble_eq_true rfl⟩ (Nat.le_of_ble_eq_true rfl) ⟨Nat.le_of_ble_eq_true rfl, Nat.le_of_ble_eq_true rfl⟩ (fun r n2 h2 hq => ?_)
        obtain ⟨rfl, hn9, hh9⟩ := hq; replace hn9 := hn9.symm; subst hn9; replace hh9 := hh9.symm; subst hh9
        refine v_st (st2 := [.int (nI (10 + 6 * F + 1)), .ref (m + 1)]) rfl ?_
        refine n_ialdv (f := vO C) (j := 10 + 6 * F + 1) (y := C 2 F) dX7_foolOf_69 hv (by omega) (by decide) ((vrd (C := C) (lgF (f := F) (w := 1) (by omega) (by decide)) (Or.inl (by omega))).trans rfl) ?_
        have b25 := hK 2 F
        refine v_iret dX7_foolOf_70 rfl ?_ (Nat.le_of_ble_eq_true rfl) (Nat.le_of_ble_eq_true rfl)
        have e9 : qFool C (nI F) (nI 1) = (nI (C 2 F) : Int32) := by unfold qFool; all_goals (repeat (first | rw [if_pos (by first | assumption | omega | rfl | trivial)] | rw [if_neg (by first | assumption | omega)])); all_goals (try simp only [eF]); all_goals (try simp only [qFoolN]); all_goals (repeat (first | rw [if_pos (by first | assumption | omega | rfl | trivial)] | rw [if_neg (by first | assumption | omega)])); all_goals (try rfl)
        exact ⟨by rw [e9], rfl, rfl⟩
      · refine v_tsIn (off := 47) (tgt := 60) dX7_foolOf_13 (by decide) (by decide) (by decide) (by decide) ?_
        refine v_aload_n dX7_foolOf_60 rfl ?_
        refine fX7_7 (v := .ref (m + 1)) rfl dX7_foolOf_61 ho rfl ?_
        refine v_iload_n dX7_foolOf_64 rfl ?_
        refine v_iload_n dX7_foolOf_65 rfl ?_
        refine v_callS (st := [.ref (m + 1)]) dX7_foolOf_66 (t_X7_at (f := F) (w := 2)) wX7_63 rfl ⟨Nat.le_of_ble_eq_true rfl, Nat.le_of_ble_eq_true rfl⟩ (Nat.le_of_ble_eq_true rfl) ⟨Nat.le_of_ble_eq_true rfl, Nat.le_of_ble_eq_true rfl⟩ (fun r n2 h2 hq => ?_)
        obtain ⟨rfl, hn9, hh9⟩ := hq; replace hn9 := hn9.symm; subst hn9; replace hh9 := hh9.symm; subst hh9
        refine v_st (st2 := [.int (nI (10 + 6 * F + 2)), .ref (m + 1)]) rfl ?_
        refine n_ialdv (f := vO C) (j := 10 + 6 * F + 2) (y := C 3 F) dX7_foolOf_69 hv (by omega) (by decide) ((vrd (C := C) (lgF (f := F) (w := 2) (by omega) (by decide)) (Or.inl (by omega))).trans rfl) ?_
        have b26 := hK 3 F
        refine v_iret dX7_foolOf_70 rfl ?_ (Nat.le_of_ble_eq_true rfl) (Nat.le_of_ble_eq_true rfl)
        have e9 : qFool C (nI F) (nI 2) = (nI (C 3 F) : Int32) := by unfold qFool; all_goals (repeat (first | rw [if_pos (by first | assumption | omega | rfl | trivial)] | rw [if_neg (by first | assumption | omega)])); all_goals (try simp only [eF]); all_goals (try simp only [qFoolN]); all_goals (repeat (first | rw [if_pos (by first | assumption | omega | rfl | trivial)] | rw [if_neg (by first | assumption | omega)])); all_goals (try rfl)
        exact ⟨by rw [e9], rfl, rfl⟩
      · refine v_tsIn (off := 47) (tgt := 60) dX7_foolOf_13 (by decide) (by decide) (by decide) (by decide) ?_
        refine v_aload_n dX7_foolOf_60 rfl ?_
        refine fX7_7 (v := .ref (m + 1)) rfl dX7_foolOf_61 ho rfl ?_
        refine v_iload_n dX7_foolOf_64 rfl ?_
        refine v_iload_n dX7_foolOf_65 rfl ?_
        refine v_callS (st := [.ref (m + 1)]) dX7_foolOf_66 (t_X7_at (f := F) (w := 3)) wX7_63 rfl ⟨Nat.le_of_ble_eq_true rfl, Nat.le_of_ble_eq_true rfl⟩ (Nat.le_of_ble_eq_true rfl) ⟨Nat.le_of_ble_eq_true rfl, Nat.le_of_ble_eq_true rfl⟩ (fun r n2 h2 hq => ?_)
        obtain ⟨rfl, hn9, hh9⟩ := hq; replace hn9 := hn9.symm; subst hn9; replace hh9 := hh9.symm; subst hh9
        refine v_st (st2 := [.int (nI (10 + 6 * F + 3)), .ref (m + 1)]) rfl ?_
        refine n_ialdv (f := vO C) (j := 10 + 6 * F + 3) (y := C 4 F) dX7_foolOf_69 hv (by omega) (by decide) ((vrd (C := C) (lgF (f := F) (w := 3) (by omega) (by decide)) (Or.inl (by omega))).trans rfl) ?_
        have b27 := hK 4 F
        refine v_iret dX7_foolOf_70 rfl ?_ (Nat.le_of_ble_eq_true rfl) (Nat.le_of_ble_eq_true rfl)
        have e9 : qFool C (nI F) (nI 3) = (nI (C 4 F) : Int32) := by unfold qFool; all_goals (repeat (first | rw [if_pos (by first | assumption | omega | rfl | trivial)] | rw [if_neg (by first | assumption | omega)])); all_goals (try simp only [eF]); all_goals (try simp only [qFoolN]); all_goals (repeat (first | rw [if_pos (by first | assumption | omega | rfl | trivial)] | rw [if_neg (by first | assumption | omega)])); all_goals (try rfl)
        exact ⟨by rw [e9], rfl, rfl⟩
      · refine v_tsIn (off := 58) (tgt := 71) dX7_foolOf_13 (by decide) (by decide) (by decide) (by decide) ?_
        refine v_aload_n dX7_foolOf_71 rfl ?_
        refine v_iload_n dX7_foolOf_72 rfl ?_
        refine v_callV (st := []) dX7_foolOf_73 (t_X7_patentsOf (f := F) ho hv hK (by omega) (by omega) (by omega)) wX7_104 ho rfl rfl ⟨Nat.le_of_ble_eq_true rfl, Nat.le_of_ble_eq_true rfl⟩ (Nat.le_of_ble_eq_true rfl) ⟨Nat.le_of_ble_eq_true rfl, Nat.le_of_ble_eq_true rfl⟩ (fun r n2 h2 hq => ?_)
        obtain ⟨rfl, hn9, hh9⟩ := hq; replace hn9 := hn9.symm; subst hn9; replace hh9 := hh9.symm; subst hh9
        refine v_st (st2 := [.int (nI (cnt (fun z => decide (hold C z ∧ C 8 z = F)) (C 0 1)))]) rfl ?_
        refine v_iret dX7_foolOf_76 rfl ?_ (Nat.le_of_ble_eq_true rfl) (Nat.le_of_ble_eq_true rfl)
        have e9 : qFool C (nI F) (nI 4) = (nI (cnt (fun z => decide (hold C z ∧ C 8 z = F)) (C 0 1)) : Int32) := by unfold qFool; all_goals (repeat (first | rw [if_pos (by first | assumption | omega | rfl | trivial)] | rw [if_neg (by first | assumption | omega)])); all_goals (try simp only [eF]); all_goals (try simp only [qFoolN]); all_goals (repeat (first | rw [if_pos (by first | assumption | omega | rfl | trivial)] | rw [if_neg (by first | assumption | omega)])); all_goals (try rfl)
        exact ⟨by rw [e9], rfl, rfl⟩
      · refine v_tsIn (off := 64) (tgt := 77) dX7_foolOf_13 (by decide) (by decide) (by decide) (by decide) ?_
        refine v_aload_n dX7_foolOf_77 rfl ?_
        refine v_iconst (v := nI 0) dX7_foolOf_78 (by decide) ?_
        refine v_iload_n dX7_foolOf_79 rfl ?_
        refine v_callV (st := []) dX7_foolOf_80 (t_X7_bookings (w := 0) (x := F) ho hv hK (by omega) (by omega) (by omega) (by omega)) wX7_107 ho rfl rfl ⟨Nat.le_of_ble_eq_true rfl, Nat.le_of_ble_eq_true rfl⟩ (Nat.le_of_ble_eq_true rfl) ⟨Nat.le_of_ble_eq_true rfl, Nat.le_of_ble_eq_true rfl⟩ (fun r n2 h2 hq => ?_)
        obtain ⟨rfl, hn9, hh9⟩ := hq; replace hn9 := hn9.symm; subst hn9; replace hh9 := hh9.symm; subst hh9
        refine v_st (st2 := [.int (nI (cnt (fun z => decide (C 11 z = F)) (C 0 2)))]) rfl ?_
        refine v_iret dX7_foolOf_83 rfl ?_ (Nat.le_of_ble_eq_true rfl) (Nat.le_of_ble_eq_true rfl)
        have e9 : qFool C (nI F) (nI 5) = (nI (cnt (fun z => decide (C 11 z = F)) (C 0 2)) : Int32) := by unfold qFool; all_goals (repeat (first | rw [if_pos (by first | assumption | omega | rfl | trivial)] | rw [if_neg (by first | assumption | omega)])); all_goals (try simp only [eF]); all_goals (try simp only [qFoolN]); all_goals (repeat (first | rw [if_pos (by first | assumption | omega | rfl | trivial)] | rw [if_neg (by first | assumption | omega)])); all_goals (try rfl)
        exact ⟨by rw [e9], rfl, rfl⟩
      · refine v_tsIn (off := 71) (tgt := 84) dX7_foolOf_13 (by decide) (by decide) (by decide) (by decide) ?_
        refine v_aload_n dX7_foolOf_84 rfl ?_
        refine fX7_7 (v := .ref (m + 1)) rfl dX7_foolOf_85 ho rfl ?_
        refine v_iload_n dX7_foolOf_88 rfl ?_
        refine v_iload_n dX7_foolOf_89 rfl ?_
        refine v_iconst (v := nI 2) dX7_foolOf_90 (by decide) ?_
        refine n_isub (x := 6) (y := 2) dX7_foolOf_91 (by omega) ?_
        refine v_st (st2 := [.int (nI 4), .int (nI F), .ref (m + 1)]) rfl ?_
        refine v_callS (st := [.ref (m + 1)]) dX7_foolOf_92 (t_X7_at (f := F) (w := 4)) wX7_63 rfl ⟨Nat.le_of_ble_eq_true rfl, Nat.le_of_ble_eq_true rfl⟩ (Nat.le_of_ble_eq_true rfl) ⟨Nat.le_of_ble_eq_true rfl, Nat.le_of_ble_eq_true rfl⟩ (fun r n2 h2 hq => ?_)
        obtain ⟨rfl, hn9, hh9⟩ := hq; replace hn9 := hn9.symm; subst hn9; replace hh9 := hh9.symm; subst hh9
        refine v_st (st2 := [.int (nI (10 + 6 * F + 4)), .ref (m + 1)]) rfl ?_
        refine n_ialdv (f := vO C) (j := 10 + 6 * F + 4) (y := C 5 F) dX7_foolOf_95 hv (by omega) (by decide) ((vrd (C := C) (lgF (f := F) (w := 4) (by omega) (by decide)) (Or.inl (by omega))).trans rfl) ?_
        have b28 := hK 5 F
        refine v_iret dX7_foolOf_96 rfl ?_ (Nat.le_of_ble_eq_true rfl) (Nat.le_of_ble_eq_true rfl)
        have e9 : qFool C (nI F) (nI 6) = (nI (C 5 F) : Int32) := by unfold qFool; all_goals (repeat (first | rw [if_pos (by first | assumption | omega | rfl | trivial)] | rw [if_neg (by first | assumption | omega)])); all_goals (try simp only [eF]); all_goals (try simp only [qFoolN]); all_goals (repeat (first | rw [if_pos (by first | assumption | omega | rfl | trivial)] | rw [if_neg (by first | assumption | omega)])); all_goals (try rfl)
        exact ⟨by rw [e9], rfl, rfl⟩
      · refine v_tsIn (off := 71) (tgt := 84) dX7_foolOf_13 (by decide) (by decide) (by decide) (by decide) ?_
        refine v_aload_n dX7_foolOf_84 rfl ?_
        refine fX7_7 (v := .ref (m + 1)) rfl dX7_foolOf_85 ho rfl ?_
        refine v_iload_n dX7_foolOf_88 rfl ?_
        refine v_iload_n dX7_foolOf_89 rfl ?_
        refine v_iconst (v := nI 2) dX7_foolOf_90 (by decide) ?_
        refine n_isub (x := 7) (y := 2) dX7_foolOf_91 (by omega) ?_
        refine v_st (st2 := [.int (nI 5), .int (nI F), .ref (m + 1)]) rfl ?_
        refine v_callS (st := [.ref (m + 1)]) dX7_foolOf_92 (t_X7_at (f := F) (w := 5)) wX7_63 rfl ⟨Nat.le_of_ble_eq_true rfl, Nat.le_of_ble_eq_true rfl⟩ (Nat.le_of_ble_eq_true rfl) ⟨Nat.le_of_ble_eq_true rfl, Nat.le_of_ble_eq_true rfl⟩ (fun r n2 h2 hq => ?_)
        obtain ⟨rfl, hn9, hh9⟩ := hq; replace hn9 := hn9.symm; subst hn9; replace hh9 := hh9.symm; subst hh9
        refine v_st (st2 := [.int (nI (10 + 6 * F + 5)), .ref (m + 1)]) rfl ?_
        refine n_ialdv (f := vO C) (j := 10 + 6 * F + 5) (y := C 6 F) dX7_foolOf_95 hv (by omega) (by decide) ((vrd (C := C) (lgF (f := F) (w := 5) (by omega) (by decide)) (Or.inl (by omega))).trans rfl) ?_
        have b29 := hK 6 F
        refine v_iret dX7_foolOf_96 rfl ?_ (Nat.le_of_ble_eq_true rfl) (Nat.le_of_ble_eq_true rfl)
        have e9 : qFool C (nI F) (nI 7) = (nI (C 6 F) : Int32) := by unfold qFool; all_goals (repeat (first | rw [if_pos (by first | assumption | omega | rfl | trivial)] | rw [if_neg (by first | assumption | omega)])); all_goals (try simp only [eF]); all_goals (try simp only [qFoolN]); all_goals (repeat (first | rw [if_pos (by first | assumption | omega | rfl | trivial)] | rw [if_neg (by first | assumption | omega)])); all_goals (try rfl)
        exact ⟨by rw [e9], rfl, rfl⟩
    · refine v_tsOut (tgt := 97) dX7_foolOf_13 (ix_out c22) (by decide) ?_
      refine v_sipush (v := (-1012)) dX7_foolOf_97 (by decide) ?_
      refine v_iret dX7_foolOf_100 rfl ?_ (Nat.le_of_ble_eq_true rfl) (Nat.le_of_ble_eq_true rfl)
      have e9 : qFool C (nI F) w = ((-1012) : Int32) := by unfold qFool; all_goals (repeat (first | rw [if_pos (by first | assumption | omega | rfl | trivial)] | rw [if_neg (by first | assumption | omega)])); all_goals (try simp only [eF]); all_goals (try simp only [qFoolN]); all_goals (repeat (first | rw [if_pos (by first | assumption | omega | rfl | trivial)] | rw [if_neg (by first | assumption | omega)])); all_goals (try rfl)
      exact ⟨by rw [e9], rfl, rfl⟩
  · refine v_sipush (v := (-1011)) dX7_foolOf_8 (by decide) ?_
    refine v_iret dX7_foolOf_11 rfl ?_ (Nat.le_of_ble_eq_true rfl) (Nat.le_of_ble_eq_true rfl)
    have e9 : qFool C f w = ((-1011) : Int32) := by unfold qFool; all_goals (repeat (first | rw [if_pos (by first | assumption | omega | rfl | trivial)] | rw [if_neg (by first | assumption | omega)])); all_goals (try simp only [qFoolN]); all_goals (repeat (first | rw [if_pos (by first | assumption | omega | rfl | trivial)] | rw [if_neg (by first | assumption | omega)])); all_goals (try rfl)
    exact ⟨by rw [e9], rfl, rfl⟩
set_option maxRecDepth 20000 in
set_option maxHeartbeats 4000000 in
theorem t_X7_jokeOf {l : Launch} {G : vG} {h : AH} {n : Nat} {j w : Int32} {m ch sv tn hr en ln wg dg : Nat} {fl wy dt : Int32} {b : Nat} {C : Ct} (ho : h m = some (mo m ch sv tn hr en ln wg dg fl wy dt)) (hv : h (m + 1) = some (ar G 182 (vO C))) (hK : bdk b C) (hb2 : b + 5000 ≤ 2 ^ 28) (hI : Iv C) : Mt l G mX7_jokeOf [.ref m, .int j, .int w] (n) h 0 0 (fun r n2 h2 => r = some (.int (qJoke C j w)) ∧ n2 = n ∧ h2 = h) := by
  refine Mt.of (by decide) (Nat.le_of_ble_eq_true rfl) rfl ?_
  refine v_ls (ls2 := [some (.ref m), some (.int j), some (.int w), none]) rfl ?_
  have hB := hK.bd (by omega)
  obtain ⟨hF, hJ, hn, hs1, hc99, hs4, hs7, hs8, hs15, hbk9, hs9⟩ := hI.1
  have b00 := hB 0 0
  have b01 := hB 0 1
  have b02 := hB 0 2
  have b03 := hB 0 3
  obtain ⟨w1, te, he9, pa9, sl9, br9, lo9, so9, z2, z3, z5, z6, zj, zt, ow9⟩ := id hI.2
  refine v_aload_n dX7_jokeOf_0 rfl ?_
  refine v_iload_n dX7_jokeOf_1 rfl ?_
  refine v_callV (st := []) dX7_jokeOf_2 (t_X7_isJoke (x := j) ho hv hK (by omega)) wX7_85 ho rfl rfl ⟨Nat.le_of_ble_eq_true rfl, Nat.le_of_ble_eq_true rfl⟩ (Nat.le_of_ble_eq_true rfl) ⟨Nat.le_of_ble_eq_true rfl, Nat.le_of_ble_eq_true rfl⟩ (fun r n2 h2 hq => ?_)
  obtain ⟨rfl, hn9, hh9⟩ := hq; replace hn9 := hn9.symm; subst hn9; replace hh9 := hh9.symm; subst hh9
  refine v_st (st2 := [.int (nI (bI (ixb j (C 0 1) = true)))]) rfl ?_
  refine n_ifb_ne (tgt := 12) (p := ixb j (C 0 1) = true) dX7_jokeOf_5 (by decide) (fun c21 => ?_) (fun c21 => ?_)
  · obtain ⟨J, hJ1, rfl⟩ := ix_of c21 (by omega)
    have eJ : (nI J).toNatClampNeg = J := nI_clamp (by omega)
    refine v_aload_n dX7_jokeOf_12 rfl ?_
    refine v_iload_n dX7_jokeOf_13 rfl ?_
    refine v_callV (st := []) dX7_jokeOf_14 (t_X7_owner (j := J) ho hv hK (by omega) (by omega)) wX7_60 ho rfl rfl ⟨Nat.le_of_ble_eq_true rfl, Nat.le_of_ble_eq_true rfl⟩ (Nat.le_of_ble_eq_true rfl) ⟨Nat.le_of_ble_eq_true rfl, Nat.le_of_ble_eq_true rfl⟩ (fun r n2 h2 hq => ?_)
    obtain ⟨rfl, hn9, hh9⟩ := hq; replace hn9 := hn9.symm; subst hn9; replace hh9 := hh9.symm; subst hh9
    refine v_st (st2 := [.int (ow C J)]) rfl ?_
    by_cases ho22 : hold C J
    have b23 := hK 8 J
    · refine v_st (st2 := [.int (nI (C 8 J))]) (by rw [ow_t ho22]; try rfl) ?_
      refine v_istore_n dX7_jokeOf_17 rfl (by decide) ?_
      refine v_ls (ls2 := [some (.ref m), some (.int (nI J)), some (.int w), some (.int (nI (C 8 J)))]) rfl ?_
      refine v_iload_n dX7_jokeOf_18 rfl ?_
      by_cases c24 : ixb w 5 = true
      · obtain ⟨k25, hk25, rfl⟩ := ix_of c24 (by decide)
        obtain rfl | rfl | rfl | rfl | rfl := (by omega : k25 = 0 ∨ k25 = 1 ∨ k25 = 2 ∨ k25 = 3 ∨ k25 = 4)
        · refine v_tsIn (off := 33) (tgt := 52) dX7_jokeOf_19 (by decide) (by decide) (by decide) (by decide) ?_
          refine v_aload_n dX7_jokeOf_52 rfl ?_
          refine fX7_7 (v := .ref (m + 1)) rfl dX7_jokeOf_53 ho rfl ?_
          refine v_iload_n dX7_jokeOf_56 rfl ?_
          refine v_iconst (v := nI 0) dX7_jokeOf_57 (by decide) ?_
          refine v_callS (st := [.ref (m + 1)]) dX7_jokeOf_58 (t_X7_in (f := J) (w := 0)) wX7_56 rfl ⟨Nat.le_of_ble_eq_true rfl, Nat.le_of_ble_eq_true rfl⟩ (Nat.le_of_ble_eq_true rfl) ⟨Nat.le_of_ble_eq_true rfl, Nat.le_of_ble_eq_true rfl⟩ (fun r n2 h2 hq => ?_)
          obtain ⟨rfl, hn9, hh9⟩ := hq; replace hn9 := hn9.symm; subst hn9; replace hh9 := hh9.symm; subst hh9
          refine v_st (st2 := [.int (nI (46 + 3 * J + 0)), .ref (m + 1)]) rfl ?_
          refine n_ialdv (f := vO C) (j := 46 + 3 * J + 0) (y := C 7 J) dX7_jokeOf_61 hv (by omega) (by decide) ((vrd (C := C) (lgJ (f := J) (w := 0) (by omega) (by decide)) (Or.inl (by omega))).trans rfl) ?_
          have b26 := hK 7 J
          refine v_iret dX7_jokeOf_62 rfl ?_ (Nat.le_of_ble_eq_true rfl) (Nat.le_of_ble_eq_true rfl)
          have e9 : qJoke C (nI J) (nI 0) = (nI (C 7 J) : Int32) := by unfold qJoke; all_goals (repeat (first | rw [if_pos (by first | assumption | omega | rfl | trivial)] | rw [if_neg (by first | assumption | omega)])); all_goals (try simp only [eJ]); all_goals (try simp only [qJokeN]); all_goals (repeat (first | rw [if_pos (by first | assumption | omega | rfl | trivial)] | rw [if_neg (by first | assumption | omega)])); all_goals (try rfl)
          exact ⟨by rw [e9], rfl, rfl⟩
        · refine v_tsIn (off := 44) (tgt := 63) dX7_jokeOf_19 (by decide) (by decide) (by decide) (by decide) ?_
          refine v_iload_n dX7_jokeOf_63 rfl ?_
          refine n_if_ge (tgt := 73) (x := C 8 J) dX7_jokeOf_64 (by decide) (by omega) ?_
          refine v_iload_n dX7_jokeOf_73 rfl ?_
          refine v_iret dX7_jokeOf_74 rfl ?_ (Nat.le_of_ble_eq_true rfl) (Nat.le_of_ble_eq_true rfl)
          have e9 : qJoke C (nI J) (nI 1) = (nI (C 8 J) : Int32) := by unfold qJoke; all_goals (repeat (first | rw [if_pos (by first | assumption | omega | rfl | trivial)] | rw [if_neg (by first | assumption | omega)])); all_goals (try simp only [eJ]); all_goals (try simp only [qJokeN]); all_goals (repeat (first | rw [if_pos (by first | assumption | omega | rfl | trivial)] | rw [if_neg (by first | assumption | omega)])); all_goals (try rfl)
          exact ⟨by rw [e9], rfl, rfl⟩
        · refine v_tsIn (off := 56) (tgt := 75) dX7_jokeOf_19 (by decide) (by decide) (by decide) (by decide) ?_
          refine v_iload_n dX7_jokeOf_75 rfl ?_
          refine n_if_ge (tgt := 83) (x := C 8 J) dX7_jokeOf_76 (by decide) (by omega) ?_
          refine v_aload_n dX7_jokeOf_83 rfl ?_
          refine fX7_7 (v := .ref (m + 1)) rfl dX7_jokeOf_84 ho rfl ?_
          refine v_iload_n dX7_jokeOf_87 rfl ?_
          refine v_iconst (v := nI 2) dX7_jokeOf_88 (by decide) ?_
          refine v_callS (st := [.ref (m + 1)]) dX7_jokeOf_89 (t_X7_in (f := J) (w := 2)) wX7_56 rfl ⟨Nat.le_of_ble_eq_true rfl, Nat.le_of_ble_eq_true rfl⟩ (Nat.le_of_ble_eq_true rfl) ⟨Nat.le_of_ble_eq_true rfl, Nat.le_of_ble_eq_true rfl⟩ (fun r n2 h2 hq => ?_)
          obtain ⟨rfl, hn9, hh9⟩ := hq; replace hn9 := hn9.symm; subst hn9; replace hh9 := hh9.symm; subst hh9
          refine v_st (st2 := [.int (nI (46 + 3 * J + 2)), .ref (m + 1)]) rfl ?_
          refine n_ialdv (f := vO C) (j := 46 + 3 * J + 2) (y := C 9 J) dX7_jokeOf_92 hv (by omega) (by decide) ((vrd (C := C) (lgJ (f := J) (w := 2) (by omega) (by decide)) (Or.inl (by omega))).trans rfl) ?_
          have b27 := hK 9 J
          refine v_aload_n dX7_jokeOf_93 rfl ?_
          refine fX7_7 (v := .ref (m + 1)) rfl dX7_jokeOf_94 ho rfl ?_
          refine v_iconst (v := nI 3) dX7_jokeOf_97 (by decide) ?_
          refine n_ialdv (f := vO C) (j := 3) (y := C 0 3) dX7_jokeOf_98 hv (by omega) (by decide) ((vrd (C := C) lgn3 (Or.inl (by decide))).trans rfl) ?_
          have b28 := hK 0 3
          refine n_isub (x := C 9 J) (y := C 0 3) dX7_jokeOf_99 (by omega) ?_
          refine v_iret dX7_jokeOf_100 rfl ?_ (Nat.le_of_ble_eq_true rfl) (Nat.le_of_ble_eq_true rfl)
          have e9 : qJoke C (nI J) (nI 2) = (nI (C 9 J - C 0 3) : Int32) := by unfold qJoke; all_goals (repeat (first | rw [if_pos (by first | assumption | omega | rfl | trivial)] | rw [if_neg (by first | assumption | omega)])); all_goals (try simp only [eJ]); all_goals (try simp only [qJokeN]); all_goals (repeat (first | rw [if_pos (by first | assumption | omega | rfl | trivial)] | rw [if_neg (by first | assumption | omega)])); all_goals (try rfl)
          exact ⟨by rw [e9], rfl, rfl⟩
        · refine v_tsIn (off := 82) (tgt := 101) dX7_jokeOf_19 (by decide) (by decide) (by decide) (by decide) ?_
          refine v_aload_n dX7_jokeOf_101 rfl ?_
          refine v_iload_n dX7_jokeOf_102 rfl ?_
          refine v_callV (st := []) dX7_jokeOf_103 (t_X7_tellings (j := J) ho hv hK (by omega) (by omega)) wX7_110 ho rfl rfl ⟨Nat.le_of_ble_eq_true rfl, Nat.le_of_ble_eq_true rfl⟩ (Nat.le_of_ble_eq_true rfl) ⟨Nat.le_of_ble_eq_true rfl, Nat.le_of_ble_eq_true rfl⟩ (fun r n2 h2 hq => ?_)
          obtain ⟨rfl, hn9, hh9⟩ := hq; replace hn9 := hn9.symm; subst hn9; replace hh9 := hh9.symm; subst hh9
          refine v_st (st2 := [.int (nI (tlS C J))]) rfl ?_
          refine v_iret dX7_jokeOf_106 rfl ?_ (Nat.le_of_ble_eq_true rfl) (Nat.le_of_ble_eq_true rfl)
          have e9 : qJoke C (nI J) (nI 3) = (nI (tlS C J) : Int32) := by unfold qJoke; all_goals (repeat (first | rw [if_pos (by first | assumption | omega | rfl | trivial)] | rw [if_neg (by first | assumption | omega)])); all_goals (try simp only [eJ]); all_goals (try simp only [qJokeN]); all_goals (repeat (first | rw [if_pos (by first | assumption | omega | rfl | trivial)] | rw [if_neg (by first | assumption | omega)])); all_goals (try rfl)
          exact ⟨by rw [e9], rfl, rfl⟩
        · refine v_tsIn (off := 88) (tgt := 107) dX7_jokeOf_19 (by decide) (by decide) (by decide) (by decide) ?_
          refine v_aload_n dX7_jokeOf_107 rfl ?_
          refine v_iconst (v := nI 1) dX7_jokeOf_108 (by decide) ?_
          refine v_iload_n dX7_jokeOf_109 rfl ?_
          refine v_callV (st := []) dX7_jokeOf_110 (t_X7_bookings (w := 1) (x := J) ho hv hK (by omega) (by omega) (by omega) (by omega)) wX7_107 ho rfl rfl ⟨Nat.le_of_ble_eq_true rfl, Nat.le_of_ble_eq_true rfl⟩ (Nat.le_of_ble_eq_true rfl) ⟨Nat.le_of_ble_eq_true rfl, Nat.le_of_ble_eq_true rfl⟩ (fun r n2 h2 hq => ?_)
          obtain ⟨rfl, hn9, hh9⟩ := hq; replace hn9 := hn9.symm; subst hn9; replace hh9 := hh9.symm; subst hh9
          refine v_st (st2 := [.int (nI (cnt (fun z => decide (C 12 z = J)) (C 0 2)))]) rfl ?_
          refine v_iret dX7_jokeOf_113 rfl ?_ (Nat.le_of_ble_eq_true rfl) (Nat.le_of_ble_eq_true rfl)
          have e9 : qJoke C (nI J) (nI 4) = (nI (cnt (fun z => decide (C 12 z = J)) (C 0 2)) : Int32) := by unfold qJoke; all_goals (repeat (first | rw [if_pos (by first | assumption | omega | rfl | trivial)] | rw [if_neg (by first | assumption | omega)])); all_goals (try simp only [eJ]); all_goals (try simp only [qJokeN]); all_goals (repeat (first | rw [if_pos (by first | assumption | omega | rfl | trivial)] | rw [if_neg (by first | assumption | omega)])); all_goals (try rfl)
          exact ⟨by rw [e9], rfl, rfl⟩
      · refine v_tsOut (tgt := 114) dX7_jokeOf_19 (ix_out c24) (by decide) ?_
        refine v_sipush (v := (-1012)) dX7_jokeOf_114 (by decide) ?_
        refine v_iret dX7_jokeOf_117 rfl ?_ (Nat.le_of_ble_eq_true rfl) (Nat.le_of_ble_eq_true rfl)
        have e9 : qJoke C (nI J) w = ((-1012) : Int32) := by unfold qJoke; all_goals (repeat (first | rw [if_pos (by first | assumption | omega | rfl | trivial)] | rw [if_neg (by first | assumption | omega)])); all_goals (try simp only [eJ]); all_goals (try simp only [qJokeN]); all_goals (repeat (first | rw [if_pos (by first | assumption | omega | rfl | trivial)] | rw [if_neg (by first | assumption | omega)])); all_goals (try rfl)
        exact ⟨by rw [e9], rfl, rfl⟩
    · refine v_st (st2 := [.int ((-1))]) (by rw [ow_f ho22]; try rfl) ?_
      refine v_istore_n dX7_jokeOf_17 rfl (by decide) ?_
      refine v_ls (ls2 := [some (.ref m), some (.int (nI J)), some (.int w), some (.int ((-1)))]) rfl ?_
      refine v_iload_n dX7_jokeOf_18 rfl ?_
      by_cases c29 : ixb w 5 = true
      · obtain ⟨k30, hk30, rfl⟩ := ix_of c29 (by decide)
        obtain rfl | rfl | rfl | rfl | rfl := (by omega : k30 = 0 ∨ k30 = 1 ∨ k30 = 2 ∨ k30 = 3 ∨ k30 = 4)
        · refine v_tsIn (off := 33) (tgt := 52) dX7_jokeOf_19 (by decide) (by decide) (by decide) (by decide) ?_
          refine v_aload_n dX7_jokeOf_52 rfl ?_
          refine fX7_7 (v := .ref (m + 1)) rfl dX7_jokeOf_53 ho rfl ?_
          refine v_iload_n dX7_jokeOf_56 rfl ?_
          refine v_iconst (v := nI 0) dX7_jokeOf_57 (by decide) ?_
          refine v_callS (st := [.ref (m + 1)]) dX7_jokeOf_58 (t_X7_in (f := J) (w := 0)) wX7_56 rfl ⟨Nat.le_of_ble_eq_true rfl, Nat.le_of_ble_eq_true rfl⟩ (Nat.le_of_ble_eq_true rfl) ⟨Nat.le_of_ble_eq_true rfl, Nat.le_of_ble_eq_true rfl⟩ (fun r n2 h2 hq => ?_)
          obtain ⟨rfl, hn9, hh9⟩ := hq; replace hn9 := hn9.symm; subst hn9; replace hh9 := hh9.symm; subst hh9
          refine v_st (st2 := [.int (nI (46 + 3 * J + 0)), .ref (m + 1)]) rfl ?_
          refine n_ialdv (f := vO C) (j := 46 + 3 * J + 0) (y := C 7 J) dX7_jokeOf_61 hv (by omega) (by decide) ((vrd (C := C) (lgJ (f := J) (w := 0) (by omega) (by decide)) (Or.inl (by omega))).trans rfl) ?_
          have b31 := hK 7 J
          refine v_iret dX7_jokeOf_62 rfl ?_ (Nat.le_of_ble_eq_true rfl) (Nat.le_of_ble_eq_true rfl)
          have e9 : qJoke C (nI J) (nI 0) = (nI (C 7 J) : Int32) := by unfold qJoke; all_goals (repeat (first | rw [if_pos (by first | assumption | omega | rfl | trivial)] | rw [if_neg (by first | assumption | omega)])); all_goals (try simp only [eJ]); all_goals (try simp only [qJokeN]); all_goals (repeat (first | rw [if_pos (by first | assumption | omega | rfl | trivial)] | rw [if_neg (by first | assumption | omega)])); all_goals (try rfl)
          exact ⟨by rw [e9], rfl, rfl⟩
        · refine v_tsIn (off := 44) (tgt := 63) dX7_jokeOf_19 (by decide) (by decide) (by decide) (by decide) ?_
          refine v_iload_n dX7_jokeOf_63 rfl ?_
          refine v_if_ge (tgt := 73) dX7_jokeOf_64 (by decide) (fun c => absurd c (by decide)) (fun _ => ?_)
          refine v_sipush (v := (-1015)) dX7_jokeOf_67 (by decide) ?_
          refine v_goto (tgt := 74) dX7_jokeOf_70 (by decide) ?_
          refine v_iret dX7_jokeOf_74 rfl ?_ (Nat.le_of_ble_eq_true rfl) (Nat.le_of_ble_eq_true rfl)
          have e9 : qJoke C (nI J) (nI 1) = ((-1015) : Int32) := by unfold qJoke; all_goals (repeat (first | rw [if_pos (by first | assumption | omega | rfl | trivial)] | rw [if_neg (by first | assumption | omega)])); all_goals (try simp only [eJ]); all_goals (try simp only [qJokeN]); all_goals (repeat (first | rw [if_pos (by first | assumption | omega | rfl | trivial)] | rw [if_neg (by first | assumption | omega)])); all_goals (try rfl)
          exact ⟨by rw [e9], rfl, rfl⟩
        · refine v_tsIn (off := 56) (tgt := 75) dX7_jokeOf_19 (by decide) (by decide) (by decide) (by decide) ?_
          refine v_iload_n dX7_jokeOf_75 rfl ?_
          refine v_if_ge (tgt := 83) dX7_jokeOf_76 (by decide) (fun c => absurd c (by decide)) (fun _ => ?_)
          refine v_iconst (v := nI 0) dX7_jokeOf_79 (by decide) ?_
          refine v_goto (tgt := 100) dX7_jokeOf_80 (by decide) ?_
          refine v_iret dX7_jokeOf_100 rfl ?_ (Nat.le_of_ble_eq_true rfl) (Nat.le_of_ble_eq_true rfl)
          have e9 : qJoke C (nI J) (nI 2) = (nI 0 : Int32) := by unfold qJoke; all_goals (repeat (first | rw [if_pos (by first | assumption | omega | rfl | trivial)] | rw [if_neg (by first | assumption | omega)])); all_goals (try simp only [eJ]); all_goals (try simp only [qJokeN]); all_goals (repeat (first | rw [if_pos (by first | assumption | omega | rfl | trivial)] | rw [if_neg (by first | assumption | omega)])); all_goals (try rfl)
          exact ⟨by rw [e9], rfl, rfl⟩
        · refine v_tsIn (off := 82) (tgt := 101) dX7_jokeOf_19 (by decide) (by decide) (by decide) (by decide) ?_
          refine v_aload_n dX7_jokeOf_101 rfl ?_
          refine v_iload_n dX7_jokeOf_102 rfl ?_
          refine v_callV (st := []) dX7_jokeOf_103 (t_X7_tellings (j := J) ho hv hK (by omega) (by omega)) wX7_110 ho rfl rfl ⟨Nat.le_of_ble_eq_true rfl, Nat.le_of_ble_eq_true rfl⟩ (Nat.le_of_ble_eq_true rfl) ⟨Nat.le_of_ble_eq_true rfl, Nat.le_of_ble_eq_true rfl⟩ (fun r n2 h2 hq => ?_)
          obtain ⟨rfl, hn9, hh9⟩ := hq; replace hn9 := hn9.symm; subst hn9; replace hh9 := hh9.symm; subst hh9
          refine v_st (st2 := [.int (nI (tlS C J))]) rfl ?_
          refine v_iret dX7_jokeOf_106 rfl ?_ (Nat.le_of_ble_eq_true rfl) (Nat.le_of_ble_eq_true rfl)
          have e9 : qJoke C (nI J) (nI 3) = (nI (tlS C J) : Int32) := by unfold qJoke; all_goals (repeat (first | rw [if_pos (by first | assumption | omega | rfl | trivial)] | rw [if_neg (by first | assumption | omega)])); all_goals (try simp only [eJ]); all_goals (try simp only [qJokeN]); all_goals (repeat (first | rw [if_pos (by first | assumption | omega | rfl | trivial)] | rw [if_neg (by first | assumption | omega)])); all_goals (try rfl)
          exact ⟨by rw [e9], rfl, rfl⟩
        · refine v_tsIn (off := 88) (tgt := 107) dX7_jokeOf_19 (by decide) (by decide) (by decide) (by decide) ?_
          refine v_aload_n dX7_jokeOf_107 rfl ?_
          refine v_iconst (v := nI 1) dX7_jokeOf_108 (by decide) ?_
          refine v_iload_n dX7_jokeOf_109 rfl ?_
          refine v_callV (st := []) dX7_jokeOf_110 (t_X7_bookings (w := 1) (x := J) ho hv hK (by omega) (by omega) (by omega) (by omega)) wX7_107 ho rfl rfl ⟨Nat.le_of_ble_eq_true rfl, Nat.le_of_ble_eq_true rfl⟩ (Nat.le_of_ble_eq_true rfl) ⟨Nat.le_of_ble_eq_true rfl, Nat.le_of_ble_eq_true rfl⟩ (fun r n2 h2 hq => ?_)
          obtain ⟨rfl, hn9, hh9⟩ := hq; replace hn9 := hn9.symm; subst hn9; replace hh9 := hh9.symm; subst hh9
          refine v_st (st2 := [.int (nI (cnt (fun z => decide (C 12 z = J)) (C 0 2)))]) rfl ?_
          refine v_iret dX7_jokeOf_113 rfl ?_ (Nat.le_of_ble_eq_true rfl) (Nat.le_of_ble_eq_true rfl)
          have e9 : qJoke C (nI J) (nI 4) = (nI (cnt (fun z => decide (C 12 z = J)) (C 0 2)) : Int32) := by unfold qJoke; all_goals (repeat (first | rw [if_pos (by first | assumption | omega | rfl | trivial)] | rw [if_neg (by first | assumption | omega)])); all_goals (try simp only [eJ]); all_goals (try simp only [qJokeN]); all_goals (repeat (first | rw [if_pos (by first | assumption | omega | rfl | trivial)] | rw [if_neg (by first | assumption | omega)])); all_goals (try rfl)
          exact ⟨by rw [e9], rfl, rfl⟩
      · refine v_tsOut (tgt := 114) dX7_jokeOf_19 (ix_out c29) (by decide) ?_
        refine v_sipush (v := (-1012)) dX7_jokeOf_114 (by decide) ?_
        refine v_iret dX7_jokeOf_117 rfl ?_ (Nat.le_of_ble_eq_true rfl) (Nat.le_of_ble_eq_true rfl)
        have e9 : qJoke C (nI J) w = ((-1012) : Int32) := by unfold qJoke; all_goals (repeat (first | rw [if_pos (by first | assumption | omega | rfl | trivial)] | rw [if_neg (by first | assumption | omega)])); all_goals (try simp only [eJ]); all_goals (try simp only [qJokeN]); all_goals (repeat (first | rw [if_pos (by first | assumption | omega | rfl | trivial)] | rw [if_neg (by first | assumption | omega)])); all_goals (try rfl)
        exact ⟨by rw [e9], rfl, rfl⟩
  · refine v_sipush (v := (-1011)) dX7_jokeOf_8 (by decide) ?_
    refine v_iret dX7_jokeOf_11 rfl ?_ (Nat.le_of_ble_eq_true rfl) (Nat.le_of_ble_eq_true rfl)
    have e9 : qJoke C j w = ((-1011) : Int32) := by unfold qJoke; all_goals (repeat (first | rw [if_pos (by first | assumption | omega | rfl | trivial)] | rw [if_neg (by first | assumption | omega)])); all_goals (try simp only [qJokeN]); all_goals (repeat (first | rw [if_pos (by first | assumption | omega | rfl | trivial)] | rw [if_neg (by first | assumption | omega)])); all_goals (try rfl)
    exact ⟨by rw [e9], rfl, rfl⟩
set_option maxRecDepth 20000 in
set_option maxHeartbeats 4000000 in
theorem t_X7_throneOf {l : Launch} {G : vG} {h : AH} {n : Nat} {t w : Int32} {m ch sv tn hr en ln wg dg : Nat} {fl wy dt : Int32} {b : Nat} {C : Ct} (ho : h m = some (mo m ch sv tn hr en ln wg dg fl wy dt)) (hv : h (m + 1) = some (ar G 182 (vO C))) (hK : bdk b C) (hb2 : b + 5000 ≤ 2 ^ 28) (hI : Iv C) : Mt l G mX7_throneOf [.ref m, .int t, .int w] (n) h 0 0 (fun r n2 h2 => r = some (.int (qThr C t w)) ∧ n2 = n ∧ h2 = h) := by
  refine Mt.of (by decide) (Nat.le_of_ble_eq_true rfl) rfl ?_
  refine v_ls (ls2 := [some (.ref m), some (.int t), some (.int w)]) rfl ?_
  have hB := hK.bd (by omega)
  obtain ⟨hF, hJ, hn, hs1, hc99, hs4, hs7, hs8, hs15, hbk9, hs9⟩ := hI.1
  have b00 := hB 0 0
  have b01 := hB 0 1
  have b02 := hB 0 2
  have b03 := hB 0 3
  obtain ⟨w1, te, he9, pa9, sl9, br9, lo9, so9, z2, z3, z5, z6, zj, zt, ow9⟩ := id hI.2
  refine v_iload_n dX7_throneOf_0 rfl ?_
  refine v_callS (st := []) dX7_throneOf_1 (t_X7_isThrone (x := t)) wX7_113 rfl ⟨Nat.le_of_ble_eq_true rfl, Nat.le_of_ble_eq_true rfl⟩ (Nat.le_of_ble_eq_true rfl) ⟨Nat.le_of_ble_eq_true rfl, Nat.le_of_ble_eq_true rfl⟩ (fun r n2 h2 hq => ?_)
  obtain ⟨rfl, hn9, hh9⟩ := hq; replace hn9 := hn9.symm; subst hn9; replace hh9 := hh9.symm; subst hh9
  refine v_st (st2 := [.int (nI (bI (ixb t 4 = true)))]) rfl ?_
  refine n_ifb_ne (tgt := 11) (p := ixb t 4 = true) dX7_throneOf_4 (by decide) (fun c21 => ?_) (fun c21 => ?_)
  · obtain ⟨T, hT1, rfl⟩ := ix_of c21 (by omega)
    have eT : (nI T).toNatClampNeg = T := nI_clamp (by omega)
    by_cases cw22 : ixb w 4 = true
    · obtain ⟨k23, hk23, rfl⟩ := ix_of cw22 (by decide)
      obtain rfl | rfl | rfl | rfl := (by omega : k23 = 0 ∨ k23 = 1 ∨ k23 = 2 ∨ k23 = 3)
      · refine v_iload_n dX7_throneOf_11 rfl ?_
        refine v_iconst (v := nI 0) dX7_throneOf_12 (by decide) ?_
        refine v_iconst (v := nI 2) dX7_throneOf_13 (by decide) ?_
        refine v_callS (st := []) dX7_throneOf_14 (t_X7_isIn (x := nI 0) (a := nI 0) (z := nI 2)) wX7_52 rfl ⟨Nat.le_of_ble_eq_true rfl, Nat.le_of_ble_eq_true rfl⟩ (Nat.le_of_ble_eq_true rfl) ⟨Nat.le_of_ble_eq_true rfl, Nat.le_of_ble_eq_true rfl⟩ (fun r n2 h2 hq => ?_)
        obtain ⟨rfl, hn9, hh9⟩ := hq; replace hn9 := hn9.symm; subst hn9; replace hh9 := hh9.symm; subst hh9
        refine v_st (st2 := [.int (nI (bI (¬ nI 0 < nI 0 ∧ ¬ nI 2 < nI 0)))]) rfl ?_
        refine n_ifb_eq (tgt := 33) (p := ¬ nI 0 < nI 0 ∧ ¬ nI 2 < nI 0) dX7_throneOf_17 (by decide) (fun z => absurd (by decide) z) (fun _ => ?_)
        refine v_aload_n dX7_throneOf_20 rfl ?_
        refine fX7_7 (v := .ref (m + 1)) rfl dX7_throneOf_21 ho rfl ?_
        refine v_iload_n dX7_throneOf_24 rfl ?_
        refine v_iload_n dX7_throneOf_25 rfl ?_
        refine v_callS (st := [.ref (m + 1)]) dX7_throneOf_26 (t_X7_of (f := T) (w := 0)) wX7_116 rfl ⟨Nat.le_of_ble_eq_true rfl, Nat.le_of_ble_eq_true rfl⟩ (Nat.le_of_ble_eq_true rfl) ⟨Nat.le_of_ble_eq_true rfl, Nat.le_of_ble_eq_true rfl⟩ (fun r n2 h2 hq => ?_)
        obtain ⟨rfl, hn9, hh9⟩ := hq; replace hn9 := hn9.symm; subst hn9; replace hh9 := hh9.symm; subst hh9
        refine v_st (st2 := [.int (nI (82 + 3 * T + 0)), .ref (m + 1)]) rfl ?_
        refine n_ialdv (f := vO C) (j := 82 + 3 * T + 0) (y := C 15 T) dX7_throneOf_29 hv (by omega) (by decide) ((vrd (C := C) (lgT0 (f := T) (by omega)) (Or.inl (by omega))).trans rfl) ?_
        have b24 := hK 15 T
        refine v_goto (tgt := 50) dX7_throneOf_30 (by decide) ?_
        refine v_iret dX7_throneOf_50 rfl ?_ (Nat.le_of_ble_eq_true rfl) (Nat.le_of_ble_eq_true rfl)
        have e9 : qThr C (nI T) (nI 0) = (nI (C 15 T) : Int32) := by unfold qThr; all_goals (repeat (first | rw [if_pos (by first | assumption | omega | rfl | trivial)] | rw [if_neg (by first | assumption | omega)])); all_goals (try simp only [eT]); all_goals (try simp only [qThrN]); all_goals (repeat (first | rw [if_pos (by first | assumption | omega | rfl | trivial)] | rw [if_neg (by first | assumption | omega)])); all_goals (try rw [he9 T (by assumption)]); all_goals (try rw [← he9 T (by assumption)]); all_goals (try rfl)
        exact ⟨by rw [e9], rfl, rfl⟩
      · refine v_iload_n dX7_throneOf_11 rfl ?_
        refine v_iconst (v := nI 0) dX7_throneOf_12 (by decide) ?_
        refine v_iconst (v := nI 2) dX7_throneOf_13 (by decide) ?_
        refine v_callS (st := []) dX7_throneOf_14 (t_X7_isIn (x := nI 1) (a := nI 0) (z := nI 2)) wX7_52 rfl ⟨Nat.le_of_ble_eq_true rfl, Nat.le_of_ble_eq_true rfl⟩ (Nat.le_of_ble_eq_true rfl) ⟨Nat.le_of_ble_eq_true rfl, Nat.le_of_ble_eq_true rfl⟩ (fun r n2 h2 hq => ?_)
        obtain ⟨rfl, hn9, hh9⟩ := hq; replace hn9 := hn9.symm; subst hn9; replace hh9 := hh9.symm; subst hh9
        refine v_st (st2 := [.int (nI (bI (¬ nI 1 < nI 0 ∧ ¬ nI 2 < nI 1)))]) rfl ?_
        refine n_ifb_eq (tgt := 33) (p := ¬ nI 1 < nI 0 ∧ ¬ nI 2 < nI 1) dX7_throneOf_17 (by decide) (fun z => absurd (by decide) z) (fun _ => ?_)
        refine v_aload_n dX7_throneOf_20 rfl ?_
        refine fX7_7 (v := .ref (m + 1)) rfl dX7_throneOf_21 ho rfl ?_
        refine v_iload_n dX7_throneOf_24 rfl ?_
        refine v_iload_n dX7_throneOf_25 rfl ?_
        refine v_callS (st := [.ref (m + 1)]) dX7_throneOf_26 (t_X7_of (f := T) (w := 1)) wX7_116 rfl ⟨Nat.le_of_ble_eq_true rfl, Nat.le_of_ble_eq_true rfl⟩ (Nat.le_of_ble_eq_true rfl) ⟨Nat.le_of_ble_eq_true rfl, Nat.le_of_ble_eq_true rfl⟩ (fun r n2 h2 hq => ?_)
        obtain ⟨rfl, hn9, hh9⟩ := hq; replace hn9 := hn9.symm; subst hn9; replace hh9 := hh9.symm; subst hh9
        refine v_st (st2 := [.int (nI (82 + 3 * T + 1)), .ref (m + 1)]) rfl ?_
        refine n_ialdv (f := vO C) (j := 82 + 3 * T + 1) (y := C 18 T) dX7_throneOf_29 hv (by omega) (by decide) ((vrd (C := C) (lgT1 (f := T) (by omega)) (Or.inl (by omega))).trans rfl) ?_
        have b25 := hK 18 T
        refine v_goto (tgt := 50) dX7_throneOf_30 (by decide) ?_
        refine v_iret dX7_throneOf_50 rfl ?_ (Nat.le_of_ble_eq_true rfl) (Nat.le_of_ble_eq_true rfl)
        have e9 : qThr C (nI T) (nI 1) = (nI (C 18 T) : Int32) := by unfold qThr; all_goals (repeat (first | rw [if_pos (by first | assumption | omega | rfl | trivial)] | rw [if_neg (by first | assumption | omega)])); all_goals (try simp only [eT]); all_goals (try simp only [qThrN]); all_goals (repeat (first | rw [if_pos (by first | assumption | omega | rfl | trivial)] | rw [if_neg (by first | assumption | omega)])); all_goals (try rw [he9 T (by assumption)]); all_goals (try rw [← he9 T (by assumption)]); all_goals (try rfl)
        exact ⟨by rw [e9], rfl, rfl⟩
      · refine v_iload_n dX7_throneOf_11 rfl ?_
        refine v_iconst (v := nI 0) dX7_throneOf_12 (by decide) ?_
        refine v_iconst (v := nI 2) dX7_throneOf_13 (by decide) ?_
        refine v_callS (st := []) dX7_throneOf_14 (t_X7_isIn (x := nI 2) (a := nI 0) (z := nI 2)) wX7_52 rfl ⟨Nat.le_of_ble_eq_true rfl, Nat.le_of_ble_eq_true rfl⟩ (Nat.le_of_ble_eq_true rfl) ⟨Nat.le_of_ble_eq_true rfl, Nat.le_of_ble_eq_true rfl⟩ (fun r n2 h2 hq => ?_)
        obtain ⟨rfl, hn9, hh9⟩ := hq; replace hn9 := hn9.symm; subst hn9; replace hh9 := hh9.symm; subst hh9
        refine v_st (st2 := [.int (nI (bI (¬ nI 2 < nI 0 ∧ ¬ nI 2 < nI 2)))]) rfl ?_
        refine n_ifb_eq (tgt := 33) (p := ¬ nI 2 < nI 0 ∧ ¬ nI 2 < nI 2) dX7_throneOf_17 (by decide) (fun z => absurd (by decide) z) (fun _ => ?_)
        refine v_aload_n dX7_throneOf_20 rfl ?_
        refine fX7_7 (v := .ref (m + 1)) rfl dX7_throneOf_21 ho rfl ?_
        refine v_iload_n dX7_throneOf_24 rfl ?_
        refine v_iload_n dX7_throneOf_25 rfl ?_
        refine v_callS (st := [.ref (m + 1)]) dX7_throneOf_26 (t_X7_of (f := T) (w := 2)) wX7_116 rfl ⟨Nat.le_of_ble_eq_true rfl, Nat.le_of_ble_eq_true rfl⟩ (Nat.le_of_ble_eq_true rfl) ⟨Nat.le_of_ble_eq_true rfl, Nat.le_of_ble_eq_true rfl⟩ (fun r n2 h2 hq => ?_)
        obtain ⟨rfl, hn9, hh9⟩ := hq; replace hn9 := hn9.symm; subst hn9; replace hh9 := hh9.symm; subst hh9
        refine v_st (st2 := [.int (nI (82 + 3 * T + 2)), .ref (m + 1)]) rfl ?_
        refine n_ialdv (f := vO C) (j := 82 + 3 * T + 2) (y := C 16 T) dX7_throneOf_29 hv (by omega) (by decide) ((vrd (C := C) (lgT2 (f := T) (by omega)) (Or.inl (by omega))).trans rfl) ?_
        have b26 := hK 16 T
        refine v_goto (tgt := 50) dX7_throneOf_30 (by decide) ?_
        refine v_iret dX7_throneOf_50 rfl ?_ (Nat.le_of_ble_eq_true rfl) (Nat.le_of_ble_eq_true rfl)
        have e9 : qThr C (nI T) (nI 2) = (nI (C 16 T) : Int32) := by unfold qThr; all_goals (repeat (first | rw [if_pos (by first | assumption | omega | rfl | trivial)] | rw [if_neg (by first | assumption | omega)])); all_goals (try simp only [eT]); all_goals (try simp only [qThrN]); all_goals (repeat (first | rw [if_pos (by first | assumption | omega | rfl | trivial)] | rw [if_neg (by first | assumption | omega)])); all_goals (try rw [he9 T (by assumption)]); all_goals (try rw [← he9 T (by assumption)]); all_goals (try rfl)
        exact ⟨by rw [e9], rfl, rfl⟩
      · refine v_iload_n dX7_throneOf_11 rfl ?_
        refine v_iconst (v := nI 0) dX7_throneOf_12 (by decide) ?_
        refine v_iconst (v := nI 2) dX7_throneOf_13 (by decide) ?_
        refine v_callS (st := []) dX7_throneOf_14 (t_X7_isIn (x := nI 3) (a := nI 0) (z := nI 2)) wX7_52 rfl ⟨Nat.le_of_ble_eq_true rfl, Nat.le_of_ble_eq_true rfl⟩ (Nat.le_of_ble_eq_true rfl) ⟨Nat.le_of_ble_eq_true rfl, Nat.le_of_ble_eq_true rfl⟩ (fun r n2 h2 hq => ?_)
        obtain ⟨rfl, hn9, hh9⟩ := hq; replace hn9 := hn9.symm; subst hn9; replace hh9 := hh9.symm; subst hh9
        refine v_st (st2 := [.int (nI (bI (¬ nI 3 < nI 0 ∧ ¬ nI 2 < nI 3)))]) rfl ?_
        refine n_ifb_eq (tgt := 33) (p := ¬ nI 3 < nI 0 ∧ ¬ nI 2 < nI 3) dX7_throneOf_17 (by decide) (fun _ => ?_) (fun z => absurd z (by decide))
        refine v_iload_n dX7_throneOf_33 rfl ?_
        refine v_iconst (v := nI 3) dX7_throneOf_34 (by decide) ?_
        refine n_icmp_ne (tgt := 47) (x := 3) (y := 3) dX7_throneOf_35 (by decide) (by decide) (by decide) (fun c => absurd c (by decide)) (fun _ => ?_)
        refine v_aload_n dX7_throneOf_38 rfl ?_
        refine v_iconst (v := nI 2) dX7_throneOf_39 (by decide) ?_
        refine v_iload_n dX7_throneOf_40 rfl ?_
        refine v_callV (st := []) dX7_throneOf_41 (t_X7_bookings (w := 2) (x := T) ho hv hK (by omega) (by omega) (by omega) (by omega)) wX7_107 ho rfl rfl ⟨Nat.le_of_ble_eq_true rfl, Nat.le_of_ble_eq_true rfl⟩ (Nat.le_of_ble_eq_true rfl) ⟨Nat.le_of_ble_eq_true rfl, Nat.le_of_ble_eq_true rfl⟩ (fun r n2 h2 hq => ?_)
        obtain ⟨rfl, hn9, hh9⟩ := hq; replace hn9 := hn9.symm; subst hn9; replace hh9 := hh9.symm; subst hh9
        refine v_st (st2 := [.int (nI (cnt (fun z => decide (C 13 z = T)) (C 0 2)))]) rfl ?_
        refine v_goto (tgt := 50) dX7_throneOf_44 (by decide) ?_
        refine v_iret dX7_throneOf_50 rfl ?_ (Nat.le_of_ble_eq_true rfl) (Nat.le_of_ble_eq_true rfl)
        have e9 : qThr C (nI T) (nI 3) = (nI (cnt (fun z => decide (C 13 z = T)) (C 0 2)) : Int32) := by unfold qThr; all_goals (repeat (first | rw [if_pos (by first | assumption | omega | rfl | trivial)] | rw [if_neg (by first | assumption | omega)])); all_goals (try simp only [eT]); all_goals (try simp only [qThrN]); all_goals (repeat (first | rw [if_pos (by first | assumption | omega | rfl | trivial)] | rw [if_neg (by first | assumption | omega)])); all_goals (try rw [he9 T (by assumption)]); all_goals (try rw [← he9 T (by assumption)]); all_goals (try rfl)
        exact ⟨by rw [e9], rfl, rfl⟩
    · refine v_iload_n dX7_throneOf_11 rfl ?_
      refine v_iconst (v := nI 0) dX7_throneOf_12 (by decide) ?_
      refine v_iconst (v := nI 2) dX7_throneOf_13 (by decide) ?_
      refine v_callS (st := []) dX7_throneOf_14 (t_X7_isIn (x := w) (a := nI 0) (z := nI 2)) wX7_52 rfl ⟨Nat.le_of_ble_eq_true rfl, Nat.le_of_ble_eq_true rfl⟩ (Nat.le_of_ble_eq_true rfl) ⟨Nat.le_of_ble_eq_true rfl, Nat.le_of_ble_eq_true rfl⟩ (fun r n2 h2 hq => ?_)
      obtain ⟨rfl, hn9, hh9⟩ := hq; replace hn9 := hn9.symm; subst hn9; replace hh9 := hh9.symm; subst hh9
      refine v_st (st2 := [.int (nI (bI (¬ w < nI 0 ∧ ¬ nI 2 < w)))]) rfl ?_
      refine n_ifb_eq (tgt := 33) (p := ¬ w < nI 0 ∧ ¬ nI 2 < w) dX7_throneOf_17 (by decide) (fun _ => ?_) (fun z => absurd z (out_rg cw22 (by decide) (by decide)))
      refine v_iload_n dX7_throneOf_33 rfl ?_
      refine v_iconst (v := nI 3) dX7_throneOf_34 (by decide) ?_
      refine v_icmp_ne (tgt := 47) dX7_throneOf_35 (by decide) (fun _ => ?_) (fun z => absurd z (out_ne cw22 (by decide) (by decide)))
      refine v_sipush (v := (-1012)) dX7_throneOf_47 (by decide) ?_
      refine v_iret dX7_throneOf_50 rfl ?_ (Nat.le_of_ble_eq_true rfl) (Nat.le_of_ble_eq_true rfl)
      have e9 : qThr C (nI T) w = ((-1012) : Int32) := by unfold qThr; all_goals (repeat (first | rw [if_pos (by first | assumption | omega | rfl | trivial)] | rw [if_neg (by first | assumption | omega)])); all_goals (try simp only [eT]); all_goals (try simp only [qThrN]); all_goals (repeat (first | rw [if_pos (by first | assumption | omega | rfl | trivial)] | rw [if_neg (by first | assumption | omega)])); all_goals (try rw [he9 T (by assumption)]); all_goals (try rw [← he9 T (by assumption)]); all_goals (try rfl)
      exact ⟨by rw [e9], rfl, rfl⟩
  · refine v_sipush (v := (-1011)) dX7_throneOf_7 (by decide) ?_
    refine v_iret dX7_throneOf_10 rfl ?_ (Nat.le_of_ble_eq_true rfl) (Nat.le_of_ble_eq_true rfl)
    have e9 : qThr C t w = ((-1011) : Int32) := by unfold qThr; all_goals (repeat (first | rw [if_pos (by first | assumption | omega | rfl | trivial)] | rw [if_neg (by first | assumption | omega)])); all_goals (try simp only [qThrN]); all_goals (repeat (first | rw [if_pos (by first | assumption | omega | rfl | trivial)] | rw [if_neg (by first | assumption | omega)])); all_goals (try rw [he9 T (by assumption)]); all_goals (try rw [← he9 T (by assumption)]); all_goals (try rfl)
    exact ⟨by rw [e9], rfl, rfl⟩
set_option maxRecDepth 20000 in
set_option maxHeartbeats 4000000 in
theorem t_X7_told {l : Launch} {G : vG} {h : AH} {n : Nat} {j t : Int32} {m ch sv tn hr en ln wg dg : Nat} {fl wy dt : Int32} {b : Nat} {C : Ct} (ho : h m = some (mo m ch sv tn hr en ln wg dg fl wy dt)) (hv : h (m + 1) = some (ar G 182 (vO C))) (hK : bdk b C) (hb2 : b + 5000 ≤ 2 ^ 28) (hI : Iv C) : Mt l G mX7_told [.ref m, .int j, .int t] (n) h 0 0 (fun r n2 h2 => r = some (.int (qTold C j t)) ∧ n2 = n ∧ h2 = h) := by
  refine Mt.of (by decide) (Nat.le_of_ble_eq_true rfl) rfl ?_
  refine v_ls (ls2 := [some (.ref m), some (.int j), some (.int t)]) rfl ?_
  have hB := hK.bd (by omega)
  obtain ⟨hF, hJ, hn, hs1, hc99, hs4, hs7, hs8, hs15, hbk9, hs9⟩ := hI.1
  have b00 := hB 0 0
  have b01 := hB 0 1
  have b02 := hB 0 2
  have b03 := hB 0 3
  obtain ⟨w1, te, he9, pa9, sl9, br9, lo9, so9, z2, z3, z5, z6, zj, zt, ow9⟩ := id hI.2
  refine v_aload_n dX7_told_0 rfl ?_
  refine v_iload_n dX7_told_1 rfl ?_
  refine v_callV (st := []) dX7_told_2 (t_X7_isJoke (x := j) ho hv hK (by omega)) wX7_85 ho rfl rfl ⟨Nat.le_of_ble_eq_true rfl, Nat.le_of_ble_eq_true rfl⟩ (Nat.le_of_ble_eq_true rfl) ⟨Nat.le_of_ble_eq_true rfl, Nat.le_of_ble_eq_true rfl⟩ (fun r n2 h2 hq => ?_)
  obtain ⟨rfl, hn9, hh9⟩ := hq; replace hn9 := hn9.symm; subst hn9; replace hh9 := hh9.symm; subst hh9
  refine v_st (st2 := [.int (nI (bI (ixb j (C 0 1) = true)))]) rfl ?_
  refine n_ifb_eq (tgt := 31) (p := ixb j (C 0 1) = true) dX7_told_5 (by decide) (fun c21 => ?_) (fun c21 => ?_)
  · refine v_sipush (v := (-1011)) dX7_told_31 (by decide) ?_
    refine v_iret dX7_told_34 rfl ?_ (Nat.le_of_ble_eq_true rfl) (Nat.le_of_ble_eq_true rfl)
    have e9 : qTold C j t = ((-1011) : Int32) := by unfold qTold; all_goals (repeat (first | rw [if_pos (by first | assumption | omega | rfl | trivial)] | rw [if_neg (by first | assumption | omega)])); all_goals (try rfl)
    exact ⟨by rw [e9], rfl, rfl⟩
  · obtain ⟨J, hJ1, rfl⟩ := ix_of c21 (by omega)
    have eJ : (nI J).toNatClampNeg = J := nI_clamp (by omega)
    refine v_iload_n dX7_told_8 rfl ?_
    refine v_callS (st := []) dX7_told_9 (t_X7_isThrone (x := t)) wX7_113 rfl ⟨Nat.le_of_ble_eq_true rfl, Nat.le_of_ble_eq_true rfl⟩ (Nat.le_of_ble_eq_true rfl) ⟨Nat.le_of_ble_eq_true rfl, Nat.le_of_ble_eq_true rfl⟩ (fun r n2 h2 hq => ?_)
    obtain ⟨rfl, hn9, hh9⟩ := hq; replace hn9 := hn9.symm; subst hn9; replace hh9 := hh9.symm; subst hh9
    refine v_st (st2 := [.int (nI (bI (ixb t 4 = true)))]) rfl ?_
    refine n_ifb_eq (tgt := 31) (p := ixb t 4 = true) dX7_told_12 (by decide) (fun c22 => ?_) (fun c22 => ?_)
    · refine v_sipush (v := (-1011)) dX7_told_31 (by decide) ?_
      refine v_iret dX7_told_34 rfl ?_ (Nat.le_of_ble_eq_true rfl) (Nat.le_of_ble_eq_true rfl)
      have e9 : qTold C (nI J) t = ((-1011) : Int32) := by unfold qTold; all_goals (repeat (first | rw [if_pos (by first | assumption | omega | rfl | trivial)] | rw [if_neg (by first | assumption | omega)])); all_goals (try simp only [eJ]); all_goals (try rfl)
      exact ⟨by rw [e9], rfl, rfl⟩
    · obtain ⟨T, hT1, rfl⟩ := ix_of c22 (by omega)
      have eT : (nI T).toNatClampNeg = T := nI_clamp (by omega)
      refine v_aload_n dX7_told_15 rfl ?_
      refine fX7_7 (v := .ref (m + 1)) rfl dX7_told_16 ho rfl ?_
      refine v_bipush (v := nI 94) dX7_told_19 (by decide) ?_
      refine v_iconst (v := nI 4) dX7_told_21 (by decide) ?_
      refine v_iload_n dX7_told_22 rfl ?_
      refine n_imul (x := 4) (y := J) dX7_told_23 ?_
      refine n_iadd (x := 94) (y := 4 * J) dX7_told_24 ?_
      refine v_iload_n dX7_told_25 rfl ?_
      refine n_iadd (x := 94 + (4 * J)) (y := T) dX7_told_26 ?_
      refine n_ialdv (f := vO C) (j := (94 + (4 * J)) + T) (y := C 10 (J * 4 + T)) dX7_told_27 hv (by omega) (by decide) ((vrd (C := C) (lgC (j := J) (t := T) (by omega)) (Or.inl (by omega))).trans rfl) ?_
      have b23 := hK 10 (J * 4 + T)
      refine v_goto (tgt := 34) dX7_told_28 (by decide) ?_
      refine v_iret dX7_told_34 rfl ?_ (Nat.le_of_ble_eq_true rfl) (Nat.le_of_ble_eq_true rfl)
      have e9 : qTold C (nI J) (nI T) = (nI (C 10 (J * 4 + T)) : Int32) := by unfold qTold; all_goals (repeat (first | rw [if_pos (by first | assumption | omega | rfl | trivial)] | rw [if_neg (by first | assumption | omega)])); all_goals (try simp only [eJ, eT]); all_goals (try rfl)
      exact ⟨by rw [e9], rfl, rfl⟩
set_option maxRecDepth 20000 in
set_option maxHeartbeats 4000000 in
theorem t_X7_booking {l : Launch} {G : vG} {h : AH} {n : Nat} {p w : Int32} {m ch sv tn hr en ln wg dg : Nat} {fl wy dt : Int32} {b : Nat} {C : Ct} (ho : h m = some (mo m ch sv tn hr en ln wg dg fl wy dt)) (hv : h (m + 1) = some (ar G 182 (vO C))) (hK : bdk b C) (hb2 : b + 5000 ≤ 2 ^ 28) (hI : Iv C) : Mt l G mX7_booking [.ref m, .int p, .int w] (n) h 0 0 (fun r n2 h2 => r = some (.int (qBk C p w)) ∧ n2 = n ∧ h2 = h) := by
  refine Mt.of (by decide) (Nat.le_of_ble_eq_true rfl) rfl ?_
  refine v_ls (ls2 := [some (.ref m), some (.int p), some (.int w)]) rfl ?_
  have hB := hK.bd (by omega)
  obtain ⟨hF, hJ, hn, hs1, hc99, hs4, hs7, hs8, hs15, hbk9, hs9⟩ := hI.1
  have b00 := hB 0 0
  have b01 := hB 0 1
  have b02 := hB 0 2
  have b03 := hB 0 3
  obtain ⟨w1, te, he9, pa9, sl9, br9, lo9, so9, z2, z3, z5, z6, zj, zt, ow9⟩ := id hI.2
  refine v_iload_n dX7_booking_0 rfl ?_
  refine v_iconst (v := nI 0) dX7_booking_1 (by decide) ?_
  refine v_aload_n dX7_booking_2 rfl ?_
  refine fX7_7 (v := .ref (m + 1)) rfl dX7_booking_3 ho rfl ?_
  refine v_iconst (v := nI 2) dX7_booking_6 (by decide) ?_
  refine n_ialdv (f := vO C) (j := 2) (y := C 0 2) dX7_booking_7 hv (by omega) (by decide) ((vrd (C := C) lgn2 (Or.inl (by decide))).trans rfl) ?_
  have b21 := hK 0 2
  refine v_iconst (v := nI 1) dX7_booking_8 (by decide) ?_
  refine v_isub dX7_booking_9 ?_
  refine v_callS (st := []) dX7_booking_10 (t_X7_isIn (x := p) (a := nI 0) (z := (nI (C 0 2) - nI 1))) wX7_52 rfl ⟨Nat.le_of_ble_eq_true rfl, Nat.le_of_ble_eq_true rfl⟩ (Nat.le_of_ble_eq_true rfl) ⟨Nat.le_of_ble_eq_true rfl, Nat.le_of_ble_eq_true rfl⟩ (fun r n2 h2 hq => ?_)
  obtain ⟨rfl, hn9, hh9⟩ := hq; replace hn9 := hn9.symm; subst hn9; replace hh9 := hh9.symm; subst hh9
  refine v_st (st2 := [.int (nI (bI (¬ p < nI 0 ∧ ¬ (nI (C 0 2) - nI 1) < p)))]) rfl ?_
  refine v_st (st2 := [.int (nI (bI (ixb p (C 0 2) = true)))]) (by rw [bI_iff (rg_ixb (by omega))]) ?_
  refine n_ifb_ne (tgt := 20) (p := ixb p (C 0 2) = true) dX7_booking_13 (by decide) (fun c22 => ?_) (fun c22 => ?_)
  · obtain ⟨P, hP1, rfl⟩ := ix_of c22 (by omega)
    have eP : (nI P).toNatClampNeg = P := nI_clamp (by omega)
    by_cases cw23 : ixb w 4 = true
    · obtain ⟨k24, hk24, rfl⟩ := ix_of cw23 (by decide)
      obtain rfl | rfl | rfl | rfl := (by omega : k24 = 0 ∨ k24 = 1 ∨ k24 = 2 ∨ k24 = 3)
      · refine v_iload_n dX7_booking_20 rfl ?_
        refine v_iconst (v := nI 0) dX7_booking_21 (by decide) ?_
        refine v_iconst (v := nI 3) dX7_booking_22 (by decide) ?_
        refine v_callS (st := []) dX7_booking_23 (t_X7_isIn (x := nI 0) (a := nI 0) (z := nI 3)) wX7_52 rfl ⟨Nat.le_of_ble_eq_true rfl, Nat.le_of_ble_eq_true rfl⟩ (Nat.le_of_ble_eq_true rfl) ⟨Nat.le_of_ble_eq_true rfl, Nat.le_of_ble_eq_true rfl⟩ (fun r n2 h2 hq => ?_)
        obtain ⟨rfl, hn9, hh9⟩ := hq; replace hn9 := hn9.symm; subst hn9; replace hh9 := hh9.symm; subst hh9
        refine v_st (st2 := [.int (nI (bI (¬ nI 0 < nI 0 ∧ ¬ nI 3 < nI 0)))]) rfl ?_
        refine n_ifb_eq (tgt := 38) (p := ¬ nI 0 < nI 0 ∧ ¬ nI 3 < nI 0) dX7_booking_26 (by decide) (fun z => absurd (by decide) z) (fun _ => ?_)
        refine v_aload_n dX7_booking_29 rfl ?_
        refine v_iload_n dX7_booking_30 rfl ?_
        refine v_iload_n dX7_booking_31 rfl ?_
        refine v_callV (st := []) dX7_booking_32 (t_X7_booked (p := P) (w := 0) ho hv hK (by omega) (by omega) (by omega) (by omega)) wX7_101 ho rfl rfl ⟨Nat.le_of_ble_eq_true rfl, Nat.le_of_ble_eq_true rfl⟩ (Nat.le_of_ble_eq_true rfl) ⟨Nat.le_of_ble_eq_true rfl, Nat.le_of_ble_eq_true rfl⟩ (fun r n2 h2 hq => ?_)
        obtain ⟨rfl, hn9, hh9⟩ := hq; replace hn9 := hn9.symm; subst hn9; replace hh9 := hh9.symm; subst hh9
        refine v_st (st2 := [.int (nI (C 11 P))]) rfl ?_
        have b25 := hK 11 P
        refine v_goto (tgt := 41) dX7_booking_35 (by decide) ?_
        refine v_iret dX7_booking_41 rfl ?_ (Nat.le_of_ble_eq_true rfl) (Nat.le_of_ble_eq_true rfl)
        have e9 : qBk C (nI P) (nI 0) = (nI (C 11 P) : Int32) := by unfold qBk; all_goals (repeat (first | rw [if_pos (by first | assumption | omega | rfl | trivial)] | rw [if_neg (by first | assumption | omega)])); all_goals (try simp only [eP]); all_goals (try simp only [qBkN]); all_goals (repeat (first | rw [if_pos (by first | assumption | omega | rfl | trivial)] | rw [if_neg (by first | assumption | omega)])); all_goals (try rfl)
        exact ⟨by rw [e9], rfl, rfl⟩
      · refine v_iload_n dX7_booking_20 rfl ?_
        refine v_iconst (v := nI 0) dX7_booking_21 (by decide) ?_
        refine v_iconst (v := nI 3) dX7_booking_22 (by decide) ?_
        refine v_callS (st := []) dX7_booking_23 (t_X7_isIn (x := nI 1) (a := nI 0) (z := nI 3)) wX7_52 rfl ⟨Nat.le_of_ble_eq_true rfl, Nat.le_of_ble_eq_true rfl⟩ (Nat.le_of_ble_eq_true rfl) ⟨Nat.le_of_ble_eq_true rfl, Nat.le_of_ble_eq_true rfl⟩ (fun r n2 h2 hq => ?_)
        obtain ⟨rfl, hn9, hh9⟩ := hq; replace hn9 := hn9.symm; subst hn9; replace hh9 := hh9.symm; subst hh9
        refine v_st (st2 := [.int (nI (bI (¬ nI 1 < nI 0 ∧ ¬ nI 3 < nI 1)))]) rfl ?_
        refine n_ifb_eq (tgt := 38) (p := ¬ nI 1 < nI 0 ∧ ¬ nI 3 < nI 1) dX7_booking_26 (by decide) (fun z => absurd (by decide) z) (fun _ => ?_)
        refine v_aload_n dX7_booking_29 rfl ?_
        refine v_iload_n dX7_booking_30 rfl ?_
        refine v_iload_n dX7_booking_31 rfl ?_
        refine v_callV (st := []) dX7_booking_32 (t_X7_booked (p := P) (w := 1) ho hv hK (by omega) (by omega) (by omega) (by omega)) wX7_101 ho rfl rfl ⟨Nat.le_of_ble_eq_true rfl, Nat.le_of_ble_eq_true rfl⟩ (Nat.le_of_ble_eq_true rfl) ⟨Nat.le_of_ble_eq_true rfl, Nat.le_of_ble_eq_true rfl⟩ (fun r n2 h2 hq => ?_)
        obtain ⟨rfl, hn9, hh9⟩ := hq; replace hn9 := hn9.symm; subst hn9; replace hh9 := hh9.symm; subst hh9
        refine v_st (st2 := [.int (nI (C 12 P))]) rfl ?_
        have b26 := hK 12 P
        refine v_goto (tgt := 41) dX7_booking_35 (by decide) ?_
        refine v_iret dX7_booking_41 rfl ?_ (Nat.le_of_ble_eq_true rfl) (Nat.le_of_ble_eq_true rfl)
        have e9 : qBk C (nI P) (nI 1) = (nI (C 12 P) : Int32) := by unfold qBk; all_goals (repeat (first | rw [if_pos (by first | assumption | omega | rfl | trivial)] | rw [if_neg (by first | assumption | omega)])); all_goals (try simp only [eP]); all_goals (try simp only [qBkN]); all_goals (repeat (first | rw [if_pos (by first | assumption | omega | rfl | trivial)] | rw [if_neg (by first | assumption | omega)])); all_goals (try rfl)
        exact ⟨by rw [e9], rfl, rfl⟩
      · refine v_iload_n dX7_booking_20 rfl ?_
        refine v_iconst (v := nI 0) dX7_booking_21 (by decide) ?_
        refine v_iconst (v := nI 3) dX7_booking_22 (by decide) ?_
        refine v_callS (st := []) dX7_booking_23 (t_X7_isIn (x := nI 2) (a := nI 0) (z := nI 3)) wX7_52 rfl ⟨Nat.le_of_ble_eq_true rfl, Nat.le_of_ble_eq_true rfl⟩ (Nat.le_of_ble_eq_true rfl) ⟨Nat.le_of_ble_eq_true rfl, Nat.le_of_ble_eq_true rfl⟩ (fun r n2 h2 hq => ?_)
        obtain ⟨rfl, hn9, hh9⟩ := hq; replace hn9 := hn9.symm; subst hn9; replace hh9 := hh9.symm; subst hh9
        refine v_st (st2 := [.int (nI (bI (¬ nI 2 < nI 0 ∧ ¬ nI 3 < nI 2)))]) rfl ?_
        refine n_ifb_eq (tgt := 38) (p := ¬ nI 2 < nI 0 ∧ ¬ nI 3 < nI 2) dX7_booking_26 (by decide) (fun z => absurd (by decide) z) (fun _ => ?_)
        refine v_aload_n dX7_booking_29 rfl ?_
        refine v_iload_n dX7_booking_30 rfl ?_
        refine v_iload_n dX7_booking_31 rfl ?_
        refine v_callV (st := []) dX7_booking_32 (t_X7_booked (p := P) (w := 2) ho hv hK (by omega) (by omega) (by omega) (by omega)) wX7_101 ho rfl rfl ⟨Nat.le_of_ble_eq_true rfl, Nat.le_of_ble_eq_true rfl⟩ (Nat.le_of_ble_eq_true rfl) ⟨Nat.le_of_ble_eq_true rfl, Nat.le_of_ble_eq_true rfl⟩ (fun r n2 h2 hq => ?_)
        obtain ⟨rfl, hn9, hh9⟩ := hq; replace hn9 := hn9.symm; subst hn9; replace hh9 := hh9.symm; subst hh9
        refine v_st (st2 := [.int (nI (C 13 P))]) rfl ?_
        have b27 := hK 13 P
        refine v_goto (tgt := 41) dX7_booking_35 (by decide) ?_
        refine v_iret dX7_booking_41 rfl ?_ (Nat.le_of_ble_eq_true rfl) (Nat.le_of_ble_eq_true rfl)
        have e9 : qBk C (nI P) (nI 2) = (nI (C 13 P) : Int32) := by unfold qBk; all_goals (repeat (first | rw [if_pos (by first | assumption | omega | rfl | trivial)] | rw [if_neg (by first | assumption | omega)])); all_goals (try simp only [eP]); all_goals (try simp only [qBkN]); all_goals (repeat (first | rw [if_pos (by first | assumption | omega | rfl | trivial)] | rw [if_neg (by first | assumption | omega)])); all_goals (try rfl)
        exact ⟨by rw [e9], rfl, rfl⟩
      · refine v_iload_n dX7_booking_20 rfl ?_
        refine v_iconst (v := nI 0) dX7_booking_21 (by decide) ?_
        refine v_iconst (v := nI 3) dX7_booking_22 (by decide) ?_
        refine v_callS (st := []) dX7_booking_23 (t_X7_isIn (x := nI 3) (a := nI 0) (z := nI 3)) wX7_52 rfl ⟨Nat.le_of_ble_eq_true rfl, Nat.le_of_ble_eq_true rfl⟩ (Nat.le_of_ble_eq_true rfl) ⟨Nat.le_of_ble_eq_true rfl, Nat.le_of_ble_eq_true rfl⟩ (fun r n2 h2 hq => ?_)
        obtain ⟨rfl, hn9, hh9⟩ := hq; replace hn9 := hn9.symm; subst hn9; replace hh9 := hh9.symm; subst hh9
        refine v_st (st2 := [.int (nI (bI (¬ nI 3 < nI 0 ∧ ¬ nI 3 < nI 3)))]) rfl ?_
        refine n_ifb_eq (tgt := 38) (p := ¬ nI 3 < nI 0 ∧ ¬ nI 3 < nI 3) dX7_booking_26 (by decide) (fun z => absurd (by decide) z) (fun _ => ?_)
        refine v_aload_n dX7_booking_29 rfl ?_
        refine v_iload_n dX7_booking_30 rfl ?_
        refine v_iload_n dX7_booking_31 rfl ?_
        refine v_callV (st := []) dX7_booking_32 (t_X7_booked (p := P) (w := 3) ho hv hK (by omega) (by omega) (by omega) (by omega)) wX7_101 ho rfl rfl ⟨Nat.le_of_ble_eq_true rfl, Nat.le_of_ble_eq_true rfl⟩ (Nat.le_of_ble_eq_true rfl) ⟨Nat.le_of_ble_eq_true rfl, Nat.le_of_ble_eq_true rfl⟩ (fun r n2 h2 hq => ?_)
        obtain ⟨rfl, hn9, hh9⟩ := hq; replace hn9 := hn9.symm; subst hn9; replace hh9 := hh9.symm; subst hh9
        refine v_st (st2 := [.int (nI (C 14 P))]) rfl ?_
        have b28 := hK 14 P
        refine v_goto (tgt := 41) dX7_booking_35 (by decide) ?_
        refine v_iret dX7_booking_41 rfl ?_ (Nat.le_of_ble_eq_true rfl) (Nat.le_of_ble_eq_true rfl)
        have e9 : qBk C (nI P) (nI 3) = (nI (C 14 P) : Int32) := by unfold qBk; all_goals (repeat (first | rw [if_pos (by first | assumption | omega | rfl | trivial)] | rw [if_neg (by first | assumption | omega)])); all_goals (try simp only [eP]); all_goals (try simp only [qBkN]); all_goals (repeat (first | rw [if_pos (by first | assumption | omega | rfl | trivial)] | rw [if_neg (by first | assumption | omega)])); all_goals (try rfl)
        exact ⟨by rw [e9], rfl, rfl⟩
    · refine v_iload_n dX7_booking_20 rfl ?_
      refine v_iconst (v := nI 0) dX7_booking_21 (by decide) ?_
      refine v_iconst (v := nI 3) dX7_booking_22 (by decide) ?_
      refine v_callS (st := []) dX7_booking_23 (t_X7_isIn (x := w) (a := nI 0) (z := nI 3)) wX7_52 rfl ⟨Nat.le_of_ble_eq_true rfl, Nat.le_of_ble_eq_true rfl⟩ (Nat.le_of_ble_eq_true rfl) ⟨Nat.le_of_ble_eq_true rfl, Nat.le_of_ble_eq_true rfl⟩ (fun r n2 h2 hq => ?_)
      obtain ⟨rfl, hn9, hh9⟩ := hq; replace hn9 := hn9.symm; subst hn9; replace hh9 := hh9.symm; subst hh9
      refine v_st (st2 := [.int (nI (bI (¬ w < nI 0 ∧ ¬ nI 3 < w)))]) rfl ?_
      refine n_ifb_eq (tgt := 38) (p := ¬ w < nI 0 ∧ ¬ nI 3 < w) dX7_booking_26 (by decide) (fun _ => ?_) (fun z => absurd z (out_rg cw23 (by decide) (by decide)))
      refine v_sipush (v := (-1012)) dX7_booking_38 (by decide) ?_
      refine v_iret dX7_booking_41 rfl ?_ (Nat.le_of_ble_eq_true rfl) (Nat.le_of_ble_eq_true rfl)
      have e9 : qBk C (nI P) w = ((-1012) : Int32) := by unfold qBk; all_goals (repeat (first | rw [if_pos (by first | assumption | omega | rfl | trivial)] | rw [if_neg (by first | assumption | omega)])); all_goals (try simp only [eP]); all_goals (try simp only [qBkN]); all_goals (repeat (first | rw [if_pos (by first | assumption | omega | rfl | trivial)] | rw [if_neg (by first | assumption | omega)])); all_goals (try rfl)
      exact ⟨by rw [e9], rfl, rfl⟩
  · refine v_sipush (v := (-1011)) dX7_booking_16 (by decide) ?_
    refine v_iret dX7_booking_19 rfl ?_ (Nat.le_of_ble_eq_true rfl) (Nat.le_of_ble_eq_true rfl)
    have e9 : qBk C p w = ((-1011) : Int32) := by unfold qBk; all_goals (repeat (first | rw [if_pos (by first | assumption | omega | rfl | trivial)] | rw [if_neg (by first | assumption | omega)])); all_goals (try simp only [qBkN]); all_goals (repeat (first | rw [if_pos (by first | assumption | omega | rfl | trivial)] | rw [if_neg (by first | assumption | omega)])); all_goals (try rfl)
    exact ⟨by rw [e9], rfl, rfl⟩
set_option maxRecDepth 20000 in
set_option maxHeartbeats 4000000 in
theorem t_X7_would {l : Launch} {G : vG} {h : AH} {n : Nat} {f j t : Int32} {m ch sv tn hr en ln wg dg : Nat} {fl wy dt : Int32} {b : Nat} {C : Ct} (ho : h m = some (mo m ch sv tn hr en ln wg dg fl wy dt)) (hv : h (m + 1) = some (ar G 182 (vO C))) (hK : bdk b C) (hb2 : b + 5000 ≤ 2 ^ 28) (hI : Iv C) : Mt l G mX7_would [.ref m, .int f, .int j, .int t] (n) h 0 0 (fun r n2 h2 => r = some (.int (qWould C f j t)) ∧ n2 = n ∧ h2 = h) := by
  refine Mt.of (by decide) (Nat.le_of_ble_eq_true rfl) rfl ?_
  refine v_ls (ls2 := [some (.ref m), some (.int f), some (.int j), some (.int t)]) rfl ?_
  have hB := hK.bd (by omega)
  obtain ⟨hF, hJ, hn, hs1, hc99, hs4, hs7, hs8, hs15, hbk9, hs9⟩ := hI.1
  have b00 := hB 0 0
  have b01 := hB 0 1
  have b02 := hB 0 2
  have b03 := hB 0 3
  obtain ⟨w1, te, he9, pa9, sl9, br9, lo9, so9, z2, z3, z5, z6, zj, zt, ow9⟩ := id hI.2
  refine v_aload_n dX7_would_0 rfl ?_
  refine v_iload_n dX7_would_1 rfl ?_
  refine v_callV (st := []) dX7_would_2 (t_X7_isFool (x := f) ho hv hK (by omega)) wX7_81 ho rfl rfl ⟨Nat.le_of_ble_eq_true rfl, Nat.le_of_ble_eq_true rfl⟩ (Nat.le_of_ble_eq_true rfl) ⟨Nat.le_of_ble_eq_true rfl, Nat.le_of_ble_eq_true rfl⟩ (fun r n2 h2 hq => ?_)
  obtain ⟨rfl, hn9, hh9⟩ := hq; replace hn9 := hn9.symm; subst hn9; replace hh9 := hh9.symm; subst hh9
  refine v_st (st2 := [.int (nI (bI (ixb f (C 0 0) = true)))]) rfl ?_
  refine n_ifb_eq (tgt := 33) (p := ixb f (C 0 0) = true) dX7_would_5 (by decide) (fun c21 => ?_) (fun c21 => ?_)
  · refine v_sipush (v := (-1011)) dX7_would_33 (by decide) ?_
    refine v_iret dX7_would_36 rfl ?_ (Nat.le_of_ble_eq_true rfl) (Nat.le_of_ble_eq_true rfl)
    have e9 : qWould C f j t = ((-1011) : Int32) := by unfold qWould; all_goals (repeat (first | rw [if_pos (by first | assumption | omega | rfl | trivial)] | rw [if_neg (by first | assumption | omega)])); all_goals (try rfl)
    exact ⟨by rw [e9], rfl, rfl⟩
  · obtain ⟨F, hF1, rfl⟩ := ix_of c21 (by omega)
    have eF : (nI F).toNatClampNeg = F := nI_clamp (by omega)
    refine v_aload_n dX7_would_8 rfl ?_
    refine v_iload_n dX7_would_9 rfl ?_
    refine v_callV (st := []) dX7_would_10 (t_X7_isJoke (x := j) ho hv hK (by omega)) wX7_85 ho rfl rfl ⟨Nat.le_of_ble_eq_true rfl, Nat.le_of_ble_eq_true rfl⟩ (Nat.le_of_ble_eq_true rfl) ⟨Nat.le_of_ble_eq_true rfl, Nat.le_of_ble_eq_true rfl⟩ (fun r n2 h2 hq => ?_)
    obtain ⟨rfl, hn9, hh9⟩ := hq; replace hn9 := hn9.symm; subst hn9; replace hh9 := hh9.symm; subst hh9
    refine v_st (st2 := [.int (nI (bI (ixb j (C 0 1) = true)))]) rfl ?_
    refine n_ifb_eq (tgt := 33) (p := ixb j (C 0 1) = true) dX7_would_13 (by decide) (fun c22 => ?_) (fun c22 => ?_)
    · refine v_sipush (v := (-1011)) dX7_would_33 (by decide) ?_
      refine v_iret dX7_would_36 rfl ?_ (Nat.le_of_ble_eq_true rfl) (Nat.le_of_ble_eq_true rfl)
      have e9 : qWould C (nI F) j t = ((-1011) : Int32) := by unfold qWould; all_goals (repeat (first | rw [if_pos (by first | assumption | omega | rfl | trivial)] | rw [if_neg (by first | assumption | omega)])); all_goals (try simp only [eF]); all_goals (try rfl)
      exact ⟨by rw [e9], rfl, rfl⟩
    · obtain ⟨J, hJ1, rfl⟩ := ix_of c22 (by omega)
      have eJ : (nI J).toNatClampNeg = J := nI_clamp (by omega)
      refine v_iload_n dX7_would_16 rfl ?_
      refine v_callS (st := []) dX7_would_17 (t_X7_isThrone (x := t)) wX7_113 rfl ⟨Nat.le_of_ble_eq_true rfl, Nat.le_of_ble_eq_true rfl⟩ (Nat.le_of_ble_eq_true rfl) ⟨Nat.le_of_ble_eq_true rfl, Nat.le_of_ble_eq_true rfl⟩ (fun r n2 h2 hq => ?_)
      obtain ⟨rfl, hn9, hh9⟩ := hq; replace hn9 := hn9.symm; subst hn9; replace hh9 := hh9.symm; subst hh9
      refine v_st (st2 := [.int (nI (bI (ixb t 4 = true)))]) rfl ?_
      refine n_ifb_eq (tgt := 33) (p := ixb t 4 = true) dX7_would_20 (by decide) (fun c23 => ?_) (fun c23 => ?_)
      · refine v_sipush (v := (-1011)) dX7_would_33 (by decide) ?_
        refine v_iret dX7_would_36 rfl ?_ (Nat.le_of_ble_eq_true rfl) (Nat.le_of_ble_eq_true rfl)
        have e9 : qWould C (nI F) (nI J) t = ((-1011) : Int32) := by unfold qWould; all_goals (repeat (first | rw [if_pos (by first | assumption | omega | rfl | trivial)] | rw [if_neg (by first | assumption | omega)])); all_goals (try simp only [eF, eJ]); all_goals (try rfl)
        exact ⟨by rw [e9], rfl, rfl⟩
      · obtain ⟨T, hT1, rfl⟩ := ix_of c23 (by omega)
        have eT : (nI T).toNatClampNeg = T := nI_clamp (by omega)
        refine v_aload_n dX7_would_23 rfl ?_
        refine v_iload_n dX7_would_24 rfl ?_
        refine v_iload_n dX7_would_25 rfl ?_
        refine v_iload_n dX7_would_26 rfl ?_
        refine v_callV (st := []) dX7_would_27 (t_X7_wouldGet (f := F) (j := J) (t := T) ho hv hK (by omega) (by omega) (by omega) (by omega)) wX7_158 ho rfl rfl ⟨Nat.le_of_ble_eq_true rfl, Nat.le_of_ble_eq_true rfl⟩ (Nat.le_of_ble_eq_true rfl) ⟨Nat.le_of_ble_eq_true rfl, Nat.le_of_ble_eq_true rfl⟩ (fun r n2 h2 hq => ?_)
        obtain ⟨rfl, hn9, hh9⟩ := hq; replace hn9 := hn9.symm; subst hn9; replace hh9 := hh9.symm; subst hh9
        have bl24 := lauN_bd hB F J T
        refine v_st (st2 := [.int (nI (lauN C F J T))]) rfl ?_
        refine v_goto (tgt := 36) dX7_would_30 (by decide) ?_
        refine v_iret dX7_would_36 rfl ?_ (Nat.le_of_ble_eq_true rfl) (Nat.le_of_ble_eq_true rfl)
        have e9 : qWould C (nI F) (nI J) (nI T) = (nI (lauN C F J T) : Int32) := by unfold qWould; all_goals (repeat (first | rw [if_pos (by first | assumption | omega | rfl | trivial)] | rw [if_neg (by first | assumption | omega)])); all_goals (try simp only [eF, eJ, eT]); all_goals (try rfl)
        exact ⟨by rw [e9], rfl, rfl⟩
set_option maxRecDepth 20000 in
set_option maxHeartbeats 4000000 in
theorem t_X7_best {l : Launch} {G : vG} {h : AH} {n : Nat} {f t : Int32} {m ch sv tn hr en ln wg dg : Nat} {fl wy dt : Int32} {b : Nat} {C : Ct} (ho : h m = some (mo m ch sv tn hr en ln wg dg fl wy dt)) (hv : h (m + 1) = some (ar G 182 (vO C))) (hK : bdk b C) (hb2 : b + 5000 ≤ 2 ^ 28) (hI : Iv C) : Mt l G mX7_best [.ref m, .int f, .int t] (n) h 0 0 (fun r n2 h2 => r = some (.int (qBest C f t)) ∧ n2 = n ∧ h2 = h) := by
  refine Mt.of (by decide) (Nat.le_of_ble_eq_true rfl) rfl ?_
  refine v_ls (ls2 := [some (.ref m), some (.int f), some (.int t), none, none, none, none]) rfl ?_
  have hB := hK.bd (by omega)
  obtain ⟨hF, hJ, hn, hs1, hc99, hs4, hs7, hs8, hs15, hbk9, hs9⟩ := hI.1
  have b00 := hB 0 0
  have b01 := hB 0 1
  have b02 := hB 0 2
  have b03 := hB 0 3
  obtain ⟨w1, te, he9, pa9, sl9, br9, lo9, so9, z2, z3, z5, z6, zj, zt, ow9⟩ := id hI.2
  refine v_aload_n dX7_best_0 rfl ?_
  refine v_iload_n dX7_best_1 rfl ?_
  refine v_callV (st := []) dX7_best_2 (t_X7_isFool (x := f) ho hv hK (by omega)) wX7_81 ho rfl rfl ⟨Nat.le_of_ble_eq_true rfl, Nat.le_of_ble_eq_true rfl⟩ (Nat.le_of_ble_eq_true rfl) ⟨Nat.le_of_ble_eq_true rfl, Nat.le_of_ble_eq_true rfl⟩ (fun r n2 h2 hq => ?_)
  obtain ⟨rfl, hn9, hh9⟩ := hq; replace hn9 := hn9.symm; subst hn9; replace hh9 := hh9.symm; subst hh9
  refine v_st (st2 := [.int (nI (bI (ixb f (C 0 0) = true)))]) rfl ?_
  refine n_ifb_eq (tgt := 15) (p := ixb f (C 0 0) = true) dX7_best_5 (by decide) (fun c21 => ?_) (fun c21 => ?_)
  · refine v_sipush (v := (-1011)) dX7_best_15 (by decide) ?_
    refine v_iret dX7_best_18 rfl ?_ (Nat.le_of_ble_eq_true rfl) (Nat.le_of_ble_eq_true rfl)
    have e9 : qBest C f t = ((-1011) : Int32) := by unfold qBest; all_goals (repeat (first | rw [if_pos (by first | assumption | omega | rfl | trivial)] | rw [if_neg (by first | assumption | omega)])); all_goals (try rfl)
    exact ⟨by rw [e9], rfl, rfl⟩
  · obtain ⟨F, hF1, rfl⟩ := ix_of c21 (by omega)
    have eF : (nI F).toNatClampNeg = F := nI_clamp (by omega)
    refine v_iload_n dX7_best_8 rfl ?_
    refine v_callS (st := []) dX7_best_9 (t_X7_isThrone (x := t)) wX7_113 rfl ⟨Nat.le_of_ble_eq_true rfl, Nat.le_of_ble_eq_true rfl⟩ (Nat.le_of_ble_eq_true rfl) ⟨Nat.le_of_ble_eq_true rfl, Nat.le_of_ble_eq_true rfl⟩ (fun r n2 h2 hq => ?_)
    obtain ⟨rfl, hn9, hh9⟩ := hq; replace hn9 := hn9.symm; subst hn9; replace hh9 := hh9.symm; subst hh9
    refine v_st (st2 := [.int (nI (bI (ixb t 4 = true)))]) rfl ?_
    refine n_ifb_ne (tgt := 19) (p := ixb t 4 = true) dX7_best_12 (by decide) (fun c22 => ?_) (fun c22 => ?_)
    · obtain ⟨T, hT1, rfl⟩ := ix_of c22 (by omega)
      have eT : (nI T).toNatClampNeg = T := nI_clamp (by omega)
      refine v_sipush (v := (-1015)) dX7_best_19 (by decide) ?_
      refine v_istore_n dX7_best_22 rfl (by decide) ?_
      refine v_ls (ls2 := [some (.ref m), some (.int (nI F)), some (.int (nI T)), some (.int ((-1015))), none, none, none]) rfl ?_
      refine v_iconst (v := nI 0) dX7_best_23 (by decide) ?_
      refine v_istore dX7_best_24 rfl (by decide) ?_
      refine v_ls (ls2 := [some (.ref m), some (.int (nI F)), some (.int (nI T)), some (.int ((-1015))), some (.int (nI 0)), none, none]) rfl ?_
      refine v_iconst (v := nI 0) dX7_best_26 (by decide) ?_
      refine v_istore dX7_best_27 rfl (by decide) ?_
      refine v_ls (ls2 := [some (.ref m), some (.int (nI F)), some (.int (nI T)), some (.int ((-1015))), some (.int (nI 0)), some (.int (nI 0)), none]) rfl ?_
      refine loopV (fun i29 => [some (.ref m), some (.int (nI F)), some (.int (nI T)), some (.int (oN (-1015) (bJ C F T i29).1)), some (.int (nI ((bJ C F T i29).2))), some (.int (nI i29)), none]) (fun i29 => True) (N := C 0 1) 0 (by omega) rfl trivial (fun i29 hi29 hp29 ih29 => ?_)
      have bj9 := bJ_bd hB F T i29
      refine v_iload dX7_best_29 rfl ?_
      refine v_aload_n dX7_best_31 rfl ?_
      refine fX7_7 (v := .ref (m + 1)) rfl dX7_best_32 ho rfl ?_
      refine v_iconst (v := nI 1) dX7_best_35 (by decide) ?_
      refine n_ialdv (f := vO C) (j := 1) (y := C 0 1) dX7_best_36 hv (by omega) (by decide) ((vrd (C := C) lgn1 (Or.inl (by decide))).trans rfl) ?_
      have b23 := hK 0 1
      refine n_icmp_ge (tgt := 73) (x := i29) (y := C 0 1) dX7_best_37 (by decide) (by omega) (by omega) (fun c24 => ?_) (fun c24 => ?_)
      · refine v_iload_n dX7_best_73 rfl ?_
        refine v_iret dX7_best_74 rfl ?_ (Nat.le_of_ble_eq_true rfl) (Nat.le_of_ble_eq_true rfl)
        have e : i29 = C 0 1 := by omega
        subst e
        have e9 : qBest C (nI F) (nI T) = (oN (-1015) (bJ C F T (C 0 1)).1 : Int32) := by unfold qBest; all_goals (repeat (first | rw [if_pos (by first | assumption | omega | rfl | trivial)] | rw [if_neg (by first | assumption | omega)])); all_goals (try simp only [eF, eT]); all_goals (try rfl)
        exact ⟨by rw [e9], rfl, rfl⟩
      · refine v_aload_n dX7_best_40 rfl ?_
        refine v_iload_n dX7_best_41 rfl ?_
        refine v_iload dX7_best_42 rfl ?_
        refine v_iload_n dX7_best_44 rfl ?_
        refine v_callV (st := []) dX7_best_45 (t_X7_wouldGet (f := F) (j := i29) (t := T) ho hv hK (by omega) (by omega) (by omega) (by omega)) wX7_158 ho rfl rfl ⟨Nat.le_of_ble_eq_true rfl, Nat.le_of_ble_eq_true rfl⟩ (Nat.le_of_ble_eq_true rfl) ⟨Nat.le_of_ble_eq_true rfl, Nat.le_of_ble_eq_true rfl⟩ (fun r n2 h2 hq => ?_)
        obtain ⟨rfl, hn9, hh9⟩ := hq; replace hn9 := hn9.symm; subst hn9; replace hh9 := hh9.symm; subst hh9
        have bl25 := lauN_bd hB F i29 T
        refine v_st (st2 := [.int (nI (lauN C F i29 T))]) rfl ?_
        refine v_istore dX7_best_48 rfl (by decide) ?_
        refine v_ls (ls2 := [some (.ref m), some (.int (nI F)), some (.int (nI T)), some (.int (oN (-1015) (bJ C F T i29).1)), some (.int (nI ((bJ C F T i29).2))), some (.int (nI i29)), some (.int (nI (lauN C F i29 T)))]) rfl ?_
        refine v_iload dX7_best_50 rfl ?_
        refine v_iload dX7_best_52 rfl ?_
        refine n_icmp_gt (tgt := 60) (x := lauN C F i29 T) (y := (bJ C F T i29).2) dX7_best_54 (by decide) (by omega) (by omega) (fun c26 => ?_) (fun c26 => ?_)
        · refine v_iload dX7_best_60 rfl ?_
          refine v_istore_n dX7_best_62 rfl (by decide) ?_
          refine v_ls (ls2 := [some (.ref m), some (.int (nI F)), some (.int (nI T)), some (.int (nI i29)), some (.int (nI ((bJ C F T i29).2))), some (.int (nI i29)), some (.int (nI (lauN C F i29 T)))]) rfl ?_
          refine v_iload dX7_best_63 rfl ?_
          refine v_istore dX7_best_65 rfl (by decide) ?_
          refine v_ls (ls2 := [some (.ref m), some (.int (nI F)), some (.int (nI T)), some (.int (nI i29)), some (.int (nI (lauN C F i29 T))), some (.int (nI i29)), some (.int (nI (lauN C F i29 T)))]) rfl ?_
          refine n_iinc (k := 1) (x := i29) dX7_best_67 (by decide) rfl rfl (by decide) ?_
          refine v_ls (ls2 := [some (.ref m), some (.int (nI F)), some (.int (nI T)), some (.int (nI i29)), some (.int (nI (lauN C F i29 T))), some (.int (nI (i29 + 1))), some (.int (nI (lauN C F i29 T)))]) rfl ?_
          refine v_goto (tgt := 29) dX7_best_70 (by decide) ?_
          refine v_forget 6 ?_
          refine v_ls (ls2 := [some (.ref m), some (.int (nI F)), some (.int (nI T)), some (.int (oN (-1015) (bJ C F T ((i29 + 1))).1)), some (.int (nI ((bJ C F T ((i29 + 1))).2))), some (.int (nI ((i29 + 1)))), none]) ?_ (ih29 (by omega) trivial)
          rw [show bJ C F T (i29 + 1) = (some i29, lauN C F i29 T) from if_pos (by omega)]
          rfl
        · refine v_goto (tgt := 67) dX7_best_57 (by decide) ?_
          refine n_iinc (k := 1) (x := i29) dX7_best_67 (by decide) rfl rfl (by decide) ?_
          refine v_ls (ls2 := [some (.ref m), some (.int (nI F)), some (.int (nI T)), some (.int (oN (-1015) (bJ C F T i29).1)), some (.int (nI ((bJ C F T i29).2))), some (.int (nI (i29 + 1))), some (.int (nI (lauN C F i29 T)))]) rfl ?_
          refine v_goto (tgt := 29) dX7_best_70 (by decide) ?_
          refine v_forget 6 ?_
          refine v_ls (ls2 := [some (.ref m), some (.int (nI F)), some (.int (nI T)), some (.int (oN (-1015) (bJ C F T ((i29 + 1))).1)), some (.int (nI ((bJ C F T ((i29 + 1))).2))), some (.int (nI ((i29 + 1)))), none]) ?_ (ih29 (by omega) trivial)
          rw [show bJ C F T (i29 + 1) = bJ C F T i29 from if_neg (by omega)]
          rfl
    · refine v_sipush (v := (-1011)) dX7_best_15 (by decide) ?_
      refine v_iret dX7_best_18 rfl ?_ (Nat.le_of_ble_eq_true rfl) (Nat.le_of_ble_eq_true rfl)
      have e9 : qBest C (nI F) t = ((-1011) : Int32) := by unfold qBest; all_goals (repeat (first | rw [if_pos (by first | assumption | omega | rfl | trivial)] | rw [if_neg (by first | assumption | omega)])); all_goals (try simp only [eF]); all_goals (try rfl)
      exact ⟨by rw [e9], rfl, rfl⟩
set_option maxRecDepth 20000 in
set_option maxHeartbeats 4000000 in
theorem t_X7_bestAgain {l : Launch} {G : vG} {h : AH} {n : Nat} {f t : Int32} {m ch sv tn hr en ln wg dg : Nat} {fl wy dt : Int32} {b : Nat} {C : Ct} (ho : h m = some (mo m ch sv tn hr en ln wg dg fl wy dt)) (hv : h (m + 1) = some (ar G 182 (vO C))) (hK : bdk b C) (hb2 : b + 5000 ≤ 2 ^ 28) (hI : Iv C) : Mt l G mX7_bestAgain [.ref m, .int f, .int t] (n) h 0 0 (fun r n2 h2 => r = some (.int (qBest C f t)) ∧ n2 = n ∧ h2 = h) := by
  refine Mt.of (by decide) (Nat.le_of_ble_eq_true rfl) rfl ?_
  refine v_ls (ls2 := [some (.ref m), some (.int f), some (.int t)]) rfl ?_
  refine v_aload_n dX7_bestAgain_0 rfl ?_
  refine v_iload_n dX7_bestAgain_1 rfl ?_
  refine v_iload_n dX7_bestAgain_2 rfl ?_
  refine v_callV (st := []) dX7_bestAgain_3 (t_X7_best (f := f) (t := t) ho hv hK (by omega) hI) wX7_161 ho rfl rfl ⟨Nat.le_of_ble_eq_true rfl, Nat.le_of_ble_eq_true rfl⟩ (Nat.le_of_ble_eq_true rfl) ⟨Nat.le_of_ble_eq_true rfl, Nat.le_of_ble_eq_true rfl⟩ (fun r n2 h2 hq => ?_)
  obtain ⟨rfl, hn9, hh9⟩ := hq; replace hn9 := hn9.symm; subst hn9; replace hh9 := hh9.symm; subst hh9
  refine v_st (st2 := [.int (qBest C f t)]) rfl ?_
  refine v_iret dX7_bestAgain_6 rfl ?_ (Nat.le_of_ble_eq_true rfl) (Nat.le_of_ble_eq_true rfl)
  exact ⟨rfl, rfl, rfl⟩
set_option maxRecDepth 20000 in
set_option maxHeartbeats 4000000 in
theorem t_X7_ends {l : Launch} {G : vG} {h : AH} {n : Nat}  {m ch sv tn hr en ln wg dg : Nat} {fl wy dt : Int32} {b : Nat} {C : Ct} (ho : h m = some (mo m ch sv tn hr en ln wg dg fl wy dt)) (hv : h (m + 1) = some (ar G 182 (vO C))) (hK : bdk b C) (hb2 : b + 5000 ≤ 2 ^ 28) (hI : Iv C) : Mt l G mX7_ends [.ref m] (n) h 0 0 (fun r n2 h2 => r = some (.int (oN (-1015) (endF C (C 0 1)))) ∧ n2 = n ∧ h2 = h) := by
  refine Mt.of (by decide) (Nat.le_of_ble_eq_true rfl) rfl ?_
  refine v_ls (ls2 := [some (.ref m), none, none]) rfl ?_
  have hB := hK.bd (by omega)
  obtain ⟨hF, hJ, hn, hs1, hc99, hs4, hs7, hs8, hs15, hbk9, hs9⟩ := hI.1
  have b00 := hB 0 0
  have b01 := hB 0 1
  have b02 := hB 0 2
  have b03 := hB 0 3
  refine v_sipush (v := (-1015)) dX7_ends_0 (by decide) ?_
  refine v_istore_n dX7_ends_3 rfl (by decide) ?_
  refine v_ls (ls2 := [some (.ref m), some (.int ((-1015))), none]) rfl ?_
  refine v_iconst (v := nI 0) dX7_ends_4 (by decide) ?_
  refine v_istore_n dX7_ends_5 rfl (by decide) ?_
  refine v_ls (ls2 := [some (.ref m), some (.int ((-1015))), some (.int (nI 0))]) rfl ?_
  refine loopV (fun i6 => [some (.ref m), some (.int (oN (-1015) (endF C i6))), some (.int (nI i6))]) (fun _ => True) (N := C 0 1) 0 (by omega) rfl trivial (fun i6 hi6 hp6 ih6 => ?_)
  rcases hoe : endF C i6 with _ | e
  · refine v_ls (ls2 := [some (.ref m), some (.int ((-1015))), some (.int (nI i6))]) rfl ?_
    refine v_iload_n dX7_ends_6 rfl ?_
    refine v_aload_n dX7_ends_7 rfl ?_
    refine fX7_7 (v := .ref (m + 1)) rfl dX7_ends_8 ho rfl ?_
    refine v_iconst (v := nI 1) dX7_ends_11 (by decide) ?_
    refine n_ialdv (f := vO C) (j := 1) (y := C 0 1) dX7_ends_12 hv (by omega) (by decide) ((vrd (C := C) lgn1 (Or.inl (by decide))).trans rfl) ?_
    have b21 := hK 0 1
    refine n_icmp_ge (tgt := 59) (x := i6) (y := C 0 1) dX7_ends_13 (by decide) (by omega) (by omega) (fun c22 => ?_) (fun c22 => ?_)
    · refine v_iload_n dX7_ends_59 rfl ?_
      refine v_iret dX7_ends_60 rfl ?_ (Nat.le_of_ble_eq_true rfl) (Nat.le_of_ble_eq_true rfl)
      have e9 : i6 = C 0 1 := by omega
      subst e9
      exact ⟨by rw [hoe]; rfl, rfl, rfl⟩
    · refine v_aload_n dX7_ends_16 rfl ?_
      refine v_iload_n dX7_ends_17 rfl ?_
      refine v_callV (st := []) dX7_ends_18 (t_X7_owner (j := i6) ho hv hK (by omega) (by omega)) wX7_60 ho rfl rfl ⟨Nat.le_of_ble_eq_true rfl, Nat.le_of_ble_eq_true rfl⟩ (Nat.le_of_ble_eq_true rfl) ⟨Nat.le_of_ble_eq_true rfl, Nat.le_of_ble_eq_true rfl⟩ (fun r n2 h2 hq => ?_)
      obtain ⟨rfl, hn9, hh9⟩ := hq; replace hn9 := hn9.symm; subst hn9; replace hh9 := hh9.symm; subst hh9
      refine v_st (st2 := [.int (ow C i6)]) rfl ?_
      by_cases ho23 : hold C i6
      have b24 := hK 8 i6
      · refine v_st (st2 := [.int (nI (C 8 i6))]) (by rw [ow_t ho23]; try rfl) ?_
        refine n_if_lt (tgt := 53) (x := C 8 i6) dX7_ends_21 (by decide) (by omega) ?_
        refine v_iload_n dX7_ends_24 rfl ?_
        refine v_if_lt (tgt := 42) dX7_ends_25 (by decide) (fun _ => ?_) (fun c => absurd (by decide) c)
        refine v_aload_n dX7_ends_42 rfl ?_
        refine fX7_7 (v := .ref (m + 1)) rfl dX7_ends_43 ho rfl ?_
        refine v_iload_n dX7_ends_46 rfl ?_
        refine v_iconst (v := nI 2) dX7_ends_47 (by decide) ?_
        refine v_callS (st := [.ref (m + 1)]) dX7_ends_48 (t_X7_in (f := i6) (w := 2)) wX7_56 rfl ⟨Nat.le_of_ble_eq_true rfl, Nat.le_of_ble_eq_true rfl⟩ (Nat.le_of_ble_eq_true rfl) ⟨Nat.le_of_ble_eq_true rfl, Nat.le_of_ble_eq_true rfl⟩ (fun r n2 h2 hq => ?_)
        obtain ⟨rfl, hn9, hh9⟩ := hq; replace hn9 := hn9.symm; subst hn9; replace hh9 := hh9.symm; subst hh9
        refine v_st (st2 := [.int (nI (46 + 3 * i6 + 2)), .ref (m + 1)]) rfl ?_
        refine n_ialdv (f := vO C) (j := 46 + 3 * i6 + 2) (y := C 9 i6) dX7_ends_51 hv (by omega) (by decide) ((vrd (C := C) (lgJ (f := i6) (w := 2) (by omega) (by decide)) (Or.inl (by omega))).trans rfl) ?_
        have b25 := hK 9 i6
        refine v_istore_n dX7_ends_52 rfl (by decide) ?_
        refine v_ls (ls2 := [some (.ref m), some (.int (nI (C 9 i6))), some (.int (nI i6))]) rfl ?_
        refine n_iinc (k := 1) (x := i6) dX7_ends_53 (by decide) rfl rfl (by decide) ?_
        refine v_ls (ls2 := [some (.ref m), some (.int (nI (C 9 i6))), some (.int (nI (i6 + 1)))]) rfl ?_
        refine v_goto (tgt := 6) dX7_ends_56 (by decide) ?_
        refine v_ls (ls2 := [some (.ref m), some (.int (oN (-1015) (endF C ((i6 + 1))))), some (.int (nI ((i6 + 1))))]) ?_ (ih6 (by omega) trivial)
        rw [show endF C (i6 + 1) = some ((C 9 i6)) from by rw [endF, hoe]; first | rfl | exact if_pos (by omega) | exact if_neg (by omega)]
        rfl
      · refine v_st (st2 := [.int ((-1))]) (by rw [ow_f ho23]; try rfl) ?_
        refine v_if_lt (tgt := 53) dX7_ends_21 (by decide) (fun _ => ?_) (fun c => absurd (by decide) c)
        refine n_iinc (k := 1) (x := i6) dX7_ends_53 (by decide) rfl rfl (by decide) ?_
        refine v_ls (ls2 := [some (.ref m), some (.int ((-1015))), some (.int (nI (i6 + 1)))]) rfl ?_
        refine v_goto (tgt := 6) dX7_ends_56 (by decide) ?_
        refine v_ls (ls2 := [some (.ref m), some (.int (oN (-1015) (endF C ((i6 + 1))))), some (.int (nI ((i6 + 1))))]) ?_ (ih6 (by omega) trivial)
        rw [show endF C (i6 + 1) = none from by rw [endF, hoe]; first | rfl | exact if_pos (by omega) | exact if_neg (by omega)]
        rfl
  · have hbe := endF_bd hB hoe
    refine v_ls (ls2 := [some (.ref m), some (.int (nI e)), some (.int (nI i6))]) rfl ?_
    refine v_iload_n dX7_ends_6 rfl ?_
    refine v_aload_n dX7_ends_7 rfl ?_
    refine fX7_7 (v := .ref (m + 1)) rfl dX7_ends_8 ho rfl ?_
    refine v_iconst (v := nI 1) dX7_ends_11 (by decide) ?_
    refine n_ialdv (f := vO C) (j := 1) (y := C 0 1) dX7_ends_12 hv (by omega) (by decide) ((vrd (C := C) lgn1 (Or.inl (by decide))).trans rfl) ?_
    have b26 := hK 0 1
    refine n_icmp_ge (tgt := 59) (x := i6) (y := C 0 1) dX7_ends_13 (by decide) (by omega) (by omega) (fun c27 => ?_) (fun c27 => ?_)
    · refine v_iload_n dX7_ends_59 rfl ?_
      refine v_iret dX7_ends_60 rfl ?_ (Nat.le_of_ble_eq_true rfl) (Nat.le_of_ble_eq_true rfl)
      have e9 : i6 = C 0 1 := by omega
      subst e9
      exact ⟨by rw [hoe]; rfl, rfl, rfl⟩
    · refine v_aload_n dX7_ends_16 rfl ?_
      refine v_iload_n dX7_ends_17 rfl ?_
      refine v_callV (st := []) dX7_ends_18 (t_X7_owner (j := i6) ho hv hK (by omega) (by omega)) wX7_60 ho rfl rfl ⟨Nat.le_of_ble_eq_true rfl, Nat.le_of_ble_eq_true rfl⟩ (Nat.le_of_ble_eq_true rfl) ⟨Nat.le_of_ble_eq_true rfl, Nat.le_of_ble_eq_true rfl⟩ (fun r n2 h2 hq => ?_)
      obtain ⟨rfl, hn9, hh9⟩ := hq; replace hn9 := hn9.symm; subst hn9; replace hh9 := hh9.symm; subst hh9
      refine v_st (st2 := [.int (ow C i6)]) rfl ?_
      by_cases ho28 : hold C i6
      have b29 := hK 8 i6
      · refine v_st (st2 := [.int (nI (C 8 i6))]) (by rw [ow_t ho28]; try rfl) ?_
        refine n_if_lt (tgt := 53) (x := C 8 i6) dX7_ends_21 (by decide) (by omega) ?_
        refine v_iload_n dX7_ends_24 rfl ?_
        refine n_if_lt (tgt := 42) (x := e) dX7_ends_25 (by decide) (by omega) ?_
        refine v_aload_n dX7_ends_28 rfl ?_
        refine fX7_7 (v := .ref (m + 1)) rfl dX7_ends_29 ho rfl ?_
        refine v_iload_n dX7_ends_32 rfl ?_
        refine v_iconst (v := nI 2) dX7_ends_33 (by decide) ?_
        refine v_callS (st := [.ref (m + 1)]) dX7_ends_34 (t_X7_in (f := i6) (w := 2)) wX7_56 rfl ⟨Nat.le_of_ble_eq_true rfl, Nat.le_of_ble_eq_true rfl⟩ (Nat.le_of_ble_eq_true rfl) ⟨Nat.le_of_ble_eq_true rfl, Nat.le_of_ble_eq_true rfl⟩ (fun r n2 h2 hq => ?_)
        obtain ⟨rfl, hn9, hh9⟩ := hq; replace hn9 := hn9.symm; subst hn9; replace hh9 := hh9.symm; subst hh9
        refine v_st (st2 := [.int (nI (46 + 3 * i6 + 2)), .ref (m + 1)]) rfl ?_
        refine n_ialdv (f := vO C) (j := 46 + 3 * i6 + 2) (y := C 9 i6) dX7_ends_37 hv (by omega) (by decide) ((vrd (C := C) (lgJ (f := i6) (w := 2) (by omega) (by decide)) (Or.inl (by omega))).trans rfl) ?_
        have b30 := hK 9 i6
        refine v_iload_n dX7_ends_38 rfl ?_
        refine n_icmp_ge (tgt := 53) (x := C 9 i6) (y := e) dX7_ends_39 (by decide) (by omega) (by omega) (fun c31 => ?_) (fun c31 => ?_)
        · refine n_iinc (k := 1) (x := i6) dX7_ends_53 (by decide) rfl rfl (by decide) ?_
          refine v_ls (ls2 := [some (.ref m), some (.int (nI e)), some (.int (nI (i6 + 1)))]) rfl ?_
          refine v_goto (tgt := 6) dX7_ends_56 (by decide) ?_
          refine v_ls (ls2 := [some (.ref m), some (.int (oN (-1015) (endF C ((i6 + 1))))), some (.int (nI ((i6 + 1))))]) ?_ (ih6 (by omega) trivial)
          rw [show endF C (i6 + 1) = some (e) from by rw [endF, hoe]; first | rfl | exact if_pos (by omega) | exact if_neg (by omega)]
          rfl
        · refine v_aload_n dX7_ends_42 rfl ?_
          refine fX7_7 (v := .ref (m + 1)) rfl dX7_ends_43 ho rfl ?_
          refine v_iload_n dX7_ends_46 rfl ?_
          refine v_iconst (v := nI 2) dX7_ends_47 (by decide) ?_
          refine v_callS (st := [.ref (m + 1)]) dX7_ends_48 (t_X7_in (f := i6) (w := 2)) wX7_56 rfl ⟨Nat.le_of_ble_eq_true rfl, Nat.le_of_ble_eq_true rfl⟩ (Nat.le_of_ble_eq_true rfl) ⟨Nat.le_of_ble_eq_true rfl, Nat.le_of_ble_eq_true rfl⟩ (fun r n2 h2 hq => ?_)
          obtain ⟨rfl, hn9, hh9⟩ := hq; replace hn9 := hn9.symm; subst hn9; replace hh9 := hh9.symm; subst hh9
          refine v_st (st2 := [.int (nI (46 + 3 * i6 + 2)), .ref (m + 1)]) rfl ?_
          refine n_ialdv (f := vO C) (j := 46 + 3 * i6 + 2) (y := C 9 i6) dX7_ends_51 hv (by omega) (by decide) ((vrd (C := C) (lgJ (f := i6) (w := 2) (by omega) (by decide)) (Or.inl (by omega))).trans rfl) ?_
          refine v_istore_n dX7_ends_52 rfl (by decide) ?_
          refine v_ls (ls2 := [some (.ref m), some (.int (nI (C 9 i6))), some (.int (nI i6))]) rfl ?_
          refine n_iinc (k := 1) (x := i6) dX7_ends_53 (by decide) rfl rfl (by decide) ?_
          refine v_ls (ls2 := [some (.ref m), some (.int (nI (C 9 i6))), some (.int (nI (i6 + 1)))]) rfl ?_
          refine v_goto (tgt := 6) dX7_ends_56 (by decide) ?_
          refine v_ls (ls2 := [some (.ref m), some (.int (oN (-1015) (endF C ((i6 + 1))))), some (.int (nI ((i6 + 1))))]) ?_ (ih6 (by omega) trivial)
          rw [show endF C (i6 + 1) = some ((C 9 i6)) from by rw [endF, hoe]; first | rfl | exact if_pos (by omega) | exact if_neg (by omega)]
          rfl
      · refine v_st (st2 := [.int ((-1))]) (by rw [ow_f ho28]; try rfl) ?_
        refine v_if_lt (tgt := 53) dX7_ends_21 (by decide) (fun _ => ?_) (fun c => absurd (by decide) c)
        refine n_iinc (k := 1) (x := i6) dX7_ends_53 (by decide) rfl rfl (by decide) ?_
        refine v_ls (ls2 := [some (.ref m), some (.int (nI e)), some (.int (nI (i6 + 1)))]) rfl ?_
        refine v_goto (tgt := 6) dX7_ends_56 (by decide) ?_
        refine v_ls (ls2 := [some (.ref m), some (.int (oN (-1015) (endF C ((i6 + 1))))), some (.int (nI ((i6 + 1))))]) ?_ (ih6 (by omega) trivial)
        rw [show endF C (i6 + 1) = some (e) from by rw [endF, hoe]; first | rfl | exact if_pos (by omega) | exact if_neg (by omega)]
        rfl
set_option maxRecDepth 20000 in
set_option maxHeartbeats 4000000 in
theorem t_X7_endsAgain {l : Launch} {G : vG} {h : AH} {n : Nat}  {m ch sv tn hr en ln wg dg : Nat} {fl wy dt : Int32} {b : Nat} {C : Ct} (ho : h m = some (mo m ch sv tn hr en ln wg dg fl wy dt)) (hv : h (m + 1) = some (ar G 182 (vO C))) (hK : bdk b C) (hb2 : b + 5000 ≤ 2 ^ 28) (hI : Iv C) : Mt l G mX7_endsAgain [.ref m] (n) h 0 0 (fun r n2 h2 => r = some (.int (oN (-1015) (endF C (C 0 1)))) ∧ n2 = n ∧ h2 = h) := by
  refine Mt.of (by decide) (Nat.le_of_ble_eq_true rfl) rfl ?_
  refine v_ls (ls2 := [some (.ref m)]) rfl ?_
  refine v_aload_n dX7_endsAgain_0 rfl ?_
  refine v_callV (st := []) dX7_endsAgain_1 (t_X7_ends ho hv hK (by omega) hI) wX7_164 ho rfl rfl ⟨Nat.le_of_ble_eq_true rfl, Nat.le_of_ble_eq_true rfl⟩ (Nat.le_of_ble_eq_true rfl) ⟨Nat.le_of_ble_eq_true rfl, Nat.le_of_ble_eq_true rfl⟩ (fun r n2 h2 hq => ?_)
  obtain ⟨rfl, hn9, hh9⟩ := hq; replace hn9 := hn9.symm; subst hn9; replace hh9 := hh9.symm; subst hh9
  refine v_st (st2 := [.int (oN (-1015) (endF C (C 0 1)))]) rfl ?_
  refine v_iret dX7_endsAgain_4 rfl ?_ (Nat.le_of_ble_eq_true rfl) (Nat.le_of_ble_eq_true rfl)
  exact ⟨rfl, rfl, rfl⟩
set_option maxRecDepth 20000 in
set_option maxHeartbeats 4000000 in
theorem t_X7_all1 {l : Launch} {G : vG} {h : AH} {n : Nat}  {m ch sv tn hr en ln wg dg : Nat} {fl wy dt : Int32} {b : Nat} {C : Ct} (ho : h m = some (mo m ch sv tn hr en ln wg dg fl wy dt)) (hv : h (m + 1) = some (ar G 182 (vO C))) (hK : bdk b C) (hb2 : b + 1000 ≤ 2 ^ 28) (hF : C 0 0 ≤ 6) (hz : ∀ i, C 0 0 ≤ i → C 2 i = 0) : Mt l G mX7_all [.ref m, .int (nI 1)] (n) h 0 0 (fun r n2 h2 => r = some (.int (nI (sm (C 2) 6))) ∧ n2 = n ∧ h2 = h) := by
  refine Mt.of (by decide) (Nat.le_of_ble_eq_true rfl) rfl ?_
  refine v_ls (ls2 := [some (.ref m), some (.int (nI 1)), none, none]) rfl ?_
  have hB := hK.bd (by omega)
  refine v_iconst (v := nI 0) dX7_all_0 (by decide) ?_
  refine v_istore_n dX7_all_1 rfl (by decide) ?_
  refine v_ls (ls2 := [some (.ref m), some (.int (nI 1)), some (.int (nI 0)), none]) rfl ?_
  refine v_iconst (v := nI 0) dX7_all_2 (by decide) ?_
  refine v_istore_n dX7_all_3 rfl (by decide) ?_
  refine v_ls (ls2 := [some (.ref m), some (.int (nI 1)), some (.int (nI 0)), some (.int (nI 0))]) rfl ?_
  refine loopV (fun i4 => [some (.ref m), some (.int (nI 1)), some (.int (nI (sm (C 2) i4))), some (.int (nI i4))]) (fun i4 => True) (N := C 0 0) 0 (by omega) rfl trivial (fun i4 hi4 hp4 ih4 => ?_)
  refine v_iload_n dX7_all_4 rfl ?_
  refine v_aload_n dX7_all_5 rfl ?_
  refine fX7_7 (v := .ref (m + 1)) rfl dX7_all_6 ho rfl ?_
  refine v_iconst (v := nI 0) dX7_all_9 (by decide) ?_
  refine n_ialdv (f := vO C) (j := 0) (y := C 0 0) dX7_all_10 hv (by omega) (by decide) ((vrd (C := C) lgn0 (Or.inl (by decide))).trans rfl) ?_
  have b21 := hK 0 0
  refine n_icmp_ge (tgt := 33) (x := i4) (y := C 0 0) dX7_all_11 (by decide) (by omega) (by omega) (fun c22 => ?_) (fun c22 => ?_)
  · refine v_iload_n dX7_all_33 rfl ?_
    refine v_iret dX7_all_34 rfl ?_ (Nat.le_of_ble_eq_true rfl) (Nat.le_of_ble_eq_true rfl)
    have e : i4 = C 0 0 := by omega
    subst e
    exact ⟨by rw [sm_tail hz hF], rfl, rfl⟩
  · refine v_iload_n dX7_all_14 rfl ?_
    refine v_aload_n dX7_all_15 rfl ?_
    refine fX7_7 (v := .ref (m + 1)) rfl dX7_all_16 ho rfl ?_
    refine v_iload_n dX7_all_19 rfl ?_
    refine v_iload_n dX7_all_20 rfl ?_
    refine v_callS (st := [.ref (m + 1), .int (nI (sm (C 2) i4))]) dX7_all_21 (t_X7_at (f := i4) (w := 1)) wX7_63 rfl ⟨Nat.le_of_ble_eq_true rfl, Nat.le_of_ble_eq_true rfl⟩ (Nat.le_of_ble_eq_true rfl) ⟨Nat.le_of_ble_eq_true rfl, Nat.le_of_ble_eq_true rfl⟩ (fun r n2 h2 hq => ?_)
    obtain ⟨rfl, hn9, hh9⟩ := hq; replace hn9 := hn9.symm; subst hn9; replace hh9 := hh9.symm; subst hh9
    refine v_st (st2 := [.int (nI (10 + 6 * i4 + 1)), .ref (m + 1), .int (nI (sm (C 2) i4))]) rfl ?_
    refine n_ialdv (f := vO C) (j := 10 + 6 * i4 + 1) (y := C 2 i4) dX7_all_24 hv (by omega) (by decide) ((vrd (C := C) (lgF (f := i4) (w := 1) (by omega) (by decide)) (Or.inl (by omega))).trans rfl) ?_
    have b23 := hK 2 i4
    refine n_iadd (x := sm (C 2) i4) (y := C 2 i4) dX7_all_25 ?_
    refine v_istore_n dX7_all_26 rfl (by decide) ?_
    refine v_ls (ls2 := [some (.ref m), some (.int (nI 1)), some (.int (nI (sm (C 2) i4 + C 2 i4))), some (.int (nI i4))]) rfl ?_
    refine n_iinc (k := 1) (x := i4) dX7_all_27 (by decide) rfl rfl (by decide) ?_
    refine v_ls (ls2 := [some (.ref m), some (.int (nI 1)), some (.int (nI (sm (C 2) i4 + C 2 i4))), some (.int (nI (i4 + 1)))]) rfl ?_
    refine v_goto (tgt := 4) dX7_all_30 (by decide) ?_
    exact ih4 (by omega) trivial
set_option maxRecDepth 20000 in
set_option maxHeartbeats 4000000 in
theorem t_X7_all2 {l : Launch} {G : vG} {h : AH} {n : Nat}  {m ch sv tn hr en ln wg dg : Nat} {fl wy dt : Int32} {b : Nat} {C : Ct} (ho : h m = some (mo m ch sv tn hr en ln wg dg fl wy dt)) (hv : h (m + 1) = some (ar G 182 (vO C))) (hK : bdk b C) (hb2 : b + 1000 ≤ 2 ^ 28) (hF : C 0 0 ≤ 6) (hz : ∀ i, C 0 0 ≤ i → C 3 i = 0) : Mt l G mX7_all [.ref m, .int (nI 2)] (n) h 0 0 (fun r n2 h2 => r = some (.int (nI (sm (C 3) 6))) ∧ n2 = n ∧ h2 = h) := by
  refine Mt.of (by decide) (Nat.le_of_ble_eq_true rfl) rfl ?_
  refine v_ls (ls2 := [some (.ref m), some (.int (nI 2)), none, none]) rfl ?_
  have hB := hK.bd (by omega)
  refine v_iconst (v := nI 0) dX7_all_0 (by decide) ?_
  refine v_istore_n dX7_all_1 rfl (by decide) ?_
  refine v_ls (ls2 := [some (.ref m), some (.int (nI 2)), some (.int (nI 0)), none]) rfl ?_
  refine v_iconst (v := nI 0) dX7_all_2 (by decide) ?_
  refine v_istore_n dX7_all_3 rfl (by decide) ?_
  refine v_ls (ls2 := [some (.ref m), some (.int (nI 2)), some (.int (nI 0)), some (.int (nI 0))]) rfl ?_
  refine loopV (fun i4 => [some (.ref m), some (.int (nI 2)), some (.int (nI (sm (C 3) i4))), some (.int (nI i4))]) (fun i4 => True) (N := C 0 0) 0 (by omega) rfl trivial (fun i4 hi4 hp4 ih4 => ?_)
  refine v_iload_n dX7_all_4 rfl ?_
  refine v_aload_n dX7_all_5 rfl ?_
  refine fX7_7 (v := .ref (m + 1)) rfl dX7_all_6 ho rfl ?_
  refine v_iconst (v := nI 0) dX7_all_9 (by decide) ?_
  refine n_ialdv (f := vO C) (j := 0) (y := C 0 0) dX7_all_10 hv (by omega) (by decide) ((vrd (C := C) lgn0 (Or.inl (by decide))).trans rfl) ?_
  have b21 := hK 0 0
  refine n_icmp_ge (tgt := 33) (x := i4) (y := C 0 0) dX7_all_11 (by decide) (by omega) (by omega) (fun c22 => ?_) (fun c22 => ?_)
  · refine v_iload_n dX7_all_33 rfl ?_
    refine v_iret dX7_all_34 rfl ?_ (Nat.le_of_ble_eq_true rfl) (Nat.le_of_ble_eq_true rfl)
    have e : i4 = C 0 0 := by omega
    subst e
    exact ⟨by rw [sm_tail hz hF], rfl, rfl⟩
  · refine v_iload_n dX7_all_14 rfl ?_
    refine v_aload_n dX7_all_15 rfl ?_
    refine fX7_7 (v := .ref (m + 1)) rfl dX7_all_16 ho rfl ?_
    refine v_iload_n dX7_all_19 rfl ?_
    refine v_iload_n dX7_all_20 rfl ?_
    refine v_callS (st := [.ref (m + 1), .int (nI (sm (C 3) i4))]) dX7_all_21 (t_X7_at (f := i4) (w := 2)) wX7_63 rfl ⟨Nat.le_of_ble_eq_true rfl, Nat.le_of_ble_eq_true rfl⟩ (Nat.le_of_ble_eq_true rfl) ⟨Nat.le_of_ble_eq_true rfl, Nat.le_of_ble_eq_true rfl⟩ (fun r n2 h2 hq => ?_)
    obtain ⟨rfl, hn9, hh9⟩ := hq; replace hn9 := hn9.symm; subst hn9; replace hh9 := hh9.symm; subst hh9
    refine v_st (st2 := [.int (nI (10 + 6 * i4 + 2)), .ref (m + 1), .int (nI (sm (C 3) i4))]) rfl ?_
    refine n_ialdv (f := vO C) (j := 10 + 6 * i4 + 2) (y := C 3 i4) dX7_all_24 hv (by omega) (by decide) ((vrd (C := C) (lgF (f := i4) (w := 2) (by omega) (by decide)) (Or.inl (by omega))).trans rfl) ?_
    have b23 := hK 3 i4
    refine n_iadd (x := sm (C 3) i4) (y := C 3 i4) dX7_all_25 ?_
    refine v_istore_n dX7_all_26 rfl (by decide) ?_
    refine v_ls (ls2 := [some (.ref m), some (.int (nI 2)), some (.int (nI (sm (C 3) i4 + C 3 i4))), some (.int (nI i4))]) rfl ?_
    refine n_iinc (k := 1) (x := i4) dX7_all_27 (by decide) rfl rfl (by decide) ?_
    refine v_ls (ls2 := [some (.ref m), some (.int (nI 2)), some (.int (nI (sm (C 3) i4 + C 3 i4))), some (.int (nI (i4 + 1)))]) rfl ?_
    refine v_goto (tgt := 4) dX7_all_30 (by decide) ?_
    exact ih4 (by omega) trivial
set_option maxRecDepth 20000 in
set_option maxHeartbeats 4000000 in
theorem t_X7_all4 {l : Launch} {G : vG} {h : AH} {n : Nat}  {m ch sv tn hr en ln wg dg : Nat} {fl wy dt : Int32} {b : Nat} {C : Ct} (ho : h m = some (mo m ch sv tn hr en ln wg dg fl wy dt)) (hv : h (m + 1) = some (ar G 182 (vO C))) (hK : bdk b C) (hb2 : b + 1000 ≤ 2 ^ 28) (hF : C 0 0 ≤ 6) (hz : ∀ i, C 0 0 ≤ i → C 5 i = 0) : Mt l G mX7_all [.ref m, .int (nI 4)] (n) h 0 0 (fun r n2 h2 => r = some (.int (nI (sm (C 5) 6))) ∧ n2 = n ∧ h2 = h) := by
  refine Mt.of (by decide) (Nat.le_of_ble_eq_true rfl) rfl ?_
  refine v_ls (ls2 := [some (.ref m), some (.int (nI 4)), none, none]) rfl ?_
  have hB := hK.bd (by omega)
  refine v_iconst (v := nI 0) dX7_all_0 (by decide) ?_
  refine v_istore_n dX7_all_1 rfl (by decide) ?_
  refine v_ls (ls2 := [some (.ref m), some (.int (nI 4)), some (.int (nI 0)), none]) rfl ?_
  refine v_iconst (v := nI 0) dX7_all_2 (by decide) ?_
  refine v_istore_n dX7_all_3 rfl (by decide) ?_
  refine v_ls (ls2 := [some (.ref m), some (.int (nI 4)), some (.int (nI 0)), some (.int (nI 0))]) rfl ?_
  refine loopV (fun i4 => [some (.ref m), some (.int (nI 4)), some (.int (nI (sm (C 5) i4))), some (.int (nI i4))]) (fun i4 => True) (N := C 0 0) 0 (by omega) rfl trivial (fun i4 hi4 hp4 ih4 => ?_)
  refine v_iload_n dX7_all_4 rfl ?_
  refine v_aload_n dX7_all_5 rfl ?_
  refine fX7_7 (v := .ref (m + 1)) rfl dX7_all_6 ho rfl ?_
  refine v_iconst (v := nI 0) dX7_all_9 (by decide) ?_
  refine n_ialdv (f := vO C) (j := 0) (y := C 0 0) dX7_all_10 hv (by omega) (by decide) ((vrd (C := C) lgn0 (Or.inl (by decide))).trans rfl) ?_
  have b21 := hK 0 0
  refine n_icmp_ge (tgt := 33) (x := i4) (y := C 0 0) dX7_all_11 (by decide) (by omega) (by omega) (fun c22 => ?_) (fun c22 => ?_)
  · refine v_iload_n dX7_all_33 rfl ?_
    refine v_iret dX7_all_34 rfl ?_ (Nat.le_of_ble_eq_true rfl) (Nat.le_of_ble_eq_true rfl)
    have e : i4 = C 0 0 := by omega
    subst e
    exact ⟨by rw [sm_tail hz hF], rfl, rfl⟩
  · refine v_iload_n dX7_all_14 rfl ?_
    refine v_aload_n dX7_all_15 rfl ?_
    refine fX7_7 (v := .ref (m + 1)) rfl dX7_all_16 ho rfl ?_
    refine v_iload_n dX7_all_19 rfl ?_
    refine v_iload_n dX7_all_20 rfl ?_
    refine v_callS (st := [.ref (m + 1), .int (nI (sm (C 5) i4))]) dX7_all_21 (t_X7_at (f := i4) (w := 4)) wX7_63 rfl ⟨Nat.le_of_ble_eq_true rfl, Nat.le_of_ble_eq_true rfl⟩ (Nat.le_of_ble_eq_true rfl) ⟨Nat.le_of_ble_eq_true rfl, Nat.le_of_ble_eq_true rfl⟩ (fun r n2 h2 hq => ?_)
    obtain ⟨rfl, hn9, hh9⟩ := hq; replace hn9 := hn9.symm; subst hn9; replace hh9 := hh9.symm; subst hh9
    refine v_st (st2 := [.int (nI (10 + 6 * i4 + 4)), .ref (m + 1), .int (nI (sm (C 5) i4))]) rfl ?_
    refine n_ialdv (f := vO C) (j := 10 + 6 * i4 + 4) (y := C 5 i4) dX7_all_24 hv (by omega) (by decide) ((vrd (C := C) (lgF (f := i4) (w := 4) (by omega) (by decide)) (Or.inl (by omega))).trans rfl) ?_
    have b23 := hK 5 i4
    refine n_iadd (x := sm (C 5) i4) (y := C 5 i4) dX7_all_25 ?_
    refine v_istore_n dX7_all_26 rfl (by decide) ?_
    refine v_ls (ls2 := [some (.ref m), some (.int (nI 4)), some (.int (nI (sm (C 5) i4 + C 5 i4))), some (.int (nI i4))]) rfl ?_
    refine n_iinc (k := 1) (x := i4) dX7_all_27 (by decide) rfl rfl (by decide) ?_
    refine v_ls (ls2 := [some (.ref m), some (.int (nI 4)), some (.int (nI (sm (C 5) i4 + C 5 i4))), some (.int (nI (i4 + 1)))]) rfl ?_
    refine v_goto (tgt := 4) dX7_all_30 (by decide) ?_
    exact ih4 (by omega) trivial
set_option maxRecDepth 20000 in
set_option maxHeartbeats 4000000 in
theorem t_X7_ranked {l : Launch} {G : vG} {h : AH} {n : Nat} {x : Int32} {m ch sv tn hr en ln wg dg : Nat} {fl wy dt : Int32} {b : Nat} {C : Ct} (ho : h m = some (mo m ch sv tn hr en ln wg dg fl wy dt)) (hv : h (m + 1) = some (ar G 182 (vO C))) (hK : bdk b C) (hb2 : b + 5000 ≤ 2 ^ 28) (hI : Iv C) : Mt l G mX7_ranked [.ref m, .int x] (n) h 0 0 (fun r n2 h2 => r = some (.int (oN (-1011) (fs (fun z => decide (nI (flN C z) = x)) 0 (C 0 0)))) ∧ n2 = n ∧ h2 = h) := by
  refine Mt.of (by decide) (Nat.le_of_ble_eq_true rfl) rfl ?_
  refine v_ls (ls2 := [some (.ref m), some (.int x), none, none, none, none]) rfl ?_
  have hB := hK.bd (by omega)
  obtain ⟨hF, hJ, hn, hs1, hc99, hs4, hs7, hs8, hs15, hbk9, hs9⟩ := hI.1
  have b00 := hB 0 0
  have b01 := hB 0 1
  have b02 := hB 0 2
  have b03 := hB 0 3
  refine v_iconst (v := nI 0) dX7_ranked_0 (by decide) ?_
  refine v_istore_n dX7_ranked_1 rfl (by decide) ?_
  refine v_ls (ls2 := [some (.ref m), some (.int x), some (.int (nI 0)), none, none, none]) rfl ?_
  refine loopV (fun i2 => [some (.ref m), some (.int x), some (.int (nI i2)), none, none, none]) (fun i2 => fs (fun z => decide (nI (flN C z) = x)) 0 (C 0 0) = fs (fun z => decide (nI (flN C z) = x)) i2 (C 0 0 - i2)) (N := C 0 0) 0 (by omega) rfl rfl (fun i2 hi2 hp2 ih2 => ?_)
  refine v_iload_n dX7_ranked_2 rfl ?_
  refine v_aload_n dX7_ranked_3 rfl ?_
  refine fX7_7 (v := .ref (m + 1)) rfl dX7_ranked_4 ho rfl ?_
  refine v_iconst (v := nI 0) dX7_ranked_7 (by decide) ?_
  refine n_ialdv (f := vO C) (j := 0) (y := C 0 0) dX7_ranked_8 hv (by omega) (by decide) ((vrd (C := C) lgn0 (Or.inl (by decide))).trans rfl) ?_
  have b21 := hK 0 0
  refine n_icmp_ge (tgt := 135) (x := i2) (y := C 0 0) dX7_ranked_9 (by decide) (by omega) (by omega) (fun c22 => ?_) (fun c22 => ?_)
  · refine v_sipush (v := (-1011)) dX7_ranked_135 (by decide) ?_
    refine v_iret dX7_ranked_138 rfl ?_ (Nat.le_of_ble_eq_true rfl) (Nat.le_of_ble_eq_true rfl)
    exact ⟨by rw [hp2, fs_end (by omega)]; rfl, rfl, rfl⟩
  · refine v_iconst (v := nI 0) dX7_ranked_12 (by decide) ?_
    refine v_istore_n dX7_ranked_13 rfl (by decide) ?_
    refine v_ls (ls2 := [some (.ref m), some (.int x), some (.int (nI i2)), some (.int (nI 0)), none, none]) rfl ?_
    refine v_iconst (v := nI 0) dX7_ranked_14 (by decide) ?_
    refine v_istore dX7_ranked_15 rfl (by decide) ?_
    refine v_ls (ls2 := [some (.ref m), some (.int x), some (.int (nI i2)), some (.int (nI 0)), some (.int (nI 0)), none]) rfl ?_
    refine loopV (fun i17 => [some (.ref m), some (.int x), some (.int (nI i2)), some (.int (nI (cnt (fun z => decide (flA C z i2)) i17))), some (.int (nI i17)), none]) (fun i17 => True) (N := C 0 0) 0 (by omega) rfl trivial (fun i17 hi17 hp17 ih17 => ?_)
    refine v_iload dX7_ranked_17 rfl ?_
    refine v_aload_n dX7_ranked_19 rfl ?_
    refine fX7_7 (v := .ref (m + 1)) rfl dX7_ranked_20 ho rfl ?_
    refine v_iconst (v := nI 0) dX7_ranked_23 (by decide) ?_
    refine n_ialdv (f := vO C) (j := 0) (y := C 0 0) dX7_ranked_24 hv (by omega) (by decide) ((vrd (C := C) lgn0 (Or.inl (by decide))).trans rfl) ?_
    refine n_icmp_ge (tgt := 122) (x := i17) (y := C 0 0) dX7_ranked_25 (by decide) (by omega) (by omega) (fun c23 => ?_) (fun c23 => ?_)
    · have e : i17 = C 0 0 := by omega
      subst e
      refine v_ls (ls2 := [some (.ref m), some (.int x), some (.int (nI i2)), some (.int (nI (flN C i2))), some (.int (nI (C 0 0))), none]) rfl ?_
      refine v_iload_n dX7_ranked_122 rfl ?_
      refine v_iload_n dX7_ranked_123 rfl ?_
      refine v_icmp_ne (tgt := 129) dX7_ranked_124 (by decide) (fun c24 => ?_) (fun c24 => ?_)
      · refine n_iinc (k := 1) (x := i2) dX7_ranked_129 (by decide) rfl rfl (by decide) ?_
        refine v_ls (ls2 := [some (.ref m), some (.int x), some (.int (nI (i2 + 1))), some (.int (nI (flN C i2))), some (.int (nI (C 0 0))), none]) rfl ?_
        refine v_goto (tgt := 2) dX7_ranked_132 (by decide) ?_
        refine v_forget 3 ?_
        refine v_forget 4 ?_
        exact ih2 (by omega) (hp2.trans (fs_step (by omega) (decide_eq_false (by assumption))))
      · refine v_iload_n dX7_ranked_127 rfl ?_
        refine v_iret dX7_ranked_128 rfl ?_ (Nat.le_of_ble_eq_true rfl) (Nat.le_of_ble_eq_true rfl)
        exact ⟨by rw [hp2, fs_hit (by omega) (decide_eq_true (by assumption))]; rfl, rfl, rfl⟩
    · refine v_aload_n dX7_ranked_28 rfl ?_
      refine fX7_7 (v := .ref (m + 1)) rfl dX7_ranked_29 ho rfl ?_
      refine v_iload dX7_ranked_32 rfl ?_
      refine v_iconst (v := nI 2) dX7_ranked_34 (by decide) ?_
      refine v_callS (st := [.ref (m + 1)]) dX7_ranked_35 (t_X7_at (f := i17) (w := 2)) wX7_63 rfl ⟨Nat.le_of_ble_eq_true rfl, Nat.le_of_ble_eq_true rfl⟩ (Nat.le_of_ble_eq_true rfl) ⟨Nat.le_of_ble_eq_true rfl, Nat.le_of_ble_eq_true rfl⟩ (fun r n2 h2 hq => ?_)
      obtain ⟨rfl, hn9, hh9⟩ := hq; replace hn9 := hn9.symm; subst hn9; replace hh9 := hh9.symm; subst hh9
      refine v_st (st2 := [.int (nI (10 + 6 * i17 + 2)), .ref (m + 1)]) rfl ?_
      refine n_ialdv (f := vO C) (j := 10 + 6 * i17 + 2) (y := C 3 i17) dX7_ranked_38 hv (by omega) (by decide) ((vrd (C := C) (lgF (f := i17) (w := 2) (by omega) (by decide)) (Or.inl (by omega))).trans rfl) ?_
      have b25 := hK 3 i17
      refine v_aload_n dX7_ranked_39 rfl ?_
      refine fX7_7 (v := .ref (m + 1)) rfl dX7_ranked_40 ho rfl ?_
      refine v_iload_n dX7_ranked_43 rfl ?_
      refine v_iconst (v := nI 2) dX7_ranked_44 (by decide) ?_
      refine v_callS (st := [.ref (m + 1), .int (nI (C 3 i17))]) dX7_ranked_45 (t_X7_at (f := i2) (w := 2)) wX7_63 rfl ⟨Nat.le_of_ble_eq_true rfl, Nat.le_of_ble_eq_true rfl⟩ (Nat.le_of_ble_eq_true rfl) ⟨Nat.le_of_ble_eq_true rfl, Nat.le_of_ble_eq_true rfl⟩ (fun r n2 h2 hq => ?_)
      obtain ⟨rfl, hn9, hh9⟩ := hq; replace hn9 := hn9.symm; subst hn9; replace hh9 := hh9.symm; subst hh9
      refine v_st (st2 := [.int (nI (10 + 6 * i2 + 2)), .ref (m + 1), .int (nI (C 3 i17))]) rfl ?_
      refine n_ialdv (f := vO C) (j := 10 + 6 * i2 + 2) (y := C 3 i2) dX7_ranked_48 hv (by omega) (by decide) ((vrd (C := C) (lgF (f := i2) (w := 2) (by omega) (by decide)) (Or.inl (by omega))).trans rfl) ?_
      have b26 := hK 3 i2
      refine v_isub dX7_ranked_49 ?_
      refine v_istore dX7_ranked_50 rfl (by decide) ?_
      refine v_ls (ls2 := [some (.ref m), some (.int x), some (.int (nI i2)), some (.int (nI (cnt (fun z => decide (flA C z i2)) i17))), some (.int (nI i17)), some (.int (nI (C 3 i17) - nI (C 3 i2)))]) rfl ?_
      refine v_iload dX7_ranked_52 rfl ?_
      refine v_if_eq (tgt := 62) dX7_ranked_54 (by decide) (fun c27 => ?_) (fun c27 => ?_)
      · rw [sub_eq0 (by omega) (by omega)] at c27
        refine v_aload_n dX7_ranked_62 rfl ?_
        refine fX7_7 (v := .ref (m + 1)) rfl dX7_ranked_63 ho rfl ?_
        refine v_iload dX7_ranked_66 rfl ?_
        refine v_iconst (v := nI 1) dX7_ranked_68 (by decide) ?_
        refine v_callS (st := [.ref (m + 1)]) dX7_ranked_69 (t_X7_at (f := i17) (w := 1)) wX7_63 rfl ⟨Nat.le_of_ble_eq_true rfl, Nat.le_of_ble_eq_true rfl⟩ (Nat.le_of_ble_eq_true rfl) ⟨Nat.le_of_ble_eq_true rfl, Nat.le_of_ble_eq_true rfl⟩ (fun r n2 h2 hq => ?_)
        obtain ⟨rfl, hn9, hh9⟩ := hq; replace hn9 := hn9.symm; subst hn9; replace hh9 := hh9.symm; subst hh9
        refine v_st (st2 := [.int (nI (10 + 6 * i17 + 1)), .ref (m + 1)]) rfl ?_
        refine n_ialdv (f := vO C) (j := 10 + 6 * i17 + 1) (y := C 2 i17) dX7_ranked_72 hv (by omega) (by decide) ((vrd (C := C) (lgF (f := i17) (w := 1) (by omega) (by decide)) (Or.inl (by omega))).trans rfl) ?_
        have b28 := hK 2 i17
        refine v_aload_n dX7_ranked_73 rfl ?_
        refine fX7_7 (v := .ref (m + 1)) rfl dX7_ranked_74 ho rfl ?_
        refine v_iload_n dX7_ranked_77 rfl ?_
        refine v_iconst (v := nI 1) dX7_ranked_78 (by decide) ?_
        refine v_callS (st := [.ref (m + 1), .int (nI (C 2 i17))]) dX7_ranked_79 (t_X7_at (f := i2) (w := 1)) wX7_63 rfl ⟨Nat.le_of_ble_eq_true rfl, Nat.le_of_ble_eq_true rfl⟩ (Nat.le_of_ble_eq_true rfl) ⟨Nat.le_of_ble_eq_true rfl, Nat.le_of_ble_eq_true rfl⟩ (fun r n2 h2 hq => ?_)
        obtain ⟨rfl, hn9, hh9⟩ := hq; replace hn9 := hn9.symm; subst hn9; replace hh9 := hh9.symm; subst hh9
        refine v_st (st2 := [.int (nI (10 + 6 * i2 + 1)), .ref (m + 1), .int (nI (C 2 i17))]) rfl ?_
        refine n_ialdv (f := vO C) (j := 10 + 6 * i2 + 1) (y := C 2 i2) dX7_ranked_82 hv (by omega) (by decide) ((vrd (C := C) (lgF (f := i2) (w := 1) (by omega) (by decide)) (Or.inl (by omega))).trans rfl) ?_
        have b29 := hK 2 i2
        refine v_isub dX7_ranked_83 ?_
        refine v_istore dX7_ranked_84 rfl (by decide) ?_
        refine v_ls (ls2 := [some (.ref m), some (.int x), some (.int (nI i2)), some (.int (nI (cnt (fun z => decide (flA C z i2)) i17))), some (.int (nI i17)), some (.int (nI (C 2 i17) - nI (C 2 i2)))]) rfl ?_
        refine v_iload_n dX7_ranked_86 rfl ?_
        refine v_iload dX7_ranked_87 rfl ?_
        refine v_iload_n dX7_ranked_89 rfl ?_
        refine n_icmp_eq (tgt := 113) (x := i17) (y := i2) dX7_ranked_90 (by decide) (by omega) (by omega) (fun c30 => ?_) (fun c30 => ?_)
        · refine v_iconst (v := nI 0) dX7_ranked_113 (by decide) ?_
          refine n_iadd (x := cnt (fun z => decide (flA C z i2)) i17) (y := 0) dX7_ranked_114 ?_
          refine v_st (st2 := [.int (nI (cnt (fun z => decide (flA C z i2)) i17))]) rfl ?_
          refine v_istore_n dX7_ranked_115 rfl (by decide) ?_
          refine v_ls (ls2 := [some (.ref m), some (.int x), some (.int (nI i2)), some (.int (nI (cnt (fun z => decide (flA C z i2)) i17))), some (.int (nI i17)), some (.int (nI (C 2 i17) - nI (C 2 i2)))]) rfl ?_
          refine n_iinc (k := 1) (x := i17) dX7_ranked_116 (by decide) rfl rfl (by decide) ?_
          refine v_ls (ls2 := [some (.ref m), some (.int x), some (.int (nI i2)), some (.int (nI (cnt (fun z => decide (flA C z i2)) i17))), some (.int (nI (i17 + 1))), some (.int (nI (C 2 i17) - nI (C 2 i2)))]) rfl ?_
          refine v_goto (tgt := 17) dX7_ranked_119 (by decide) ?_
          refine v_forget 5 ?_
          refine v_ls (ls2 := [some (.ref m), some (.int x), some (.int (nI i2)), some (.int (nI (cnt (fun z => decide (flA C z i2)) ((i17 + 1))))), some (.int (nI ((i17 + 1)))), none]) ?_ (ih17 (by omega) trivial)
          rw [cnt_f (decide_eq_false (by unfold flA; first | (split <;> (try split) <;> omega) | (subst_vars; split <;> (try split) <;> omega)))]
          first | done | rfl
        · refine v_iload dX7_ranked_93 rfl ?_
          refine v_if_gt (tgt := 109) dX7_ranked_95 (by decide) (fun c31 => ?_) (fun c31 => ?_)
          · rw [sub_gt0 (by omega) (by omega)] at c31
            refine v_iconst (v := nI 1) dX7_ranked_109 (by decide) ?_
            refine v_goto (tgt := 114) dX7_ranked_110 (by decide) ?_
            refine n_iadd (x := cnt (fun z => decide (flA C z i2)) i17) (y := 1) dX7_ranked_114 ?_
            refine v_istore_n dX7_ranked_115 rfl (by decide) ?_
            refine v_ls (ls2 := [some (.ref m), some (.int x), some (.int (nI i2)), some (.int (nI ((cnt (fun z => decide (flA C z i2)) i17) + 1))), some (.int (nI i17)), some (.int (nI (C 2 i17) - nI (C 2 i2)))]) rfl ?_
            refine n_iinc (k := 1) (x := i17) dX7_ranked_116 (by decide) rfl rfl (by decide) ?_
            refine v_ls (ls2 := [some (.ref m), some (.int x), some (.int (nI i2)), some (.int (nI ((cnt (fun z => decide (flA C z i2)) i17) + 1))), some (.int (nI (i17 + 1))), some (.int (nI (C 2 i17) - nI (C 2 i2)))]) rfl ?_
            refine v_goto (tgt := 17) dX7_ranked_119 (by decide) ?_
            refine v_forget 5 ?_
            refine v_ls (ls2 := [some (.ref m), some (.int x), some (.int (nI i2)), some (.int (nI (cnt (fun z => decide (flA C z i2)) ((i17 + 1))))), some (.int (nI ((i17 + 1)))), none]) ?_ (ih17 (by omega) trivial)
            rw [cnt_t (decide_eq_true (by unfold flA; first | (split <;> (try split) <;> omega) | (subst_vars; split <;> (try split) <;> omega)))]
            first | done | rfl
          · rw [sub_gt0 (by omega) (by omega)] at c31
            refine v_iload dX7_ranked_98 rfl ?_
            refine v_if_ne (tgt := 113) dX7_ranked_100 (by decide) (fun c32 => ?_) (fun c32 => ?_)
            · rw [sub_eq0 (by omega) (by omega)] at c32
              refine v_iconst (v := nI 0) dX7_ranked_113 (by decide) ?_
              refine n_iadd (x := cnt (fun z => decide (flA C z i2)) i17) (y := 0) dX7_ranked_114 ?_
              refine v_st (st2 := [.int (nI (cnt (fun z => decide (flA C z i2)) i17))]) rfl ?_
              refine v_istore_n dX7_ranked_115 rfl (by decide) ?_
              refine v_ls (ls2 := [some (.ref m), some (.int x), some (.int (nI i2)), some (.int (nI (cnt (fun z => decide (flA C z i2)) i17))), some (.int (nI i17)), some (.int (nI (C 2 i17) - nI (C 2 i2)))]) rfl ?_
              refine n_iinc (k := 1) (x := i17) dX7_ranked_116 (by decide) rfl rfl (by decide) ?_
              refine v_ls (ls2 := [some (.ref m), some (.int x), some (.int (nI i2)), some (.int (nI (cnt (fun z => decide (flA C z i2)) i17))), some (.int (nI (i17 + 1))), some (.int (nI (C 2 i17) - nI (C 2 i2)))]) rfl ?_
              refine v_goto (tgt := 17) dX7_ranked_119 (by decide) ?_
              refine v_forget 5 ?_
              refine v_ls (ls2 := [some (.ref m), some (.int x), some (.int (nI i2)), some (.int (nI (cnt (fun z => decide (flA C z i2)) ((i17 + 1))))), some (.int (nI ((i17 + 1)))), none]) ?_ (ih17 (by omega) trivial)
              rw [cnt_f (decide_eq_false (by unfold flA; first | (split <;> (try split) <;> omega) | (subst_vars; split <;> (try split) <;> omega)))]
              first | done | rfl
            · rw [sub_eq0 (by omega) (by omega)] at c32
              refine v_iload dX7_ranked_103 rfl ?_
              refine v_iload_n dX7_ranked_105 rfl ?_
              refine n_icmp_ge (tgt := 113) (x := i17) (y := i2) dX7_ranked_106 (by decide) (by omega) (by omega) (fun c33 => ?_) (fun c33 => ?_)
              · refine v_iconst (v := nI 0) dX7_ranked_113 (by decide) ?_
                refine n_iadd (x := cnt (fun z => decide (flA C z i2)) i17) (y := 0) dX7_ranked_114 ?_
                refine v_st (st2 := [.int (nI (cnt (fun z => decide (flA C z i2)) i17))]) rfl ?_
                refine v_istore_n dX7_ranked_115 rfl (by decide) ?_
                refine v_ls (ls2 := [some (.ref m), some (.int x), some (.int (nI i2)), some (.int (nI (cnt (fun z => decide (flA C z i2)) i17))), some (.int (nI i17)), some (.int (nI (C 2 i17) - nI (C 2 i2)))]) rfl ?_
                refine n_iinc (k := 1) (x := i17) dX7_ranked_116 (by decide) rfl rfl (by decide) ?_
                refine v_ls (ls2 := [some (.ref m), some (.int x), some (.int (nI i2)), some (.int (nI (cnt (fun z => decide (flA C z i2)) i17))), some (.int (nI (i17 + 1))), some (.int (nI (C 2 i17) - nI (C 2 i2)))]) rfl ?_
                refine v_goto (tgt := 17) dX7_ranked_119 (by decide) ?_
                refine v_forget 5 ?_
                refine v_ls (ls2 := [some (.ref m), some (.int x), some (.int (nI i2)), some (.int (nI (cnt (fun z => decide (flA C z i2)) ((i17 + 1))))), some (.int (nI ((i17 + 1)))), none]) ?_ (ih17 (by omega) trivial)
                rw [cnt_f (decide_eq_false (by unfold flA; first | (split <;> (try split) <;> omega) | (subst_vars; split <;> (try split) <;> omega)))]
                first | done | rfl
              · refine v_iconst (v := nI 1) dX7_ranked_109 (by decide) ?_
                refine v_goto (tgt := 114) dX7_ranked_110 (by decide) ?_
                refine n_iadd (x := cnt (fun z => decide (flA C z i2)) i17) (y := 1) dX7_ranked_114 ?_
                refine v_istore_n dX7_ranked_115 rfl (by decide) ?_
                refine v_ls (ls2 := [some (.ref m), some (.int x), some (.int (nI i2)), some (.int (nI ((cnt (fun z => decide (flA C z i2)) i17) + 1))), some (.int (nI i17)), some (.int (nI (C 2 i17) - nI (C 2 i2)))]) rfl ?_
                refine n_iinc (k := 1) (x := i17) dX7_ranked_116 (by decide) rfl rfl (by decide) ?_
                refine v_ls (ls2 := [some (.ref m), some (.int x), some (.int (nI i2)), some (.int (nI ((cnt (fun z => decide (flA C z i2)) i17) + 1))), some (.int (nI (i17 + 1))), some (.int (nI (C 2 i17) - nI (C 2 i2)))]) rfl ?_
                refine v_goto (tgt := 17) dX7_ranked_119 (by decide) ?_
                refine v_forget 5 ?_
                refine v_ls (ls2 := [some (.ref m), some (.int x), some (.int (nI i2)), some (.int (nI (cnt (fun z => decide (flA C z i2)) ((i17 + 1))))), some (.int (nI ((i17 + 1)))), none]) ?_ (ih17 (by omega) trivial)
                rw [cnt_t (decide_eq_true (by unfold flA; first | (split <;> (try split) <;> omega) | (subst_vars; split <;> (try split) <;> omega)))]
                first | done | rfl
      · rw [sub_eq0 (by omega) (by omega)] at c27
        refine v_iload dX7_ranked_57 rfl ?_
        refine v_goto (tgt := 84) dX7_ranked_59 (by decide) ?_
        refine v_istore dX7_ranked_84 rfl (by decide) ?_
        refine v_ls (ls2 := [some (.ref m), some (.int x), some (.int (nI i2)), some (.int (nI (cnt (fun z => decide (flA C z i2)) i17))), some (.int (nI i17)), some (.int (nI (C 3 i17) - nI (C 3 i2)))]) rfl ?_
        refine v_iload_n dX7_ranked_86 rfl ?_
        refine v_iload dX7_ranked_87 rfl ?_
        refine v_iload_n dX7_ranked_89 rfl ?_
        refine n_icmp_eq (tgt := 113) (x := i17) (y := i2) dX7_ranked_90 (by decide) (by omega) (by omega) (fun c34 => ?_) (fun c34 => ?_)
        · refine v_iconst (v := nI 0) dX7_ranked_113 (by decide) ?_
          refine n_iadd (x := cnt (fun z => decide (flA C z i2)) i17) (y := 0) dX7_ranked_114 ?_
          refine v_st (st2 := [.int (nI (cnt (fun z => decide (flA C z i2)) i17))]) rfl ?_
          refine v_istore_n dX7_ranked_115 rfl (by decide) ?_
          refine v_ls (ls2 := [some (.ref m), some (.int x), some (.int (nI i2)), some (.int (nI (cnt (fun z => decide (flA C z i2)) i17))), some (.int (nI i17)), some (.int (nI (C 3 i17) - nI (C 3 i2)))]) rfl ?_
          refine n_iinc (k := 1) (x := i17) dX7_ranked_116 (by decide) rfl rfl (by decide) ?_
          refine v_ls (ls2 := [some (.ref m), some (.int x), some (.int (nI i2)), some (.int (nI (cnt (fun z => decide (flA C z i2)) i17))), some (.int (nI (i17 + 1))), some (.int (nI (C 3 i17) - nI (C 3 i2)))]) rfl ?_
          refine v_goto (tgt := 17) dX7_ranked_119 (by decide) ?_
          refine v_forget 5 ?_
          refine v_ls (ls2 := [some (.ref m), some (.int x), some (.int (nI i2)), some (.int (nI (cnt (fun z => decide (flA C z i2)) ((i17 + 1))))), some (.int (nI ((i17 + 1)))), none]) ?_ (ih17 (by omega) trivial)
          rw [cnt_f (decide_eq_false (by unfold flA; first | (split <;> (try split) <;> omega) | (subst_vars; split <;> (try split) <;> omega)))]
          first | done | rfl
        · refine v_iload dX7_ranked_93 rfl ?_
          refine v_if_gt (tgt := 109) dX7_ranked_95 (by decide) (fun c35 => ?_) (fun c35 => ?_)
          · rw [sub_gt0 (by omega) (by omega)] at c35
            refine v_iconst (v := nI 1) dX7_ranked_109 (by decide) ?_
            refine v_goto (tgt := 114) dX7_ranked_110 (by decide) ?_
            refine n_iadd (x := cnt (fun z => decide (flA C z i2)) i17) (y := 1) dX7_ranked_114 ?_
            refine v_istore_n dX7_ranked_115 rfl (by decide) ?_
            refine v_ls (ls2 := [some (.ref m), some (.int x), some (.int (nI i2)), some (.int (nI ((cnt (fun z => decide (flA C z i2)) i17) + 1))), some (.int (nI i17)), some (.int (nI (C 3 i17) - nI (C 3 i2)))]) rfl ?_
            refine n_iinc (k := 1) (x := i17) dX7_ranked_116 (by decide) rfl rfl (by decide) ?_
            refine v_ls (ls2 := [some (.ref m), some (.int x), some (.int (nI i2)), some (.int (nI ((cnt (fun z => decide (flA C z i2)) i17) + 1))), some (.int (nI (i17 + 1))), some (.int (nI (C 3 i17) - nI (C 3 i2)))]) rfl ?_
            refine v_goto (tgt := 17) dX7_ranked_119 (by decide) ?_
            refine v_forget 5 ?_
            refine v_ls (ls2 := [some (.ref m), some (.int x), some (.int (nI i2)), some (.int (nI (cnt (fun z => decide (flA C z i2)) ((i17 + 1))))), some (.int (nI ((i17 + 1)))), none]) ?_ (ih17 (by omega) trivial)
            rw [cnt_t (decide_eq_true (by unfold flA; first | (split <;> (try split) <;> omega) | (subst_vars; split <;> (try split) <;> omega)))]
            first | done | rfl
          · rw [sub_gt0 (by omega) (by omega)] at c35
            refine v_iload dX7_ranked_98 rfl ?_
            refine v_if_ne (tgt := 113) dX7_ranked_100 (by decide) (fun c36 => ?_) (fun c36 => ?_)
            · rw [sub_eq0 (by omega) (by omega)] at c36
              refine v_iconst (v := nI 0) dX7_ranked_113 (by decide) ?_
              refine n_iadd (x := cnt (fun z => decide (flA C z i2)) i17) (y := 0) dX7_ranked_114 ?_
              refine v_st (st2 := [.int (nI (cnt (fun z => decide (flA C z i2)) i17))]) rfl ?_
              refine v_istore_n dX7_ranked_115 rfl (by decide) ?_
              refine v_ls (ls2 := [some (.ref m), some (.int x), some (.int (nI i2)), some (.int (nI (cnt (fun z => decide (flA C z i2)) i17))), some (.int (nI i17)), some (.int (nI (C 3 i17) - nI (C 3 i2)))]) rfl ?_
              refine n_iinc (k := 1) (x := i17) dX7_ranked_116 (by decide) rfl rfl (by decide) ?_
              refine v_ls (ls2 := [some (.ref m), some (.int x), some (.int (nI i2)), some (.int (nI (cnt (fun z => decide (flA C z i2)) i17))), some (.int (nI (i17 + 1))), some (.int (nI (C 3 i17) - nI (C 3 i2)))]) rfl ?_
              refine v_goto (tgt := 17) dX7_ranked_119 (by decide) ?_
              refine v_forget 5 ?_
              refine v_ls (ls2 := [some (.ref m), some (.int x), some (.int (nI i2)), some (.int (nI (cnt (fun z => decide (flA C z i2)) ((i17 + 1))))), some (.int (nI ((i17 + 1)))), none]) ?_ (ih17 (by omega) trivial)
              rw [cnt_f (decide_eq_false (by unfold flA; first | (split <;> (try split) <;> omega) | (subst_vars; split <;> (try split) <;> omega)))]
              first | done | rfl
            · rw [sub_eq0 (by omega) (by omega)] at c36
              refine v_iload dX7_ranked_103 rfl ?_
              refine v_iload_n dX7_ranked_105 rfl ?_
              refine n_icmp_ge (tgt := 113) (x := i17) (y := i2) dX7_ranked_106 (by decide) (by omega) (by omega) (fun c37 => ?_) (fun c37 => ?_)
              · refine v_iconst (v := nI 0) dX7_ranked_113 (by decide) ?_
                refine n_iadd (x := cnt (fun z => decide (flA C z i2)) i17) (y := 0) dX7_ranked_114 ?_
                refine v_st (st2 := [.int (nI (cnt (fun z => decide (flA C z i2)) i17))]) rfl ?_
                refine v_istore_n dX7_ranked_115 rfl (by decide) ?_
                refine v_ls (ls2 := [some (.ref m), some (.int x), some (.int (nI i2)), some (.int (nI (cnt (fun z => decide (flA C z i2)) i17))), some (.int (nI i17)), some (.int (nI (C 3 i17) - nI (C 3 i2)))]) rfl ?_
                refine n_iinc (k := 1) (x := i17) dX7_ranked_116 (by decide) rfl rfl (by decide) ?_
                refine v_ls (ls2 := [some (.ref m), some (.int x), some (.int (nI i2)), some (.int (nI (cnt (fun z => decide (flA C z i2)) i17))), some (.int (nI (i17 + 1))), some (.int (nI (C 3 i17) - nI (C 3 i2)))]) rfl ?_
                refine v_goto (tgt := 17) dX7_ranked_119 (by decide) ?_
                refine v_forget 5 ?_
                refine v_ls (ls2 := [some (.ref m), some (.int x), some (.int (nI i2)), some (.int (nI (cnt (fun z => decide (flA C z i2)) ((i17 + 1))))), some (.int (nI ((i17 + 1)))), none]) ?_ (ih17 (by omega) trivial)
                rw [cnt_f (decide_eq_false (by unfold flA; first | (split <;> (try split) <;> omega) | (subst_vars; split <;> (try split) <;> omega)))]
                first | done | rfl
              · refine v_iconst (v := nI 1) dX7_ranked_109 (by decide) ?_
                refine v_goto (tgt := 114) dX7_ranked_110 (by decide) ?_
                refine n_iadd (x := cnt (fun z => decide (flA C z i2)) i17) (y := 1) dX7_ranked_114 ?_
                refine v_istore_n dX7_ranked_115 rfl (by decide) ?_
                refine v_ls (ls2 := [some (.ref m), some (.int x), some (.int (nI i2)), some (.int (nI ((cnt (fun z => decide (flA C z i2)) i17) + 1))), some (.int (nI i17)), some (.int (nI (C 3 i17) - nI (C 3 i2)))]) rfl ?_
                refine n_iinc (k := 1) (x := i17) dX7_ranked_116 (by decide) rfl rfl (by decide) ?_
                refine v_ls (ls2 := [some (.ref m), some (.int x), some (.int (nI i2)), some (.int (nI ((cnt (fun z => decide (flA C z i2)) i17) + 1))), some (.int (nI (i17 + 1))), some (.int (nI (C 3 i17) - nI (C 3 i2)))]) rfl ?_
                refine v_goto (tgt := 17) dX7_ranked_119 (by decide) ?_
                refine v_forget 5 ?_
                refine v_ls (ls2 := [some (.ref m), some (.int x), some (.int (nI i2)), some (.int (nI (cnt (fun z => decide (flA C z i2)) ((i17 + 1))))), some (.int (nI ((i17 + 1)))), none]) ?_ (ih17 (by omega) trivial)
                rw [cnt_t (decide_eq_true (by unfold flA; first | (split <;> (try split) <;> omega) | (subst_vars; split <;> (try split) <;> omega)))]
                first | done | rfl
theorem tlS_bd30 {C : Ct} (hB : bd C) (j : Nat) : tlS C j < 2 ^ 30 + 1 := by
  have := sm_le (f := fun t => C 10 (j * 4 + t)) (b := 2 ^ 28) (n := 4) (fun k _ => Nat.le_of_lt (hB 10 _))
  unfold tlS
  omega
theorem tlS_b {b : Nat} {C : Ct} (hK : bdk b C) (hb : b ≤ 2 ^ 27) (j : Nat) : tlS C j < 2 ^ 30 := by
  have := sm_le (f := fun t => C 10 (j * 4 + t)) (b := 2 ^ 27) (n := 4) (fun k _ => Nat.le_of_lt (Nat.lt_of_lt_of_le (hK 10 _) hb))
  unfold tlS
  omega
set_option maxRecDepth 20000 in
set_option maxHeartbeats 4000000 in
theorem t_X7_stalest {l : Launch} {G : vG} {h : AH} {n : Nat} {x : Int32} {m ch sv tn hr en ln wg dg : Nat} {fl wy dt : Int32} {b : Nat} {C : Ct} (ho : h m = some (mo m ch sv tn hr en ln wg dg fl wy dt)) (hv : h (m + 1) = some (ar G 182 (vO C))) (hK : bdk b C) (hb2 : b + 5000 ≤ 2 ^ 27) (hI : Iv C) : Mt l G mX7_stalest [.ref m, .int x] (n) h 0 0 (fun r n2 h2 => r = some (.int (oN (-1011) (fs (fun z => decide (nI (jkN C z) = x)) 0 (C 0 1)))) ∧ n2 = n ∧ h2 = h) := by
  refine Mt.of (by decide) (Nat.le_of_ble_eq_true rfl) rfl ?_
  refine v_ls (ls2 := [some (.ref m), some (.int x), none, none, none, none]) rfl ?_
  have hB := hK.bd (by omega)
  obtain ⟨hF, hJ, hn, hs1, hc99, hs4, hs7, hs8, hs15, hbk9, hs9⟩ := hI.1
  have b00 := hB 0 0
  have b01 := hB 0 1
  have b02 := hB 0 2
  have b03 := hB 0 3
  have hb27 : b ≤ 2 ^ 27 := by omega
  refine v_iconst (v := nI 0) dX7_stalest_0 (by decide) ?_
  refine v_istore_n dX7_stalest_1 rfl (by decide) ?_
  refine v_ls (ls2 := [some (.ref m), some (.int x), some (.int (nI 0)), none, none, none]) rfl ?_
  refine loopV (fun i2 => [some (.ref m), some (.int x), some (.int (nI i2)), none, none, none]) (fun i2 => fs (fun z => decide (nI (jkN C z) = x)) 0 (C 0 1) = fs (fun z => decide (nI (jkN C z) = x)) i2 (C 0 1 - i2)) (N := C 0 1) 0 (by omega) rfl rfl (fun i2 hi2 hp2 ih2 => ?_)
  refine v_iload_n dX7_stalest_2 rfl ?_
  refine v_aload_n dX7_stalest_3 rfl ?_
  refine fX7_7 (v := .ref (m + 1)) rfl dX7_stalest_4 ho rfl ?_
  refine v_iconst (v := nI 1) dX7_stalest_7 (by decide) ?_
  refine n_ialdv (f := vO C) (j := 1) (y := C 0 1) dX7_stalest_8 hv (by omega) (by decide) ((vrd (C := C) lgn1 (Or.inl (by decide))).trans rfl) ?_
  have b21 := hK 0 1
  refine n_icmp_ge (tgt := 125) (x := i2) (y := C 0 1) dX7_stalest_9 (by decide) (by omega) (by omega) (fun c22 => ?_) (fun c22 => ?_)
  · refine v_sipush (v := (-1011)) dX7_stalest_125 (by decide) ?_
    refine v_iret dX7_stalest_128 rfl ?_ (Nat.le_of_ble_eq_true rfl) (Nat.le_of_ble_eq_true rfl)
    exact ⟨by rw [hp2, fs_end (by omega)]; rfl, rfl, rfl⟩
  · refine v_iconst (v := nI 0) dX7_stalest_12 (by decide) ?_
    refine v_istore_n dX7_stalest_13 rfl (by decide) ?_
    refine v_ls (ls2 := [some (.ref m), some (.int x), some (.int (nI i2)), some (.int (nI 0)), none, none]) rfl ?_
    refine v_iconst (v := nI 0) dX7_stalest_14 (by decide) ?_
    refine v_istore dX7_stalest_15 rfl (by decide) ?_
    refine v_ls (ls2 := [some (.ref m), some (.int x), some (.int (nI i2)), some (.int (nI 0)), some (.int (nI 0)), none]) rfl ?_
    refine loopV (fun i17 => [some (.ref m), some (.int x), some (.int (nI i2)), some (.int (nI (cnt (fun z => decide (jkA C z i2)) i17))), some (.int (nI i17)), none]) (fun i17 => True) (N := C 0 1) 0 (by omega) rfl trivial (fun i17 hi17 hp17 ih17 => ?_)
    refine v_iload dX7_stalest_17 rfl ?_
    refine v_aload_n dX7_stalest_19 rfl ?_
    refine fX7_7 (v := .ref (m + 1)) rfl dX7_stalest_20 ho rfl ?_
    refine v_iconst (v := nI 1) dX7_stalest_23 (by decide) ?_
    refine n_ialdv (f := vO C) (j := 1) (y := C 0 1) dX7_stalest_24 hv (by omega) (by decide) ((vrd (C := C) lgn1 (Or.inl (by decide))).trans rfl) ?_
    refine n_icmp_ge (tgt := 112) (x := i17) (y := C 0 1) dX7_stalest_25 (by decide) (by omega) (by omega) (fun c23 => ?_) (fun c23 => ?_)
    · have e : i17 = C 0 1 := by omega
      subst e
      refine v_ls (ls2 := [some (.ref m), some (.int x), some (.int (nI i2)), some (.int (nI (jkN C i2))), some (.int (nI (C 0 1))), none]) rfl ?_
      refine v_iload_n dX7_stalest_112 rfl ?_
      refine v_iload_n dX7_stalest_113 rfl ?_
      refine v_icmp_ne (tgt := 119) dX7_stalest_114 (by decide) (fun c24 => ?_) (fun c24 => ?_)
      · refine n_iinc (k := 1) (x := i2) dX7_stalest_119 (by decide) rfl rfl (by decide) ?_
        refine v_ls (ls2 := [some (.ref m), some (.int x), some (.int (nI (i2 + 1))), some (.int (nI (jkN C i2))), some (.int (nI (C 0 1))), none]) rfl ?_
        refine v_goto (tgt := 2) dX7_stalest_122 (by decide) ?_
        refine v_forget 3 ?_
        refine v_forget 4 ?_
        exact ih2 (by omega) (hp2.trans (fs_step (by omega) (decide_eq_false (by assumption))))
      · refine v_iload_n dX7_stalest_117 rfl ?_
        refine v_iret dX7_stalest_118 rfl ?_ (Nat.le_of_ble_eq_true rfl) (Nat.le_of_ble_eq_true rfl)
        exact ⟨by rw [hp2, fs_hit (by omega) (decide_eq_true (by assumption))]; rfl, rfl, rfl⟩
    · refine v_aload_n dX7_stalest_28 rfl ?_
      refine v_iload dX7_stalest_29 rfl ?_
      refine v_callV (st := []) dX7_stalest_31 (t_X7_tellings (j := i17) ho hv hK (by omega) (by omega)) wX7_110 ho rfl rfl ⟨Nat.le_of_ble_eq_true rfl, Nat.le_of_ble_eq_true rfl⟩ (Nat.le_of_ble_eq_true rfl) ⟨Nat.le_of_ble_eq_true rfl, Nat.le_of_ble_eq_true rfl⟩ (fun r n2 h2 hq => ?_)
      obtain ⟨rfl, hn9, hh9⟩ := hq; replace hn9 := hn9.symm; subst hn9; replace hh9 := hh9.symm; subst hh9
      have bt25 := tlS_b hK hb27 i17
      refine v_st (st2 := [.int (nI (tlS C i17))]) rfl ?_
      refine v_aload_n dX7_stalest_34 rfl ?_
      refine v_iload_n dX7_stalest_35 rfl ?_
      refine v_callV (st := [.int (nI (tlS C i17))]) dX7_stalest_36 (t_X7_tellings (j := i2) ho hv hK (by omega) (by omega)) wX7_110 ho rfl rfl ⟨Nat.le_of_ble_eq_true rfl, Nat.le_of_ble_eq_true rfl⟩ (Nat.le_of_ble_eq_true rfl) ⟨Nat.le_of_ble_eq_true rfl, Nat.le_of_ble_eq_true rfl⟩ (fun r n2 h2 hq => ?_)
      obtain ⟨rfl, hn9, hh9⟩ := hq; replace hn9 := hn9.symm; subst hn9; replace hh9 := hh9.symm; subst hh9
      have bt26 := tlS_b hK hb27 i2
      refine v_st (st2 := [.int (nI (tlS C i2)), .int (nI (tlS C i17))]) rfl ?_
      refine v_isub dX7_stalest_39 ?_
      refine v_istore dX7_stalest_40 rfl (by decide) ?_
      refine v_ls (ls2 := [some (.ref m), some (.int x), some (.int (nI i2)), some (.int (nI (cnt (fun z => decide (jkA C z i2)) i17))), some (.int (nI i17)), some (.int (nI (tlS C i17) - nI (tlS C i2)))]) rfl ?_
      refine v_iload dX7_stalest_42 rfl ?_
      refine v_if_eq (tgt := 52) dX7_stalest_44 (by decide) (fun c27 => ?_) (fun c27 => ?_)
      · rw [sub_eq0 (by omega) (by omega)] at c27
        refine v_aload_n dX7_stalest_52 rfl ?_
        refine fX7_7 (v := .ref (m + 1)) rfl dX7_stalest_53 ho rfl ?_
        refine v_iload dX7_stalest_56 rfl ?_
        refine v_iconst (v := nI 0) dX7_stalest_58 (by decide) ?_
        refine v_callS (st := [.ref (m + 1)]) dX7_stalest_59 (t_X7_in (f := i17) (w := 0)) wX7_56 rfl ⟨Nat.le_of_ble_eq_true rfl, Nat.le_of_ble_eq_true rfl⟩ (Nat.le_of_ble_eq_true rfl) ⟨Nat.le_of_ble_eq_true rfl, Nat.le_of_ble_eq_true rfl⟩ (fun r n2 h2 hq => ?_)
        obtain ⟨rfl, hn9, hh9⟩ := hq; replace hn9 := hn9.symm; subst hn9; replace hh9 := hh9.symm; subst hh9
        refine v_st (st2 := [.int (nI (46 + 3 * i17 + 0)), .ref (m + 1)]) rfl ?_
        refine n_ialdv (f := vO C) (j := 46 + 3 * i17 + 0) (y := C 7 i17) dX7_stalest_62 hv (by omega) (by decide) ((vrd (C := C) (lgJ (f := i17) (w := 0) (by omega) (by decide)) (Or.inl (by omega))).trans rfl) ?_
        have b28 := hK 7 i17
        refine v_aload_n dX7_stalest_63 rfl ?_
        refine fX7_7 (v := .ref (m + 1)) rfl dX7_stalest_64 ho rfl ?_
        refine v_iload_n dX7_stalest_67 rfl ?_
        refine v_iconst (v := nI 0) dX7_stalest_68 (by decide) ?_
        refine v_callS (st := [.ref (m + 1), .int (nI (C 7 i17))]) dX7_stalest_69 (t_X7_in (f := i2) (w := 0)) wX7_56 rfl ⟨Nat.le_of_ble_eq_true rfl, Nat.le_of_ble_eq_true rfl⟩ (Nat.le_of_ble_eq_true rfl) ⟨Nat.le_of_ble_eq_true rfl, Nat.le_of_ble_eq_true rfl⟩ (fun r n2 h2 hq => ?_)
        obtain ⟨rfl, hn9, hh9⟩ := hq; replace hn9 := hn9.symm; subst hn9; replace hh9 := hh9.symm; subst hh9
        refine v_st (st2 := [.int (nI (46 + 3 * i2 + 0)), .ref (m + 1), .int (nI (C 7 i17))]) rfl ?_
        refine n_ialdv (f := vO C) (j := 46 + 3 * i2 + 0) (y := C 7 i2) dX7_stalest_72 hv (by omega) (by decide) ((vrd (C := C) (lgJ (f := i2) (w := 0) (by omega) (by decide)) (Or.inl (by omega))).trans rfl) ?_
        have b29 := hK 7 i2
        refine v_isub dX7_stalest_73 ?_
        refine v_istore dX7_stalest_74 rfl (by decide) ?_
        refine v_ls (ls2 := [some (.ref m), some (.int x), some (.int (nI i2)), some (.int (nI (cnt (fun z => decide (jkA C z i2)) i17))), some (.int (nI i17)), some (.int (nI (C 7 i17) - nI (C 7 i2)))]) rfl ?_
        refine v_iload_n dX7_stalest_76 rfl ?_
        refine v_iload dX7_stalest_77 rfl ?_
        refine v_iload_n dX7_stalest_79 rfl ?_
        refine n_icmp_eq (tgt := 103) (x := i17) (y := i2) dX7_stalest_80 (by decide) (by omega) (by omega) (fun c30 => ?_) (fun c30 => ?_)
        · refine v_iconst (v := nI 0) dX7_stalest_103 (by decide) ?_
          refine n_iadd (x := cnt (fun z => decide (jkA C z i2)) i17) (y := 0) dX7_stalest_104 ?_
          refine v_st (st2 := [.int (nI (cnt (fun z => decide (jkA C z i2)) i17))]) rfl ?_
          refine v_istore_n dX7_stalest_105 rfl (by decide) ?_
          refine v_ls (ls2 := [some (.ref m), some (.int x), some (.int (nI i2)), some (.int (nI (cnt (fun z => decide (jkA C z i2)) i17))), some (.int (nI i17)), some (.int (nI (C 7 i17) - nI (C 7 i2)))]) rfl ?_
          refine n_iinc (k := 1) (x := i17) dX7_stalest_106 (by decide) rfl rfl (by decide) ?_
          refine v_ls (ls2 := [some (.ref m), some (.int x), some (.int (nI i2)), some (.int (nI (cnt (fun z => decide (jkA C z i2)) i17))), some (.int (nI (i17 + 1))), some (.int (nI (C 7 i17) - nI (C 7 i2)))]) rfl ?_
          refine v_goto (tgt := 17) dX7_stalest_109 (by decide) ?_
          refine v_forget 5 ?_
          refine v_ls (ls2 := [some (.ref m), some (.int x), some (.int (nI i2)), some (.int (nI (cnt (fun z => decide (jkA C z i2)) ((i17 + 1))))), some (.int (nI ((i17 + 1)))), none]) ?_ (ih17 (by omega) trivial)
          rw [cnt_f (decide_eq_false (by unfold jkA; first | (split <;> (try split) <;> omega) | (subst_vars; split <;> (try split) <;> omega)))]
          first | done | rfl
        · refine v_iload dX7_stalest_83 rfl ?_
          refine v_if_gt (tgt := 99) dX7_stalest_85 (by decide) (fun c31 => ?_) (fun c31 => ?_)
          · rw [sub_gt0 (by omega) (by omega)] at c31
            refine v_iconst (v := nI 1) dX7_stalest_99 (by decide) ?_
            refine v_goto (tgt := 104) dX7_stalest_100 (by decide) ?_
            refine n_iadd (x := cnt (fun z => decide (jkA C z i2)) i17) (y := 1) dX7_stalest_104 ?_
            refine v_istore_n dX7_stalest_105 rfl (by decide) ?_
            refine v_ls (ls2 := [some (.ref m), some (.int x), some (.int (nI i2)), some (.int (nI ((cnt (fun z => decide (jkA C z i2)) i17) + 1))), some (.int (nI i17)), some (.int (nI (C 7 i17) - nI (C 7 i2)))]) rfl ?_
            refine n_iinc (k := 1) (x := i17) dX7_stalest_106 (by decide) rfl rfl (by decide) ?_
            refine v_ls (ls2 := [some (.ref m), some (.int x), some (.int (nI i2)), some (.int (nI ((cnt (fun z => decide (jkA C z i2)) i17) + 1))), some (.int (nI (i17 + 1))), some (.int (nI (C 7 i17) - nI (C 7 i2)))]) rfl ?_
            refine v_goto (tgt := 17) dX7_stalest_109 (by decide) ?_
            refine v_forget 5 ?_
            refine v_ls (ls2 := [some (.ref m), some (.int x), some (.int (nI i2)), some (.int (nI (cnt (fun z => decide (jkA C z i2)) ((i17 + 1))))), some (.int (nI ((i17 + 1)))), none]) ?_ (ih17 (by omega) trivial)
            rw [cnt_t (decide_eq_true (by unfold jkA; first | (split <;> (try split) <;> omega) | (subst_vars; split <;> (try split) <;> omega)))]
            first | done | rfl
          · rw [sub_gt0 (by omega) (by omega)] at c31
            refine v_iload dX7_stalest_88 rfl ?_
            refine v_if_ne (tgt := 103) dX7_stalest_90 (by decide) (fun c32 => ?_) (fun c32 => ?_)
            · rw [sub_eq0 (by omega) (by omega)] at c32
              refine v_iconst (v := nI 0) dX7_stalest_103 (by decide) ?_
              refine n_iadd (x := cnt (fun z => decide (jkA C z i2)) i17) (y := 0) dX7_stalest_104 ?_
              refine v_st (st2 := [.int (nI (cnt (fun z => decide (jkA C z i2)) i17))]) rfl ?_
              refine v_istore_n dX7_stalest_105 rfl (by decide) ?_
              refine v_ls (ls2 := [some (.ref m), some (.int x), some (.int (nI i2)), some (.int (nI (cnt (fun z => decide (jkA C z i2)) i17))), some (.int (nI i17)), some (.int (nI (C 7 i17) - nI (C 7 i2)))]) rfl ?_
              refine n_iinc (k := 1) (x := i17) dX7_stalest_106 (by decide) rfl rfl (by decide) ?_
              refine v_ls (ls2 := [some (.ref m), some (.int x), some (.int (nI i2)), some (.int (nI (cnt (fun z => decide (jkA C z i2)) i17))), some (.int (nI (i17 + 1))), some (.int (nI (C 7 i17) - nI (C 7 i2)))]) rfl ?_
              refine v_goto (tgt := 17) dX7_stalest_109 (by decide) ?_
              refine v_forget 5 ?_
              refine v_ls (ls2 := [some (.ref m), some (.int x), some (.int (nI i2)), some (.int (nI (cnt (fun z => decide (jkA C z i2)) ((i17 + 1))))), some (.int (nI ((i17 + 1)))), none]) ?_ (ih17 (by omega) trivial)
              rw [cnt_f (decide_eq_false (by unfold jkA; first | (split <;> (try split) <;> omega) | (subst_vars; split <;> (try split) <;> omega)))]
              first | done | rfl
            · rw [sub_eq0 (by omega) (by omega)] at c32
              refine v_iload dX7_stalest_93 rfl ?_
              refine v_iload_n dX7_stalest_95 rfl ?_
              refine n_icmp_ge (tgt := 103) (x := i17) (y := i2) dX7_stalest_96 (by decide) (by omega) (by omega) (fun c33 => ?_) (fun c33 => ?_)
              · refine v_iconst (v := nI 0) dX7_stalest_103 (by decide) ?_
                refine n_iadd (x := cnt (fun z => decide (jkA C z i2)) i17) (y := 0) dX7_stalest_104 ?_
                refine v_st (st2 := [.int (nI (cnt (fun z => decide (jkA C z i2)) i17))]) rfl ?_
                refine v_istore_n dX7_stalest_105 rfl (by decide) ?_
                refine v_ls (ls2 := [some (.ref m), some (.int x), some (.int (nI i2)), some (.int (nI (cnt (fun z => decide (jkA C z i2)) i17))), some (.int (nI i17)), some (.int (nI (C 7 i17) - nI (C 7 i2)))]) rfl ?_
                refine n_iinc (k := 1) (x := i17) dX7_stalest_106 (by decide) rfl rfl (by decide) ?_
                refine v_ls (ls2 := [some (.ref m), some (.int x), some (.int (nI i2)), some (.int (nI (cnt (fun z => decide (jkA C z i2)) i17))), some (.int (nI (i17 + 1))), some (.int (nI (C 7 i17) - nI (C 7 i2)))]) rfl ?_
                refine v_goto (tgt := 17) dX7_stalest_109 (by decide) ?_
                refine v_forget 5 ?_
                refine v_ls (ls2 := [some (.ref m), some (.int x), some (.int (nI i2)), some (.int (nI (cnt (fun z => decide (jkA C z i2)) ((i17 + 1))))), some (.int (nI ((i17 + 1)))), none]) ?_ (ih17 (by omega) trivial)
                rw [cnt_f (decide_eq_false (by unfold jkA; first | (split <;> (try split) <;> omega) | (subst_vars; split <;> (try split) <;> omega)))]
                first | done | rfl
              · refine v_iconst (v := nI 1) dX7_stalest_99 (by decide) ?_
                refine v_goto (tgt := 104) dX7_stalest_100 (by decide) ?_
                refine n_iadd (x := cnt (fun z => decide (jkA C z i2)) i17) (y := 1) dX7_stalest_104 ?_
                refine v_istore_n dX7_stalest_105 rfl (by decide) ?_
                refine v_ls (ls2 := [some (.ref m), some (.int x), some (.int (nI i2)), some (.int (nI ((cnt (fun z => decide (jkA C z i2)) i17) + 1))), some (.int (nI i17)), some (.int (nI (C 7 i17) - nI (C 7 i2)))]) rfl ?_
                refine n_iinc (k := 1) (x := i17) dX7_stalest_106 (by decide) rfl rfl (by decide) ?_
                refine v_ls (ls2 := [some (.ref m), some (.int x), some (.int (nI i2)), some (.int (nI ((cnt (fun z => decide (jkA C z i2)) i17) + 1))), some (.int (nI (i17 + 1))), some (.int (nI (C 7 i17) - nI (C 7 i2)))]) rfl ?_
                refine v_goto (tgt := 17) dX7_stalest_109 (by decide) ?_
                refine v_forget 5 ?_
                refine v_ls (ls2 := [some (.ref m), some (.int x), some (.int (nI i2)), some (.int (nI (cnt (fun z => decide (jkA C z i2)) ((i17 + 1))))), some (.int (nI ((i17 + 1)))), none]) ?_ (ih17 (by omega) trivial)
                rw [cnt_t (decide_eq_true (by unfold jkA; first | (split <;> (try split) <;> omega) | (subst_vars; split <;> (try split) <;> omega)))]
                first | done | rfl
      · rw [sub_eq0 (by omega) (by omega)] at c27
        refine v_iload dX7_stalest_47 rfl ?_
        refine v_goto (tgt := 74) dX7_stalest_49 (by decide) ?_
        refine v_istore dX7_stalest_74 rfl (by decide) ?_
        refine v_ls (ls2 := [some (.ref m), some (.int x), some (.int (nI i2)), some (.int (nI (cnt (fun z => decide (jkA C z i2)) i17))), some (.int (nI i17)), some (.int (nI (tlS C i17) - nI (tlS C i2)))]) rfl ?_
        refine v_iload_n dX7_stalest_76 rfl ?_
        refine v_iload dX7_stalest_77 rfl ?_
        refine v_iload_n dX7_stalest_79 rfl ?_
        refine n_icmp_eq (tgt := 103) (x := i17) (y := i2) dX7_stalest_80 (by decide) (by omega) (by omega) (fun c34 => ?_) (fun c34 => ?_)
        · refine v_iconst (v := nI 0) dX7_stalest_103 (by decide) ?_
          refine n_iadd (x := cnt (fun z => decide (jkA C z i2)) i17) (y := 0) dX7_stalest_104 ?_
          refine v_st (st2 := [.int (nI (cnt (fun z => decide (jkA C z i2)) i17))]) rfl ?_
          refine v_istore_n dX7_stalest_105 rfl (by decide) ?_
          refine v_ls (ls2 := [some (.ref m), some (.int x), some (.int (nI i2)), some (.int (nI (cnt (fun z => decide (jkA C z i2)) i17))), some (.int (nI i17)), some (.int (nI (tlS C i17) - nI (tlS C i2)))]) rfl ?_
          refine n_iinc (k := 1) (x := i17) dX7_stalest_106 (by decide) rfl rfl (by decide) ?_
          refine v_ls (ls2 := [some (.ref m), some (.int x), some (.int (nI i2)), some (.int (nI (cnt (fun z => decide (jkA C z i2)) i17))), some (.int (nI (i17 + 1))), some (.int (nI (tlS C i17) - nI (tlS C i2)))]) rfl ?_
          refine v_goto (tgt := 17) dX7_stalest_109 (by decide) ?_
          refine v_forget 5 ?_
          refine v_ls (ls2 := [some (.ref m), some (.int x), some (.int (nI i2)), some (.int (nI (cnt (fun z => decide (jkA C z i2)) ((i17 + 1))))), some (.int (nI ((i17 + 1)))), none]) ?_ (ih17 (by omega) trivial)
          rw [cnt_f (decide_eq_false (by unfold jkA; first | (split <;> (try split) <;> omega) | (subst_vars; split <;> (try split) <;> omega)))]
          first | done | rfl
        · refine v_iload dX7_stalest_83 rfl ?_
          refine v_if_gt (tgt := 99) dX7_stalest_85 (by decide) (fun c35 => ?_) (fun c35 => ?_)
          · rw [sub_gt0 (by omega) (by omega)] at c35
            refine v_iconst (v := nI 1) dX7_stalest_99 (by decide) ?_
            refine v_goto (tgt := 104) dX7_stalest_100 (by decide) ?_
            refine n_iadd (x := cnt (fun z => decide (jkA C z i2)) i17) (y := 1) dX7_stalest_104 ?_
            refine v_istore_n dX7_stalest_105 rfl (by decide) ?_
            refine v_ls (ls2 := [some (.ref m), some (.int x), some (.int (nI i2)), some (.int (nI ((cnt (fun z => decide (jkA C z i2)) i17) + 1))), some (.int (nI i17)), some (.int (nI (tlS C i17) - nI (tlS C i2)))]) rfl ?_
            refine n_iinc (k := 1) (x := i17) dX7_stalest_106 (by decide) rfl rfl (by decide) ?_
            refine v_ls (ls2 := [some (.ref m), some (.int x), some (.int (nI i2)), some (.int (nI ((cnt (fun z => decide (jkA C z i2)) i17) + 1))), some (.int (nI (i17 + 1))), some (.int (nI (tlS C i17) - nI (tlS C i2)))]) rfl ?_
            refine v_goto (tgt := 17) dX7_stalest_109 (by decide) ?_
            refine v_forget 5 ?_
            refine v_ls (ls2 := [some (.ref m), some (.int x), some (.int (nI i2)), some (.int (nI (cnt (fun z => decide (jkA C z i2)) ((i17 + 1))))), some (.int (nI ((i17 + 1)))), none]) ?_ (ih17 (by omega) trivial)
            rw [cnt_t (decide_eq_true (by unfold jkA; first | (split <;> (try split) <;> omega) | (subst_vars; split <;> (try split) <;> omega)))]
            first | done | rfl
          · rw [sub_gt0 (by omega) (by omega)] at c35
            refine v_iload dX7_stalest_88 rfl ?_
            refine v_if_ne (tgt := 103) dX7_stalest_90 (by decide) (fun c36 => ?_) (fun c36 => ?_)
            · rw [sub_eq0 (by omega) (by omega)] at c36
              refine v_iconst (v := nI 0) dX7_stalest_103 (by decide) ?_
              refine n_iadd (x := cnt (fun z => decide (jkA C z i2)) i17) (y := 0) dX7_stalest_104 ?_
              refine v_st (st2 := [.int (nI (cnt (fun z => decide (jkA C z i2)) i17))]) rfl ?_
              refine v_istore_n dX7_stalest_105 rfl (by decide) ?_
              refine v_ls (ls2 := [some (.ref m), some (.int x), some (.int (nI i2)), some (.int (nI (cnt (fun z => decide (jkA C z i2)) i17))), some (.int (nI i17)), some (.int (nI (tlS C i17) - nI (tlS C i2)))]) rfl ?_
              refine n_iinc (k := 1) (x := i17) dX7_stalest_106 (by decide) rfl rfl (by decide) ?_
              refine v_ls (ls2 := [some (.ref m), some (.int x), some (.int (nI i2)), some (.int (nI (cnt (fun z => decide (jkA C z i2)) i17))), some (.int (nI (i17 + 1))), some (.int (nI (tlS C i17) - nI (tlS C i2)))]) rfl ?_
              refine v_goto (tgt := 17) dX7_stalest_109 (by decide) ?_
              refine v_forget 5 ?_
              refine v_ls (ls2 := [some (.ref m), some (.int x), some (.int (nI i2)), some (.int (nI (cnt (fun z => decide (jkA C z i2)) ((i17 + 1))))), some (.int (nI ((i17 + 1)))), none]) ?_ (ih17 (by omega) trivial)
              rw [cnt_f (decide_eq_false (by unfold jkA; first | (split <;> (try split) <;> omega) | (subst_vars; split <;> (try split) <;> omega)))]
              first | done | rfl
            · rw [sub_eq0 (by omega) (by omega)] at c36
              refine v_iload dX7_stalest_93 rfl ?_
              refine v_iload_n dX7_stalest_95 rfl ?_
              refine n_icmp_ge (tgt := 103) (x := i17) (y := i2) dX7_stalest_96 (by decide) (by omega) (by omega) (fun c37 => ?_) (fun c37 => ?_)
              · refine v_iconst (v := nI 0) dX7_stalest_103 (by decide) ?_
                refine n_iadd (x := cnt (fun z => decide (jkA C z i2)) i17) (y := 0) dX7_stalest_104 ?_
                refine v_st (st2 := [.int (nI (cnt (fun z => decide (jkA C z i2)) i17))]) rfl ?_
                refine v_istore_n dX7_stalest_105 rfl (by decide) ?_
                refine v_ls (ls2 := [some (.ref m), some (.int x), some (.int (nI i2)), some (.int (nI (cnt (fun z => decide (jkA C z i2)) i17))), some (.int (nI i17)), some (.int (nI (tlS C i17) - nI (tlS C i2)))]) rfl ?_
                refine n_iinc (k := 1) (x := i17) dX7_stalest_106 (by decide) rfl rfl (by decide) ?_
                refine v_ls (ls2 := [some (.ref m), some (.int x), some (.int (nI i2)), some (.int (nI (cnt (fun z => decide (jkA C z i2)) i17))), some (.int (nI (i17 + 1))), some (.int (nI (tlS C i17) - nI (tlS C i2)))]) rfl ?_
                refine v_goto (tgt := 17) dX7_stalest_109 (by decide) ?_
                refine v_forget 5 ?_
                refine v_ls (ls2 := [some (.ref m), some (.int x), some (.int (nI i2)), some (.int (nI (cnt (fun z => decide (jkA C z i2)) ((i17 + 1))))), some (.int (nI ((i17 + 1)))), none]) ?_ (ih17 (by omega) trivial)
                rw [cnt_f (decide_eq_false (by unfold jkA; first | (split <;> (try split) <;> omega) | (subst_vars; split <;> (try split) <;> omega)))]
                first | done | rfl
              · refine v_iconst (v := nI 1) dX7_stalest_99 (by decide) ?_
                refine v_goto (tgt := 104) dX7_stalest_100 (by decide) ?_
                refine n_iadd (x := cnt (fun z => decide (jkA C z i2)) i17) (y := 1) dX7_stalest_104 ?_
                refine v_istore_n dX7_stalest_105 rfl (by decide) ?_
                refine v_ls (ls2 := [some (.ref m), some (.int x), some (.int (nI i2)), some (.int (nI ((cnt (fun z => decide (jkA C z i2)) i17) + 1))), some (.int (nI i17)), some (.int (nI (tlS C i17) - nI (tlS C i2)))]) rfl ?_
                refine n_iinc (k := 1) (x := i17) dX7_stalest_106 (by decide) rfl rfl (by decide) ?_
                refine v_ls (ls2 := [some (.ref m), some (.int x), some (.int (nI i2)), some (.int (nI ((cnt (fun z => decide (jkA C z i2)) i17) + 1))), some (.int (nI (i17 + 1))), some (.int (nI (tlS C i17) - nI (tlS C i2)))]) rfl ?_
                refine v_goto (tgt := 17) dX7_stalest_109 (by decide) ?_
                refine v_forget 5 ?_
                refine v_ls (ls2 := [some (.ref m), some (.int x), some (.int (nI i2)), some (.int (nI (cnt (fun z => decide (jkA C z i2)) ((i17 + 1))))), some (.int (nI ((i17 + 1)))), none]) ?_ (ih17 (by omega) trivial)
                rw [cnt_t (decide_eq_true (by unfold jkA; first | (split <;> (try split) <;> omega) | (subst_vars; split <;> (try split) <;> omega)))]
                first | done | rfl
set_option maxRecDepth 20000 in
set_option maxHeartbeats 4000000 in
theorem t_X7_account {l : Launch} {G : vG} {h : AH} {n : Nat} {w : Int32} {m ch sv tn hr en ln wg dg : Nat} {fl wy dt : Int32} {b : Nat} {C : Ct} (ho : h m = some (mo m ch sv tn hr en ln wg dg fl wy dt)) (hv : h (m + 1) = some (ar G 182 (vO C))) (hK : bdk b C) (hb2 : b + 5000 ≤ 2 ^ 28) (hI : Iv C) : Mt l G mX7_account [.ref m, .int w] (n) h 0 0 (fun r n2 h2 => r = some (.int (qAcc C tn ch w)) ∧ n2 = n ∧ h2 = h) := by
  refine Mt.of (by decide) (Nat.le_of_ble_eq_true rfl) rfl ?_
  refine v_ls (ls2 := [some (.ref m), some (.int w)]) rfl ?_
  have hB := hK.bd (by omega)
  obtain ⟨hF, hJ, hn, hs1, hc99, hs4, hs7, hs8, hs15, hbk9, hs9⟩ := hI.1
  have b00 := hB 0 0
  have b01 := hB 0 1
  have b02 := hB 0 2
  have b03 := hB 0 3
  obtain ⟨w1, te, he9, pa9, sl9, br9, lo9, so9, z2, z3, z5, z6, zj, zt, ow9⟩ := id hI.2
  refine v_iload_n dX7_account_0 rfl ?_
  by_cases c21 : ixb w 15 = true
  · obtain ⟨k22, hk22, rfl⟩ := ix_of c21 (by decide)
    obtain rfl | rfl | rfl | rfl | rfl | rfl | rfl | rfl | rfl | rfl | rfl | rfl | rfl | rfl | rfl := (by omega : k22 = 0 ∨ k22 = 1 ∨ k22 = 2 ∨ k22 = 3 ∨ k22 = 4 ∨ k22 = 5 ∨ k22 = 6 ∨ k22 = 7 ∨ k22 = 8 ∨ k22 = 9 ∨ k22 = 10 ∨ k22 = 11 ∨ k22 = 12 ∨ k22 = 13 ∨ k22 = 14)
    · refine v_tsIn (off := 75) (tgt := 76) dX7_account_1 (by decide) (by decide) (by decide) (by decide) ?_
      refine v_aload_n dX7_account_76 rfl ?_
      refine fX7_7 (v := .ref (m + 1)) rfl dX7_account_77 ho rfl ?_
      refine v_iload_n dX7_account_80 rfl ?_
      refine n_ialdv (f := vO C) (j := 0) (y := C 0 0) dX7_account_81 hv (by omega) (by decide) ((vrd (C := C) lgn0 (Or.inl (by decide))).trans rfl) ?_
      have b23 := hK 0 0
      refine v_iret dX7_account_82 rfl ?_ (Nat.le_of_ble_eq_true rfl) (Nat.le_of_ble_eq_true rfl)
      have e9 : qAcc C tn ch (nI 0) = (nI (C 0 0) : Int32) := by unfold qAcc; all_goals (repeat (first | rw [if_pos (by first | assumption | omega | rfl | trivial)] | rw [if_neg (by first | assumption | omega)])); all_goals (try simp only [qAccN]); all_goals (repeat (first | rw [if_pos (by first | assumption | omega | rfl | trivial)] | rw [if_neg (by first | assumption | omega)])); all_goals (try rw [br9]); all_goals (try rw [pa9]); all_goals (try rw [sl9]); all_goals (try rw [← pa9]); all_goals (try rw [← sl9]); all_goals (try rfl)
      exact ⟨by rw [e9], rfl, rfl⟩
    · refine v_tsIn (off := 75) (tgt := 76) dX7_account_1 (by decide) (by decide) (by decide) (by decide) ?_
      refine v_aload_n dX7_account_76 rfl ?_
      refine fX7_7 (v := .ref (m + 1)) rfl dX7_account_77 ho rfl ?_
      refine v_iload_n dX7_account_80 rfl ?_
      refine n_ialdv (f := vO C) (j := 1) (y := C 0 1) dX7_account_81 hv (by omega) (by decide) ((vrd (C := C) lgn1 (Or.inl (by decide))).trans rfl) ?_
      have b24 := hK 0 1
      refine v_iret dX7_account_82 rfl ?_ (Nat.le_of_ble_eq_true rfl) (Nat.le_of_ble_eq_true rfl)
      have e9 : qAcc C tn ch (nI 1) = (nI (C 0 1) : Int32) := by unfold qAcc; all_goals (repeat (first | rw [if_pos (by first | assumption | omega | rfl | trivial)] | rw [if_neg (by first | assumption | omega)])); all_goals (try simp only [qAccN]); all_goals (repeat (first | rw [if_pos (by first | assumption | omega | rfl | trivial)] | rw [if_neg (by first | assumption | omega)])); all_goals (try rw [br9]); all_goals (try rw [pa9]); all_goals (try rw [sl9]); all_goals (try rw [← pa9]); all_goals (try rw [← sl9]); all_goals (try rfl)
      exact ⟨by rw [e9], rfl, rfl⟩
    · refine v_tsIn (off := 75) (tgt := 76) dX7_account_1 (by decide) (by decide) (by decide) (by decide) ?_
      refine v_aload_n dX7_account_76 rfl ?_
      refine fX7_7 (v := .ref (m + 1)) rfl dX7_account_77 ho rfl ?_
      refine v_iload_n dX7_account_80 rfl ?_
      refine n_ialdv (f := vO C) (j := 2) (y := C 0 2) dX7_account_81 hv (by omega) (by decide) ((vrd (C := C) lgn2 (Or.inl (by decide))).trans rfl) ?_
      have b25 := hK 0 2
      refine v_iret dX7_account_82 rfl ?_ (Nat.le_of_ble_eq_true rfl) (Nat.le_of_ble_eq_true rfl)
      have e9 : qAcc C tn ch (nI 2) = (nI (C 0 2) : Int32) := by unfold qAcc; all_goals (repeat (first | rw [if_pos (by first | assumption | omega | rfl | trivial)] | rw [if_neg (by first | assumption | omega)])); all_goals (try simp only [qAccN]); all_goals (repeat (first | rw [if_pos (by first | assumption | omega | rfl | trivial)] | rw [if_neg (by first | assumption | omega)])); all_goals (try rw [br9]); all_goals (try rw [pa9]); all_goals (try rw [sl9]); all_goals (try rw [← pa9]); all_goals (try rw [← sl9]); all_goals (try rfl)
      exact ⟨by rw [e9], rfl, rfl⟩
    · refine v_tsIn (off := 75) (tgt := 76) dX7_account_1 (by decide) (by decide) (by decide) (by decide) ?_
      refine v_aload_n dX7_account_76 rfl ?_
      refine fX7_7 (v := .ref (m + 1)) rfl dX7_account_77 ho rfl ?_
      refine v_iload_n dX7_account_80 rfl ?_
      refine n_ialdv (f := vO C) (j := 3) (y := C 0 3) dX7_account_81 hv (by omega) (by decide) ((vrd (C := C) lgn3 (Or.inl (by decide))).trans rfl) ?_
      have b26 := hK 0 3
      refine v_iret dX7_account_82 rfl ?_ (Nat.le_of_ble_eq_true rfl) (Nat.le_of_ble_eq_true rfl)
      have e9 : qAcc C tn ch (nI 3) = (nI (C 0 3) : Int32) := by unfold qAcc; all_goals (repeat (first | rw [if_pos (by first | assumption | omega | rfl | trivial)] | rw [if_neg (by first | assumption | omega)])); all_goals (try simp only [qAccN]); all_goals (repeat (first | rw [if_pos (by first | assumption | omega | rfl | trivial)] | rw [if_neg (by first | assumption | omega)])); all_goals (try rw [br9]); all_goals (try rw [pa9]); all_goals (try rw [sl9]); all_goals (try rw [← pa9]); all_goals (try rw [← sl9]); all_goals (try rfl)
      exact ⟨by rw [e9], rfl, rfl⟩
    · refine v_tsIn (off := 82) (tgt := 83) dX7_account_1 (by decide) (by decide) (by decide) (by decide) ?_
      refine v_aload_n dX7_account_83 rfl ?_
      refine v_iconst (v := nI 1) dX7_account_84 (by decide) ?_
      refine v_callV (st := []) dX7_account_85 (t_X7_all1 ho hv hK (by omega) (by omega) z2) wX7_167 ho rfl rfl ⟨Nat.le_of_ble_eq_true rfl, Nat.le_of_ble_eq_true rfl⟩ (Nat.le_of_ble_eq_true rfl) ⟨Nat.le_of_ble_eq_true rfl, Nat.le_of_ble_eq_true rfl⟩ (fun r n2 h2 hq => ?_)
      obtain ⟨rfl, hn9, hh9⟩ := hq; replace hn9 := hn9.symm; subst hn9; replace hh9 := hh9.symm; subst hh9
      refine v_st (st2 := [.int (nI (sm (C 2) 6))]) rfl ?_
      refine v_iret dX7_account_88 rfl ?_ (Nat.le_of_ble_eq_true rfl) (Nat.le_of_ble_eq_true rfl)
      have e9 : qAcc C tn ch (nI 4) = (nI (sm (C 2) 6) : Int32) := by unfold qAcc; all_goals (repeat (first | rw [if_pos (by first | assumption | omega | rfl | trivial)] | rw [if_neg (by first | assumption | omega)])); all_goals (try simp only [qAccN]); all_goals (repeat (first | rw [if_pos (by first | assumption | omega | rfl | trivial)] | rw [if_neg (by first | assumption | omega)])); all_goals (try rw [br9]); all_goals (try rw [pa9]); all_goals (try rw [sl9]); all_goals (try rw [← pa9]); all_goals (try rw [← sl9]); all_goals (try rfl)
      exact ⟨by rw [e9], rfl, rfl⟩
    · refine v_tsIn (off := 88) (tgt := 89) dX7_account_1 (by decide) (by decide) (by decide) (by decide) ?_
      refine v_bipush (v := nI 10) dX7_account_89 (by decide) ?_
      refine v_aload_n dX7_account_91 rfl ?_
      refine fX7_7 (v := .ref (m + 1)) rfl dX7_account_92 ho rfl ?_
      refine v_iconst (v := nI 0) dX7_account_95 (by decide) ?_
      refine n_ialdv (f := vO C) (j := 0) (y := C 0 0) dX7_account_96 hv (by omega) (by decide) ((vrd (C := C) lgn0 (Or.inl (by decide))).trans rfl) ?_
      have b27 := hK 0 0
      refine n_imul (x := 10) (y := C 0 0) dX7_account_97 ?_
      refine v_iret dX7_account_98 rfl ?_ (Nat.le_of_ble_eq_true rfl) (Nat.le_of_ble_eq_true rfl)
      have e9 : qAcc C tn ch (nI 5) = (nI (10 * C 0 0) : Int32) := by unfold qAcc; all_goals (repeat (first | rw [if_pos (by first | assumption | omega | rfl | trivial)] | rw [if_neg (by first | assumption | omega)])); all_goals (try simp only [qAccN]); all_goals (repeat (first | rw [if_pos (by first | assumption | omega | rfl | trivial)] | rw [if_neg (by first | assumption | omega)])); all_goals (try rw [br9]); all_goals (try rw [pa9]); all_goals (try rw [sl9]); all_goals (try rw [← pa9]); all_goals (try rw [← sl9]); all_goals (try rfl)
      exact ⟨by rw [e9], rfl, rfl⟩
    · refine v_tsIn (off := 98) (tgt := 99) dX7_account_1 (by decide) (by decide) (by decide) (by decide) ?_
      refine v_aload_n dX7_account_99 rfl ?_
      refine fX7_7 (v := .ref (m + 1)) rfl dX7_account_100 ho rfl ?_
      refine v_iload_n dX7_account_103 rfl ?_
      refine v_iconst (v := nI 2) dX7_account_104 (by decide) ?_
      refine n_isub (x := 6) (y := 2) dX7_account_105 (by omega) ?_
      refine v_st (st2 := [.int (nI 4), .ref (m + 1)]) rfl ?_
      refine n_ialdv (f := vO C) (j := 4) (y := C 17 0) dX7_account_106 hv (by omega) (by decide) ((vrd (C := C) lgn4 (Or.inl (by decide))).trans rfl) ?_
      have b28 := hK 17 0
      refine v_iret dX7_account_107 rfl ?_ (Nat.le_of_ble_eq_true rfl) (Nat.le_of_ble_eq_true rfl)
      have e9 : qAcc C tn ch (nI 6) = (nI (C 17 0) : Int32) := by unfold qAcc; all_goals (repeat (first | rw [if_pos (by first | assumption | omega | rfl | trivial)] | rw [if_neg (by first | assumption | omega)])); all_goals (try simp only [qAccN]); all_goals (repeat (first | rw [if_pos (by first | assumption | omega | rfl | trivial)] | rw [if_neg (by first | assumption | omega)])); all_goals (try rw [br9]); all_goals (try rw [pa9]); all_goals (try rw [sl9]); all_goals (try rw [← pa9]); all_goals (try rw [← sl9]); all_goals (try rfl)
      exact ⟨by rw [e9], rfl, rfl⟩
    · refine v_tsIn (off := 98) (tgt := 99) dX7_account_1 (by decide) (by decide) (by decide) (by decide) ?_
      refine v_aload_n dX7_account_99 rfl ?_
      refine fX7_7 (v := .ref (m + 1)) rfl dX7_account_100 ho rfl ?_
      refine v_iload_n dX7_account_103 rfl ?_
      refine v_iconst (v := nI 2) dX7_account_104 (by decide) ?_
      refine n_isub (x := 7) (y := 2) dX7_account_105 (by omega) ?_
      refine v_st (st2 := [.int (nI 5), .ref (m + 1)]) rfl ?_
      refine n_ialdv (f := vO C) (j := 5) (y := C 0 5) dX7_account_106 hv (by omega) (by decide) ((vrd (C := C) lgn5 (Or.inl (by decide))).trans rfl) ?_
      have b29 := hK 0 5
      refine v_iret dX7_account_107 rfl ?_ (Nat.le_of_ble_eq_true rfl) (Nat.le_of_ble_eq_true rfl)
      have e9 : qAcc C tn ch (nI 7) = (nI (C 0 5) : Int32) := by unfold qAcc; all_goals (repeat (first | rw [if_pos (by first | assumption | omega | rfl | trivial)] | rw [if_neg (by first | assumption | omega)])); all_goals (try simp only [qAccN]); all_goals (repeat (first | rw [if_pos (by first | assumption | omega | rfl | trivial)] | rw [if_neg (by first | assumption | omega)])); all_goals (try rw [br9]); all_goals (try rw [pa9]); all_goals (try rw [sl9]); all_goals (try rw [← pa9]); all_goals (try rw [← sl9]); all_goals (try rfl)
      exact ⟨by rw [e9], rfl, rfl⟩
    · refine v_tsIn (off := 98) (tgt := 99) dX7_account_1 (by decide) (by decide) (by decide) (by decide) ?_
      refine v_aload_n dX7_account_99 rfl ?_
      refine fX7_7 (v := .ref (m + 1)) rfl dX7_account_100 ho rfl ?_
      refine v_iload_n dX7_account_103 rfl ?_
      refine v_iconst (v := nI 2) dX7_account_104 (by decide) ?_
      refine n_isub (x := 8) (y := 2) dX7_account_105 (by omega) ?_
      refine v_st (st2 := [.int (nI 6), .ref (m + 1)]) rfl ?_
      refine n_ialdv (f := vO C) (j := 6) (y := C 0 6) dX7_account_106 hv (by omega) (by decide) ((vrd (C := C) lgn6 (Or.inl (by decide))).trans rfl) ?_
      have b30 := hK 0 6
      refine v_iret dX7_account_107 rfl ?_ (Nat.le_of_ble_eq_true rfl) (Nat.le_of_ble_eq_true rfl)
      have e9 : qAcc C tn ch (nI 8) = (nI (C 0 6) : Int32) := by unfold qAcc; all_goals (repeat (first | rw [if_pos (by first | assumption | omega | rfl | trivial)] | rw [if_neg (by first | assumption | omega)])); all_goals (try simp only [qAccN]); all_goals (repeat (first | rw [if_pos (by first | assumption | omega | rfl | trivial)] | rw [if_neg (by first | assumption | omega)])); all_goals (try rw [br9]); all_goals (try rw [pa9]); all_goals (try rw [sl9]); all_goals (try rw [← pa9]); all_goals (try rw [← sl9]); all_goals (try rfl)
      exact ⟨by rw [e9], rfl, rfl⟩
    · refine v_tsIn (off := 107) (tgt := 108) dX7_account_1 (by decide) (by decide) (by decide) (by decide) ?_
      refine v_aload_n dX7_account_108 rfl ?_
      refine v_iconst (v := nI 2) dX7_account_109 (by decide) ?_
      refine v_callV (st := []) dX7_account_110 (t_X7_all2 ho hv hK (by omega) (by omega) z3) wX7_167 ho rfl rfl ⟨Nat.le_of_ble_eq_true rfl, Nat.le_of_ble_eq_true rfl⟩ (Nat.le_of_ble_eq_true rfl) ⟨Nat.le_of_ble_eq_true rfl, Nat.le_of_ble_eq_true rfl⟩ (fun r n2 h2 hq => ?_)
      obtain ⟨rfl, hn9, hh9⟩ := hq; replace hn9 := hn9.symm; subst hn9; replace hh9 := hh9.symm; subst hh9
      refine v_st (st2 := [.int (nI (sm (C 3) 6))]) rfl ?_
      refine v_iret dX7_account_113 rfl ?_ (Nat.le_of_ble_eq_true rfl) (Nat.le_of_ble_eq_true rfl)
      have e9 : qAcc C tn ch (nI 9) = (nI (sm (C 3) 6) : Int32) := by unfold qAcc; all_goals (repeat (first | rw [if_pos (by first | assumption | omega | rfl | trivial)] | rw [if_neg (by first | assumption | omega)])); all_goals (try simp only [qAccN]); all_goals (repeat (first | rw [if_pos (by first | assumption | omega | rfl | trivial)] | rw [if_neg (by first | assumption | omega)])); all_goals (try rw [br9]); all_goals (try rw [pa9]); all_goals (try rw [sl9]); all_goals (try rw [← pa9]); all_goals (try rw [← sl9]); all_goals (try rfl)
      exact ⟨by rw [e9], rfl, rfl⟩
    · refine v_tsIn (off := 113) (tgt := 114) dX7_account_1 (by decide) (by decide) (by decide) (by decide) ?_
      refine v_aload_n dX7_account_114 rfl ?_
      refine fX7_7 (v := .ref (m + 1)) rfl dX7_account_115 ho rfl ?_
      refine v_iload_n dX7_account_118 rfl ?_
      refine v_iconst (v := nI 3) dX7_account_119 (by decide) ?_
      refine n_isub (x := 10) (y := 3) dX7_account_120 (by omega) ?_
      refine v_st (st2 := [.int (nI 7), .ref (m + 1)]) rfl ?_
      refine n_ialdv (f := vO C) (j := 7) (y := C 0 7) dX7_account_121 hv (by omega) (by decide) ((vrd (C := C) lgn7 (Or.inl (by decide))).trans rfl) ?_
      have b31 := hK 0 7
      refine v_iret dX7_account_122 rfl ?_ (Nat.le_of_ble_eq_true rfl) (Nat.le_of_ble_eq_true rfl)
      have e9 : qAcc C tn ch (nI 10) = (nI (C 0 7) : Int32) := by unfold qAcc; all_goals (repeat (first | rw [if_pos (by first | assumption | omega | rfl | trivial)] | rw [if_neg (by first | assumption | omega)])); all_goals (try simp only [qAccN]); all_goals (repeat (first | rw [if_pos (by first | assumption | omega | rfl | trivial)] | rw [if_neg (by first | assumption | omega)])); all_goals (try rw [br9]); all_goals (try rw [pa9]); all_goals (try rw [sl9]); all_goals (try rw [← pa9]); all_goals (try rw [← sl9]); all_goals (try rfl)
      exact ⟨by rw [e9], rfl, rfl⟩
    · refine v_tsIn (off := 113) (tgt := 114) dX7_account_1 (by decide) (by decide) (by decide) (by decide) ?_
      refine v_aload_n dX7_account_114 rfl ?_
      refine fX7_7 (v := .ref (m + 1)) rfl dX7_account_115 ho rfl ?_
      refine v_iload_n dX7_account_118 rfl ?_
      refine v_iconst (v := nI 3) dX7_account_119 (by decide) ?_
      refine n_isub (x := 11) (y := 3) dX7_account_120 (by omega) ?_
      refine v_st (st2 := [.int (nI 8), .ref (m + 1)]) rfl ?_
      refine n_ialdv (f := vO C) (j := 8) (y := C 17 1) dX7_account_121 hv (by omega) (by decide) ((vrd (C := C) lgn8 (Or.inl (by decide))).trans rfl) ?_
      have b32 := hK 17 1
      refine v_iret dX7_account_122 rfl ?_ (Nat.le_of_ble_eq_true rfl) (Nat.le_of_ble_eq_true rfl)
      have e9 : qAcc C tn ch (nI 11) = (nI (C 17 1) : Int32) := by unfold qAcc; all_goals (repeat (first | rw [if_pos (by first | assumption | omega | rfl | trivial)] | rw [if_neg (by first | assumption | omega)])); all_goals (try simp only [qAccN]); all_goals (repeat (first | rw [if_pos (by first | assumption | omega | rfl | trivial)] | rw [if_neg (by first | assumption | omega)])); all_goals (try rw [br9]); all_goals (try rw [pa9]); all_goals (try rw [sl9]); all_goals (try rw [← pa9]); all_goals (try rw [← sl9]); all_goals (try rfl)
      exact ⟨by rw [e9], rfl, rfl⟩
    · refine v_tsIn (off := 122) (tgt := 123) dX7_account_1 (by decide) (by decide) (by decide) (by decide) ?_
      refine v_aload_n dX7_account_123 rfl ?_
      refine v_iconst (v := (-1)) dX7_account_124 (by decide) ?_
      refine v_callV (st := []) dX7_account_125 (t_X7_patentsAll ho hv hK (by omega) (by show C 0 1 ≤ 12; omega)) wX7_104 ho rfl rfl ⟨Nat.le_of_ble_eq_true rfl, Nat.le_of_ble_eq_true rfl⟩ (Nat.le_of_ble_eq_true rfl) ⟨Nat.le_of_ble_eq_true rfl, Nat.le_of_ble_eq_true rfl⟩ (fun r n2 h2 hq => ?_)
      obtain ⟨rfl, hn9, hh9⟩ := hq; replace hn9 := hn9.symm; subst hn9; replace hh9 := hh9.symm; subst hh9
      refine v_st (st2 := [.int (nI (pat C))]) rfl ?_
      refine v_iret dX7_account_128 rfl ?_ (Nat.le_of_ble_eq_true rfl) (Nat.le_of_ble_eq_true rfl)
      have e9 : qAcc C tn ch (nI 12) = (nI (pat C) : Int32) := by unfold qAcc; all_goals (repeat (first | rw [if_pos (by first | assumption | omega | rfl | trivial)] | rw [if_neg (by first | assumption | omega)])); all_goals (try simp only [qAccN]); all_goals (repeat (first | rw [if_pos (by first | assumption | omega | rfl | trivial)] | rw [if_neg (by first | assumption | omega)])); all_goals (try rw [br9]); all_goals (try rw [pa9]); all_goals (try rw [sl9]); all_goals (try rw [← pa9]); all_goals (try rw [← sl9]); all_goals (try rfl)
      exact ⟨by rw [e9], rfl, rfl⟩
    · refine v_tsIn (off := 128) (tgt := 129) dX7_account_1 (by decide) (by decide) (by decide) (by decide) ?_
      refine v_aload_n dX7_account_129 rfl ?_
      refine fX7_176 (v := .int (nI tn)) rfl dX7_account_130 ho rfl ?_
      refine v_iret dX7_account_133 rfl ?_ (Nat.le_of_ble_eq_true rfl) (Nat.le_of_ble_eq_true rfl)
      have e9 : qAcc C tn ch (nI 13) = (nI tn : Int32) := by unfold qAcc; all_goals (repeat (first | rw [if_pos (by first | assumption | omega | rfl | trivial)] | rw [if_neg (by first | assumption | omega)])); all_goals (try simp only [qAccN]); all_goals (repeat (first | rw [if_pos (by first | assumption | omega | rfl | trivial)] | rw [if_neg (by first | assumption | omega)])); all_goals (try rw [br9]); all_goals (try rw [pa9]); all_goals (try rw [sl9]); all_goals (try rw [← pa9]); all_goals (try rw [← sl9]); all_goals (try rfl)
      exact ⟨by rw [e9], rfl, rfl⟩
    · refine v_tsIn (off := 133) (tgt := 134) dX7_account_1 (by decide) (by decide) (by decide) (by decide) ?_
      refine v_aload_n dX7_account_134 rfl ?_
      refine fX7_49 (v := .int (nI ch)) rfl dX7_account_135 ho rfl ?_
      refine v_iret dX7_account_138 rfl ?_ (Nat.le_of_ble_eq_true rfl) (Nat.le_of_ble_eq_true rfl)
      have e9 : qAcc C tn ch (nI 14) = (nI ch : Int32) := by unfold qAcc; all_goals (repeat (first | rw [if_pos (by first | assumption | omega | rfl | trivial)] | rw [if_neg (by first | assumption | omega)])); all_goals (try simp only [qAccN]); all_goals (repeat (first | rw [if_pos (by first | assumption | omega | rfl | trivial)] | rw [if_neg (by first | assumption | omega)])); all_goals (try rw [br9]); all_goals (try rw [pa9]); all_goals (try rw [sl9]); all_goals (try rw [← pa9]); all_goals (try rw [← sl9]); all_goals (try rfl)
      exact ⟨by rw [e9], rfl, rfl⟩
  · refine v_tsOut (tgt := 139) dX7_account_1 (ix_out c21) (by decide) ?_
    refine v_sipush (v := (-1012)) dX7_account_139 (by decide) ?_
    refine v_iret dX7_account_142 rfl ?_ (Nat.le_of_ble_eq_true rfl) (Nat.le_of_ble_eq_true rfl)
    have e9 : qAcc C tn ch w = ((-1012) : Int32) := by unfold qAcc; all_goals (repeat (first | rw [if_pos (by first | assumption | omega | rfl | trivial)] | rw [if_neg (by first | assumption | omega)])); all_goals (try simp only [qAccN]); all_goals (repeat (first | rw [if_pos (by first | assumption | omega | rfl | trivial)] | rw [if_neg (by first | assumption | omega)])); all_goals (try rw [br9]); all_goals (try rw [pa9]); all_goals (try rw [sl9]); all_goals (try rw [← pa9]); all_goals (try rw [← sl9]); all_goals (try rfl)
    exact ⟨by rw [e9], rfl, rfl⟩
set_option maxRecDepth 20000 in
set_option maxHeartbeats 4000000 in
theorem t_X7_isBalanced {l : Launch} {G : vG} {h : AH} {n : Nat}  {m ch sv tn hr en ln wg dg : Nat} {fl wy dt : Int32} {b : Nat} {C : Ct} (ho : h m = some (mo m ch sv tn hr en ln wg dg fl wy dt)) (hv : h (m + 1) = some (ar G 182 (vO C))) (hK : bdk b C) (hb2 : b + 5000 ≤ 2 ^ 28) (hI : Iv C) : Mt l G mX7_isBalanced [.ref m] (n) h 0 0 (fun r n2 h2 => r = some (.int (nI (bI (C 0 4 + sm (C 16) 4 = sm (C 2) 6 + C 0 5 + C 0 6)))) ∧ n2 = n ∧ h2 = h) := by
  refine Mt.of (by decide) (Nat.le_of_ble_eq_true rfl) rfl ?_
  refine v_ls (ls2 := [some (.ref m)]) rfl ?_
  have hB := hK.bd (by omega)
  obtain ⟨hF, hJ, hn, hs1, hc99, hs4, hs7, hs8, hs15, hbk9, hs9⟩ := hI.1
  have b00 := hB 0 0
  have b01 := hB 0 1
  have b02 := hB 0 2
  have b03 := hB 0 3
  obtain ⟨w1, te, he9, pa9, sl9, br9, lo9, so9, z2, z3, z5, z6, zj, zt, ow9⟩ := id hI.2
  have m22 := sm6 hB 2
  have m52 := sm6 hB 5
  have b05 := hB 0 5
  have b06 := hB 0 6
  have b170 := hB 17 0
  have m29 : sm (C 2) 6 ≤ 6 * 99 := sm_le (fun k _ => hc99 k)
  refine v_bipush (v := nI 10) dX7_isBalanced_0 (by decide) ?_
  refine v_aload_n dX7_isBalanced_2 rfl ?_
  refine fX7_7 (v := .ref (m + 1)) rfl dX7_isBalanced_3 ho rfl ?_
  refine v_iconst (v := nI 0) dX7_isBalanced_6 (by decide) ?_
  refine n_ialdv (f := vO C) (j := 0) (y := C 0 0) dX7_isBalanced_7 hv (by omega) (by decide) ((vrd (C := C) lgn0 (Or.inl (by decide))).trans rfl) ?_
  have b21 := hK 0 0
  refine n_imul (x := 10) (y := C 0 0) dX7_isBalanced_8 ?_
  refine v_aload_n dX7_isBalanced_9 rfl ?_
  refine fX7_7 (v := .ref (m + 1)) rfl dX7_isBalanced_10 ho rfl ?_
  refine v_iconst (v := nI 4) dX7_isBalanced_13 (by decide) ?_
  refine n_ialdv (f := vO C) (j := 4) (y := C 17 0) dX7_isBalanced_14 hv (by omega) (by decide) ((vrd (C := C) lgn4 (Or.inl (by decide))).trans rfl) ?_
  have b22 := hK 17 0
  refine n_iadd (x := 10 * C 0 0) (y := C 17 0) dX7_isBalanced_15 ?_
  refine v_aload_n dX7_isBalanced_16 rfl ?_
  refine v_iconst (v := nI 1) dX7_isBalanced_17 (by decide) ?_
  refine v_callV (st := [.int (nI ((10 * C 0 0) + C 17 0))]) dX7_isBalanced_18 (t_X7_all1 ho hv hK (by omega) (by omega) z2) wX7_167 ho rfl rfl ⟨Nat.le_of_ble_eq_true rfl, Nat.le_of_ble_eq_true rfl⟩ (Nat.le_of_ble_eq_true rfl) ⟨Nat.le_of_ble_eq_true rfl, Nat.le_of_ble_eq_true rfl⟩ (fun r n2 h2 hq => ?_)
  obtain ⟨rfl, hn9, hh9⟩ := hq; replace hn9 := hn9.symm; subst hn9; replace hh9 := hh9.symm; subst hh9
  refine v_st (st2 := [.int (nI (sm (C 2) 6)), .int (nI ((10 * C 0 0) + C 17 0))]) rfl ?_
  refine v_aload_n dX7_isBalanced_21 rfl ?_
  refine fX7_7 (v := .ref (m + 1)) rfl dX7_isBalanced_22 ho rfl ?_
  refine v_iconst (v := nI 5) dX7_isBalanced_25 (by decide) ?_
  refine n_ialdv (f := vO C) (j := 5) (y := C 0 5) dX7_isBalanced_26 hv (by omega) (by decide) ((vrd (C := C) lgn5 (Or.inl (by decide))).trans rfl) ?_
  have b23 := hK 0 5
  refine n_iadd (x := sm (C 2) 6) (y := C 0 5) dX7_isBalanced_27 ?_
  refine v_aload_n dX7_isBalanced_28 rfl ?_
  refine fX7_7 (v := .ref (m + 1)) rfl dX7_isBalanced_29 ho rfl ?_
  refine v_bipush (v := nI 6) dX7_isBalanced_32 (by decide) ?_
  refine n_ialdv (f := vO C) (j := 6) (y := C 0 6) dX7_isBalanced_34 hv (by omega) (by decide) ((vrd (C := C) lgn6 (Or.inl (by decide))).trans rfl) ?_
  have b24 := hK 0 6
  refine n_iadd (x := sm (C 2) 6 + C 0 5) (y := C 0 6) dX7_isBalanced_35 ?_
  refine n_icmp_ne (tgt := 43) (x := (10 * C 0 0) + C 17 0) (y := (sm (C 2) 6 + C 0 5) + C 0 6) dX7_isBalanced_36 (by decide) (by omega) (by omega) (fun c25 => ?_) (fun c25 => ?_)
  · refine v_iconst (v := nI 0) dX7_isBalanced_43 (by decide) ?_
    refine v_iret dX7_isBalanced_44 rfl ?_ (Nat.le_of_ble_eq_true rfl) (Nat.le_of_ble_eq_true rfl)
    exact ⟨by rw [bI_f (by omega)], rfl, rfl⟩
  · refine v_iconst (v := nI 1) dX7_isBalanced_39 (by decide) ?_
    refine v_goto (tgt := 44) dX7_isBalanced_40 (by decide) ?_
    refine v_iret dX7_isBalanced_44 rfl ?_ (Nat.le_of_ble_eq_true rfl) (Nat.le_of_ble_eq_true rfl)
    exact ⟨by rw [bI_t (by omega)], rfl, rfl⟩
set_option maxRecDepth 20000 in
set_option maxHeartbeats 4000000 in
theorem t_X7_meanWit {l : Launch} {G : vG} {h : AH} {n : Nat}  {m ch sv tn hr en ln wg dg : Nat} {fl wy dt : Int32} {b : Nat} {C : Ct} (ho : h m = some (mo m ch sv tn hr en ln wg dg fl wy dt)) (hv : h (m + 1) = some (ar G 182 (vO C))) (hK : bdk b C) (hb2 : b + 5000 ≤ 2 ^ 28) (hI : Iv C) : Mt l G mX7_meanWit [.ref m] (n) h 0 0 (fun r n2 h2 => (∃ z, r = some (.double z) ∧ mwz C z) ∧ n2 = n ∧ h2 = h) := by
  refine Mt.of (by decide) (Nat.le_of_ble_eq_true rfl) rfl ?_
  refine v_ls (ls2 := [some (.ref m), none, none]) rfl ?_
  have hB := hK.bd (by omega)
  obtain ⟨hF, hJ, hn, hs1, hc99, hs4, hs7, hs8, hs15, hbk9, hs9⟩ := hI.1
  have b00 := hB 0 0
  have b01 := hB 0 1
  have b02 := hB 0 2
  have b03 := hB 0 3
  obtain ⟨w1, te, he9, pa9, sl9, br9, lo9, so9, z2, z3, z5, z6, zj, zt, ow9⟩ := id hI.2
  refine v_iconst (v := nI 0) dX7_meanWit_0 (by decide) ?_
  refine v_istore_n dX7_meanWit_1 rfl (by decide) ?_
  refine v_ls (ls2 := [some (.ref m), some (.int (nI 0)), none]) rfl ?_
  refine v_iconst (v := nI 0) dX7_meanWit_2 (by decide) ?_
  refine v_istore_n dX7_meanWit_3 rfl (by decide) ?_
  refine v_ls (ls2 := [some (.ref m), some (.int (nI 0)), some (.int (nI 0))]) rfl ?_
  refine loopV (fun i4 => [some (.ref m), some (.int (nI (sm (C 7) i4))), some (.int (nI i4))]) (fun i4 => True) (N := C 0 1) 0 (by omega) rfl trivial (fun i4 hi4 hp4 ih4 => ?_)
  refine v_iload_n dX7_meanWit_4 rfl ?_
  refine v_aload_n dX7_meanWit_5 rfl ?_
  refine fX7_7 (v := .ref (m + 1)) rfl dX7_meanWit_6 ho rfl ?_
  refine v_iconst (v := nI 1) dX7_meanWit_9 (by decide) ?_
  refine n_ialdv (f := vO C) (j := 1) (y := C 0 1) dX7_meanWit_10 hv (by omega) (by decide) ((vrd (C := C) lgn1 (Or.inl (by decide))).trans rfl) ?_
  have b21 := hK 0 1
  refine n_icmp_ge (tgt := 33) (x := i4) (y := C 0 1) dX7_meanWit_11 (by decide) (by omega) (by omega) (fun c22 => ?_) (fun c22 => ?_)
  · have e : i4 = C 0 1 := by omega
    subst e
    refine v_aload_n dX7_meanWit_33 rfl ?_
    refine fX7_7 (v := .ref (m + 1)) rfl dX7_meanWit_34 ho rfl ?_
    refine v_iconst (v := nI 1) dX7_meanWit_37 (by decide) ?_
    refine n_ialdv (f := vO C) (j := 1) (y := C 0 1) dX7_meanWit_38 hv (by omega) (by decide) ((vrd (C := C) lgn1 (Or.inl (by decide))).trans rfl) ?_
    refine n_if_ne (tgt := 46) (x := C 0 1) dX7_meanWit_39 (by decide) (by omega) (fun c23 => ?_) (fun c23 => ?_)
    · refine v_iload_n dX7_meanWit_46 rfl ?_
      refine v_i2d dX7_meanWit_47 ?_
      refine v_aload_n dX7_meanWit_48 rfl ?_
      refine fX7_7 (v := .ref (m + 1)) rfl dX7_meanWit_49 ho rfl ?_
      refine v_iconst (v := nI 1) dX7_meanWit_52 (by decide) ?_
      refine n_ialdv (f := vO C) (j := 1) (y := C 0 1) dX7_meanWit_53 hv (by omega) (by decide) ((vrd (C := C) lgn1 (Or.inl (by decide))).trans rfl) ?_
      refine v_i2d dX7_meanWit_54 ?_
      refine v_ddiv dX7_meanWit_55 (fun r24 alr24 => ?_)
      refine v_dret dX7_meanWit_56 rfl ?_ (Nat.le_of_ble_eq_true rfl) (Nat.le_of_ble_eq_true rfl)
      exact ⟨⟨_, rfl, by unfold mwz; rw [if_neg (by omega), sm_tail zj hJ]; exact alr24⟩, rfl, rfl⟩
    · refine v_dconst0 dX7_meanWit_42 ?_
      refine v_goto (tgt := 56) dX7_meanWit_43 (by decide) ?_
      refine v_dret dX7_meanWit_56 rfl ?_ (Nat.le_of_ble_eq_true rfl) (Nat.le_of_ble_eq_true rfl)
      exact ⟨⟨_, rfl, by unfold mwz; rw [if_pos c23]⟩, rfl, rfl⟩
  · refine v_iload_n dX7_meanWit_14 rfl ?_
    refine v_aload_n dX7_meanWit_15 rfl ?_
    refine fX7_7 (v := .ref (m + 1)) rfl dX7_meanWit_16 ho rfl ?_
    refine v_iload_n dX7_meanWit_19 rfl ?_
    refine v_iconst (v := nI 0) dX7_meanWit_20 (by decide) ?_
    refine v_callS (st := [.ref (m + 1), .int (nI (sm (C 7) i4))]) dX7_meanWit_21 (t_X7_in (f := i4) (w := 0)) wX7_56 rfl ⟨Nat.le_of_ble_eq_true rfl, Nat.le_of_ble_eq_true rfl⟩ (Nat.le_of_ble_eq_true rfl) ⟨Nat.le_of_ble_eq_true rfl, Nat.le_of_ble_eq_true rfl⟩ (fun r n2 h2 hq => ?_)
    obtain ⟨rfl, hn9, hh9⟩ := hq; replace hn9 := hn9.symm; subst hn9; replace hh9 := hh9.symm; subst hh9
    refine v_st (st2 := [.int (nI (46 + 3 * i4 + 0)), .ref (m + 1), .int (nI (sm (C 7) i4))]) rfl ?_
    refine n_ialdv (f := vO C) (j := 46 + 3 * i4 + 0) (y := C 7 i4) dX7_meanWit_24 hv (by omega) (by decide) ((vrd (C := C) (lgJ (f := i4) (w := 0) (by omega) (by decide)) (Or.inl (by omega))).trans rfl) ?_
    have b25 := hK 7 i4
    refine n_iadd (x := sm (C 7) i4) (y := C 7 i4) dX7_meanWit_25 ?_
    refine v_istore_n dX7_meanWit_26 rfl (by decide) ?_
    refine v_ls (ls2 := [some (.ref m), some (.int (nI (sm (C 7) i4 + C 7 i4))), some (.int (nI i4))]) rfl ?_
    refine n_iinc (k := 1) (x := i4) dX7_meanWit_27 (by decide) rfl rfl (by decide) ?_
    refine v_ls (ls2 := [some (.ref m), some (.int (nI (sm (C 7) i4 + C 7 i4))), some (.int (nI (i4 + 1)))]) rfl ?_
    refine v_goto (tgt := 4) dX7_meanWit_30 (by decide) ?_
    exact ih4 (by omega) trivial
set_option maxRecDepth 20000 in
set_option maxHeartbeats 4000000 in
theorem t_X7_slipShare {l : Launch} {G : vG} {h : AH} {n : Nat}  {m ch sv tn hr en ln wg dg : Nat} {fl wy dt : Int32} {b : Nat} {C : Ct} (ho : h m = some (mo m ch sv tn hr en ln wg dg fl wy dt)) (hv : h (m + 1) = some (ar G 182 (vO C))) (hK : bdk b C) (hb2 : b + 5000 ≤ 2 ^ 28) (hI : Iv C) : Mt l G mX7_slipShare [.ref m] (n) h 0 0 (fun r n2 h2 => (∃ z, r = some (.float z) ∧ ssz C z) ∧ n2 = n ∧ h2 = h) := by
  refine Mt.of (by decide) (Nat.le_of_ble_eq_true rfl) rfl ?_
  refine v_ls (ls2 := [some (.ref m)]) rfl ?_
  have hB := hK.bd (by omega)
  obtain ⟨hF, hJ, hn, hs1, hc99, hs4, hs7, hs8, hs15, hbk9, hs9⟩ := hI.1
  have b00 := hB 0 0
  have b01 := hB 0 1
  have b02 := hB 0 2
  have b03 := hB 0 3
  obtain ⟨w1, te, he9, pa9, sl9, br9, lo9, so9, z2, z3, z5, z6, zj, zt, ow9⟩ := id hI.2
  have m22 := sm6 hB 2
  have m52 := sm6 hB 5
  have b05 := hB 0 5
  have b06 := hB 0 6
  have b170 := hB 17 0
  have m29 : sm (C 2) 6 ≤ 6 * 99 := sm_le (fun k _ => hc99 k)
  refine v_aload_n dX7_slipShare_0 rfl ?_
  refine v_iconst (v := nI 4) dX7_slipShare_1 (by decide) ?_
  refine v_callV (st := []) dX7_slipShare_2 (t_X7_all4 ho hv hK (by omega) (by omega) z5) wX7_167 ho rfl rfl ⟨Nat.le_of_ble_eq_true rfl, Nat.le_of_ble_eq_true rfl⟩ (Nat.le_of_ble_eq_true rfl) ⟨Nat.le_of_ble_eq_true rfl, Nat.le_of_ble_eq_true rfl⟩ (fun r n2 h2 hq => ?_)
  obtain ⟨rfl, hn9, hh9⟩ := hq; replace hn9 := hn9.symm; subst hn9; replace hh9 := hh9.symm; subst hh9
  refine v_st (st2 := [.int (nI (sm (C 5) 6))]) rfl ?_
  refine n_if_ne (tgt := 12) (x := sm (C 5) 6) dX7_slipShare_5 (by decide) (by omega) (fun c21 => ?_) (fun c21 => ?_)
  · refine v_aload_n dX7_slipShare_12 rfl ?_
    refine fX7_7 (v := .ref (m + 1)) rfl dX7_slipShare_13 ho rfl ?_
    refine v_bipush (v := nI 8) dX7_slipShare_16 (by decide) ?_
    refine n_ialdv (f := vO C) (j := 8) (y := C 17 1) dX7_slipShare_18 hv (by omega) (by decide) ((vrd (C := C) lgn8 (Or.inl (by decide))).trans rfl) ?_
    have b22 := hK 17 1
    refine v_i2f dX7_slipShare_19 ?_
    refine v_aload_n dX7_slipShare_20 rfl ?_
    refine v_iconst (v := nI 4) dX7_slipShare_21 (by decide) ?_
    refine v_callV (st := [.float (FP.i2f (nI (C 17 1)))]) dX7_slipShare_22 (t_X7_all4 ho hv hK (by omega) (by omega) z5) wX7_167 ho rfl rfl ⟨Nat.le_of_ble_eq_true rfl, Nat.le_of_ble_eq_true rfl⟩ (Nat.le_of_ble_eq_true rfl) ⟨Nat.le_of_ble_eq_true rfl, Nat.le_of_ble_eq_true rfl⟩ (fun r n2 h2 hq => ?_)
    obtain ⟨rfl, hn9, hh9⟩ := hq; replace hn9 := hn9.symm; subst hn9; replace hh9 := hh9.symm; subst hh9
    refine v_st (st2 := [.int (nI (sm (C 5) 6)), .float (FP.i2f (nI (C 17 1)))]) rfl ?_
    refine v_i2f dX7_slipShare_25 ?_
    refine v_fdiv dX7_slipShare_26 (fun r23 alr23 => ?_)
    refine v_fret dX7_slipShare_27 rfl ?_ (Nat.le_of_ble_eq_true rfl) (Nat.le_of_ble_eq_true rfl)
    exact ⟨⟨_, rfl, by unfold ssz; rw [if_neg (by omega), ← sl9]; exact alr23⟩, rfl, rfl⟩
  · refine v_fconst0 dX7_slipShare_8 ?_
    refine v_goto (tgt := 27) dX7_slipShare_9 (by decide) ?_
    refine v_fret dX7_slipShare_27 rfl ?_ (Nat.le_of_ble_eq_true rfl) (Nat.le_of_ble_eq_true rfl)
    exact ⟨⟨_, rfl, by unfold ssz; rw [if_pos c21]⟩, rfl, rfl⟩
set_option maxRecDepth 20000 in
set_option maxHeartbeats 4000000 in
theorem t_X7_reason {l : Launch} {G : vG} {h : AH} {n : Nat} {m ch sv tn hr en ln wg dg : Nat} {fl wy dt : Int32} {x : Int32} (ho : h m = some (mo m ch sv tn hr en ln wg dg fl wy dt)) : Mt l G mX7_reason [.ref m, .int x] (n) h 0 0 (fun r n2 h2 => r = some (.int (if wy = 0 then -1015 else if x = 0 then wy else dt)) ∧ n2 = n ∧ h2 = h) := by
  refine Mt.of (by decide) (Nat.le_of_ble_eq_true rfl) rfl ?_
  refine v_ls (ls2 := [some (.ref m), some (.int x)]) rfl ?_
  refine v_aload_n dX7_reason_0 rfl ?_
  refine fX7_35 (v := .int wy) rfl dX7_reason_1 ho rfl ?_
  refine v_if_ne (tgt := 13) dX7_reason_4 (by decide) (fun c21 => ?_) (fun c21 => ?_)
  · refine v_iload_n dX7_reason_13 rfl ?_
    refine v_if_eq (tgt := 24) dX7_reason_14 (by decide) (fun c22 => ?_) (fun c22 => ?_)
    · refine v_aload_n dX7_reason_24 rfl ?_
      refine fX7_35 (v := .int wy) rfl dX7_reason_25 ho rfl ?_
      refine v_iret dX7_reason_28 rfl ?_ (Nat.le_of_ble_eq_true rfl) (Nat.le_of_ble_eq_true rfl)
      exact ⟨by rw [if_neg c21, if_pos c22], rfl, rfl⟩
    · refine v_aload_n dX7_reason_17 rfl ?_
      refine fX7_38 (v := .int dt) rfl dX7_reason_18 ho rfl ?_
      refine v_goto (tgt := 28) dX7_reason_21 (by decide) ?_
      refine v_iret dX7_reason_28 rfl ?_ (Nat.le_of_ble_eq_true rfl) (Nat.le_of_ble_eq_true rfl)
      exact ⟨by rw [if_neg c21, if_neg c22], rfl, rfl⟩
  · refine v_sipush (v := (-1015)) dX7_reason_7 (by decide) ?_
    refine v_goto (tgt := 28) dX7_reason_10 (by decide) ?_
    refine v_iret dX7_reason_28 rfl ?_ (Nat.le_of_ble_eq_true rfl) (Nat.le_of_ble_eq_true rfl)
    exact ⟨by rw [if_pos c21], rfl, rfl⟩
set_option maxRecDepth 20000 in
set_option maxHeartbeats 4000000 in
theorem t_X7_forecast {l : Launch} {G : vG} {h : AH} {n : Nat} {F : Nat → Nat} {m ch sv tn hr en ln wg dg : Nat} {fl wy dt : Int32} {b : Nat} {C : Ct} (ho : h m = some (mo m ch sv tn hr en ln wg dg fl wy dt)) (hv : h (m + 1) = some (ar G 182 (vO C))) (hK : bdk b C) (hb2 : b + 40000 ≤ 2 ^ 28) (hI : Iv C) (hb1 : 200 ≤ b) (hkp : h (m + 4) = some (ar G 182 F)) : Mt l G mX7_forecast [.ref m] (n) h 0 0 (fun r n2 h2 => r = some (.int (nI (sm (fcast (C 0 2) C 2) 6) - nI (sm (C 2) 6))) ∧ n2 = n ∧ h2 m = some (mo m ch sv tn hr en ln wg dg fl wy dt) ∧ h2 (m + 1) = some (ar G 182 (vO C)) ∧ (∃ F2 : Nat → Nat, h2 (m + 4) = some (ar G 182 F2)) ∧ frP (fun z => z < m ∨ (m + 2 ≤ z ∧ z < m + 4) ∨ m + 5 ≤ z) h h2) := by
  refine Mt.of (by decide) (Nat.le_of_ble_eq_true rfl) rfl ?_
  refine v_ls (ls2 := [some (.ref m), none, none, none]) rfl ?_
  have hB := hK.bd (by omega)
  obtain ⟨hF, hJ, hn, hs1, hc99, hs4, hs7, hs8, hs15, hbk9, hs9⟩ := hI.1
  have b00 := hB 0 0
  have b01 := hB 0 1
  have b02 := hB 0 2
  have b03 := hB 0 3
  obtain ⟨w1, te, he9, pa9, sl9, br9, lo9, so9, z2, z3, z5, z6, zj, zt, ow9⟩ := id hI.2
  refine v_aload_n dX7_forecast_0 rfl ?_
  refine v_iconst (v := nI 1) dX7_forecast_1 (by decide) ?_
  refine v_callV (st := []) dX7_forecast_2 (t_X7_all1 ho hv hK (by omega) (by omega) z2) wX7_167 ho rfl rfl ⟨Nat.le_of_ble_eq_true rfl, Nat.le_of_ble_eq_true rfl⟩ (Nat.le_of_ble_eq_true rfl) ⟨Nat.le_of_ble_eq_true rfl, Nat.le_of_ble_eq_true rfl⟩ (fun r n2 h2 hq => ?_)
  obtain ⟨rfl, hn9, hh9⟩ := hq; replace hn9 := hn9.symm; subst hn9; replace hh9 := hh9.symm; subst hh9
  refine v_st (st2 := [.int (nI (sm (C 2) 6))]) rfl ?_
  refine v_istore_n dX7_forecast_5 rfl (by decide) ?_
  refine v_ls (ls2 := [some (.ref m), some (.int (nI (sm (C 2) 6))), none, none]) rfl ?_
  refine v_iconst (v := nI 0) dX7_forecast_6 (by decide) ?_
  refine v_istore_n dX7_forecast_7 rfl (by decide) ?_
  refine v_ls (ls2 := [some (.ref m), some (.int (nI (sm (C 2) 6))), some (.int (nI 0)), none]) rfl ?_
  refine v_aload_n dX7_forecast_8 rfl ?_
  refine fX7_19 (v := .ref (m + 4)) rfl dX7_forecast_9 ho rfl ?_
  refine v_aload_n dX7_forecast_12 rfl ?_
  refine fX7_7 (v := .ref (m + 1)) rfl dX7_forecast_13 ho rfl ?_
  refine v_callS (st := []) dX7_forecast_16 (t_X7_lays (f := vO C) hkp hv (by omega)) wX7_45 rfl ⟨Nat.le_of_ble_eq_true rfl, Nat.le_of_ble_eq_true rfl⟩ (Nat.le_of_ble_eq_true rfl) ⟨Nat.le_of_ble_eq_true rfl, Nat.le_of_ble_eq_true rfl⟩ (fun r n2 h2 hq => ?_)
  obtain ⟨rfl, hn9, hv21, sa21⟩ := hq; replace hn9 := hn9.symm; subst hn9
  refine v_st (st2 := []) rfl ?_
  have fa22 := (sa21 (m) (by omega)).trans ho
  have hv23 := (sa21 (m + 1) (by omega)).trans hv
  have fr24 : frP (fun z => z < m ∨ (m + 2 ≤ z ∧ z < m + 4) ∨ m + 5 ≤ z) _ _ := fun z (hz : z < m ∨ (m + 2 ≤ z ∧ z < m + 4) ∨ m + 5 ≤ z) => sa21 z (by omega)
  refine loopH (fun k => [some (.ref m), some (.int (nI (sm (C 2) 6))), some (.int (nI (sm (fun i => crR (fcit i C)) k))), none]) (fun k h1 => h1 m = some (mo m ch sv tn hr en ln wg dg fl wy dt) ∧ h1 (m + 1) = some (ar G 182 (vO (fcit k C))) ∧ h1 (m + 4) = some (ar G 182 (vO C)) ∧ Iv (fcit k C) ∧ fcit k C 0 2 = C 0 2 - k ∧ bdk (b + 3000 * k) (fcit k C) ∧ frP (fun z => z < m ∨ (m + 2 ≤ z ∧ z < m + 4) ∨ m + 5 ≤ z) h h1) (N := C 0 2) 0 (by omega) rfl ⟨fa22, hv23, hv21, hI, rfl, hK, fr24⟩ (fun k h1 hk hp0 ihk => ?_)
  clear ho hv hkp
  obtain ⟨ho, hv, hkp, hX, hX2, hXK, fr0⟩ := hp0
  obtain ⟨X, hXe⟩ : ∃ X : Ct, X = fcit k C := ⟨_, rfl⟩
  rw [← hXe] at hv hX hX2 hXK
  generalize hb9 : b + 3000 * k = b9 at hXK
  have hXB := hXK.bd (by omega)
  obtain ⟨xF, xJ, xn, xs1, xc99, xs4, xs7, xs8, xs15, xbk, xs9⟩ := id hX.1
  refine v_aload_n dX7_forecast_19 rfl ?_
  refine fX7_7 (v := .ref (m + 1)) rfl dX7_forecast_20 ho rfl ?_
  refine v_iconst (v := nI 2) dX7_forecast_23 (by decide) ?_
  refine n_ialdv (f := vO X) (j := 2) (y := X 0 2) dX7_forecast_24 hv (by omega) (by decide) ((vrd (C := X) lgn2 (Or.inl (by decide))).trans rfl) ?_
  have b25 := hXK 0 2
  refine n_if_le (tgt := 38) (x := X 0 2) dX7_forecast_25 (by decide) (by omega) (fun c26 => ?_) (fun c26 => ?_)
  · have ek : k = C 0 2 := by omega
    have zX2 := hX.2.2.2.2.2.2.2.2.2.1
    refine v_aload_n dX7_forecast_38 rfl ?_
    refine v_iconst (v := nI 1) dX7_forecast_39 (by decide) ?_
    refine v_callV (st := []) dX7_forecast_40 (t_X7_all1 ho hv hXK (by omega) xF zX2) wX7_167 ho rfl rfl ⟨Nat.le_of_ble_eq_true rfl, Nat.le_of_ble_eq_true rfl⟩ (Nat.le_of_ble_eq_true rfl) ⟨Nat.le_of_ble_eq_true rfl, Nat.le_of_ble_eq_true rfl⟩ (fun r n2 h2 hq => ?_)
    obtain ⟨rfl, hn9, hh9⟩ := hq; replace hn9 := hn9.symm; subst hn9; replace hh9 := hh9.symm; subst hh9
    refine v_st (st2 := [.int (nI (sm (X 2) 6))]) rfl ?_
    refine v_iload_n dX7_forecast_43 rfl ?_
    refine v_isub dX7_forecast_44 ?_
    refine v_istore_n dX7_forecast_45 rfl (by decide) ?_
    refine v_ls (ls2 := [some (.ref m), some (.int (nI (sm (C 2) 6))), some (.int (nI (sm (fun i => crR (fcit i C)) k))), some (.int (nI (sm (X 2) 6) - nI (sm (C 2) 6)))]) rfl ?_
    refine v_aload_n dX7_forecast_46 rfl ?_
    refine fX7_7 (v := .ref (m + 1)) rfl dX7_forecast_47 ho rfl ?_
    refine v_aload_n dX7_forecast_50 rfl ?_
    refine fX7_19 (v := .ref (m + 4)) rfl dX7_forecast_51 ho rfl ?_
    refine v_callS (st := []) dX7_forecast_54 (t_X7_lays (f := vO C) hv hkp (by omega)) wX7_45 rfl ⟨Nat.le_of_ble_eq_true rfl, Nat.le_of_ble_eq_true rfl⟩ (Nat.le_of_ble_eq_true rfl) ⟨Nat.le_of_ble_eq_true rfl, Nat.le_of_ble_eq_true rfl⟩ (fun r n2 h2 hq => ?_)
    obtain ⟨rfl, hn9, hv27, sa27⟩ := hq; replace hn9 := hn9.symm; subst hn9
    refine v_st (st2 := []) rfl ?_
    have fa28 := (sa27 (m) (by omega)).trans ho
    have fa29 := (sa27 (m + 4) (by omega)).trans hkp
    have fr30 : frP (fun z => z < m ∨ (m + 2 ≤ z ∧ z < m + 4) ∨ m + 5 ≤ z) _ _ := fun z (hz : z < m ∨ (m + 2 ≤ z ∧ z < m + 4) ∨ m + 5 ≤ z) => (sa27 z (by omega)).trans (fr0 z hz)
    refine v_iload_n dX7_forecast_57 rfl ?_
    refine v_iret dX7_forecast_58 rfl ?_ (Nat.le_of_ble_eq_true rfl) (Nat.le_of_ble_eq_true rfl)
    have e9 : X = fcast (C 0 2) C := by rw [fcast_it, hXe, ek]
    exact ⟨by rw [← e9], rfl, fa28, hv27, ⟨_, fa29⟩, fr30⟩
  · refine v_iload_n dX7_forecast_28 rfl ?_
    refine v_aload_n dX7_forecast_29 rfl ?_
    refine v_callV (st := [.int (nI (sm (fun i => crR (fcit i C)) k))]) dX7_forecast_30 (t_X7_carries ho hv hXK (by omega) (by omega) hX) wX7_151 ho rfl rfl ⟨Nat.le_of_ble_eq_true rfl, Nat.le_of_ble_eq_true rfl⟩ (Nat.le_of_ble_eq_true rfl) ⟨Nat.le_of_ble_eq_true rfl, Nat.le_of_ble_eq_true rfl⟩ (fun r n2 h2 hq => ?_)
    have eR : dNext X = (nI (crR X), crG X, none) := if_neg (by omega)
    rw [eR] at hq
    obtain ⟨rfl, hn9, fo9, fv9, fs9, -⟩ := hq; replace hn9 := hn9.symm; subst hn9
    have hcr := crR_bd hXB
    rw [mf_p (nI_pos hcr)] at fo9
    refine v_st (st2 := [.int (nI (crR X)), .int (nI (sm (fun i => crR (fcit i C)) k))]) rfl ?_
    have fa32 := (fs9 (m + 4) (by omega)).trans hkp
    have fr33 : frP (fun z => z < m ∨ (m + 2 ≤ z ∧ z < m + 4) ∨ m + 5 ≤ z) _ _ := fun z (hz : z < m ∨ (m + 2 ≤ z ∧ z < m + 4) ∨ m + 5 ≤ z) => (fs9 z (by omega)).trans (fr0 z hz)
    refine n_iadd (x := sm (fun i => crR (fcit i C)) k) (y := crR X) dX7_forecast_33 ?_
    refine v_istore_n dX7_forecast_34 rfl (by decide) ?_
    refine v_ls (ls2 := [some (.ref m), some (.int (nI (sm (C 2) 6))), some (.int (nI ((sm (fun i => crR (fcit i C)) k) + crR X))), none]) rfl ?_
    refine v_goto (tgt := 19) dX7_forecast_35 (by decide) ?_
    refine v_ls (ls2 := [some (.ref m), some (.int (nI (sm (C 2) 6))), some (.int (nI (sm (fun i => crR (fcit i C)) ((k + 1))))), none]) ?_ (ihk (by omega) _ ⟨fo9, ?_, fa32, ?_, ?_, ?_, fr33⟩)
    · rw [hXe]; rfl
    · rw [show fcit (k + 1) C = crG X by rw [hXe]; rfl]; exact fv9
    · rw [show fcit (k + 1) C = crG X by rw [hXe]; rfl]; exact Iv_crG hX (by omega)
    · rw [show fcit (k + 1) C = crG X by rw [hXe]; rfl, crG_2]; omega
    · rw [show fcit (k + 1) C = crG X by rw [hXe]; rfl]; exact bdk_crG hXK (by omega) (xs7 _) (xs1 _)
