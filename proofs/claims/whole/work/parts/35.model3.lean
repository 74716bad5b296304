theorem insT_lo {F : Nat → Nat} {n p i : Nat} (h : i < 142 + 4 * (p + 1)) : insT F n p i = F i := if_neg (by omega)
theorem innT_lo {F : Nat → Nat} {n p k i : Nat} (h : i < 142 + 4 * p) : innT F n p k i = F i := (if_neg (by omega)).trans (insT_lo (by omega))
theorem shT_0 {F : Nat → Nat} (i : Nat) : F i = shT F 142 i := (if_neg (by omega)).symm
theorem shT_lo {F : Nat → Nat} {k i : Nat} (h : i < 142) : shT F k i = F i := if_neg (by omega)
theorem shT_hi {F : Nat → Nat} {k i : Nat} (h : k ≤ i) : shT F k i = F i := if_neg (by omega)
theorem bdk_crH {b : Nat} {C : Ct} (h : bdk b C) : bdk (b + 300) (crH C) := by
  have h2 := h 14 0
  have h3 := h 0 7
  have a1 : bdk (b + 100) (cu C 0 3 (C 14 0)) := bdk_cu h (by omega) (by omega)
  have a2 : bdk (b + 200) (rmF (cu C 0 3 (C 14 0))) := bdk_rmF a1 (Nat.le_refl _)
  exact bdk_cu a2 (by omega) (by omega)
theorem bdk_prG {b c f j t : Nat} {C : Ct} (h : bdk b C) (hc : b + 2000 ≤ c) (hl : lau C f j t ≤ 100) : bdk c (prG C f j t) := by
  have g1 := h 18 t
  have g2 := h 17 1
  have g3 := h 17 0
  have a4 : bdk (b + 1300) (prf C f j t) := bdk_prf h (by omega) hl
  have a5 : bdk (b + 1400) (cu (prf C f j t) 18 t (C 18 t + 1)) := bdk_cu a4 (by omega) (by omega)
  unfold prG
  split
  · exact bdk_cu a5 (by omega) (by omega)
  · exact bdk_cu a5 (by omega) (by omega)
set_option maxRecDepth 20000 in
set_option maxHeartbeats 4000000 in
theorem t_X7_tellings {l : Launch} {G : vG} {h : AH} {n : Nat} {j : Nat} {m ch sv tn hr en ln wg dg : Nat} {fl wy dt : Int32} {b : Nat} {C : Ct} (ho : h m = some (mo m ch sv tn hr en ln wg dg fl wy dt)) (hv : h (m + 1) = some (ar G 182 (vO C))) (hK : bdk b C) (hb2 : b + 1000 ≤ 2 ^ 28) (hj : j < 12) : Mt l G mX7_tellings [.ref m, .int (nI j)] (n) h 0 0 (fun r n2 h2 => r = some (.int (nI (tlS C j))) ∧ n2 = n ∧ h2 = h) := by
  refine Mt.of (by decide) (Nat.le_of_ble_eq_true rfl) rfl ?_
  refine v_ls (ls2 := [some (.ref m), some (.int (nI j)), none, none]) rfl ?_
  have hB := hK.bd (by omega)
  refine v_iconst (v := nI 0) dX7_tellings_0 (by decide) ?_
  refine v_istore_n dX7_tellings_1 rfl (by decide) ?_
  refine v_ls (ls2 := [some (.ref m), some (.int (nI j)), some (.int (nI 0)), none]) rfl ?_
  refine v_iconst (v := nI 0) dX7_tellings_2 (by decide) ?_
  refine v_istore_n dX7_tellings_3 rfl (by decide) ?_
  refine v_ls (ls2 := [some (.ref m), some (.int (nI j)), some (.int (nI 0)), some (.int (nI 0))]) rfl ?_
  refine loopV (fun i4 => [some (.ref m), some (.int (nI j)), some (.int (nI (sm (fun t => C 10 (j * 4 + t)) i4))), some (.int (nI i4))]) (fun i4 => True) (N := 4) 0 (by omega) rfl trivial (fun i4 hi4 hp4 ih4 => ?_)
  refine v_iload_n dX7_tellings_4 rfl ?_
  refine v_iconst (v := nI 4) dX7_tellings_5 (by decide) ?_
  refine n_icmp_ge (tgt := 31) (x := i4) (y := 4) dX7_tellings_6 (by decide) (by omega) (by omega) (fun c21 => ?_) (fun c21 => ?_)
  · refine v_iload_n dX7_tellings_31 rfl ?_
    refine v_iret dX7_tellings_32 rfl ?_ (Nat.le_of_ble_eq_true rfl) (Nat.le_of_ble_eq_true rfl)
    have e : i4 = 4 := by omega
    subst e
    exact ⟨rfl, rfl, rfl⟩
  · refine v_iload_n dX7_tellings_9 rfl ?_
    refine v_aload_n dX7_tellings_10 rfl ?_
    refine fX7_7 (v := .ref (m + 1)) rfl dX7_tellings_11 ho rfl ?_
    refine v_bipush (v := nI 94) dX7_tellings_14 (by decide) ?_
    refine v_iconst (v := nI 4) dX7_tellings_16 (by decide) ?_
    refine v_iload_n dX7_tellings_17 rfl ?_
    refine n_imul (x := 4) (y := j) dX7_tellings_18 ?_
    refine n_iadd (x := 94) (y := 4 * j) dX7_tellings_19 ?_
    refine v_iload_n dX7_tellings_20 rfl ?_
    refine n_iadd (x := 94 + (4 * j)) (y := i4) dX7_tellings_21 ?_
    refine n_ialdv (f := vO C) (j := (94 + (4 * j)) + i4) (y := C 10 (j * 4 + i4)) dX7_tellings_22 hv (by omega) (by decide) ((vrd (C := C) (lgC (j := j) (t := i4) (by omega)) (Or.inl (by omega))).trans rfl) ?_
    have b22 := hK 10 (j * 4 + i4)
    refine n_iadd (x := sm (fun t => C 10 (j * 4 + t)) i4) (y := C 10 (j * 4 + i4)) dX7_tellings_23 ?_
    refine v_istore_n dX7_tellings_24 rfl (by decide) ?_
    refine v_ls (ls2 := [some (.ref m), some (.int (nI j)), some (.int (nI ((sm (fun t => C 10 (j * 4 + t)) i4) + (C 10 (j * 4 + i4))))), some (.int (nI i4))]) rfl ?_
    refine n_iinc (k := 1) (x := i4) dX7_tellings_25 (by decide) rfl rfl (by decide) ?_
    refine v_ls (ls2 := [some (.ref m), some (.int (nI j)), some (.int (nI ((sm (fun t => C 10 (j * 4 + t)) i4) + (C 10 (j * 4 + i4))))), some (.int (nI (i4 + 1)))]) rfl ?_
    refine v_goto (tgt := 4) dX7_tellings_28 (by decide) ?_
    exact ih4 (by omega) trivial
set_option maxRecDepth 20000 in
set_option maxHeartbeats 4000000 in
theorem t_X7_bookings {l : Launch} {G : vG} {h : AH} {n : Nat} {w x : Nat} {m ch sv tn hr en ln wg dg : Nat} {fl wy dt : Int32} {b : Nat} {C : Ct} (ho : h m = some (mo m ch sv tn hr en ln wg dg fl wy dt)) (hv : h (m + 1) = some (ar G 182 (vO C))) (hK : bdk b C) (hb2 : b + 1000 ≤ 2 ^ 28) (hn : C 0 2 ≤ 10) (hw : w < 4) (hx : x < 2 ^ 31) : Mt l G mX7_bookings [.ref m, .int (nI w), .int (nI x)] (n) h 0 0 (fun r n2 h2 => r = some (.int (nI (cnt (fun z => decide (C (11 + w) z = x)) (C 0 2)))) ∧ n2 = n ∧ h2 = h) := by
  refine Mt.of (by decide) (Nat.le_of_ble_eq_true rfl) rfl ?_
  refine v_ls (ls2 := [some (.ref m), some (.int (nI w)), some (.int (nI x)), none, none]) rfl ?_
  have hB := hK.bd (by omega)
  refine v_iconst (v := nI 0) dX7_bookings_0 (by decide) ?_
  refine v_istore_n dX7_bookings_1 rfl (by decide) ?_
  refine v_ls (ls2 := [some (.ref m), some (.int (nI w)), some (.int (nI x)), some (.int (nI 0)), none]) rfl ?_
  refine v_iconst (v := nI 0) dX7_bookings_2 (by decide) ?_
  refine v_istore dX7_bookings_3 rfl (by decide) ?_
  refine v_ls (ls2 := [some (.ref m), some (.int (nI w)), some (.int (nI x)), some (.int (nI 0)), some (.int (nI 0))]) rfl ?_
  refine loopV (fun i5 => [some (.ref m), some (.int (nI w)), some (.int (nI x)), some (.int (nI (cnt (fun z => decide (C (11 + w) z = x)) i5))), some (.int (nI i5))]) (fun i5 => True) (N := C 0 2) 0 (by omega) rfl trivial (fun i5 hi5 hp5 ih5 => ?_)
  refine v_iload dX7_bookings_5 rfl ?_
  refine v_aload_n dX7_bookings_7 rfl ?_
  refine fX7_7 (v := .ref (m + 1)) rfl dX7_bookings_8 ho rfl ?_
  refine v_iconst (v := nI 2) dX7_bookings_11 (by decide) ?_
  refine n_ialdv (f := vO C) (j := 2) (y := C 0 2) dX7_bookings_12 hv (by omega) (by decide) ((vrd (C := C) lgn2 (Or.inl (by decide))).trans rfl) ?_
  have b21 := hK 0 2
  refine n_icmp_ge (tgt := 41) (x := i5) (y := C 0 2) dX7_bookings_13 (by decide) (by omega) (by omega) (fun c22 => ?_) (fun c22 => ?_)
  · refine v_iload_n dX7_bookings_41 rfl ?_
    refine v_iret dX7_bookings_42 rfl ?_ (Nat.le_of_ble_eq_true rfl) (Nat.le_of_ble_eq_true rfl)
    have e : i5 = C 0 2 := by omega
    subst e
    exact ⟨rfl, rfl, rfl⟩
  · refine v_iload_n dX7_bookings_16 rfl ?_
    refine v_aload_n dX7_bookings_17 rfl ?_
    refine v_iload dX7_bookings_18 rfl ?_
    refine v_iload_n dX7_bookings_20 rfl ?_
    refine v_callV (st := [.int (nI (cnt (fun z => decide (C (11 + w) z = x)) i5))]) dX7_bookings_21 (t_X7_booked (p := i5) (w := w) ho hv hK (by omega) (by omega) (by omega) (by omega)) wX7_101 ho rfl rfl ⟨Nat.le_of_ble_eq_true rfl, Nat.le_of_ble_eq_true rfl⟩ (Nat.le_of_ble_eq_true rfl) ⟨Nat.le_of_ble_eq_true rfl, Nat.le_of_ble_eq_true rfl⟩ (fun r n2 h2 hq => ?_)
    obtain ⟨rfl, hn9, hh9⟩ := hq; replace hn9 := hn9.symm; subst hn9; replace hh9 := hh9.symm; subst hh9
    refine v_st (st2 := [.int (nI (C (11 + w) i5)), .int (nI (cnt (fun z => decide (C (11 + w) z = x)) i5))]) rfl ?_
    have bk23 := hB (11 + w) i5
    refine v_iload_n dX7_bookings_24 rfl ?_
    refine n_icmp_ne (tgt := 32) (x := C (11 + w) i5) (y := x) dX7_bookings_25 (by decide) (by omega) (by omega) (fun c24 => ?_) (fun c24 => ?_)
    · refine v_iconst (v := nI 0) dX7_bookings_32 (by decide) ?_
      refine n_iadd (x := cnt (fun z => decide (C (11 + w) z = x)) i5) (y := 0) dX7_bookings_33 ?_
      refine v_st (st2 := [.int (nI (cnt (fun z => decide (C (11 + w) z = x)) i5))]) rfl ?_
      refine v_istore_n dX7_bookings_34 rfl (by decide) ?_
      refine v_ls (ls2 := [some (.ref m), some (.int (nI w)), some (.int (nI x)), some (.int (nI (cnt (fun z => decide (C (11 + w) z = x)) i5))), some (.int (nI i5))]) rfl ?_
      refine n_iinc (k := 1) (x := i5) dX7_bookings_35 (by decide) rfl rfl (by decide) ?_
      refine v_ls (ls2 := [some (.ref m), some (.int (nI w)), some (.int (nI x)), some (.int (nI (cnt (fun z => decide (C (11 + w) z = x)) i5))), some (.int (nI (i5 + 1)))]) rfl ?_
      refine v_goto (tgt := 5) dX7_bookings_38 (by decide) ?_
      refine v_ls (ls2 := [some (.ref m), some (.int (nI w)), some (.int (nI x)), some (.int (nI (cnt (fun z => decide (C (11 + w) z = x)) ((i5 + 1))))), some (.int (nI ((i5 + 1))))]) ?_ (ih5 (by omega) trivial)
      rw [cnt_f (by simp only [decide_eq_true_eq, decide_eq_false_iff_not]; omega)]
    · refine v_iconst (v := nI 1) dX7_bookings_28 (by decide) ?_
      refine v_goto (tgt := 33) dX7_bookings_29 (by decide) ?_
      refine n_iadd (x := cnt (fun z => decide (C (11 + w) z = x)) i5) (y := 1) dX7_bookings_33 ?_
      refine v_istore_n dX7_bookings_34 rfl (by decide) ?_
      refine v_ls (ls2 := [some (.ref m), some (.int (nI w)), some (.int (nI x)), some (.int (nI ((cnt (fun z => decide (C (11 + w) z = x)) i5) + 1))), some (.int (nI i5))]) rfl ?_
      refine n_iinc (k := 1) (x := i5) dX7_bookings_35 (by decide) rfl rfl (by decide) ?_
      refine v_ls (ls2 := [some (.ref m), some (.int (nI w)), some (.int (nI x)), some (.int (nI ((cnt (fun z => decide (C (11 + w) z = x)) i5) + 1))), some (.int (nI (i5 + 1)))]) rfl ?_
      refine v_goto (tgt := 5) dX7_bookings_38 (by decide) ?_
      refine v_ls (ls2 := [some (.ref m), some (.int (nI w)), some (.int (nI x)), some (.int (nI (cnt (fun z => decide (C (11 + w) z = x)) ((i5 + 1))))), some (.int (nI ((i5 + 1))))]) ?_ (ih5 (by omega) trivial)
      rw [cnt_t (by simp only [decide_eq_true_eq, decide_eq_false_iff_not]; omega)]
set_option maxRecDepth 20000 in
set_option maxHeartbeats 4000000 in
theorem t_X7_jokeFor {l : Launch} {G : vG} {h : AH} {n : Nat} {f k : Nat} {m ch sv tn hr en ln wg dg : Nat} {fl wy dt : Int32} {b : Nat} {C : Ct} (ho : h m = some (mo m ch sv tn hr en ln wg dg fl wy dt)) (hv : h (m + 1) = some (ar G 182 (vO C))) (hK : bdk b C) (hb2 : b + 1000 ≤ 2 ^ 28) (hn : C 0 2 ≤ 10) (hf : f < 2 ^ 31) (hk : k < 2 ^ 31) : Mt l G mX7_jokeFor [.ref m, .int (nI f), .int (nI k)] (n) h 0 0 (fun r n2 h2 => r = some (.int (oN (-1) ((bkF C f k).map (fun p => C 12 p)))) ∧ n2 = n ∧ h2 = h) := by
  refine Mt.of (by decide) (Nat.le_of_ble_eq_true rfl) rfl ?_
  refine v_ls (ls2 := [some (.ref m), some (.int (nI f)), some (.int (nI k)), none]) rfl ?_
  have hB := hK.bd (by omega)
  refine v_iconst (v := nI 0) dX7_jokeFor_0 (by decide) ?_
  refine v_istore_n dX7_jokeFor_1 rfl (by decide) ?_
  refine v_ls (ls2 := [some (.ref m), some (.int (nI f)), some (.int (nI k)), some (.int (nI 0))]) rfl ?_
  refine loopV (fun i2 => [some (.ref m), some (.int (nI f)), some (.int (nI k)), some (.int (nI i2))]) (fun i2 => bkF C f k = fs (fun p => decide (C 11 p = f ∧ C 14 p = k)) i2 (C 0 2 - i2)) (N := C 0 2) 0 (by omega) rfl rfl (fun i2 hi2 hp2 ih2 => ?_)
  refine v_iload_n dX7_jokeFor_2 rfl ?_
  refine v_aload_n dX7_jokeFor_3 rfl ?_
  refine fX7_7 (v := .ref (m + 1)) rfl dX7_jokeFor_4 ho rfl ?_
  refine v_iconst (v := nI 2) dX7_jokeFor_7 (by decide) ?_
  refine n_ialdv (f := vO C) (j := 2) (y := C 0 2) dX7_jokeFor_8 hv (by omega) (by decide) ((vrd (C := C) lgn2 (Or.inl (by decide))).trans rfl) ?_
  have b21 := hK 0 2
  refine n_icmp_ge (tgt := 45) (x := i2) (y := C 0 2) dX7_jokeFor_9 (by decide) (by omega) (by omega) (fun c22 => ?_) (fun c22 => ?_)
  · refine v_iconst (v := (-1)) dX7_jokeFor_45 (by decide) ?_
    refine v_iret dX7_jokeFor_46 rfl ?_ (Nat.le_of_ble_eq_true rfl) (Nat.le_of_ble_eq_true rfl)
    exact ⟨by rw [hp2, fs_end (by omega)]; rfl, rfl, rfl⟩
  · refine v_aload_n dX7_jokeFor_12 rfl ?_
    refine v_iload_n dX7_jokeFor_13 rfl ?_
    refine v_iconst (v := nI 0) dX7_jokeFor_14 (by decide) ?_
    refine v_callV (st := []) dX7_jokeFor_15 (t_X7_booked (p := i2) (w := 0) ho hv hK (by omega) (by omega) (by omega) (by omega)) wX7_101 ho rfl rfl ⟨Nat.le_of_ble_eq_true rfl, Nat.le_of_ble_eq_true rfl⟩ (Nat.le_of_ble_eq_true rfl) ⟨Nat.le_of_ble_eq_true rfl, Nat.le_of_ble_eq_true rfl⟩ (fun r n2 h2 hq => ?_)
    obtain ⟨rfl, hn9, hh9⟩ := hq; replace hn9 := hn9.symm; subst hn9; replace hh9 := hh9.symm; subst hh9
    refine v_st (st2 := [.int (nI (C 11 i2))]) rfl ?_
    have b23 := hK 11 i2
    refine v_iload_n dX7_jokeFor_18 rfl ?_
    refine n_icmp_ne (tgt := 39) (x := C 11 i2) (y := f) dX7_jokeFor_19 (by decide) (by omega) (by omega) (fun c24 => ?_) (fun c24 => ?_)
    · refine n_iinc (k := 1) (x := i2) dX7_jokeFor_39 (by decide) rfl rfl (by decide) ?_
      refine v_ls (ls2 := [some (.ref m), some (.int (nI f)), some (.int (nI k)), some (.int (nI (i2 + 1)))]) rfl ?_
      refine v_goto (tgt := 2) dX7_jokeFor_42 (by decide) ?_
      exact ih2 (by omega) (hp2.trans (fs_step (by omega) (decide_eq_false (by omega))))
    · refine v_aload_n dX7_jokeFor_22 rfl ?_
      refine v_iload_n dX7_jokeFor_23 rfl ?_
      refine v_iconst (v := nI 3) dX7_jokeFor_24 (by decide) ?_
      refine v_callV (st := []) dX7_jokeFor_25 (t_X7_booked (p := i2) (w := 3) ho hv hK (by omega) (by omega) (by omega) (by omega)) wX7_101 ho rfl rfl ⟨Nat.le_of_ble_eq_true rfl, Nat.le_of_ble_eq_true rfl⟩ (Nat.le_of_ble_eq_true rfl) ⟨Nat.le_of_ble_eq_true rfl, Nat.le_of_ble_eq_true rfl⟩ (fun r n2 h2 hq => ?_)
      obtain ⟨rfl, hn9, hh9⟩ := hq; replace hn9 := hn9.symm; subst hn9; replace hh9 := hh9.symm; subst hh9
      refine v_st (st2 := [.int (nI (C 14 i2))]) rfl ?_
      have b25 := hK 14 i2
      refine v_iload_n dX7_jokeFor_28 rfl ?_
      refine n_icmp_ne (tgt := 39) (x := C 14 i2) (y := k) dX7_jokeFor_29 (by decide) (by omega) (by omega) (fun c26 => ?_) (fun c26 => ?_)
      · refine n_iinc (k := 1) (x := i2) dX7_jokeFor_39 (by decide) rfl rfl (by decide) ?_
        refine v_ls (ls2 := [some (.ref m), some (.int (nI f)), some (.int (nI k)), some (.int (nI (i2 + 1)))]) rfl ?_
        refine v_goto (tgt := 2) dX7_jokeFor_42 (by decide) ?_
        exact ih2 (by omega) (hp2.trans (fs_step (by omega) (decide_eq_false (by omega))))
      · refine v_aload_n dX7_jokeFor_32 rfl ?_
        refine v_iload_n dX7_jokeFor_33 rfl ?_
        refine v_iconst (v := nI 1) dX7_jokeFor_34 (by decide) ?_
        refine v_callV (st := []) dX7_jokeFor_35 (t_X7_booked (p := i2) (w := 1) ho hv hK (by omega) (by omega) (by omega) (by omega)) wX7_101 ho rfl rfl ⟨Nat.le_of_ble_eq_true rfl, Nat.le_of_ble_eq_true rfl⟩ (Nat.le_of_ble_eq_true rfl) ⟨Nat.le_of_ble_eq_true rfl, Nat.le_of_ble_eq_true rfl⟩ (fun r n2 h2 hq => ?_)
        obtain ⟨rfl, hn9, hh9⟩ := hq; replace hn9 := hn9.symm; subst hn9; replace hh9 := hh9.symm; subst hh9
        refine v_st (st2 := [.int (nI (C 12 i2))]) rfl ?_
        have b27 := hK 12 i2
        refine v_iret dX7_jokeFor_38 rfl ?_ (Nat.le_of_ble_eq_true rfl) (Nat.le_of_ble_eq_true rfl)
        exact ⟨by rw [hp2, fs_hit (by omega) (decide_eq_true (by constructor <;> assumption))]; rfl, rfl, rfl⟩
set_option maxRecDepth 20000 in
set_option maxHeartbeats 4000000 in
theorem t_X7_patentsAll {l : Launch} {G : vG} {h : AH} {n : Nat}  {m ch sv tn hr en ln wg dg : Nat} {fl wy dt : Int32} {b : Nat} {C : Ct} (ho : h m = some (mo m ch sv tn hr en ln wg dg fl wy dt)) (hv : h (m + 1) = some (ar G 182 (vO C))) (hK : bdk b C) (hb2 : b + 1000 ≤ 2 ^ 28) (hJ : C 0 1 ≤ 12) : Mt l G mX7_patentsOf [.ref m, .int ((-1))] (n) h 0 0 (fun r n2 h2 => r = some (.int (nI (pat C))) ∧ n2 = n ∧ h2 = h) := by
  refine Mt.of (by decide) (Nat.le_of_ble_eq_true rfl) rfl ?_
  refine v_ls (ls2 := [some (.ref m), some (.int ((-1))), none, none]) rfl ?_
  have hB := hK.bd (by omega)
  refine v_iconst (v := nI 0) dX7_patentsOf_0 (by decide) ?_
  refine v_istore_n dX7_patentsOf_1 rfl (by decide) ?_
  refine v_ls (ls2 := [some (.ref m), some (.int ((-1))), some (.int (nI 0)), none]) rfl ?_
  refine v_iconst (v := nI 0) dX7_patentsOf_2 (by decide) ?_
  refine v_istore_n dX7_patentsOf_3 rfl (by decide) ?_
  refine v_ls (ls2 := [some (.ref m), some (.int ((-1))), some (.int (nI 0)), some (.int (nI 0))]) rfl ?_
  refine loopV (fun i4 => [some (.ref m), some (.int ((-1))), some (.int (nI (cnt (fun z => decide (hold C z)) i4))), some (.int (nI i4))]) (fun i4 => True) (N := C 0 1) 0 (by omega) rfl trivial (fun i4 hi4 hp4 ih4 => ?_)
  refine v_iload_n dX7_patentsOf_4 rfl ?_
  refine v_aload_n dX7_patentsOf_5 rfl ?_
  refine fX7_7 (v := .ref (m + 1)) rfl dX7_patentsOf_6 ho rfl ?_
  refine v_iconst (v := nI 1) dX7_patentsOf_9 (by decide) ?_
  refine n_ialdv (f := vO C) (j := 1) (y := C 0 1) dX7_patentsOf_10 hv (by omega) (by decide) ((vrd (C := C) lgn1 (Or.inl (by decide))).trans rfl) ?_
  have b21 := hK 0 1
  refine n_icmp_ge (tgt := 49) (x := i4) (y := C 0 1) dX7_patentsOf_11 (by decide) (by omega) (by omega) (fun c22 => ?_) (fun c22 => ?_)
  · refine v_iload_n dX7_patentsOf_49 rfl ?_
    refine v_iret dX7_patentsOf_50 rfl ?_ (Nat.le_of_ble_eq_true rfl) (Nat.le_of_ble_eq_true rfl)
    have e : i4 = C 0 1 := by omega
    subst e
    exact ⟨rfl, rfl, rfl⟩
  · refine v_iload_n dX7_patentsOf_14 rfl ?_
    refine v_aload_n dX7_patentsOf_15 rfl ?_
    refine v_iload_n dX7_patentsOf_16 rfl ?_
    refine v_callV (st := [.int (nI (cnt (fun z => decide (hold C z)) i4))]) dX7_patentsOf_17 (t_X7_owner (j := i4) ho hv hK (by omega) (by omega)) wX7_60 ho rfl rfl ⟨Nat.le_of_ble_eq_true rfl, Nat.le_of_ble_eq_true rfl⟩ (Nat.le_of_ble_eq_true rfl) ⟨Nat.le_of_ble_eq_true rfl, Nat.le_of_ble_eq_true rfl⟩ (fun r n2 h2 hq => ?_)
    obtain ⟨rfl, hn9, hh9⟩ := hq; replace hn9 := hn9.symm; subst hn9; replace hh9 := hh9.symm; subst hh9
    refine v_st (st2 := [.int (ow C i4), .int (nI (cnt (fun z => decide (hold C z)) i4))]) rfl ?_
    by_cases ho23 : hold C i4
    have b24 := hK 8 i4
    · refine v_st (st2 := [.int (nI (C 8 i4)), .int (nI (cnt (fun z => decide (hold C z)) i4))]) (by rw [ow_t ho23]; try rfl) ?_
      refine n_if_lt (tgt := 40) (x := C 8 i4) dX7_patentsOf_20 (by decide) (by omega) ?_
      refine v_iload_n dX7_patentsOf_23 rfl ?_
      refine v_if_lt (tgt := 36) dX7_patentsOf_24 (by decide) (fun _ => ?_) (fun c => absurd (by decide) c)
      refine v_iconst (v := nI 1) dX7_patentsOf_36 (by decide) ?_
      refine v_goto (tgt := 41) dX7_patentsOf_37 (by decide) ?_
      refine n_iadd (x := cnt (fun z => decide (hold C z)) i4) (y := 1) dX7_patentsOf_41 ?_
      refine v_istore_n dX7_patentsOf_42 rfl (by decide) ?_
      refine v_ls (ls2 := [some (.ref m), some (.int ((-1))), some (.int (nI ((cnt (fun z => decide (hold C z)) i4) + 1))), some (.int (nI i4))]) rfl ?_
      refine n_iinc (k := 1) (x := i4) dX7_patentsOf_43 (by decide) rfl rfl (by decide) ?_
      refine v_ls (ls2 := [some (.ref m), some (.int ((-1))), some (.int (nI ((cnt (fun z => decide (hold C z)) i4) + 1))), some (.int (nI (i4 + 1)))]) rfl ?_
      refine v_goto (tgt := 4) dX7_patentsOf_46 (by decide) ?_
      refine v_ls (ls2 := [some (.ref m), some (.int ((-1))), some (.int (nI (cnt (fun z => decide (hold C z)) ((i4 + 1))))), some (.int (nI ((i4 + 1))))]) ?_ (ih4 (by omega) trivial)
      rw [cnt_t (by simp only [decide_eq_true_eq, decide_eq_false_iff_not]; omega)]
    · refine v_st (st2 := [.int ((-1)), .int (nI (cnt (fun z => decide (hold C z)) i4))]) (by rw [ow_f ho23]; try rfl) ?_
      refine v_if_lt (tgt := 40) dX7_patentsOf_20 (by decide) (fun _ => ?_) (fun c => absurd (by decide) c)
      refine v_iconst (v := nI 0) dX7_patentsOf_40 (by decide) ?_
      refine n_iadd (x := cnt (fun z => decide (hold C z)) i4) (y := 0) dX7_patentsOf_41 ?_
      refine v_st (st2 := [.int (nI (cnt (fun z => decide (hold C z)) i4))]) rfl ?_
      refine v_istore_n dX7_patentsOf_42 rfl (by decide) ?_
      refine v_ls (ls2 := [some (.ref m), some (.int ((-1))), some (.int (nI (cnt (fun z => decide (hold C z)) i4))), some (.int (nI i4))]) rfl ?_
      refine n_iinc (k := 1) (x := i4) dX7_patentsOf_43 (by decide) rfl rfl (by decide) ?_
      refine v_ls (ls2 := [some (.ref m), some (.int ((-1))), some (.int (nI (cnt (fun z => decide (hold C z)) i4))), some (.int (nI (i4 + 1)))]) rfl ?_
      refine v_goto (tgt := 4) dX7_patentsOf_46 (by decide) ?_
      refine v_ls (ls2 := [some (.ref m), some (.int ((-1))), some (.int (nI (cnt (fun z => decide (hold C z)) ((i4 + 1))))), some (.int (nI ((i4 + 1))))]) ?_ (ih4 (by omega) trivial)
      rw [cnt_f (by simp only [decide_eq_true_eq, decide_eq_false_iff_not]; omega)]
set_option maxRecDepth 20000 in
set_option maxHeartbeats 4000000 in
theorem t_X7_patentsOf {l : Launch} {G : vG} {h : AH} {n : Nat} {f : Nat} {m ch sv tn hr en ln wg dg : Nat} {fl wy dt : Int32} {b : Nat} {C : Ct} (ho : h m = some (mo m ch sv tn hr en ln wg dg fl wy dt)) (hv : h (m + 1) = some (ar G 182 (vO C))) (hK : bdk b C) (hb2 : b + 1000 ≤ 2 ^ 28) (hJ : C 0 1 ≤ 12) (hf : f < 6) : Mt l G mX7_patentsOf [.ref m, .int (nI f)] (n) h 0 0 (fun r n2 h2 => r = some (.int (nI (cnt (fun z => decide (hold C z ∧ C 8 z = f)) (C 0 1)))) ∧ n2 = n ∧ h2 = h) := by
  refine Mt.of (by decide) (Nat.le_of_ble_eq_true rfl) rfl ?_
  refine v_ls (ls2 := [some (.ref m), some (.int (nI f)), none, none]) rfl ?_
  have hB := hK.bd (by omega)
  refine v_iconst (v := nI 0) dX7_patentsOf_0 (by decide) ?_
  refine v_istore_n dX7_patentsOf_1 rfl (by decide) ?_
  refine v_ls (ls2 := [some (.ref m), some (.int (nI f)), some (.int (nI 0)), none]) rfl ?_
  refine v_iconst (v := nI 0) dX7_patentsOf_2 (by decide) ?_
  refine v_istore_n dX7_patentsOf_3 rfl (by decide) ?_
  refine v_ls (ls2 := [some (.ref m), some (.int (nI f)), some (.int (nI 0)), some (.int (nI 0))]) rfl ?_
  refine loopV (fun i4 => [some (.ref m), some (.int (nI f)), some (.int (nI (cnt (fun z => decide (hold C z ∧ C 8 z = f)) i4))), some (.int (nI i4))]) (fun i4 => True) (N := C 0 1) 0 (by omega) rfl trivial (fun i4 hi4 hp4 ih4 => ?_)
  refine v_iload_n dX7_patentsOf_4 rfl ?_
  refine v_aload_n dX7_patentsOf_5 rfl ?_
  refine fX7_7 (v := .ref (m + 1)) rfl dX7_patentsOf_6 ho rfl ?_
  refine v_iconst (v := nI 1) dX7_patentsOf_9 (by decide) ?_
  refine n_ialdv (f := vO C) (j := 1) (y := C 0 1) dX7_patentsOf_10 hv (by omega) (by decide) ((vrd (C := C) lgn1 (Or.inl (by decide))).trans rfl) ?_
  have b21 := hK 0 1
  refine n_icmp_ge (tgt := 49) (x := i4) (y := C 0 1) dX7_patentsOf_11 (by decide) (by omega) (by omega) (fun c22 => ?_) (fun c22 => ?_)
  · refine v_iload_n dX7_patentsOf_49 rfl ?_
    refine v_iret dX7_patentsOf_50 rfl ?_ (Nat.le_of_ble_eq_true rfl) (Nat.le_of_ble_eq_true rfl)
    have e : i4 = C 0 1 := by omega
    subst e
    exact ⟨rfl, rfl, rfl⟩
  · refine v_iload_n dX7_patentsOf_14 rfl ?_
    refine v_aload_n dX7_patentsOf_15 rfl ?_
    refine v_iload_n dX7_patentsOf_16 rfl ?_
    refine v_callV (st := [.int (nI (cnt (fun z => decide (hold C z ∧ C 8 z = f)) i4))]) dX7_patentsOf_17 (t_X7_owner (j := i4) ho hv hK (by omega) (by omega)) wX7_60 ho rfl rfl ⟨Nat.le_of_ble_eq_true rfl, Nat.le_of_ble_eq_true rfl⟩ (Nat.le_of_ble_eq_true rfl) ⟨Nat.le_of_ble_eq_true rfl, Nat.le_of_ble_eq_true rfl⟩ (fun r n2 h2 hq => ?_)
    obtain ⟨rfl, hn9, hh9⟩ := hq; replace hn9 := hn9.symm; subst hn9; replace hh9 := hh9.symm; subst hh9
    refine v_st (st2 := [.int (ow C i4), .int (nI (cnt (fun z => decide (hold C z ∧ C 8 z = f)) i4))]) rfl ?_
    by_cases ho23 : hold C i4
    have b24 := hK 8 i4
    · refine v_st (st2 := [.int (nI (C 8 i4)), .int (nI (cnt (fun z => decide (hold C z ∧ C 8 z = f)) i4))]) (by rw [ow_t ho23]; try rfl) ?_
      refine n_if_lt (tgt := 40) (x := C 8 i4) dX7_patentsOf_20 (by decide) (by omega) ?_
      refine v_iload_n dX7_patentsOf_23 rfl ?_
      refine n_if_lt (tgt := 36) (x := f) dX7_patentsOf_24 (by decide) (by omega) ?_
      refine v_aload_n dX7_patentsOf_27 rfl ?_
      refine v_iload_n dX7_patentsOf_28 rfl ?_
      refine v_callV (st := [.int (nI (cnt (fun z => decide (hold C z ∧ C 8 z = f)) i4))]) dX7_patentsOf_29 (t_X7_owner (j := i4) ho hv hK (by omega) (by omega)) wX7_60 ho rfl rfl ⟨Nat.le_of_ble_eq_true rfl, Nat.le_of_ble_eq_true rfl⟩ (Nat.le_of_ble_eq_true rfl) ⟨Nat.le_of_ble_eq_true rfl, Nat.le_of_ble_eq_true rfl⟩ (fun r n2 h2 hq => ?_)
      obtain ⟨rfl, hn9, hh9⟩ := hq; replace hn9 := hn9.symm; subst hn9; replace hh9 := hh9.symm; subst hh9
      refine v_st (st2 := [.int (nI (C 8 i4)), .int (nI (cnt (fun z => decide (hold C z ∧ C 8 z = f)) i4))]) (by rw [ow_t ho23]; try rfl) ?_
      refine v_iload_n dX7_patentsOf_32 rfl ?_
      refine n_icmp_ne (tgt := 40) (x := C 8 i4) (y := f) dX7_patentsOf_33 (by decide) (by omega) (by omega) (fun c25 => ?_) (fun c25 => ?_)
      · refine v_iconst (v := nI 0) dX7_patentsOf_40 (by decide) ?_
        refine n_iadd (x := cnt (fun z => decide (hold C z ∧ C 8 z = f)) i4) (y := 0) dX7_patentsOf_41 ?_
        refine v_st (st2 := [.int (nI (cnt (fun z => decide (hold C z ∧ C 8 z = f)) i4))]) rfl ?_
        refine v_istore_n dX7_patentsOf_42 rfl (by decide) ?_
        refine v_ls (ls2 := [some (.ref m), some (.int (nI f)), some (.int (nI (cnt (fun z => decide (hold C z ∧ C 8 z = f)) i4))), some (.int (nI i4))]) rfl ?_
        refine n_iinc (k := 1) (x := i4) dX7_patentsOf_43 (by decide) rfl rfl (by decide) ?_
        refine v_ls (ls2 := [some (.ref m), some (.int (nI f)), some (.int (nI (cnt (fun z => decide (hold C z ∧ C 8 z = f)) i4))), some (.int (nI (i4 + 1)))]) rfl ?_
        refine v_goto (tgt := 4) dX7_patentsOf_46 (by decide) ?_
        refine v_ls (ls2 := [some (.ref m), some (.int (nI f)), some (.int (nI (cnt (fun z => decide (hold C z ∧ C 8 z = f)) ((i4 + 1))))), some (.int (nI ((i4 + 1))))]) ?_ (ih4 (by omega) trivial)
        rw [cnt_f (by simp only [decide_eq_true_eq, decide_eq_false_iff_not]; omega)]
      · refine v_iconst (v := nI 1) dX7_patentsOf_36 (by decide) ?_
        refine v_goto (tgt := 41) dX7_patentsOf_37 (by decide) ?_
        refine n_iadd (x := cnt (fun z => decide (hold C z ∧ C 8 z = f)) i4) (y := 1) dX7_patentsOf_41 ?_
        refine v_istore_n dX7_patentsOf_42 rfl (by decide) ?_
        refine v_ls (ls2 := [some (.ref m), some (.int (nI f)), some (.int (nI ((cnt (fun z => decide (hold C z ∧ C 8 z = f)) i4) + 1))), some (.int (nI i4))]) rfl ?_
        refine n_iinc (k := 1) (x := i4) dX7_patentsOf_43 (by decide) rfl rfl (by decide) ?_
        refine v_ls (ls2 := [some (.ref m), some (.int (nI f)), some (.int (nI ((cnt (fun z => decide (hold C z ∧ C 8 z = f)) i4) + 1))), some (.int (nI (i4 + 1)))]) rfl ?_
        refine v_goto (tgt := 4) dX7_patentsOf_46 (by decide) ?_
        refine v_ls (ls2 := [some (.ref m), some (.int (nI f)), some (.int (nI (cnt (fun z => decide (hold C z ∧ C 8 z = f)) ((i4 + 1))))), some (.int (nI ((i4 + 1))))]) ?_ (ih4 (by omega) trivial)
        rw [cnt_t (by simp only [decide_eq_true_eq, decide_eq_false_iff_not]; omega)]
    · refine v_st (st2 := [.int ((-1)), .int (nI (cnt (fun z => decide (hold C z ∧ C 8 z = f)) i4))]) (by rw [ow_f ho23]; try rfl) ?_
      refine v_if_lt (tgt := 40) dX7_patentsOf_20 (by decide) (fun _ => ?_) (fun c => absurd (by decide) c)
      refine v_iconst (v := nI 0) dX7_patentsOf_40 (by decide) ?_
      refine n_iadd (x := cnt (fun z => decide (hold C z ∧ C 8 z = f)) i4) (y := 0) dX7_patentsOf_41 ?_
      refine v_st (st2 := [.int (nI (cnt (fun z => decide (hold C z ∧ C 8 z = f)) i4))]) rfl ?_
      refine v_istore_n dX7_patentsOf_42 rfl (by decide) ?_
      refine v_ls (ls2 := [some (.ref m), some (.int (nI f)), some (.int (nI (cnt (fun z => decide (hold C z ∧ C 8 z = f)) i4))), some (.int (nI i4))]) rfl ?_
      refine n_iinc (k := 1) (x := i4) dX7_patentsOf_43 (by decide) rfl rfl (by decide) ?_
      refine v_ls (ls2 := [some (.ref m), some (.int (nI f)), some (.int (nI (cnt (fun z => decide (hold C z ∧ C 8 z = f)) i4))), some (.int (nI (i4 + 1)))]) rfl ?_
      refine v_goto (tgt := 4) dX7_patentsOf_46 (by decide) ?_
      refine v_ls (ls2 := [some (.ref m), some (.int (nI f)), some (.int (nI (cnt (fun z => decide (hold C z ∧ C 8 z = f)) ((i4 + 1))))), some (.int (nI ((i4 + 1))))]) ?_ (ih4 (by omega) trivial)
      rw [cnt_f (by simp only [decide_eq_true_eq, decide_eq_false_iff_not]; omega)]
set_option maxRecDepth 20000 in
set_option maxHeartbeats 4000000 in
theorem t_X7_laughs {l : Launch} {G : vG} {h : AH} {n : Nat} {f j t : Nat} {m ch sv tn hr en ln wg dg : Nat} {fl wy dt : Int32} {b : Nat} {C : Ct} (ho : h m = some (mo m ch sv tn hr en ln wg dg fl wy dt)) (hv : h (m + 1) = some (ar G 182 (vO C))) (hK : bdk b C) (hb2 : b + 1000 ≤ 2 ^ 28) (hf : f < 6) (hj : j < 12) (ht : t < 4) : Mt l G mX7_laughs [.ref m, .int (nI f), .int (nI j), .int (nI t)] (n) h 0 0 (fun r n2 h2 => r = some (.int (nI (lau C f j t))) ∧ n2 = n ∧ h2 = h) := by
  refine Mt.of (by decide) (Nat.le_of_ble_eq_true rfl) rfl ?_
  refine v_ls (ls2 := [some (.ref m), some (.int (nI f)), some (.int (nI j)), some (.int (nI t)), none]) rfl ?_
  have hB := hK.bd (by omega)
  have b10 := hB 10 (j * 4 + t)
  refine v_aload_n dX7_laughs_0 rfl ?_
  refine fX7_7 (v := .ref (m + 1)) rfl dX7_laughs_1 ho rfl ?_
  refine v_iload_n dX7_laughs_4 rfl ?_
  refine v_iconst (v := nI 0) dX7_laughs_5 (by decide) ?_
  refine v_callS (st := [.ref (m + 1)]) dX7_laughs_6 (t_X7_in (f := j) (w := 0)) wX7_56 rfl ⟨Nat.le_of_ble_eq_true rfl, Nat.le_of_ble_eq_true rfl⟩ (Nat.le_of_ble_eq_true rfl) ⟨Nat.le_of_ble_eq_true rfl, Nat.le_of_ble_eq_true rfl⟩ (fun r n2 h2 hq => ?_)
  obtain ⟨rfl, hn9, hh9⟩ := hq; replace hn9 := hn9.symm; subst hn9; replace hh9 := hh9.symm; subst hh9
  refine v_st (st2 := [.int (nI (46 + 3 * j + 0)), .ref (m + 1)]) rfl ?_
  refine n_ialdv (f := vO C) (j := 46 + 3 * j + 0) (y := C 7 j) dX7_laughs_9 hv (by omega) (by decide) ((vrd (C := C) (lgJ (f := j) (w := 0) (by omega) (by decide)) (Or.inl (by omega))).trans rfl) ?_
  have b21 := hK 7 j
  refine v_aload_n dX7_laughs_10 rfl ?_
  refine fX7_7 (v := .ref (m + 1)) rfl dX7_laughs_11 ho rfl ?_
  refine v_iload_n dX7_laughs_14 rfl ?_
  refine v_iconst (v := nI 0) dX7_laughs_15 (by decide) ?_
  refine v_callS (st := [.ref (m + 1), .int (nI (C 7 j))]) dX7_laughs_16 (t_X7_at (f := f) (w := 0)) wX7_63 rfl ⟨Nat.le_of_ble_eq_true rfl, Nat.le_of_ble_eq_true rfl⟩ (Nat.le_of_ble_eq_true rfl) ⟨Nat.le_of_ble_eq_true rfl, Nat.le_of_ble_eq_true rfl⟩ (fun r n2 h2 hq => ?_)
  obtain ⟨rfl, hn9, hh9⟩ := hq; replace hn9 := hn9.symm; subst hn9; replace hh9 := hh9.symm; subst hh9
  refine v_st (st2 := [.int (nI (10 + 6 * f + 0)), .ref (m + 1), .int (nI (C 7 j))]) rfl ?_
  refine n_ialdv (f := vO C) (j := 10 + 6 * f + 0) (y := C 1 f) dX7_laughs_19 hv (by omega) (by decide) ((vrd (C := C) (lgF (f := f) (w := 0) (by omega) (by decide)) (Or.inl (by omega))).trans rfl) ?_
  have b22 := hK 1 f
  refine n_iadd (x := C 7 j) (y := C 1 f) dX7_laughs_20 ?_
  refine v_iconst (v := nI 2) dX7_laughs_21 (by decide) ?_
  refine v_aload_n dX7_laughs_22 rfl ?_
  refine fX7_7 (v := .ref (m + 1)) rfl dX7_laughs_23 ho rfl ?_
  refine v_bipush (v := nI 94) dX7_laughs_26 (by decide) ?_
  refine v_iconst (v := nI 4) dX7_laughs_28 (by decide) ?_
  refine v_iload_n dX7_laughs_29 rfl ?_
  refine n_imul (x := 4) (y := j) dX7_laughs_30 ?_
  refine n_iadd (x := 94) (y := 4 * j) dX7_laughs_31 ?_
  refine v_iload_n dX7_laughs_32 rfl ?_
  refine n_iadd (x := 94 + (4 * j)) (y := t) dX7_laughs_33 ?_
  refine n_ialdv (f := vO C) (j := (94 + (4 * j)) + t) (y := C 10 (j * 4 + t)) dX7_laughs_34 hv (by omega) (by decide) ((vrd (C := C) (lgC (j := j) (t := t) (by omega)) (Or.inl (by omega))).trans rfl) ?_
  have b23 := hK 10 (j * 4 + t)
  refine n_imul (x := 2) (y := C 10 (j * 4 + t)) dX7_laughs_35 ?_
  refine v_isub dX7_laughs_36 ?_
  refine v_istore dX7_laughs_37 rfl (by decide) ?_
  refine v_ls (ls2 := [some (.ref m), some (.int (nI f)), some (.int (nI j)), some (.int (nI t)), some (.int (nI (C 7 j + C 1 f) - nI (2 * (C 10 (j * 4 + t)))))]) rfl ?_
  refine v_iload dX7_laughs_39 rfl ?_
  refine v_if_ge (tgt := 48) dX7_laughs_41 (by decide) (fun c24 => ?_) (fun c24 => ?_)
  · rw [sub_ge0 (by omega) (by omega)] at c24
    refine v_iload dX7_laughs_48 rfl ?_
    refine v_iret dX7_laughs_50 rfl ?_ (Nat.le_of_ble_eq_true rfl) (Nat.le_of_ble_eq_true rfl)
    exact ⟨by rw [pk_sub (by omega)], rfl, rfl⟩
  · rw [sub_ge0 (by omega) (by omega)] at c24
    refine v_iconst (v := nI 0) dX7_laughs_44 (by decide) ?_
    refine v_goto (tgt := 50) dX7_laughs_45 (by decide) ?_
    refine v_iret dX7_laughs_50 rfl ?_ (Nat.le_of_ble_eq_true rfl) (Nat.le_of_ble_eq_true rfl)
    exact ⟨by rw [show lau C f j t = 0 by show C 7 j + C 1 f - 2 * C 10 (j * 4 + t) = 0; omega], rfl, rfl⟩
set_option maxRecDepth 20000 in
set_option maxHeartbeats 4000000 in
theorem t_X7_wouldGet {l : Launch} {G : vG} {h : AH} {n : Nat} {f j t : Nat} {m ch sv tn hr en ln wg dg : Nat} {fl wy dt : Int32} {b : Nat} {C : Ct} (ho : h m = some (mo m ch sv tn hr en ln wg dg fl wy dt)) (hv : h (m + 1) = some (ar G 182 (vO C))) (hK : bdk b C) (hb2 : b + 1000 ≤ 2 ^ 28) (hf : f < 6) (hj : j < 12) (ht : t < 4) : Mt l G mX7_wouldGet [.ref m, .int (nI f), .int (nI j), .int (nI t)] (n) h 0 0 (fun r n2 h2 => r = some (.int (nI (lauN C f j t))) ∧ n2 = n ∧ h2 = h) := by
  refine Mt.of (by decide) (Nat.le_of_ble_eq_true rfl) rfl ?_
  refine v_ls (ls2 := [some (.ref m), some (.int (nI f)), some (.int (nI j)), some (.int (nI t))]) rfl ?_
  have hB := hK.bd (by omega)
  refine v_aload_n dX7_wouldGet_0 rfl ?_
  refine fX7_7 (v := .ref (m + 1)) rfl dX7_wouldGet_1 ho rfl ?_
  refine v_iload_n dX7_wouldGet_4 rfl ?_
  refine v_iconst (v := nI 0) dX7_wouldGet_5 (by decide) ?_
  refine v_callS (st := [.ref (m + 1)]) dX7_wouldGet_6 (t_X7_of (f := t) (w := 0)) wX7_116 rfl ⟨Nat.le_of_ble_eq_true rfl, Nat.le_of_ble_eq_true rfl⟩ (Nat.le_of_ble_eq_true rfl) ⟨Nat.le_of_ble_eq_true rfl, Nat.le_of_ble_eq_true rfl⟩ (fun r n2 h2 hq => ?_)
  obtain ⟨rfl, hn9, hh9⟩ := hq; replace hn9 := hn9.symm; subst hn9; replace hh9 := hh9.symm; subst hh9
  refine v_st (st2 := [.int (nI (82 + 3 * t + 0)), .ref (m + 1)]) rfl ?_
  refine n_ialdv (f := vO C) (j := 82 + 3 * t + 0) (y := C 15 t) dX7_wouldGet_9 hv (by omega) (by decide) ((vrd (C := C) (lgT0 (f := t) (by omega)) (Or.inl (by omega))).trans rfl) ?_
  have b21 := hK 15 t
  refine v_iconst (v := nI 1) dX7_wouldGet_10 (by decide) ?_
  refine n_icmp_eq (tgt := 23) (x := C 15 t) (y := 1) dX7_wouldGet_11 (by decide) (by omega) (by omega) (fun c22 => ?_) (fun c22 => ?_)
  · refine v_iconst (v := nI 0) dX7_wouldGet_23 (by decide) ?_
    refine v_goto (tgt := 34) dX7_wouldGet_24 (by decide) ?_
    refine v_iret dX7_wouldGet_34 rfl ?_ (Nat.le_of_ble_eq_true rfl) (Nat.le_of_ble_eq_true rfl)
    exact ⟨by rw [show lauN C f j t = 0 from if_pos (by first | exact Or.inl (by assumption) | exact Or.inr (by assumption))], rfl, rfl⟩
  · refine v_aload_n dX7_wouldGet_14 rfl ?_
    refine v_iload_n dX7_wouldGet_15 rfl ?_
    refine v_iload_n dX7_wouldGet_16 rfl ?_
    refine v_callV (st := []) dX7_wouldGet_17 (t_X7_isBarred (f := f) (j := j) ho hv hK (by omega) (by omega) (by omega)) wX7_125 ho rfl rfl ⟨Nat.le_of_ble_eq_true rfl, Nat.le_of_ble_eq_true rfl⟩ (Nat.le_of_ble_eq_true rfl) ⟨Nat.le_of_ble_eq_true rfl, Nat.le_of_ble_eq_true rfl⟩ (fun r n2 h2 hq => ?_)
    obtain ⟨rfl, hn9, hh9⟩ := hq; replace hn9 := hn9.symm; subst hn9; replace hh9 := hh9.symm; subst hh9
    refine v_st (st2 := [.int (nI (bI (barr C f j)))]) rfl ?_
    refine n_ifb_eq (tgt := 27) (p := barr C f j) dX7_wouldGet_20 (by decide) (fun c23 => ?_) (fun c23 => ?_)
    · refine v_aload_n dX7_wouldGet_27 rfl ?_
      refine v_iload_n dX7_wouldGet_28 rfl ?_
      refine v_iload_n dX7_wouldGet_29 rfl ?_
      refine v_iload_n dX7_wouldGet_30 rfl ?_
      refine v_callV (st := []) dX7_wouldGet_31 (t_X7_laughs (f := f) (j := j) (t := t) ho hv hK (by omega) (by omega) (by omega) (by omega)) wX7_137 ho rfl rfl ⟨Nat.le_of_ble_eq_true rfl, Nat.le_of_ble_eq_true rfl⟩ (Nat.le_of_ble_eq_true rfl) ⟨Nat.le_of_ble_eq_true rfl, Nat.le_of_ble_eq_true rfl⟩ (fun r n2 h2 hq => ?_)
      obtain ⟨rfl, hn9, hh9⟩ := hq; replace hn9 := hn9.symm; subst hn9; replace hh9 := hh9.symm; subst hh9
      have bl24 := lau_bd hB f j t
      refine v_st (st2 := [.int (nI (lau C f j t))]) rfl ?_
      refine v_iret dX7_wouldGet_34 rfl ?_ (Nat.le_of_ble_eq_true rfl) (Nat.le_of_ble_eq_true rfl)
      exact ⟨by rw [show lauN C f j t = lau C f j t from if_neg (fun z => z.elim (fun z => absurd z (by assumption)) (fun z => absurd z (by assumption)))], rfl, rfl⟩
    · refine v_iconst (v := nI 0) dX7_wouldGet_23 (by decide) ?_
      refine v_goto (tgt := 34) dX7_wouldGet_24 (by decide) ?_
      refine v_iret dX7_wouldGet_34 rfl ?_ (Nat.le_of_ble_eq_true rfl) (Nat.le_of_ble_eq_true rfl)
      exact ⟨by rw [show lauN C f j t = 0 from if_pos (by first | exact Or.inl (by assumption) | exact Or.inr (by assumption))], rfl, rfl⟩
set_option maxRecDepth 20000 in
set_option maxHeartbeats 4000000 in
theorem t_X7_passes {l : Launch} {G : vG} {h : AH} {n : Nat} {x : Int32} {m ch sv tn hr en ln wg dg : Nat} {fl wy dt : Int32} {b : Nat} {C : Ct} (ho : h m = some (mo m ch sv tn hr en ln wg dg fl wy dt)) (hv : h (m + 1) = some (ar G 182 (vO C))) (hK : bdk b C) (hb1 : 200 ≤ b) (hb2 : b + 5000 ≤ 2 ^ 28) (hI : Iv C) : Mt l G mX7_passes [.ref m, .int x] (n) h 0 0 (pm G m ch sv tn hr en ln wg dg fl wy dt C h n (dPass C x)) := by
  refine Mt.of (by decide) (Nat.le_of_ble_eq_true rfl) rfl ?_
  refine v_ls (ls2 := [some (.ref m), some (.int x), none]) rfl ?_
  have hB := hK.bd (by omega)
  obtain ⟨hF, hJ, hn, hs1, hc99, hs4, hs7, hs8, hs15, hbk9, hs9⟩ := hI.1
  have b00 := hB 0 0
  have b01 := hB 0 1
  have b02 := hB 0 2
  have b03 := hB 0 3
  refine v_iload_n dX7_passes_0 rfl ?_
  refine v_iconst (v := nI 1) dX7_passes_1 (by decide) ?_
  refine v_bipush (v := nI 24) dX7_passes_2 (by decide) ?_
  refine v_callS (st := []) dX7_passes_4 (t_X7_isIn (x := x) (a := nI 1) (z := nI 24)) wX7_52 rfl ⟨Nat.le_of_ble_eq_true rfl, Nat.le_of_ble_eq_true rfl⟩ (Nat.le_of_ble_eq_true rfl) ⟨Nat.le_of_ble_eq_true rfl, Nat.le_of_ble_eq_true rfl⟩ (fun r n2 h2 hq => ?_)
  obtain ⟨rfl, hn9, hh9⟩ := hq; replace hn9 := hn9.symm; subst hn9; replace hh9 := hh9.symm; subst hh9
  refine v_st (st2 := [.int (nI (bI (¬ x < nI 1 ∧ ¬ nI 24 < x)))]) rfl ?_
  refine n_ifb_ne (tgt := 18) (p := ¬ x < nI 1 ∧ ¬ nI 24 < x) dX7_passes_7 (by decide) (fun c21 => ?_) (fun c21 => ?_)
  · have c21a : ¬ x < nI 1 := (yes_rg c21).1
    have c21b : x ≤ nI 24 := (yes_rg c21).2
    clear c21
    obtain ⟨k, hk1, hk2, rfl⟩ := rg_of (a := 1) (b := 24) c21a c21b (by decide) (by decide)
    have ek : (nI k).toNatClampNeg = k := nI_clamp (by omega)
    refine v_aload_n dX7_passes_18 rfl ?_
    refine fX7_7 (v := .ref (m + 1)) rfl dX7_passes_19 ho rfl ?_
    refine v_iconst (v := nI 2) dX7_passes_22 (by decide) ?_
    refine n_ialdv (f := vO C) (j := 2) (y := C 0 2) dX7_passes_23 hv (by omega) (by decide) ((vrd (C := C) lgn2 (Or.inl (by decide))).trans rfl) ?_
    have b22 := hK 0 2
    refine n_if_le (tgt := 56) (x := C 0 2) dX7_passes_24 (by decide) (by omega) (fun c23 => ?_) (fun c23 => ?_)
    · refine v_aload_n dX7_passes_56 rfl ?_
      refine v_iconst (v := (-1)) dX7_passes_57 (by decide) ?_
      refine v_callV (st := []) dX7_passes_58 (t_X7_patentsAll ho hv hK (by omega) (by show C 0 1 ≤ 12; omega)) wX7_104 ho rfl rfl ⟨Nat.le_of_ble_eq_true rfl, Nat.le_of_ble_eq_true rfl⟩ (Nat.le_of_ble_eq_true rfl) ⟨Nat.le_of_ble_eq_true rfl, Nat.le_of_ble_eq_true rfl⟩ (fun r n2 h2 hq => ?_)
      obtain ⟨rfl, hn9, hh9⟩ := hq; replace hn9 := hn9.symm; subst hn9; replace hh9 := hh9.symm; subst hh9
      refine v_st (st2 := [.int (nI (pat C))]) rfl ?_
      refine v_istore_n dX7_passes_61 rfl (by decide) ?_
      refine v_ls (ls2 := [some (.ref m), some (.int (nI k)), some (.int (nI (pat C)))]) rfl ?_
      refine v_aload_n dX7_passes_62 rfl ?_
      refine fX7_7 (v := .ref (m + 1)) rfl dX7_passes_63 ho rfl ?_
      refine v_iconst (v := nI 3) dX7_passes_66 (by decide) ?_
      refine v_dup2 dX7_passes_67 rfl rfl ?_
      refine n_ialdv (f := vO C) (j := 3) (y := C 0 3) dX7_passes_68 hv (by omega) (by decide) ((vrd (C := C) lgn3 (Or.inl (by decide))).trans rfl) ?_
      have b24 := hK 0 3
      refine v_iload_n dX7_passes_69 rfl ?_
      refine n_iadd (x := C 0 3) (y := k) dX7_passes_70 ?_
      refine n_iast (f := vO C) (j := 3) (x := C 0 3 + k) dX7_passes_71 hv (by omega) (by decide) ?_
      refine nw (fun h1 f1 s1 => ?_)
      have hv25 : h1 (m + 1) = some (ar G 182 (vO (cu C 0 3 (C 0 3 + k)))) := Eq.mp (congrArg (fun F => h1 (m + 1) = some (ar G 182 F)) (vup (C := C) lgn3 (Or.inl (by decide)) (by omega))) f1
      have sa25 := s1
      clear f1 s1
      have hK25 : bdk (b + 100) (cu C 0 3 (C 0 3 + k)) := bdk_cu hK (by omega) (by omega)
      have hD25 := hK25.bd (by omega)
      have fa26 := (sa25 (m) (by omega)).trans ho
      have fr27 := offn_in (k := 2) (q := m) offn_rf sa25 (by omega)
      refine v_iload_n dX7_passes_72 rfl ?_
      refine v_aload_n dX7_passes_73 rfl ?_
      refine v_iconst (v := (-1)) dX7_passes_74 (by decide) ?_
      refine v_callV (st := [.int (nI (pat C))]) dX7_passes_75 (t_X7_patentsAll fa26 hv25 hK25 (by omega) (by show C 0 1 ≤ 12; omega)) wX7_104 fa26 rfl rfl ⟨Nat.le_of_ble_eq_true rfl, Nat.le_of_ble_eq_true rfl⟩ (Nat.le_of_ble_eq_true rfl) ⟨Nat.le_of_ble_eq_true rfl, Nat.le_of_ble_eq_true rfl⟩ (fun r n2 h2 hq => ?_)
      obtain ⟨rfl, hn9, hh9⟩ := hq; replace hn9 := hn9.symm; subst hn9; replace hh9 := hh9.symm; subst hh9
      refine v_st (st2 := [.int (nI (pat (cu C 0 3 (C 0 3 + k)))), .int (nI (pat C))]) rfl ?_
      have hpa : pat C ≤ C 0 1 := cnt_le _ _
      have hle : pat (cu C 0 3 (C 0 3 + k)) ≤ pat C := cnt_imp (fun z hz => decide_eq_true (Nat.lt_of_le_of_lt (Nat.le_add_right _ _) (of_decide_eq_true hz))) _
      refine n_isub (x := pat C) (y := pat (cu C 0 3 (C 0 3 + k))) dX7_passes_78 (by omega) ?_
      refine v_iret dX7_passes_79 rfl ?_ (Nat.le_of_ble_eq_true rfl) (Nat.le_of_ble_eq_true rfl)
      have e9 : dPass C (nI k) = ((nI (pat C - (pat (cu C 0 3 (C 0 3 + k)))) : Int32), (cu C 0 3 (C 0 3 + k) : Ct), (none : Option (Int32 × Int32))) := by unfold dPass; all_goals (repeat (first | rw [if_pos (by first | assumption | omega | rfl | trivial)] | rw [if_neg (by first | assumption | omega)])); all_goals (try simp only [ek]); all_goals (try unfold dPassN); all_goals (repeat (first | rw [if_pos (by first | assumption | omega | rfl | trivial)] | rw [if_neg (by first | assumption | omega)])); all_goals (try unfold dPs); all_goals (repeat (first | rw [if_pos (by first | assumption | omega | rfl | trivial)] | rw [if_neg (by first | assumption | omega)])); all_goals rfl
      exact pm_of e9 ⟨rfl, rfl, by rw [mf_p (nI_pos (by omega))]; exact fa26, hv25, fr27, fun z => absurd z (nI_pos (by omega))⟩
    · refine v_aload_n dX7_passes_27 rfl ?_
      refine v_iconst (v := nI 0) dX7_passes_28 (by decide) ?_
      refine v_iconst (v := nI 3) dX7_passes_29 (by decide) ?_
      refine v_callV (st := []) dX7_passes_30 (t_X7_booked (p := 0) (w := 3) ho hv hK (by omega) (by omega) (by omega) (by omega)) wX7_101 ho rfl rfl ⟨Nat.le_of_ble_eq_true rfl, Nat.le_of_ble_eq_true rfl⟩ (Nat.le_of_ble_eq_true rfl) ⟨Nat.le_of_ble_eq_true rfl, Nat.le_of_ble_eq_true rfl⟩ (fun r n2 h2 hq => ?_)
      obtain ⟨rfl, hn9, hh9⟩ := hq; replace hn9 := hn9.symm; subst hn9; replace hh9 := hh9.symm; subst hh9
      refine v_st (st2 := [.int (nI (C 14 0))]) rfl ?_
      have b28 := hK 14 0
      refine v_aload_n dX7_passes_33 rfl ?_
      refine fX7_7 (v := .ref (m + 1)) rfl dX7_passes_34 ho rfl ?_
      refine v_iconst (v := nI 3) dX7_passes_37 (by decide) ?_
      refine n_ialdv (f := vO C) (j := 3) (y := C 0 3) dX7_passes_38 hv (by omega) (by decide) ((vrd (C := C) lgn3 (Or.inl (by decide))).trans rfl) ?_
      have b29 := hK 0 3
      refine v_iload_n dX7_passes_39 rfl ?_
      refine n_iadd (x := C 0 3) (y := k) dX7_passes_40 ?_
      refine n_icmp_ge (tgt := 56) (x := C 14 0) (y := C 0 3 + k) dX7_passes_41 (by decide) (by omega) (by omega) (fun c30 => ?_) (fun c30 => ?_)
      · refine v_aload_n dX7_passes_56 rfl ?_
        refine v_iconst (v := (-1)) dX7_passes_57 (by decide) ?_
        refine v_callV (st := []) dX7_passes_58 (t_X7_patentsAll ho hv hK (by omega) (by show C 0 1 ≤ 12; omega)) wX7_104 ho rfl rfl ⟨Nat.le_of_ble_eq_true rfl, Nat.le_of_ble_eq_true rfl⟩ (Nat.le_of_ble_eq_true rfl) ⟨Nat.le_of_ble_eq_true rfl, Nat.le_of_ble_eq_true rfl⟩ (fun r n2 h2 hq => ?_)
        obtain ⟨rfl, hn9, hh9⟩ := hq; replace hn9 := hn9.symm; subst hn9; replace hh9 := hh9.symm; subst hh9
        refine v_st (st2 := [.int (nI (pat C))]) rfl ?_
        refine v_istore_n dX7_passes_61 rfl (by decide) ?_
        refine v_ls (ls2 := [some (.ref m), some (.int (nI k)), some (.int (nI (pat C)))]) rfl ?_
        refine v_aload_n dX7_passes_62 rfl ?_
        refine fX7_7 (v := .ref (m + 1)) rfl dX7_passes_63 ho rfl ?_
        refine v_iconst (v := nI 3) dX7_passes_66 (by decide) ?_
        refine v_dup2 dX7_passes_67 rfl rfl ?_
        refine n_ialdv (f := vO C) (j := 3) (y := C 0 3) dX7_passes_68 hv (by omega) (by decide) ((vrd (C := C) lgn3 (Or.inl (by decide))).trans rfl) ?_
        refine v_iload_n dX7_passes_69 rfl ?_
        refine n_iadd (x := C 0 3) (y := k) dX7_passes_70 ?_
        refine n_iast (f := vO C) (j := 3) (x := C 0 3 + k) dX7_passes_71 hv (by omega) (by decide) ?_
        refine nw (fun h1 f1 s1 => ?_)
        have hv31 : h1 (m + 1) = some (ar G 182 (vO (cu C 0 3 (C 0 3 + k)))) := Eq.mp (congrArg (fun F => h1 (m + 1) = some (ar G 182 F)) (vup (C := C) lgn3 (Or.inl (by decide)) (by omega))) f1
        have sa31 := s1
        clear f1 s1
        have hK31 : bdk (b + 100) (cu C 0 3 (C 0 3 + k)) := bdk_cu hK (by omega) (by omega)
        have hD31 := hK31.bd (by omega)
        have fa32 := (sa31 (m) (by omega)).trans ho
        have fr33 := offn_in (k := 2) (q := m) offn_rf sa31 (by omega)
        refine v_iload_n dX7_passes_72 rfl ?_
        refine v_aload_n dX7_passes_73 rfl ?_
        refine v_iconst (v := (-1)) dX7_passes_74 (by decide) ?_
        refine v_callV (st := [.int (nI (pat C))]) dX7_passes_75 (t_X7_patentsAll fa32 hv31 hK31 (by omega) (by show C 0 1 ≤ 12; omega)) wX7_104 fa32 rfl rfl ⟨Nat.le_of_ble_eq_true rfl, Nat.le_of_ble_eq_true rfl⟩ (Nat.le_of_ble_eq_true rfl) ⟨Nat.le_of_ble_eq_true rfl, Nat.le_of_ble_eq_true rfl⟩ (fun r n2 h2 hq => ?_)
        obtain ⟨rfl, hn9, hh9⟩ := hq; replace hn9 := hn9.symm; subst hn9; replace hh9 := hh9.symm; subst hh9
        refine v_st (st2 := [.int (nI (pat (cu C 0 3 (C 0 3 + k)))), .int (nI (pat C))]) rfl ?_
        have hpa : pat C ≤ C 0 1 := cnt_le _ _
        have hle : pat (cu C 0 3 (C 0 3 + k)) ≤ pat C := cnt_imp (fun z hz => decide_eq_true (Nat.lt_of_le_of_lt (Nat.le_add_right _ _) (of_decide_eq_true hz))) _
        refine n_isub (x := pat C) (y := pat (cu C 0 3 (C 0 3 + k))) dX7_passes_78 (by omega) ?_
        refine v_iret dX7_passes_79 rfl ?_ (Nat.le_of_ble_eq_true rfl) (Nat.le_of_ble_eq_true rfl)
        have e9 : dPass C (nI k) = ((nI (pat C - (pat (cu C 0 3 (C 0 3 + k)))) : Int32), (cu C 0 3 (C 0 3 + k) : Ct), (none : Option (Int32 × Int32))) := by unfold dPass; all_goals (repeat (first | rw [if_pos (by first | assumption | omega | rfl | trivial)] | rw [if_neg (by first | assumption | omega)])); all_goals (try simp only [ek]); all_goals (try unfold dPassN); all_goals (repeat (first | rw [if_pos (by first | assumption | omega | rfl | trivial)] | rw [if_neg (by first | assumption | omega)])); all_goals (try unfold dPs); all_goals (repeat (first | rw [if_pos (by first | assumption | omega | rfl | trivial)] | rw [if_neg (by first | assumption | omega)])); all_goals rfl
        exact pm_of e9 ⟨rfl, rfl, by rw [mf_p (nI_pos (by omega))]; exact fa32, hv31, fr33, fun z => absurd z (nI_pos (by omega))⟩
      · refine v_aload_n dX7_passes_44 rfl ?_
        refine v_iconst (v := nI 5) dX7_passes_45 (by decide) ?_
        refine v_aload_n dX7_passes_46 rfl ?_
        refine v_iconst (v := nI 0) dX7_passes_47 (by decide) ?_
        refine v_iconst (v := nI 1) dX7_passes_48 (by decide) ?_
        refine v_callV (st := [.int (nI 5), .ref m]) dX7_passes_49 (t_X7_booked (p := 0) (w := 1) ho hv hK (by omega) (by omega) (by omega) (by omega)) wX7_101 ho rfl rfl ⟨Nat.le_of_ble_eq_true rfl, Nat.le_of_ble_eq_true rfl⟩ (Nat.le_of_ble_eq_true rfl) ⟨Nat.le_of_ble_eq_true rfl, Nat.le_of_ble_eq_true rfl⟩ (fun r n2 h2 hq => ?_)
        obtain ⟨rfl, hn9, hh9⟩ := hq; replace hn9 := hn9.symm; subst hn9; replace hh9 := hh9.symm; subst hh9
        refine v_st (st2 := [.int (nI (C 12 0)), .int (nI 5), .ref m]) rfl ?_
        have b34 := hK 12 0
        refine v_callV (st := []) dX7_passes_52 (t_X7_refuses (x := nI 5) (y := nI (C 12 0)) ho) wX7_66 ho rfl rfl ⟨Nat.le_of_ble_eq_true rfl, Nat.le_of_ble_eq_true rfl⟩ (Nat.le_of_ble_eq_true rfl) ⟨Nat.le_of_ble_eq_true rfl, Nat.le_of_ble_eq_true rfl⟩ (fun r n2 h2 hq => ?_)
        obtain ⟨rfl, rfl, fa35, sa36⟩ := hq
        refine v_st (st2 := [.int ((-1014))]) rfl ?_
        have hv37 := (sa36 (m + 1) (by omega)).trans hv
        have fr38 := offn_in (k := 2) (q := m) offn_rf sa36 (by omega)
        refine v_iret dX7_passes_55 rfl ?_ (Nat.le_of_ble_eq_true rfl) (Nat.le_of_ble_eq_true rfl)
        have e9 : dPass C (nI k) = (((-1014) : Int32), (C : Ct), (some (nI 5, nI (C 12 0)) : Option (Int32 × Int32))) := by unfold dPass; all_goals (repeat (first | rw [if_pos (by first | assumption | omega | rfl | trivial)] | rw [if_neg (by first | assumption | omega)])); all_goals (try simp only [ek]); all_goals (try unfold dPassN); all_goals (repeat (first | rw [if_pos (by first | assumption | omega | rfl | trivial)] | rw [if_neg (by first | assumption | omega)])); all_goals (try unfold dPs); all_goals (repeat (first | rw [if_pos (by first | assumption | omega | rfl | trivial)] | rw [if_neg (by first | assumption | omega)])); all_goals rfl
        exact pm_of e9 ⟨rfl, rfl, by rw [mf_n (by decide)]; exact fa35, hv37, fr38, fun _ => rfl⟩
  · have c21z : x < nI 1 ∨ (¬ x < nI 1 ∧ ¬ x ≤ nI 24) := not_rg c21
    rcases c21z with c21a | ⟨c21b, c21d⟩
    · refine v_aload_n dX7_passes_10 rfl ?_
      refine v_sipush (v := (-1012)) dX7_passes_11 (by decide) ?_
      refine v_callV (st := []) dX7_passes_14 (t_X7_fail (x := (-1012)) ho) wX7_41 ho rfl rfl ⟨Nat.le_of_ble_eq_true rfl, Nat.le_of_ble_eq_true rfl⟩ (Nat.le_of_ble_eq_true rfl) ⟨Nat.le_of_ble_eq_true rfl, Nat.le_of_ble_eq_true rfl⟩ (fun r n2 h2 hq => ?_)
      obtain ⟨rfl, rfl, fa39, sa40⟩ := hq
      refine v_st (st2 := [.int ((-1012))]) rfl ?_
      have hv41 := (sa40 (m + 1) (by omega)).trans hv
      have fr42 := offn_in (k := 2) (q := m) offn_rf sa40 (by omega)
      refine v_iret dX7_passes_17 rfl ?_ (Nat.le_of_ble_eq_true rfl) (Nat.le_of_ble_eq_true rfl)
      have e9 : dPass C x = (((-1012) : Int32), (C : Ct), (none : Option (Int32 × Int32))) := by unfold dPass; all_goals (repeat (first | rw [if_pos (by first | assumption | omega | rfl | trivial)] | rw [if_neg (by first | assumption | omega)])); all_goals (try unfold dPassN); all_goals (repeat (first | rw [if_pos (by first | assumption | omega | rfl | trivial)] | rw [if_neg (by first | assumption | omega)])); all_goals (try unfold dPs); all_goals (repeat (first | rw [if_pos (by first | assumption | omega | rfl | trivial)] | rw [if_neg (by first | assumption | omega)])); all_goals rfl
      exact pm_of e9 ⟨rfl, rfl, by rw [mf_n (by decide)]; exact fa39, hv41, fr42, fun _ => rfl⟩
    · refine v_aload_n dX7_passes_10 rfl ?_
      refine v_sipush (v := (-1012)) dX7_passes_11 (by decide) ?_
      refine v_callV (st := []) dX7_passes_14 (t_X7_fail (x := (-1012)) ho) wX7_41 ho rfl rfl ⟨Nat.le_of_ble_eq_true rfl, Nat.le_of_ble_eq_true rfl⟩ (Nat.le_of_ble_eq_true rfl) ⟨Nat.le_of_ble_eq_true rfl, Nat.le_of_ble_eq_true rfl⟩ (fun r n2 h2 hq => ?_)
      obtain ⟨rfl, rfl, fa43, sa44⟩ := hq
      refine v_st (st2 := [.int ((-1012))]) rfl ?_
      have hv45 := (sa44 (m + 1) (by omega)).trans hv
      have fr46 := offn_in (k := 2) (q := m) offn_rf sa44 (by omega)
      refine v_iret dX7_passes_17 rfl ?_ (Nat.le_of_ble_eq_true rfl) (Nat.le_of_ble_eq_true rfl)
      have e9 : dPass C x = (((-1012) : Int32), (C : Ct), (none : Option (Int32 × Int32))) := by unfold dPass; all_goals (repeat (first | rw [if_pos (by first | assumption | omega | rfl | trivial)] | rw [if_neg (by first | assumption | omega)])); all_goals (try unfold dPassN); all_goals (repeat (first | rw [if_pos (by first | assumption | omega | rfl | trivial)] | rw [if_neg (by first | assumption | omega)])); all_goals (try unfold dPs); all_goals (repeat (first | rw [if_pos (by first | assumption | omega | rfl | trivial)] | rw [if_neg (by first | assumption | omega)])); all_goals rfl
      exact pm_of e9 ⟨rfl, rfl, by rw [mf_n (by decide)]; exact fa43, hv45, fr46, fun _ => rfl⟩
set_option maxRecDepth 20000 in
set_option maxHeartbeats 4000000 in
theorem t_X7_slips {l : Launch} {G : vG} {h : AH} {n : Nat} {f : Nat} {m ch sv tn hr en ln wg dg : Nat} {fl wy dt : Int32} {b : Nat} {C : Ct} (ho : h m = some (mo m ch sv tn hr en ln wg dg fl wy dt)) (hv : h (m + 1) = some (ar G 182 (vO C))) (hK : bdk b C) (hb2 : b + 2000 ≤ 2 ^ 28) (hf : f < 6) : Mt l G mX7_slips [.ref m, .int (nI f)] (n) h 0 0 (fun r n2 h2 => r = none ∧ n2 = n ∧ h2 (m + 1) = some (ar G 182 (vO (slG C f))) ∧ offn 1 (m + 1) h h2) := by
  refine Mt.of (by decide) (Nat.le_of_ble_eq_true rfl) rfl ?_
  refine v_ls (ls2 := [some (.ref m), some (.int (nI f))]) rfl ?_
  have hB := hK.bd (by omega)
  refine v_aload_n dX7_slips_0 rfl ?_
  refine fX7_7 (v := .ref (m + 1)) rfl dX7_slips_1 ho rfl ?_
  refine v_bipush (v := nI 8) dX7_slips_4 (by decide) ?_
  refine v_dup2 dX7_slips_6 rfl rfl ?_
  refine n_ialdv (f := vO C) (j := 8) (y := C 17 1) dX7_slips_7 hv (by omega) (by decide) ((vrd (C := C) lgn8 (Or.inl (by decide))).trans rfl) ?_
  have b21 := hK 17 1
  refine v_iconst (v := nI 1) dX7_slips_8 (by decide) ?_
  refine n_iadd (x := C 17 1) (y := 1) dX7_slips_9 ?_
  refine n_iast (f := vO C) (j := 8) (x := C 17 1 + 1) dX7_slips_10 hv (by omega) (by decide) ?_
  refine nw (fun h1 f1 s1 => ?_)
  have hv22 : h1 (m + 1) = some (ar G 182 (vO (cu C 17 1 (C 17 1 + 1)))) := Eq.mp (congrArg (fun F => h1 (m + 1) = some (ar G 182 F)) (vup (C := C) lgn8 (Or.inl (by decide)) (by omega))) f1
  have sa22 := s1
  clear f1 s1
  have hK22 : bdk (b + 100) (cu C 17 1 (C 17 1 + 1)) := bdk_cu hK (by omega) (by omega)
  have hD22 := hK22.bd (by omega)
  have fa23 := (sa22 (m) (by omega)).trans ho
  have fr24 := offn_in (k := 1) (q := (m + 1)) offn_rf sa22 (by omega)
  refine v_aload_n dX7_slips_11 rfl ?_
  refine fX7_7 (v := .ref (m + 1)) rfl dX7_slips_12 fa23 rfl ?_
  refine v_iload_n dX7_slips_15 rfl ?_
  refine v_iconst (v := nI 5) dX7_slips_16 (by decide) ?_
  refine v_callS (st := [.ref (m + 1)]) dX7_slips_17 (t_X7_at (f := f) (w := 5)) wX7_63 rfl ⟨Nat.le_of_ble_eq_true rfl, Nat.le_of_ble_eq_true rfl⟩ (Nat.le_of_ble_eq_true rfl) ⟨Nat.le_of_ble_eq_true rfl, Nat.le_of_ble_eq_true rfl⟩ (fun r n2 h2 hq => ?_)
  obtain ⟨rfl, hn9, hh9⟩ := hq; replace hn9 := hn9.symm; subst hn9; replace hh9 := hh9.symm; subst hh9
  refine v_st (st2 := [.int (nI (10 + 6 * f + 5)), .ref (m + 1)]) rfl ?_
  refine v_dup2 dX7_slips_20 rfl rfl ?_
  refine n_ialdv (f := vO (cu C 17 1 (C 17 1 + 1))) (j := 10 + 6 * f + 5) (y := C 6 f) dX7_slips_21 hv22 (by omega) (by decide) ((vrd (C := cu C 17 1 (C 17 1 + 1)) (lgF (f := f) (w := 5) (by omega) (by decide)) (Or.inl (by omega))).trans rfl) ?_
  have b25 := hK 6 f
  refine v_iconst (v := nI 1) dX7_slips_22 (by decide) ?_
  refine n_iadd (x := C 6 f) (y := 1) dX7_slips_23 ?_
  refine n_iast (f := vO (cu C 17 1 (C 17 1 + 1))) (j := 10 + 6 * f + 5) (x := C 6 f + 1) dX7_slips_24 hv22 (by omega) (by decide) ?_
  refine nw (fun h1 f1 s1 => ?_)
  have hv26 : h1 (m + 1) = some (ar G 182 (vO (cu (cu C 17 1 (C 17 1 + 1)) 6 f (C 6 f + 1)))) := Eq.mp (congrArg (fun F => h1 (m + 1) = some (ar G 182 F)) (vup (C := cu C 17 1 (C 17 1 + 1)) (lgF (f := f) (w := 5) (by omega) (by decide)) (Or.inl (by omega)) (by omega))) f1
  have sa26 := s1
  clear f1 s1
  have hK26 : bdk (b + 200) (cu (cu C 17 1 (C 17 1 + 1)) 6 f (C 6 f + 1)) := bdk_cu hK22 (by omega) (by omega)
  have hD26 := hK26.bd (by omega)
  have fa27 := (sa26 (m) (by omega)).trans fa23
  have fr28 := offn_in (k := 1) (q := (m + 1)) fr24 sa26 (by omega)
  refine v_aload_n dX7_slips_25 rfl ?_
  refine fX7_7 (v := .ref (m + 1)) rfl dX7_slips_26 fa27 rfl ?_
  refine v_iload_n dX7_slips_29 rfl ?_
  refine v_iconst (v := nI 3) dX7_slips_30 (by decide) ?_
  refine v_callS (st := [.ref (m + 1)]) dX7_slips_31 (t_X7_at (f := f) (w := 3)) wX7_63 rfl ⟨Nat.le_of_ble_eq_true rfl, Nat.le_of_ble_eq_true rfl⟩ (Nat.le_of_ble_eq_true rfl) ⟨Nat.le_of_ble_eq_true rfl, Nat.le_of_ble_eq_true rfl⟩ (fun r n2 h2 hq => ?_)
  obtain ⟨rfl, hn9, hh9⟩ := hq; replace hn9 := hn9.symm; subst hn9; replace hh9 := hh9.symm; subst hh9
  refine v_st (st2 := [.int (nI (10 + 6 * f + 3)), .ref (m + 1)]) rfl ?_
  refine n_ialdv (f := vO (cu (cu C 17 1 (C 17 1 + 1)) 6 f (C 6 f + 1))) (j := 10 + 6 * f + 3) (y := C 4 f) dX7_slips_34 hv26 (by omega) (by decide) ((vrd (C := cu (cu C 17 1 (C 17 1 + 1)) 6 f (C 6 f + 1)) (lgF (f := f) (w := 3) (by omega) (by decide)) (Or.inl (by omega))).trans rfl) ?_
  have b29 := hK 4 f
  refine n_if_le (tgt := 53) (x := C 4 f) dX7_slips_35 (by decide) (by omega) (fun c30 => ?_) (fun c30 => ?_)
  · refine v_aload_n dX7_slips_53 rfl ?_
    refine fX7_7 (v := .ref (m + 1)) rfl dX7_slips_54 fa27 rfl ?_
    refine v_iconst (v := nI 5) dX7_slips_57 (by decide) ?_
    refine v_dup2 dX7_slips_58 rfl rfl ?_
    refine n_ialdv (f := vO (cu (cu C 17 1 (C 17 1 + 1)) 6 f (C 6 f + 1))) (j := 5) (y := C 0 5) dX7_slips_59 hv26 (by omega) (by decide) ((vrd (C := cu (cu C 17 1 (C 17 1 + 1)) 6 f (C 6 f + 1)) lgn5 (Or.inl (by decide))).trans rfl) ?_
    have b31 := hK 0 5
    refine v_aload_n dX7_slips_60 rfl ?_
    refine v_iload_n dX7_slips_61 rfl ?_
    refine v_iconst (v := nI 3) dX7_slips_62 (by decide) ?_
    refine v_callV (st := [.int (nI (C 0 5)), .int (nI 5), .ref (m + 1)]) dX7_slips_63 (t_X7_pays (f := f) (k := 3) fa27 hv26 hK26 (by omega) (by omega) (by omega)) wX7_88 fa27 rfl rfl ⟨Nat.le_of_ble_eq_true rfl, Nat.le_of_ble_eq_true rfl⟩ (Nat.le_of_ble_eq_true rfl) ⟨Nat.le_of_ble_eq_true rfl, Nat.le_of_ble_eq_true rfl⟩ (fun r n2 h2 hq => ?_)
    obtain ⟨rfl, rfl, hv32, sa32⟩ := hq
    refine v_st (st2 := [.int (nI (pay C f 3)), .int (nI (C 0 5)), .int (nI 5), .ref (m + 1)]) rfl ?_
    have hpl32 : pay C f 3 ≤ C 2 f := Nat.min_le_right _ _
    have hpk32 : pay C f 3 ≤ 3 := Nat.min_le_left _ _
    have hbk32 := hK26 2 f
    have hbl32 : C 2 f < b + 200 := hbk32
    have hK32 : bdk (b + 300) (cu (cu (cu C 17 1 (C 17 1 + 1)) 6 f (C 6 f + 1)) 2 f (C 2 f - pay C f 3)) := bdk_cu hK26 (by omega) (by omega)
    have hD32 := hK32.bd (by omega)
    have fa33 := (sa32 (m) (by omega)).trans fa27
    have fr34 := offn_in (k := 1) (q := (m + 1)) fr28 sa32 (by omega)
    refine n_iadd (x := C 0 5) (y := pay C f 3) dX7_slips_66 ?_
    refine n_iast (f := vO (cu (cu (cu C 17 1 (C 17 1 + 1)) 6 f (C 6 f + 1)) 2 f (C 2 f - pay C f 3))) (j := 5) (x := C 0 5 + pay C f 3) dX7_slips_67 hv32 (by omega) (by decide) ?_
    refine nw (fun h1 f1 s1 => ?_)
    have hv35 : h1 (m + 1) = some (ar G 182 (vO (cu (cu (cu (cu C 17 1 (C 17 1 + 1)) 6 f (C 6 f + 1)) 2 f (C 2 f - pay C f 3)) 0 5 (C 0 5 + pay C f 3)))) := Eq.mp (congrArg (fun F => h1 (m + 1) = some (ar G 182 F)) (vup (C := cu (cu (cu C 17 1 (C 17 1 + 1)) 6 f (C 6 f + 1)) 2 f (C 2 f - pay C f 3)) lgn5 (Or.inl (by decide)) (by omega))) f1
    have sa35 := s1
    clear f1 s1
    have hK35 : bdk (b + 400) (cu (cu (cu (cu C 17 1 (C 17 1 + 1)) 6 f (C 6 f + 1)) 2 f (C 2 f - pay C f 3)) 0 5 (C 0 5 + pay C f 3)) := bdk_cu hK32 (by omega) (by omega)
    have hD35 := hK35.bd (by omega)
    have fa36 := (sa35 (m) (by omega)).trans fa33
    have fr37 := offn_in (k := 1) (q := (m + 1)) fr34 sa35 (by omega)
    refine v_vret dX7_slips_68 rfl ?_ (Nat.le_of_ble_eq_true rfl) (Nat.le_of_ble_eq_true rfl)
    exact ⟨rfl, rfl, by rw [show slG C f = cu (cu (cu (cu C 17 1 (C 17 1 + 1)) 6 f (C 6 f + 1)) 2 f (C 2 f - pay C f 3)) 0 5 (C 0 5 + pay C f 3) from if_pos (by omega)]; exact hv35, fr37⟩
  · refine v_aload_n dX7_slips_38 rfl ?_
    refine fX7_7 (v := .ref (m + 1)) rfl dX7_slips_39 fa27 rfl ?_
    refine v_iload_n dX7_slips_42 rfl ?_
    refine v_iconst (v := nI 3) dX7_slips_43 (by decide) ?_
    refine v_callS (st := [.ref (m + 1)]) dX7_slips_44 (t_X7_at (f := f) (w := 3)) wX7_63 rfl ⟨Nat.le_of_ble_eq_true rfl, Nat.le_of_ble_eq_true rfl⟩ (Nat.le_of_ble_eq_true rfl) ⟨Nat.le_of_ble_eq_true rfl, Nat.le_of_ble_eq_true rfl⟩ (fun r n2 h2 hq => ?_)
    obtain ⟨rfl, hn9, hh9⟩ := hq; replace hn9 := hn9.symm; subst hn9; replace hh9 := hh9.symm; subst hh9
    refine v_st (st2 := [.int (nI (10 + 6 * f + 3)), .ref (m + 1)]) rfl ?_
    refine v_dup2 dX7_slips_47 rfl rfl ?_
    refine n_ialdv (f := vO (cu (cu C 17 1 (C 17 1 + 1)) 6 f (C 6 f + 1))) (j := 10 + 6 * f + 3) (y := C 4 f) dX7_slips_48 hv26 (by omega) (by decide) ((vrd (C := cu (cu C 17 1 (C 17 1 + 1)) 6 f (C 6 f + 1)) (lgF (f := f) (w := 3) (by omega) (by decide)) (Or.inl (by omega))).trans rfl) ?_
    refine v_iconst (v := nI 1) dX7_slips_49 (by decide) ?_
    refine n_isub (x := C 4 f) (y := 1) dX7_slips_50 (by omega) ?_
    refine n_iast (f := vO (cu (cu C 17 1 (C 17 1 + 1)) 6 f (C 6 f + 1))) (j := 10 + 6 * f + 3) (x := C 4 f - 1) dX7_slips_51 hv26 (by omega) (by decide) ?_
    refine nw (fun h1 f1 s1 => ?_)
    have hv38 : h1 (m + 1) = some (ar G 182 (vO (cu (cu (cu C 17 1 (C 17 1 + 1)) 6 f (C 6 f + 1)) 4 f (C 4 f - 1)))) := Eq.mp (congrArg (fun F => h1 (m + 1) = some (ar G 182 F)) (vup (C := cu (cu C 17 1 (C 17 1 + 1)) 6 f (C 6 f + 1)) (lgF (f := f) (w := 3) (by omega) (by decide)) (Or.inl (by omega)) (by omega))) f1
    have sa38 := s1
    clear f1 s1
    have hK38 : bdk (b + 300) (cu (cu (cu C 17 1 (C 17 1 + 1)) 6 f (C 6 f + 1)) 4 f (C 4 f - 1)) := bdk_cu hK26 (by omega) (by omega)
    have hD38 := hK38.bd (by omega)
    have fa39 := (sa38 (m) (by omega)).trans fa27
    have fr40 := offn_in (k := 1) (q := (m + 1)) fr28 sa38 (by omega)
    refine v_vret dX7_slips_52 rfl ?_ (Nat.le_of_ble_eq_true rfl) (Nat.le_of_ble_eq_true rfl)
    exact ⟨rfl, rfl, by rw [show slG C f = cu (cu (cu C 17 1 (C 17 1 + 1)) 6 f (C 6 f + 1)) 4 f (C 4 f - 1) from if_neg (by omega)]; exact hv38, fr40⟩
set_option maxRecDepth 20000 in
set_option maxHeartbeats 4000000 in
theorem t_X7_tells {l : Launch} {G : vG} {h : AH} {n : Nat} {f j t : Nat} {m ch sv tn hr en ln wg dg : Nat} {fl wy dt : Int32} {b : Nat} {C : Ct} (ho : h m = some (mo m ch sv tn hr en ln wg dg fl wy dt)) (hv : h (m + 1) = some (ar G 182 (vO C))) (hK : bdk b C) (hb2 : b + 3000 ≤ 2 ^ 28) (hf : f < 6) (hj : j < 12) (ht : t < 4) (hc99 : ∀ i, C 2 i ≤ 99) (hs7 : C 7 j ≤ 9) (hs1 : C 1 f ≤ 9) : Mt l G mX7_tells [.ref m, .int (nI f), .int (nI j), .int (nI t)] (n) h 0 0 (fun r n2 h2 => r = some (.int (nI (lau C f j t))) ∧ n2 = n ∧ h2 (m + 1) = some (ar G 182 (vO (prG C f j t))) ∧ offn 1 (m + 1) h h2) := by
  refine Mt.of (by decide) (Nat.le_of_ble_eq_true rfl) rfl ?_
  refine v_ls (ls2 := [some (.ref m), some (.int (nI f)), some (.int (nI j)), some (.int (nI t)), none]) rfl ?_
  have hB := hK.bd (by omega)
  have l18 : lau C f j t ≤ 18 := by show C 7 j + C 1 f - _ ≤ 18; omega
  refine v_aload_n dX7_tells_0 rfl ?_
  refine v_iload_n dX7_tells_1 rfl ?_
  refine v_iload_n dX7_tells_2 rfl ?_
  refine v_iload_n dX7_tells_3 rfl ?_
  refine v_callV (st := []) dX7_tells_4 (t_X7_laughs (f := f) (j := j) (t := t) ho hv hK (by omega) (by omega) (by omega) (by omega)) wX7_137 ho rfl rfl ⟨Nat.le_of_ble_eq_true rfl, Nat.le_of_ble_eq_true rfl⟩ (Nat.le_of_ble_eq_true rfl) ⟨Nat.le_of_ble_eq_true rfl, Nat.le_of_ble_eq_true rfl⟩ (fun r n2 h2 hq => ?_)
  obtain ⟨rfl, hn9, hh9⟩ := hq; replace hn9 := hn9.symm; subst hn9; replace hh9 := hh9.symm; subst hh9
  have bl21 := lau_bd hB f j t
  refine v_st (st2 := [.int (nI (lau C f j t))]) rfl ?_
  refine v_istore dX7_tells_7 rfl (by decide) ?_
  refine v_ls (ls2 := [some (.ref m), some (.int (nI f)), some (.int (nI j)), some (.int (nI t)), some (.int (nI (lau C f j t)))]) rfl ?_
  refine v_aload_n dX7_tells_9 rfl ?_
  refine fX7_7 (v := .ref (m + 1)) rfl dX7_tells_10 ho rfl ?_
  refine v_bipush (v := nI 94) dX7_tells_13 (by decide) ?_
  refine v_iconst (v := nI 4) dX7_tells_15 (by decide) ?_
  refine v_iload_n dX7_tells_16 rfl ?_
  refine n_imul (x := 4) (y := j) dX7_tells_17 ?_
  refine n_iadd (x := 94) (y := 4 * j) dX7_tells_18 ?_
  refine v_iload_n dX7_tells_19 rfl ?_
  refine n_iadd (x := 94 + (4 * j)) (y := t) dX7_tells_20 ?_
  refine v_dup2 dX7_tells_21 rfl rfl ?_
  refine n_ialdv (f := vO C) (j := (94 + (4 * j)) + t) (y := C 10 (j * 4 + t)) dX7_tells_22 hv (by omega) (by decide) ((vrd (C := C) (lgC (j := j) (t := t) (by omega)) (Or.inl (by omega))).trans rfl) ?_
  have b22 := hK 10 (j * 4 + t)
  refine v_iconst (v := nI 1) dX7_tells_23 (by decide) ?_
  refine n_iadd (x := C 10 (j * 4 + t)) (y := 1) dX7_tells_24 ?_
  refine n_iast (f := vO C) (j := (94 + (4 * j)) + t) (x := (C 10 (j * 4 + t)) + 1) dX7_tells_25 hv (by omega) (by decide) ?_
  refine nw (fun h1 f1 s1 => ?_)
  have hv23 : h1 (m + 1) = some (ar G 182 (vO (cu C 10 (j * 4 + t) ((C 10 (j * 4 + t)) + 1)))) := Eq.mp (congrArg (fun F => h1 (m + 1) = some (ar G 182 F)) (vup (C := C) (lgC (j := j) (t := t) (by omega)) (Or.inl (by omega)) (by omega))) f1
  have sa23 := s1
  clear f1 s1
  have hK23 : bdk (b + 100) (cu C 10 (j * 4 + t) ((C 10 (j * 4 + t)) + 1)) := bdk_cu hK (by omega) (by omega)
  have hD23 := hK23.bd (by omega)
  have fa24 := (sa23 (m) (by omega)).trans ho
  have fr25 := offn_in (k := 1) (q := (m + 1)) offn_rf sa23 (by omega)
  refine v_aload_n dX7_tells_26 rfl ?_
  refine fX7_7 (v := .ref (m + 1)) rfl dX7_tells_27 fa24 rfl ?_
  refine v_iload_n dX7_tells_30 rfl ?_
  refine v_iconst (v := nI 4) dX7_tells_31 (by decide) ?_
  refine v_callS (st := [.ref (m + 1)]) dX7_tells_32 (t_X7_at (f := f) (w := 4)) wX7_63 rfl ⟨Nat.le_of_ble_eq_true rfl, Nat.le_of_ble_eq_true rfl⟩ (Nat.le_of_ble_eq_true rfl) ⟨Nat.le_of_ble_eq_true rfl, Nat.le_of_ble_eq_true rfl⟩ (fun r n2 h2 hq => ?_)
  obtain ⟨rfl, hn9, hh9⟩ := hq; replace hn9 := hn9.symm; subst hn9; replace hh9 := hh9.symm; subst hh9
  refine v_st (st2 := [.int (nI (10 + 6 * f + 4)), .ref (m + 1)]) rfl ?_
  refine v_dup2 dX7_tells_35 rfl rfl ?_
  refine n_ialdv (f := vO (cu C 10 (j * 4 + t) ((C 10 (j * 4 + t)) + 1))) (j := 10 + 6 * f + 4) (y := C 5 f) dX7_tells_36 hv23 (by omega) (by decide) ((vrd (C := cu C 10 (j * 4 + t) ((C 10 (j * 4 + t)) + 1)) (lgF (f := f) (w := 4) (by omega) (by decide)) (Or.inl (by omega))).trans rfl) ?_
  have b26 := hK 5 f
  refine v_iconst (v := nI 1) dX7_tells_37 (by decide) ?_
  refine n_iadd (x := C 5 f) (y := 1) dX7_tells_38 ?_
  refine n_iast (f := vO (cu C 10 (j * 4 + t) ((C 10 (j * 4 + t)) + 1))) (j := 10 + 6 * f + 4) (x := C 5 f + 1) dX7_tells_39 hv23 (by omega) (by decide) ?_
  refine nw (fun h1 f1 s1 => ?_)
  have hv27 : h1 (m + 1) = some (ar G 182 (vO (cu (cu C 10 (j * 4 + t) ((C 10 (j * 4 + t)) + 1)) 5 f (C 5 f + 1)))) := Eq.mp (congrArg (fun F => h1 (m + 1) = some (ar G 182 F)) (vup (C := cu C 10 (j * 4 + t) ((C 10 (j * 4 + t)) + 1)) (lgF (f := f) (w := 4) (by omega) (by decide)) (Or.inl (by omega)) (by omega))) f1
  have sa27 := s1
  clear f1 s1
  have hK27 : bdk (b + 200) (cu (cu C 10 (j * 4 + t) ((C 10 (j * 4 + t)) + 1)) 5 f (C 5 f + 1)) := bdk_cu hK23 (by omega) (by omega)
  have hD27 := hK27.bd (by omega)
  have fa28 := (sa27 (m) (by omega)).trans fa24
  have fr29 := offn_in (k := 1) (q := (m + 1)) fr25 sa27 (by omega)
  refine v_aload_n dX7_tells_40 rfl ?_
  refine fX7_7 (v := .ref (m + 1)) rfl dX7_tells_41 fa28 rfl ?_
  refine v_iload_n dX7_tells_44 rfl ?_
  refine v_iconst (v := nI 1) dX7_tells_45 (by decide) ?_
  refine v_callS (st := [.ref (m + 1)]) dX7_tells_46 (t_X7_of (f := t) (w := 1)) wX7_116 rfl ⟨Nat.le_of_ble_eq_true rfl, Nat.le_of_ble_eq_true rfl⟩ (Nat.le_of_ble_eq_true rfl) ⟨Nat.le_of_ble_eq_true rfl, Nat.le_of_ble_eq_true rfl⟩ (fun r n2 h2 hq => ?_)
  obtain ⟨rfl, hn9, hh9⟩ := hq; replace hn9 := hn9.symm; subst hn9; replace hh9 := hh9.symm; subst hh9
  refine v_st (st2 := [.int (nI (82 + 3 * t + 1)), .ref (m + 1)]) rfl ?_
  refine v_dup2 dX7_tells_49 rfl rfl ?_
  refine n_ialdv (f := vO (cu (cu C 10 (j * 4 + t) ((C 10 (j * 4 + t)) + 1)) 5 f (C 5 f + 1))) (j := 82 + 3 * t + 1) (y := C 18 t) dX7_tells_50 hv27 (by omega) (by decide) ((vrd (C := cu (cu C 10 (j * 4 + t) ((C 10 (j * 4 + t)) + 1)) 5 f (C 5 f + 1)) (lgT1 (f := t) (by omega)) (Or.inl (by omega))).trans rfl) ?_
  have b30 := hK 18 t
  refine v_iconst (v := nI 1) dX7_tells_51 (by decide) ?_
  refine n_iadd (x := C 18 t) (y := 1) dX7_tells_52 ?_
  refine n_iast (f := vO (cu (cu C 10 (j * 4 + t) ((C 10 (j * 4 + t)) + 1)) 5 f (C 5 f + 1))) (j := 82 + 3 * t + 1) (x := C 18 t + 1) dX7_tells_53 hv27 (by omega) (by decide) ?_
  refine nw (fun h1 f1 s1 => ?_)
  have hv31 : h1 (m + 1) = some (ar G 182 (vO (cu (cu (cu C 10 (j * 4 + t) ((C 10 (j * 4 + t)) + 1)) 5 f (C 5 f + 1)) 18 t (C 18 t + 1)))) := Eq.mp (congrArg (fun F => h1 (m + 1) = some (ar G 182 F)) (vup (C := cu (cu C 10 (j * 4 + t) ((C 10 (j * 4 + t)) + 1)) 5 f (C 5 f + 1)) (lgT1 (f := t) (by omega)) (Or.inl (by omega)) (by omega))) f1
  have sa31 := s1
  clear f1 s1
  have hK31 : bdk (b + 300) (cu (cu (cu C 10 (j * 4 + t) ((C 10 (j * 4 + t)) + 1)) 5 f (C 5 f + 1)) 18 t (C 18 t + 1)) := bdk_cu hK27 (by omega) (by omega)
  have hD31 := hK31.bd (by omega)
  have fa32 := (sa31 (m) (by omega)).trans fa28
  have fr33 := offn_in (k := 1) (q := (m + 1)) fr29 sa31 (by omega)
  refine v_iload dX7_tells_54 rfl ?_
  refine v_iconst (v := nI 5) dX7_tells_56 (by decide) ?_
  refine n_icmp_ge (tgt := 68) (x := lau C f j t) (y := 5) dX7_tells_57 (by decide) (by omega) (by omega) (fun c34 => ?_) (fun c34 => ?_)
  · refine v_aload_n dX7_tells_68 rfl ?_
    refine fX7_7 (v := .ref (m + 1)) rfl dX7_tells_69 fa32 rfl ?_
    refine v_iconst (v := nI 4) dX7_tells_72 (by decide) ?_
    refine v_dup2 dX7_tells_73 rfl rfl ?_
    refine n_ialdv (f := vO (cu (cu (cu C 10 (j * 4 + t) ((C 10 (j * 4 + t)) + 1)) 5 f (C 5 f + 1)) 18 t (C 18 t + 1))) (j := 4) (y := C 17 0) dX7_tells_74 hv31 (by omega) (by decide) ((vrd (C := cu (cu (cu C 10 (j * 4 + t) ((C 10 (j * 4 + t)) + 1)) 5 f (C 5 f + 1)) 18 t (C 18 t + 1)) lgn4 (Or.inl (by decide))).trans rfl) ?_
    have b35 := hK 17 0
    refine v_iload dX7_tells_75 rfl ?_
    refine n_iadd (x := C 17 0) (y := lau C f j t) dX7_tells_77 ?_
    refine n_iast (f := vO (cu (cu (cu C 10 (j * 4 + t) ((C 10 (j * 4 + t)) + 1)) 5 f (C 5 f + 1)) 18 t (C 18 t + 1))) (j := 4) (x := C 17 0 + lau C f j t) dX7_tells_78 hv31 (by omega) (by decide) ?_
    refine nw (fun h1 f1 s1 => ?_)
    have hv36 : h1 (m + 1) = some (ar G 182 (vO (cu (cu (cu (cu C 10 (j * 4 + t) ((C 10 (j * 4 + t)) + 1)) 5 f (C 5 f + 1)) 18 t (C 18 t + 1)) 17 0 (C 17 0 + lau C f j t)))) := Eq.mp (congrArg (fun F => h1 (m + 1) = some (ar G 182 F)) (vup (C := cu (cu (cu C 10 (j * 4 + t) ((C 10 (j * 4 + t)) + 1)) 5 f (C 5 f + 1)) 18 t (C 18 t + 1)) lgn4 (Or.inl (by decide)) (by omega))) f1
    have sa36 := s1
    clear f1 s1
    have hK36 : bdk (b + 400) (cu (cu (cu (cu C 10 (j * 4 + t) ((C 10 (j * 4 + t)) + 1)) 5 f (C 5 f + 1)) 18 t (C 18 t + 1)) 17 0 (C 17 0 + lau C f j t)) := bdk_cu hK31 (by omega) (by omega)
    have hD36 := hK36.bd (by omega)
    have fa37 := (sa36 (m) (by omega)).trans fa32
    have fr38 := offn_in (k := 1) (q := (m + 1)) fr33 sa36 (by omega)
    refine v_aload_n dX7_tells_79 rfl ?_
    refine fX7_7 (v := .ref (m + 1)) rfl dX7_tells_80 fa37 rfl ?_
    refine v_iload_n dX7_tells_83 rfl ?_
    refine v_iconst (v := nI 2) dX7_tells_84 (by decide) ?_
    refine v_callS (st := [.ref (m + 1)]) dX7_tells_85 (t_X7_of (f := t) (w := 2)) wX7_116 rfl ⟨Nat.le_of_ble_eq_true rfl, Nat.le_of_ble_eq_true rfl⟩ (Nat.le_of_ble_eq_true rfl) ⟨Nat.le_of_ble_eq_true rfl, Nat.le_of_ble_eq_true rfl⟩ (fun r n2 h2 hq => ?_)
    obtain ⟨rfl, hn9, hh9⟩ := hq; replace hn9 := hn9.symm; subst hn9; replace hh9 := hh9.symm; subst hh9
    refine v_st (st2 := [.int (nI (82 + 3 * t + 2)), .ref (m + 1)]) rfl ?_
    refine v_dup2 dX7_tells_88 rfl rfl ?_
    refine n_ialdv (f := vO (cu (cu (cu (cu C 10 (j * 4 + t) ((C 10 (j * 4 + t)) + 1)) 5 f (C 5 f + 1)) 18 t (C 18 t + 1)) 17 0 (C 17 0 + lau C f j t))) (j := 82 + 3 * t + 2) (y := C 16 t) dX7_tells_89 hv36 (by omega) (by decide) ((vrd (C := cu (cu (cu (cu C 10 (j * 4 + t) ((C 10 (j * 4 + t)) + 1)) 5 f (C 5 f + 1)) 18 t (C 18 t + 1)) 17 0 (C 17 0 + lau C f j t)) (lgT2 (f := t) (by omega)) (Or.inl (by omega))).trans rfl) ?_
    have b39 := hK 16 t
    refine v_iload dX7_tells_90 rfl ?_
    refine n_iadd (x := C 16 t) (y := lau C f j t) dX7_tells_92 ?_
    refine n_iast (f := vO (cu (cu (cu (cu C 10 (j * 4 + t) ((C 10 (j * 4 + t)) + 1)) 5 f (C 5 f + 1)) 18 t (C 18 t + 1)) 17 0 (C 17 0 + lau C f j t))) (j := 82 + 3 * t + 2) (x := C 16 t + lau C f j t) dX7_tells_93 hv36 (by omega) (by decide) ?_
    refine nw (fun h1 f1 s1 => ?_)
    have hv40 : h1 (m + 1) = some (ar G 182 (vO (cu (cu (cu (cu (cu C 10 (j * 4 + t) ((C 10 (j * 4 + t)) + 1)) 5 f (C 5 f + 1)) 18 t (C 18 t + 1)) 17 0 (C 17 0 + lau C f j t)) 16 t (C 16 t + lau C f j t)))) := Eq.mp (congrArg (fun F => h1 (m + 1) = some (ar G 182 F)) (vup (C := cu (cu (cu (cu C 10 (j * 4 + t) ((C 10 (j * 4 + t)) + 1)) 5 f (C 5 f + 1)) 18 t (C 18 t + 1)) 17 0 (C 17 0 + lau C f j t)) (lgT2 (f := t) (by omega)) (Or.inl (by omega)) (by omega))) f1
    have sa40 := s1
    clear f1 s1
    have hK40 : bdk (b + 500) (cu (cu (cu (cu (cu C 10 (j * 4 + t) ((C 10 (j * 4 + t)) + 1)) 5 f (C 5 f + 1)) 18 t (C 18 t + 1)) 17 0 (C 17 0 + lau C f j t)) 16 t (C 16 t + lau C f j t)) := bdk_cu hK36 (by omega) (by omega)
    have hD40 := hK40.bd (by omega)
    have fa41 := (sa40 (m) (by omega)).trans fa37
    have fr42 := offn_in (k := 1) (q := (m + 1)) fr38 sa40 (by omega)
    have h99 : (cu (cu (cu (cu (cu C 10 (j * 4 + t) ((C 10 (j * 4 + t)) + 1)) 5 f (C 5 f + 1)) 18 t (C 18 t + 1)) 17 0 (C 17 0 + lau C f j t)) 16 t (C 16 t + lau C f j t)) 2 f ≤ 99 := hc99 f
    refine v_aload_n dX7_tells_94 rfl ?_
    refine v_iload_n dX7_tells_95 rfl ?_
    refine v_iload dX7_tells_96 rfl ?_
    refine v_callV (st := []) dX7_tells_98 (t_X7_earns (f := f) (k := lau C f j t) fa41 hv40 hK40 (by omega) (by omega) (by omega) h99) wX7_144 fa41 rfl rfl ⟨Nat.le_of_ble_eq_true rfl, Nat.le_of_ble_eq_true rfl⟩ (Nat.le_of_ble_eq_true rfl) ⟨Nat.le_of_ble_eq_true rfl, Nat.le_of_ble_eq_true rfl⟩ (fun r n2 h2 hq => ?_)
    obtain ⟨rfl, rfl, hv43, sa43⟩ := hq
    refine v_st (st2 := []) rfl ?_
    obtain ⟨C43, hC43⟩ : ∃ C9 : Ct, C9 = gain (cu (cu (cu (cu (cu C 10 (j * 4 + t) ((C 10 (j * 4 + t)) + 1)) 5 f (C 5 f + 1)) 18 t (C 18 t + 1)) 17 0 (C 17 0 + lau C f j t)) 16 t (C 16 t + lau C f j t)) f (lau C f j t) := ⟨_, rfl⟩
    rw [← hC43] at hv43
    have hK43 : bdk (b + 600) C43 := by rw [hC43]; exact bdk_gain hK40 (by omega) (by omega)
    have hD43 := hK43.bd (by omega)
    have fa44 := (sa43 (m) (by omega)).trans fa41
    have fr45 := offn_in (k := 1) (q := (m + 1)) fr42 sa43 (by omega)
    have e3f : C43 3 f = C 3 f := by rw [hC43]; rfl
    have b3f := hK 3 f
    refine v_aload_n dX7_tells_101 rfl ?_
    refine fX7_7 (v := .ref (m + 1)) rfl dX7_tells_102 fa44 rfl ?_
    refine v_iload_n dX7_tells_105 rfl ?_
    refine v_iconst (v := nI 2) dX7_tells_106 (by decide) ?_
    refine v_callS (st := [.ref (m + 1)]) dX7_tells_107 (t_X7_at (f := f) (w := 2)) wX7_63 rfl ⟨Nat.le_of_ble_eq_true rfl, Nat.le_of_ble_eq_true rfl⟩ (Nat.le_of_ble_eq_true rfl) ⟨Nat.le_of_ble_eq_true rfl, Nat.le_of_ble_eq_true rfl⟩ (fun r n2 h2 hq => ?_)
    obtain ⟨rfl, hn9, hh9⟩ := hq; replace hn9 := hn9.symm; subst hn9; replace hh9 := hh9.symm; subst hh9
    refine v_st (st2 := [.int (nI (10 + 6 * f + 2)), .ref (m + 1)]) rfl ?_
    refine v_dup2 dX7_tells_110 rfl rfl ?_
    refine n_ialdv (f := vO C43) (j := 10 + 6 * f + 2) (y := C43 3 f) dX7_tells_111 hv43 (by omega) (by decide) ((vrd (C := C43) (lgF (f := f) (w := 2) (by omega) (by decide)) (Or.inl (by omega))).trans rfl) ?_
    have b46 := hK43 3 f
    refine v_iload dX7_tells_112 rfl ?_
    refine v_bipush (v := nI 11) dX7_tells_114 (by decide) ?_
    refine n_icmp_le (tgt := 127) (x := lau C f j t) (y := 11) dX7_tells_116 (by decide) (by omega) (by omega) (fun c47 => ?_) (fun c47 => ?_)
    · refine v_iconst (v := nI 0) dX7_tells_127 (by decide) ?_
      refine v_st (st2 := [.int (nI (lau C f j t - 11)), .int (nI (C43 3 f)), .int (nI (10 + 6 * f + 2)), .ref (m + 1)]) (by rw [show lau C f j t - 11 = 0 by omega]) ?_
      refine v_st (st2 := [.int (nI (lau C f j t - 11)), .int (nI (C 3 f)), .int (nI (10 + 6 * f + 2)), .ref (m + 1)]) (by rw [← e3f]; try rfl) ?_
      refine n_iadd (x := C 3 f) (y := lau C f j t - 11) dX7_tells_128 ?_
      refine n_iast (f := vO C43) (j := 10 + 6 * f + 2) (x := C 3 f + (lau C f j t - 11)) dX7_tells_129 hv43 (by omega) (by decide) ?_
      refine nw (fun h1 f1 s1 => ?_)
      have hv48 : h1 (m + 1) = some (ar G 182 (vO (cu C43 3 f (C 3 f + (lau C f j t - 11))))) := Eq.mp (congrArg (fun F => h1 (m + 1) = some (ar G 182 F)) (vup (C := C43) (lgF (f := f) (w := 2) (by omega) (by decide)) (Or.inl (by omega)) (by omega))) f1
      have sa48 := s1
      clear f1 s1
      have hK48 : bdk (b + 700) (cu C43 3 f (C 3 f + (lau C f j t - 11))) := bdk_cu hK43 (by omega) (by omega)
      have hD48 := hK48.bd (by omega)
      have fa49 := (sa48 (m) (by omega)).trans fa44
      have fr50 := offn_in (k := 1) (q := (m + 1)) fr45 sa48 (by omega)
      refine v_iload dX7_tells_130 rfl ?_
      refine v_iret dX7_tells_132 rfl ?_ (Nat.le_of_ble_eq_true rfl) (Nat.le_of_ble_eq_true rfl)
      have hv9 := hv48
      rw [hC43, prG_l (by omega)] at hv9
      exact ⟨rfl, rfl, hv9, fr50⟩
    · refine v_iload dX7_tells_119 rfl ?_
      refine v_bipush (v := nI 11) dX7_tells_121 (by decide) ?_
      refine n_isub (x := lau C f j t) (y := 11) dX7_tells_123 (by omega) ?_
      refine v_goto (tgt := 128) dX7_tells_124 (by decide) ?_
      have hx : True := trivial
      refine v_st (st2 := [.int (nI (lau C f j t - 11)), .int (nI (C 3 f)), .int (nI (10 + 6 * f + 2)), .ref (m + 1)]) (by rw [← e3f]; try rfl) ?_
      refine n_iadd (x := C 3 f) (y := lau C f j t - 11) dX7_tells_128 ?_
      refine n_iast (f := vO C43) (j := 10 + 6 * f + 2) (x := C 3 f + (lau C f j t - 11)) dX7_tells_129 hv43 (by omega) (by decide) ?_
      refine nw (fun h1 f1 s1 => ?_)
      have hv51 : h1 (m + 1) = some (ar G 182 (vO (cu C43 3 f (C 3 f + (lau C f j t - 11))))) := Eq.mp (congrArg (fun F => h1 (m + 1) = some (ar G 182 F)) (vup (C := C43) (lgF (f := f) (w := 2) (by omega) (by decide)) (Or.inl (by omega)) (by omega))) f1
      have sa51 := s1
      clear f1 s1
      have hK51 : bdk (b + 700) (cu C43 3 f (C 3 f + (lau C f j t - 11))) := bdk_cu hK43 (by omega) (by omega)
      have hD51 := hK51.bd (by omega)
      have fa52 := (sa51 (m) (by omega)).trans fa44
      have fr53 := offn_in (k := 1) (q := (m + 1)) fr45 sa51 (by omega)
      refine v_iload dX7_tells_130 rfl ?_
      refine v_iret dX7_tells_132 rfl ?_ (Nat.le_of_ble_eq_true rfl) (Nat.le_of_ble_eq_true rfl)
      have hv9 := hv51
      rw [hC43, prG_l (by omega)] at hv9
      exact ⟨rfl, rfl, hv9, fr53⟩
  · refine v_aload_n dX7_tells_60 rfl ?_
    refine v_iload_n dX7_tells_61 rfl ?_
    refine v_callV (st := []) dX7_tells_62 (t_X7_slips (f := f) fa32 hv31 hK31 (by omega) (by omega)) wX7_140 fa32 rfl rfl ⟨Nat.le_of_ble_eq_true rfl, Nat.le_of_ble_eq_true rfl⟩ (Nat.le_of_ble_eq_true rfl) ⟨Nat.le_of_ble_eq_true rfl, Nat.le_of_ble_eq_true rfl⟩ (fun r n2 h2 hq => ?_)
    obtain ⟨rfl, rfl, hv54, sa54⟩ := hq
    refine v_st (st2 := []) rfl ?_
    obtain ⟨C54, hC54⟩ : ∃ C9 : Ct, C9 = slG (cu (cu (cu C 10 (j * 4 + t) ((C 10 (j * 4 + t)) + 1)) 5 f (C 5 f + 1)) 18 t (C 18 t + 1)) f := ⟨_, rfl⟩
    rw [← hC54] at hv54
    have hK54 : bdk (b + 700) C54 := by rw [hC54]; exact bdk_slG hK31 (by omega)
    have hD54 := hK54.bd (by omega)
    have fa55 := (sa54 (m) (by omega)).trans fa32
    have fr56 := offn_in (k := 1) (q := (m + 1)) fr33 sa54 (by omega)
    refine v_iload dX7_tells_65 rfl ?_
    refine v_iret dX7_tells_67 rfl ?_ (Nat.le_of_ble_eq_true rfl) (Nat.le_of_ble_eq_true rfl)
    have hv9 := hv54
    rw [hC54, prG_s (by omega)] at hv9
    exact ⟨rfl, rfl, hv9, fr56⟩
set_option maxRecDepth 20000 in
set_option maxHeartbeats 4000000 in
theorem t_X7_carries {l : Launch} {G : vG} {h : AH} {n : Nat}  {m ch sv tn hr en ln wg dg : Nat} {fl wy dt : Int32} {b : Nat} {C : Ct} (ho : h m = some (mo m ch sv tn hr en ln wg dg fl wy dt)) (hv : h (m + 1) = some (ar G 182 (vO C))) (hK : bdk b C) (hb1 : 200 ≤ b) (hb2 : b + 5000 ≤ 2 ^ 28) (hI : Iv C) : Mt l G mX7_carries [.ref m] (n) h 0 0 (pm G m ch sv tn hr en ln wg dg fl wy dt C h n (dNext C)) := by
  refine Mt.of (by decide) (Nat.le_of_ble_eq_true rfl) rfl ?_
  refine v_ls (ls2 := [some (.ref m), none, none, none, none]) rfl ?_
  have hB := hK.bd (by omega)
  obtain ⟨hF, hJ, hn, hs1, hc99, hs4, hs7, hs8, hs15, hbk9, hs9⟩ := hI.1
  have b00 := hB 0 0
  have b01 := hB 0 1
  have b02 := hB 0 2
  have b03 := hB 0 3
  refine v_aload_n dX7_carries_0 rfl ?_
  refine fX7_7 (v := .ref (m + 1)) rfl dX7_carries_1 ho rfl ?_
  refine v_iconst (v := nI 2) dX7_carries_4 (by decide) ?_
  refine n_ialdv (f := vO C) (j := 2) (y := C 0 2) dX7_carries_5 hv (by omega) (by decide) ((vrd (C := C) lgn2 (Or.inl (by decide))).trans rfl) ?_
  have b21 := hK 0 2
  refine n_if_ne (tgt := 23) (x := C 0 2) dX7_carries_6 (by decide) (by omega) (fun c22 => ?_) (fun c22 => ?_)
  · obtain ⟨bq1, bq2, bq3, bq4⟩ := hbk9 0 (by omega)
    have h2p : 0 < C 0 2 := by omega
    refine v_aload_n dX7_carries_23 rfl ?_
    refine v_iconst (v := nI 0) dX7_carries_24 (by decide) ?_
    refine v_iconst (v := nI 0) dX7_carries_25 (by decide) ?_
    refine v_callV (st := []) dX7_carries_26 (t_X7_booked (p := 0) (w := 0) ho hv hK (by omega) (by omega) (by omega) (by omega)) wX7_101 ho rfl rfl ⟨Nat.le_of_ble_eq_true rfl, Nat.le_of_ble_eq_true rfl⟩ (Nat.le_of_ble_eq_true rfl) ⟨Nat.le_of_ble_eq_true rfl, Nat.le_of_ble_eq_true rfl⟩ (fun r n2 h2 hq => ?_)
    obtain ⟨rfl, hn9, hh9⟩ := hq; replace hn9 := hn9.symm; subst hn9; replace hh9 := hh9.symm; subst hh9
    refine v_st (st2 := [.int (nI (C 11 0))]) rfl ?_
    have b23 := hK 11 0
    refine v_istore_n dX7_carries_29 rfl (by decide) ?_
    refine v_ls (ls2 := [some (.ref m), some (.int (nI (C 11 0))), none, none, none]) rfl ?_
    refine v_aload_n dX7_carries_30 rfl ?_
    refine v_iconst (v := nI 0) dX7_carries_31 (by decide) ?_
    refine v_iconst (v := nI 1) dX7_carries_32 (by decide) ?_
    refine v_callV (st := []) dX7_carries_33 (t_X7_booked (p := 0) (w := 1) ho hv hK (by omega) (by omega) (by omega) (by omega)) wX7_101 ho rfl rfl ⟨Nat.le_of_ble_eq_true rfl, Nat.le_of_ble_eq_true rfl⟩ (Nat.le_of_ble_eq_true rfl) ⟨Nat.le_of_ble_eq_true rfl, Nat.le_of_ble_eq_true rfl⟩ (fun r n2 h2 hq => ?_)
    obtain ⟨rfl, hn9, hh9⟩ := hq; replace hn9 := hn9.symm; subst hn9; replace hh9 := hh9.symm; subst hh9
    refine v_st (st2 := [.int (nI (C 12 0))]) rfl ?_
    have b24 := hK 12 0
    refine v_istore_n dX7_carries_36 rfl (by decide) ?_
    refine v_ls (ls2 := [some (.ref m), some (.int (nI (C 11 0))), some (.int (nI (C 12 0))), none, none]) rfl ?_
    refine v_aload_n dX7_carries_37 rfl ?_
    refine v_iconst (v := nI 0) dX7_carries_38 (by decide) ?_
    refine v_iconst (v := nI 2) dX7_carries_39 (by decide) ?_
    refine v_callV (st := []) dX7_carries_40 (t_X7_booked (p := 0) (w := 2) ho hv hK (by omega) (by omega) (by omega) (by omega)) wX7_101 ho rfl rfl ⟨Nat.le_of_ble_eq_true rfl, Nat.le_of_ble_eq_true rfl⟩ (Nat.le_of_ble_eq_true rfl) ⟨Nat.le_of_ble_eq_true rfl, Nat.le_of_ble_eq_true rfl⟩ (fun r n2 h2 hq => ?_)
    obtain ⟨rfl, hn9, hh9⟩ := hq; replace hn9 := hn9.symm; subst hn9; replace hh9 := hh9.symm; subst hh9
    refine v_st (st2 := [.int (nI (C 13 0))]) rfl ?_
    have b25 := hK 13 0
    refine v_istore_n dX7_carries_43 rfl (by decide) ?_
    refine v_ls (ls2 := [some (.ref m), some (.int (nI (C 11 0))), some (.int (nI (C 12 0))), some (.int (nI (C 13 0))), none]) rfl ?_
    refine v_aload_n dX7_carries_44 rfl ?_
    refine fX7_7 (v := .ref (m + 1)) rfl dX7_carries_45 ho rfl ?_
    refine v_iconst (v := nI 3) dX7_carries_48 (by decide) ?_
    refine v_aload_n dX7_carries_49 rfl ?_
    refine v_iconst (v := nI 0) dX7_carries_50 (by decide) ?_
    refine v_iconst (v := nI 3) dX7_carries_51 (by decide) ?_
    refine v_callV (st := [.int (nI 3), .ref (m + 1)]) dX7_carries_52 (t_X7_booked (p := 0) (w := 3) ho hv hK (by omega) (by omega) (by omega) (by omega)) wX7_101 ho rfl rfl ⟨Nat.le_of_ble_eq_true rfl, Nat.le_of_ble_eq_true rfl⟩ (Nat.le_of_ble_eq_true rfl) ⟨Nat.le_of_ble_eq_true rfl, Nat.le_of_ble_eq_true rfl⟩ (fun r n2 h2 hq => ?_)
    obtain ⟨rfl, hn9, hh9⟩ := hq; replace hn9 := hn9.symm; subst hn9; replace hh9 := hh9.symm; subst hh9
    refine v_st (st2 := [.int (nI (C 14 0)), .int (nI 3), .ref (m + 1)]) rfl ?_
    have b26 := hK 14 0
    refine n_iast (f := vO C) (j := 3) (x := C 14 0) dX7_carries_55 hv (by omega) (by decide) ?_
    refine nw (fun h1 f1 s1 => ?_)
    have hv27 : h1 (m + 1) = some (ar G 182 (vO (cu C 0 3 (C 14 0)))) := Eq.mp (congrArg (fun F => h1 (m + 1) = some (ar G 182 F)) (vup (C := C) lgn3 (Or.inl (by decide)) (by omega))) f1
    have sa27 := s1
    clear f1 s1
    have hK27 : bdk (b + 100) (cu C 0 3 (C 14 0)) := bdk_cu hK (by omega) (by omega)
    have hD27 := hK27.bd (by omega)
    have fa28 := (sa27 (m) (by omega)).trans ho
    have fr29 := offn_in (k := 2) (q := m) offn_rf sa27 (by omega)
    refine v_sipush (v := nI 142) dX7_carries_56 (by decide) ?_
    refine v_istore dX7_carries_59 rfl (by decide) ?_
    refine v_ls (ls2 := [some (.ref m), some (.int (nI (C 11 0))), some (.int (nI (C 12 0))), some (.int (nI (C 13 0))), some (.int (nI 142))]) rfl ?_
    refine v_arr (f := shT (vO (cu C 0 3 (C 14 0))) 142) hv27 (fun i hi => shT_0 i) (fun h1 f1 s1 => ?_)
    have hv30 := f1
    have sa30 := s1
    clear f1 s1
    have fa31 := (sa30 (m) (by omega)).trans fa28
    have fr32 := offn_in (k := 2) (q := m) fr29 sa30 (by omega)
    refine loopH (fun i => [some (.ref m), some (.int (nI (C 11 0))), some (.int (nI (C 12 0))), some (.int (nI (C 13 0))), some (.int (nI i))]) (fun k h1 => h1 m = some (mo m ch sv tn hr en ln wg dg fl wy dt) ∧ h1 (m + 1) = some (ar G 182 (shT (vO (cu C 0 3 (C 14 0))) k)) ∧ offn 2 m h h1 ∧ 142 ≤ k) (N := 182) 142 (by omega) rfl ⟨fa31, hv30, fr32, Nat.le_refl _⟩ (fun k h1 hk hp0 ihk => ?_)
    clear ho hv
    obtain ⟨ho, hv, fr0, hk142⟩ := hp0
    refine v_iload dX7_carries_61 rfl ?_
    refine v_sipush (v := nI 182) dX7_carries_63 (by decide) ?_
    refine n_icmp_ge (tgt := 105) (x := k) (y := 182) dX7_carries_66 (by decide) (by omega) (by omega) (fun c33 => ?_) (fun c33 => ?_)
    · have ek : k = 182 := by omega
      subst ek
      refine v_aload_n dX7_carries_105 rfl ?_
      refine fX7_7 (v := .ref (m + 1)) rfl dX7_carries_106 ho rfl ?_
      refine v_iconst (v := nI 2) dX7_carries_109 (by decide) ?_
      refine v_dup2 dX7_carries_110 rfl rfl ?_
      refine n_ialdv (f := shT (vO (cu C 0 3 (C 14 0))) 182) (j := 2) (y := C 0 2) dX7_carries_111 hv (by omega) (by decide) ((shT_lo (by decide)).trans ((vrd (C := cu C 0 3 (C 14 0)) lgn2 (Or.inl (by decide))).trans rfl)) ?_
      refine v_iconst (v := nI 1) dX7_carries_112 (by decide) ?_
      refine n_isub (x := C 0 2) (y := 1) dX7_carries_113 (by omega) ?_
      refine n_iast (f := shT (vO (cu C 0 3 (C 14 0))) 182) (j := 2) (x := C 0 2 - 1) dX7_carries_114 hv (by omega) (by decide) ?_
      refine nw (fun h1 f1 s1 => ?_)
      have hv34 : h1 (m + 1) = some (ar G 182 (va_up (shT (vO (cu C 0 3 (C 14 0))) 182) 2 (C 0 2 - 1))) := f1
      have sa34 := s1
      clear f1 s1
      have fa35 := (sa34 (m) (by omega)).trans ho
      have fr36 := offn_in (k := 2) (q := m) fr0 sa34 (by omega)
      refine v_aload_n dX7_carries_115 rfl ?_
      refine fX7_7 (v := .ref (m + 1)) rfl dX7_carries_116 fa35 rfl ?_
      refine v_bipush (v := nI 7) dX7_carries_119 (by decide) ?_
      refine v_dup2 dX7_carries_121 rfl rfl ?_
      refine n_ialdv (f := va_up (shT (vO (cu C 0 3 (C 14 0))) 182) 2 (C 0 2 - 1)) (j := 7) (y := C 0 7) dX7_carries_122 hv34 (by omega) (by decide) ((va_un (by decide)).trans ((shT_lo (by decide)).trans ((vrd (C := cu C 0 3 (C 14 0)) lgn7 (Or.inl (by decide))).trans rfl))) ?_
      have b37 := hK 0 7
      refine v_iconst (v := nI 1) dX7_carries_123 (by decide) ?_
      refine n_iadd (x := C 0 7) (y := 1) dX7_carries_124 ?_
      refine n_iast (f := va_up (shT (vO (cu C 0 3 (C 14 0))) 182) 2 (C 0 2 - 1)) (j := 7) (x := C 0 7 + 1) dX7_carries_125 hv34 (by omega) (by decide) ?_
      refine nw (fun h1 f1 s1 => ?_)
      have hv38 : h1 (m + 1) = some (ar G 182 (va_up (va_up (shT (vO (cu C 0 3 (C 14 0))) 182) 2 (C 0 2 - 1)) 7 (C 0 7 + 1))) := f1
      have sa38 := s1
      clear f1 s1
      have fa39 := (sa38 (m) (by omega)).trans fa35
      have fr40 := offn_in (k := 2) (q := m) fr36 sa38 (by omega)
      refine v_arr (f := vO (crH C)) hv38 (fun i hi => crH_raw h2p (by omega) i) (fun h1 f1 s1 => ?_)
      have hv41 := f1
      have sa41 := s1
      clear f1 s1
      have fa42 := (sa41 (m) (by omega)).trans fa39
      have fr43 := offn_in (k := 2) (q := m) fr40 sa41 (by omega)
      have fv41 := hv41
      have hv44 := fv41
      obtain ⟨C44, hC44⟩ : ∃ C9 : Ct, C9 = crH C := ⟨_, rfl⟩
      rw [← hC44] at hv44
      have hK44 : bdk (b + 300) C44 := by rw [hC44]; exact bdk_crH hK
      have hD44 := hK44.bd (by omega)
      have c99 : ∀ i, C44 2 i ≤ 99 := by rw [hC44]; exact hc99
      have c7 : C44 7 (C 12 0) ≤ 9 := by rw [hC44]; exact hs7 _
      have c1 : C44 1 (C 11 0) ≤ 9 := by rw [hC44]; exact hs1 _
      have w6 : C44 8 (C 12 0) < 6 := by rw [hC44]; exact hs8 _
      have c15 : C44 15 (C 13 0) ≤ 1 := by rw [hC44]; exact hs15 _
      have l18 : lau C44 (C 11 0) (C 12 0) (C 13 0) ≤ 100 := by show C44 7 (C 12 0) + C44 1 (C 11 0) - _ ≤ 100; omega
      refine v_aload_n dX7_carries_126 rfl ?_
      refine fX7_7 (v := .ref (m + 1)) rfl dX7_carries_127 fa42 rfl ?_
      refine v_iload_n dX7_carries_130 rfl ?_
      refine v_iconst (v := nI 0) dX7_carries_131 (by decide) ?_
      refine v_callS (st := [.ref (m + 1)]) dX7_carries_132 (t_X7_of (f := C 13 0) (w := 0)) wX7_116 rfl ⟨Nat.le_of_ble_eq_true rfl, Nat.le_of_ble_eq_true rfl⟩ (Nat.le_of_ble_eq_true rfl) ⟨Nat.le_of_ble_eq_true rfl, Nat.le_of_ble_eq_true rfl⟩ (fun r n2 h2 hq => ?_)
      obtain ⟨rfl, hn9, hh9⟩ := hq; replace hn9 := hn9.symm; subst hn9; replace hh9 := hh9.symm; subst hh9
      refine v_st (st2 := [.int (nI (82 + 3 * (C 13 0) + 0)), .ref (m + 1)]) rfl ?_
      refine n_ialdv (f := vO C44) (j := 82 + 3 * (C 13 0) + 0) (y := C44 15 (C 13 0)) dX7_carries_135 hv44 (by omega) (by decide) ((vrd (C := C44) (lgT0 (f := (C 13 0)) (by omega)) (Or.inl (by omega))).trans rfl) ?_
      have b45 := hK44 15 (C 13 0)
      refine v_iconst (v := nI 1) dX7_carries_136 (by decide) ?_
      refine n_icmp_ne (tgt := 142) (x := C44 15 (C 13 0)) (y := 1) dX7_carries_137 (by decide) (by omega) (by omega) (fun c46 => ?_) (fun c46 => ?_)
      · refine v_aload_n dX7_carries_142 rfl ?_
        refine v_iload_n dX7_carries_143 rfl ?_
        refine v_iload_n dX7_carries_144 rfl ?_
        refine v_callV (st := []) dX7_carries_145 (t_X7_isBarred (f := C 11 0) (j := C 12 0) fa42 hv44 hK44 (by omega) (by omega) (by omega)) wX7_125 fa42 rfl rfl ⟨Nat.le_of_ble_eq_true rfl, Nat.le_of_ble_eq_true rfl⟩ (Nat.le_of_ble_eq_true rfl) ⟨Nat.le_of_ble_eq_true rfl, Nat.le_of_ble_eq_true rfl⟩ (fun r n2 h2 hq => ?_)
        obtain ⟨rfl, hn9, hh9⟩ := hq; replace hn9 := hn9.symm; subst hn9; replace hh9 := hh9.symm; subst hh9
        refine v_st (st2 := [.int (nI (bI (barr C44 (C 11 0) (C 12 0))))]) rfl ?_
        refine n_ifb_eq (tgt := 168) (p := barr C44 (C 11 0) (C 12 0)) dX7_carries_148 (by decide) (fun c47 => ?_) (fun c47 => ?_)
        · refine v_aload_n dX7_carries_168 rfl ?_
          refine v_iload_n dX7_carries_169 rfl ?_
          refine v_iload_n dX7_carries_170 rfl ?_
          refine v_iload_n dX7_carries_171 rfl ?_
          refine v_callV (st := []) dX7_carries_172 (t_X7_tells (f := C 11 0) (j := C 12 0) (t := C 13 0) fa42 hv44 hK44 (by omega) (by omega) (by omega) (by omega) c99 c7 c1) wX7_148 fa42 rfl rfl ⟨Nat.le_of_ble_eq_true rfl, Nat.le_of_ble_eq_true rfl⟩ (Nat.le_of_ble_eq_true rfl) ⟨Nat.le_of_ble_eq_true rfl, Nat.le_of_ble_eq_true rfl⟩ (fun r n2 h2 hq => ?_)
          obtain ⟨rfl, rfl, hv48, sa48⟩ := hq
          refine v_st (st2 := [.int (nI (lau C44 (C 11 0) (C 12 0) (C 13 0)))]) rfl ?_
          obtain ⟨C48, hC48⟩ : ∃ C9 : Ct, C9 = prG C44 (C 11 0) (C 12 0) (C 13 0) := ⟨_, rfl⟩
          rw [← hC48] at hv48
          have hK48 : bdk (b + 2300) C48 := by rw [hC48]; exact bdk_prG hK44 (by omega) l18
          have hD48 := hK48.bd (by omega)
          have fa49 := (sa48 (m) (by omega)).trans fa42
          have fr50 := offn_in (k := 2) (q := m) fr43 sa48 (by omega)
          refine v_iret dX7_carries_175 rfl ?_ (Nat.le_of_ble_eq_true rfl) (Nat.le_of_ble_eq_true rfl)
          rw [hC44] at c46
          rw [hC44] at c47
          have hv9 := hv48
          rw [hC48, hC44] at hv9
          have eR : dNext C = (nI (crR C), crG C, none) := if_neg (by omega)
          have e7 : crG C = _ := (if_neg c46).trans (if_neg c47)
          have e8 : crR C = _ := (if_neg c46).trans (if_neg c47)
          have hbR : crR C < 2 ^ 31 := by rw [e8]; first | done | decide | (exact lau_bd hB _ _ _)
          refine pm_of eR ⟨by rw [e8]; rw [hC44]; try rfl, rfl, by rw [mf_p (nI_pos hbR)]; exact fa49, ?_, fr50, fun z => absurd z (nI_pos hbR)⟩
          rw [e7]; exact hv9
        · have hh9 : hold C44 (C 12 0) := c47.1
          refine v_aload_n dX7_carries_151 rfl ?_
          refine v_aload_n dX7_carries_152 rfl ?_
          refine v_iload_n dX7_carries_153 rfl ?_
          refine v_callV (st := [.ref m]) dX7_carries_154 (t_X7_owner (j := C 12 0) fa42 hv44 hK44 (by omega) (by omega)) wX7_60 fa42 rfl rfl ⟨Nat.le_of_ble_eq_true rfl, Nat.le_of_ble_eq_true rfl⟩ (Nat.le_of_ble_eq_true rfl) ⟨Nat.le_of_ble_eq_true rfl, Nat.le_of_ble_eq_true rfl⟩ (fun r n2 h2 hq => ?_)
          obtain ⟨rfl, hn9, hh9⟩ := hq; replace hn9 := hn9.symm; subst hn9; replace hh9 := hh9.symm; subst hh9
          refine v_st (st2 := [.int (nI (C44 8 (C 12 0))), .ref m]) (by rw [ow_t hh9]; try rfl) ?_
          have b51 := hK44 8 (C 12 0)
          refine v_aload_n dX7_carries_157 rfl ?_
          refine v_iload_n dX7_carries_158 rfl ?_
          refine v_iconst (v := nI 2) dX7_carries_159 (by decide) ?_
          refine v_callV (st := [.int (nI (C44 8 (C 12 0))), .ref m]) dX7_carries_160 (t_X7_pays (f := C 11 0) (k := 2) fa42 hv44 hK44 (by omega) (by omega) (by omega)) wX7_88 fa42 rfl rfl ⟨Nat.le_of_ble_eq_true rfl, Nat.le_of_ble_eq_true rfl⟩ (Nat.le_of_ble_eq_true rfl) ⟨Nat.le_of_ble_eq_true rfl, Nat.le_of_ble_eq_true rfl⟩ (fun r n2 h2 hq => ?_)
          obtain ⟨rfl, rfl, hv52, sa52⟩ := hq
          refine v_st (st2 := [.int (nI (pay C44 (C 11 0) 2)), .int (nI (C44 8 (C 12 0))), .ref m]) rfl ?_
          have hpl52 : pay C44 (C 11 0) 2 ≤ C44 2 (C 11 0) := Nat.min_le_right _ _
          have hpk52 : pay C44 (C 11 0) 2 ≤ 2 := Nat.min_le_left _ _
          have hbk52 := hK44 2 (C 11 0)
          have hbl52 : C44 2 (C 11 0) < b + 300 := hbk52
          have hK52 : bdk (b + 400) (cu C44 2 (C 11 0) (C44 2 (C 11 0) - pay C44 (C 11 0) 2)) := bdk_cu hK44 (by omega) (by omega)
          have hD52 := hK52.bd (by omega)
          have fa53 := (sa52 (m) (by omega)).trans fa42
          have fr54 := offn_in (k := 2) (q := m) fr43 sa52 (by omega)
          have h99 : (cu C44 2 (C 11 0) (C44 2 (C 11 0) - pay C44 (C 11 0) 2)) 2 (C44 8 (C 12 0)) ≤ 99 := by rw [cu_at]; have q1 := c99 (C 11 0); have q2 := c99 (C44 8 (C 12 0)); split <;> omega
          refine v_callV (st := []) dX7_carries_163 (t_X7_earns (f := C44 8 (C 12 0)) (k := pay C44 (C 11 0) 2) fa53 hv52 hK52 (by omega) (by omega) (by omega) h99) wX7_144 fa53 rfl rfl ⟨Nat.le_of_ble_eq_true rfl, Nat.le_of_ble_eq_true rfl⟩ (Nat.le_of_ble_eq_true rfl) ⟨Nat.le_of_ble_eq_true rfl, Nat.le_of_ble_eq_true rfl⟩ (fun r n2 h2 hq => ?_)
          obtain ⟨rfl, rfl, hv55, sa55⟩ := hq
          refine v_st (st2 := []) rfl ?_
          obtain ⟨C55, hC55⟩ : ∃ C9 : Ct, C9 = gain (cu C44 2 (C 11 0) (C44 2 (C 11 0) - pay C44 (C 11 0) 2)) (C44 8 (C 12 0)) (pay C44 (C 11 0) 2) := ⟨_, rfl⟩
          rw [← hC55] at hv55
          have hK55 : bdk (b + 500) C55 := by rw [hC55]; exact bdk_gain hK52 (by omega) (by omega)
          have hD55 := hK55.bd (by omega)
          have fa56 := (sa55 (m) (by omega)).trans fa53
          have fr57 := offn_in (k := 2) (q := m) fr54 sa55 (by omega)
          refine v_iconst (v := nI 0) dX7_carries_166 (by decide) ?_
          refine v_iret dX7_carries_167 rfl ?_ (Nat.le_of_ble_eq_true rfl) (Nat.le_of_ble_eq_true rfl)
          rw [hC44] at c46
          rw [hC44] at c47
          have hv9 := hv55
          rw [hC55, hC44] at hv9
          have eR : dNext C = (nI (crR C), crG C, none) := if_neg (by omega)
          have e7 : crG C = _ := (if_neg c46).trans (if_pos c47)
          have e8 : crR C = _ := (if_neg c46).trans (if_pos c47)
          have hbR : crR C < 2 ^ 31 := by rw [e8]; first | done | decide | (exact lau_bd hB _ _ _)
          refine pm_of eR ⟨by rw [e8]; try rfl, rfl, by rw [mf_p (nI_pos hbR)]; exact fa56, ?_, fr57, fun z => absurd z (nI_pos hbR)⟩
          rw [e7]; exact hv9
      · refine v_iconst (v := nI 0) dX7_carries_140 (by decide) ?_
        refine v_iret dX7_carries_141 rfl ?_ (Nat.le_of_ble_eq_true rfl) (Nat.le_of_ble_eq_true rfl)
        rw [hC44] at c46
        have hv9 := hv44
        rw [hC44] at hv9
        have eR : dNext C = (nI (crR C), crG C, none) := if_neg (by omega)
        have e7 : crG C = _ := if_pos c46
        have e8 : crR C = _ := if_pos c46
        have hbR : crR C < 2 ^ 31 := by rw [e8]; first | done | decide | (exact lau_bd hB _ _ _)
        refine pm_of eR ⟨by rw [e8]; try rfl, rfl, by rw [mf_p (nI_pos hbR)]; exact fa42, ?_, fr43, fun z => absurd z (nI_pos hbR)⟩
        rw [e7]; exact hv9
    · refine v_aload_n dX7_carries_69 rfl ?_
      refine fX7_7 (v := .ref (m + 1)) rfl dX7_carries_70 ho rfl ?_
      refine v_iload dX7_carries_73 rfl ?_
      refine v_iload dX7_carries_75 rfl ?_
      refine v_iconst (v := nI 4) dX7_carries_77 (by decide) ?_
      refine n_iadd (x := k) (y := 4) dX7_carries_78 ?_
      refine v_sipush (v := nI 182) dX7_carries_79 (by decide) ?_
      refine n_icmp_ge (tgt := 97) (x := k + 4) (y := 182) dX7_carries_82 (by decide) (by omega) (by omega) (fun c58 => ?_) (fun c58 => ?_)
      · refine v_iconst (v := nI 0) dX7_carries_97 (by decide) ?_
        refine n_iast (f := shT (vO (cu C 0 3 (C 14 0))) k) (j := k) (x := 0) dX7_carries_98 hv (by omega) (by decide) ?_
        refine nw (fun h1 f1 s1 => ?_)
        have hv59 : h1 (m + 1) = some (ar G 182 (va_up (shT (vO (cu C 0 3 (C 14 0))) k) k 0)) := f1
        have sa59 := s1
        clear f1 s1
        have fa60 := (sa59 (m) (by omega)).trans ho
        have fr61 := offn_in (k := 2) (q := m) fr0 sa59 (by omega)
        refine v_arr (f := shT (vO (cu C 0 3 (C 14 0))) (k + 1)) hv59 (fun i hi => by rw [← shT_s (by omega) i, if_neg (by omega)]) (fun h1 f1 s1 => ?_)
        have hv62 := f1
        have sa62 := s1
        clear f1 s1
        have fa63 := (sa62 (m) (by omega)).trans fa60
        have fr64 := offn_in (k := 2) (q := m) fr61 sa62 (by omega)
        refine n_iinc (k := 1) (x := k) dX7_carries_99 (by decide) rfl rfl (by decide) ?_
        refine v_ls (ls2 := [some (.ref m), some (.int (nI (C 11 0))), some (.int (nI (C 12 0))), some (.int (nI (C 13 0))), some (.int (nI (k + 1)))]) rfl ?_
        refine v_goto (tgt := 61) dX7_carries_102 (by decide) ?_
        exact ihk (by omega) _ ⟨fa63, hv62, fr64, by omega⟩
      · refine v_aload_n dX7_carries_85 rfl ?_
        refine fX7_7 (v := .ref (m + 1)) rfl dX7_carries_86 ho rfl ?_
        refine v_iload dX7_carries_89 rfl ?_
        refine v_iconst (v := nI 4) dX7_carries_91 (by decide) ?_
        refine n_iadd (x := k) (y := 4) dX7_carries_92 ?_
        refine n_ialdv (f := shT (vO (cu C 0 3 (C 14 0))) k) (j := k + 4) (y := vO (cu C 0 3 (C 14 0)) (k + 4)) dX7_carries_93 hv (by omega) (by decide) (shT_hi (by omega)) ?_
        refine v_goto (tgt := 98) dX7_carries_94 (by decide) ?_
        refine n_iast (f := shT (vO (cu C 0 3 (C 14 0))) k) (j := k) (x := vO (cu C 0 3 (C 14 0)) (k + 4)) dX7_carries_98 hv (by omega) (by decide) ?_
        refine nw (fun h1 f1 s1 => ?_)
        have hv65 : h1 (m + 1) = some (ar G 182 (va_up (shT (vO (cu C 0 3 (C 14 0))) k) k (vO (cu C 0 3 (C 14 0)) (k + 4)))) := f1
        have sa65 := s1
        clear f1 s1
        have fa66 := (sa65 (m) (by omega)).trans ho
        have fr67 := offn_in (k := 2) (q := m) fr0 sa65 (by omega)
        refine v_arr (f := shT (vO (cu C 0 3 (C 14 0))) (k + 1)) hv65 (fun i hi => by rw [← shT_s (by omega) i, if_pos (by omega)]) (fun h1 f1 s1 => ?_)
        have hv68 := f1
        have sa68 := s1
        clear f1 s1
        have fa69 := (sa68 (m) (by omega)).trans fa66
        have fr70 := offn_in (k := 2) (q := m) fr67 sa68 (by omega)
        refine n_iinc (k := 1) (x := k) dX7_carries_99 (by decide) rfl rfl (by decide) ?_
        refine v_ls (ls2 := [some (.ref m), some (.int (nI (C 11 0))), some (.int (nI (C 12 0))), some (.int (nI (C 13 0))), some (.int (nI (k + 1)))]) rfl ?_
        refine v_goto (tgt := 61) dX7_carries_102 (by decide) ?_
        exact ihk (by omega) _ ⟨fa69, hv68, fr70, by omega⟩
  · refine v_aload_n dX7_carries_9 rfl ?_
    refine v_bipush (v := nI 11) dX7_carries_10 (by decide) ?_
    refine v_aload_n dX7_carries_12 rfl ?_
    refine fX7_7 (v := .ref (m + 1)) rfl dX7_carries_13 ho rfl ?_
    refine v_bipush (v := nI 7) dX7_carries_16 (by decide) ?_
    refine n_ialdv (f := vO C) (j := 7) (y := C 0 7) dX7_carries_18 hv (by omega) (by decide) ((vrd (C := C) lgn7 (Or.inl (by decide))).trans rfl) ?_
    have b71 := hK 0 7
    refine v_callV (st := []) dX7_carries_19 (t_X7_refuses (x := nI 11) (y := nI (C 0 7)) ho) wX7_66 ho rfl rfl ⟨Nat.le_of_ble_eq_true rfl, Nat.le_of_ble_eq_true rfl⟩ (Nat.le_of_ble_eq_true rfl) ⟨Nat.le_of_ble_eq_true rfl, Nat.le_of_ble_eq_true rfl⟩ (fun r n2 h2 hq => ?_)
    obtain ⟨rfl, rfl, fa72, sa73⟩ := hq
    refine v_st (st2 := [.int ((-1014))]) rfl ?_
    have hv74 := (sa73 (m + 1) (by omega)).trans hv
    have fr75 := offn_in (k := 2) (q := m) offn_rf sa73 (by omega)
    refine v_iret dX7_carries_22 rfl ?_ (Nat.le_of_ble_eq_true rfl) (Nat.le_of_ble_eq_true rfl)
    have e9 : dNext C = (((-1014) : Int32), (C : Ct), (some (nI 11, nI (C 0 7)) : Option (Int32 × Int32))) := by unfold dNext; all_goals (repeat (first | rw [if_pos (by first | assumption | omega | rfl | trivial)] | rw [if_neg (by first | assumption | omega)])); all_goals rfl
    exact pm_of e9 ⟨rfl, rfl, by rw [mf_n (by decide)]; exact fa72, hv74, fr75, fun _ => rfl⟩
set_option maxRecDepth 20000 in
set_option maxHeartbeats 4000000 in
theorem t_X7_bookedR {l : Launch} {G : vG} {h : AH} {n : Nat} {m ch sv tn hr en ln wg dg : Nat} {fl wy dt : Int32} {F : Nat → Nat} {p w : Nat} (ho : h m = some (mo m ch sv tn hr en ln wg dg fl wy dt)) (hv : h (m + 1) = some (ar G 182 F)) (hp : p < 10) (hw : w < 4) : Mt l G mX7_booked [.ref m, .int (nI p), .int (nI w)] (n) h 0 0 (fun r n2 h2 => r = some (.int (nI (F (142 + 4 * p + w)))) ∧ n2 = n ∧ h2 = h) := by
  refine Mt.of (by decide) (Nat.le_of_ble_eq_true rfl) rfl ?_
  refine v_ls (ls2 := [some (.ref m), some (.int (nI p)), some (.int (nI w))]) rfl ?_
  refine v_aload_n dX7_booked_0 rfl ?_
  refine fX7_7 (v := .ref (m + 1)) rfl dX7_booked_1 ho rfl ?_
  refine v_sipush (v := nI 142) dX7_booked_4 (by decide) ?_
  refine v_iconst (v := nI 4) dX7_booked_7 (by decide) ?_
  refine v_iload_n dX7_booked_8 rfl ?_
  refine n_imul (x := 4) (y := p) dX7_booked_9 ?_
  refine n_iadd (x := 142) (y := 4 * p) dX7_booked_10 ?_
  refine v_iload_n dX7_booked_11 rfl ?_
  refine n_iadd (x := 142 + (4 * p)) (y := w) dX7_booked_12 ?_
  refine n_ialdv (f := F) (j := (142 + (4 * p)) + w) (y := F ((142 + (4 * p)) + w)) dX7_booked_13 hv (by omega) (by decide) rfl ?_
  refine v_iret dX7_booked_14 rfl ?_ (Nat.le_of_ble_eq_true rfl) (Nat.le_of_ble_eq_true rfl)
  exact ⟨rfl, rfl, rfl⟩
set_option maxRecDepth 20000 in
set_option maxHeartbeats 4000000 in
theorem t_X7_isAhead {l : Launch} {G : vG} {h : AH} {n : Nat} {m ch sv tn hr en ln wg dg : Nat} {fl wy dt : Int32} {F : Nat → Nat} {C : Ct} {p f j k : Nat} (ho : h m = some (mo m ch sv tn hr en ln wg dg fl wy dt)) (hv : h (m + 1) = some (ar G 182 F)) (hB : bd C) (e3 : F (142 + 4 * p + 3) = C 14 p) (e1 : F (142 + 4 * p + 1) = C 12 p) (e0 : F (142 + 4 * p + 0) = C 11 p) (ew : F (46 + 3 * j + 0) = C 7 j) (ev : F (46 + 3 * (C 12 p) + 0) = C 7 (C 12 p)) (hp : p < 10) (hj : j < 12) (hj2 : C 12 p < 12) (hf : f < 2 ^ 28) (hk : k < 2 ^ 28) : Mt l G mX7_isAhead [.ref m, .int (nI p), .int (nI f), .int (nI j), .int (nI k)] (n) h 0 0 (fun r n2 h2 => r = some (.int (nI (bI (bkA C p f j k)))) ∧ n2 = n ∧ h2 = h) := by
  refine Mt.of (by decide) (Nat.le_of_ble_eq_true rfl) rfl ?_
  refine v_ls (ls2 := [some (.ref m), some (.int (nI p)), some (.int (nI f)), some (.int (nI j)), some (.int (nI k)), none]) rfl ?_
  have b14 := hB 14 p
  have b11 := hB 11 p
  have b7 := hB 7 j
  have b72 := hB 7 (C 12 p)
  refine v_aload_n dX7_isAhead_0 rfl ?_
  refine v_iload_n dX7_isAhead_1 rfl ?_
  refine v_iconst (v := nI 3) dX7_isAhead_2 (by decide) ?_
  refine v_callV (st := []) dX7_isAhead_3 (t_X7_bookedR (p := p) (w := 3) ho hv (by omega) (by decide)) wX7_101 ho rfl rfl ⟨Nat.le_of_ble_eq_true rfl, Nat.le_of_ble_eq_true rfl⟩ (Nat.le_of_ble_eq_true rfl) ⟨Nat.le_of_ble_eq_true rfl, Nat.le_of_ble_eq_true rfl⟩ (fun r n2 h2 hq => ?_)
  obtain ⟨rfl, hn9, hh9⟩ := hq; replace hn9 := hn9.symm; subst hn9; replace hh9 := hh9.symm; subst hh9
  refine v_st (st2 := [.int (nI (C 14 p))]) (by rw [e3]; try rfl) ?_
  have b21 := hB 14 p
  refine v_iload dX7_isAhead_6 rfl ?_
  refine v_isub dX7_isAhead_8 ?_
  refine v_istore dX7_isAhead_9 rfl (by decide) ?_
  refine v_ls (ls2 := [some (.ref m), some (.int (nI p)), some (.int (nI f)), some (.int (nI j)), some (.int (nI k)), some (.int (nI (C 14 p) - nI k))]) rfl ?_
  refine v_iload dX7_isAhead_11 rfl ?_
  refine v_if_eq (tgt := 21) dX7_isAhead_13 (by decide) (fun c22 => ?_) (fun c22 => ?_)
  · rw [sub_eq0 (by omega) (by omega)] at c22
    refine v_aload_n dX7_isAhead_21 rfl ?_
    refine fX7_7 (v := .ref (m + 1)) rfl dX7_isAhead_22 ho rfl ?_
    refine v_iload_n dX7_isAhead_25 rfl ?_
    refine v_iconst (v := nI 0) dX7_isAhead_26 (by decide) ?_
    refine v_callS (st := [.ref (m + 1)]) dX7_isAhead_27 (t_X7_in (f := j) (w := 0)) wX7_56 rfl ⟨Nat.le_of_ble_eq_true rfl, Nat.le_of_ble_eq_true rfl⟩ (Nat.le_of_ble_eq_true rfl) ⟨Nat.le_of_ble_eq_true rfl, Nat.le_of_ble_eq_true rfl⟩ (fun r n2 h2 hq => ?_)
    obtain ⟨rfl, hn9, hh9⟩ := hq; replace hn9 := hn9.symm; subst hn9; replace hh9 := hh9.symm; subst hh9
    refine v_st (st2 := [.int (nI (46 + 3 * j + 0)), .ref (m + 1)]) rfl ?_
    refine n_ialdv (f := F) (j := 46 + 3 * j + 0) (y := C 7 j) dX7_isAhead_30 hv (by omega) (by decide) ew ?_
    have b23 := hB 7 j
    refine v_aload_n dX7_isAhead_31 rfl ?_
    refine fX7_7 (v := .ref (m + 1)) rfl dX7_isAhead_32 ho rfl ?_
    refine v_aload_n dX7_isAhead_35 rfl ?_
    refine v_iload_n dX7_isAhead_36 rfl ?_
    refine v_iconst (v := nI 1) dX7_isAhead_37 (by decide) ?_
    refine v_callV (st := [.ref (m + 1), .int (nI (C 7 j))]) dX7_isAhead_38 (t_X7_bookedR (p := p) (w := 1) ho hv (by omega) (by decide)) wX7_101 ho rfl rfl ⟨Nat.le_of_ble_eq_true rfl, Nat.le_of_ble_eq_true rfl⟩ (Nat.le_of_ble_eq_true rfl) ⟨Nat.le_of_ble_eq_true rfl, Nat.le_of_ble_eq_true rfl⟩ (fun r n2 h2 hq => ?_)
    obtain ⟨rfl, hn9, hh9⟩ := hq; replace hn9 := hn9.symm; subst hn9; replace hh9 := hh9.symm; subst hh9
    refine v_st (st2 := [.int (nI (C 12 p)), .ref (m + 1), .int (nI (C 7 j))]) (by rw [e1]; try rfl) ?_
    have b24 := hB 12 p
    refine v_iconst (v := nI 0) dX7_isAhead_41 (by decide) ?_
    refine v_callS (st := [.ref (m + 1), .int (nI (C 7 j))]) dX7_isAhead_42 (t_X7_in (f := C 12 p) (w := 0)) wX7_56 rfl ⟨Nat.le_of_ble_eq_true rfl, Nat.le_of_ble_eq_true rfl⟩ (Nat.le_of_ble_eq_true rfl) ⟨Nat.le_of_ble_eq_true rfl, Nat.le_of_ble_eq_true rfl⟩ (fun r n2 h2 hq => ?_)
    obtain ⟨rfl, hn9, hh9⟩ := hq; replace hn9 := hn9.symm; subst hn9; replace hh9 := hh9.symm; subst hh9
    refine v_st (st2 := [.int (nI (46 + 3 * (C 12 p) + 0)), .ref (m + 1), .int (nI (C 7 j))]) rfl ?_
    refine n_ialdv (f := F) (j := 46 + 3 * (C 12 p) + 0) (y := C 7 (C 12 p)) dX7_isAhead_45 hv (by omega) (by decide) ev ?_
    have b25 := hB 7 (C 12 p)
    refine v_isub dX7_isAhead_46 ?_
    refine v_istore dX7_isAhead_47 rfl (by decide) ?_
    refine v_ls (ls2 := [some (.ref m), some (.int (nI p)), some (.int (nI f)), some (.int (nI j)), some (.int (nI k)), some (.int (nI (C 7 j) - nI (C 7 (C 12 p))))]) rfl ?_
    refine v_iload dX7_isAhead_49 rfl ?_
    refine v_if_eq (tgt := 59) dX7_isAhead_51 (by decide) (fun c26 => ?_) (fun c26 => ?_)
    · rw [sub_eq0 (by omega) (by omega)] at c26
      refine v_aload_n dX7_isAhead_59 rfl ?_
      refine v_iload_n dX7_isAhead_60 rfl ?_
      refine v_iconst (v := nI 0) dX7_isAhead_61 (by decide) ?_
      refine v_callV (st := []) dX7_isAhead_62 (t_X7_bookedR (p := p) (w := 0) ho hv (by omega) (by decide)) wX7_101 ho rfl rfl ⟨Nat.le_of_ble_eq_true rfl, Nat.le_of_ble_eq_true rfl⟩ (Nat.le_of_ble_eq_true rfl) ⟨Nat.le_of_ble_eq_true rfl, Nat.le_of_ble_eq_true rfl⟩ (fun r n2 h2 hq => ?_)
      obtain ⟨rfl, hn9, hh9⟩ := hq; replace hn9 := hn9.symm; subst hn9; replace hh9 := hh9.symm; subst hh9
      refine v_st (st2 := [.int (nI (C 11 p))]) (by rw [e0]; try rfl) ?_
      have b27 := hB 11 p
      refine v_iload_n dX7_isAhead_65 rfl ?_
      refine v_isub dX7_isAhead_66 ?_
      refine v_istore dX7_isAhead_67 rfl (by decide) ?_
      refine v_ls (ls2 := [some (.ref m), some (.int (nI p)), some (.int (nI f)), some (.int (nI j)), some (.int (nI k)), some (.int (nI (C 11 p) - nI f))]) rfl ?_
      refine v_iload dX7_isAhead_69 rfl ?_
      refine v_if_ge (tgt := 78) dX7_isAhead_71 (by decide) (fun c28 => ?_) (fun c28 => ?_)
      · rw [sub_ge0 (by omega) (by omega)] at c28
        refine v_iconst (v := nI 0) dX7_isAhead_78 (by decide) ?_
        refine v_zret (ty := .boolean) dX7_isAhead_79 rfl (by decide) ?_ (Nat.le_of_ble_eq_true rfl) (Nat.le_of_ble_eq_true rfl)
        exact ⟨by rw [bI_f (by rw [bkA_aB]; unfold aB; omega)], rfl, rfl⟩
      · rw [sub_ge0 (by omega) (by omega)] at c28
        refine v_iconst (v := nI 1) dX7_isAhead_74 (by decide) ?_
        refine v_goto (tgt := 79) dX7_isAhead_75 (by decide) ?_
        refine v_zret (ty := .boolean) dX7_isAhead_79 rfl (by decide) ?_ (Nat.le_of_ble_eq_true rfl) (Nat.le_of_ble_eq_true rfl)
        exact ⟨by rw [bI_t (by rw [bkA_aB]; unfold aB; omega)], rfl, rfl⟩
    · rw [sub_eq0 (by omega) (by omega)] at c26
      refine v_iload dX7_isAhead_54 rfl ?_
      refine v_goto (tgt := 67) dX7_isAhead_56 (by decide) ?_
      refine v_istore dX7_isAhead_67 rfl (by decide) ?_
      refine v_ls (ls2 := [some (.ref m), some (.int (nI p)), some (.int (nI f)), some (.int (nI j)), some (.int (nI k)), some (.int (nI (C 7 j) - nI (C 7 (C 12 p))))]) rfl ?_
      refine v_iload dX7_isAhead_69 rfl ?_
      refine v_if_ge (tgt := 78) dX7_isAhead_71 (by decide) (fun c29 => ?_) (fun c29 => ?_)
      · rw [sub_ge0 (by omega) (by omega)] at c29
        refine v_iconst (v := nI 0) dX7_isAhead_78 (by decide) ?_
        refine v_zret (ty := .boolean) dX7_isAhead_79 rfl (by decide) ?_ (Nat.le_of_ble_eq_true rfl) (Nat.le_of_ble_eq_true rfl)
        exact ⟨by rw [bI_f (by rw [bkA_aB]; unfold aB; omega)], rfl, rfl⟩
      · rw [sub_ge0 (by omega) (by omega)] at c29
        refine v_iconst (v := nI 1) dX7_isAhead_74 (by decide) ?_
        refine v_goto (tgt := 79) dX7_isAhead_75 (by decide) ?_
        refine v_zret (ty := .boolean) dX7_isAhead_79 rfl (by decide) ?_ (Nat.le_of_ble_eq_true rfl) (Nat.le_of_ble_eq_true rfl)
        exact ⟨by rw [bI_t (by rw [bkA_aB]; unfold aB; omega)], rfl, rfl⟩
  · rw [sub_eq0 (by omega) (by omega)] at c22
    refine v_iload dX7_isAhead_16 rfl ?_
    refine v_goto (tgt := 47) dX7_isAhead_18 (by decide) ?_
    refine v_istore dX7_isAhead_47 rfl (by decide) ?_
    refine v_ls (ls2 := [some (.ref m), some (.int (nI p)), some (.int (nI f)), some (.int (nI j)), some (.int (nI k)), some (.int (nI (C 14 p) - nI k))]) rfl ?_
    refine v_iload dX7_isAhead_49 rfl ?_
    refine v_if_eq (tgt := 59) dX7_isAhead_51 (by decide) (fun c30 => ?_) (fun c30 => ?_)
    · rw [sub_eq0 (by omega) (by omega)] at c30
      refine v_aload_n dX7_isAhead_59 rfl ?_
      refine v_iload_n dX7_isAhead_60 rfl ?_
      refine v_iconst (v := nI 0) dX7_isAhead_61 (by decide) ?_
      refine v_callV (st := []) dX7_isAhead_62 (t_X7_bookedR (p := p) (w := 0) ho hv (by omega) (by decide)) wX7_101 ho rfl rfl ⟨Nat.le_of_ble_eq_true rfl, Nat.le_of_ble_eq_true rfl⟩ (Nat.le_of_ble_eq_true rfl) ⟨Nat.le_of_ble_eq_true rfl, Nat.le_of_ble_eq_true rfl⟩ (fun r n2 h2 hq => ?_)
      obtain ⟨rfl, hn9, hh9⟩ := hq; replace hn9 := hn9.symm; subst hn9; replace hh9 := hh9.symm; subst hh9
      refine v_st (st2 := [.int (nI (C 11 p))]) (by rw [e0]; try rfl) ?_
      have b31 := hB 11 p
      refine v_iload_n dX7_isAhead_65 rfl ?_
      refine v_isub dX7_isAhead_66 ?_
      refine v_istore dX7_isAhead_67 rfl (by decide) ?_
      refine v_ls (ls2 := [some (.ref m), some (.int (nI p)), some (.int (nI f)), some (.int (nI j)), some (.int (nI k)), some (.int (nI (C 11 p) - nI f))]) rfl ?_
      refine v_iload dX7_isAhead_69 rfl ?_
      refine v_if_ge (tgt := 78) dX7_isAhead_71 (by decide) (fun c32 => ?_) (fun c32 => ?_)
      · rw [sub_ge0 (by omega) (by omega)] at c32
        refine v_iconst (v := nI 0) dX7_isAhead_78 (by decide) ?_
        refine v_zret (ty := .boolean) dX7_isAhead_79 rfl (by decide) ?_ (Nat.le_of_ble_eq_true rfl) (Nat.le_of_ble_eq_true rfl)
        exact ⟨by rw [bI_f (by rw [bkA_aB]; unfold aB; omega)], rfl, rfl⟩
      · rw [sub_ge0 (by omega) (by omega)] at c32
        refine v_iconst (v := nI 1) dX7_isAhead_74 (by decide) ?_
        refine v_goto (tgt := 79) dX7_isAhead_75 (by decide) ?_
        refine v_zret (ty := .boolean) dX7_isAhead_79 rfl (by decide) ?_ (Nat.le_of_ble_eq_true rfl) (Nat.le_of_ble_eq_true rfl)
        exact ⟨by rw [bI_t (by rw [bkA_aB]; unfold aB; omega)], rfl, rfl⟩
    · rw [sub_eq0 (by omega) (by omega)] at c30
      refine v_iload dX7_isAhead_54 rfl ?_
      refine v_goto (tgt := 67) dX7_isAhead_56 (by decide) ?_
      refine v_istore dX7_isAhead_67 rfl (by decide) ?_
      refine v_ls (ls2 := [some (.ref m), some (.int (nI p)), some (.int (nI f)), some (.int (nI j)), some (.int (nI k)), some (.int (nI (C 14 p) - nI k))]) rfl ?_
      refine v_iload dX7_isAhead_69 rfl ?_
      refine v_if_ge (tgt := 78) dX7_isAhead_71 (by decide) (fun c33 => ?_) (fun c33 => ?_)
      · rw [sub_ge0 (by omega) (by omega)] at c33
        refine v_iconst (v := nI 0) dX7_isAhead_78 (by decide) ?_
        refine v_zret (ty := .boolean) dX7_isAhead_79 rfl (by decide) ?_ (Nat.le_of_ble_eq_true rfl) (Nat.le_of_ble_eq_true rfl)
        exact ⟨by rw [bI_f (by rw [bkA_aB]; unfold aB; omega)], rfl, rfl⟩
      · rw [sub_ge0 (by omega) (by omega)] at c33
        refine v_iconst (v := nI 1) dX7_isAhead_74 (by decide) ?_
        refine v_goto (tgt := 79) dX7_isAhead_75 (by decide) ?_
        refine v_zret (ty := .boolean) dX7_isAhead_79 rfl (by decide) ?_ (Nat.le_of_ble_eq_true rfl) (Nat.le_of_ble_eq_true rfl)
        exact ⟨by rw [bI_t (by rw [bkA_aB]; unfold aB; omega)], rfl, rfl⟩
set_option maxRecDepth 20000 in
set_option maxHeartbeats 4000000 in
theorem t_X7_books {l : Launch} {G : vG} {h : AH} {n : Nat} {f j t x : Int32} {m ch sv tn hr en ln wg dg : Nat} {fl wy dt : Int32} {b : Nat} {C : Ct} (ho : h m = some (mo m ch sv tn hr en ln wg dg fl wy dt)) (hv : h (m + 1) = some (ar G 182 (vO C))) (hK : bdk b C) (hb1 : 200 ≤ b) (hb2 : b + 5000 ≤ 2 ^ 28) (hI : Iv C) : Mt l G mX7_books [.ref m, .int f, .int j, .int t, .int x] (n) h 0 0 (pm G m ch sv tn hr en ln wg dg fl wy dt C h n (dBook C f j t x)) := by
  refine Mt.of (by decide) (Nat.le_of_ble_eq_true rfl) rfl ?_
  refine v_ls (ls2 := [some (.ref m), some (.int f), some (.int j), some (.int t), some (.int x), none, none, none]) rfl ?_
  have hB := hK.bd (by omega)
  obtain ⟨hF, hJ, hn, hs1, hc99, hs4, hs7, hs8, hs15, hbk9, hs9⟩ := hI.1
  have b00 := hB 0 0
  have b01 := hB 0 1
  have b02 := hB 0 2
  have b03 := hB 0 3
  refine v_aload_n dX7_books_0 rfl ?_
  refine v_iload_n dX7_books_1 rfl ?_
  refine v_callV (st := []) dX7_books_2 (t_X7_isFool (x := f) ho hv hK (by omega)) wX7_81 ho rfl rfl ⟨Nat.le_of_ble_eq_true rfl, Nat.le_of_ble_eq_true rfl⟩ (Nat.le_of_ble_eq_true rfl) ⟨Nat.le_of_ble_eq_true rfl, Nat.le_of_ble_eq_true rfl⟩ (fun r n2 h2 hq => ?_)
  obtain ⟨rfl, hn9, hh9⟩ := hq; replace hn9 := hn9.symm; subst hn9; replace hh9 := hh9.symm; subst hh9
  refine v_st (st2 := [.int (nI (bI (ixb f (C 0 0) = true)))]) rfl ?_
  refine n_ifb_eq (tgt := 23) (p := ixb f (C 0 0) = true) dX7_books_5 (by decide) (fun c21 => ?_) (fun c21 => ?_)
  · refine v_aload_n dX7_books_23 rfl ?_
    refine v_sipush (v := (-1011)) dX7_books_24 (by decide) ?_
    refine v_callV (st := []) dX7_books_27 (t_X7_fail (x := (-1011)) ho) wX7_41 ho rfl rfl ⟨Nat.le_of_ble_eq_true rfl, Nat.le_of_ble_eq_true rfl⟩ (Nat.le_of_ble_eq_true rfl) ⟨Nat.le_of_ble_eq_true rfl, Nat.le_of_ble_eq_true rfl⟩ (fun r n2 h2 hq => ?_)
    obtain ⟨rfl, rfl, fa22, sa23⟩ := hq
    refine v_st (st2 := [.int ((-1011))]) rfl ?_
    have hv24 := (sa23 (m + 1) (by omega)).trans hv
    have fr25 := offn_in (k := 2) (q := m) offn_rf sa23 (by omega)
    refine v_iret dX7_books_30 rfl ?_ (Nat.le_of_ble_eq_true rfl) (Nat.le_of_ble_eq_true rfl)
    have e9 : dBook C f j t x = (((-1011) : Int32), (C : Ct), (none : Option (Int32 × Int32))) := by unfold dBook; all_goals (repeat (first | rw [if_pos (by first | assumption | omega | rfl | trivial)] | rw [if_neg (by first | assumption | omega)])); all_goals (try unfold dBookN); all_goals (repeat (first | rw [if_pos (by first | assumption | omega | rfl | trivial)] | rw [if_neg (by first | assumption | omega)])); all_goals (try simp only [dBookP]); all_goals (repeat (first | rw [if_pos (by first | assumption | omega | rfl | trivial)] | rw [if_neg (by first | assumption | omega)])); all_goals rfl
    exact pm_of e9 ⟨rfl, rfl, by rw [mf_n (by decide)]; exact fa22, hv24, fr25, fun _ => rfl⟩
  · obtain ⟨F, hF1, rfl⟩ := ix_of c21 (by omega)
    have eF : (nI F).toNatClampNeg = F := nI_clamp (by omega)
    refine v_aload_n dX7_books_8 rfl ?_
    refine v_iload_n dX7_books_9 rfl ?_
    refine v_callV (st := []) dX7_books_10 (t_X7_isJoke (x := j) ho hv hK (by omega)) wX7_85 ho rfl rfl ⟨Nat.le_of_ble_eq_true rfl, Nat.le_of_ble_eq_true rfl⟩ (Nat.le_of_ble_eq_true rfl) ⟨Nat.le_of_ble_eq_true rfl, Nat.le_of_ble_eq_true rfl⟩ (fun r n2 h2 hq => ?_)
    obtain ⟨rfl, hn9, hh9⟩ := hq; replace hn9 := hn9.symm; subst hn9; replace hh9 := hh9.symm; subst hh9
    refine v_st (st2 := [.int (nI (bI (ixb j (C 0 1) = true)))]) rfl ?_
    refine n_ifb_eq (tgt := 23) (p := ixb j (C 0 1) = true) dX7_books_13 (by decide) (fun c26 => ?_) (fun c26 => ?_)
    · refine v_aload_n dX7_books_23 rfl ?_
      refine v_sipush (v := (-1011)) dX7_books_24 (by decide) ?_
      refine v_callV (st := []) dX7_books_27 (t_X7_fail (x := (-1011)) ho) wX7_41 ho rfl rfl ⟨Nat.le_of_ble_eq_true rfl, Nat.le_of_ble_eq_true rfl⟩ (Nat.le_of_ble_eq_true rfl) ⟨Nat.le_of_ble_eq_true rfl, Nat.le_of_ble_eq_true rfl⟩ (fun r n2 h2 hq => ?_)
      obtain ⟨rfl, rfl, fa27, sa28⟩ := hq
      refine v_st (st2 := [.int ((-1011))]) rfl ?_
      have hv29 := (sa28 (m + 1) (by omega)).trans hv
      have fr30 := offn_in (k := 2) (q := m) offn_rf sa28 (by omega)
      refine v_iret dX7_books_30 rfl ?_ (Nat.le_of_ble_eq_true rfl) (Nat.le_of_ble_eq_true rfl)
      have e9 : dBook C (nI F) j t x = (((-1011) : Int32), (C : Ct), (none : Option (Int32 × Int32))) := by unfold dBook; all_goals (repeat (first | rw [if_pos (by first | assumption | omega | rfl | trivial)] | rw [if_neg (by first | assumption | omega)])); all_goals (try simp only [eF]); all_goals (try unfold dBookN); all_goals (repeat (first | rw [if_pos (by first | assumption | omega | rfl | trivial)] | rw [if_neg (by first | assumption | omega)])); all_goals (try simp only [dBookP]); all_goals (repeat (first | rw [if_pos (by first | assumption | omega | rfl | trivial)] | rw [if_neg (by first | assumption | omega)])); all_goals rfl
      exact pm_of e9 ⟨rfl, rfl, by rw [mf_n (by decide)]; exact fa27, hv29, fr30, fun _ => rfl⟩
    · obtain ⟨J, hJ1, rfl⟩ := ix_of c26 (by omega)
      have eJ : (nI J).toNatClampNeg = J := nI_clamp (by omega)
      refine v_iload_n dX7_books_16 rfl ?_
      refine v_callS (st := []) dX7_books_17 (t_X7_isThrone (x := t)) wX7_113 rfl ⟨Nat.le_of_ble_eq_true rfl, Nat.le_of_ble_eq_true rfl⟩ (Nat.le_of_ble_eq_true rfl) ⟨Nat.le_of_ble_eq_true rfl, Nat.le_of_ble_eq_true rfl⟩ (fun r n2 h2 hq => ?_)
      obtain ⟨rfl, hn9, hh9⟩ := hq; replace hn9 := hn9.symm; subst hn9; replace hh9 := hh9.symm; subst hh9
      refine v_st (st2 := [.int (nI (bI (ixb t 4 = true)))]) rfl ?_
      refine n_ifb_ne (tgt := 31) (p := ixb t 4 = true) dX7_books_20 (by decide) (fun c31 => ?_) (fun c31 => ?_)
      · obtain ⟨T, hT1, rfl⟩ := ix_of c31 (by omega)
        have eT : (nI T).toNatClampNeg = T := nI_clamp (by omega)
        refine v_iload dX7_books_31 rfl ?_
        refine v_iconst (v := nI 0) dX7_books_33 (by decide) ?_
        refine v_bipush (v := nI 99) dX7_books_34 (by decide) ?_
        refine v_callS (st := []) dX7_books_36 (t_X7_isIn (x := x) (a := nI 0) (z := nI 99)) wX7_52 rfl ⟨Nat.le_of_ble_eq_true rfl, Nat.le_of_ble_eq_true rfl⟩ (Nat.le_of_ble_eq_true rfl) ⟨Nat.le_of_ble_eq_true rfl, Nat.le_of_ble_eq_true rfl⟩ (fun r n2 h2 hq => ?_)
        obtain ⟨rfl, hn9, hh9⟩ := hq; replace hn9 := hn9.symm; subst hn9; replace hh9 := hh9.symm; subst hh9
        refine v_st (st2 := [.int (nI (bI (¬ x < nI 0 ∧ ¬ nI 99 < x)))]) rfl ?_
        refine n_ifb_ne (tgt := 50) (p := ¬ x < nI 0 ∧ ¬ nI 99 < x) dX7_books_39 (by decide) (fun c32 => ?_) (fun c32 => ?_)
        · have c32a : ¬ x < 0 := (yes_rg c32).1
          have c32b : x ≤ nI 99 := (yes_rg c32).2
          clear c32
          obtain ⟨k, hk1, hk2, rfl⟩ := rg_of (a := 0) (b := 99) c32a c32b (by decide) (by decide)
          have ek : (nI k).toNatClampNeg = k := nI_clamp (by omega)
          refine v_aload_n dX7_books_50 rfl ?_
          refine fX7_7 (v := .ref (m + 1)) rfl dX7_books_51 ho rfl ?_
          refine v_iconst (v := nI 2) dX7_books_54 (by decide) ?_
          refine n_ialdv (f := vO C) (j := 2) (y := C 0 2) dX7_books_55 hv (by omega) (by decide) ((vrd (C := C) lgn2 (Or.inl (by decide))).trans rfl) ?_
          have b33 := hK 0 2
          refine v_istore dX7_books_56 rfl (by decide) ?_
          refine v_ls (ls2 := [some (.ref m), some (.int (nI F)), some (.int (nI J)), some (.int (nI T)), some (.int (nI k)), some (.int (nI (C 0 2))), none, none]) rfl ?_
          refine v_aload_n dX7_books_58 rfl ?_
          refine v_iload_n dX7_books_59 rfl ?_
          refine v_iload dX7_books_60 rfl ?_
          refine v_callV (st := []) dX7_books_62 (t_X7_jokeFor (f := F) (k := k) ho hv hK (by omega) (by omega) (by omega) (by omega)) wX7_122 ho rfl rfl ⟨Nat.le_of_ble_eq_true rfl, Nat.le_of_ble_eq_true rfl⟩ (Nat.le_of_ble_eq_true rfl) ⟨Nat.le_of_ble_eq_true rfl, Nat.le_of_ble_eq_true rfl⟩ (fun r n2 h2 hq => ?_)
          obtain ⟨rfl, hn9, hh9⟩ := hq; replace hn9 := hn9.symm; subst hn9; replace hh9 := hh9.symm; subst hh9
          refine v_st (st2 := [.int (oN (-1) ((bkF C F k).map (fun p => C 12 p)))]) rfl ?_
          refine v_istore dX7_books_65 rfl (by decide) ?_
          refine v_ls (ls2 := [some (.ref m), some (.int (nI F)), some (.int (nI J)), some (.int (nI T)), some (.int (nI k)), some (.int (nI (C 0 2))), some (.int (oN (-1) ((bkF C F k).map (fun p => C 12 p)))), none]) rfl ?_
          refine v_iload dX7_books_67 rfl ?_
          refine v_aload_n dX7_books_69 rfl ?_
          refine fX7_7 (v := .ref (m + 1)) rfl dX7_books_70 ho rfl ?_
          refine v_iconst (v := nI 3) dX7_books_73 (by decide) ?_
          refine n_ialdv (f := vO C) (j := 3) (y := C 0 3) dX7_books_74 hv (by omega) (by decide) ((vrd (C := C) lgn3 (Or.inl (by decide))).trans rfl) ?_
          have b34 := hK 0 3
          refine n_icmp_ge (tgt := 90) (x := k) (y := C 0 3) dX7_books_75 (by decide) (by omega) (by omega) (fun c35 => ?_) (fun c35 => ?_)
          · refine v_aload_n dX7_books_90 rfl ?_
            refine fX7_7 (v := .ref (m + 1)) rfl dX7_books_91 ho rfl ?_
            refine v_iload_n dX7_books_94 rfl ?_
            refine v_iconst (v := nI 0) dX7_books_95 (by decide) ?_
            refine v_callS (st := [.ref (m + 1)]) dX7_books_96 (t_X7_of (f := T) (w := 0)) wX7_116 rfl ⟨Nat.le_of_ble_eq_true rfl, Nat.le_of_ble_eq_true rfl⟩ (Nat.le_of_ble_eq_true rfl) ⟨Nat.le_of_ble_eq_true rfl, Nat.le_of_ble_eq_true rfl⟩ (fun r n2 h2 hq => ?_)
            obtain ⟨rfl, hn9, hh9⟩ := hq; replace hn9 := hn9.symm; subst hn9; replace hh9 := hh9.symm; subst hh9
            refine v_st (st2 := [.int (nI (82 + 3 * T + 0)), .ref (m + 1)]) rfl ?_
            refine n_ialdv (f := vO C) (j := 82 + 3 * T + 0) (y := C 15 T) dX7_books_99 hv (by omega) (by decide) ((vrd (C := C) (lgT0 (f := T) (by omega)) (Or.inl (by omega))).trans rfl) ?_
            have b36 := hK 15 T
            refine v_iconst (v := nI 1) dX7_books_100 (by decide) ?_
            refine n_icmp_ne (tgt := 111) (x := C 15 T) (y := 1) dX7_books_101 (by decide) (by omega) (by omega) (fun c37 => ?_) (fun c37 => ?_)
            · refine v_aload_n dX7_books_111 rfl ?_
              refine v_iload_n dX7_books_112 rfl ?_
              refine v_iload_n dX7_books_113 rfl ?_
              refine v_callV (st := []) dX7_books_114 (t_X7_isBarred (f := F) (j := J) ho hv hK (by omega) (by omega) (by omega)) wX7_125 ho rfl rfl ⟨Nat.le_of_ble_eq_true rfl, Nat.le_of_ble_eq_true rfl⟩ (Nat.le_of_ble_eq_true rfl) ⟨Nat.le_of_ble_eq_true rfl, Nat.le_of_ble_eq_true rfl⟩ (fun r n2 h2 hq => ?_)
              obtain ⟨rfl, hn9, hh9⟩ := hq; replace hn9 := hn9.symm; subst hn9; replace hh9 := hh9.symm; subst hh9
              refine v_st (st2 := [.int (nI (bI (barr C F J)))]) rfl ?_
              refine n_ifb_eq (tgt := 131) (p := barr C F J) dX7_books_117 (by decide) (fun c38 => ?_) (fun c38 => ?_)
              · rcases hb : bkF C F k with _ | p
                · refine v_ls (ls2 := [some (.ref m), some (.int (nI F)), some (.int (nI J)), some (.int (nI T)), some (.int (nI k)), some (.int (nI (C 0 2))), some (.int ((-1))), none]) rfl ?_
                  refine v_iload dX7_books_131 rfl ?_
                  refine v_if_lt (tgt := 144) dX7_books_133 (by decide) (fun _ => ?_) (fun c => absurd (by decide) c)
                  refine v_iload dX7_books_144 rfl ?_
                  refine v_bipush (v := nI 10) dX7_books_146 (by decide) ?_
                  refine n_icmp_ne (tgt := 159) (x := C 0 2) (y := 10) dX7_books_148 (by decide) (by omega) (by omega) (fun c39 => ?_) (fun c39 => ?_)
                  · refine v_arr (f := insT (vO C) (C 0 2) (C 0 2)) hv (fun i hi => insT_0 i) (fun h1 f1 s1 => ?_)
                    have hv40 := f1
                    have sa40 := s1
                    clear f1 s1
                    have fa41 := (sa40 (m) (by omega)).trans ho
                    have fr42 := offn_in (k := 2) (q := m) offn_rf sa40 (by omega)
                    refine loopWH (fun w => [some (.ref m), some (.int (nI F)), some (.int (nI J)), some (.int (nI T)), some (.int (nI k)), some (.int (nI w)), some (.int ((-1))), none]) (fun w h1 => h1 m = some (mo m ch sv tn hr en ln wg dg fl wy dt) ∧ h1 (m + 1) = some (ar G 182 (insT (vO C) (C 0 2) w)) ∧ offn 2 m h h1 ∧ w ≤ C 0 2 ∧ ∀ s, w ≤ s → s < C 0 2 → ¬ bkA C s F J k) (C 0 2) rfl ⟨fa41, hv40, fr42, Nat.le_refl _, fun s h1 h2 => absurd h2 (by omega)⟩ (fun w h1 hp0 ihw => ?_)
                    clear ho hv
                    obtain ⟨ho, hv, fr0, hwC, hnb⟩ := hp0
                    refine v_iload dX7_books_159 rfl ?_
                    refine n_if_le (tgt := 234) (x := w) dX7_books_161 (by decide) (by omega) (fun c43 => ?_) (fun c43 => ?_)
                    · have hpw : plc C F J k = w := plc_w hI hb hwC hnb (Or.inl c43)
                      refine v_aload_n dX7_books_234 rfl ?_
                      refine fX7_7 (v := .ref (m + 1)) rfl dX7_books_235 ho rfl ?_
                      refine v_sipush (v := nI 142) dX7_books_238 (by decide) ?_
                      refine v_iconst (v := nI 4) dX7_books_241 (by decide) ?_
                      refine v_iload dX7_books_242 rfl ?_
                      refine n_imul (x := 4) (y := w) dX7_books_244 ?_
                      refine n_iadd (x := 142) (y := 4 * w) dX7_books_245 ?_
                      refine v_iload_n dX7_books_246 rfl ?_
                      refine n_iast (f := insT (vO C) (C 0 2) w) (j := 142 + (4 * w)) (x := F) dX7_books_247 hv (by omega) (by decide) ?_
                      refine nw (fun h1 f1 s1 => ?_)
                      have hv44 : h1 (m + 1) = some (ar G 182 (va_up (insT (vO C) (C 0 2) w) (142 + (4 * w)) F)) := f1
                      have sa44 := s1
                      clear f1 s1
                      have fa45 := (sa44 (m) (by omega)).trans ho
                      have fr46 := offn_in (k := 2) (q := m) fr0 sa44 (by omega)
                      refine v_aload_n dX7_books_248 rfl ?_
                      refine fX7_7 (v := .ref (m + 1)) rfl dX7_books_249 fa45 rfl ?_
                      refine v_sipush (v := nI 142) dX7_books_252 (by decide) ?_
                      refine v_iconst (v := nI 4) dX7_books_255 (by decide) ?_
                      refine v_iload dX7_books_256 rfl ?_
                      refine n_imul (x := 4) (y := w) dX7_books_258 ?_
                      refine n_iadd (x := 142) (y := 4 * w) dX7_books_259 ?_
                      refine v_iconst (v := nI 1) dX7_books_260 (by decide) ?_
                      refine n_iadd (x := 142 + (4 * w)) (y := 1) dX7_books_261 ?_
                      refine v_iload_n dX7_books_262 rfl ?_
                      refine n_iast (f := va_up (insT (vO C) (C 0 2) w) (142 + (4 * w)) F) (j := (142 + (4 * w)) + 1) (x := J) dX7_books_263 hv44 (by omega) (by decide) ?_
                      refine nw (fun h1 f1 s1 => ?_)
                      have hv47 : h1 (m + 1) = some (ar G 182 (va_up (va_up (insT (vO C) (C 0 2) w) (142 + (4 * w)) F) ((142 + (4 * w)) + 1) J)) := f1
                      have sa47 := s1
                      clear f1 s1
                      have fa48 := (sa47 (m) (by omega)).trans fa45
                      have fr49 := offn_in (k := 2) (q := m) fr46 sa47 (by omega)
                      refine v_aload_n dX7_books_264 rfl ?_
                      refine fX7_7 (v := .ref (m + 1)) rfl dX7_books_265 fa48 rfl ?_
                      refine v_sipush (v := nI 142) dX7_books_268 (by decide) ?_
                      refine v_iconst (v := nI 4) dX7_books_271 (by decide) ?_
                      refine v_iload dX7_books_272 rfl ?_
                      refine n_imul (x := 4) (y := w) dX7_books_274 ?_
                      refine n_iadd (x := 142) (y := 4 * w) dX7_books_275 ?_
                      refine v_iconst (v := nI 2) dX7_books_276 (by decide) ?_
                      refine n_iadd (x := 142 + (4 * w)) (y := 2) dX7_books_277 ?_
                      refine v_iload_n dX7_books_278 rfl ?_
                      refine n_iast (f := va_up (va_up (insT (vO C) (C 0 2) w) (142 + (4 * w)) F) ((142 + (4 * w)) + 1) J) (j := (142 + (4 * w)) + 2) (x := T) dX7_books_279 hv47 (by omega) (by decide) ?_
                      refine nw (fun h1 f1 s1 => ?_)
                      have hv50 : h1 (m + 1) = some (ar G 182 (va_up (va_up (va_up (insT (vO C) (C 0 2) w) (142 + (4 * w)) F) ((142 + (4 * w)) + 1) J) ((142 + (4 * w)) + 2) T)) := f1
                      have sa50 := s1
                      clear f1 s1
                      have fa51 := (sa50 (m) (by omega)).trans fa48
                      have fr52 := offn_in (k := 2) (q := m) fr49 sa50 (by omega)
                      refine v_aload_n dX7_books_280 rfl ?_
                      refine fX7_7 (v := .ref (m + 1)) rfl dX7_books_281 fa51 rfl ?_
                      refine v_sipush (v := nI 142) dX7_books_284 (by decide) ?_
                      refine v_iconst (v := nI 4) dX7_books_287 (by decide) ?_
                      refine v_iload dX7_books_288 rfl ?_
                      refine n_imul (x := 4) (y := w) dX7_books_290 ?_
                      refine n_iadd (x := 142) (y := 4 * w) dX7_books_291 ?_
                      refine v_iconst (v := nI 3) dX7_books_292 (by decide) ?_
                      refine n_iadd (x := 142 + (4 * w)) (y := 3) dX7_books_293 ?_
                      refine v_iload dX7_books_294 rfl ?_
                      refine n_iast (f := va_up (va_up (va_up (insT (vO C) (C 0 2) w) (142 + (4 * w)) F) ((142 + (4 * w)) + 1) J) ((142 + (4 * w)) + 2) T) (j := (142 + (4 * w)) + 3) (x := k) dX7_books_296 hv50 (by omega) (by decide) ?_
                      refine nw (fun h1 f1 s1 => ?_)
                      have hv53 : h1 (m + 1) = some (ar G 182 (va_up (va_up (va_up (va_up (insT (vO C) (C 0 2) w) (142 + (4 * w)) F) ((142 + (4 * w)) + 1) J) ((142 + (4 * w)) + 2) T) ((142 + (4 * w)) + 3) k)) := f1
                      have sa53 := s1
                      clear f1 s1
                      have fa54 := (sa53 (m) (by omega)).trans fa51
                      have fr55 := offn_in (k := 2) (q := m) fr52 sa53 (by omega)
                      refine v_aload_n dX7_books_297 rfl ?_
                      refine fX7_7 (v := .ref (m + 1)) rfl dX7_books_298 fa54 rfl ?_
                      refine v_iconst (v := nI 2) dX7_books_301 (by decide) ?_
                      refine v_dup2 dX7_books_302 rfl rfl ?_
                      refine n_ialdv (f := va_up (va_up (va_up (va_up (insT (vO C) (C 0 2) w) (142 + (4 * w)) F) ((142 + (4 * w)) + 1) J) ((142 + (4 * w)) + 2) T) ((142 + (4 * w)) + 3) k) (j := 2) (y := C 0 2) dX7_books_303 hv53 (by omega) (by decide) ((va_un (by omega)).trans ((va_un (by omega)).trans ((va_un (by omega)).trans ((va_un (by omega)).trans ((insT_lo (by omega)).trans ((vrd (C := C) lgn2 (Or.inl (by decide))))))))) ?_
                      refine v_iconst (v := nI 1) dX7_books_304 (by decide) ?_
                      refine n_iadd (x := C 0 2) (y := 1) dX7_books_305 ?_
                      refine n_iast (f := va_up (va_up (va_up (va_up (insT (vO C) (C 0 2) w) (142 + (4 * w)) F) ((142 + (4 * w)) + 1) J) ((142 + (4 * w)) + 2) T) ((142 + (4 * w)) + 3) k) (j := 2) (x := C 0 2 + 1) dX7_books_306 hv53 (by omega) (by decide) ?_
                      refine nw (fun h1 f1 s1 => ?_)
                      have hv56 : h1 (m + 1) = some (ar G 182 (va_up (va_up (va_up (va_up (va_up (insT (vO C) (C 0 2) w) (142 + (4 * w)) F) ((142 + (4 * w)) + 1) J) ((142 + (4 * w)) + 2) T) ((142 + (4 * w)) + 3) k) 2 (C 0 2 + 1))) := f1
                      have sa56 := s1
                      clear f1 s1
                      have fa57 := (sa56 (m) (by omega)).trans fa54
                      have fr58 := offn_in (k := 2) (q := m) fr55 sa56 (by omega)
                      refine v_arr (f := vO (insF C w F J T k)) hv56 (fun i hi => ins_raw (by omega) i) (fun h1 f1 s1 => ?_)
                      have hv59 := f1
                      have sa59 := s1
                      clear f1 s1
                      have fa60 := (sa59 (m) (by omega)).trans fa57
                      have fr61 := offn_in (k := 2) (q := m) fr58 sa59 (by omega)
                      refine v_iload dX7_books_307 rfl ?_
                      refine v_iret dX7_books_309 rfl ?_ (Nat.le_of_ble_eq_true rfl) (Nat.le_of_ble_eq_true rfl)
                      have e9 : dBook C (nI F) (nI J) (nI T) (nI k) = ((nI w : Int32), ((insF C w F J T k) : Ct), (none : Option (Int32 × Int32))) := by unfold dBook; all_goals (repeat (first | rw [if_pos (by first | assumption | omega | rfl | trivial)] | rw [if_neg (by first | assumption | omega)])); all_goals (try simp only [eF, eJ, eT, ek]); all_goals (try unfold dBookN); all_goals (repeat (first | rw [if_pos (by first | assumption | omega | rfl | trivial)] | rw [if_neg (by first | assumption | omega)])); all_goals (try rw [hb]); all_goals (try rw [hpw]); all_goals (try simp only [dBookP]); all_goals (repeat (first | rw [if_pos (by first | assumption | omega | rfl | trivial)] | rw [if_neg (by first | assumption | omega)])); all_goals (try rw [hb]); all_goals (try rw [hpw]); all_goals rfl
                      exact pm_of e9 ⟨rfl, rfl, by rw [mf_p (nI_pos (by omega))]; exact fa60, hv59, fr61, fun z => absurd z (nI_pos (by omega))⟩
                    · obtain ⟨bw1, bw2, bw3, bw4⟩ := hbk9 (w - 1) (by omega)
                      refine v_aload_n dX7_books_164 rfl ?_
                      refine v_iload dX7_books_165 rfl ?_
                      refine v_iconst (v := nI 1) dX7_books_167 (by decide) ?_
                      refine n_isub (x := w) (y := 1) dX7_books_168 (by omega) ?_
                      refine v_iload_n dX7_books_169 rfl ?_
                      refine v_iload_n dX7_books_170 rfl ?_
                      refine v_iload dX7_books_171 rfl ?_
                      refine v_callV (st := []) dX7_books_173 (t_X7_isAhead (C := C) (p := w - 1) (f := F) (j := J) (k := k) ho hv hB ((insT_lo (by omega)).trans (vrd (C := C) (i := 142 + 4 * (w - 1) + 3) (lgB (by decide)) (Or.inr (by omega)))) ((insT_lo (by omega)).trans (vrd (C := C) (i := 142 + 4 * (w - 1) + 1) (lgB (by decide)) (Or.inr (by omega)))) ((insT_lo (by omega)).trans (vrd (C := C) (i := 142 + 4 * (w - 1) + 0) (lgB (by decide)) (Or.inr (by omega)))) ((insT_lo (by omega)).trans (vrd (C := C) (i := 46 + 3 * J + 0) (lgJ (by omega) (by decide)) (Or.inl (by omega)))) ((insT_lo (by omega)).trans (vrd (C := C) (i := 46 + 3 * (C 12 (w - 1)) + 0) (lgJ (by omega) (by decide)) (Or.inl (by omega)))) (by omega) (by omega) (by omega) (by omega) (by omega)) wX7_129 ho rfl rfl ⟨Nat.le_of_ble_eq_true rfl, Nat.le_of_ble_eq_true rfl⟩ (Nat.le_of_ble_eq_true rfl) ⟨Nat.le_of_ble_eq_true rfl, Nat.le_of_ble_eq_true rfl⟩ (fun r n2 h2 hq => ?_)
                      obtain ⟨rfl, hn9, hh9⟩ := hq; replace hn9 := hn9.symm; subst hn9; replace hh9 := hh9.symm; subst hh9
                      refine v_st (st2 := [.int (nI (bI (bkA C (w - 1) F J k)))]) rfl ?_
                      refine n_ifb_ne (tgt := 234) (p := bkA C (w - 1) F J k) dX7_books_176 (by decide) (fun c62 => ?_) (fun c62 => ?_)
                      · have hpw : plc C F J k = w := plc_w hI hb hwC hnb (Or.inr c62)
                        refine v_aload_n dX7_books_234 rfl ?_
                        refine fX7_7 (v := .ref (m + 1)) rfl dX7_books_235 ho rfl ?_
                        refine v_sipush (v := nI 142) dX7_books_238 (by decide) ?_
                        refine v_iconst (v := nI 4) dX7_books_241 (by decide) ?_
                        refine v_iload dX7_books_242 rfl ?_
                        refine n_imul (x := 4) (y := w) dX7_books_244 ?_
                        refine n_iadd (x := 142) (y := 4 * w) dX7_books_245 ?_
                        refine v_iload_n dX7_books_246 rfl ?_
                        refine n_iast (f := insT (vO C) (C 0 2) w) (j := 142 + (4 * w)) (x := F) dX7_books_247 hv (by omega) (by decide) ?_
                        refine nw (fun h1 f1 s1 => ?_)
                        have hv63 : h1 (m + 1) = some (ar G 182 (va_up (insT (vO C) (C 0 2) w) (142 + (4 * w)) F)) := f1
                        have sa63 := s1
                        clear f1 s1
                        have fa64 := (sa63 (m) (by omega)).trans ho
                        have fr65 := offn_in (k := 2) (q := m) fr0 sa63 (by omega)
                        refine v_aload_n dX7_books_248 rfl ?_
                        refine fX7_7 (v := .ref (m + 1)) rfl dX7_books_249 fa64 rfl ?_
                        refine v_sipush (v := nI 142) dX7_books_252 (by decide) ?_
                        refine v_iconst (v := nI 4) dX7_books_255 (by decide) ?_
                        refine v_iload dX7_books_256 rfl ?_
                        refine n_imul (x := 4) (y := w) dX7_books_258 ?_
                        refine n_iadd (x := 142) (y := 4 * w) dX7_books_259 ?_
                        refine v_iconst (v := nI 1) dX7_books_260 (by decide) ?_
                        refine n_iadd (x := 142 + (4 * w)) (y := 1) dX7_books_261 ?_
                        refine v_iload_n dX7_books_262 rfl ?_
                        refine n_iast (f := va_up (insT (vO C) (C 0 2) w) (142 + (4 * w)) F) (j := (142 + (4 * w)) + 1) (x := J) dX7_books_263 hv63 (by omega) (by decide) ?_
                        refine nw (fun h1 f1 s1 => ?_)
                        have hv66 : h1 (m + 1) = some (ar G 182 (va_up (va_up (insT (vO C) (C 0 2) w) (142 + (4 * w)) F) ((142 + (4 * w)) + 1) J)) := f1
                        have sa66 := s1
                        clear f1 s1
                        have fa67 := (sa66 (m) (by omega)).trans fa64
                        have fr68 := offn_in (k := 2) (q := m) fr65 sa66 (by omega)
                        refine v_aload_n dX7_books_264 rfl ?_
                        refine fX7_7 (v := .ref (m + 1)) rfl dX7_books_265 fa67 rfl ?_
                        refine v_sipush (v := nI 142) dX7_books_268 (by decide) ?_
                        refine v_iconst (v := nI 4) dX7_books_271 (by decide) ?_
                        refine v_iload dX7_books_272 rfl ?_
                        refine n_imul (x := 4) (y := w) dX7_books_274 ?_
                        refine n_iadd (x := 142) (y := 4 * w) dX7_books_275 ?_
                        refine v_iconst (v := nI 2) dX7_books_276 (by decide) ?_
                        refine n_iadd (x := 142 + (4 * w)) (y := 2) dX7_books_277 ?_
                        refine v_iload_n dX7_books_278 rfl ?_
                        refine n_iast (f := va_up (va_up (insT (vO C) (C 0 2) w) (142 + (4 * w)) F) ((142 + (4 * w)) + 1) J) (j := (142 + (4 * w)) + 2) (x := T) dX7_books_279 hv66 (by omega) (by decide) ?_
                        refine nw (fun h1 f1 s1 => ?_)
                        have hv69 : h1 (m + 1) = some (ar G 182 (va_up (va_up (va_up (insT (vO C) (C 0 2) w) (142 + (4 * w)) F) ((142 + (4 * w)) + 1) J) ((142 + (4 * w)) + 2) T)) := f1
                        have sa69 := s1
                        clear f1 s1
                        have fa70 := (sa69 (m) (by omega)).trans fa67
                        have fr71 := offn_in (k := 2) (q := m) fr68 sa69 (by omega)
                        refine v_aload_n dX7_books_280 rfl ?_
                        refine fX7_7 (v := .ref (m + 1)) rfl dX7_books_281 fa70 rfl ?_
                        refine v_sipush (v := nI 142) dX7_books_284 (by decide) ?_
                        refine v_iconst (v := nI 4) dX7_books_287 (by decide) ?_
                        refine v_iload dX7_books_288 rfl ?_
                        refine n_imul (x := 4) (y := w) dX7_books_290 ?_
                        refine n_iadd (x := 142) (y := 4 * w) dX7_books_291 ?_
                        refine v_iconst (v := nI 3) dX7_books_292 (by decide) ?_
                        refine n_iadd (x := 142 + (4 * w)) (y := 3) dX7_books_293 ?_
                        refine v_iload dX7_books_294 rfl ?_
                        refine n_iast (f := va_up (va_up (va_up (insT (vO C) (C 0 2) w) (142 + (4 * w)) F) ((142 + (4 * w)) + 1) J) ((142 + (4 * w)) + 2) T) (j := (142 + (4 * w)) + 3) (x := k) dX7_books_296 hv69 (by omega) (by decide) ?_
                        refine nw (fun h1 f1 s1 => ?_)
                        have hv72 : h1 (m + 1) = some (ar G 182 (va_up (va_up (va_up (va_up (insT (vO C) (C 0 2) w) (142 + (4 * w)) F) ((142 + (4 * w)) + 1) J) ((142 + (4 * w)) + 2) T) ((142 + (4 * w)) + 3) k)) := f1
                        have sa72 := s1
                        clear f1 s1
                        have fa73 := (sa72 (m) (by omega)).trans fa70
                        have fr74 := offn_in (k := 2) (q := m) fr71 sa72 (by omega)
                        refine v_aload_n dX7_books_297 rfl ?_
                        refine fX7_7 (v := .ref (m + 1)) rfl dX7_books_298 fa73 rfl ?_
                        refine v_iconst (v := nI 2) dX7_books_301 (by decide) ?_
                        refine v_dup2 dX7_books_302 rfl rfl ?_
                        refine n_ialdv (f := va_up (va_up (va_up (va_up (insT (vO C) (C 0 2) w) (142 + (4 * w)) F) ((142 + (4 * w)) + 1) J) ((142 + (4 * w)) + 2) T) ((142 + (4 * w)) + 3) k) (j := 2) (y := C 0 2) dX7_books_303 hv72 (by omega) (by decide) ((va_un (by omega)).trans ((va_un (by omega)).trans ((va_un (by omega)).trans ((va_un (by omega)).trans ((insT_lo (by omega)).trans ((vrd (C := C) lgn2 (Or.inl (by decide))))))))) ?_
                        refine v_iconst (v := nI 1) dX7_books_304 (by decide) ?_
                        refine n_iadd (x := C 0 2) (y := 1) dX7_books_305 ?_
                        refine n_iast (f := va_up (va_up (va_up (va_up (insT (vO C) (C 0 2) w) (142 + (4 * w)) F) ((142 + (4 * w)) + 1) J) ((142 + (4 * w)) + 2) T) ((142 + (4 * w)) + 3) k) (j := 2) (x := C 0 2 + 1) dX7_books_306 hv72 (by omega) (by decide) ?_
                        refine nw (fun h1 f1 s1 => ?_)
                        have hv75 : h1 (m + 1) = some (ar G 182 (va_up (va_up (va_up (va_up (va_up (insT (vO C) (C 0 2) w) (142 + (4 * w)) F) ((142 + (4 * w)) + 1) J) ((142 + (4 * w)) + 2) T) ((142 + (4 * w)) + 3) k) 2 (C 0 2 + 1))) := f1
                        have sa75 := s1
                        clear f1 s1
                        have fa76 := (sa75 (m) (by omega)).trans fa73
                        have fr77 := offn_in (k := 2) (q := m) fr74 sa75 (by omega)
                        refine v_arr (f := vO (insF C w F J T k)) hv75 (fun i hi => ins_raw (by omega) i) (fun h1 f1 s1 => ?_)
                        have hv78 := f1
                        have sa78 := s1
                        clear f1 s1
                        have fa79 := (sa78 (m) (by omega)).trans fa76
                        have fr80 := offn_in (k := 2) (q := m) fr77 sa78 (by omega)
                        refine v_iload dX7_books_307 rfl ?_
                        refine v_iret dX7_books_309 rfl ?_ (Nat.le_of_ble_eq_true rfl) (Nat.le_of_ble_eq_true rfl)
                        have e9 : dBook C (nI F) (nI J) (nI T) (nI k) = ((nI w : Int32), ((insF C w F J T k) : Ct), (none : Option (Int32 × Int32))) := by unfold dBook; all_goals (repeat (first | rw [if_pos (by first | assumption | omega | rfl | trivial)] | rw [if_neg (by first | assumption | omega)])); all_goals (try simp only [eF, eJ, eT, ek]); all_goals (try unfold dBookN); all_goals (repeat (first | rw [if_pos (by first | assumption | omega | rfl | trivial)] | rw [if_neg (by first | assumption | omega)])); all_goals (try rw [hb]); all_goals (try rw [hpw]); all_goals (try simp only [dBookP]); all_goals (repeat (first | rw [if_pos (by first | assumption | omega | rfl | trivial)] | rw [if_neg (by first | assumption | omega)])); all_goals (try rw [hb]); all_goals (try rw [hpw]); all_goals rfl
                        exact pm_of e9 ⟨rfl, rfl, by rw [mf_p (nI_pos (by omega))]; exact fa79, hv78, fr80, fun z => absurd z (nI_pos (by omega))⟩
                      · refine v_iconst (v := nI 0) dX7_books_179 (by decide) ?_
                        refine v_istore dX7_books_180 rfl (by decide) ?_
                        refine v_ls (ls2 := [some (.ref m), some (.int (nI F)), some (.int (nI J)), some (.int (nI T)), some (.int (nI k)), some (.int (nI w)), some (.int ((-1))), some (.int (nI 0))]) rfl ?_
                        refine v_arr (f := innT (vO C) (C 0 2) w 0) hv (fun i hi => innT_0 i) (fun h1 f1 s1 => ?_)
                        have hv81 := f1
                        have sa81 := s1
                        clear f1 s1
                        have fa82 := (sa81 (m) (by omega)).trans ho
                        have fr83 := offn_in (k := 2) (q := m) fr0 sa81 (by omega)
                        refine loopH (fun q => [some (.ref m), some (.int (nI F)), some (.int (nI J)), some (.int (nI T)), some (.int (nI k)), some (.int (nI w)), some (.int ((-1))), some (.int (nI q))]) (fun q h1 => h1 m = some (mo m ch sv tn hr en ln wg dg fl wy dt) ∧ h1 (m + 1) = some (ar G 182 (innT (vO C) (C 0 2) w q)) ∧ offn 2 m h h1) (N := 4) 0 (by omega) rfl ⟨fa82, hv81, fr83⟩ (fun q h1 hq hp1 ihq => ?_)
                        clear ho hv fr0
                        obtain ⟨ho, hv, fr0⟩ := hp1
                        refine v_iload dX7_books_182 rfl ?_
                        refine v_iconst (v := nI 4) dX7_books_184 (by decide) ?_
                        refine n_icmp_ge (tgt := 228) (x := q) (y := 4) dX7_books_185 (by decide) (by omega) (by omega) (fun c84 => ?_) (fun c84 => ?_)
                        · have eq4 : q = 4 := by omega
                          subst eq4
                          obtain ⟨w2, rfl⟩ : ∃ w2, w = w2 + 1 := ⟨w - 1, by omega⟩
                          refine v_arr (f := insT (vO C) (C 0 2) w2) hv (fun i hi => innT_4 (by omega) i) (fun h1 f1 s1 => ?_)
                          have hv85 := f1
                          have sa85 := s1
                          clear f1 s1
                          have fa86 := (sa85 (m) (by omega)).trans ho
                          have fr87 := offn_in (k := 2) (q := m) fr0 sa85 (by omega)
                          refine n_idec (x := w2) dX7_books_228 (by decide) rfl rfl (by decide) ?_
                          refine v_ls (ls2 := [some (.ref m), some (.int (nI F)), some (.int (nI J)), some (.int (nI T)), some (.int (nI k)), some (.int (nI w2)), some (.int ((-1))), some (.int (nI 4))]) rfl ?_
                          refine v_goto (tgt := 159) dX7_books_231 (by decide) ?_
                          refine v_forget 7 ?_
                          exact ihw w2 _ rfl ⟨fa86, hv85, fr87, by omega, fun s hs1 hs2 => by
                            by_cases e : s = w2
                            · subst e; exact c62
                            · exact hnb s (by omega) hs2⟩
                        · refine v_aload_n dX7_books_188 rfl ?_
                          refine fX7_7 (v := .ref (m + 1)) rfl dX7_books_189 ho rfl ?_
                          refine v_sipush (v := nI 142) dX7_books_192 (by decide) ?_
                          refine v_iconst (v := nI 4) dX7_books_195 (by decide) ?_
                          refine v_iload dX7_books_196 rfl ?_
                          refine n_imul (x := 4) (y := w) dX7_books_198 ?_
                          refine n_iadd (x := 142) (y := 4 * w) dX7_books_199 ?_
                          refine v_iload dX7_books_200 rfl ?_
                          refine n_iadd (x := 142 + (4 * w)) (y := q) dX7_books_202 ?_
                          refine v_aload_n dX7_books_203 rfl ?_
                          refine fX7_7 (v := .ref (m + 1)) rfl dX7_books_204 ho rfl ?_
                          refine v_sipush (v := nI 142) dX7_books_207 (by decide) ?_
                          refine v_iconst (v := nI 4) dX7_books_210 (by decide) ?_
                          refine v_iload dX7_books_211 rfl ?_
                          refine n_imul (x := 4) (y := w) dX7_books_213 ?_
                          refine n_iadd (x := 142) (y := 4 * w) dX7_books_214 ?_
                          refine v_iconst (v := nI 4) dX7_books_215 (by decide) ?_
                          refine n_isub (x := 142 + (4 * w)) (y := 4) dX7_books_216 (by omega) ?_
                          refine v_iload dX7_books_217 rfl ?_
                          refine n_iadd (x := (142 + (4 * w)) - 4) (y := q) dX7_books_219 ?_
                          refine n_ialdv (f := innT (vO C) (C 0 2) w q) (j := ((142 + (4 * w)) - 4) + q) (y := vO C (142 + 4 * w + q - 4)) dX7_books_220 hv (by omega) (by decide) ((innT_lo (by omega)).trans (congrArg (vO C) (by omega))) ?_
                          refine n_iast (f := innT (vO C) (C 0 2) w q) (j := (142 + (4 * w)) + q) (x := vO C (142 + 4 * w + q - 4)) dX7_books_221 hv (by omega) (by decide) ?_
                          refine nw (fun h1 f1 s1 => ?_)
                          have hv88 : h1 (m + 1) = some (ar G 182 (va_up (innT (vO C) (C 0 2) w q) ((142 + (4 * w)) + q) (vO C (142 + 4 * w + q - 4)))) := f1
                          have sa88 := s1
                          clear f1 s1
                          have fa89 := (sa88 (m) (by omega)).trans ho
                          have fr90 := offn_in (k := 2) (q := m) fr0 sa88 (by omega)
                          refine v_arr (f := innT (vO C) (C 0 2) w (q + 1)) hv88 (fun i hi => innT_s i) (fun h1 f1 s1 => ?_)
                          have hv91 := f1
                          have sa91 := s1
                          clear f1 s1
                          have fa92 := (sa91 (m) (by omega)).trans fa89
                          have fr93 := offn_in (k := 2) (q := m) fr90 sa91 (by omega)
                          refine n_iinc (k := 1) (x := q) dX7_books_222 (by decide) rfl rfl (by decide) ?_
                          refine v_ls (ls2 := [some (.ref m), some (.int (nI F)), some (.int (nI J)), some (.int (nI T)), some (.int (nI k)), some (.int (nI w)), some (.int ((-1))), some (.int (nI (q + 1)))]) rfl ?_
                          refine v_goto (tgt := 182) dX7_books_225 (by decide) ?_
                          exact ihq (by omega) _ ⟨fa92, hv91, fr93⟩
                  · refine v_aload_n dX7_books_151 rfl ?_
                    refine v_iconst (v := nI 1) dX7_books_152 (by decide) ?_
                    refine v_bipush (v := nI 10) dX7_books_153 (by decide) ?_
                    refine v_callV (st := []) dX7_books_155 (t_X7_refuses (x := nI 1) (y := nI 10) ho) wX7_66 ho rfl rfl ⟨Nat.le_of_ble_eq_true rfl, Nat.le_of_ble_eq_true rfl⟩ (Nat.le_of_ble_eq_true rfl) ⟨Nat.le_of_ble_eq_true rfl, Nat.le_of_ble_eq_true rfl⟩ (fun r n2 h2 hq => ?_)
                    obtain ⟨rfl, rfl, fa94, sa95⟩ := hq
                    refine v_st (st2 := [.int ((-1014))]) rfl ?_
                    have hv96 := (sa95 (m + 1) (by omega)).trans hv
                    have fr97 := offn_in (k := 2) (q := m) offn_rf sa95 (by omega)
                    refine v_iret dX7_books_158 rfl ?_ (Nat.le_of_ble_eq_true rfl) (Nat.le_of_ble_eq_true rfl)
                    have e9 : dBook C (nI F) (nI J) (nI T) (nI k) = (((-1014) : Int32), (C : Ct), (some (nI 1, nI 10) : Option (Int32 × Int32))) := by unfold dBook; all_goals (repeat (first | rw [if_pos (by first | assumption | omega | rfl | trivial)] | rw [if_neg (by first | assumption | omega)])); all_goals (try simp only [eF, eJ, eT, ek]); all_goals (try unfold dBookN); all_goals (repeat (first | rw [if_pos (by first | assumption | omega | rfl | trivial)] | rw [if_neg (by first | assumption | omega)])); all_goals (try rw [hb]); all_goals (try simp only [dBookP]); all_goals (repeat (first | rw [if_pos (by first | assumption | omega | rfl | trivial)] | rw [if_neg (by first | assumption | omega)])); all_goals (try rw [hb]); all_goals rfl
                    exact pm_of e9 ⟨rfl, rfl, by rw [mf_n (by decide)]; exact fa94, hv96, fr97, fun _ => rfl⟩
                · have hb12 := hB 12 p
                  refine v_ls (ls2 := [some (.ref m), some (.int (nI F)), some (.int (nI J)), some (.int (nI T)), some (.int (nI k)), some (.int (nI (C 0 2))), some (.int (nI (C 12 p))), none]) rfl ?_
                  refine v_iload dX7_books_131 rfl ?_
                  refine n_if_lt (tgt := 144) (x := C 12 p) dX7_books_133 (by decide) (by omega) ?_
                  refine v_aload_n dX7_books_136 rfl ?_
                  refine v_iconst (v := nI 5) dX7_books_137 (by decide) ?_
                  refine v_iload dX7_books_138 rfl ?_
                  refine v_callV (st := []) dX7_books_140 (t_X7_refuses (x := nI 5) (y := nI (C 12 p)) ho) wX7_66 ho rfl rfl ⟨Nat.le_of_ble_eq_true rfl, Nat.le_of_ble_eq_true rfl⟩ (Nat.le_of_ble_eq_true rfl) ⟨Nat.le_of_ble_eq_true rfl, Nat.le_of_ble_eq_true rfl⟩ (fun r n2 h2 hq => ?_)
                  obtain ⟨rfl, rfl, fa98, sa99⟩ := hq
                  refine v_st (st2 := [.int ((-1014))]) rfl ?_
                  have hv100 := (sa99 (m + 1) (by omega)).trans hv
                  have fr101 := offn_in (k := 2) (q := m) offn_rf sa99 (by omega)
                  refine v_iret dX7_books_143 rfl ?_ (Nat.le_of_ble_eq_true rfl) (Nat.le_of_ble_eq_true rfl)
                  have e9 : dBook C (nI F) (nI J) (nI T) (nI k) = (((-1014) : Int32), (C : Ct), (some (nI 5, nI (C 12 p)) : Option (Int32 × Int32))) := by unfold dBook; all_goals (repeat (first | rw [if_pos (by first | assumption | omega | rfl | trivial)] | rw [if_neg (by first | assumption | omega)])); all_goals (try simp only [eF, eJ, eT, ek]); all_goals (try unfold dBookN); all_goals (repeat (first | rw [if_pos (by first | assumption | omega | rfl | trivial)] | rw [if_neg (by first | assumption | omega)])); all_goals (try rw [hb]); all_goals (try simp only [dBookP]); all_goals (repeat (first | rw [if_pos (by first | assumption | omega | rfl | trivial)] | rw [if_neg (by first | assumption | omega)])); all_goals (try rw [hb]); all_goals rfl
                  exact pm_of e9 ⟨rfl, rfl, by rw [mf_n (by decide)]; exact fa98, hv100, fr101, fun _ => rfl⟩
              · have hh9 : hold C J := c38.1
                refine v_aload_n dX7_books_120 rfl ?_
                refine v_iconst (v := nI 3) dX7_books_121 (by decide) ?_
                refine v_aload_n dX7_books_122 rfl ?_
                refine v_iload_n dX7_books_123 rfl ?_
                refine v_callV (st := [.int (nI 3), .ref m]) dX7_books_124 (t_X7_owner (j := J) ho hv hK (by omega) (by omega)) wX7_60 ho rfl rfl ⟨Nat.le_of_ble_eq_true rfl, Nat.le_of_ble_eq_true rfl⟩ (Nat.le_of_ble_eq_true rfl) ⟨Nat.le_of_ble_eq_true rfl, Nat.le_of_ble_eq_true rfl⟩ (fun r n2 h2 hq => ?_)
                obtain ⟨rfl, hn9, hh9⟩ := hq; replace hn9 := hn9.symm; subst hn9; replace hh9 := hh9.symm; subst hh9
                refine v_st (st2 := [.int (nI (C 8 J)), .int (nI 3), .ref m]) (by rw [ow_t hh9]; try rfl) ?_
                have b102 := hK 8 J
                refine v_callV (st := []) dX7_books_127 (t_X7_refuses (x := nI 3) (y := nI (C 8 J)) ho) wX7_66 ho rfl rfl ⟨Nat.le_of_ble_eq_true rfl, Nat.le_of_ble_eq_true rfl⟩ (Nat.le_of_ble_eq_true rfl) ⟨Nat.le_of_ble_eq_true rfl, Nat.le_of_ble_eq_true rfl⟩ (fun r n2 h2 hq => ?_)
                obtain ⟨rfl, rfl, fa103, sa104⟩ := hq
                refine v_st (st2 := [.int ((-1014))]) rfl ?_
                have hv105 := (sa104 (m + 1) (by omega)).trans hv
                have fr106 := offn_in (k := 2) (q := m) offn_rf sa104 (by omega)
                refine v_iret dX7_books_130 rfl ?_ (Nat.le_of_ble_eq_true rfl) (Nat.le_of_ble_eq_true rfl)
                have e9 : dBook C (nI F) (nI J) (nI T) (nI k) = (((-1014) : Int32), (C : Ct), (some (nI 3, nI (C 8 J)) : Option (Int32 × Int32))) := by unfold dBook; all_goals (repeat (first | rw [if_pos (by first | assumption | omega | rfl | trivial)] | rw [if_neg (by first | assumption | omega)])); all_goals (try simp only [eF, eJ, eT, ek]); all_goals (try unfold dBookN); all_goals (repeat (first | rw [if_pos (by first | assumption | omega | rfl | trivial)] | rw [if_neg (by first | assumption | omega)])); all_goals (try simp only [dBookP]); all_goals (repeat (first | rw [if_pos (by first | assumption | omega | rfl | trivial)] | rw [if_neg (by first | assumption | omega)])); all_goals rfl
                exact pm_of e9 ⟨rfl, rfl, by rw [mf_n (by decide)]; exact fa103, hv105, fr106, fun _ => rfl⟩
            · refine v_aload_n dX7_books_104 rfl ?_
              refine v_iconst (v := nI 4) dX7_books_105 (by decide) ?_
              refine v_iload_n dX7_books_106 rfl ?_
              refine v_callV (st := []) dX7_books_107 (t_X7_refuses (x := nI 4) (y := nI T) ho) wX7_66 ho rfl rfl ⟨Nat.le_of_ble_eq_true rfl, Nat.le_of_ble_eq_true rfl⟩ (Nat.le_of_ble_eq_true rfl) ⟨Nat.le_of_ble_eq_true rfl, Nat.le_of_ble_eq_true rfl⟩ (fun r n2 h2 hq => ?_)
              obtain ⟨rfl, rfl, fa107, sa108⟩ := hq
              refine v_st (st2 := [.int ((-1014))]) rfl ?_
              have hv109 := (sa108 (m + 1) (by omega)).trans hv
              have fr110 := offn_in (k := 2) (q := m) offn_rf sa108 (by omega)
              refine v_iret dX7_books_110 rfl ?_ (Nat.le_of_ble_eq_true rfl) (Nat.le_of_ble_eq_true rfl)
              have e9 : dBook C (nI F) (nI J) (nI T) (nI k) = (((-1014) : Int32), (C : Ct), (some (nI 4, nI T) : Option (Int32 × Int32))) := by unfold dBook; all_goals (repeat (first | rw [if_pos (by first | assumption | omega | rfl | trivial)] | rw [if_neg (by first | assumption | omega)])); all_goals (try simp only [eF, eJ, eT, ek]); all_goals (try unfold dBookN); all_goals (repeat (first | rw [if_pos (by first | assumption | omega | rfl | trivial)] | rw [if_neg (by first | assumption | omega)])); all_goals (try simp only [dBookP]); all_goals (repeat (first | rw [if_pos (by first | assumption | omega | rfl | trivial)] | rw [if_neg (by first | assumption | omega)])); all_goals rfl
              exact pm_of e9 ⟨rfl, rfl, by rw [mf_n (by decide)]; exact fa107, hv109, fr110, fun _ => rfl⟩
          · refine v_aload_n dX7_books_78 rfl ?_
            refine v_iconst (v := nI 2) dX7_books_79 (by decide) ?_
            refine v_aload_n dX7_books_80 rfl ?_
            refine fX7_7 (v := .ref (m + 1)) rfl dX7_books_81 ho rfl ?_
            refine v_iconst (v := nI 3) dX7_books_84 (by decide) ?_
            refine n_ialdv (f := vO C) (j := 3) (y := C 0 3) dX7_books_85 hv (by omega) (by decide) ((vrd (C := C) lgn3 (Or.inl (by decide))).trans rfl) ?_
            refine v_callV (st := []) dX7_books_86 (t_X7_refuses (x := nI 2) (y := nI (C 0 3)) ho) wX7_66 ho rfl rfl ⟨Nat.le_of_ble_eq_true rfl, Nat.le_of_ble_eq_true rfl⟩ (Nat.le_of_ble_eq_true rfl) ⟨Nat.le_of_ble_eq_true rfl, Nat.le_of_ble_eq_true rfl⟩ (fun r n2 h2 hq => ?_)
            obtain ⟨rfl, rfl, fa111, sa112⟩ := hq
            refine v_st (st2 := [.int ((-1014))]) rfl ?_
            have hv113 := (sa112 (m + 1) (by omega)).trans hv
            have fr114 := offn_in (k := 2) (q := m) offn_rf sa112 (by omega)
            refine v_iret dX7_books_89 rfl ?_ (Nat.le_of_ble_eq_true rfl) (Nat.le_of_ble_eq_true rfl)
            have e9 : dBook C (nI F) (nI J) (nI T) (nI k) = (((-1014) : Int32), (C : Ct), (some (nI 2, nI (C 0 3)) : Option (Int32 × Int32))) := by unfold dBook; all_goals (repeat (first | rw [if_pos (by first | assumption | omega | rfl | trivial)] | rw [if_neg (by first | assumption | omega)])); all_goals (try simp only [eF, eJ, eT, ek]); all_goals (try unfold dBookN); all_goals (repeat (first | rw [if_pos (by first | assumption | omega | rfl | trivial)] | rw [if_neg (by first | assumption | omega)])); all_goals (try simp only [dBookP]); all_goals (repeat (first | rw [if_pos (by first | assumption | omega | rfl | trivial)] | rw [if_neg (by first | assumption | omega)])); all_goals rfl
            exact pm_of e9 ⟨rfl, rfl, by rw [mf_n (by decide)]; exact fa111, hv113, fr114, fun _ => rfl⟩
        · have c32z : x < 0 ∨ (¬ x < 0 ∧ ¬ x ≤ nI 99) := not_rg c32
          rcases c32z with c32a | ⟨c32b, c32d⟩
          · refine v_aload_n dX7_books_42 rfl ?_
            refine v_sipush (v := (-1012)) dX7_books_43 (by decide) ?_
            refine v_callV (st := []) dX7_books_46 (t_X7_fail (x := (-1012)) ho) wX7_41 ho rfl rfl ⟨Nat.le_of_ble_eq_true rfl, Nat.le_of_ble_eq_true rfl⟩ (Nat.le_of_ble_eq_true rfl) ⟨Nat.le_of_ble_eq_true rfl, Nat.le_of_ble_eq_true rfl⟩ (fun r n2 h2 hq => ?_)
            obtain ⟨rfl, rfl, fa115, sa116⟩ := hq
            refine v_st (st2 := [.int ((-1012))]) rfl ?_
            have hv117 := (sa116 (m + 1) (by omega)).trans hv
            have fr118 := offn_in (k := 2) (q := m) offn_rf sa116 (by omega)
            refine v_iret dX7_books_49 rfl ?_ (Nat.le_of_ble_eq_true rfl) (Nat.le_of_ble_eq_true rfl)
            have e9 : dBook C (nI F) (nI J) (nI T) x = (((-1012) : Int32), (C : Ct), (none : Option (Int32 × Int32))) := by unfold dBook; all_goals (repeat (first | rw [if_pos (by first | assumption | omega | rfl | trivial)] | rw [if_neg (by first | assumption | omega)])); all_goals (try simp only [eF, eJ, eT]); all_goals (try unfold dBookN); all_goals (repeat (first | rw [if_pos (by first | assumption | omega | rfl | trivial)] | rw [if_neg (by first | assumption | omega)])); all_goals (try simp only [dBookP]); all_goals (repeat (first | rw [if_pos (by first | assumption | omega | rfl | trivial)] | rw [if_neg (by first | assumption | omega)])); all_goals rfl
            exact pm_of e9 ⟨rfl, rfl, by rw [mf_n (by decide)]; exact fa115, hv117, fr118, fun _ => rfl⟩
          · refine v_aload_n dX7_books_42 rfl ?_
            refine v_sipush (v := (-1012)) dX7_books_43 (by decide) ?_
            refine v_callV (st := []) dX7_books_46 (t_X7_fail (x := (-1012)) ho) wX7_41 ho rfl rfl ⟨Nat.le_of_ble_eq_true rfl, Nat.le_of_ble_eq_true rfl⟩ (Nat.le_of_ble_eq_true rfl) ⟨Nat.le_of_ble_eq_true rfl, Nat.le_of_ble_eq_true rfl⟩ (fun r n2 h2 hq => ?_)
            obtain ⟨rfl, rfl, fa119, sa120⟩ := hq
            refine v_st (st2 := [.int ((-1012))]) rfl ?_
            have hv121 := (sa120 (m + 1) (by omega)).trans hv
            have fr122 := offn_in (k := 2) (q := m) offn_rf sa120 (by omega)
            refine v_iret dX7_books_49 rfl ?_ (Nat.le_of_ble_eq_true rfl) (Nat.le_of_ble_eq_true rfl)
            have e9 : dBook C (nI F) (nI J) (nI T) x = (((-1012) : Int32), (C : Ct), (none : Option (Int32 × Int32))) := by unfold dBook; all_goals (repeat (first | rw [if_pos (by first | assumption | omega | rfl | trivial)] | rw [if_neg (by first | assumption | omega)])); all_goals (try simp only [eF, eJ, eT]); all_goals (try unfold dBookN); all_goals (repeat (first | rw [if_pos (by first | assumption | omega | rfl | trivial)] | rw [if_neg (by first | assumption | omega)])); all_goals (try simp only [dBookP]); all_goals (repeat (first | rw [if_pos (by first | assumption | omega | rfl | trivial)] | rw [if_neg (by first | assumption | omega)])); all_goals rfl
            exact pm_of e9 ⟨rfl, rfl, by rw [mf_n (by decide)]; exact fa119, hv121, fr122, fun _ => rfl⟩
      · refine v_aload_n dX7_books_23 rfl ?_
        refine v_sipush (v := (-1011)) dX7_books_24 (by decide) ?_
        refine v_callV (st := []) dX7_books_27 (t_X7_fail (x := (-1011)) ho) wX7_41 ho rfl rfl ⟨Nat.le_of_ble_eq_true rfl, Nat.le_of_ble_eq_true rfl⟩ (Nat.le_of_ble_eq_true rfl) ⟨Nat.le_of_ble_eq_true rfl, Nat.le_of_ble_eq_true rfl⟩ (fun r n2 h2 hq => ?_)
        obtain ⟨rfl, rfl, fa123, sa124⟩ := hq
        refine v_st (st2 := [.int ((-1011))]) rfl ?_
        have hv125 := (sa124 (m + 1) (by omega)).trans hv
        have fr126 := offn_in (k := 2) (q := m) offn_rf sa124 (by omega)
        refine v_iret dX7_books_30 rfl ?_ (Nat.le_of_ble_eq_true rfl) (Nat.le_of_ble_eq_true rfl)
        have e9 : dBook C (nI F) (nI J) t x = (((-1011) : Int32), (C : Ct), (none : Option (Int32 × Int32))) := by unfold dBook; all_goals (repeat (first | rw [if_pos (by first | assumption | omega | rfl | trivial)] | rw [if_neg (by first | assumption | omega)])); all_goals (try simp only [eF, eJ]); all_goals (try unfold dBookN); all_goals (repeat (first | rw [if_pos (by first | assumption | omega | rfl | trivial)] | rw [if_neg (by first | assumption | omega)])); all_goals (try simp only [dBookP]); all_goals (repeat (first | rw [if_pos (by first | assumption | omega | rfl | trivial)] | rw [if_neg (by first | assumption | omega)])); all_goals rfl
        exact pm_of e9 ⟨rfl, rfl, by rw [mf_n (by decide)]; exact fa123, hv125, fr126, fun _ => rfl⟩
