set_option maxRecDepth 20000 in
set_option maxHeartbeats 4000000 in
theorem t_X2_has {l : Launch} {G : vG} {n : Nat} {h : AH} {x : Int32} {q : Nat} {C : Ct} (hc : ct G h q C) (hB : bd C) : Mt l G mX2_has [.ref (q + 1), .int x] n h 0 0 (fun r n2 h2 => r = some (.int (nI (bI (ixb x (C 0 0) = true)))) ∧ n2 = n ∧ h2 = h) := by
  refine Mt.of (by decide) (Nat.le_of_ble_eq_true rfl) rfl ?_
  refine v_ls (ls2 := [some (.ref (q + 1)), some (.int x)]) rfl ?_
  have b0 := hB 0 0
  refine v_iload_n dX2_has_0 rfl ?_
  refine v_if_lt (tgt := 16) dX2_has_1 (by decide) (fun c1 => ?_) (fun c1 => ?_)
  · refine v_iconst (v := nI 0) dX2_has_16 (by decide) ?_
    refine v_zret (ty := .boolean) dX2_has_17 rfl (by decide) ?_ (Nat.le_refl _) (Nat.le_refl _)
    have hk : C 0 0 < 2 ^ 31 := by have := hB 0 0; omega
    refine ⟨?_, rfl, rfl⟩
    rw [bI_f (by rw [ixb_iff]; unfold ix; rw [i_neg] at c1; omega)]
  · refine v_iload_n dX2_has_4 rfl ?_
    refine v_aload_n dX2_has_5 rfl ?_
    refine fX2_9 (v := .int (nI (C 0 0))) rfl dX2_has_6 (ck1 hc) rfl ?_
    have b2 := hB 0 0
    refine v_icmp_ge (tgt := 16) dX2_has_9 (by decide) (fun c3 => ?_) (fun c3 => ?_)
    · refine v_iconst (v := nI 0) dX2_has_16 (by decide) ?_
      refine v_zret (ty := .boolean) dX2_has_17 rfl (by decide) ?_ (Nat.le_refl _) (Nat.le_refl _)
      have hk : C 0 0 < 2 ^ 31 := by have := hB 0 0; omega
      refine ⟨?_, rfl, rfl⟩
      rw [bI_f (by rw [ixb_iff]; unfold ix; rw [i_neg] at c1; rw [i_geN hk] at c3; omega)]
    · refine v_iconst (v := nI 1) dX2_has_12 (by decide) ?_
      refine v_goto (tgt := 17) dX2_has_13 (by decide) ?_
      refine v_zret (ty := .boolean) dX2_has_17 rfl (by decide) ?_ (Nat.le_refl _) (Nat.le_refl _)
      have hk : C 0 0 < 2 ^ 31 := by have := hB 0 0; omega
      refine ⟨?_, rfl, rfl⟩
      rw [bI_t (by rw [ixb_iff]; unfold ix; rw [i_neg] at c1; rw [i_geN hk] at c3; omega)]
set_option maxRecDepth 20000 in
set_option maxHeartbeats 4000000 in
theorem t_X4_has {l : Launch} {G : vG} {n : Nat} {h : AH} {x : Int32} {q : Nat} {C : Ct} (hc : ct G h q C) (hB : bd C) : Mt l G mX4_has [.ref (q + 8), .int x] n h 0 0 (fun r n2 h2 => r = some (.int (nI (bI (ixb x (C 0 1) = true)))) ∧ n2 = n ∧ h2 = h) := by
  refine Mt.of (by decide) (Nat.le_of_ble_eq_true rfl) rfl ?_
  refine v_ls (ls2 := [some (.ref (q + 8)), some (.int x)]) rfl ?_
  have b0 := hB 0 1
  refine v_iload_n dX4_has_0 rfl ?_
  refine v_if_lt (tgt := 16) dX4_has_1 (by decide) (fun c1 => ?_) (fun c1 => ?_)
  · refine v_iconst (v := nI 0) dX4_has_16 (by decide) ?_
    refine v_zret (ty := .boolean) dX4_has_17 rfl (by decide) ?_ (Nat.le_refl _) (Nat.le_refl _)
    have hk : C 0 1 < 2 ^ 31 := by have := hB 0 1; omega
    refine ⟨?_, rfl, rfl⟩
    rw [bI_f (by rw [ixb_iff]; unfold ix; rw [i_neg] at c1; omega)]
  · refine v_iload_n dX4_has_4 rfl ?_
    refine v_aload_n dX4_has_5 rfl ?_
    refine fX4_9 (v := .int (nI (C 0 1))) rfl dX4_has_6 (ck8 hc) rfl ?_
    have b2 := hB 0 1
    refine v_icmp_ge (tgt := 16) dX4_has_9 (by decide) (fun c3 => ?_) (fun c3 => ?_)
    · refine v_iconst (v := nI 0) dX4_has_16 (by decide) ?_
      refine v_zret (ty := .boolean) dX4_has_17 rfl (by decide) ?_ (Nat.le_refl _) (Nat.le_refl _)
      have hk : C 0 1 < 2 ^ 31 := by have := hB 0 1; omega
      refine ⟨?_, rfl, rfl⟩
      rw [bI_f (by rw [ixb_iff]; unfold ix; rw [i_neg] at c1; rw [i_geN hk] at c3; omega)]
    · refine v_iconst (v := nI 1) dX4_has_12 (by decide) ?_
      refine v_goto (tgt := 17) dX4_has_13 (by decide) ?_
      refine v_zret (ty := .boolean) dX4_has_17 rfl (by decide) ?_ (Nat.le_refl _) (Nat.le_refl _)
      have hk : C 0 1 < 2 ^ 31 := by have := hB 0 1; omega
      refine ⟨?_, rfl, rfl⟩
      rw [bI_t (by rw [ixb_iff]; unfold ix; rw [i_neg] at c1; rw [i_geN hk] at c3; omega)]
set_option maxRecDepth 20000 in
set_option maxHeartbeats 4000000 in
theorem t_X4_toldAt {l : Launch} {G : vG} {n : Nat} {h : AH} {j t : Nat} {q : Nat} {C : Ct} (hc : ct G h q C) (hB : bd C) (hj : j < 12) (ht : t < 4) : Mt l G mX4_toldAt [.ref (q + 8), .int (nI j), .int (nI t)] n h 0 0 (fun r n2 h2 => r = some (.int (nI (C 10 (j * 4 + t)))) ∧ n2 = n ∧ h2 = h) := by
  refine Mt.of (by decide) (Nat.le_of_ble_eq_true rfl) rfl ?_
  refine v_ls (ls2 := [some (.ref (q + 8)), some (.int (nI j)), some (.int (nI t))]) rfl ?_
  refine v_aload_n dX4_toldAt_0 rfl ?_
  refine fX4_25 (v := .ref (q + 12)) rfl dX4_toldAt_1 (ck8 hc) rfl ?_
  refine v_iload_n dX4_toldAt_4 rfl ?_
  refine v_iconst (v := nI 4) dX4_toldAt_5 (by decide) ?_
  refine n_imul (x := j) (y := 4) dX4_toldAt_6 ?_
  refine v_iload_n dX4_toldAt_7 rfl ?_
  refine n_iadd (x := j * 4) (y := t) dX4_toldAt_8 ?_
  refine n_ialdv (f := C 10) (j := (j * 4) + t) (y := C 10 ((j * 4) + t)) dX4_toldAt_9 (ck12 hc) (by omega) (by decide) rfl ?_
  have b1 := hB 10 ((j * 4) + t)
  refine v_iret dX4_toldAt_10 rfl ?_ (Nat.le_refl _) (Nat.le_refl _)
  exact ⟨by first | rfl | rw [bI_t (by omega)] | rw [bI_f (by omega)], rfl, rfl⟩
set_option maxRecDepth 20000 in
set_option maxHeartbeats 4000000 in
theorem t_X4_tellings {l : Launch} {G : vG} {n : Nat} {h : AH} {j : Nat} {q : Nat} {C : Ct} (hc : ct G h q C) (hB : bd C) (hj : j < 12) : Mt l G mX4_tellings [.ref (q + 8), .int (nI j)] n h 0 0 (fun r n2 h2 => r = some (.int (nI (sm (fun t => C 10 (j * 4 + t)) 4))) ∧ n2 = n ∧ h2 = h) := by
  refine Mt.of (by decide) (Nat.le_of_ble_eq_true rfl) rfl ?_
  refine v_ls (ls2 := [some (.ref (q + 8)), some (.int (nI j)), none, none]) rfl ?_
  refine v_iconst (v := nI 0) dX4_tellings_0 (by decide) ?_
  refine v_istore_n dX4_tellings_1 rfl (by decide) ?_
  refine v_ls (ls2 := [some (.ref (q + 8)), some (.int (nI j)), some (.int (nI 0)), none]) rfl ?_
  refine v_iconst (v := nI 0) dX4_tellings_2 (by decide) ?_
  refine v_istore_n dX4_tellings_3 rfl (by decide) ?_
  refine v_ls (ls2 := [some (.ref (q + 8)), some (.int (nI j)), some (.int (nI 0)), some (.int (nI 0))]) rfl ?_
  refine loopV (fun i4 => [some (.ref (q + 8)), some (.int (nI j)), some (.int (nI (sm (fun t => C 10 (j * 4 + t)) i4))), some (.int (nI i4))]) (fun i4 => True) (N := 4) 0 (by omega) rfl trivial (fun i4 hi4 hp4 ih4 => ?_)
  refine v_iload_n dX4_tellings_4 rfl ?_
  refine v_iconst (v := nI 4) dX4_tellings_5 (by decide) ?_
  refine n_icmp_ge (tgt := 24) (x := i4) (y := 4) dX4_tellings_6 (by decide) (by omega) (by omega) (fun c1 => ?_) (fun c1 => ?_)
  · refine v_iload_n dX4_tellings_24 rfl ?_
    refine v_iret dX4_tellings_25 rfl ?_ (Nat.le_refl _) (Nat.le_refl _)
    have e : i4 = 4 := by omega
    subst e
    exact ⟨rfl, rfl, rfl⟩
  · refine v_iload_n dX4_tellings_9 rfl ?_
    refine v_aload_n dX4_tellings_10 rfl ?_
    refine v_iload_n dX4_tellings_11 rfl ?_
    refine v_iload_n dX4_tellings_12 rfl ?_
    refine v_callV (st := [.int (nI (sm (fun t => C 10 (j * 4 + t)) i4))]) dX4_tellings_13 (t_X4_toldAt (j := j) (t := i4) hc hB (by omega) (by omega)) wX4_32 (ck8 hc) rfl rfl ⟨Nat.le_of_ble_eq_true rfl, Nat.le_of_ble_eq_true rfl⟩ (Nat.le_of_ble_eq_true rfl) ⟨Nat.le_refl _, Nat.le_refl _⟩ (fun r n2 h2 hq => ?_)
    obtain ⟨rfl, rfl, rfl⟩ := hq
    refine v_st (st2 := [.int (nI (C 10 (j * 4 + i4))), .int (nI (sm (fun t => C 10 (j * 4 + t)) i4))]) rfl ?_
    refine n_iadd (x := sm (fun t => C 10 (j * 4 + t)) i4) (y := C 10 (j * 4 + i4)) dX4_tellings_16 ?_
    refine v_istore_n dX4_tellings_17 rfl (by decide) ?_
    refine v_ls (ls2 := [some (.ref (q + 8)), some (.int (nI j)), some (.int (nI ((sm (fun t => C 10 (j * 4 + t)) i4) + (C 10 (j * 4 + i4))))), some (.int (nI i4))]) rfl ?_
    refine n_iinc (k := 1) (x := i4) dX4_tellings_18 (by decide) rfl rfl (by decide) ?_
    refine v_ls (ls2 := [some (.ref (q + 8)), some (.int (nI j)), some (.int (nI ((sm (fun t => C 10 (j * 4 + t)) i4) + (C 10 (j * 4 + i4))))), some (.int (nI (i4 + 1)))]) rfl ?_
    refine v_goto (tgt := 4) dX4_tellings_21 (by decide) ?_
    exact ih4 (by omega) trivial
set_option maxRecDepth 20000 in
set_option maxHeartbeats 4000000 in
theorem t_X4_tellingsAt {l : Launch} {G : vG} {n : Nat} {h : AH} {t : Nat} {q : Nat} {C : Ct} (hc : ct G h q C) (hB : bd C) (ht : t < 4) (hJ : C 0 1 ≤ 12) : Mt l G mX4_tellingsAt [.ref (q + 8), .int (nI t)] n h 0 0 (fun r n2 h2 => r = some (.int (nI (sm (fun j => C 10 (j * 4 + t)) (C 0 1)))) ∧ n2 = n ∧ h2 = h) := by
  refine Mt.of (by decide) (Nat.le_of_ble_eq_true rfl) rfl ?_
  refine v_ls (ls2 := [some (.ref (q + 8)), some (.int (nI t)), none, none]) rfl ?_
  refine v_iconst (v := nI 0) dX4_tellingsAt_0 (by decide) ?_
  refine v_istore_n dX4_tellingsAt_1 rfl (by decide) ?_
  refine v_ls (ls2 := [some (.ref (q + 8)), some (.int (nI t)), some (.int (nI 0)), none]) rfl ?_
  refine v_iconst (v := nI 0) dX4_tellingsAt_2 (by decide) ?_
  refine v_istore_n dX4_tellingsAt_3 rfl (by decide) ?_
  refine v_ls (ls2 := [some (.ref (q + 8)), some (.int (nI t)), some (.int (nI 0)), some (.int (nI 0))]) rfl ?_
  refine loopV (fun i4 => [some (.ref (q + 8)), some (.int (nI t)), some (.int (nI (sm (fun j => C 10 (j * 4 + t)) i4))), some (.int (nI i4))]) (fun i4 => True) (N := C 0 1) 0 (by omega) rfl trivial (fun i4 hi4 hp4 ih4 => ?_)
  refine v_iload_n dX4_tellingsAt_4 rfl ?_
  refine v_aload_n dX4_tellingsAt_5 rfl ?_
  refine fX4_9 (v := .int (nI (C 0 1))) rfl dX4_tellingsAt_6 (ck8 hc) rfl ?_
  have b1 := hB 0 1
  refine n_icmp_ge (tgt := 27) (x := i4) (y := C 0 1) dX4_tellingsAt_9 (by decide) (by omega) (by omega) (fun c2 => ?_) (fun c2 => ?_)
  · refine v_iload_n dX4_tellingsAt_27 rfl ?_
    refine v_iret dX4_tellingsAt_28 rfl ?_ (Nat.le_refl _) (Nat.le_refl _)
    have e : i4 = C 0 1 := by omega
    subst e
    exact ⟨rfl, rfl, rfl⟩
  · refine v_iload_n dX4_tellingsAt_12 rfl ?_
    refine v_aload_n dX4_tellingsAt_13 rfl ?_
    refine v_iload_n dX4_tellingsAt_14 rfl ?_
    refine v_iload_n dX4_tellingsAt_15 rfl ?_
    refine v_callV (st := [.int (nI (sm (fun j => C 10 (j * 4 + t)) i4))]) dX4_tellingsAt_16 (t_X4_toldAt (j := i4) (t := t) hc hB (by omega) (by omega)) wX4_32 (ck8 hc) rfl rfl ⟨Nat.le_of_ble_eq_true rfl, Nat.le_of_ble_eq_true rfl⟩ (Nat.le_of_ble_eq_true rfl) ⟨Nat.le_refl _, Nat.le_refl _⟩ (fun r n2 h2 hq => ?_)
    obtain ⟨rfl, rfl, rfl⟩ := hq
    refine v_st (st2 := [.int (nI (C 10 (i4 * 4 + t))), .int (nI (sm (fun j => C 10 (j * 4 + t)) i4))]) rfl ?_
    refine n_iadd (x := sm (fun j => C 10 (j * 4 + t)) i4) (y := C 10 (i4 * 4 + t)) dX4_tellingsAt_19 ?_
    refine v_istore_n dX4_tellingsAt_20 rfl (by decide) ?_
    refine v_ls (ls2 := [some (.ref (q + 8)), some (.int (nI t)), some (.int (nI ((sm (fun j => C 10 (j * 4 + t)) i4) + (C 10 (i4 * 4 + t))))), some (.int (nI i4))]) rfl ?_
    refine n_iinc (k := 1) (x := i4) dX4_tellingsAt_21 (by decide) rfl rfl (by decide) ?_
    refine v_ls (ls2 := [some (.ref (q + 8)), some (.int (nI t)), some (.int (nI ((sm (fun j => C 10 (j * 4 + t)) i4) + (C 10 (i4 * 4 + t))))), some (.int (nI (i4 + 1)))]) rfl ?_
    refine v_goto (tgt := 4) dX4_tellingsAt_24 (by decide) ?_
    exact ih4 (by omega) trivial
set_option maxRecDepth 20000 in
set_option maxHeartbeats 4000000 in
theorem t_X1_holds {l : Launch} {G : vG} {n : Nat} {h : AH} {j : Nat} {q : Nat} {C : Ct} (hc : ct G h q C) (hB : bd C) (hj : j < 12) : Mt l G mX1_holds [.ref q, .int (nI j)] n h 0 0 (fun r n2 h2 => r = some (.int (nI (bI (hold C j)))) ∧ n2 = n ∧ h2 = h) := by
  refine Mt.of (by decide) (Nat.le_of_ble_eq_true rfl) rfl ?_
  refine v_ls (ls2 := [some (.ref q), some (.int (nI j))]) rfl ?_
  refine v_aload_n dX1_holds_0 rfl ?_
  refine fX1_39 (v := .int (nI (C 0 3))) rfl dX1_holds_1 (ck0 hc) rfl ?_
  have b1 := hB 0 3
  refine v_aload_n dX1_holds_4 rfl ?_
  refine fX1_21 (v := .ref (q + 8)) rfl dX1_holds_5 (ck0 hc) rfl ?_
  refine fX1_69 (v := .ref (q + 11)) rfl dX1_holds_8 (ck8 hc) rfl ?_
  refine v_iload_n dX1_holds_11 rfl ?_
  refine n_ialdv (f := C 9) (j := j) (y := C 9 j) dX1_holds_12 (ck11 hc) (by omega) (by decide) rfl ?_
  have b2 := hB 9 j
  refine n_icmp_ge (tgt := 20) (x := C 0 3) (y := C 9 j) dX1_holds_13 (by decide) (by omega) (by omega) (fun c3 => ?_) (fun c3 => ?_)
  · refine v_iconst (v := nI 0) dX1_holds_20 (by decide) ?_
    refine v_zret (ty := .boolean) dX1_holds_21 rfl (by decide) ?_ (Nat.le_refl _) (Nat.le_refl _)
    exact ⟨by first | rfl | rw [bI_t (by omega)] | rw [bI_f (by omega)], rfl, rfl⟩
  · refine v_iconst (v := nI 1) dX1_holds_16 (by decide) ?_
    refine v_goto (tgt := 21) dX1_holds_17 (by decide) ?_
    refine v_zret (ty := .boolean) dX1_holds_21 rfl (by decide) ?_ (Nat.le_refl _) (Nat.le_refl _)
    exact ⟨by first | rfl | rw [bI_t (by omega)] | rw [bI_f (by omega)], rfl, rfl⟩
set_option maxRecDepth 20000 in
set_option maxHeartbeats 4000000 in
theorem t_X1_isBarred {l : Launch} {G : vG} {n : Nat} {h : AH} {f j : Nat} {q : Nat} {C : Ct} (hc : ct G h q C) (hB : bd C) (hj : j < 12) (hf : f < 6) : Mt l G mX1_isBarred [.ref q, .int (nI f), .int (nI j)] n h 0 0 (fun r n2 h2 => r = some (.int (nI (bI (barr C f j)))) ∧ n2 = n ∧ h2 = h) := by
  refine Mt.of (by decide) (Nat.le_of_ble_eq_true rfl) rfl ?_
  refine v_ls (ls2 := [some (.ref q), some (.int (nI f)), some (.int (nI j))]) rfl ?_
  refine v_aload_n dX1_isBarred_0 rfl ?_
  refine v_iload_n dX1_isBarred_1 rfl ?_
  refine v_callV (st := []) dX1_isBarred_2 (t_X1_holds (j := j) hc hB (by omega)) wX1_72 (ck0 hc) rfl rfl ⟨Nat.le_of_ble_eq_true rfl, Nat.le_of_ble_eq_true rfl⟩ (Nat.le_of_ble_eq_true rfl) ⟨Nat.le_refl _, Nat.le_refl _⟩ (fun r n2 h2 hq => ?_)
  obtain ⟨rfl, rfl, rfl⟩ := hq
  refine v_st (st2 := [.int (nI (bI (hold C j)))]) rfl ?_
  refine n_ifb_eq (tgt := 25) (p := hold C j) dX1_isBarred_5 (by decide) (fun c1 => ?_) (fun c1 => ?_)
  · refine v_iconst (v := nI 0) dX1_isBarred_25 (by decide) ?_
    refine v_zret (ty := .boolean) dX1_isBarred_26 rfl (by decide) ?_ (Nat.le_refl _) (Nat.le_refl _)
    exact ⟨by first | rfl | rw [bI_t (by omega)] | rw [bI_f (by omega)], rfl, rfl⟩
  · refine v_aload_n dX1_isBarred_8 rfl ?_
    refine fX1_21 (v := .ref (q + 8)) rfl dX1_isBarred_9 (ck0 hc) rfl ?_
    refine fX1_76 (v := .ref (q + 10)) rfl dX1_isBarred_12 (ck8 hc) rfl ?_
    refine v_iload_n dX1_isBarred_15 rfl ?_
    refine n_ialdv (f := C 8) (j := j) (y := C 8 j) dX1_isBarred_16 (ck10 hc) (by omega) (by decide) rfl ?_
    have b2 := hB 8 j
    refine v_iload_n dX1_isBarred_17 rfl ?_
    refine n_icmp_eq (tgt := 25) (x := C 8 j) (y := f) dX1_isBarred_18 (by decide) (by omega) (by omega) (fun c3 => ?_) (fun c3 => ?_)
    · refine v_iconst (v := nI 0) dX1_isBarred_25 (by decide) ?_
      refine v_zret (ty := .boolean) dX1_isBarred_26 rfl (by decide) ?_ (Nat.le_refl _) (Nat.le_refl _)
      exact ⟨by first | rfl | rw [bI_t (by omega)] | rw [bI_f (by omega)], rfl, rfl⟩
    · refine v_iconst (v := nI 1) dX1_isBarred_21 (by decide) ?_
      refine v_goto (tgt := 26) dX1_isBarred_22 (by decide) ?_
      refine v_zret (ty := .boolean) dX1_isBarred_26 rfl (by decide) ?_ (Nat.le_refl _) (Nat.le_refl _)
      exact ⟨by first | rfl | rw [bI_t (by omega)] | rw [bI_f (by omega)], rfl, rfl⟩
set_option maxRecDepth 20000 in
set_option maxHeartbeats 4000000 in
theorem t_X1_patents {l : Launch} {G : vG} {n : Nat} {h : AH}  {q : Nat} {C : Ct} (hc : ct G h q C) (hB : bd C) (hJ : C 0 1 ≤ 12) : Mt l G mX1_patents [.ref q] n h 0 0 (fun r n2 h2 => r = some (.int (nI (cnt (fun z => decide (hold C z)) (C 0 1)))) ∧ n2 = n ∧ h2 = h) := by
  refine Mt.of (by decide) (Nat.le_of_ble_eq_true rfl) rfl ?_
  refine v_ls (ls2 := [some (.ref q), none, none]) rfl ?_
  refine v_iconst (v := nI 0) dX1_patents_0 (by decide) ?_
  refine v_istore_n dX1_patents_1 rfl (by decide) ?_
  refine v_ls (ls2 := [some (.ref q), some (.int (nI 0)), none]) rfl ?_
  refine v_iconst (v := nI 0) dX1_patents_2 (by decide) ?_
  refine v_istore_n dX1_patents_3 rfl (by decide) ?_
  refine v_ls (ls2 := [some (.ref q), some (.int (nI 0)), some (.int (nI 0))]) rfl ?_
  refine loopV (fun i4 => [some (.ref q), some (.int (nI (cnt (fun z => decide (hold C z)) i4))), some (.int (nI i4))]) (fun i4 => True) (N := C 0 1) 0 (by omega) rfl trivial (fun i4 hi4 hp4 ih4 => ?_)
  refine v_iload_n dX1_patents_4 rfl ?_
  refine v_aload_n dX1_patents_5 rfl ?_
  refine fX1_21 (v := .ref (q + 8)) rfl dX1_patents_6 (ck0 hc) rfl ?_
  refine fX1_79 (v := .int (nI (C 0 1))) rfl dX1_patents_9 (ck8 hc) rfl ?_
  have b1 := hB 0 1
  refine n_icmp_ge (tgt := 32) (x := i4) (y := C 0 1) dX1_patents_12 (by decide) (by omega) (by omega) (fun c2 => ?_) (fun c2 => ?_)
  · refine v_iload_n dX1_patents_32 rfl ?_
    refine v_iret dX1_patents_33 rfl ?_ (Nat.le_refl _) (Nat.le_refl _)
    have e : i4 = C 0 1 := by omega
    subst e
    exact ⟨rfl, rfl, rfl⟩
  · refine v_aload_n dX1_patents_15 rfl ?_
    refine v_iload_n dX1_patents_16 rfl ?_
    refine v_callV (st := []) dX1_patents_17 (t_X1_holds (j := i4) hc hB (by omega)) wX1_72 (ck0 hc) rfl rfl ⟨Nat.le_of_ble_eq_true rfl, Nat.le_of_ble_eq_true rfl⟩ (Nat.le_of_ble_eq_true rfl) ⟨Nat.le_refl _, Nat.le_refl _⟩ (fun r n2 h2 hq => ?_)
    obtain ⟨rfl, rfl, rfl⟩ := hq
    refine v_st (st2 := [.int (nI (bI (hold C i4)))]) rfl ?_
    refine n_ifb_eq (tgt := 26) (p := hold C i4) dX1_patents_20 (by decide) (fun c3 => ?_) (fun c3 => ?_)
    · refine n_iinc (k := 1) (x := i4) dX1_patents_26 (by decide) rfl rfl (by decide) ?_
      refine v_ls (ls2 := [some (.ref q), some (.int (nI (cnt (fun z => decide (hold C z)) i4))), some (.int (nI (i4 + 1)))]) rfl ?_
      refine v_goto (tgt := 4) dX1_patents_29 (by decide) ?_
      refine v_ls (ls2 := [some (.ref q), some (.int (nI (cnt (fun z => decide (hold C z)) ((i4 + 1))))), some (.int (nI ((i4 + 1))))]) ?_ (ih4 (by omega) trivial)
      rw [cnt_f (by simp only [decide_eq_true_eq, decide_eq_false_iff_not]; omega)]
    · refine n_iinc (k := 1) (x := cnt (fun z => decide (hold C z)) i4) dX1_patents_23 (by decide) rfl rfl (by decide) ?_
      refine v_ls (ls2 := [some (.ref q), some (.int (nI (cnt (fun z => decide (hold C z)) i4 + 1))), some (.int (nI i4))]) rfl ?_
      refine n_iinc (k := 1) (x := i4) dX1_patents_26 (by decide) rfl rfl (by decide) ?_
      refine v_ls (ls2 := [some (.ref q), some (.int (nI (cnt (fun z => decide (hold C z)) i4 + 1))), some (.int (nI (i4 + 1)))]) rfl ?_
      refine v_goto (tgt := 4) dX1_patents_29 (by decide) ?_
      refine v_ls (ls2 := [some (.ref q), some (.int (nI (cnt (fun z => decide (hold C z)) ((i4 + 1))))), some (.int (nI ((i4 + 1))))]) ?_ (ih4 (by omega) trivial)
      rw [cnt_t (by simp only [decide_eq_true_eq, decide_eq_false_iff_not]; omega)]
set_option maxRecDepth 20000 in
set_option maxHeartbeats 4000000 in
theorem t_X1_patentsOf {l : Launch} {G : vG} {n : Nat} {h : AH} {f : Nat} {q : Nat} {C : Ct} (hc : ct G h q C) (hB : bd C) (hJ : C 0 1 ≤ 12) (hf : f < 6) : Mt l G mX1_patentsOf [.ref q, .int (nI f)] n h 0 0 (fun r n2 h2 => r = some (.int (nI (cnt (fun z => decide (hold C z ∧ C 8 z = f)) (C 0 1)))) ∧ n2 = n ∧ h2 = h) := by
  refine Mt.of (by decide) (Nat.le_of_ble_eq_true rfl) rfl ?_
  refine v_ls (ls2 := [some (.ref q), some (.int (nI f)), none, none]) rfl ?_
  refine v_iconst (v := nI 0) dX1_patentsOf_0 (by decide) ?_
  refine v_istore_n dX1_patentsOf_1 rfl (by decide) ?_
  refine v_ls (ls2 := [some (.ref q), some (.int (nI f)), some (.int (nI 0)), none]) rfl ?_
  refine v_iconst (v := nI 0) dX1_patentsOf_2 (by decide) ?_
  refine v_istore_n dX1_patentsOf_3 rfl (by decide) ?_
  refine v_ls (ls2 := [some (.ref q), some (.int (nI f)), some (.int (nI 0)), some (.int (nI 0))]) rfl ?_
  refine loopV (fun i4 => [some (.ref q), some (.int (nI f)), some (.int (nI (cnt (fun z => decide (hold C z ∧ C 8 z = f)) i4))), some (.int (nI i4))]) (fun i4 => True) (N := C 0 1) 0 (by omega) rfl trivial (fun i4 hi4 hp4 ih4 => ?_)
  refine v_iload_n dX1_patentsOf_4 rfl ?_
  refine v_aload_n dX1_patentsOf_5 rfl ?_
  refine fX1_21 (v := .ref (q + 8)) rfl dX1_patentsOf_6 (ck0 hc) rfl ?_
  refine fX1_79 (v := .int (nI (C 0 1))) rfl dX1_patentsOf_9 (ck8 hc) rfl ?_
  have b1 := hB 0 1
  refine n_icmp_ge (tgt := 45) (x := i4) (y := C 0 1) dX1_patentsOf_12 (by decide) (by omega) (by omega) (fun c2 => ?_) (fun c2 => ?_)
  · refine v_iload_n dX1_patentsOf_45 rfl ?_
    refine v_iret dX1_patentsOf_46 rfl ?_ (Nat.le_refl _) (Nat.le_refl _)
    have e : i4 = C 0 1 := by omega
    subst e
    exact ⟨rfl, rfl, rfl⟩
  · refine v_aload_n dX1_patentsOf_15 rfl ?_
    refine v_iload_n dX1_patentsOf_16 rfl ?_
    refine v_callV (st := []) dX1_patentsOf_17 (t_X1_holds (j := i4) hc hB (by omega)) wX1_72 (ck0 hc) rfl rfl ⟨Nat.le_of_ble_eq_true rfl, Nat.le_of_ble_eq_true rfl⟩ (Nat.le_of_ble_eq_true rfl) ⟨Nat.le_refl _, Nat.le_refl _⟩ (fun r n2 h2 hq => ?_)
    obtain ⟨rfl, rfl, rfl⟩ := hq
    refine v_st (st2 := [.int (nI (bI (hold C i4)))]) rfl ?_
    refine n_ifb_eq (tgt := 39) (p := hold C i4) dX1_patentsOf_20 (by decide) (fun c3 => ?_) (fun c3 => ?_)
    · refine n_iinc (k := 1) (x := i4) dX1_patentsOf_39 (by decide) rfl rfl (by decide) ?_
      refine v_ls (ls2 := [some (.ref q), some (.int (nI f)), some (.int (nI (cnt (fun z => decide (hold C z ∧ C 8 z = f)) i4))), some (.int (nI (i4 + 1)))]) rfl ?_
      refine v_goto (tgt := 4) dX1_patentsOf_42 (by decide) ?_
      refine v_ls (ls2 := [some (.ref q), some (.int (nI f)), some (.int (nI (cnt (fun z => decide (hold C z ∧ C 8 z = f)) ((i4 + 1))))), some (.int (nI ((i4 + 1))))]) ?_ (ih4 (by omega) trivial)
      rw [cnt_f (by simp only [decide_eq_true_eq, decide_eq_false_iff_not]; omega)]
    · refine v_aload_n dX1_patentsOf_23 rfl ?_
      refine fX1_21 (v := .ref (q + 8)) rfl dX1_patentsOf_24 (ck0 hc) rfl ?_
      refine fX1_76 (v := .ref (q + 10)) rfl dX1_patentsOf_27 (ck8 hc) rfl ?_
      refine v_iload_n dX1_patentsOf_30 rfl ?_
      refine n_ialdv (f := C 8) (j := i4) (y := C 8 i4) dX1_patentsOf_31 (ck10 hc) (by omega) (by decide) rfl ?_
      have b4 := hB 8 i4
      refine v_iload_n dX1_patentsOf_32 rfl ?_
      refine n_icmp_ne (tgt := 39) (x := C 8 i4) (y := f) dX1_patentsOf_33 (by decide) (by omega) (by omega) (fun c5 => ?_) (fun c5 => ?_)
      · refine n_iinc (k := 1) (x := i4) dX1_patentsOf_39 (by decide) rfl rfl (by decide) ?_
        refine v_ls (ls2 := [some (.ref q), some (.int (nI f)), some (.int (nI (cnt (fun z => decide (hold C z ∧ C 8 z = f)) i4))), some (.int (nI (i4 + 1)))]) rfl ?_
        refine v_goto (tgt := 4) dX1_patentsOf_42 (by decide) ?_
        refine v_ls (ls2 := [some (.ref q), some (.int (nI f)), some (.int (nI (cnt (fun z => decide (hold C z ∧ C 8 z = f)) ((i4 + 1))))), some (.int (nI ((i4 + 1))))]) ?_ (ih4 (by omega) trivial)
        rw [cnt_f (by simp only [decide_eq_true_eq, decide_eq_false_iff_not]; omega)]
      · refine n_iinc (k := 1) (x := cnt (fun z => decide (hold C z ∧ C 8 z = f)) i4) dX1_patentsOf_36 (by decide) rfl rfl (by decide) ?_
        refine v_ls (ls2 := [some (.ref q), some (.int (nI f)), some (.int (nI (cnt (fun z => decide (hold C z ∧ C 8 z = f)) i4 + 1))), some (.int (nI i4))]) rfl ?_
        refine n_iinc (k := 1) (x := i4) dX1_patentsOf_39 (by decide) rfl rfl (by decide) ?_
        refine v_ls (ls2 := [some (.ref q), some (.int (nI f)), some (.int (nI (cnt (fun z => decide (hold C z ∧ C 8 z = f)) i4 + 1))), some (.int (nI (i4 + 1)))]) rfl ?_
        refine v_goto (tgt := 4) dX1_patentsOf_42 (by decide) ?_
        refine v_ls (ls2 := [some (.ref q), some (.int (nI f)), some (.int (nI (cnt (fun z => decide (hold C z ∧ C 8 z = f)) ((i4 + 1))))), some (.int (nI ((i4 + 1))))]) ?_ (ih4 (by omega) trivial)
        rw [cnt_t (by simp only [decide_eq_true_eq, decide_eq_false_iff_not]; omega)]
