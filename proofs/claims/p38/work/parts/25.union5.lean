set_option maxRecDepth 20000 in
set_option maxHeartbeats 4000000 in
theorem t_X6_areCoinsAccountedFor {l : Launch} {G : vG} {h : AH} {n : Nat}  {u sv b : Nat} {rs dt : Int32} {C : Ct} (hj : h u = some (jc u sv rs dt)) (hc : ct G h (u + 1) C) (hm : sm (C 2) 6 ≤ 6 * 99) (hm2 : C 0 4 ≤ 60) (hK : bdk b C) (hb2 : b + 5000 ≤ 2 ^ 28) (hi : iv C) : Mt l G mX6_areCoinsAccountedFor [.ref u] (n) h 0 0 (fun r n2 h2 => r = some (.int (nI (bI (C 0 4 + sm (C 16) 4 = sm (C 2) 6 + C 0 5 + C 0 6)))) ∧ n2 = n ∧ h2 = h) := by
  refine Mt.of (by decide) (Nat.le_of_ble_eq_true rfl) rfl ?_
  refine v_ls (ls2 := [some (.ref u), none, none]) rfl ?_
  have hB := hK.bd (by omega)
  obtain ⟨hF, hJ, hn, hs1, hc99, hs4, hs7, hs8, hs15, hbk9, hs9⟩ := hi
  have b00 := hB 0 0
  have b01 := hB 0 1
  have b02 := hB 0 2
  have m52 := sm6 hB 5
  have m62 := sm6 hB 6
  have m22 := sm6 hB 2
  have m164 := sm4 hB 16
  have b05 := hB 0 5
  have b06 := hB 0 6
  have b04 := hB 0 4
  refine v_aload_n dX6_areCoinsAccountedFor_0 rfl ?_
  refine fX6_10 (v := .ref (u + 1)) rfl dX6_areCoinsAccountedFor_1 hj rfl ?_
  refine fX6_259 (v := .int (nI (C 0 4))) rfl dX6_areCoinsAccountedFor_4 (ck0 hc) rfl ?_
  have b21 := hK 0 4
  refine v_aload_n dX6_areCoinsAccountedFor_7 rfl ?_
  refine fX6_10 (v := .ref (u + 1)) rfl dX6_areCoinsAccountedFor_8 hj rfl ?_
  refine fX6_167 (v := .ref (u + 1 + 19)) rfl dX6_areCoinsAccountedFor_11 (ck0 hc) rfl ?_
  refine v_callS (st := [.int (nI (C 0 4))]) dX6_areCoinsAccountedFor_14 (t_X6_sum4 (g := C 16) (ck19 hc) (hB 16)) wX6_210 rfl ⟨Nat.le_of_ble_eq_true rfl, Nat.le_of_ble_eq_true rfl⟩ (Nat.le_of_ble_eq_true rfl) ⟨Nat.le_refl _, Nat.le_refl _⟩ (fun r n2 h2 hq => ?_)
  obtain ⟨rfl, rfl, rfl⟩ := hq
  refine v_st (st2 := [.int (nI (sm (C 16) 4)), .int (nI (C 0 4))]) rfl ?_
  refine n_iadd (x := C 0 4) (y := sm (C 16) 4) dX6_areCoinsAccountedFor_17 ?_
  refine v_istore_n dX6_areCoinsAccountedFor_18 rfl (by decide) ?_
  refine v_ls (ls2 := [some (.ref u), some (.int (nI (C 0 4 + sm (C 16) 4))), none]) rfl ?_
  refine v_aload_n dX6_areCoinsAccountedFor_19 rfl ?_
  refine fX6_10 (v := .ref (u + 1)) rfl dX6_areCoinsAccountedFor_20 hj rfl ?_
  refine fX6_81 (v := .ref (u + 1 + 1)) rfl dX6_areCoinsAccountedFor_23 (ck0 hc) rfl ?_
  refine fX6_95 (v := .ref (u + 1 + 3)) rfl dX6_areCoinsAccountedFor_26 (ck1 hc) rfl ?_
  refine v_callS (st := []) dX6_areCoinsAccountedFor_29 (t_X6_sum6 (g := C 2) (ck3 hc) (hB 2)) wX6_210 rfl ⟨Nat.le_of_ble_eq_true rfl, Nat.le_of_ble_eq_true rfl⟩ (Nat.le_of_ble_eq_true rfl) ⟨Nat.le_refl _, Nat.le_refl _⟩ (fun r n2 h2 hq => ?_)
  obtain ⟨rfl, rfl, rfl⟩ := hq
  refine v_st (st2 := [.int (nI (sm (C 2) 6))]) rfl ?_
  refine v_aload_n dX6_areCoinsAccountedFor_32 rfl ?_
  refine fX6_10 (v := .ref (u + 1)) rfl dX6_areCoinsAccountedFor_33 hj rfl ?_
  refine fX6_262 (v := .int (nI (C 0 5))) rfl dX6_areCoinsAccountedFor_36 (ck0 hc) rfl ?_
  have b22 := hK 0 5
  refine n_iadd (x := sm (C 2) 6) (y := C 0 5) dX6_areCoinsAccountedFor_39 ?_
  refine v_aload_n dX6_areCoinsAccountedFor_40 rfl ?_
  refine fX6_10 (v := .ref (u + 1)) rfl dX6_areCoinsAccountedFor_41 hj rfl ?_
  refine fX6_265 (v := .int (nI (C 0 6))) rfl dX6_areCoinsAccountedFor_44 (ck0 hc) rfl ?_
  have b23 := hK 0 6
  refine n_iadd (x := sm (C 2) 6 + C 0 5) (y := C 0 6) dX6_areCoinsAccountedFor_47 ?_
  refine v_istore_n dX6_areCoinsAccountedFor_48 rfl (by decide) ?_
  refine v_ls (ls2 := [some (.ref u), some (.int (nI (C 0 4 + sm (C 16) 4))), some (.int (nI ((sm (C 2) 6 + C 0 5) + C 0 6)))]) rfl ?_
  refine v_iload_n dX6_areCoinsAccountedFor_49 rfl ?_
  refine v_iload_n dX6_areCoinsAccountedFor_50 rfl ?_
  refine n_icmp_ne (tgt := 58) (x := C 0 4 + sm (C 16) 4) (y := (sm (C 2) 6 + C 0 5) + C 0 6) dX6_areCoinsAccountedFor_51 (by decide) (by omega) (by omega) (fun c24 => ?_) (fun c24 => ?_)
  · refine v_iconst (v := nI 0) dX6_areCoinsAccountedFor_58 (by decide) ?_
    refine v_zret (ty := .boolean) dX6_areCoinsAccountedFor_59 rfl (by decide) ?_ (Nat.le_of_ble_eq_true rfl) (Nat.le_of_ble_eq_true rfl)
    exact ⟨by rw [bI_f (by omega)], rfl, rfl⟩
  · refine v_iconst (v := nI 1) dX6_areCoinsAccountedFor_54 (by decide) ?_
    refine v_goto (tgt := 59) dX6_areCoinsAccountedFor_55 (by decide) ?_
    refine v_zret (ty := .boolean) dX6_areCoinsAccountedFor_59 rfl (by decide) ?_ (Nat.le_of_ble_eq_true rfl) (Nat.le_of_ble_eq_true rfl)
    exact ⟨by rw [bI_t (by omega)], rfl, rfl⟩
set_option maxRecDepth 20000 in
set_option maxHeartbeats 4000000 in
theorem t_X6_areTellingsAccountedFor {l : Launch} {G : vG} {h : AH} {n : Nat}  {u sv b : Nat} {rs dt : Int32} {C : Ct} (hj : h u = some (jc u sv rs dt)) (hc : ct G h (u + 1) C) (hK : bdk b C) (hb2 : b + 5000 ≤ 2 ^ 28) (hi : iv C) (hte : sm (C 5) 6 = sm (fun t => sm (fun j => C 10 (j * 4 + t)) (C 0 1)) 4) : Mt l G mX6_areTellingsAccountedFor [.ref u] (n) h 0 0 (fun r n2 h2 => r = some (.int (nI 1)) ∧ n2 = n ∧ h2 = h) := by
  refine Mt.of (by decide) (Nat.le_of_ble_eq_true rfl) rfl ?_
  refine v_ls (ls2 := [some (.ref u), none, none]) rfl ?_
  have hB := hK.bd (by omega)
  obtain ⟨hF, hJ, hn, hs1, hc99, hs4, hs7, hs8, hs15, hbk9, hs9⟩ := hi
  have b00 := hB 0 0
  have b01 := hB 0 1
  have b02 := hB 0 2
  have m52 := sm6 hB 5
  have m62 := sm6 hB 6
  have m22 := sm6 hB 2
  have m164 := sm4 hB 16
  have b05 := hB 0 5
  have b06 := hB 0 6
  have b04 := hB 0 4
  refine v_iconst (v := nI 0) dX6_areTellingsAccountedFor_0 (by decide) ?_
  refine v_istore_n dX6_areTellingsAccountedFor_1 rfl (by decide) ?_
  refine v_ls (ls2 := [some (.ref u), some (.int (nI 0)), none]) rfl ?_
  refine v_iconst (v := nI 0) dX6_areTellingsAccountedFor_2 (by decide) ?_
  refine v_istore_n dX6_areTellingsAccountedFor_3 rfl (by decide) ?_
  refine v_ls (ls2 := [some (.ref u), some (.int (nI 0)), some (.int (nI 0))]) rfl ?_
  refine loopV (fun i4 => [some (.ref u), some (.int (nI (sm (fun t => sm (fun j => C 10 (j * 4 + t)) (C 0 1)) i4))), some (.int (nI i4))]) (fun i4 => True) (N := 4) 0 (by omega) rfl trivial (fun i4 hi4 hp4 ih4 => ?_)
  refine v_iload_n dX6_areTellingsAccountedFor_4 rfl ?_
  refine v_iconst (v := nI 4) dX6_areTellingsAccountedFor_5 (by decide) ?_
  refine n_icmp_ge (tgt := 29) (x := i4) (y := 4) dX6_areTellingsAccountedFor_6 (by decide) (by omega) (by omega) (fun c21 => ?_) (fun c21 => ?_)
  · have e4 : i4 = 4 := by omega
    subst e4
    refine v_aload_n dX6_areTellingsAccountedFor_29 rfl ?_
    refine fX6_10 (v := .ref (u + 1)) rfl dX6_areTellingsAccountedFor_30 hj rfl ?_
    refine fX6_81 (v := .ref (u + 1 + 1)) rfl dX6_areTellingsAccountedFor_33 (ck0 hc) rfl ?_
    refine fX6_120 (v := .ref (u + 1 + 6)) rfl dX6_areTellingsAccountedFor_36 (ck1 hc) rfl ?_
    refine v_callS (st := []) dX6_areTellingsAccountedFor_39 (t_X6_sum6 (g := C 5) (ck6 hc) (hB 5)) wX6_210 rfl ⟨Nat.le_of_ble_eq_true rfl, Nat.le_of_ble_eq_true rfl⟩ (Nat.le_of_ble_eq_true rfl) ⟨Nat.le_refl _, Nat.le_refl _⟩ (fun r n2 h2 hq => ?_)
    obtain ⟨rfl, rfl, rfl⟩ := hq
    refine v_st (st2 := [.int (nI (sm (C 5) 6))]) rfl ?_
    refine v_iload_n dX6_areTellingsAccountedFor_42 rfl ?_
    refine n_icmp_ne (tgt := 50) (x := sm (C 5) 6) (y := sm (fun t => sm (fun j => C 10 (j * 4 + t)) (C 0 1)) 4) dX6_areTellingsAccountedFor_43 (by decide) (by omega) (by omega) (fun c22 => ?_) (fun c22 => ?_)
    · refine v_iconst (v := nI 0) dX6_areTellingsAccountedFor_50 (by decide) ?_
      refine v_zret (ty := .boolean) dX6_areTellingsAccountedFor_51 rfl (by decide) ?_ (Nat.le_of_ble_eq_true rfl) (Nat.le_of_ble_eq_true rfl)
      exact ⟨by omega, rfl, rfl⟩
    · refine v_iconst (v := nI 1) dX6_areTellingsAccountedFor_46 (by decide) ?_
      refine v_goto (tgt := 51) dX6_areTellingsAccountedFor_47 (by decide) ?_
      refine v_zret (ty := .boolean) dX6_areTellingsAccountedFor_51 rfl (by decide) ?_ (Nat.le_of_ble_eq_true rfl) (Nat.le_of_ble_eq_true rfl)
      exact ⟨rfl, rfl, rfl⟩
  · refine v_iload_n dX6_areTellingsAccountedFor_9 rfl ?_
    refine v_aload_n dX6_areTellingsAccountedFor_10 rfl ?_
    refine fX6_10 (v := .ref (u + 1)) rfl dX6_areTellingsAccountedFor_11 hj rfl ?_
    refine fX6_126 (v := .ref (u + 1 + 8)) rfl dX6_areTellingsAccountedFor_14 (ck0 hc) rfl ?_
    refine v_iload_n dX6_areTellingsAccountedFor_17 rfl ?_
    refine v_callV (st := [.int (nI (sm (fun t => sm (fun j => C 10 (j * 4 + t)) (C 0 1)) i4))]) dX6_areTellingsAccountedFor_18 (t_X4_tellingsAt (t := i4) hc hB (by omega) (by omega)) wX6_164 (ck8 hc) rfl rfl ⟨Nat.le_of_ble_eq_true rfl, Nat.le_of_ble_eq_true rfl⟩ (Nat.le_of_ble_eq_true rfl) ⟨Nat.le_refl _, Nat.le_refl _⟩ (fun r n2 h2 hq => ?_)
    obtain ⟨rfl, rfl, rfl⟩ := hq
    refine v_st (st2 := [.int (nI (sm (fun j => C 10 (j * 4 + i4)) (C 0 1))), .int (nI (sm (fun t => sm (fun j => C 10 (j * 4 + t)) (C 0 1)) i4))]) rfl ?_
    refine n_iadd (x := sm (fun t => sm (fun j => C 10 (j * 4 + t)) (C 0 1)) i4) (y := sm (fun j => C 10 (j * 4 + i4)) (C 0 1)) dX6_areTellingsAccountedFor_21 ?_
    refine v_istore_n dX6_areTellingsAccountedFor_22 rfl (by decide) ?_
    refine v_ls (ls2 := [some (.ref u), some (.int (nI ((sm (fun t => sm (fun j => C 10 (j * 4 + t)) (C 0 1)) i4) + (sm (fun j => C 10 (j * 4 + i4)) (C 0 1))))), some (.int (nI i4))]) rfl ?_
    refine n_iinc (k := 1) (x := i4) dX6_areTellingsAccountedFor_23 (by decide) rfl rfl (by decide) ?_
    refine v_ls (ls2 := [some (.ref u), some (.int (nI ((sm (fun t => sm (fun j => C 10 (j * 4 + t)) (C 0 1)) i4) + (sm (fun j => C 10 (j * 4 + i4)) (C 0 1))))), some (.int (nI (i4 + 1)))]) rfl ?_
    refine v_goto (tgt := 4) dX6_areTellingsAccountedFor_26 (by decide) ?_
    exact ih4 (by omega) trivial
set_option maxRecDepth 20000 in
set_option maxHeartbeats 4000000 in
theorem t_X6_areBestsTheSame {l : Launch} {G : vG} {h : AH} {n : Nat}  {u sv b : Nat} {rs dt : Int32} {C : Ct} (hj : h u = some (jc u sv rs dt)) (hc : ct G h (u + 1) C) (hK : bdk b C) (hb2 : b + 5000 ≤ 2 ^ 28) (hi : iv C) (w1 : ∀ j, j < C 0 1 → 1 ≤ C 7 j) : Mt l G mX6_areBestsTheSame [.ref u] (n) h 0 0 (fun r n2 h2 => r = some (.int (nI 1)) ∧ n2 = n ∧ h2 = h) := by
  refine Mt.of (by decide) (Nat.le_of_ble_eq_true rfl) rfl ?_
  refine v_ls (ls2 := [some (.ref u), none, none]) rfl ?_
  have hB := hK.bd (by omega)
  obtain ⟨hF, hJ, hn, hs1, hc99, hs4, hs7, hs8, hs15, hbk9, hs9⟩ := hi
  have b00 := hB 0 0
  have b01 := hB 0 1
  have b02 := hB 0 2
  have m52 := sm6 hB 5
  have m62 := sm6 hB 6
  have m22 := sm6 hB 2
  have m164 := sm4 hB 16
  have b05 := hB 0 5
  have b06 := hB 0 6
  have b04 := hB 0 4
  refine v_iconst (v := nI 0) dX6_areBestsTheSame_0 (by decide) ?_
  refine v_istore_n dX6_areBestsTheSame_1 rfl (by decide) ?_
  refine v_ls (ls2 := [some (.ref u), some (.int (nI 0)), none]) rfl ?_
  refine loopV (fun i2 => [some (.ref u), some (.int (nI i2)), none]) (fun i2 => True) (N := C 0 0) 0 (by omega) rfl trivial (fun i2 hi2 hp2 ih2 => ?_)
  refine v_iload_n dX6_areBestsTheSame_2 rfl ?_
  refine v_aload_n dX6_areBestsTheSame_3 rfl ?_
  refine fX6_10 (v := .ref (u + 1)) rfl dX6_areBestsTheSame_4 hj rfl ?_
  refine fX6_81 (v := .ref (u + 1 + 1)) rfl dX6_areBestsTheSame_7 (ck0 hc) rfl ?_
  refine fX6_257 (v := .int (nI (C 0 0))) rfl dX6_areBestsTheSame_10 (ck1 hc) rfl ?_
  have b21 := hK 0 0
  refine n_icmp_ge (tgt := 58) (x := i2) (y := C 0 0) dX6_areBestsTheSame_13 (by decide) (by omega) (by omega) (fun c22 => ?_) (fun c22 => ?_)
  · refine v_iconst (v := nI 1) dX6_areBestsTheSame_58 (by decide) ?_
    refine v_zret (ty := .boolean) dX6_areBestsTheSame_59 rfl (by decide) ?_ (Nat.le_of_ble_eq_true rfl) (Nat.le_of_ble_eq_true rfl)
    exact ⟨rfl, rfl, rfl⟩
  · refine v_iconst (v := nI 0) dX6_areBestsTheSame_16 (by decide) ?_
    refine v_istore_n dX6_areBestsTheSame_17 rfl (by decide) ?_
    refine v_ls (ls2 := [some (.ref u), some (.int (nI i2)), some (.int (nI 0))]) rfl ?_
    refine loopV (fun i18 => [some (.ref u), some (.int (nI i2)), some (.int (nI i18))]) (fun i18 => True) (N := 4) 0 (by omega) rfl trivial (fun i18 hi18 hp18 ih18 => ?_)
    refine v_iload_n dX6_areBestsTheSame_18 rfl ?_
    refine v_iconst (v := nI 4) dX6_areBestsTheSame_19 (by decide) ?_
    refine n_icmp_ge (tgt := 52) (x := i18) (y := 4) dX6_areBestsTheSame_20 (by decide) (by omega) (by omega) (fun c23 => ?_) (fun c23 => ?_)
    · refine v_forget 2 ?_
      refine n_iinc (k := 1) (x := i2) dX6_areBestsTheSame_52 (by decide) rfl rfl (by decide) ?_
      refine v_ls (ls2 := [some (.ref u), some (.int (nI (i2 + 1))), none]) rfl ?_
      refine v_goto (tgt := 2) dX6_areBestsTheSame_55 (by decide) ?_
      exact ih2 (by omega) trivial
    · refine v_aload_n dX6_areBestsTheSame_23 rfl ?_
      refine fX6_10 (v := .ref (u + 1)) rfl dX6_areBestsTheSame_24 hj rfl ?_
      refine v_iload_n dX6_areBestsTheSame_27 rfl ?_
      refine v_iload_n dX6_areBestsTheSame_28 rfl ?_
      refine v_callV (st := []) dX6_areBestsTheSame_29 (t_X1_bestJokeByJoke (f := i2) (t := i18) hc hB (by omega) (by omega) (by omega)) wX6_195 (ck0 hc) rfl rfl ⟨Nat.le_of_ble_eq_true rfl, Nat.le_of_ble_eq_true rfl⟩ (Nat.le_of_ble_eq_true rfl) ⟨Nat.le_refl _, Nat.le_refl _⟩ (fun r n2 h2 hq => ?_)
      obtain ⟨rfl, rfl, rfl⟩ := hq
      refine v_st (st2 := [.int (oN (-1015) (bJ C i2 i18 (C 0 1)).1)]) rfl ?_
      refine v_aload_n dX6_areBestsTheSame_32 rfl ?_
      refine fX6_10 (v := .ref (u + 1)) rfl dX6_areBestsTheSame_33 hj rfl ?_
      refine v_iload_n dX6_areBestsTheSame_36 rfl ?_
      refine v_iload_n dX6_areBestsTheSame_37 rfl ?_
      refine v_callV (st := [.int (oN (-1015) (bJ C i2 i18 (C 0 1)).1)]) dX6_areBestsTheSame_38 (t_X1_bestByWit (f := i2) (t := i18) hc hB (by omega) (by omega) (by omega)) wX6_198 (ck0 hc) rfl rfl ⟨Nat.le_of_ble_eq_true rfl, Nat.le_of_ble_eq_true rfl⟩ (Nat.le_of_ble_eq_true rfl) ⟨Nat.le_refl _, Nat.le_refl _⟩ (fun r n2 h2 hq => ?_)
      obtain ⟨rfl, rfl, rfl⟩ := hq
      refine v_st (st2 := [.int (oN (-1015) (bwO C i2 i18 9 (none, 0)).1), .int (oN (-1015) (bJ C i2 i18 (C 0 1)).1)]) rfl ?_
      refine v_icmp_eq (tgt := 46) dX6_areBestsTheSame_41 (by decide) (fun _ => ?_) (fun z => absurd (by rw [best_eq w1 hs7]) z)
      refine n_iinc (k := 1) (x := i18) dX6_areBestsTheSame_46 (by decide) rfl rfl (by decide) ?_
      refine v_ls (ls2 := [some (.ref u), some (.int (nI i2)), some (.int (nI (i18 + 1)))]) rfl ?_
      refine v_goto (tgt := 18) dX6_areBestsTheSame_49 (by decide) ?_
      exact ih18 (by omega) trivial
set_option maxRecDepth 20000 in
set_option maxHeartbeats 4000000 in
theorem t_X6_isBalanced {l : Launch} {G : vG} {h : AH} {n : Nat}  {u sv b : Nat} {rs dt : Int32} {C : Ct} (hj : h u = some (jc u sv rs dt)) (hc : ct G h (u + 1) C) (hK : bdk b C) (hb2 : b + 5000 ≤ 2 ^ 28) (hI : Iv C) : Mt l G mX6_isBalanced [.ref u] (n) h 0 0 (fun r n2 h2 => r = some (.int (nI (bI (C 0 4 + sm (C 16) 4 = sm (C 2) 6 + C 0 5 + C 0 6)))) ∧ n2 = n ∧ h2 = h) := by
  refine Mt.of (by decide) (Nat.le_of_ble_eq_true rfl) rfl ?_
  refine v_ls (ls2 := [some (.ref u), none]) rfl ?_
  have hB := hK.bd (by omega)
  have hi := hI.1
  have w1 := hI.2.1
  have hte : sm (C 5) 6 = sm (fun t => sm (fun j => C 10 (j * 4 + t)) (C 0 1)) 4 := by rw [hI.2.2.1]; exact sm_cong (fun t ht => hI.2.2.2.1 t ht)
  have hm2 : C 0 4 ≤ 60 := by have e1 := hI.2.2.2.2.2.2.1; have e2 := hI.1.1; omega
  have hm : sm (C 2) 6 ≤ 6 * 99 := sm_le (fun k _ => hI.1.2.2.2.2.1 k)
  obtain ⟨hF, hJ, hn, hs1, hc99, hs4, hs7, hs8, hs15, hbk9, hs9⟩ := id hi
  refine v_aload_n dX6_isBalanced_0 rfl ?_
  refine v_callV (st := []) dX6_isBalanced_1 (t_X6_areCoinsAccountedFor hj hc hm hm2 hK hb2 hi) wX6_275 hj rfl rfl ⟨Nat.le_of_ble_eq_true rfl, Nat.le_of_ble_eq_true rfl⟩ (Nat.le_of_ble_eq_true rfl) ⟨Nat.le_refl _, Nat.le_refl _⟩ (fun r n2 h2 hq => ?_)
  obtain ⟨rfl, rfl, rfl⟩ := hq
  refine v_st (st2 := [.int (nI (bI (C 0 4 + sm (C 16) 4 = sm (C 2) 6 + C 0 5 + C 0 6)))]) rfl ?_
  refine n_ifb_eq (tgt := 42) (p := C 0 4 + sm (C 16) 4 = sm (C 2) 6 + C 0 5 + C 0 6) dX6_isBalanced_4 (by decide) (fun c21 => ?_) (fun c21 => ?_)
  · refine v_iconst (v := nI 0) dX6_isBalanced_42 (by decide) ?_
    refine v_istore_n dX6_isBalanced_43 rfl (by decide) ?_
    refine v_ls (ls2 := [some (.ref u), some (.int (nI 0))]) rfl ?_
    refine v_iload_n dX6_isBalanced_44 rfl ?_
    refine n_if_eq (tgt := 52) (x := 0) dX6_isBalanced_45 (by decide) (by decide) (fun _ => ?_) (fun c => absurd c (by decide))
    refine v_iconst (v := nI 0) dX6_isBalanced_52 (by decide) ?_
    refine v_iret dX6_isBalanced_53 rfl ?_ (Nat.le_of_ble_eq_true rfl) (Nat.le_of_ble_eq_true rfl)
    exact ⟨by rw [bI_f (by omega)], rfl, rfl⟩
  · refine v_aload_n dX6_isBalanced_7 rfl ?_
    refine v_callV (st := []) dX6_isBalanced_8 (t_X6_areTellingsAccountedFor hj hc hK hb2 hi hte) wX6_278 hj rfl rfl ⟨Nat.le_of_ble_eq_true rfl, Nat.le_of_ble_eq_true rfl⟩ (Nat.le_of_ble_eq_true rfl) ⟨Nat.le_refl _, Nat.le_refl _⟩ (fun r n2 h2 hq => ?_)
    obtain ⟨rfl, rfl, rfl⟩ := hq
    refine v_st (st2 := [.int (nI 1)]) rfl ?_
    refine n_if_eq (tgt := 42) (x := 1) dX6_isBalanced_11 (by decide) (by decide) (fun c => absurd c (by decide)) (fun _ => ?_)
    refine v_aload_n dX6_isBalanced_14 rfl ?_
    refine v_callV (st := []) dX6_isBalanced_15 (t_X6_areBestsTheSame hj hc hK hb2 hi w1) wX6_281 hj rfl rfl ⟨Nat.le_of_ble_eq_true rfl, Nat.le_of_ble_eq_true rfl⟩ (Nat.le_of_ble_eq_true rfl) ⟨Nat.le_refl _, Nat.le_refl _⟩ (fun r n2 h2 hq => ?_)
    obtain ⟨rfl, rfl, rfl⟩ := hq
    refine v_st (st2 := [.int (nI 1)]) rfl ?_
    refine n_if_eq (tgt := 42) (x := 1) dX6_isBalanced_18 (by decide) (by decide) (fun c => absurd c (by decide)) (fun _ => ?_)
    refine v_aload_n dX6_isBalanced_21 rfl ?_
    refine fX6_10 (v := .ref (u + 1)) rfl dX6_isBalanced_22 hj rfl ?_
    refine v_callV (st := []) dX6_isBalanced_25 (t_X1_endJokeByJoke hc hB (by omega)) wX6_201 (ck0 hc) rfl rfl ⟨Nat.le_of_ble_eq_true rfl, Nat.le_of_ble_eq_true rfl⟩ (Nat.le_of_ble_eq_true rfl) ⟨Nat.le_refl _, Nat.le_refl _⟩ (fun r n2 h2 hq => ?_)
    obtain ⟨rfl, rfl, rfl⟩ := hq
    refine v_st (st2 := [.int (oN (-1015) (endF C (C 0 1)))]) rfl ?_
    refine v_aload_n dX6_isBalanced_28 rfl ?_
    refine fX6_10 (v := .ref (u + 1)) rfl dX6_isBalanced_29 hj rfl ?_
    refine v_callV (st := [.int (oN (-1015) (endF C (C 0 1)))]) dX6_isBalanced_32 (t_X1_endHourByHour hc hB (by omega)) wX6_204 (ck0 hc) rfl rfl ⟨Nat.le_of_ble_eq_true rfl, Nat.le_of_ble_eq_true rfl⟩ (Nat.le_of_ble_eq_true rfl) ⟨Nat.le_refl _, Nat.le_refl _⟩ (fun r n2 h2 hq => ?_)
    obtain ⟨rfl, rfl, rfl⟩ := hq
    refine v_st (st2 := [.int (oN (-1015) ((fs (fun a => decide (0 < cnt (fun z => decide (C 9 z = C 0 3 + a)) (C 0 1))) 1 48).map (fun a => C 0 3 + a))), .int (oN (-1015) (endF C (C 0 1)))]) rfl ?_
    refine v_icmp_ne (tgt := 42) dX6_isBalanced_35 (by decide) (fun z => absurd (by rw [ends_eq hs9]) z) (fun _ => ?_)
    refine v_iconst (v := nI 1) dX6_isBalanced_38 (by decide) ?_
    refine v_goto (tgt := 43) dX6_isBalanced_39 (by decide) ?_
    refine v_istore_n dX6_isBalanced_43 rfl (by decide) ?_
    refine v_ls (ls2 := [some (.ref u), some (.int (nI 1))]) rfl ?_
    refine v_iload_n dX6_isBalanced_44 rfl ?_
    refine n_if_eq (tgt := 52) (x := 1) dX6_isBalanced_45 (by decide) (by decide) (fun c => absurd c (by decide)) (fun _ => ?_)
    refine v_iconst (v := nI 1) dX6_isBalanced_48 (by decide) ?_
    refine v_goto (tgt := 53) dX6_isBalanced_49 (by decide) ?_
    refine v_iret dX6_isBalanced_53 rfl ?_ (Nat.le_of_ble_eq_true rfl) (Nat.le_of_ble_eq_true rfl)
    exact ⟨by rw [bI_t (by omega)], rfl, rfl⟩
set_option maxRecDepth 20000 in
set_option maxHeartbeats 4000000 in
theorem t_X6_meanWit {l : Launch} {G : vG} {h : AH} {n : Nat}  {u sv b : Nat} {rs dt : Int32} {C : Ct} (hj : h u = some (jc u sv rs dt)) (hc : ct G h (u + 1) C) (hK : bdk b C) (hb2 : b + 5000 ≤ 2 ^ 28) (hi : iv C) : Mt l G mX6_meanWit [.ref u] (n) h 0 0 (fun r n2 h2 => (∃ z, r = some (.double z) ∧ mwz C z) ∧ n2 = n ∧ h2 = h) := by
  refine Mt.of (by decide) (Nat.le_of_ble_eq_true rfl) rfl ?_
  refine v_ls (ls2 := [some (.ref u)]) rfl ?_
  have hB := hK.bd (by omega)
  obtain ⟨hF, hJ, hn, hs1, hc99, hs4, hs7, hs8, hs15, hbk9, hs9⟩ := hi
  have b00 := hB 0 0
  have b01 := hB 0 1
  have b02 := hB 0 2
  have m52 := sm6 hB 5
  have m62 := sm6 hB 6
  have m22 := sm6 hB 2
  have m164 := sm4 hB 16
  have b05 := hB 0 5
  have b06 := hB 0 6
  have b04 := hB 0 4
  refine v_aload_n dX6_meanWit_0 rfl ?_
  refine fX6_10 (v := .ref (u + 1)) rfl dX6_meanWit_1 hj rfl ?_
  refine fX6_126 (v := .ref (u + 1 + 8)) rfl dX6_meanWit_4 (ck0 hc) rfl ?_
  refine fX6_258 (v := .int (nI (C 0 1))) rfl dX6_meanWit_7 (ck8 hc) rfl ?_
  have b21 := hK 0 1
  refine n_if_ne (tgt := 15) (x := C 0 1) dX6_meanWit_10 (by decide) (by omega) (fun c22 => ?_) (fun c22 => ?_)
  · refine v_aload_n dX6_meanWit_15 rfl ?_
    refine fX6_10 (v := .ref (u + 1)) rfl dX6_meanWit_16 hj rfl ?_
    refine fX6_126 (v := .ref (u + 1 + 8)) rfl dX6_meanWit_19 (ck0 hc) rfl ?_
    refine fX6_133 (v := .ref (u + 1 + 9)) rfl dX6_meanWit_22 (ck8 hc) rfl ?_
    refine v_callS (st := []) dX6_meanWit_25 (t_X6_sum12 (g := C 7) (ck9 hc) (hB 7)) wX6_210 rfl ⟨Nat.le_of_ble_eq_true rfl, Nat.le_of_ble_eq_true rfl⟩ (Nat.le_of_ble_eq_true rfl) ⟨Nat.le_refl _, Nat.le_refl _⟩ (fun r n2 h2 hq => ?_)
    obtain ⟨rfl, rfl, rfl⟩ := hq
    refine v_st (st2 := [.int (nI (sm (C 7) 12))]) rfl ?_
    refine v_i2d dX6_meanWit_28 ?_
    refine v_aload_n dX6_meanWit_29 rfl ?_
    refine fX6_10 (v := .ref (u + 1)) rfl dX6_meanWit_30 hj rfl ?_
    refine fX6_126 (v := .ref (u + 1 + 8)) rfl dX6_meanWit_33 (ck0 hc) rfl ?_
    refine fX6_258 (v := .int (nI (C 0 1))) rfl dX6_meanWit_36 (ck8 hc) rfl ?_
    refine v_i2d dX6_meanWit_39 ?_
    refine v_ddiv dX6_meanWit_40 (fun r23 alr23 => ?_)
    refine v_dret dX6_meanWit_41 rfl ?_ (Nat.le_of_ble_eq_true rfl) (Nat.le_of_ble_eq_true rfl)
    exact ⟨⟨_, rfl, by unfold mwz; rw [if_neg (by omega)]; exact alr23⟩, rfl, rfl⟩
  · refine v_dconst0 dX6_meanWit_13 ?_
    refine v_dret dX6_meanWit_14 rfl ?_ (Nat.le_of_ble_eq_true rfl) (Nat.le_of_ble_eq_true rfl)
    exact ⟨⟨_, rfl, by unfold mwz; rw [if_pos c22]⟩, rfl, rfl⟩
set_option maxRecDepth 20000 in
set_option maxHeartbeats 4000000 in
theorem t_X6_slipShare {l : Launch} {G : vG} {h : AH} {n : Nat}  {u sv b : Nat} {rs dt : Int32} {C : Ct} (hj : h u = some (jc u sv rs dt)) (hc : ct G h (u + 1) C) (hK : bdk b C) (hb2 : b + 5000 ≤ 2 ^ 28) (hi : iv C) : Mt l G mX6_slipShare [.ref u] (n) h 0 0 (fun r n2 h2 => (∃ z, r = some (.float z) ∧ ssz C z) ∧ n2 = n ∧ h2 = h) := by
  refine Mt.of (by decide) (Nat.le_of_ble_eq_true rfl) rfl ?_
  refine v_ls (ls2 := [some (.ref u), none]) rfl ?_
  have hB := hK.bd (by omega)
  obtain ⟨hF, hJ, hn, hs1, hc99, hs4, hs7, hs8, hs15, hbk9, hs9⟩ := hi
  have b00 := hB 0 0
  have b01 := hB 0 1
  have b02 := hB 0 2
  have m52 := sm6 hB 5
  have m62 := sm6 hB 6
  have m22 := sm6 hB 2
  have m164 := sm4 hB 16
  have b05 := hB 0 5
  have b06 := hB 0 6
  have b04 := hB 0 4
  refine v_aload_n dX6_slipShare_0 rfl ?_
  refine fX6_10 (v := .ref (u + 1)) rfl dX6_slipShare_1 hj rfl ?_
  refine fX6_81 (v := .ref (u + 1 + 1)) rfl dX6_slipShare_4 (ck0 hc) rfl ?_
  refine fX6_120 (v := .ref (u + 1 + 6)) rfl dX6_slipShare_7 (ck1 hc) rfl ?_
  refine v_callS (st := []) dX6_slipShare_10 (t_X6_sum6 (g := C 5) (ck6 hc) (hB 5)) wX6_210 rfl ⟨Nat.le_of_ble_eq_true rfl, Nat.le_of_ble_eq_true rfl⟩ (Nat.le_of_ble_eq_true rfl) ⟨Nat.le_refl _, Nat.le_refl _⟩ (fun r n2 h2 hq => ?_)
  obtain ⟨rfl, rfl, rfl⟩ := hq
  refine v_st (st2 := [.int (nI (sm (C 5) 6))]) rfl ?_
  refine v_istore_n dX6_slipShare_13 rfl (by decide) ?_
  refine v_ls (ls2 := [some (.ref u), some (.int (nI (sm (C 5) 6)))]) rfl ?_
  refine v_iload_n dX6_slipShare_14 rfl ?_
  refine n_if_ne (tgt := 20) (x := sm (C 5) 6) dX6_slipShare_15 (by decide) (by omega) (fun c21 => ?_) (fun c21 => ?_)
  · refine v_aload_n dX6_slipShare_20 rfl ?_
    refine fX6_10 (v := .ref (u + 1)) rfl dX6_slipShare_21 hj rfl ?_
    refine fX6_81 (v := .ref (u + 1 + 1)) rfl dX6_slipShare_24 (ck0 hc) rfl ?_
    refine fX6_123 (v := .ref (u + 1 + 7)) rfl dX6_slipShare_27 (ck1 hc) rfl ?_
    refine v_callS (st := []) dX6_slipShare_30 (t_X6_sum6 (g := C 6) (ck7 hc) (hB 6)) wX6_210 rfl ⟨Nat.le_of_ble_eq_true rfl, Nat.le_of_ble_eq_true rfl⟩ (Nat.le_of_ble_eq_true rfl) ⟨Nat.le_refl _, Nat.le_refl _⟩ (fun r n2 h2 hq => ?_)
    obtain ⟨rfl, rfl, rfl⟩ := hq
    refine v_st (st2 := [.int (nI (sm (C 6) 6))]) rfl ?_
    refine v_i2f dX6_slipShare_33 ?_
    refine v_iload_n dX6_slipShare_34 rfl ?_
    refine v_i2f dX6_slipShare_35 ?_
    refine v_fdiv dX6_slipShare_36 (fun r22 alr22 => ?_)
    refine v_fret dX6_slipShare_37 rfl ?_ (Nat.le_of_ble_eq_true rfl) (Nat.le_of_ble_eq_true rfl)
    exact ⟨⟨_, rfl, by unfold ssz; rw [if_neg (by omega)]; exact alr22⟩, rfl, rfl⟩
  · refine v_fconst0 dX6_slipShare_18 ?_
    refine v_fret dX6_slipShare_19 rfl ?_ (Nat.le_of_ble_eq_true rfl) (Nat.le_of_ble_eq_true rfl)
    exact ⟨⟨_, rfl, by unfold ssz; rw [if_pos c21]⟩, rfl, rfl⟩
