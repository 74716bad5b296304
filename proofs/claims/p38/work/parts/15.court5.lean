theorem bdk_rmF {b c : Nat} {C : Ct} (h : bdk b C) (hc : b + 100 ≤ c) : bdk c (rmF C) := by
  have h1 := h 0 2
  exact bdk_cu (bdk_shC h) (by omega) (by omega)
theorem bdk_prf {b c f j t : Nat} {C : Ct} (h : bdk b C) (hc : b + 1000 ≤ c) (hl : lau C f j t ≤ 100) : bdk c (prf C f j t) := by
  have h1 := h 5 f
  have h2 := h 6 f
  have h3 := h 4 f
  have h4 := h 16 t
  have h5 := h 3 f
  have a0 : bdk (b + 100) (addT C j t) := bdk_addT h (Nat.le_refl _)
  have a1 : bdk (b + 200) (cu (addT C j t) 5 f (C 5 f + 1)) := bdk_cu a0 (by omega) (by omega)
  have a2 : bdk (b + 300) (cu (cu (addT C j t) 5 f (C 5 f + 1)) 6 f (C 6 f + 1)) := bdk_cu a1 (by omega) (by omega)
  unfold prf
  split
  · split
    · exact bdk_payU a2 (by omega) (by omega)
    · exact bdk_cu a2 (by omega) (by omega)
  · have a3 : bdk (b + 300) (cu (cu (addT C j t) 5 f (C 5 f + 1)) 16 t (C 16 t + lau C f j t)) := bdk_cu a1 (by omega) (by omega)
    have a4 : bdk (b + 400) (gain (cu (cu (addT C j t) 5 f (C 5 f + 1)) 16 t (C 16 t + lau C f j t)) f (lau C f j t)) := bdk_gain a3 (Nat.le_refl _) hl
    exact bdk_cu a4 (by omega) (by omega)
theorem bdk_payF {b c f w : Nat} {C : Ct} (h : bdk b C) (hc : b + 300 ≤ c) : bdk c (payF C f w) := by
  have h1 := h 2 f
  have a1 : bdk (b + 100) (cu C 2 f (C 2 f - pay C f 2)) := bdk_cu h (by omega) (by omega)
  exact bdk_gain a1 (by omega) (Nat.le_trans (Nat.min_le_left _ _) (by omega))
set_option maxRecDepth 20000 in
set_option maxHeartbeats 4000000 in
theorem t_X1_perform {l : Launch} {G : vG} {n : Nat} {h : AH} {f j t : Nat} {q b : Nat} {C : Ct} (hc : ct G h q C) (hK : bdk b C) (hb2 : b + 2000 ≤ 2 ^ 28) (hf : f < 6) (hj : j < 12) (ht : t < 4) (hc99 : ∀ i, C 2 i ≤ 99) (hs7 : C 7 j ≤ 9) (hs1 : C 1 f ≤ 9) : Mt l G mX1_perform [.ref q, .int (nI f), .int (nI j), .int (nI t)] n h 0 0 (fun r n2 h2 => r = some (.int (nI (lau C f j t))) ∧ n2 = n ∧ ct G h2 q (prf C f j t) ∧ off q h h2) := by
  refine Mt.of (by decide) (Nat.le_of_ble_eq_true rfl) rfl ?_
  refine v_ls (ls2 := [some (.ref q), some (.int (nI f)), some (.int (nI j)), some (.int (nI t)), none]) rfl ?_
  have hB := hK.bd (by omega)
  have bl : lau C f j t ≤ 18 := by show C 7 j + C 1 f - _ ≤ 18; omega
  refine v_aload_n dX1_perform_0 rfl ?_
  refine v_iload_n dX1_perform_1 rfl ?_
  refine v_iload_n dX1_perform_2 rfl ?_
  refine v_iload_n dX1_perform_3 rfl ?_
  refine v_callV (st := []) dX1_perform_4 (t_X1_laughs (f := f) (j := j) (t := t) hc hB (by omega) (by omega) (by omega)) wX1_104 (ck0 hc) rfl rfl ⟨Nat.le_of_ble_eq_true rfl, Nat.le_of_ble_eq_true rfl⟩ (Nat.le_of_ble_eq_true rfl) ⟨Nat.le_refl _, Nat.le_refl _⟩ (fun r n2 h2 hq => ?_)
  obtain ⟨rfl, rfl, rfl⟩ := hq
  refine v_st (st2 := [.int (nI (lau C f j t))]) rfl ?_
  refine v_istore dX1_perform_7 rfl (by decide) ?_
  refine v_ls (ls2 := [some (.ref q), some (.int (nI f)), some (.int (nI j)), some (.int (nI t)), some (.int (nI (lau C f j t)))]) rfl ?_
  refine v_aload_n dX1_perform_9 rfl ?_
  refine fX1_21 (v := .ref (q + 8)) rfl dX1_perform_10 (ck0 hc) rfl ?_
  refine v_iload_n dX1_perform_13 rfl ?_
  refine v_iload_n dX1_perform_14 rfl ?_
  refine v_callV (st := []) dX1_perform_15 (t_X4_addTelling (j := j) (t := t) hc hK (by omega) (by omega) (by omega)) wX1_137 (ck8 hc) rfl rfl ⟨Nat.le_of_ble_eq_true rfl, Nat.le_of_ble_eq_true rfl⟩ (Nat.le_of_ble_eq_true rfl) ⟨Nat.le_refl _, Nat.le_refl _⟩ (fun r n2 h2 hq => ?_)
  obtain ⟨rfl, rfl, hc9, ho9⟩ := hq
  refine v_st (st2 := []) rfl ?_
  obtain ⟨C21, hC21⟩ : ∃ C9 : Ct, C9 = addT C j t := ⟨_, rfl⟩
  rw [← hC21] at hc9
  have hc21 := hc9
  have ho21 := off_tr off_rf ho9
  clear hc9 ho9
  have hK21 : bdk (b + 100) C21 := by rw [hC21]; exact bdk_addT hK (by omega)
  have hD21 := hK21.bd (by omega)
  refine v_aload_n dX1_perform_18 rfl ?_
  refine fX1_12 (v := .ref (q + 1)) rfl dX1_perform_19 (ck0 hc21) rfl ?_
  refine fX1_140 (v := .ref (q + 6)) rfl dX1_perform_22 (ck1 hc21) rfl ?_
  refine v_iload_n dX1_perform_25 rfl ?_
  refine v_dup2 dX1_perform_26 rfl rfl ?_
  refine n_ialdv (f := C21 5) (j := f) (y := C21 5 f) dX1_perform_27 (ck6 hc21) (by omega) (by decide) rfl ?_
  have b22 := hK21 5 f
  refine v_iconst (v := nI 1) dX1_perform_28 (by decide) ?_
  refine n_iadd (x := C21 5 f) (y := 1) dX1_perform_29 ?_
  refine n_iast (f := C21 5) (j := f) (x := C21 5 f + 1) dX1_perform_30 (ck6 hc21) (by omega) (by decide) ?_
  refine wr (cp5 (j := f) (x := C21 5 f + 1) hc21) ho21 (by omega) (fun h1 hc1 ho1 => ?_)
  have hc23 := hc1
  have ho23 := ho1
  clear hc1 ho1
  have hK23 : bdk (b + 200) (cu C21 5 f (C21 5 f + 1)) := bdk_cu hK21 (by omega) (by omega)
  have hD23 := hK23.bd (by omega)
  refine v_iload dX1_perform_31 rfl ?_
  refine v_iconst (v := nI 5) dX1_perform_33 (by decide) ?_
  refine n_icmp_lt (tgt := 79) (x := lau C f j t) (y := 5) dX1_perform_34 (by decide) (by omega) (by omega) (fun c24 => ?_) (fun c24 => ?_)
  · refine v_aload_n dX1_perform_79 rfl ?_
    refine fX1_12 (v := .ref (q + 1)) rfl dX1_perform_80 (ck0 (C := cu C21 5 f (C21 5 f + 1)) hc23) rfl ?_
    refine fX1_149 (v := .ref (q + 7)) rfl dX1_perform_83 (ck1 (C := cu C21 5 f (C21 5 f + 1)) hc23) rfl ?_
    refine v_iload_n dX1_perform_86 rfl ?_
    refine v_dup2 dX1_perform_87 rfl rfl ?_
    refine n_ialdv (f := C21 6) (j := f) (y := C21 6 f) dX1_perform_88 (ck7 (C := cu C21 5 f (C21 5 f + 1)) hc23) (by omega) (by decide) rfl ?_
    have b25 := hK21 6 f
    refine v_iconst (v := nI 1) dX1_perform_89 (by decide) ?_
    refine n_iadd (x := C21 6 f) (y := 1) dX1_perform_90 ?_
    refine n_iast (f := C21 6) (j := f) (x := C21 6 f + 1) dX1_perform_91 (ck7 (C := cu C21 5 f (C21 5 f + 1)) hc23) (by omega) (by decide) ?_
    refine wr (cp6 (j := f) (x := C21 6 f + 1) (C := cu C21 5 f (C21 5 f + 1)) hc23) ho23 (by omega) (fun h1 hc1 ho1 => ?_)
    have hc26 := hc1
    have ho26 := ho1
    clear hc1 ho1
    have hK26 : bdk (b + 300) (cu (cu C21 5 f (C21 5 f + 1)) 6 f (C21 6 f + 1)) := bdk_cu hK23 (by omega) (by omega)
    have hD26 := hK26.bd (by omega)
    refine v_aload_n dX1_perform_92 rfl ?_
    refine fX1_12 (v := .ref (q + 1)) rfl dX1_perform_93 (ck0 (C := cu (cu C21 5 f (C21 5 f + 1)) 6 f (C21 6 f + 1)) hc26) rfl ?_
    refine fX1_152 (v := .ref (q + 5)) rfl dX1_perform_96 (ck1 (C := cu (cu C21 5 f (C21 5 f + 1)) 6 f (C21 6 f + 1)) hc26) rfl ?_
    refine v_iload_n dX1_perform_99 rfl ?_
    refine n_ialdv (f := C21 4) (j := f) (y := C21 4 f) dX1_perform_100 (ck5 (C := cu (cu C21 5 f (C21 5 f + 1)) 6 f (C21 6 f + 1)) hc26) (by omega) (by decide) rfl ?_
    have b27 := hK21 4 f
    refine n_if_le (tgt := 120) (x := C21 4 f) dX1_perform_101 (by decide) (by omega) (fun c28 => ?_) (fun c28 => ?_)
    · refine v_aload_n dX1_perform_120 rfl ?_
      refine v_iload_n dX1_perform_121 rfl ?_
      refine v_iconst (v := nI 3) dX1_perform_122 (by decide) ?_
      refine v_callV (st := []) dX1_perform_123 (t_X1_payUnion (f := f) (k := 3) hc26 hK26 (by omega) (by omega) (by omega) (by omega)) wX1_155 (ck0 (C := cu (cu C21 5 f (C21 5 f + 1)) 6 f (C21 6 f + 1)) hc26) rfl rfl ⟨Nat.le_of_ble_eq_true rfl, Nat.le_of_ble_eq_true rfl⟩ (Nat.le_of_ble_eq_true rfl) ⟨Nat.le_refl _, Nat.le_refl _⟩ (fun r n2 h2 hq => ?_)
      obtain ⟨rfl, rfl, hc9, ho9⟩ := hq
      refine v_st (st2 := [.int (nI (pay (cu (cu C21 5 f (C21 5 f + 1)) 6 f (C21 6 f + 1)) f 3))]) rfl ?_
      obtain ⟨C29, hC29⟩ : ∃ C9 : Ct, C9 = payU (cu (cu C21 5 f (C21 5 f + 1)) 6 f (C21 6 f + 1)) f 3 := ⟨_, rfl⟩
      rw [← hC29] at hc9
      have hc29 := hc9
      have ho29 := off_tr ho26 ho9
      clear hc9 ho9
      have hK29 : bdk (b + 400) C29 := by rw [hC29]; exact bdk_payU hK26 (by omega) (by omega)
      have hD29 := hK29.bd (by omega)
      refine v_pop dX1_perform_126 rfl ?_
      refine v_iload dX1_perform_127 rfl ?_
      refine v_iret dX1_perform_129 rfl ?_ (Nat.le_refl _) (Nat.le_refl _)
      have z9 : C 4 f = 0 := by rw [hC21] at c28; exact c28
      rw [hC29, hC21] at hc29
      exact ⟨rfl, rfl, ⟨by rw [show prf C f j t = _ from (if_pos c24).trans (if_pos z9)]; exact hc29, ho29⟩⟩
    · refine v_aload_n dX1_perform_104 rfl ?_
      refine fX1_12 (v := .ref (q + 1)) rfl dX1_perform_105 (ck0 (C := cu (cu C21 5 f (C21 5 f + 1)) 6 f (C21 6 f + 1)) hc26) rfl ?_
      refine fX1_152 (v := .ref (q + 5)) rfl dX1_perform_108 (ck1 (C := cu (cu C21 5 f (C21 5 f + 1)) 6 f (C21 6 f + 1)) hc26) rfl ?_
      refine v_iload_n dX1_perform_111 rfl ?_
      refine v_dup2 dX1_perform_112 rfl rfl ?_
      refine n_ialdv (f := C21 4) (j := f) (y := C21 4 f) dX1_perform_113 (ck5 (C := cu (cu C21 5 f (C21 5 f + 1)) 6 f (C21 6 f + 1)) hc26) (by omega) (by decide) rfl ?_
      refine v_iconst (v := nI 1) dX1_perform_114 (by decide) ?_
      refine n_isub (x := C21 4 f) (y := 1) dX1_perform_115 (by omega) ?_
      refine n_iast (f := C21 4) (j := f) (x := C21 4 f - 1) dX1_perform_116 (ck5 (C := cu (cu C21 5 f (C21 5 f + 1)) 6 f (C21 6 f + 1)) hc26) (by omega) (by decide) ?_
      refine wr (cp4 (j := f) (x := C21 4 f - 1) (C := cu (cu C21 5 f (C21 5 f + 1)) 6 f (C21 6 f + 1)) hc26) ho26 (by omega) (fun h1 hc1 ho1 => ?_)
      have hc30 := hc1
      have ho30 := ho1
      clear hc1 ho1
      have hK30 : bdk (b + 400) (cu (cu (cu C21 5 f (C21 5 f + 1)) 6 f (C21 6 f + 1)) 4 f (C21 4 f - 1)) := bdk_cu hK26 (by omega) (by omega)
      have hD30 := hK30.bd (by omega)
      refine v_goto (tgt := 127) dX1_perform_117 (by decide) ?_
      refine v_iload dX1_perform_127 rfl ?_
      refine v_iret dX1_perform_129 rfl ?_ (Nat.le_refl _) (Nat.le_refl _)
      have z9 : 0 < C 4 f := by rw [hC21] at c28; exact c28
      rw [hC21] at hc30
      exact ⟨rfl, rfl, ⟨by rw [show prf C f j t = _ from (if_pos c24).trans (if_neg (Nat.ne_of_gt z9))]; exact hc30, ho30⟩⟩
  · refine v_aload_n dX1_perform_37 rfl ?_
    refine fX1_36 (v := .ref (q + 19)) rfl dX1_perform_38 (ck0 (C := cu C21 5 f (C21 5 f + 1)) hc23) rfl ?_
    refine v_iload_n dX1_perform_41 rfl ?_
    refine v_dup2 dX1_perform_42 rfl rfl ?_
    refine n_ialdv (f := C21 16) (j := t) (y := C21 16 t) dX1_perform_43 (ck19 (C := cu C21 5 f (C21 5 f + 1)) hc23) (by omega) (by decide) rfl ?_
    have b31 := hK21 16 t
    refine v_iload dX1_perform_44 rfl ?_
    refine n_iadd (x := C21 16 t) (y := lau C f j t) dX1_perform_46 ?_
    refine n_iast (f := C21 16) (j := t) (x := C21 16 t + lau C f j t) dX1_perform_47 (ck19 (C := cu C21 5 f (C21 5 f + 1)) hc23) (by omega) (by decide) ?_
    refine wr (cp16 (j := t) (x := C21 16 t + lau C f j t) (C := cu C21 5 f (C21 5 f + 1)) hc23) ho23 (by omega) (fun h1 hc1 ho1 => ?_)
    have hc32 := hc1
    have ho32 := ho1
    clear hc1 ho1
    have hK32 : bdk (b + 300) (cu (cu C21 5 f (C21 5 f + 1)) 16 t (C21 16 t + lau C f j t)) := bdk_cu hK23 (by omega) (by omega)
    have hD32 := hK32.bd (by omega)
    refine v_aload_n dX1_perform_48 rfl ?_
    refine v_iload_n dX1_perform_49 rfl ?_
    refine v_iload dX1_perform_50 rfl ?_
    have h99 : (cu (cu C21 5 f (C21 5 f + 1)) 16 t (C21 16 t + lau C f j t)) 2 f ≤ 99 := by rw [hC21]; exact hc99 f
    refine v_callV (st := []) dX1_perform_52 (t_X1_gain (f := f) (k := lau C f j t) hc32 hK32 (by omega) (by omega) (by omega) h99) wX1_143 (ck0 (C := cu (cu C21 5 f (C21 5 f + 1)) 16 t (C21 16 t + lau C f j t)) hc32) rfl rfl ⟨Nat.le_of_ble_eq_true rfl, Nat.le_of_ble_eq_true rfl⟩ (Nat.le_of_ble_eq_true rfl) ⟨Nat.le_refl _, Nat.le_refl _⟩ (fun r n2 h2 hq => ?_)
    obtain ⟨rfl, rfl, hc9, ho9⟩ := hq
    refine v_st (st2 := []) rfl ?_
    obtain ⟨C33, hC33⟩ : ∃ C9 : Ct, C9 = gain (cu (cu C21 5 f (C21 5 f + 1)) 16 t (C21 16 t + lau C f j t)) f (lau C f j t) := ⟨_, rfl⟩
    rw [← hC33] at hc9
    have hc33 := hc9
    have ho33 := off_tr ho32 ho9
    clear hc9 ho9
    have hK33 : bdk (b + 400) C33 := by rw [hC33]; exact bdk_gain hK32 (by omega) (by omega)
    have hD33 := hK33.bd (by omega)
    refine v_aload_n dX1_perform_55 rfl ?_
    refine fX1_12 (v := .ref (q + 1)) rfl dX1_perform_56 (ck0 hc33) rfl ?_
    refine fX1_146 (v := .ref (q + 4)) rfl dX1_perform_59 (ck1 hc33) rfl ?_
    refine v_iload_n dX1_perform_62 rfl ?_
    refine v_dup2 dX1_perform_63 rfl rfl ?_
    refine n_ialdv (f := C33 3) (j := f) (y := C33 3 f) dX1_perform_64 (ck4 hc33) (by omega) (by decide) rfl ?_
    have b34 := hK33 3 f
    refine v_iconst (v := nI 0) dX1_perform_65 (by decide) ?_
    refine v_iload dX1_perform_66 rfl ?_
    refine v_bipush (v := nI 11) dX1_perform_68 (by decide) ?_
    refine v_isub dX1_perform_70 ?_
    refine n_max0 (x := lau C f j t) (y := 11) dX1_perform_71 q2_237 q2_238 q1_12 q2_239 (Nat.le_of_ble_eq_true rfl) (Nat.le_of_ble_eq_true rfl) (Nat.zero_le _) (Nat.zero_le _) (by omega) (by omega) ?_
    refine n_iadd (x := C33 3 f) (y := lau C f j t - 11) dX1_perform_74 ?_
    refine n_iast (f := C33 3) (j := f) (x := C33 3 f + (lau C f j t - 11)) dX1_perform_75 (ck4 hc33) (by omega) (by decide) ?_
    refine wr (cp3 (j := f) (x := C33 3 f + (lau C f j t - 11)) hc33) ho33 (by omega) (fun h1 hc1 ho1 => ?_)
    have hc35 := hc1
    have ho35 := ho1
    clear hc1 ho1
    have hK35 : bdk (b + 500) (cu C33 3 f (C33 3 f + (lau C f j t - 11))) := bdk_cu hK33 (by omega) (by omega)
    have hD35 := hK35.bd (by omega)
    refine v_iload dX1_perform_76 rfl ?_
    refine v_iret dX1_perform_78 rfl ?_ (Nat.le_refl _) (Nat.le_refl _)
    rw [hC33, hC21] at hc35
    exact ⟨rfl, rfl, ⟨by rw [show prf C f j t = _ from if_neg (Nat.not_lt.mpr c24)]; exact hc35, ho35⟩⟩
set_option maxRecDepth 20000 in
set_option maxHeartbeats 4000000 in
theorem t_X1_carryFirstOut {l : Launch} {G : vG} {n : Nat} {h : AH}  {q b : Nat} {C : Ct} (hc : ct G h q C) (hK : bdk b C) (hb2 : b + 4000 ≤ 2 ^ 28) (hn : C 0 2 ≤ 10) (hn1 : 1 ≤ C 0 2) (hf : C 11 0 < 6) (hj : C 12 0 < 12) (ht : C 13 0 < 4) (hc99 : ∀ i, C 2 i ≤ 99) (hs7 : C 7 (C 12 0) ≤ 9) (hs1 : C 1 (C 11 0) ≤ 9) (hs8 : C 8 (C 12 0) < 6) : Mt l G mX1_carryFirstOut [.ref q] n h 0 0 (fun r n2 h2 => r = some (.int (nI (crR C))) ∧ n2 = n ∧ ct G h2 q (crC C) ∧ off q h h2) := by
  refine Mt.of (by decide) (Nat.le_of_ble_eq_true rfl) rfl ?_
  refine v_ls (ls2 := [some (.ref q), none, none, none]) rfl ?_
  have hB := hK.bd (by omega)
  refine v_aload_n dX1_carryFirstOut_0 rfl ?_
  refine fX1_28 (v := .ref (q + 13)) rfl dX1_carryFirstOut_1 (ck0 hc) rfl ?_
  refine fX1_121 (v := .ref (q + 14)) rfl dX1_carryFirstOut_4 (ck13 hc) rfl ?_
  refine v_iconst (v := nI 0) dX1_carryFirstOut_7 (by decide) ?_
  refine n_ialdv (f := C 11) (j := 0) (y := C 11 0) dX1_carryFirstOut_8 (ck14 hc) (by omega) (by decide) rfl ?_
  have b21 := hK 11 0
  refine v_istore_n dX1_carryFirstOut_9 rfl (by decide) ?_
  refine v_ls (ls2 := [some (.ref q), some (.int (nI (C 11 0))), none, none]) rfl ?_
  refine v_aload_n dX1_carryFirstOut_10 rfl ?_
  refine fX1_28 (v := .ref (q + 13)) rfl dX1_carryFirstOut_11 (ck0 hc) rfl ?_
  refine fX1_118 (v := .ref (q + 15)) rfl dX1_carryFirstOut_14 (ck13 hc) rfl ?_
  refine v_iconst (v := nI 0) dX1_carryFirstOut_17 (by decide) ?_
  refine n_ialdv (f := C 12) (j := 0) (y := C 12 0) dX1_carryFirstOut_18 (ck15 hc) (by omega) (by decide) rfl ?_
  have b22 := hK 12 0
  refine v_istore_n dX1_carryFirstOut_19 rfl (by decide) ?_
  refine v_ls (ls2 := [some (.ref q), some (.int (nI (C 11 0))), some (.int (nI (C 12 0))), none]) rfl ?_
  refine v_aload_n dX1_carryFirstOut_20 rfl ?_
  refine fX1_28 (v := .ref (q + 13)) rfl dX1_carryFirstOut_21 (ck0 hc) rfl ?_
  refine fX1_124 (v := .ref (q + 16)) rfl dX1_carryFirstOut_24 (ck13 hc) rfl ?_
  refine v_iconst (v := nI 0) dX1_carryFirstOut_27 (by decide) ?_
  refine n_ialdv (f := C 13) (j := 0) (y := C 13 0) dX1_carryFirstOut_28 (ck16 hc) (by omega) (by decide) rfl ?_
  have b23 := hK 13 0
  refine v_istore_n dX1_carryFirstOut_29 rfl (by decide) ?_
  refine v_ls (ls2 := [some (.ref q), some (.int (nI (C 11 0))), some (.int (nI (C 12 0))), some (.int (nI (C 13 0)))]) rfl ?_
  refine v_aload_n dX1_carryFirstOut_30 rfl ?_
  refine v_aload_n dX1_carryFirstOut_31 rfl ?_
  refine fX1_28 (v := .ref (q + 13)) rfl dX1_carryFirstOut_32 (ck0 hc) rfl ?_
  refine fX1_116 (v := .ref (q + 17)) rfl dX1_carryFirstOut_35 (ck13 hc) rfl ?_
  refine v_iconst (v := nI 0) dX1_carryFirstOut_38 (by decide) ?_
  refine n_ialdv (f := C 14) (j := 0) (y := C 14 0) dX1_carryFirstOut_39 (ck17 hc) (by omega) (by decide) rfl ?_
  have b24 := hK 14 0
  refine pX1_39 rfl dX1_carryFirstOut_40 (ck0 hc) (Nat.le_of_ble_eq_true rfl) ?_
  refine wr (cs3 (x := C 14 0) hc) off_rf (by omega) (fun h1 hc1 ho1 => ?_)
  have hc25 := hc1
  have ho25 := ho1
  clear hc1 ho1
  have hK25 : bdk (b + 100) (cu C 0 3 (C 14 0)) := bdk_cu hK (by omega) (by omega)
  have hD25 := hK25.bd (by omega)
  refine v_aload_n dX1_carryFirstOut_43 rfl ?_
  refine fX1_28 (v := .ref (q + 13)) rfl dX1_carryFirstOut_44 (ck0 (C := cu C 0 3 (C 14 0)) hc25) rfl ?_
  refine v_callV (st := []) dX1_carryFirstOut_47 (t_X0_removeFirst hc25 hK25 (by omega) hn hn1) wX1_127 (ck13 (C := cu C 0 3 (C 14 0)) hc25) rfl rfl ⟨Nat.le_of_ble_eq_true rfl, Nat.le_of_ble_eq_true rfl⟩ (Nat.le_of_ble_eq_true rfl) ⟨Nat.le_refl _, Nat.le_refl _⟩ (fun r n2 h2 hq => ?_)
  obtain ⟨rfl, rfl, hc9, ho9⟩ := hq
  refine v_st (st2 := []) rfl ?_
  obtain ⟨C26, hC26⟩ : ∃ C9 : Ct, C9 = rmF (cu C 0 3 (C 14 0)) := ⟨_, rfl⟩
  rw [← hC26] at hc9
  have hc26 := hc9
  have ho26 := off_tr ho25 ho9
  clear hc9 ho9
  have hK26 : bdk (b + 200) C26 := by rw [hC26]; exact bdk_rmF hK25 (by omega)
  have hD26 := hK26.bd (by omega)
  refine v_aload_n dX1_carryFirstOut_50 rfl ?_
  refine v_dup dX1_carryFirstOut_51 rfl ?_
  refine fX1_52 (v := .int (nI (C26 0 7))) rfl dX1_carryFirstOut_52 (ck0 hc26) rfl ?_
  have b27 := hK26 0 7
  refine v_iconst (v := nI 1) dX1_carryFirstOut_55 (by decide) ?_
  refine n_iadd (x := C26 0 7) (y := 1) dX1_carryFirstOut_56 ?_
  refine pX1_52 rfl dX1_carryFirstOut_57 (ck0 hc26) (Nat.le_of_ble_eq_true rfl) ?_
  refine wr (cs7 (x := C26 0 7 + 1) hc26) ho26 (by omega) (fun h1 hc1 ho1 => ?_)
  have hc28 := hc1
  have ho28 := ho1
  clear hc1 ho1
  have hK28 : bdk (b + 300) (cu C26 0 7 (C26 0 7 + 1)) := bdk_cu hK26 (by omega) (by omega)
  have hD28 := hK28.bd (by omega)
  have c99 : ∀ i, (cu C26 0 7 (C26 0 7 + 1)) 2 i ≤ 99 := by rw [hC26]; exact hc99
  have c7 : (cu C26 0 7 (C26 0 7 + 1)) 7 (C 12 0) ≤ 9 := by rw [hC26]; exact hs7
  have c1 : (cu C26 0 7 (C26 0 7 + 1)) 1 (C 11 0) ≤ 9 := by rw [hC26]; exact hs1
  have w6 : (cu C26 0 7 (C26 0 7 + 1)) 8 (C 12 0) < 6 := by rw [hC26]; exact hs8
  have l18 : lau (cu C26 0 7 (C26 0 7 + 1)) (C 11 0) (C 12 0) (C 13 0) ≤ 100 := by show (cu C26 0 7 (C26 0 7 + 1)) 7 (C 12 0) + (cu C26 0 7 (C26 0 7 + 1)) 1 (C 11 0) - _ ≤ 100; omega
  refine v_aload_n dX1_carryFirstOut_60 rfl ?_
  refine fX1_32 (v := .ref (q + 18)) rfl dX1_carryFirstOut_61 (ck0 (C := cu C26 0 7 (C26 0 7 + 1)) hc28) rfl ?_
  refine v_iload_n dX1_carryFirstOut_64 rfl ?_
  refine n_ialdv (f := C26 15) (j := C 13 0) (y := C26 15 (C 13 0)) dX1_carryFirstOut_65 (ck18 (C := cu C26 0 7 (C26 0 7 + 1)) hc28) (by omega) (by decide) rfl ?_
  have b29 := hK26 15 (C 13 0)
  refine v_iconst (v := nI 1) dX1_carryFirstOut_66 (by decide) ?_
  refine n_icmp_ne (tgt := 72) (x := C26 15 (C 13 0)) (y := 1) dX1_carryFirstOut_67 (by decide) (by omega) (by omega) (fun c30 => ?_) (fun c30 => ?_)
  · refine v_aload_n dX1_carryFirstOut_72 rfl ?_
    refine v_iload_n dX1_carryFirstOut_73 rfl ?_
    refine v_iload_n dX1_carryFirstOut_74 rfl ?_
    refine v_callV (st := []) dX1_carryFirstOut_75 (t_X1_isBarred (f := C 11 0) (j := C 12 0) hc28 hD28 (by omega) (by omega)) wX1_100 (ck0 (C := cu C26 0 7 (C26 0 7 + 1)) hc28) rfl rfl ⟨Nat.le_of_ble_eq_true rfl, Nat.le_of_ble_eq_true rfl⟩ (Nat.le_of_ble_eq_true rfl) ⟨Nat.le_refl _, Nat.le_refl _⟩ (fun r n2 h2 hq => ?_)
    obtain ⟨rfl, rfl, rfl⟩ := hq
    refine v_st (st2 := [.int (nI (bI (barr (cu C26 0 7 (C26 0 7 + 1)) (C 11 0) (C 12 0))))]) rfl ?_
    refine n_ifb_eq (tgt := 97) (p := barr (cu C26 0 7 (C26 0 7 + 1)) (C 11 0) (C 12 0)) dX1_carryFirstOut_78 (by decide) (fun c31 => ?_) (fun c31 => ?_)
    · refine v_aload_n dX1_carryFirstOut_97 rfl ?_
      refine v_iload_n dX1_carryFirstOut_98 rfl ?_
      refine v_iload_n dX1_carryFirstOut_99 rfl ?_
      refine v_iload_n dX1_carryFirstOut_100 rfl ?_
      refine v_callV (st := []) dX1_carryFirstOut_101 (t_X1_perform (f := C 11 0) (j := C 12 0) (t := C 13 0) hc28 hK28 (by omega) (by omega) (by omega) (by omega) c99 c7 c1) wX1_134 (ck0 (C := cu C26 0 7 (C26 0 7 + 1)) hc28) rfl rfl ⟨Nat.le_of_ble_eq_true rfl, Nat.le_of_ble_eq_true rfl⟩ (Nat.le_of_ble_eq_true rfl) ⟨Nat.le_refl _, Nat.le_refl _⟩ (fun r n2 h2 hq => ?_)
      obtain ⟨rfl, rfl, hc9, ho9⟩ := hq
      refine v_st (st2 := [.int (nI (lau (cu C26 0 7 (C26 0 7 + 1)) (C 11 0) (C 12 0) (C 13 0)))]) rfl ?_
      obtain ⟨C32, hC32⟩ : ∃ C9 : Ct, C9 = prf (cu C26 0 7 (C26 0 7 + 1)) (C 11 0) (C 12 0) (C 13 0) := ⟨_, rfl⟩
      rw [← hC32] at hc9
      have hc32 := hc9
      have ho32 := off_tr ho28 ho9
      clear hc9 ho9
      have hK32 : bdk (b + 1300) C32 := by rw [hC32]; exact bdk_prf hK28 (by omega) l18
      have hD32 := hK32.bd (by omega)
      refine v_iret dX1_carryFirstOut_104 rfl ?_ (Nat.le_refl _) (Nat.le_refl _)
      rw [hC26] at c30
      rw [hC26] at c31
      rw [hC32, hC26] at hc32
      have er : (cu C26 0 7 (C26 0 7 + 1)) = crH C := by rw [hC26]; rfl
      exact ⟨by rw [show crR C = _ from (if_neg c30).trans (if_neg c31)]; rw [er]; rfl, rfl, ⟨by rw [show crC C = _ from (if_neg c30).trans (if_neg c31)]; exact hc32, ho32⟩⟩
    · refine v_aload_n dX1_carryFirstOut_81 rfl ?_
      refine v_iload_n dX1_carryFirstOut_82 rfl ?_
      refine v_aload_n dX1_carryFirstOut_83 rfl ?_
      refine fX1_21 (v := .ref (q + 8)) rfl dX1_carryFirstOut_84 (ck0 (C := cu C26 0 7 (C26 0 7 + 1)) hc28) rfl ?_
      refine fX1_76 (v := .ref (q + 10)) rfl dX1_carryFirstOut_87 (ck8 (C := cu C26 0 7 (C26 0 7 + 1)) hc28) rfl ?_
      refine v_iload_n dX1_carryFirstOut_90 rfl ?_
      refine n_ialdv (f := C26 8) (j := C 12 0) (y := C26 8 (C 12 0)) dX1_carryFirstOut_91 (ck10 (C := cu C26 0 7 (C26 0 7 + 1)) hc28) (by omega) (by decide) rfl ?_
      have b33 := hK26 8 (C 12 0)
      refine v_callV (st := []) dX1_carryFirstOut_92 (t_X1_payFine (f := C 11 0) (w := C26 8 (C 12 0)) hc28 hK28 (by omega) (by omega) w6 c99) wX1_130 (ck0 (C := cu C26 0 7 (C26 0 7 + 1)) hc28) rfl rfl ⟨Nat.le_of_ble_eq_true rfl, Nat.le_of_ble_eq_true rfl⟩ (Nat.le_of_ble_eq_true rfl) ⟨Nat.le_refl _, Nat.le_refl _⟩ (fun r n2 h2 hq => ?_)
      obtain ⟨rfl, rfl, hc9, ho9⟩ := hq
      refine v_st (st2 := []) rfl ?_
      obtain ⟨C34, hC34⟩ : ∃ C9 : Ct, C9 = payF (cu C26 0 7 (C26 0 7 + 1)) (C 11 0) (C26 8 (C 12 0)) := ⟨_, rfl⟩
      rw [← hC34] at hc9
      have hc34 := hc9
      have ho34 := off_tr ho28 ho9
      clear hc9 ho9
      have hK34 : bdk (b + 600) C34 := by rw [hC34]; exact bdk_payF hK28 (by omega)
      have hD34 := hK34.bd (by omega)
      refine v_iconst (v := nI 0) dX1_carryFirstOut_95 (by decide) ?_
      refine v_iret dX1_carryFirstOut_96 rfl ?_ (Nat.le_refl _) (Nat.le_refl _)
      rw [hC26] at c30
      rw [hC26] at c31
      rw [hC34, hC26] at hc34
      exact ⟨by rw [show crR C = _ from (if_neg c30).trans (if_pos c31)], rfl, ⟨by rw [show crC C = _ from (if_neg c30).trans (if_pos c31)]; exact hc34, ho34⟩⟩
  · refine v_iconst (v := nI 0) dX1_carryFirstOut_70 (by decide) ?_
    refine v_iret dX1_carryFirstOut_71 rfl ?_ (Nat.le_refl _) (Nat.le_refl _)
    rw [hC26] at c30
    rw [hC26] at hc28
    exact ⟨by rw [show crR C = _ from if_pos c30], rfl, ⟨by rw [show crC C = _ from if_pos c30]; exact hc28, ho28⟩⟩
theorem bdk_crC {b c : Nat} {C : Ct} (h : bdk b C) (hc : b + 3000 ≤ c) (h7 : C 7 (C 12 0) ≤ 9) (h1 : C 1 (C 11 0) ≤ 9) : bdk c (crC C) := by
  have h2 := h 14 0
  have h3 := h 0 7
  have a1 : bdk (b + 100) (cu C 0 3 (C 14 0)) := bdk_cu h (by omega) (by omega)
  have a2 : bdk (b + 200) (rmF (cu C 0 3 (C 14 0))) := bdk_rmF a1 (Nat.le_refl _)
  have a3 : bdk (b + 300) (crH C) := bdk_cu a2 (by omega) (by omega)
  unfold crC
  split
  · exact a3.up (by omega)
  · split
    · exact bdk_payF a3 (by omega)
    · exact bdk_prf a3 (by omega) (by show C 7 (C 12 0) + C 1 (C 11 0) - _ ≤ 100; omega)
set_option maxRecDepth 20000 in
set_option maxHeartbeats 4000000 in
theorem t_X2_add {l : Launch} {G : vG} {n : Nat} {h : AH} {x : Nat} {q b : Nat} {C : Ct} (hc : ct G h q C) (hK : bdk b C) (hb2 : b + 500 ≤ 2 ^ 28) (hf : C 0 0 < 6) (hx : x < 100) : Mt l G mX2_add [.ref (q + 1), .int (nI x)] n h 0 0 (fun r n2 h2 => r = some (.int (nI (C 0 0))) ∧ n2 = n ∧ ct G h2 q (cu (cu (cu C 1 (C 0 0) x) 2 (C 0 0) 10) 0 0 (C 0 0 + 1)) ∧ off q h h2) := by
  refine Mt.of (by decide) (Nat.le_of_ble_eq_true rfl) rfl ?_
  refine v_ls (ls2 := [some (.ref (q + 1)), some (.int (nI x)), none]) rfl ?_
  have hB := hK.bd (by omega)
  refine v_aload_n dX2_add_0 rfl ?_
  refine fX2_9 (v := .int (nI (C 0 0))) rfl dX2_add_1 (ck1 hc) rfl ?_
  have b21 := hK 0 0
  refine v_istore_n dX2_add_4 rfl (by decide) ?_
  refine v_ls (ls2 := [some (.ref (q + 1)), some (.int (nI x)), some (.int (nI (C 0 0)))]) rfl ?_
  refine v_aload_n dX2_add_5 rfl ?_
  refine fX2_15 (v := .ref (q + 2)) rfl dX2_add_6 (ck1 hc) rfl ?_
  refine v_iload_n dX2_add_9 rfl ?_
  refine v_iload_n dX2_add_10 rfl ?_
  refine n_iast (f := C 1) (j := C 0 0) (x := x) dX2_add_11 (ck2 hc) (by omega) (by decide) ?_
  refine wr (cp1 (j := C 0 0) (x := x) hc) off_rf (by omega) (fun h1 hc1 ho1 => ?_)
  have hc22 := hc1
  have ho22 := ho1
  clear hc1 ho1
  have hK22 : bdk (b + 100) (cu C 1 (C 0 0) x) := bdk_cu hK (by omega) (by omega)
  have hD22 := hK22.bd (by omega)
  refine v_aload_n dX2_add_12 rfl ?_
  refine fX2_19 (v := .ref (q + 3)) rfl dX2_add_13 (ck1 (C := cu C 1 (C 0 0) x) hc22) rfl ?_
  refine v_iload_n dX2_add_16 rfl ?_
  refine v_bipush (v := nI 10) dX2_add_17 (by decide) ?_
  refine n_iast (f := C 2) (j := C 0 0) (x := 10) dX2_add_19 (ck3 (C := cu C 1 (C 0 0) x) hc22) (by omega) (by decide) ?_
  refine wr (cp2 (j := C 0 0) (x := 10) (C := cu C 1 (C 0 0) x) hc22) ho22 (by omega) (fun h1 hc1 ho1 => ?_)
  have hc23 := hc1
  have ho23 := ho1
  clear hc1 ho1
  have hK23 : bdk (b + 200) (cu (cu C 1 (C 0 0) x) 2 (C 0 0) 10) := bdk_cu hK22 (by omega) (by omega)
  have hD23 := hK23.bd (by omega)
  refine v_aload_n dX2_add_20 rfl ?_
  refine v_dup dX2_add_21 rfl ?_
  refine fX2_9 (v := .int (nI (C 0 0))) rfl dX2_add_22 (ck1 (C := cu (cu C 1 (C 0 0) x) 2 (C 0 0) 10) hc23) rfl ?_
  refine v_iconst (v := nI 1) dX2_add_25 (by decide) ?_
  refine n_iadd (x := C 0 0) (y := 1) dX2_add_26 ?_
  refine pX2_9 rfl dX2_add_27 (ck1 (C := cu (cu C 1 (C 0 0) x) 2 (C 0 0) 10) hc23) (Nat.le_of_ble_eq_true rfl) ?_
  refine wr (cs0 (x := C 0 0 + 1) (C := cu (cu C 1 (C 0 0) x) 2 (C 0 0) 10) hc23) ho23 (by omega) (fun h1 hc1 ho1 => ?_)
  have hc24 := hc1
  have ho24 := ho1
  clear hc1 ho1
  have hK24 : bdk (b + 300) (cu (cu (cu C 1 (C 0 0) x) 2 (C 0 0) 10) 0 0 (C 0 0 + 1)) := bdk_cu hK23 (by omega) (by omega)
  have hD24 := hK24.bd (by omega)
  refine v_iload_n dX2_add_30 rfl ?_
  refine v_iret dX2_add_31 rfl ?_ (Nat.le_refl _) (Nat.le_refl _)
  exact ⟨rfl, rfl, hc24, ho24⟩
set_option maxRecDepth 20000 in
set_option maxHeartbeats 4000000 in
theorem t_X4_add {l : Launch} {G : vG} {n : Nat} {h : AH} {x : Nat} {q b : Nat} {C : Ct} (hc : ct G h q C) (hK : bdk b C) (hb2 : b + 500 ≤ 2 ^ 28) (hf : C 0 1 < 12) (hx : x < 100) : Mt l G mX4_add [.ref (q + 8), .int (nI x)] n h 0 0 (fun r n2 h2 => r = some (.int (nI (C 0 1))) ∧ n2 = n ∧ ct G h2 q (cu (cu C 7 (C 0 1) x) 0 1 (C 0 1 + 1)) ∧ off q h h2) := by
  refine Mt.of (by decide) (Nat.le_of_ble_eq_true rfl) rfl ?_
  refine v_ls (ls2 := [some (.ref (q + 8)), some (.int (nI x)), none]) rfl ?_
  have hB := hK.bd (by omega)
  refine v_aload_n dX4_add_0 rfl ?_
  refine fX4_9 (v := .int (nI (C 0 1))) rfl dX4_add_1 (ck8 hc) rfl ?_
  have b21 := hK 0 1
  refine v_istore_n dX4_add_4 rfl (by decide) ?_
  refine v_ls (ls2 := [some (.ref (q + 8)), some (.int (nI x)), some (.int (nI (C 0 1)))]) rfl ?_
  refine v_aload_n dX4_add_5 rfl ?_
  refine fX4_15 (v := .ref (q + 9)) rfl dX4_add_6 (ck8 hc) rfl ?_
  refine v_iload_n dX4_add_9 rfl ?_
  refine v_iload_n dX4_add_10 rfl ?_
  refine n_iast (f := C 7) (j := C 0 1) (x := x) dX4_add_11 (ck9 hc) (by omega) (by decide) ?_
  refine wr (cp7 (j := C 0 1) (x := x) hc) off_rf (by omega) (fun h1 hc1 ho1 => ?_)
  have hc22 := hc1
  have ho22 := ho1
  clear hc1 ho1
  have hK22 : bdk (b + 100) (cu C 7 (C 0 1) x) := bdk_cu hK (by omega) (by omega)
  have hD22 := hK22.bd (by omega)
  refine v_aload_n dX4_add_12 rfl ?_
  refine v_dup dX4_add_13 rfl ?_
  refine fX4_9 (v := .int (nI (C 0 1))) rfl dX4_add_14 (ck8 (C := cu C 7 (C 0 1) x) hc22) rfl ?_
  refine v_iconst (v := nI 1) dX4_add_17 (by decide) ?_
  refine n_iadd (x := C 0 1) (y := 1) dX4_add_18 ?_
  refine pX4_9 rfl dX4_add_19 (ck8 (C := cu C 7 (C 0 1) x) hc22) (Nat.le_of_ble_eq_true rfl) ?_
  refine wr (cs1 (x := C 0 1 + 1) (C := cu C 7 (C 0 1) x) hc22) ho22 (by omega) (fun h1 hc1 ho1 => ?_)
  have hc23 := hc1
  have ho23 := ho1
  clear hc1 ho1
  have hK23 : bdk (b + 200) (cu (cu C 7 (C 0 1) x) 0 1 (C 0 1 + 1)) := bdk_cu hK22 (by omega) (by omega)
  have hD23 := hK23.bd (by omega)
  refine v_iload_n dX4_add_22 rfl ?_
  refine v_iret dX4_add_23 rfl ?_ (Nat.le_refl _) (Nat.le_refl _)
  exact ⟨rfl, rfl, hc23, ho23⟩
