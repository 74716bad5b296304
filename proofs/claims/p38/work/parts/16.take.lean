theorem n_copy {l : Launch} {G : vG} {M : vM} {rc rs : Nat} {Fz : vFin} {pc : Nat} {ls : List (Option Value)} {st : List Value} {n : Nat} {h : AH} {cells slots : Nat} {index a0 a k : Nat} {f g : Nat → Nat} (hd : decode M.2.1 pc = .ok (.invokestatic index, 3)) (hlink : Cond.methodLink M.1.cls index arraycopyName ∈ gw) (ha0 : h a0 = some (ar G k f)) (ha1 : h a = some (ar G k g)) (hk : k < 2 ^ 31) (hfr : 1 ≤ M.2.2.2.2.1) (hlo : (st.map fun v => v.category).sum + (nativeFrameWords "java/lang/System" "arraycopy" 5 + 11) ≤ M.2.2.2.2.2) (kk : V l G M rc rs Fz (pc + 3) ls st n (va_up h a (some (ar G k f))) cells slots) : V l G M rc rs Fz pc ls (.int (nI k) :: .int (nI 0) :: .ref a :: .int (nI 0) :: .ref a0 :: st) n h cells slots := by
  have e0 : (nI 0).toNatClampNeg = 0 := nI_clamp (by decide)
  have ek : (nI k).toNatClampNeg = k := nI_clamp hk
  refine v_copy (t := 0) (ty := .int) hd hlink q2_74 q2_73 q1_13 ha0 ha1 rfl rfl (nI_pos (by decide)) (nI_pos (by decide)) (nI_pos hk) (by rw [e0, ek]; omega) (by rw [e0, ek]; omega) (fun _ _ => rfl) hfr hlo ?_
  rw [e0, ek]
  refine v_same (fun x e he => ?_) kk
  unfold va_up at he ⊢
  by_cases hx : x = a
  · rw [if_pos hx] at he ⊢
    cases he
    exact ⟨_, rfl, Or.inr ⟨_, k, _, _, rfl, rfl, fun j hj => by rw [pk_cpy_in (by omega) (by omega)]; exact congrArg (fun z => nI (f z)) (by omega)⟩⟩
  · rw [if_neg hx] at he ⊢
    exact ⟨e, he, Or.inl rfl⟩
set_option maxRecDepth 20000 in
set_option maxHeartbeats 4000000 in
theorem t_X6_copy {l : Launch} {G : vG} {n : Nat} {h : AH} {a0 a k : Nat} {f g : Nat → Nat} (h0 : h a0 = some (ar G k f)) (h1 : h a = some (ar G k g)) (hk : k < 2 ^ 31) : Mt l G mX6_copy [.ref a0, .ref a] n h 0 0 (fun r n2 h2 => r = none ∧ n2 = n ∧ h2 = va_up h a (some (ar G k f))) := by
  refine Mt.of (by decide) (Nat.le_of_ble_eq_true rfl) rfl ?_
  refine v_ls (ls2 := [some (.ref a0), some (.ref a)]) rfl ?_
  refine v_aload_n dX6_copy_0 rfl ?_
  refine v_iconst (v := nI 0) dX6_copy_1 (by decide) ?_
  refine v_aload_n dX6_copy_2 rfl ?_
  refine v_iconst (v := nI 0) dX6_copy_3 (by decide) ?_
  refine v_aload_n dX6_copy_4 rfl ?_
  refine v_alen (t := 0) dX6_copy_5 h0 (by decide) ?_
  refine v_st (st2 := [.int (nI k), .int (nI 0), .ref a, .int (nI 0), .ref a0]) rfl ?_
  refine v_aload_n dX6_copy_6 rfl ?_
  refine v_alen (t := 0) dX6_copy_7 h1 (by decide) ?_
  refine v_st (st2 := [.int (nI k), .int (nI k), .int (nI 0), .ref a, .int (nI 0), .ref a0]) rfl ?_
  refine n_min (x := k) (y := k) dX6_copy_8 q2_69 q2_70 q1_12 q2_71 (Nat.le_of_ble_eq_true rfl) (Nat.le_of_ble_eq_true rfl) (Nat.zero_le _) (Nat.zero_le _) (by omega) (by omega) ?_
  refine v_st (st2 := [.int (nI k), .int (nI 0), .ref a, .int (nI 0), .ref a0]) (by rw [Nat.min_self]) ?_
  refine n_copy (f := f) (g := g) dX6_copy_11 q2_72 h0 h1 (by omega) (Nat.le_of_ble_eq_true rfl) (Nat.le_of_ble_eq_true rfl) ?_
  refine v_vret dX6_copy_14 rfl ?_ (Nat.le_refl _) (Nat.le_refl _)
  exact ⟨rfl, rfl, rfl⟩
def tkF (C D : Ct) : Ct := fun g => if g = 0 then va_up (C 0) 0 (D 0 0) else if 1 ≤ g ∧ g ≤ 6 then D g else C g
def tkJ (C D : Ct) : Ct := fun g => if g = 0 then va_up (C 0) 1 (D 0 1) else if 7 ≤ g ∧ g ≤ 10 then D g else C g
def tkB (C D : Ct) : Ct := fun g => if g = 0 then va_up (C 0) 2 (D 0 2) else if 11 ≤ g ∧ g ≤ 14 then D g else C g
set_option maxRecDepth 20000 in
set_option maxHeartbeats 4000000 in
theorem t_X2_take {l : Launch} {G : vG} {n : Nat} {h : AH}  {q q2 : Nat} {C D : Ct} (hc : ct G h q C) (hc0 : ct G h q2 D) (hd : q2 + 20 ≤ q ∨ q + 20 ≤ q2) : Mt l G mX2_take [.ref (q + 1), .ref (q2 + 1)] n h 0 0 (fun r n2 h2 => r = none ∧ n2 = n ∧ ct G h2 q (tkF C D) ∧ off q h h2) := by
  refine Mt.of (by decide) (Nat.le_of_ble_eq_true rfl) rfl ?_
  refine v_ls (ls2 := [some (.ref (q + 1)), some (.ref (q2 + 1))]) rfl ?_
  refine v_aload_n dX2_take_0 rfl ?_
  refine v_aload_n dX2_take_1 rfl ?_
  refine fX2_9 (v := .int (nI (D 0 0))) rfl dX2_take_2 (ck1 hc0) rfl ?_
  refine pX2_9 rfl dX2_take_5 (ck1 hc) (Nat.le_of_ble_eq_true rfl) ?_
  refine wr (cs0 (x := D 0 0) hc) off_rf (by omega) (fun h1 hc1 ho1 => ?_)
  have hc21 := hc1
  have ho21 := ho1
  clear hc1 ho1
  have hd22 := ct_off hc0 ho21 hd
  refine v_aload_n dX2_take_8 rfl ?_
  refine fX2_15 (v := .ref (q2 + 2)) rfl dX2_take_9 (ck1 hd22) rfl ?_
  refine v_aload_n dX2_take_12 rfl ?_
  refine fX2_15 (v := .ref (q + 2)) rfl dX2_take_13 (ck1 (C := cu C 0 0 (D 0 0)) hc21) rfl ?_
  refine v_callSN (st := []) dX2_take_16 (t_X6_copy (ck2 hd22) (ck2 (C := cu C 0 0 (D 0 0)) hc21) (by decide)) wX2_34 rfl ⟨Nat.le_of_ble_eq_true rfl, Nat.le_of_ble_eq_true rfl⟩ (Nat.le_of_ble_eq_true rfl) ⟨Nat.le_refl _, Nat.le_refl _⟩ (fun r n2 h2 hq => ?_)
  obtain ⟨rfl, rfl, rfl⟩ := hq
  refine v_st (st2 := []) rfl ?_
  refine wr (cq1 (F := (D 1)) (C := cu C 0 0 (D 0 0)) hc21) ho21 (by omega) (fun h1 hc1 ho1 => ?_)
  have hc23 := hc1
  have ho23 := ho1
  clear hc1 ho1
  have hd24 := ct_off hc0 ho23 hd
  refine v_aload_n dX2_take_19 rfl ?_
  refine fX2_19 (v := .ref (q2 + 3)) rfl dX2_take_20 (ck1 hd24) rfl ?_
  refine v_aload_n dX2_take_23 rfl ?_
  refine fX2_19 (v := .ref (q + 3)) rfl dX2_take_24 (ck1 (C := cw (cu C 0 0 (D 0 0)) 1 (D 1)) hc23) rfl ?_
  refine v_callSN (st := []) dX2_take_27 (t_X6_copy (ck3 hd24) (ck3 (C := cw (cu C 0 0 (D 0 0)) 1 (D 1)) hc23) (by decide)) wX2_34 rfl ⟨Nat.le_of_ble_eq_true rfl, Nat.le_of_ble_eq_true rfl⟩ (Nat.le_of_ble_eq_true rfl) ⟨Nat.le_refl _, Nat.le_refl _⟩ (fun r n2 h2 hq => ?_)
  obtain ⟨rfl, rfl, rfl⟩ := hq
  refine v_st (st2 := []) rfl ?_
  refine wr (cq2 (F := (D 2)) (C := cw (cu C 0 0 (D 0 0)) 1 (D 1)) hc23) ho23 (by omega) (fun h1 hc1 ho1 => ?_)
  have hc25 := hc1
  have ho25 := ho1
  clear hc1 ho1
  have hd26 := ct_off hc0 ho25 hd
  refine v_aload_n dX2_take_30 rfl ?_
  refine fX2_22 (v := .ref (q2 + 4)) rfl dX2_take_31 (ck1 hd26) rfl ?_
  refine v_aload_n dX2_take_34 rfl ?_
  refine fX2_22 (v := .ref (q + 4)) rfl dX2_take_35 (ck1 (C := cw (cw (cu C 0 0 (D 0 0)) 1 (D 1)) 2 (D 2)) hc25) rfl ?_
  refine v_callSN (st := []) dX2_take_38 (t_X6_copy (ck4 hd26) (ck4 (C := cw (cw (cu C 0 0 (D 0 0)) 1 (D 1)) 2 (D 2)) hc25) (by decide)) wX2_34 rfl ⟨Nat.le_of_ble_eq_true rfl, Nat.le_of_ble_eq_true rfl⟩ (Nat.le_of_ble_eq_true rfl) ⟨Nat.le_refl _, Nat.le_refl _⟩ (fun r n2 h2 hq => ?_)
  obtain ⟨rfl, rfl, rfl⟩ := hq
  refine v_st (st2 := []) rfl ?_
  refine wr (cq3 (F := (D 3)) (C := cw (cw (cu C 0 0 (D 0 0)) 1 (D 1)) 2 (D 2)) hc25) ho25 (by omega) (fun h1 hc1 ho1 => ?_)
  have hc27 := hc1
  have ho27 := ho1
  clear hc1 ho1
  have hd28 := ct_off hc0 ho27 hd
  refine v_aload_n dX2_take_41 rfl ?_
  refine fX2_25 (v := .ref (q2 + 5)) rfl dX2_take_42 (ck1 hd28) rfl ?_
  refine v_aload_n dX2_take_45 rfl ?_
  refine fX2_25 (v := .ref (q + 5)) rfl dX2_take_46 (ck1 (C := cw (cw (cw (cu C 0 0 (D 0 0)) 1 (D 1)) 2 (D 2)) 3 (D 3)) hc27) rfl ?_
  refine v_callSN (st := []) dX2_take_49 (t_X6_copy (ck5 hd28) (ck5 (C := cw (cw (cw (cu C 0 0 (D 0 0)) 1 (D 1)) 2 (D 2)) 3 (D 3)) hc27) (by decide)) wX2_34 rfl ⟨Nat.le_of_ble_eq_true rfl, Nat.le_of_ble_eq_true rfl⟩ (Nat.le_of_ble_eq_true rfl) ⟨Nat.le_refl _, Nat.le_refl _⟩ (fun r n2 h2 hq => ?_)
  obtain ⟨rfl, rfl, rfl⟩ := hq
  refine v_st (st2 := []) rfl ?_
  refine wr (cq4 (F := (D 4)) (C := cw (cw (cw (cu C 0 0 (D 0 0)) 1 (D 1)) 2 (D 2)) 3 (D 3)) hc27) ho27 (by omega) (fun h1 hc1 ho1 => ?_)
  have hc29 := hc1
  have ho29 := ho1
  clear hc1 ho1
  have hd30 := ct_off hc0 ho29 hd
  refine v_aload_n dX2_take_52 rfl ?_
  refine fX2_28 (v := .ref (q2 + 6)) rfl dX2_take_53 (ck1 hd30) rfl ?_
  refine v_aload_n dX2_take_56 rfl ?_
  refine fX2_28 (v := .ref (q + 6)) rfl dX2_take_57 (ck1 (C := cw (cw (cw (cw (cu C 0 0 (D 0 0)) 1 (D 1)) 2 (D 2)) 3 (D 3)) 4 (D 4)) hc29) rfl ?_
  refine v_callSN (st := []) dX2_take_60 (t_X6_copy (ck6 hd30) (ck6 (C := cw (cw (cw (cw (cu C 0 0 (D 0 0)) 1 (D 1)) 2 (D 2)) 3 (D 3)) 4 (D 4)) hc29) (by decide)) wX2_34 rfl ⟨Nat.le_of_ble_eq_true rfl, Nat.le_of_ble_eq_true rfl⟩ (Nat.le_of_ble_eq_true rfl) ⟨Nat.le_refl _, Nat.le_refl _⟩ (fun r n2 h2 hq => ?_)
  obtain ⟨rfl, rfl, rfl⟩ := hq
  refine v_st (st2 := []) rfl ?_
  refine wr (cq5 (F := (D 5)) (C := cw (cw (cw (cw (cu C 0 0 (D 0 0)) 1 (D 1)) 2 (D 2)) 3 (D 3)) 4 (D 4)) hc29) ho29 (by omega) (fun h1 hc1 ho1 => ?_)
  have hc31 := hc1
  have ho31 := ho1
  clear hc1 ho1
  have hd32 := ct_off hc0 ho31 hd
  refine v_aload_n dX2_take_63 rfl ?_
  refine fX2_31 (v := .ref (q2 + 7)) rfl dX2_take_64 (ck1 hd32) rfl ?_
  refine v_aload_n dX2_take_67 rfl ?_
  refine fX2_31 (v := .ref (q + 7)) rfl dX2_take_68 (ck1 (C := cw (cw (cw (cw (cw (cu C 0 0 (D 0 0)) 1 (D 1)) 2 (D 2)) 3 (D 3)) 4 (D 4)) 5 (D 5)) hc31) rfl ?_
  refine v_callSN (st := []) dX2_take_71 (t_X6_copy (ck7 hd32) (ck7 (C := cw (cw (cw (cw (cw (cu C 0 0 (D 0 0)) 1 (D 1)) 2 (D 2)) 3 (D 3)) 4 (D 4)) 5 (D 5)) hc31) (by decide)) wX2_34 rfl ⟨Nat.le_of_ble_eq_true rfl, Nat.le_of_ble_eq_true rfl⟩ (Nat.le_of_ble_eq_true rfl) ⟨Nat.le_refl _, Nat.le_refl _⟩ (fun r n2 h2 hq => ?_)
  obtain ⟨rfl, rfl, rfl⟩ := hq
  refine v_st (st2 := []) rfl ?_
  refine wr (cq6 (F := (D 6)) (C := cw (cw (cw (cw (cw (cu C 0 0 (D 0 0)) 1 (D 1)) 2 (D 2)) 3 (D 3)) 4 (D 4)) 5 (D 5)) hc31) ho31 (by omega) (fun h1 hc1 ho1 => ?_)
  have hc33 := hc1
  have ho33 := ho1
  clear hc1 ho1
  have hd34 := ct_off hc0 ho33 hd
  refine v_vret dX2_take_74 rfl ?_ (Nat.le_refl _) (Nat.le_refl _)
  exact ⟨rfl, rfl, ct_cong hc33 ⟨j8 ⟨rfl, rfl, rfl, rfl, rfl, rfl, rfl, rfl⟩, f17 ⟨rfl, rfl, rfl, rfl, rfl, rfl, rfl, rfl, rfl, rfl, rfl, rfl, rfl, rfl, rfl, rfl⟩⟩, ho33⟩
set_option maxRecDepth 20000 in
set_option maxHeartbeats 4000000 in
theorem t_X4_take {l : Launch} {G : vG} {n : Nat} {h : AH}  {q q2 : Nat} {C D : Ct} (hc : ct G h q C) (hc0 : ct G h q2 D) (hd : q2 + 20 ≤ q ∨ q + 20 ≤ q2) : Mt l G mX4_take [.ref (q + 8), .ref (q2 + 8)] n h 0 0 (fun r n2 h2 => r = none ∧ n2 = n ∧ ct G h2 q (tkJ C D) ∧ off q h h2) := by
  refine Mt.of (by decide) (Nat.le_of_ble_eq_true rfl) rfl ?_
  refine v_ls (ls2 := [some (.ref (q + 8)), some (.ref (q2 + 8))]) rfl ?_
  refine v_aload_n dX4_take_0 rfl ?_
  refine v_aload_n dX4_take_1 rfl ?_
  refine fX4_9 (v := .int (nI (D 0 1))) rfl dX4_take_2 (ck8 hc0) rfl ?_
  refine pX4_9 rfl dX4_take_5 (ck8 hc) (Nat.le_of_ble_eq_true rfl) ?_
  refine wr (cs1 (x := D 0 1) hc) off_rf (by omega) (fun h1 hc1 ho1 => ?_)
  have hc21 := hc1
  have ho21 := ho1
  clear hc1 ho1
  have hd22 := ct_off hc0 ho21 hd
  refine v_aload_n dX4_take_8 rfl ?_
  refine fX4_15 (v := .ref (q2 + 9)) rfl dX4_take_9 (ck8 hd22) rfl ?_
  refine v_aload_n dX4_take_12 rfl ?_
  refine fX4_15 (v := .ref (q + 9)) rfl dX4_take_13 (ck8 (C := cu C 0 1 (D 0 1)) hc21) rfl ?_
  refine v_callSN (st := []) dX4_take_16 (t_X6_copy (ck9 hd22) (ck9 (C := cu C 0 1 (D 0 1)) hc21) (by decide)) wX4_28 rfl ⟨Nat.le_of_ble_eq_true rfl, Nat.le_of_ble_eq_true rfl⟩ (Nat.le_of_ble_eq_true rfl) ⟨Nat.le_refl _, Nat.le_refl _⟩ (fun r n2 h2 hq => ?_)
  obtain ⟨rfl, rfl, rfl⟩ := hq
  refine v_st (st2 := []) rfl ?_
  refine wr (cq7 (F := (D 7)) (C := cu C 0 1 (D 0 1)) hc21) ho21 (by omega) (fun h1 hc1 ho1 => ?_)
  have hc23 := hc1
  have ho23 := ho1
  clear hc1 ho1
  have hd24 := ct_off hc0 ho23 hd
  refine v_aload_n dX4_take_19 rfl ?_
  refine fX4_19 (v := .ref (q2 + 10)) rfl dX4_take_20 (ck8 hd24) rfl ?_
  refine v_aload_n dX4_take_23 rfl ?_
  refine fX4_19 (v := .ref (q + 10)) rfl dX4_take_24 (ck8 (C := cw (cu C 0 1 (D 0 1)) 7 (D 7)) hc23) rfl ?_
  refine v_callSN (st := []) dX4_take_27 (t_X6_copy (ck10 hd24) (ck10 (C := cw (cu C 0 1 (D 0 1)) 7 (D 7)) hc23) (by decide)) wX4_28 rfl ⟨Nat.le_of_ble_eq_true rfl, Nat.le_of_ble_eq_true rfl⟩ (Nat.le_of_ble_eq_true rfl) ⟨Nat.le_refl _, Nat.le_refl _⟩ (fun r n2 h2 hq => ?_)
  obtain ⟨rfl, rfl, rfl⟩ := hq
  refine v_st (st2 := []) rfl ?_
  refine wr (cq8 (F := (D 8)) (C := cw (cu C 0 1 (D 0 1)) 7 (D 7)) hc23) ho23 (by omega) (fun h1 hc1 ho1 => ?_)
  have hc25 := hc1
  have ho25 := ho1
  clear hc1 ho1
  have hd26 := ct_off hc0 ho25 hd
  refine v_aload_n dX4_take_30 rfl ?_
  refine fX4_22 (v := .ref (q2 + 11)) rfl dX4_take_31 (ck8 hd26) rfl ?_
  refine v_aload_n dX4_take_34 rfl ?_
  refine fX4_22 (v := .ref (q + 11)) rfl dX4_take_35 (ck8 (C := cw (cw (cu C 0 1 (D 0 1)) 7 (D 7)) 8 (D 8)) hc25) rfl ?_
  refine v_callSN (st := []) dX4_take_38 (t_X6_copy (ck11 hd26) (ck11 (C := cw (cw (cu C 0 1 (D 0 1)) 7 (D 7)) 8 (D 8)) hc25) (by decide)) wX4_28 rfl ⟨Nat.le_of_ble_eq_true rfl, Nat.le_of_ble_eq_true rfl⟩ (Nat.le_of_ble_eq_true rfl) ⟨Nat.le_refl _, Nat.le_refl _⟩ (fun r n2 h2 hq => ?_)
  obtain ⟨rfl, rfl, rfl⟩ := hq
  refine v_st (st2 := []) rfl ?_
  refine wr (cq9 (F := (D 9)) (C := cw (cw (cu C 0 1 (D 0 1)) 7 (D 7)) 8 (D 8)) hc25) ho25 (by omega) (fun h1 hc1 ho1 => ?_)
  have hc27 := hc1
  have ho27 := ho1
  clear hc1 ho1
  have hd28 := ct_off hc0 ho27 hd
  refine v_aload_n dX4_take_41 rfl ?_
  refine fX4_25 (v := .ref (q2 + 12)) rfl dX4_take_42 (ck8 hd28) rfl ?_
  refine v_aload_n dX4_take_45 rfl ?_
  refine fX4_25 (v := .ref (q + 12)) rfl dX4_take_46 (ck8 (C := cw (cw (cw (cu C 0 1 (D 0 1)) 7 (D 7)) 8 (D 8)) 9 (D 9)) hc27) rfl ?_
  refine v_callSN (st := []) dX4_take_49 (t_X6_copy (ck12 hd28) (ck12 (C := cw (cw (cw (cu C 0 1 (D 0 1)) 7 (D 7)) 8 (D 8)) 9 (D 9)) hc27) (by decide)) wX4_28 rfl ⟨Nat.le_of_ble_eq_true rfl, Nat.le_of_ble_eq_true rfl⟩ (Nat.le_of_ble_eq_true rfl) ⟨Nat.le_refl _, Nat.le_refl _⟩ (fun r n2 h2 hq => ?_)
  obtain ⟨rfl, rfl, rfl⟩ := hq
  refine v_st (st2 := []) rfl ?_
  refine wr (cq10 (F := (D 10)) (C := cw (cw (cw (cu C 0 1 (D 0 1)) 7 (D 7)) 8 (D 8)) 9 (D 9)) hc27) ho27 (by omega) (fun h1 hc1 ho1 => ?_)
  have hc29 := hc1
  have ho29 := ho1
  clear hc1 ho1
  have hd30 := ct_off hc0 ho29 hd
  refine v_vret dX4_take_52 rfl ?_ (Nat.le_refl _) (Nat.le_refl _)
  exact ⟨rfl, rfl, ct_cong hc29 ⟨j8 ⟨rfl, rfl, rfl, rfl, rfl, rfl, rfl, rfl⟩, f17 ⟨rfl, rfl, rfl, rfl, rfl, rfl, rfl, rfl, rfl, rfl, rfl, rfl, rfl, rfl, rfl, rfl⟩⟩, ho29⟩
set_option maxRecDepth 20000 in
set_option maxHeartbeats 4000000 in
theorem t_X0_take {l : Launch} {G : vG} {n : Nat} {h : AH}  {q q2 : Nat} {C D : Ct} (hc : ct G h q C) (hc0 : ct G h q2 D) (hd : q2 + 20 ≤ q ∨ q + 20 ≤ q2) : Mt l G mX0_take [.ref (q + 13), .ref (q2 + 13)] n h 0 0 (fun r n2 h2 => r = none ∧ n2 = n ∧ ct G h2 q (tkB C D) ∧ off q h h2) := by
  refine Mt.of (by decide) (Nat.le_of_ble_eq_true rfl) rfl ?_
  refine v_ls (ls2 := [some (.ref (q + 13)), some (.ref (q2 + 13))]) rfl ?_
  refine v_aload_n dX0_take_0 rfl ?_
  refine v_aload_n dX0_take_1 rfl ?_
  refine fX0_9 (v := .int (nI (D 0 2))) rfl dX0_take_2 (ck13 hc0) rfl ?_
  refine pX0_9 rfl dX0_take_5 (ck13 hc) (Nat.le_of_ble_eq_true rfl) ?_
  refine wr (cs2 (x := D 0 2) hc) off_rf (by omega) (fun h1 hc1 ho1 => ?_)
  have hc21 := hc1
  have ho21 := ho1
  clear hc1 ho1
  have hd22 := ct_off hc0 ho21 hd
  refine v_aload_n dX0_take_8 rfl ?_
  refine fX0_15 (v := .ref (q2 + 14)) rfl dX0_take_9 (ck13 hd22) rfl ?_
  refine v_aload_n dX0_take_12 rfl ?_
  refine fX0_15 (v := .ref (q + 14)) rfl dX0_take_13 (ck13 (C := cu C 0 2 (D 0 2)) hc21) rfl ?_
  refine v_callSN (st := []) dX0_take_16 (t_X6_copy (ck14 hd22) (ck14 (C := cu C 0 2 (D 0 2)) hc21) (by decide)) wX0_28 rfl ⟨Nat.le_of_ble_eq_true rfl, Nat.le_of_ble_eq_true rfl⟩ (Nat.le_of_ble_eq_true rfl) ⟨Nat.le_refl _, Nat.le_refl _⟩ (fun r n2 h2 hq => ?_)
  obtain ⟨rfl, rfl, rfl⟩ := hq
  refine v_st (st2 := []) rfl ?_
  refine wr (cq11 (F := (D 11)) (C := cu C 0 2 (D 0 2)) hc21) ho21 (by omega) (fun h1 hc1 ho1 => ?_)
  have hc23 := hc1
  have ho23 := ho1
  clear hc1 ho1
  have hd24 := ct_off hc0 ho23 hd
  refine v_aload_n dX0_take_19 rfl ?_
  refine fX0_19 (v := .ref (q2 + 15)) rfl dX0_take_20 (ck13 hd24) rfl ?_
  refine v_aload_n dX0_take_23 rfl ?_
  refine fX0_19 (v := .ref (q + 15)) rfl dX0_take_24 (ck13 (C := cw (cu C 0 2 (D 0 2)) 11 (D 11)) hc23) rfl ?_
  refine v_callSN (st := []) dX0_take_27 (t_X6_copy (ck15 hd24) (ck15 (C := cw (cu C 0 2 (D 0 2)) 11 (D 11)) hc23) (by decide)) wX0_28 rfl ⟨Nat.le_of_ble_eq_true rfl, Nat.le_of_ble_eq_true rfl⟩ (Nat.le_of_ble_eq_true rfl) ⟨Nat.le_refl _, Nat.le_refl _⟩ (fun r n2 h2 hq => ?_)
  obtain ⟨rfl, rfl, rfl⟩ := hq
  refine v_st (st2 := []) rfl ?_
  refine wr (cq12 (F := (D 12)) (C := cw (cu C 0 2 (D 0 2)) 11 (D 11)) hc23) ho23 (by omega) (fun h1 hc1 ho1 => ?_)
  have hc25 := hc1
  have ho25 := ho1
  clear hc1 ho1
  have hd26 := ct_off hc0 ho25 hd
  refine v_aload_n dX0_take_30 rfl ?_
  refine fX0_22 (v := .ref (q2 + 16)) rfl dX0_take_31 (ck13 hd26) rfl ?_
  refine v_aload_n dX0_take_34 rfl ?_
  refine fX0_22 (v := .ref (q + 16)) rfl dX0_take_35 (ck13 (C := cw (cw (cu C 0 2 (D 0 2)) 11 (D 11)) 12 (D 12)) hc25) rfl ?_
  refine v_callSN (st := []) dX0_take_38 (t_X6_copy (ck16 hd26) (ck16 (C := cw (cw (cu C 0 2 (D 0 2)) 11 (D 11)) 12 (D 12)) hc25) (by decide)) wX0_28 rfl ⟨Nat.le_of_ble_eq_true rfl, Nat.le_of_ble_eq_true rfl⟩ (Nat.le_of_ble_eq_true rfl) ⟨Nat.le_refl _, Nat.le_refl _⟩ (fun r n2 h2 hq => ?_)
  obtain ⟨rfl, rfl, rfl⟩ := hq
  refine v_st (st2 := []) rfl ?_
  refine wr (cq13 (F := (D 13)) (C := cw (cw (cu C 0 2 (D 0 2)) 11 (D 11)) 12 (D 12)) hc25) ho25 (by omega) (fun h1 hc1 ho1 => ?_)
  have hc27 := hc1
  have ho27 := ho1
  clear hc1 ho1
  have hd28 := ct_off hc0 ho27 hd
  refine v_aload_n dX0_take_41 rfl ?_
  refine fX0_25 (v := .ref (q2 + 17)) rfl dX0_take_42 (ck13 hd28) rfl ?_
  refine v_aload_n dX0_take_45 rfl ?_
  refine fX0_25 (v := .ref (q + 17)) rfl dX0_take_46 (ck13 (C := cw (cw (cw (cu C 0 2 (D 0 2)) 11 (D 11)) 12 (D 12)) 13 (D 13)) hc27) rfl ?_
  refine v_callSN (st := []) dX0_take_49 (t_X6_copy (ck17 hd28) (ck17 (C := cw (cw (cw (cu C 0 2 (D 0 2)) 11 (D 11)) 12 (D 12)) 13 (D 13)) hc27) (by decide)) wX0_28 rfl ⟨Nat.le_of_ble_eq_true rfl, Nat.le_of_ble_eq_true rfl⟩ (Nat.le_of_ble_eq_true rfl) ⟨Nat.le_refl _, Nat.le_refl _⟩ (fun r n2 h2 hq => ?_)
  obtain ⟨rfl, rfl, rfl⟩ := hq
  refine v_st (st2 := []) rfl ?_
  refine wr (cq14 (F := (D 14)) (C := cw (cw (cw (cu C 0 2 (D 0 2)) 11 (D 11)) 12 (D 12)) 13 (D 13)) hc27) ho27 (by omega) (fun h1 hc1 ho1 => ?_)
  have hc29 := hc1
  have ho29 := ho1
  clear hc1 ho1
  have hd30 := ct_off hc0 ho29 hd
  refine v_vret dX0_take_52 rfl ?_ (Nat.le_refl _) (Nat.le_refl _)
  exact ⟨rfl, rfl, ct_cong hc29 ⟨j8 ⟨rfl, rfl, rfl, rfl, rfl, rfl, rfl, rfl⟩, f17 ⟨rfl, rfl, rfl, rfl, rfl, rfl, rfl, rfl, rfl, rfl, rfl, rfl, rfl, rfl, rfl, rfl⟩⟩, ho29⟩
set_option maxRecDepth 20000 in
set_option maxHeartbeats 4000000 in
theorem t_X1_take {l : Launch} {G : vG} {n : Nat} {h : AH}  {q q2 : Nat} {C D : Ct} (hc : ct G h q C) (hc0 : ct G h q2 D) (hd : q2 + 20 ≤ q ∨ q + 20 ≤ q2) : Mt l G mX1_take [.ref q, .ref q2] n h 0 0 (fun r n2 h2 => r = none ∧ n2 = n ∧ ct G h2 q (D) ∧ off q h h2) := by
  refine Mt.of (by decide) (Nat.le_of_ble_eq_true rfl) rfl ?_
  refine v_ls (ls2 := [some (.ref q), some (.ref q2)]) rfl ?_
  refine v_aload_n dX1_take_0 rfl ?_
  refine fX1_12 (v := .ref (q + 1)) rfl dX1_take_1 (ck0 hc) rfl ?_
  refine v_aload_n dX1_take_4 rfl ?_
  refine fX1_12 (v := .ref (q2 + 1)) rfl dX1_take_5 (ck0 hc0) rfl ?_
  refine v_callV (st := []) dX1_take_8 (t_X2_take hc hc0 hd) wX1_55 (ck1 hc) rfl rfl ⟨Nat.le_of_ble_eq_true rfl, Nat.le_of_ble_eq_true rfl⟩ (Nat.le_of_ble_eq_true rfl) ⟨Nat.le_refl _, Nat.le_refl _⟩ (fun r n2 h2 hq => ?_)
  obtain ⟨rfl, rfl, hc9, ho9⟩ := hq
  refine v_st (st2 := []) rfl ?_
  have hc21 := hc9
  have ho21 := off_tr off_rf ho9
  clear hc9 ho9
  have hd22 := ct_off hc0 ho21 hd
  refine v_aload_n dX1_take_11 rfl ?_
  refine fX1_21 (v := .ref (q + 8)) rfl dX1_take_12 (ck0 hc21) rfl ?_
  refine v_aload_n dX1_take_15 rfl ?_
  refine fX1_21 (v := .ref (q2 + 8)) rfl dX1_take_16 (ck0 hd22) rfl ?_
  refine v_callV (st := []) dX1_take_19 (t_X4_take hc21 hd22 hd) wX1_59 (ck8 hc21) rfl rfl ⟨Nat.le_of_ble_eq_true rfl, Nat.le_of_ble_eq_true rfl⟩ (Nat.le_of_ble_eq_true rfl) ⟨Nat.le_refl _, Nat.le_refl _⟩ (fun r n2 h2 hq => ?_)
  obtain ⟨rfl, rfl, hc9, ho9⟩ := hq
  refine v_st (st2 := []) rfl ?_
  have hc23 := hc9
  have ho23 := off_tr ho21 ho9
  clear hc9 ho9
  have hd24 := ct_off hc0 ho23 hd
  refine v_aload_n dX1_take_22 rfl ?_
  refine fX1_28 (v := .ref (q + 13)) rfl dX1_take_23 (ck0 hc23) rfl ?_
  refine v_aload_n dX1_take_26 rfl ?_
  refine fX1_28 (v := .ref (q2 + 13)) rfl dX1_take_27 (ck0 hd24) rfl ?_
  refine v_callV (st := []) dX1_take_30 (t_X0_take hc23 hd24 hd) wX1_62 (ck13 hc23) rfl rfl ⟨Nat.le_of_ble_eq_true rfl, Nat.le_of_ble_eq_true rfl⟩ (Nat.le_of_ble_eq_true rfl) ⟨Nat.le_refl _, Nat.le_refl _⟩ (fun r n2 h2 hq => ?_)
  obtain ⟨rfl, rfl, hc9, ho9⟩ := hq
  refine v_st (st2 := []) rfl ?_
  have hc25 := hc9
  have ho25 := off_tr ho23 ho9
  clear hc9 ho9
  have hd26 := ct_off hc0 ho25 hd
  refine v_aload_n dX1_take_33 rfl ?_
  refine fX1_32 (v := .ref (q2 + 18)) rfl dX1_take_34 (ck0 hd26) rfl ?_
  refine v_aload_n dX1_take_37 rfl ?_
  refine fX1_32 (v := .ref (q + 18)) rfl dX1_take_38 (ck0 hc25) rfl ?_
  refine v_callSN (st := []) dX1_take_41 (t_X6_copy (ck18 hd26) (ck18 hc25) (by decide)) wX1_65 rfl ⟨Nat.le_of_ble_eq_true rfl, Nat.le_of_ble_eq_true rfl⟩ (Nat.le_of_ble_eq_true rfl) ⟨Nat.le_refl _, Nat.le_refl _⟩ (fun r n2 h2 hq => ?_)
  obtain ⟨rfl, rfl, rfl⟩ := hq
  refine v_st (st2 := []) rfl ?_
  refine wr (cq15 (F := (D 15)) hc25) ho25 (by omega) (fun h1 hc1 ho1 => ?_)
  have hc27 := hc1
  have ho27 := ho1
  clear hc1 ho1
  have hd28 := ct_off hc0 ho27 hd
  refine v_aload_n dX1_take_44 rfl ?_
  refine fX1_36 (v := .ref (q2 + 19)) rfl dX1_take_45 (ck0 hd28) rfl ?_
  refine v_aload_n dX1_take_48 rfl ?_
  refine fX1_36 (v := .ref (q + 19)) rfl dX1_take_49 (ck0 (C := cw (tkB (tkJ (tkF C D) D) D) 15 (D 15)) hc27) rfl ?_
  refine v_callSN (st := []) dX1_take_52 (t_X6_copy (ck19 hd28) (ck19 (C := cw (tkB (tkJ (tkF C D) D) D) 15 (D 15)) hc27) (by decide)) wX1_65 rfl ⟨Nat.le_of_ble_eq_true rfl, Nat.le_of_ble_eq_true rfl⟩ (Nat.le_of_ble_eq_true rfl) ⟨Nat.le_refl _, Nat.le_refl _⟩ (fun r n2 h2 hq => ?_)
  obtain ⟨rfl, rfl, rfl⟩ := hq
  refine v_st (st2 := []) rfl ?_
  refine wr (cq16 (F := (D 16)) (C := cw (tkB (tkJ (tkF C D) D) D) 15 (D 15)) hc27) ho27 (by omega) (fun h1 hc1 ho1 => ?_)
  have hc29 := hc1
  have ho29 := ho1
  clear hc1 ho1
  have hd30 := ct_off hc0 ho29 hd
  refine v_aload_n dX1_take_55 rfl ?_
  refine v_aload_n dX1_take_56 rfl ?_
  refine fX1_39 (v := .int (nI (D 0 3))) rfl dX1_take_57 (ck0 hd30) rfl ?_
  refine pX1_39 rfl dX1_take_60 (ck0 (C := cw (cw (tkB (tkJ (tkF C D) D) D) 15 (D 15)) 16 (D 16)) hc29) (Nat.le_of_ble_eq_true rfl) ?_
  refine wr (cs3 (x := D 0 3) (C := cw (cw (tkB (tkJ (tkF C D) D) D) 15 (D 15)) 16 (D 16)) hc29) ho29 (by omega) (fun h1 hc1 ho1 => ?_)
  have hc31 := hc1
  have ho31 := ho1
  clear hc1 ho1
  have hd32 := ct_off hc0 ho31 hd
  refine v_aload_n dX1_take_63 rfl ?_
  refine v_aload_n dX1_take_64 rfl ?_
  refine fX1_43 (v := .int (nI (D 0 4))) rfl dX1_take_65 (ck0 hd32) rfl ?_
  refine pX1_43 rfl dX1_take_68 (ck0 (C := cu (cw (cw (tkB (tkJ (tkF C D) D) D) 15 (D 15)) 16 (D 16)) 0 3 (D 0 3)) hc31) (Nat.le_of_ble_eq_true rfl) ?_
  refine wr (cs4 (x := D 0 4) (C := cu (cw (cw (tkB (tkJ (tkF C D) D) D) 15 (D 15)) 16 (D 16)) 0 3 (D 0 3)) hc31) ho31 (by omega) (fun h1 hc1 ho1 => ?_)
  have hc33 := hc1
  have ho33 := ho1
  clear hc1 ho1
  have hd34 := ct_off hc0 ho33 hd
  refine v_aload_n dX1_take_71 rfl ?_
  refine v_aload_n dX1_take_72 rfl ?_
  refine fX1_46 (v := .int (nI (D 0 5))) rfl dX1_take_73 (ck0 hd34) rfl ?_
  refine pX1_46 rfl dX1_take_76 (ck0 (C := cu (cu (cw (cw (tkB (tkJ (tkF C D) D) D) 15 (D 15)) 16 (D 16)) 0 3 (D 0 3)) 0 4 (D 0 4)) hc33) (Nat.le_of_ble_eq_true rfl) ?_
  refine wr (cs5 (x := D 0 5) (C := cu (cu (cw (cw (tkB (tkJ (tkF C D) D) D) 15 (D 15)) 16 (D 16)) 0 3 (D 0 3)) 0 4 (D 0 4)) hc33) ho33 (by omega) (fun h1 hc1 ho1 => ?_)
  have hc35 := hc1
  have ho35 := ho1
  clear hc1 ho1
  have hd36 := ct_off hc0 ho35 hd
  refine v_aload_n dX1_take_79 rfl ?_
  refine v_aload_n dX1_take_80 rfl ?_
  refine fX1_49 (v := .int (nI (D 0 6))) rfl dX1_take_81 (ck0 hd36) rfl ?_
  refine pX1_49 rfl dX1_take_84 (ck0 (C := cu (cu (cu (cw (cw (tkB (tkJ (tkF C D) D) D) 15 (D 15)) 16 (D 16)) 0 3 (D 0 3)) 0 4 (D 0 4)) 0 5 (D 0 5)) hc35) (Nat.le_of_ble_eq_true rfl) ?_
  refine wr (cs6 (x := D 0 6) (C := cu (cu (cu (cw (cw (tkB (tkJ (tkF C D) D) D) 15 (D 15)) 16 (D 16)) 0 3 (D 0 3)) 0 4 (D 0 4)) 0 5 (D 0 5)) hc35) ho35 (by omega) (fun h1 hc1 ho1 => ?_)
  have hc37 := hc1
  have ho37 := ho1
  clear hc1 ho1
  have hd38 := ct_off hc0 ho37 hd
  refine v_aload_n dX1_take_87 rfl ?_
  refine v_aload_n dX1_take_88 rfl ?_
  refine fX1_52 (v := .int (nI (D 0 7))) rfl dX1_take_89 (ck0 hd38) rfl ?_
  refine pX1_52 rfl dX1_take_92 (ck0 (C := cu (cu (cu (cu (cw (cw (tkB (tkJ (tkF C D) D) D) 15 (D 15)) 16 (D 16)) 0 3 (D 0 3)) 0 4 (D 0 4)) 0 5 (D 0 5)) 0 6 (D 0 6)) hc37) (Nat.le_of_ble_eq_true rfl) ?_
  refine wr (cs7 (x := D 0 7) (C := cu (cu (cu (cu (cw (cw (tkB (tkJ (tkF C D) D) D) 15 (D 15)) 16 (D 16)) 0 3 (D 0 3)) 0 4 (D 0 4)) 0 5 (D 0 5)) 0 6 (D 0 6)) hc37) ho37 (by omega) (fun h1 hc1 ho1 => ?_)
  have hc39 := hc1
  have ho39 := ho1
  clear hc1 ho1
  have hd40 := ct_off hc0 ho39 hd
  refine v_vret dX1_take_95 rfl ?_ (Nat.le_refl _) (Nat.le_refl _)
  exact ⟨rfl, rfl, ct_cong hc39 ⟨j8 ⟨rfl, rfl, rfl, rfl, rfl, rfl, rfl, rfl⟩, f17 ⟨rfl, rfl, rfl, rfl, rfl, rfl, rfl, rfl, rfl, rfl, rfl, rfl, rfl, rfl, rfl, rfl⟩⟩, ho39⟩
