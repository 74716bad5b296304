theorem wJ4_329 : cSU RJ4 329 mJ5_charAt_5068e 1 := ⟨q3_52, q5_133, q1_236, q3_53, q1_8, q3_54, by decide +kernel, by decide +kernel⟩
theorem wJ4_333 : cSU RJ4 333 mJ5_setLength_d00df 1 := ⟨q3_150, q5_134, q1_236, q3_151, q1_8, q3_152, by decide +kernel, by decide +kernel⟩
theorem wJ4_343 : cSU RJ4 343 mJ5_length_8abf5 0 := ⟨q3_45, q5_132, q1_236, q3_46, q1_8, q3_47, by decide +kernel, by decide +kernel⟩
theorem wJ4_50 : cSU RJ4 50 mJ5_append_3fe6f 1 := ⟨q4_130, q5_138, q1_236, q4_131, q1_8, q4_132, by decide +kernel, by decide +kernel⟩
theorem wJ4_53 : cSU RJ4 53 mJ5_append_c97b9 1 := ⟨q4_93, q5_137, q1_236, q4_94, q1_8, q4_95, by decide +kernel, by decide +kernel⟩
theorem wJ5_100 : cU RJ5 100 mJ5_ensureCapacityInternal_d00df RJ4 1 := ⟨q3_153, q5_135, sx0, q3_155, q1_8, q3_156, by decide +kernel, by decide +kernel, by decide +kernel⟩
theorem wJ5_104 : cU RJ5 104 mJ5_newCapacity_0f7a4 RJ4 1 := ⟨q3_157, q5_136, sx1, q3_159, q1_8, q3_160, by decide +kernel, by decide +kernel, by decide +kernel⟩
theorem wJ5_83 : cU RJ5 83 mJ5_isLatin1_aae02 RJ4 0 := ⟨q3_182, q3_184, q3_185, q3_183, q1_8, q3_186, by decide +kernel, by decide +kernel, by decide +kernel⟩
theorem n_bastN {l : Launch} {G : vG} {M : vM} {rc rs : Nat} {Fz : vFin} {pc : Nat} {ls : List (Option Value)} {st : List Value} {n : Nat} {h : AH} {cells slots : Nat} {a k j v : Nat} {f : Nat → Int32} (hd : decode M.2.1 pc = .ok (.bastore, 1)) (he : h a = some (.inl (gC G 2, k, .inl f))) (hj : j < k) (hk : k < 2 ^ 31) (kk : V l G M rc rs Fz (pc + 1) ls st n (va_up h a (some (.inl (gC G 2, k, .inl (upd f j (sb_b v)))))) cells slots) : V l G M rc rs Fz pc ls (.int (nI v) :: .int (nI j) :: .ref a :: st) n h cells slots :=
  v_bast hd he (vp_in_nI hj hk) (by rw [nI_clamp (Nat.lt_trans hj hk), vp_nar_byte]; exact kk)
theorem n_bastS {l : Launch} {G : vG} {M : vM} {rc rs : Nat} {Fz : vFin} {pc : Nat} {ls : List (Option Value)} {st : List Value} {n : Nat} {h : AH} {cells slots : Nat} {a k j v : Nat} {f : Nat → Int32} (hd : decode M.2.1 pc = .ok (.bastore, 1)) (he : h a = some (.inl (gC G 2, k, .inl f))) (hj : j < k) (hk : k < 2 ^ 31) (kk : V l G M rc rs Fz (pc + 1) ls st n (va_up h a (some (.inl (gC G 2, k, .inl (upd f j (sb_b v)))))) cells slots) : V l G M rc rs Fz pc ls (.int (sb_b v) :: .int (nI j) :: .ref a :: st) n h cells slots :=
  v_bast hd he (vp_in_nI hj hk) (by rw [nI_clamp (Nat.lt_trans hj hk), show vp_nar .byte (sb_b v) = sb_b v from pk_vb _]; exact kk)
theorem n_baldS {l : Launch} {G : vG} {M : vM} {rc rs : Nat} {Fz : vFin} {pc : Nat} {ls : List (Option Value)} {st : List Value} {n : Nat} {h : AH} {cells slots : Nat} {a k j : Nat} {f : Nat → Int32} {y : Int32} (hd : decode M.2.1 pc = .ok (.baload, 1)) (he : h a = some (.inl (gC G 2, k, .inl f))) (hj : j < k) (hk : k < 2 ^ 31) (hv : f j = y) (kk : V l G M rc rs Fz (pc + 1) ls (.int y :: st) n h cells slots) : V l G M rc rs Fz pc ls (.int (nI j) :: .ref a :: st) n h cells slots :=
  v_bald hd he (vp_in_nI hj hk) (by rw [nI_clamp (Nat.lt_trans hj hk), hv]; exact kk)
theorem n_if_sle {l : Launch} {G : vG} {M : vM} {rc rs : Nat} {Fz : vFin} {pc : Nat} {ls : List (Option Value)} {st : List Value} {n : Nat} {h : AH} {cells slots : Nat} {x y : Nat} {off : Int} {tgt : Nat} (hd : decode M.2.1 pc = .ok (.ifCond .le off, 3)) (ht : (pc : Int) + off = (tgt : Int)) (hx : x < 2 ^ 30) (hy : y < 2 ^ 30) (kt : x ≤ y → V l G M rc rs Fz tgt ls st n h cells slots) (kf : y < x → V l G M rc rs Fz (pc + 3) ls st n h cells slots) : V l G M rc rs Fz pc ls (.int (nI x - nI y) :: st) n h cells slots := by
  have e := pk_sub_toInt hx hy
  refine v_if_le hd ht (fun z => kt ?_) (fun z => kf ?_)
  · rw [Int32.le_iff_toInt_le, e, Int32.toInt_zero] at z
    omega
  · rw [Int32.le_iff_toInt_le, e, Int32.toInt_zero] at z
    omega
theorem n_copyB {l : Launch} {G : vG} {M : vM} {rc rs : Nat} {Fz : vFin} {pc : Nat} {ls : List (Option Value)} {st : List Value} {n : Nat} {h : AH} {cells slots : Nat} {index a0 a m k x : Nat} {f g : Nat → Int32} (hd : decode M.2.1 pc = .ok (.invokestatic index, 3)) (hlink : Cond.methodLink M.1.cls index arraycopyName ∈ gw) (ha0 : h a0 = some (.inl (gC G 2, m, .inl f))) (ha1 : h a = some (.inl (gC G 2, k, .inl g))) (hx : x ≤ m) (hx2 : x ≤ k) (hk : k < 2 ^ 31) (hf : sb_Fit f) (hfr : 1 ≤ M.2.2.2.2.1) (hlo : (st.map fun v => v.category).sum + (nativeFrameWords "java/lang/System" "arraycopy" 5 + 11) ≤ M.2.2.2.2.2) (kk : V l G M rc rs Fz (pc + 3) ls st n (va_up h a (some (.inl (gC G 2, k, .inl (va_cpy f g 0 0 x))))) cells slots) : V l G M rc rs Fz pc ls (.int (nI x) :: .int (nI 0) :: .ref a :: .int (nI 0) :: .ref a0 :: st) n h cells slots := by
  have e0 : (nI 0).toNatClampNeg = 0 := nI_clamp (by decide)
  have ek : (nI x).toNatClampNeg = x := nI_clamp (by omega)
  refine v_copy (t := 2) (ty := .byte) hd hlink q2_74 q2_73 q1_13 ha0 ha1 rfl rfl (nI_pos (by decide)) (nI_pos (by decide)) (nI_pos (by omega)) (by rw [e0, ek]; omega) (by rw [e0, ek]; omega) (fun _ _ => hf _) hfr hlo ?_
  rw [e0, ek]
  exact kk
theorem n_obj_ne {h : AH} {s a ci : Nat} {vs : List Value} {z : ClassId × Nat × ((Nat → Int32) ⊕ (Nat → Int64) ⊕ (Nat → UInt32) ⊕ (Nat → UInt64) ⊕ (Nat → Option Nat))} (hs : h s = some (.inr (ci, vs))) (ha : h a = some (.inl z)) : s ≠ a := fun e => by rw [e, ha] at hs; cases hs
theorem v_nb {l : Launch} {G : vG} {M : vM} {rc rs : Nat} {Fz : vFin} {pc : Nat} {ls : List (Option Value)} {st : List Value} {n : Nat} {h : AH} {cells slots : Nat} {k : Nat} (hd : decode M.2.1 pc = .ok (.newarray .byte, 2)) (hk : k ≤ 100000) (hc1 : cells + 1 ≤ rc) (hs1 : slots + k ≤ rs) (kk : ∀ h1 : AH, h1 n = some (.inl (gC G 2, k, .inl (fun _ => 0))) → offn 1 n h h1 → V l G M rc rs Fz (pc + 2) ls (.ref n :: st) (n + 1) h1 rc rs) : V l G M rc rs Fz pc ls (.int (nI k) :: st) n h cells slots :=
  nnb hd hk hc1 hs1 (fun h1 f1 s1 => v_widen hc1 hs1 (kk h1 f1 s1))
theorem cap_gt {q m : Nat} (h : m < q) : m + max (q - m) (m + 2) = sb_cap q m := by
  unfold sb_cap
  rw [if_neg (by omega)]
  split <;> omega
theorem cap_le {q m : Nat} (h : q ≤ m) : sb_cap q m = m := if_pos h
/-- a StringBuilder at s with the text t of n letters, its bytes at a, m of them -/
def sbP (G : vG) (h : AH) (s a m : Nat) (t : Nat → Nat) (k mb : Nat) : Prop := h s = some (.inr (0, [.ref a, .int (nI 0), .int (nI mb), .int (nI k)])) ∧ ∃ f : Nat → Int32, h a = some (.inl (gC G 2, m, .inl f)) ∧ sb_Lat t k f ∧ sb_Fit f ∧ k ≤ m
set_option maxRecDepth 20000 in
set_option maxHeartbeats 4000000 in
theorem t_J5_init_d00df {l : Launch} {G : vG} {h : AH} {a : Nat} (ha : h a = some (.inr (0, [.null, .int 0, .int 0, .int 0]))) : Mt l G mJ5_init_d00df [.ref a, .int (nI 16)] (a + 1) h 1 16 (fun r n2 h2 => r = none ∧ n2 = a + 2 ∧ h2 a = some (.inr (0, [.ref (a + 1), .int (nI 0), .int 0, .int 0])) ∧ h2 (a + 1) = some (.inl (gC G 2, 16, .inl (fun _ => 0))) ∧ offn 2 a h h2) := by
  refine Mt.of (by decide) (Nat.le_of_ble_eq_true rfl) rfl ?_
  refine v_ls (ls2 := [some (.ref a), some (.int (nI 16))]) rfl ?_
  refine v_aload_n dJ5_init_d00df_0 rfl ?_
  refine v_objinit dJ5_init_d00df_1 q1_213 q1_26 q1_27 (Nat.le_of_ble_eq_true rfl) (Nat.le_of_ble_eq_true rfl) ?_
  refine v_gsC dJ5_init_d00df_4 q1_214 ?_
  refine v_st (st2 := [.int (nI 1)]) rfl ?_
  refine n_if_eq (tgt := 25) (x := 1) dJ5_init_d00df_7 (by decide) (by decide) (fun c => absurd c (by decide)) (fun _ => ?_)
  refine v_aload_n dJ5_init_d00df_10 rfl ?_
  refine v_iload_n dJ5_init_d00df_11 rfl ?_
  refine nnb (k := 16) dJ5_init_d00df_12 (by decide) (Nat.le_of_ble_eq_true rfl) (Nat.le_of_ble_eq_true rfl) (fun h1 f1 s1 => ?_)
  have fa21 := f1
  have sa21 := s1
  clear f1 s1
  refine v_n (n2 := a + 2) rfl ?_
  have fa22 := (sa21 (a) (by omega)).trans ha
  have fr23 := offn_in (k := 2) (q := a) offn_rf sa21 (by omega)
  refine pJ5_15 rfl dJ5_init_d00df_14 fa22 (Nat.le_of_ble_eq_true rfl) ?_
  refine nw (fun h1 f1 s1 => ?_)
  have fa24 : h1 (a) = some (.inr (0, [.ref (a + 1), .int 0, .int 0, .int 0])) := f1
  have sa24 := s1
  clear f1 s1
  have fr25 := offn_in (k := 2) (q := a) fr23 sa24 (by omega)
  have fa26 := (sa24 (a + 1) (by omega)).trans fa21
  refine v_aload_n dJ5_init_d00df_17 rfl ?_
  refine v_iconst (v := nI 0) dJ5_init_d00df_18 (by decide) ?_
  refine pJ5_22 rfl dJ5_init_d00df_19 fa24 (Nat.le_of_ble_eq_true rfl) (by decide) (by decide) ?_
  refine nw (fun h1 f1 s1 => ?_)
  have fa27 : h1 (a) = some (.inr (0, [.ref (a + 1), .int (nI 0), .int 0, .int 0])) := f1
  have sa27 := s1
  clear f1 s1
  have fr28 := offn_in (k := 2) (q := a) fr25 sa27 (by omega)
  have fa29 := (sa27 (a + 1) (by omega)).trans fa26
  refine v_goto (tgt := 38) dJ5_init_d00df_22 (by decide) ?_
  refine v_vret dJ5_init_d00df_38 rfl ?_ (Nat.le_of_ble_eq_true rfl) (Nat.le_of_ble_eq_true rfl)
  exact ⟨rfl, rfl, fa27, fa29, fr28⟩
set_option maxRecDepth 20000 in
set_option maxHeartbeats 4000000 in
theorem t_J4_init_da8c8 {l : Launch} {G : vG} {h : AH} {a : Nat} (ha : h a = some (.inr (0, [.null, .int 0, .int 0, .int 0]))) : Mt l G mJ4_init_da8c8 [.ref a] (a + 1) h 1 16 (fun r n2 h2 => r = none ∧ n2 = a + 2 ∧ h2 a = some (.inr (0, [.ref (a + 1), .int (nI 0), .int 0, .int 0])) ∧ h2 (a + 1) = some (.inl (gC G 2, 16, .inl (fun _ => 0))) ∧ offn 2 a h h2) := by
  refine Mt.of (by decide) (Nat.le_of_ble_eq_true rfl) rfl ?_
  refine v_ls (ls2 := [some (.ref a)]) rfl ?_
  refine v_aload_n dJ4_init_da8c8_0 rfl ?_
  refine v_bipush (v := nI 16) dJ4_init_da8c8_1 (by decide) ?_
  refine v_callI (st := []) dJ4_init_da8c8_3 (t_J5_init_d00df ha) wJ4_1 rfl rfl ⟨Nat.le_of_ble_eq_true rfl, Nat.le_of_ble_eq_true rfl⟩ (Nat.le_of_ble_eq_true rfl) ⟨Nat.le_of_ble_eq_true rfl, Nat.le_of_ble_eq_true rfl⟩ (fun r n2 h2 hq => ?_)
  obtain ⟨rfl, rfl, fa22, fa23, sa21⟩ := hq
  refine v_st (st2 := []) rfl ?_
  refine v_n (n2 := a + 2) rfl ?_
  have fr24 := offn_in (k := 2) (q := a) offn_rf sa21 (by omega)
  refine v_vret dJ4_init_da8c8_6 rfl ?_ (Nat.le_of_ble_eq_true rfl) (Nat.le_of_ble_eq_true rfl)
  exact ⟨rfl, rfl, fa22, fa23, fr24⟩
set_option maxRecDepth 20000 in
set_option maxHeartbeats 4000000 in
theorem t_J5_length_8abf5 {l : Launch} {G : vG} {h : AH} {n : Nat} {s a mb k m : Nat} {f : Nat → Int32} (hs : h s = some (.inr (0, [.ref a, .int (nI 0), .int (nI mb), .int (nI k)]))) (ha : h a = some (.inl (gC G 2, m, .inl f))) : Mt l G mJ5_length_8abf5 [.ref s] (n) h 0 0 (fun r n2 h2 => r = some (.int (nI k)) ∧ n2 = n ∧ h2 = h) := by
  refine Mt.of (by decide) (Nat.le_of_ble_eq_true rfl) rfl ?_
  refine v_ls (ls2 := [some (.ref s)]) rfl ?_
  refine v_aload_n dJ5_length_8abf5_0 rfl ?_
  refine fJ5_79 (v := .int (nI k)) rfl dJ5_length_8abf5_1 hs rfl ?_
  refine v_iret dJ5_length_8abf5_4 rfl ?_ (Nat.le_of_ble_eq_true rfl) (Nat.le_of_ble_eq_true rfl)
  exact ⟨rfl, rfl, rfl⟩
set_option maxRecDepth 20000 in
set_option maxHeartbeats 4000000 in
theorem t_J4_length_8abf5 {l : Launch} {G : vG} {h : AH} {n : Nat} {s a mb k m : Nat} {f : Nat → Int32} (hs : h s = some (.inr (0, [.ref a, .int (nI 0), .int (nI mb), .int (nI k)]))) (ha : h a = some (.inl (gC G 2, m, .inl f))) : Mt l G mJ4_length_8abf5 [.ref s] (n) h 0 0 (fun r n2 h2 => r = some (.int (nI k)) ∧ n2 = n ∧ h2 = h) := by
  refine Mt.of (by decide) (Nat.le_of_ble_eq_true rfl) rfl ?_
  refine v_ls (ls2 := [some (.ref s)]) rfl ?_
  refine v_aload_n dJ4_length_8abf5_0 rfl ?_
  refine v_callSU (st := []) dJ4_length_8abf5_1 (t_J5_length_8abf5 hs ha) wJ4_343 hs rfl rfl ⟨Nat.le_of_ble_eq_true rfl, Nat.le_of_ble_eq_true rfl⟩ (Nat.le_of_ble_eq_true rfl) ⟨Nat.le_of_ble_eq_true rfl, Nat.le_of_ble_eq_true rfl⟩ (fun r n2 h2 hq => ?_)
  obtain ⟨rfl, hn9, rfl⟩ := hq; replace hn9 := hn9.symm; subst hn9
  refine v_st (st2 := [.int (nI k)]) rfl ?_
  refine v_iret dJ4_length_8abf5_4 rfl ?_ (Nat.le_of_ble_eq_true rfl) (Nat.le_of_ble_eq_true rfl)
  exact ⟨rfl, rfl, rfl⟩
set_option maxRecDepth 20000 in
set_option maxHeartbeats 4000000 in
theorem t_J5_isLatin1_aae02 {l : Launch} {G : vG} {h : AH} {n : Nat} {s a mb k m : Nat} {f : Nat → Int32} (hs : h s = some (.inr (0, [.ref a, .int (nI 0), .int (nI mb), .int (nI k)]))) (ha : h a = some (.inl (gC G 2, m, .inl f))) : Mt l G mJ5_isLatin1_aae02 [.ref s] (n) h 0 0 (fun r n2 h2 => r = some (.int (nI 1)) ∧ n2 = n ∧ h2 = h) := by
  refine Mt.of (by decide) (Nat.le_of_ble_eq_true rfl) rfl ?_
  refine v_ls (ls2 := [some (.ref s)]) rfl ?_
  refine v_gsC dJ5_isLatin1_aae02_0 q1_214 ?_
  refine v_st (st2 := [.int (nI 1)]) rfl ?_
  refine n_if_eq (tgt := 17) (x := 1) dJ5_isLatin1_aae02_3 (by decide) (by decide) (fun c => absurd c (by decide)) (fun _ => ?_)
  refine v_aload_n dJ5_isLatin1_aae02_6 rfl ?_
  refine fJ5_22 (v := .int (nI 0)) rfl dJ5_isLatin1_aae02_7 hs rfl ?_
  refine n_if_ne (tgt := 17) (x := 0) dJ5_isLatin1_aae02_10 (by decide) (by decide) (fun c => absurd c (by decide)) (fun _ => ?_)
  refine v_iconst (v := nI 1) dJ5_isLatin1_aae02_13 (by decide) ?_
  refine v_goto (tgt := 18) dJ5_isLatin1_aae02_14 (by decide) ?_
  refine v_zret (ty := .boolean) dJ5_isLatin1_aae02_18 rfl (by decide) ?_ (Nat.le_of_ble_eq_true rfl) (Nat.le_of_ble_eq_true rfl)
  exact ⟨rfl, rfl, rfl⟩
set_option maxRecDepth 20000 in
set_option maxHeartbeats 4000000 in
theorem t_J8_newLength_cabcc {l : Launch} {G : vG} {h : AH} {n : Nat} {c g p : Nat} (hc : c < 2 ^ 20) (hg : g < 2 ^ 20) (hp : p < 2 ^ 20) (hp0 : 0 < p) : Mt l G mJ8_newLength_cabcc [.int (nI c), .int (nI g), .int (nI p)] (n) h 0 0 (fun r n2 h2 => r = some (.int (nI (c + max g p))) ∧ n2 = n ∧ h2 = h) := by
  refine Mt.of (by decide) (Nat.le_of_ble_eq_true rfl) rfl ?_
  refine v_ls (ls2 := [some (.int (nI c)), some (.int (nI g)), some (.int (nI p)), none]) rfl ?_
  refine v_iload_n dJ8_newLength_cabcc_0 rfl ?_
  refine v_iload_n dJ8_newLength_cabcc_1 rfl ?_
  refine v_iload_n dJ8_newLength_cabcc_2 rfl ?_
  refine n_max (x := g) (y := p) dJ8_newLength_cabcc_3 q3_164 q2_238 q1_12 q2_239 (Nat.le_of_ble_eq_true rfl) (Nat.le_of_ble_eq_true rfl) (by first | exact Nat.zero_le _ | exact Nat.le_refl _) (by first | exact Nat.zero_le _ | exact Nat.le_refl _) (by omega) (by omega) ?_
  refine n_iadd (x := c) (y := max g p) dJ8_newLength_cabcc_6 ?_
  refine v_istore_n dJ8_newLength_cabcc_7 rfl (by decide) ?_
  refine v_ls (ls2 := [some (.int (nI c)), some (.int (nI g)), some (.int (nI p)), some (.int (nI (c + max g p)))]) rfl ?_
  refine v_iconst (v := nI 0) dJ8_newLength_cabcc_8 (by decide) ?_
  refine v_iload_n dJ8_newLength_cabcc_9 rfl ?_
  refine n_icmp_ge (tgt := 21) (x := 0) (y := c + max g p) dJ8_newLength_cabcc_10 (by decide) (by omega) (by omega) (fun c21 => ?_) (fun c21 => ?_)
  · exfalso
    omega
  · refine v_iload_n dJ8_newLength_cabcc_13 rfl ?_
    refine v_ldci (v := 2147483639) dJ8_newLength_cabcc_14 q3_165 ?_
    refine v_st (st2 := [.int (nI 2147483639), .int (nI (c + max g p))]) rfl ?_
    refine n_icmp_gt (tgt := 21) (x := c + max g p) (y := 2147483639) dJ8_newLength_cabcc_16 (by decide) (by omega) (by omega) (fun c22 => ?_) (fun c22 => ?_)
    · exfalso
      omega
    · refine v_iload_n dJ8_newLength_cabcc_19 rfl ?_
      refine v_iret dJ8_newLength_cabcc_20 rfl ?_ (Nat.le_of_ble_eq_true rfl) (Nat.le_of_ble_eq_true rfl)
      exact ⟨rfl, rfl, rfl⟩
set_option maxRecDepth 20000 in
set_option maxHeartbeats 4000000 in
theorem t_J5_newCapacity_0f7a4 {l : Launch} {G : vG} {h : AH} {n : Nat} {s a mb k m q : Nat} {f : Nat → Int32} (hs : h s = some (.inr (0, [.ref a, .int (nI 0), .int (nI mb), .int (nI k)]))) (ha : h a = some (.inl (gC G 2, m, .inl f))) (hm : m ≤ 60000) (hq : q ≤ 60000) (hmq : m < q) : Mt l G mJ5_newCapacity_0f7a4 [.ref s, .int (nI q)] (n) h 0 0 (fun r n2 h2 => r = some (.int (nI (sb_cap q m))) ∧ n2 = n ∧ h2 = h) := by
  refine Mt.of (by decide) (Nat.le_of_ble_eq_true rfl) rfl ?_
  refine v_ls (ls2 := [some (.ref s), some (.int (nI q)), none, none, none, none]) rfl ?_
  refine v_aload_n dJ5_newCapacity_0f7a4_0 rfl ?_
  refine fJ5_15 (v := .ref a) rfl dJ5_newCapacity_0f7a4_1 hs rfl ?_
  refine v_alen (t := 2) dJ5_newCapacity_0f7a4_4 ha (by decide) ?_
  refine v_st (st2 := [.int (nI m)]) rfl ?_
  refine v_istore_n dJ5_newCapacity_0f7a4_5 rfl (by decide) ?_
  refine v_ls (ls2 := [some (.ref s), some (.int (nI q)), some (.int (nI m)), none, none, none]) rfl ?_
  refine v_iload_n dJ5_newCapacity_0f7a4_6 rfl ?_
  refine v_aload_n dJ5_newCapacity_0f7a4_7 rfl ?_
  refine fJ5_22 (v := .int (nI 0)) rfl dJ5_newCapacity_0f7a4_8 hs rfl ?_
  refine v_ishl dJ5_newCapacity_0f7a4_11 ?_
  refine v_st (st2 := [.int (nI q)]) (by rw [show (nI 0 : Int32) = 0 from rfl, sb_shl0]) ?_
  refine v_istore_n dJ5_newCapacity_0f7a4_12 rfl (by decide) ?_
  refine v_ls (ls2 := [some (.ref s), some (.int (nI q)), some (.int (nI m)), some (.int (nI q)), none, none]) rfl ?_
  refine v_iload_n dJ5_newCapacity_0f7a4_13 rfl ?_
  refine v_iload_n dJ5_newCapacity_0f7a4_14 rfl ?_
  refine n_isub (x := q) (y := m) dJ5_newCapacity_0f7a4_15 (by omega) ?_
  refine v_istore dJ5_newCapacity_0f7a4_16 rfl (by decide) ?_
  refine v_ls (ls2 := [some (.ref s), some (.int (nI q)), some (.int (nI m)), some (.int (nI q)), some (.int (nI (q - m))), none]) rfl ?_
  refine v_iload_n dJ5_newCapacity_0f7a4_18 rfl ?_
  refine v_iload dJ5_newCapacity_0f7a4_19 rfl ?_
  refine v_iload_n dJ5_newCapacity_0f7a4_21 rfl ?_
  refine v_iconst (v := nI 2) dJ5_newCapacity_0f7a4_22 (by decide) ?_
  refine v_aload_n dJ5_newCapacity_0f7a4_23 rfl ?_
  refine fJ5_22 (v := .int (nI 0)) rfl dJ5_newCapacity_0f7a4_24 hs rfl ?_
  refine v_ishl dJ5_newCapacity_0f7a4_27 ?_
  refine v_st (st2 := [.int (nI 2), .int (nI m), .int (nI (q - m)), .int (nI m)]) (by rw [show (nI 0 : Int32) = 0 from rfl, sb_shl0]) ?_
  refine n_iadd (x := m) (y := 2) dJ5_newCapacity_0f7a4_28 ?_
  refine v_callS (st := []) dJ5_newCapacity_0f7a4_29 (t_J8_newLength_cabcc (c := m) (g := q - m) (p := m + 2) (by omega) (by omega) (by omega) (by omega)) wJ5_114 rfl ⟨Nat.le_of_ble_eq_true rfl, Nat.le_of_ble_eq_true rfl⟩ (Nat.le_of_ble_eq_true rfl) ⟨Nat.le_of_ble_eq_true rfl, Nat.le_of_ble_eq_true rfl⟩ (fun r n2 h2 hq => ?_)
  obtain ⟨rfl, hn9, rfl⟩ := hq; replace hn9 := hn9.symm; subst hn9
  refine v_st (st2 := [.int (nI (m + max (q - m) (m + 2)))]) rfl ?_
  refine v_istore dJ5_newCapacity_0f7a4_32 rfl (by decide) ?_
  refine v_ls (ls2 := [some (.ref s), some (.int (nI q)), some (.int (nI m)), some (.int (nI q)), some (.int (nI (q - m))), some (.int (nI (m + max (q - m) (m + 2))))]) rfl ?_
  refine v_iload dJ5_newCapacity_0f7a4_34 rfl ?_
  refine v_ldci (v := 2147483647) dJ5_newCapacity_0f7a4_36 q3_169 ?_
  refine v_st (st2 := [.int (nI 2147483647), .int (nI (m + max (q - m) (m + 2)))]) rfl ?_
  refine n_icmp_ne (tgt := 51) (x := m + max (q - m) (m + 2)) (y := 2147483647) dJ5_newCapacity_0f7a4_38 (by decide) (by omega) (by omega) (fun c21 => ?_) (fun c21 => ?_)
  · refine v_iload dJ5_newCapacity_0f7a4_51 rfl ?_
    refine v_aload_n dJ5_newCapacity_0f7a4_53 rfl ?_
    refine fJ5_22 (v := .int (nI 0)) rfl dJ5_newCapacity_0f7a4_54 hs rfl ?_
    refine v_ishr dJ5_newCapacity_0f7a4_57 ?_
    refine v_st (st2 := [.int (nI (m + max (q - m) (m + 2)))]) (by rw [show (nI 0 : Int32) = 0 from rfl, sb_shr0]) ?_
    refine v_iret dJ5_newCapacity_0f7a4_58 rfl ?_ (Nat.le_of_ble_eq_true rfl) (Nat.le_of_ble_eq_true rfl)
    exact ⟨by rw [cap_gt hmq], rfl, rfl⟩
  · exfalso
    omega
set_option maxRecDepth 20000 in
set_option maxHeartbeats 4000000 in
theorem t_J7_copyOf_9075b {l : Launch} {G : vG} {h : AH} {n : Nat} {a m q : Nat} {f : Nat → Int32} (ha : h a = some (.inl (gC G 2, m, .inl f))) (hmq : m < q) (hq : q ≤ 60000) (hf : sb_Fit f) (han : a < n) : Mt l G mJ7_copyOf_9075b [.ref a, .int (nI q)] (n) h 1 q (fun r n2 h2 => r = some (.ref n) ∧ n2 = n + 1 ∧ h2 n = some (.inl (gC G 2, q, .inl (va_cpy f (fun _ => 0) 0 0 m))) ∧ offn 1 n h h2) := by
  refine Mt.of (by decide) (Nat.le_of_ble_eq_true rfl) rfl ?_
  refine v_ls (ls2 := [some (.ref a), some (.int (nI q)), none]) rfl ?_
  refine v_iload_n dJ7_copyOf_9075b_0 rfl ?_
  refine v_aload_n dJ7_copyOf_9075b_1 rfl ?_
  refine v_alen (t := 2) dJ7_copyOf_9075b_2 ha (by decide) ?_
  refine v_st (st2 := [.int (nI m), .int (nI q)]) rfl ?_
  refine n_icmp_ne (tgt := 14) (x := q) (y := m) dJ7_copyOf_9075b_3 (by decide) (by omega) (by omega) (fun c21 => ?_) (fun c21 => ?_)
  · refine v_iload_n dJ7_copyOf_9075b_14 rfl ?_
    refine v_nb (k := q) dJ7_copyOf_9075b_15 (by omega) (by omega) (by omega) (fun h1 f1 s1 => ?_)
    have fa22 := f1
    have sa22 := s1
    clear f1 s1
    have fa23 := (sa22 (a) (by omega)).trans ha
    have fr24 := offn_in (k := 1) (q := n) offn_rf sa22 (by omega)
    refine v_astore_n dJ7_copyOf_9075b_17 rfl (by decide) ?_
    refine v_ls (ls2 := [some (.ref a), some (.int (nI q)), some (.ref n)]) rfl ?_
    refine v_aload_n dJ7_copyOf_9075b_18 rfl ?_
    refine v_iconst (v := nI 0) dJ7_copyOf_9075b_19 (by decide) ?_
    refine v_aload_n dJ7_copyOf_9075b_20 rfl ?_
    refine v_iconst (v := nI 0) dJ7_copyOf_9075b_21 (by decide) ?_
    refine v_aload_n dJ7_copyOf_9075b_22 rfl ?_
    refine v_alen (t := 2) dJ7_copyOf_9075b_23 fa23 (by decide) ?_
    refine v_st (st2 := [.int (nI m), .int (nI 0), .ref n, .int (nI 0), .ref a]) rfl ?_
    refine v_iload_n dJ7_copyOf_9075b_24 rfl ?_
    refine n_min (x := m) (y := q) dJ7_copyOf_9075b_25 q3_180 q2_70 q1_12 q2_71 (Nat.le_of_ble_eq_true rfl) (Nat.le_of_ble_eq_true rfl) (by first | exact Nat.zero_le _ | exact Nat.le_refl _) (by first | exact Nat.zero_le _ | exact Nat.le_refl _) (by omega) (by omega) ?_
    refine v_st (st2 := [.int (nI m), .int (nI 0), .ref n, .int (nI 0), .ref a]) (by rw [Nat.min_eq_left (by omega)]) ?_
    refine n_copyB (x := m) dJ7_copyOf_9075b_28 q3_181 fa23 fa22 (by omega) (by omega) (by omega) hf (Nat.le_of_ble_eq_true rfl) (Nat.le_of_ble_eq_true rfl) ?_
    refine nw (fun h1 f1 s1 => ?_)
    have fa25 : h1 (n) = some (.inl (gC G 2, q, .inl (va_cpy f (fun _ => 0) 0 0 m))) := f1
    have sa25 := s1
    clear f1 s1
    have fa26 := (sa25 (a) (by omega)).trans fa23
    have fr27 := offn_in (k := 1) (q := n) fr24 sa25 (by omega)
    refine v_aload_n dJ7_copyOf_9075b_31 rfl ?_
    refine v_aret dJ7_copyOf_9075b_32 rfl (Or.inr ⟨_, rfl⟩) ?_ (Nat.le_refl _) (Nat.le_refl _)
    exact ⟨rfl, rfl, fa25, fr27⟩
  · exfalso
    omega
set_option maxRecDepth 20000 in
set_option maxHeartbeats 4000000 in
theorem t_J5_ensureCapacityInternal_d00df {l : Launch} {G : vG} {h : AH} {n : Nat} {s a mb k m q mc ms : Nat} {f : Nat → Int32} (hs : h s = some (.inr (0, [.ref a, .int (nI 0), .int (nI mb), .int (nI k)]))) (ha : h a = some (.inl (gC G 2, m, .inl f))) (hm : m ≤ 60000) (hq : q ≤ 60000) (hqc : sb_cap q m ≤ 60000) (hcs : m < q → 1 ≤ mc ∧ sb_cap q m ≤ ms) (hf : sb_Fit f) : Mt l G mJ5_ensureCapacityInternal_d00df [.ref s, .int (nI q)] (n) h mc ms (fun r n2 h2 => r = none ∧ ∃ (a2 : Nat) (g : Nat → Int32), (q ≤ m ∧ a2 = a ∧ n2 = n ∨ m < q ∧ a2 = n ∧ n2 = n + 1) ∧ h2 s = some (.inr (0, [.ref a2, .int (nI 0), .int (nI mb), .int (nI k)])) ∧ h2 a2 = some (.inl (gC G 2, sb_cap q m, .inl g)) ∧ sb_Fit g ∧ (∀ j, j < m → g j = f j) ∧ frP (fun z => z ≠ s ∧ z ≠ n) h h2) := by
  refine Mt.of (by decide) (Nat.le_of_ble_eq_true rfl) rfl ?_
  refine v_ls (ls2 := [some (.ref s), some (.int (nI q)), none]) rfl ?_
  have hsa := n_obj_ne hs ha
  refine v_lt hs (fun hsn => ?_)
  refine v_lt ha (fun han => ?_)
  have hcg := sb_cap_ge q m
  have hcm := sb_cap_gem q m
  refine v_aload_n dJ5_ensureCapacityInternal_d00df_0 rfl ?_
  refine fJ5_15 (v := .ref a) rfl dJ5_ensureCapacityInternal_d00df_1 hs rfl ?_
  refine v_alen (t := 2) dJ5_ensureCapacityInternal_d00df_4 ha (by decide) ?_
  refine v_st (st2 := [.int (nI m)]) rfl ?_
  refine v_aload_n dJ5_ensureCapacityInternal_d00df_5 rfl ?_
  refine fJ5_22 (v := .int (nI 0)) rfl dJ5_ensureCapacityInternal_d00df_6 hs rfl ?_
  refine v_ishr dJ5_ensureCapacityInternal_d00df_9 ?_
  refine v_st (st2 := [.int (nI m)]) (by rw [show (nI 0 : Int32) = 0 from rfl, sb_shr0]) ?_
  refine v_istore_n dJ5_ensureCapacityInternal_d00df_10 rfl (by decide) ?_
  refine v_ls (ls2 := [some (.ref s), some (.int (nI q)), some (.int (nI m))]) rfl ?_
  refine v_iload_n dJ5_ensureCapacityInternal_d00df_11 rfl ?_
  refine v_iload_n dJ5_ensureCapacityInternal_d00df_12 rfl ?_
  refine v_isub dJ5_ensureCapacityInternal_d00df_13 ?_
  refine n_if_sle (tgt := 38) (x := q) (y := m) dJ5_ensureCapacityInternal_d00df_14 (by decide) (by omega) (by omega) (fun c21 => ?_) (fun c21 => ?_)
  · refine v_vret dJ5_ensureCapacityInternal_d00df_38 rfl ?_ (by omega) (by omega)
    exact ⟨rfl, a, f, Or.inl ⟨c21, rfl, rfl⟩, hs, by rw [cap_le c21]; exact ha, hf, fun _ _ => rfl, frP_rf⟩
  · obtain ⟨hcs1, hcs2⟩ := hcs c21
    refine v_aload_n dJ5_ensureCapacityInternal_d00df_17 rfl ?_
    refine v_aload_n dJ5_ensureCapacityInternal_d00df_18 rfl ?_
    refine fJ5_15 (v := .ref a) rfl dJ5_ensureCapacityInternal_d00df_19 hs rfl ?_
    refine v_aload_n dJ5_ensureCapacityInternal_d00df_22 rfl ?_
    refine v_iload_n dJ5_ensureCapacityInternal_d00df_23 rfl ?_
    refine v_callU (st := [.ref a, .ref s]) dJ5_ensureCapacityInternal_d00df_24 (t_J5_newCapacity_0f7a4 (q := q) hs ha (by omega) (by omega) (by omega)) wJ5_104 hs rfl rfl ⟨Nat.le_of_ble_eq_true rfl, Nat.le_of_ble_eq_true rfl⟩ (Nat.le_of_ble_eq_true rfl) ⟨by omega, by omega⟩ (fun r n2 h2 hq => ?_)
    obtain ⟨rfl, hn9, rfl⟩ := hq; replace hn9 := hn9.symm; subst hn9
    refine v_st (st2 := [.int (nI (sb_cap q m)), .ref a, .ref s]) rfl ?_
    refine v_aload_n dJ5_ensureCapacityInternal_d00df_27 rfl ?_
    refine fJ5_22 (v := .int (nI 0)) rfl dJ5_ensureCapacityInternal_d00df_28 hs rfl ?_
    refine v_ishl dJ5_ensureCapacityInternal_d00df_31 ?_
    refine v_st (st2 := [.int (nI (sb_cap q m)), .ref a, .ref s]) (by rw [show (nI 0 : Int32) = 0 from rfl, sb_shl0]) ?_
    refine v_callS (st := [.ref s]) dJ5_ensureCapacityInternal_d00df_32 (t_J7_copyOf_9075b (q := sb_cap q m) ha (by omega) (by omega) hf (by omega)) wJ5_108 rfl ⟨Nat.le_of_ble_eq_true rfl, Nat.le_of_ble_eq_true rfl⟩ (Nat.le_of_ble_eq_true rfl) ⟨by omega, by omega⟩ (fun r n2 h2 hq => ?_)
    obtain ⟨rfl, rfl, fa22, sa23⟩ := hq
    refine v_st (st2 := [.ref n, .ref s]) rfl ?_
    refine v_n (n2 := n + 1) rfl ?_
    have fa24 := (sa23 (s) (by omega)).trans hs
    have fa25 := (sa23 (a) (by omega)).trans ha
    have fr26 := frP_tr (P := fun z => z ≠ s ∧ z ≠ n) frP_rf sa23 (fun z (hz : z ≠ s ∧ z ≠ n) => by omega)
    refine pJ5_15 rfl dJ5_ensureCapacityInternal_d00df_35 fa24 (Nat.le_of_ble_eq_true rfl) ?_
    refine nw (fun h1 f1 s1 => ?_)
    have fa27 : h1 (s) = some (.inr (0, [.ref n, .int (nI 0), .int (nI mb), .int (nI k)])) := f1
    have sa27 := s1
    clear f1 s1
    have fa28 := (sa27 (a) (by omega)).trans fa25
    have fr29 := frP_tr (P := fun z => z ≠ s ∧ z ≠ n) fr26 sa27 (fun z (hz : z ≠ s ∧ z ≠ n) => by omega)
    have fa30 := (sa27 (n) (by omega)).trans fa22
    refine v_vret dJ5_ensureCapacityInternal_d00df_38 rfl ?_ (by omega) (by omega)
    exact ⟨rfl, n, _, Or.inr ⟨c21, rfl, rfl⟩, fa27, fa30, sb_fitC hf sb_fit0, fun j hj => sb_cpy0 hj, fr29⟩
