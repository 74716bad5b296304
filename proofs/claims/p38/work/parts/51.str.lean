theorem wJ0_1047 : cU RJ0 1047 mJ5_isLatin1_aae02 RJ4 0 := ⟨q4_190, q3_184, q3_185, q3_183, q1_8, q3_186, by decide +kernel, by decide +kernel, by decide +kernel⟩
theorem wJ0_552 : cU RJ0 552 mJ5_getValue_6d5f1 RJ4 0 := ⟨q4_184, q4_186, q4_187, q4_185, q1_8, q4_188, by decide +kernel, by decide +kernel, by decide +kernel⟩
theorem wJ4_29 : cSU RJ4 29 mJ5_append_cf1ce 1 := ⟨q4_225, q5_141, q1_236, q4_226, q1_8, q4_227, by decide +kernel, by decide +kernel⟩
theorem wJ5_208 : cU RJ5 208 mJ5_putStringAt_47b60 RJ4 2 := ⟨q4_236, q5_143, sx3, q4_238, q1_8, q4_239, by decide +kernel, by decide +kernel, by decide +kernel⟩
theorem wJ5_397 : cU RJ5 397 mJ5_inflateIfNeededFor_a7421 RJ4 1 := ⟨q5_0, q5_144, sx2, q5_2, q1_8, q5_3, by decide +kernel, by decide +kernel, by decide +kernel⟩
theorem nnJ0 {l : Launch} {G : vG} {M : vM} {rc rs : Nat} {Fz : vFin} {pc : Nat} {ls : List (Option Value)} {st : List Value} {n : Nat} {h : AH} {cells slots : Nat} {index : Nat} (hd : decode M.2.1 pc = .ok (.new index, 3)) (hcl : Cond.classLink M.1.cls index RJ0 ∈ gw) (hc1 : cells + 1 ≤ rc) (hs1 : slots + 4 ≤ rs) (kk : ∀ h1 : AH, h1 n = some (.inr (9, [.null, .int 0, .int 0, .int 0])) → offn 1 n h h1 → V l G M rc rs Fz (pc + 3) ls (.ref n :: st) (n + 1) h1 (cells + 1) (slots + 4)) : V l G M rc rs Fz pc ls st n h cells slots :=
  v_new (ci := 9) (fs := [.null, .int 0, .int 0, .int 0]) hd rfl inJ0 tyJ0 tyJ0_ok hcl q4_176 q1_10 (by decide) hc1 hs1 (nw (fun h1 f1 s1 => kk h1 f1 s1))
def cX (own : String) (index : Nat) (x : MethodName) (M2 : vM) (C : String) (k : Nat) : Prop := Cond.methodLink own index x ∈ gw ∧ Cond.sameMethod x.cls x.cls x.name x.desc ∈ gw ∧ Cond.selects C x M2.1 ∈ gw ∧ Cond.instanceMethod M2.1 ∈ gw ∧ Cond.initialized M2.1.cls ∈ gw ∧ Cond.code M2.1 M2.2.1 M2.2.2.1 M2.2.2.2.1 ∈ gw ∧ Cond.instanceMethod x ∈ gw ∧ (∃ (b0 : ByteArray) (m0 : Nat) (r0 : Option FieldType), Cond.code x b0 m0 r0 ∈ gw) ∧ (x.cls ≠ "java/lang/invoke/MethodHandle" ∧ x.cls ≠ "java/lang/invoke/VarHandle" ∧ (parseMethodDescriptor x.desc).map (fun d => d.parameters.length) = some k)
theorem v_callX {l : Launch} {G : vG} {M : vM} {rc rs : Nat} {Fz : vFin} {pc : Nat} {ls : List (Option Value)} {st : List Value} {n : Nat} {h : AH} {cells slots : Nat} {M2 : vM} {index mc ms : Nat} {As : List Value} {st0 : List Value} {Q2 : Option Value → Nat → AH → Prop} {b ci N : Nat} {fs : List Value} {T : u_T} {C0 : String} {x : MethodName} (hd : decode M.2.1 pc = .ok (.invokevirtual index, 3)) (hM : Mt l G M2 (.ref b :: As) n h mc ms Q2) (hw : cX M.1.cls index x M2 C0 As.length) (he : h b = some (.inr (ci, fs))) (hc : vwCl[ci]? = some (C0, T, N)) (hs0 : st0 = As.reverse ++ .ref b :: st) (hR : M2.2.2.2.2.1 + 1 ≤ M.2.2.2.2.1 ∧ 8 + (M2.2.2.1 + 11) + M2.2.2.2.2.2 ≤ M.2.2.2.2.2) (hst : (st.map fun v => v.category).sum ≤ 8) (hf : cells + mc ≤ rc ∧ slots + ms ≤ rs) (kk : ∀ (r : Option Value) (n2 : Nat) (h2 : AH), Q2 r n2 h2 → V l G M rc rs Fz (pc + 3) ls (r.toList ++ st) n2 h2 (cells + mc) (slots + ms)) : V l G M rc rs Fz pc ls (st0) n h cells slots := by
  intro p e s m args below meth c H locs lsA d0 hx hb hr hml hts hown hlk hnm hd0 hC hS hbs hP hl
  subst hs0
  obtain ⟨w1, w2, w3, w4, w5, w6, w8, ⟨b0, m0, r0, w9⟩, w7⟩ := hw
  exact px_callD hd0 (va_runU_D (C := C0) (owner := x.cls) (x := x) (As := As) (rest := st) ⟨hx, hb, hml, hown, dr_words hts d0⟩ hM (va_cwO As.length (dr_words hts d0) (gw_in (fun w hw => by
    simp only [va_wsO, List.cons_append, List.nil_append, List.mem_cons] at hw
    rcases hw with rfl | rfl | rfl | rfl | rfl | rfl | hw
    · exact w1
    · exact w2
    · exact w8
    · exact w3
    · exact w4
    · exact w5
    · exact gw_mW w6 w hw)) rfl rfl rfl w9 w7 hR) ⟨pcM.blind, va_recv (s := s.setDrawn d0) (D := gD G) (cl := vwCl) (tys := gT G) hC.1 (hP.one he) (q0 := 0) hc rfl, fun U hU hW => ⟨rfl, by rw [hU]; exact cx.warm hW (cx.same (u := s) rfl (hC.kept hS.2.1)), by rw [hU]; exact Nat.le_trans hbs hS.1, by rw [hU]; exact hP⟩⟩ rfl rfl hl.1 rfl (lv_room hst) hd hf) hS (fun r n2 h2 H1 locs1 d1 hd1 hQ hP1 hS1 => kk r n2 h2 hQ p e s m args below meth c _ _ lsA d1 hx hb hr hml hts hown hlk hnm hd1 hC hS1 hbs hP1 hl)
theorem wJ0_549 : cX RJ0 549 ⟨"java/lang/AbstractStringBuilder", "length", "()I"⟩ mJ4_length_8abf5 RJ4 0 := ⟨q4_189, q5_132, q5_140, q3_42, q1_9, q3_44, q3_46, ⟨_, _, _, q3_47⟩, by decide +kernel, by decide +kernel, by decide +kernel⟩
/-- a String at q with the text L, its bytes at a -/
def strP (G : vG) (h : AH) (q a : Nat) (L : Ln) : Prop := h q = some (.inr (9, [.ref a, .int (nI 0), .int 0, .int 0])) ∧ ∃ f : Nat → Int32, h a = some (.inl (gC G 2, L.2, .inl f)) ∧ sb_Lat L.1 L.2 f ∧ sb_Fit f
theorem strP.fr {G : vG} {h h2 : AH} {q a : Nat} {L : Ln} (b : strP G h q a L) (h1 : h2 q = h q) (h3 : h2 a = h a) : strP G h2 q a L := by
  obtain ⟨b1, f, b2, b3⟩ := b
  exact ⟨h1.trans b1, f, h3.trans b2, b3⟩
theorem strP.cong {G : vG} {h : AH} {q a : Nat} {L K : Ln} (b : strP G h q a L) (h2 : K.2 = L.2) (h1 : ∀ i, i < L.2 → K.1 i = L.1 i) : strP G h q a K := by
  obtain ⟨b1, f, b2, b3, b4⟩ := b
  refine ⟨b1, f, by rw [h2]; exact b2, fun j hj => ?_, b4⟩
  rw [h2] at hj
  rw [h1 j hj]
  exact b3 j hj
/-- the texts of the String constants -/
def cstL : Nat → Ln
  | 0 => (fun _ => 126, 1)
  | 1 => (fun _ => 0, 0)
  | _ => (fun _ => 32, 1)
theorem cstL_2 : ∀ i, i < 3 → (cstL i).2 = st_len.getD i 0 := by decide
theorem cstL_b : ∀ i, i < 3 → ∀ j, j < (cstL i).2 → (cstL i).1 j < 256 ∧ (st_byt.getD i []).getD j 0 = sb_b ((cstL i).1 j) := by decide
/-- a String, made by the program or a constant, with the text L -/
def strV (G : vG) (h : AH) (r a : Nat) (L : Ln) : Prop := strP G h r a L ∨ ∃ i : Nat, i < 3 ∧ r = gA G 0 i ∧ L = cstL i
theorem strV_256 {G : vG} {h : AH} {r a : Nat} {L : Ln} (hv : strV G h r a L) : ∀ j, j < L.2 → L.1 j < 256 := by
  rcases hv with ⟨-, f, -, hl, -⟩ | ⟨i, hi, -, rfl⟩
  · exact fun j hj => (hl j hj).1
  · exact fun j hj => (cstL_b i hi j hj).1
theorem v_strlt {l : Launch} {G : vG} {M : vM} {rc rs : Nat} {Fz : vFin} {pc : Nat} {ls : List (Option Value)} {st : List Value} {n : Nat} {h : AH} {cells slots : Nat} {r a : Nat} {L : Ln} (hv : strV G h r a L) (kk : (strP G h r a L → r < n ∧ a < n) → V l G M rc rs Fz pc ls st n h cells slots) : V l G M rc rs Fz pc ls st n h cells slots := by
  rcases hv with hs | ⟨i, hi, hr, hL⟩
  · obtain ⟨h1, f, h2, -⟩ := hs
    exact v_lt h1 (fun z1 => v_lt h2 (fun z2 => kk (fun _ => ⟨z1, z2⟩)))
  · by_cases hs : strP G h r a L
    · obtain ⟨h1, f, h2, -⟩ := hs
      exact v_lt h1 (fun z1 => v_lt h2 (fun z2 => kk (fun _ => ⟨z1, z2⟩)))
    · exact kk (fun z => absurd z hs)
theorem v_callStr {l : Launch} {G : vG} {M : vM} {rc rs : Nat} {Fz : vFin} {pc : Nat} {ls : List (Option Value)} {st : List Value} {n : Nat} {h : AH} {cells slots : Nat} {M2 : vM} {index mc ms : Nat} {As : List Value} {st0 : List Value} {Q2 : Option Value → Nat → AH → Prop} {r ra : Nat} {L : Ln} (hd : decode M.2.1 pc = .ok (.invokevirtual index, 3)) (hv : strV G h r ra L) (hM : Mt l G M2 (.ref r :: As) n h mc ms Q2) (hw : cV M.1.cls index M2 As.length) (hcl : M2.1.cls = "java/lang/String") (hs0 : st0 = As.reverse ++ .ref r :: st) (hR : M2.2.2.2.2.1 + 1 ≤ M.2.2.2.2.1 ∧ 8 + (M2.2.2.1 + 11) + M2.2.2.2.2.2 ≤ M.2.2.2.2.2) (hst : (st.map fun v => v.category).sum ≤ 8) (hf : cells + mc ≤ rc ∧ slots + ms ≤ rs) (kk : ∀ (r : Option Value) (n2 : Nat) (h2 : AH), Q2 r n2 h2 → V l G M rc rs Fz (pc + 3) ls (r.toList ++ st) n2 h2 (cells + mc) (slots + ms)) : V l G M rc rs Fz pc ls (st0) n h cells slots := by
  rcases hv with ha | ⟨i, hi, rfl, -⟩
  · exact v_callV (T := TJ0) (N := 4) hd hM hw ha.1 (by rw [hcl]; rfl) hs0 hR hst hf kk
  · exact v_callT hd hM hw hi hcl hs0 hR hst hf kk
set_option maxRecDepth 20000 in
set_option maxHeartbeats 4000000 in
theorem t_H0_coder {l : Launch} {G : vG} {h : AH} {n : Nat} {q a : Nat} {L : Ln} (hs : strP G h q a L) : Mt l G mJ0_coder_7d493 [.ref q] (n) h 0 0 (fun r n2 h2 => r = some (.int (nI 0)) ∧ n2 = n ∧ h2 = h) := by
  refine Mt.of (by decide) (Nat.le_of_ble_eq_true rfl) rfl ?_
  refine v_ls (ls2 := [some (.ref q)]) rfl ?_
  refine v_gsC dJ0_coder_7d493_0 q3_101 ?_
  refine v_st (st2 := [.int (nI 1)]) rfl ?_
  refine n_if_eq (tgt := 13) (x := 1) dJ0_coder_7d493_3 (by decide) (by decide) (fun c => absurd c (by decide)) (fun _ => ?_)
  refine v_aload_n dJ0_coder_7d493_6 rfl ?_
  refine fJ0_15 (v := .int (nI 0)) rfl dJ0_coder_7d493_7 hs.1 rfl ?_
  refine v_goto (tgt := 14) dJ0_coder_7d493_10 (by decide) ?_
  refine v_zret (ty := .byte) dJ0_coder_7d493_14 rfl (by decide) ?_ (by omega) (by omega)
  exact ⟨rfl, rfl, rfl⟩
theorem t_V0_coder {l : Launch} {G : vG} {h : AH} {n : Nat} {r ra : Nat} {L : Ln} (hv : strV G h r ra L) : Mt l G mJ0_coder_7d493 [.ref r] n h 0 0 (fun r n2 h2 => r = some (.int (nI 0)) ∧ n2 = n ∧ h2 = h) := by
  rcases hv with ha | ⟨i, hi, rfl, -⟩
  · exact t_H0_coder ha
  · exact t_J0_coder_7d493 hi
set_option maxRecDepth 20000 in
set_option maxHeartbeats 4000000 in
theorem t_H0_length {l : Launch} {G : vG} {h : AH} {n : Nat} {q a : Nat} {L : Ln} (hs : strP G h q a L) : Mt l G mJ0_length_8abf5 [.ref q] (n) h 0 0 (fun r n2 h2 => r = some (.int (nI L.2)) ∧ n2 = n ∧ h2 = h) := by
  refine Mt.of (by decide) (Nat.le_of_ble_eq_true rfl) rfl ?_
  refine v_ls (ls2 := [some (.ref q)]) rfl ?_
  have hsv : strV G h q a L := Or.inl hs
  obtain ⟨f, hfa, hla, hfi⟩ := hs.2
  have hv := hsv
  refine v_aload_n dJ0_length_8abf5_0 rfl ?_
  refine fJ0_9 (v := .ref a) rfl dJ0_length_8abf5_1 hs.1 rfl ?_
  refine v_alen (t := 2) dJ0_length_8abf5_4 hfa (by decide) ?_
  refine v_st (st2 := [.int (nI L.2)]) rfl ?_
  refine v_aload_n dJ0_length_8abf5_5 rfl ?_
  refine v_callStr (st := [.int (nI L.2)]) dJ0_length_8abf5_6 hv (t_V0_coder hv) wJ0_335 rfl rfl ⟨Nat.le_of_ble_eq_true rfl, Nat.le_of_ble_eq_true rfl⟩ (Nat.le_of_ble_eq_true rfl) ⟨by omega, by omega⟩ (fun r n2 h2 hq => ?_)
  obtain ⟨rfl, hn9, rfl⟩ := hq; replace hn9 := hn9.symm; subst hn9
  refine v_st (st2 := [.int (nI 0), .int (nI L.2)]) rfl ?_
  refine v_ishr dJ0_length_8abf5_9 ?_
  refine v_st (st2 := [.int (nI L.2)]) (by rw [show (nI 0 : Int32) = 0 from rfl, sb_shr0]) ?_
  refine v_iret dJ0_length_8abf5_10 rfl ?_ (by omega) (by omega)
  exact ⟨rfl, rfl, rfl⟩
theorem t_V0_length {l : Launch} {G : vG} {h : AH} {n : Nat} {r ra : Nat} {L : Ln} (hv : strV G h r ra L) : Mt l G mJ0_length_8abf5 [.ref r] n h 0 0 (fun r n2 h2 => r = some (.int (nI L.2)) ∧ n2 = n ∧ h2 = h) := by
  rcases hv with ha | ⟨i, hi, rfl, rfl⟩
  · exact t_H0_length ha
  · rw [cstL_2 i hi]
    exact t_J0_length_8abf5 hi
set_option maxRecDepth 20000 in
set_option maxHeartbeats 4000000 in
theorem t_H0_getBytes {l : Launch} {G : vG} {h : AH} {n : Nat} {q a b k d : Nat} {L : Ln} {g : Nat → Int32} (hs : strP G h q a L) (hb : h b = some (.inl (gC G 2, k, .inl g))) (hg : sb_Fit g) (hk : d + L.2 ≤ k) (hk2 : k ≤ 60000) : Mt l G mJ0_getBytes_840e7 [.ref q, .ref b, .int (nI d), .int (nI 0)] (n) h 0 0 (fun r n2 h2 => r = none ∧ n2 = n ∧ ∃ g2 : Nat → Int32, h2 b = some (.inl (gC G 2, k, .inl g2)) ∧ sb_Fit g2 ∧ (∀ j, j < d → g2 j = g j) ∧ (∀ j, j < L.2 → g2 (d + j) = sb_b (L.1 j)) ∧ offn 1 b h h2) := by
  refine Mt.of (by decide) (Nat.le_of_ble_eq_true rfl) rfl ?_
  refine v_ls (ls2 := [some (.ref q), some (.ref b), some (.int (nI d)), some (.int (nI 0))]) rfl ?_
  have hsv : strV G h q a L := Or.inl hs
  obtain ⟨f, hfa, hla, hfi⟩ := hs.2
  have hv := hsv
  refine v_aload_n dJ0_getBytes_840e7_0 rfl ?_
  refine v_callStr (st := []) dJ0_getBytes_840e7_1 hv (t_V0_coder hv) wJ0_335 rfl rfl ⟨Nat.le_of_ble_eq_true rfl, Nat.le_of_ble_eq_true rfl⟩ (Nat.le_of_ble_eq_true rfl) ⟨by omega, by omega⟩ (fun r n2 h2 hq => ?_)
  obtain ⟨rfl, hn9, rfl⟩ := hq; replace hn9 := hn9.symm; subst hn9
  refine v_st (st2 := [.int (nI 0)]) rfl ?_
  refine v_iload_n dJ0_getBytes_840e7_4 rfl ?_
  refine n_icmp_ne (tgt := 28) (x := 0) (y := 0) dJ0_getBytes_840e7_5 (by decide) (by decide) (by decide) (fun c => absurd c (by decide)) (fun _ => ?_)
  refine v_aload_n dJ0_getBytes_840e7_8 rfl ?_
  refine fJ0_9 (v := .ref a) rfl dJ0_getBytes_840e7_9 hs.1 rfl ?_
  refine v_iconst (v := nI 0) dJ0_getBytes_840e7_12 (by decide) ?_
  refine v_aload_n dJ0_getBytes_840e7_13 rfl ?_
  refine v_iload_n dJ0_getBytes_840e7_14 rfl ?_
  refine v_iload_n dJ0_getBytes_840e7_15 rfl ?_
  refine v_ishl dJ0_getBytes_840e7_16 ?_
  refine v_st (st2 := [.int (nI d), .ref b, .int (nI 0), .ref a]) (by rw [show (nI 0 : Int32) = 0 from rfl, sb_shl0]) ?_
  refine v_aload_n dJ0_getBytes_840e7_17 rfl ?_
  refine fJ0_9 (v := .ref a) rfl dJ0_getBytes_840e7_18 hs.1 rfl ?_
  refine v_alen (t := 2) dJ0_getBytes_840e7_21 hfa (by decide) ?_
  refine v_st (st2 := [.int (nI L.2), .int (nI d), .ref b, .int (nI 0), .ref a]) rfl ?_
  refine n_copyD (x := L.2) (d := d) dJ0_getBytes_840e7_22 q5_9 hfa hb (by omega) (by omega) (by omega) (by omega) hfi (Nat.le_of_ble_eq_true rfl) (Nat.le_of_ble_eq_true rfl) ?_
  refine nw (fun h1 f1 s1 => ?_)
  refine v_goto (tgt := 43) dJ0_getBytes_840e7_25 (by decide) ?_
  refine v_vret dJ0_getBytes_840e7_43 rfl ?_ (by omega) (by omega)
  refine ⟨rfl, rfl, _, f1, ?_, fun j hj => if_neg (by omega), fun j hj => ?_, s1⟩
  · exact sb_fitC hfi hg
  · rw [show va_cpy f g 0 d L.2 (d + j) = f (0 + (d + j - d)) from if_pos (by omega), show 0 + (d + j - d) = j by omega]
    exact (hla j hj).2
set_option maxRecDepth 20000 in
set_option maxHeartbeats 4000000 in
theorem t_K0_getBytes {l : Launch} {G : vG} {h : AH} {n : Nat} {b k d i : Nat} {L : Ln} {g : Nat → Int32} (hi : i < 3) (hL : L = cstL i) (hb : h b = some (.inl (gC G 2, k, .inl g))) (hg : sb_Fit g) (hk : d + L.2 ≤ k) (hk2 : k ≤ 60000) : Mt l G mJ0_getBytes_840e7 [.ref (gA G 0 i), .ref b, .int (nI d), .int (nI 0)] (n) h 0 0 (fun r n2 h2 => r = none ∧ n2 = n ∧ ∃ g2 : Nat → Int32, h2 b = some (.inl (gC G 2, k, .inl g2)) ∧ sb_Fit g2 ∧ (∀ j, j < d → g2 j = g j) ∧ (∀ j, j < L.2 → g2 (d + j) = sb_b (L.1 j)) ∧ offn 1 b h h2) := by
  refine Mt.of (by decide) (Nat.le_of_ble_eq_true rfl) rfl ?_
  refine v_ls (ls2 := [some (.ref (gA G 0 i)), some (.ref b), some (.int (nI d)), some (.int (nI 0))]) rfl ?_
  have hv : strV G h (gA G 0 i) b L := Or.inr ⟨i, hi, rfl, hL⟩
  subst hL
  have hl9 := cstL_2 i hi
  have hl8 := st_l9 i hi
  refine v_aload_n dJ0_getBytes_840e7_0 rfl ?_
  refine v_callStr (st := []) dJ0_getBytes_840e7_1 hv (t_V0_coder hv) wJ0_335 rfl rfl ⟨Nat.le_of_ble_eq_true rfl, Nat.le_of_ble_eq_true rfl⟩ (Nat.le_of_ble_eq_true rfl) ⟨by omega, by omega⟩ (fun r n2 h2 hq => ?_)
  obtain ⟨rfl, hn9, rfl⟩ := hq; replace hn9 := hn9.symm; subst hn9
  refine v_st (st2 := [.int (nI 0)]) rfl ?_
  refine v_iload_n dJ0_getBytes_840e7_4 rfl ?_
  refine n_icmp_ne (tgt := 28) (x := 0) (y := 0) dJ0_getBytes_840e7_5 (by decide) (by decide) (by decide) (fun c => absurd c (by decide)) (fun _ => ?_)
  refine v_aload_n dJ0_getBytes_840e7_8 rfl ?_
  refine v_sval (i := i) dJ0_getBytes_840e7_9 (by omega) q4_210 ?_
  refine v_iconst (v := nI 0) dJ0_getBytes_840e7_12 (by decide) ?_
  refine v_aload_n dJ0_getBytes_840e7_13 rfl ?_
  refine v_iload_n dJ0_getBytes_840e7_14 rfl ?_
  refine v_iload_n dJ0_getBytes_840e7_15 rfl ?_
  refine v_ishl dJ0_getBytes_840e7_16 ?_
  refine v_st (st2 := [.int (nI d), .ref b, .int (nI 0), .ref (gA G 1 i)]) (by rw [show (nI 0 : Int32) = 0 from rfl, sb_shl0]) ?_
  refine v_aload_n dJ0_getBytes_840e7_17 rfl ?_
  refine v_sval (i := i) dJ0_getBytes_840e7_18 (by omega) q4_210 ?_
  refine v_slen (i := i) dJ0_getBytes_840e7_21 (by omega) ?_
  refine v_st (st2 := [.int (nI (st_len.getD i 0)), .int (nI d), .ref b, .int (nI 0), .ref (gA G 1 i)]) rfl ?_
  refine n_copyK (i := i) (x := st_len.getD i 0) (d := d) dJ0_getBytes_840e7_22 q5_9 hi hb (by omega) (by omega) (by omega) (fun j hj => by rw [(cstL_b i hi j (by rw [cstL_2 i hi]; exact hj)).2]; exact sb_fitB _) (Nat.le_of_ble_eq_true rfl) (Nat.le_of_ble_eq_true rfl) ?_
  refine nw (fun h1 f1 s1 => ?_)
  refine v_goto (tgt := 43) dJ0_getBytes_840e7_25 (by decide) ?_
  refine v_vret dJ0_getBytes_840e7_43 rfl ?_ (by omega) (by omega)
  refine ⟨rfl, rfl, _, f1, ?_, fun j hj => if_neg (by omega), fun j hj => ?_, s1⟩
  · intro j
    unfold va_cpy
    split
    · show fits .byte (.int ((st_byt.getD i []).getD (0 + (j - d)) 0)) = true
      rw [(cstL_b i hi (0 + (j - d)) (by omega)).2]
      exact sb_fitB _
    · exact hg j
  · rw [show va_cpy (fun j => (st_byt.getD i []).getD j 0) g 0 d (st_len.getD i 0) (d + j) = (fun j => (st_byt.getD i []).getD j 0) (0 + (d + j - d)) from if_pos (by omega), show 0 + (d + j - d) = j by omega]
    exact (cstL_b i hi j hj).2
theorem t_V0_getBytes {l : Launch} {G : vG} {h : AH} {n : Nat} {r ra b k d : Nat} {L : Ln} {g : Nat → Int32} (hv : strV G h r ra L) (hb : h b = some (.inl (gC G 2, k, .inl g))) (hg : sb_Fit g) (hk : d + L.2 ≤ k) (hk2 : k ≤ 60000) : Mt l G mJ0_getBytes_840e7 [.ref r, .ref b, .int (nI d), .int (nI 0)] n h 0 0 (fun r n2 h2 => r = none ∧ n2 = n ∧ ∃ g2 : Nat → Int32, h2 b = some (.inl (gC G 2, k, .inl g2)) ∧ sb_Fit g2 ∧ (∀ j, j < d → g2 j = g j) ∧ (∀ j, j < L.2 → g2 (d + j) = sb_b (L.1 j)) ∧ offn 1 b h h2) := by
  rcases hv with ha | ⟨i, hi, rfl, hL⟩
  · exact t_H0_getBytes ha hb hg hk hk2
  · exact t_K0_getBytes hi hL hb hg hk hk2
set_option maxRecDepth 20000 in
set_option maxHeartbeats 4000000 in
theorem t_J5_inflateIfNeededFor_a7421 {l : Launch} {G : vG} {h : AH} {n : Nat} {s a mb k r ra : Nat} {L : Ln} (hs : h s = some (.inr (0, [.ref a, .int (nI 0), .int (nI mb), .int (nI k)]))) (hv : strV G h r ra L) : Mt l G mJ5_inflateIfNeededFor_a7421 [.ref s, .ref r] (n) h 0 0 (fun r n2 h2 => r = none ∧ n2 = n ∧ h2 = h) := by
  refine Mt.of (by decide) (Nat.le_of_ble_eq_true rfl) rfl ?_
  refine v_ls (ls2 := [some (.ref s), some (.ref r)]) rfl ?_
  refine v_gsC dJ5_inflateIfNeededFor_a7421_0 q1_214 ?_
  refine v_st (st2 := [.int (nI 1)]) rfl ?_
  refine n_if_eq (tgt := 21) (x := 1) dJ5_inflateIfNeededFor_a7421_3 (by decide) (by decide) (fun c => absurd c (by decide)) (fun _ => ?_)
  refine v_aload_n dJ5_inflateIfNeededFor_a7421_6 rfl ?_
  refine fJ5_22 (v := .int (nI 0)) rfl dJ5_inflateIfNeededFor_a7421_7 hs rfl ?_
  refine v_aload_n dJ5_inflateIfNeededFor_a7421_10 rfl ?_
  refine v_callStr (st := [.int (nI 0)]) dJ5_inflateIfNeededFor_a7421_11 hv (t_V0_coder hv) wJ5_40 rfl rfl ⟨Nat.le_of_ble_eq_true rfl, Nat.le_of_ble_eq_true rfl⟩ (Nat.le_of_ble_eq_true rfl) ⟨by omega, by omega⟩ (fun r n2 h2 hq => ?_)
  obtain ⟨rfl, hn9, rfl⟩ := hq; replace hn9 := hn9.symm; subst hn9
  refine v_st (st2 := [.int (nI 0), .int (nI 0)]) rfl ?_
  refine n_icmp_eq (tgt := 21) (x := 0) (y := 0) dJ5_inflateIfNeededFor_a7421_14 (by decide) (by decide) (by decide) (fun _ => ?_) (fun c => absurd c (by decide))
  refine v_vret dJ5_inflateIfNeededFor_a7421_21 rfl ?_ (by omega) (by omega)
  exact ⟨rfl, rfl, rfl⟩
set_option maxRecDepth 20000 in
set_option maxHeartbeats 4000000 in
theorem t_J5_putStringAt_47b60 {l : Launch} {G : vG} {h : AH} {n : Nat} {s a mb k m r ra : Nat} {L : Ln} {f : Nat → Int32} (hs : h s = some (.inr (0, [.ref a, .int (nI 0), .int (nI mb), .int (nI k)]))) (hv : strV G h r ra L) (ha : h a = some (.inl (gC G 2, m, .inl f))) (hf : sb_Fit f) (hm : k + L.2 ≤ m) (hm2 : m ≤ 60000) : Mt l G mJ5_putStringAt_47b60 [.ref s, .int (nI k), .ref r] (n) h 0 0 (fun r n2 h2 => r = none ∧ n2 = n ∧ ∃ g2 : Nat → Int32, h2 a = some (.inl (gC G 2, m, .inl g2)) ∧ sb_Fit g2 ∧ (∀ j, j < k → g2 j = f j) ∧ (∀ j, j < L.2 → g2 (k + j) = sb_b (L.1 j)) ∧ offn 1 a h h2) := by
  refine Mt.of (by decide) (Nat.le_of_ble_eq_true rfl) rfl ?_
  refine v_ls (ls2 := [some (.ref s), some (.int (nI k)), some (.ref r)]) rfl ?_
  refine v_aload_n dJ5_putStringAt_47b60_0 rfl ?_
  refine v_aload_n dJ5_putStringAt_47b60_1 rfl ?_
  refine v_callU (st := []) dJ5_putStringAt_47b60_2 (t_J5_inflateIfNeededFor_a7421 hs hv) wJ5_397 hs rfl rfl ⟨Nat.le_of_ble_eq_true rfl, Nat.le_of_ble_eq_true rfl⟩ (Nat.le_of_ble_eq_true rfl) ⟨by omega, by omega⟩ (fun r n2 h2 hq => ?_)
  obtain ⟨rfl, hn9, rfl⟩ := hq; replace hn9 := hn9.symm; subst hn9
  refine v_st (st2 := []) rfl ?_
  refine v_aload_n dJ5_putStringAt_47b60_5 rfl ?_
  refine v_aload_n dJ5_putStringAt_47b60_6 rfl ?_
  refine fJ5_15 (v := .ref a) rfl dJ5_putStringAt_47b60_7 hs rfl ?_
  refine v_iload_n dJ5_putStringAt_47b60_10 rfl ?_
  refine v_aload_n dJ5_putStringAt_47b60_11 rfl ?_
  refine fJ5_22 (v := .int (nI 0)) rfl dJ5_putStringAt_47b60_12 hs rfl ?_
  refine v_callStr (st := []) dJ5_putStringAt_47b60_15 hv (t_V0_getBytes hv ha hf (by omega) (by omega)) wJ5_399 rfl rfl ⟨Nat.le_of_ble_eq_true rfl, Nat.le_of_ble_eq_true rfl⟩ (Nat.le_of_ble_eq_true rfl) ⟨by omega, by omega⟩ (fun r n2 h2 hq => ?_)
  obtain ⟨rfl, hn9, hq⟩ := hq; replace hn9 := hn9.symm; subst hn9
  refine v_st (st2 := []) rfl ?_
  refine v_vret dJ5_putStringAt_47b60_18 rfl ?_ (by omega) (by omega)
  exact ⟨rfl, rfl, hq⟩
set_option maxRecDepth 20000 in
set_option maxHeartbeats 4000000 in
theorem tg_J5_append_cf1ce {l : Launch} {G : vG} {h : AH} {n : Nat} {s a m k mb mc ms r ra : Nat} {t : Nat → Nat} {L : Ln} (hb : sbP G h s a m t k mb) (hv : strV G h r ra L) (hm : m ≤ 60000) (hk : k + L.2 ≤ 60000) (hqc : sb_cap (k + L.2) m ≤ 60000) (hcs : m < k + L.2 → 1 ≤ mc ∧ sb_cap (k + L.2) m ≤ ms) (hra : ra ≠ a) : Mt l G mJ5_append_cf1ce [.ref s, .ref r] (n) h mc ms (fun r n2 h2 => r = some (.ref s) ∧ ∃ a2 : Nat, sbG (k + L.2) m a n a2 n2 ∧ sbP G h2 s a2 (sb_cap (k + L.2) m) (sb_cat t k L.1) (k + L.2) mb ∧ frP (fun z => z ≠ s ∧ z ≠ a ∧ z ≠ n) h h2) := by
  refine Mt.of (by decide) (Nat.le_of_ble_eq_true rfl) rfl ?_
  refine v_ls (ls2 := [some (.ref s), some (.ref r), none]) rfl ?_
  have ⟨hs, f, ha, hL, hf, hkm⟩ := hb
  refine v_lt hs (fun hsn => ?_)
  refine v_lt ha (fun han => ?_)
  have hsa := n_obj_ne hs ha
  refine v_strlt hv (fun hbn => ?_)
  have hl256 := strV_256 hv
  refine v_aload_n dJ5_append_cf1ce_0 rfl ?_
  refine v_ifnn (tgt := 9) dJ5_append_cf1ce_1 (by decide) ?_
  refine v_aload_n dJ5_append_cf1ce_9 rfl ?_
  refine v_callStr (st := []) dJ5_append_cf1ce_10 hv (t_V0_length hv) wJ5_32 rfl rfl ⟨Nat.le_of_ble_eq_true rfl, Nat.le_of_ble_eq_true rfl⟩ (Nat.le_of_ble_eq_true rfl) ⟨by omega, by omega⟩ (fun r n2 h2 hq => ?_)
  obtain ⟨rfl, hn9, rfl⟩ := hq; replace hn9 := hn9.symm; subst hn9
  refine v_st (st2 := [.int (nI L.2)]) rfl ?_
  refine v_istore_n dJ5_append_cf1ce_13 rfl (by decide) ?_
  refine v_ls (ls2 := [some (.ref s), some (.ref r), some (.int (nI L.2))]) rfl ?_
  refine v_aload_n dJ5_append_cf1ce_14 rfl ?_
  refine v_aload_n dJ5_append_cf1ce_15 rfl ?_
  refine fJ5_79 (v := .int (nI k)) rfl dJ5_append_cf1ce_16 hs rfl ?_
  refine v_iload_n dJ5_append_cf1ce_19 rfl ?_
  refine n_iadd (x := k) (y := L.2) dJ5_append_cf1ce_20 ?_
  refine v_callU (st := []) dJ5_append_cf1ce_21 (t_J5_ensureCapacityInternal_d00df (q := k + L.2) hs ha (by omega) (by omega) (by omega) hcs hf) wJ5_100 hs rfl rfl ⟨Nat.le_of_ble_eq_true rfl, Nat.le_of_ble_eq_true rfl⟩ (Nat.le_of_ble_eq_true rfl) ⟨by omega, by omega⟩ (fun r n2 h2 hq => ?_)
  obtain ⟨rfl, a2, g, hg9, fs9, fa9, hf9, hgk, fr9⟩ := hq
  refine v_st (st2 := []) rfl ?_
  have hsa9 := n_obj_ne fs9 fa9
  have hcg := sb_cap_ge (k + L.2) m
  have fr8 : frP (fun z => z ≠ s ∧ z ≠ a ∧ z ≠ n) _ _ := fun z (hz : z ≠ s ∧ z ≠ a ∧ z ≠ n) => fr9 z (by omega)
  have hv2 : strV G _ r ra L := hv.elim (fun z => Or.inl (strP.fr z (fr9 r ⟨fun e => (by have z1 := z.1; rw [e, hs] at z1; cases z1), (by have := hbn z; omega)⟩) (fr9 ra ⟨fun e => (by obtain ⟨-, f7, z2, -⟩ := z; rw [e, hs] at z2; cases z2), (by have := hbn z; omega)⟩))) Or.inr
  refine v_aload_n dJ5_append_cf1ce_24 rfl ?_
  refine v_aload_n dJ5_append_cf1ce_25 rfl ?_
  refine fJ5_79 (v := .int (nI k)) rfl dJ5_append_cf1ce_26 fs9 rfl ?_
  refine v_aload_n dJ5_append_cf1ce_29 rfl ?_
  refine v_callU (st := []) dJ5_append_cf1ce_30 (t_J5_putStringAt_47b60 fs9 hv2 fa9 hf9 (by omega) (by omega)) wJ5_208 fs9 rfl rfl ⟨Nat.le_of_ble_eq_true rfl, Nat.le_of_ble_eq_true rfl⟩ (Nat.le_of_ble_eq_true rfl) ⟨by omega, by omega⟩ (fun r n2 h2 hq => ?_)
  obtain ⟨rfl, hn9, g2, fg2, hgf2, hgk2, hgl2, sg2⟩ := hq; replace hn9 := hn9.symm; subst hn9
  refine v_st (st2 := []) rfl ?_
  have fa21 := (sg2 s (by omega)).trans fs9
  have fr22 := frP_tr (P := fun z => z ≠ s ∧ z ≠ a ∧ z ≠ n) fr8 sg2 (fun z (hz : z ≠ s ∧ z ≠ a ∧ z ≠ n) => by omega)
  refine v_aload_n dJ5_append_cf1ce_33 rfl ?_
  refine v_dup dJ5_append_cf1ce_34 rfl ?_
  refine fJ5_79 (v := .int (nI k)) rfl dJ5_append_cf1ce_35 fa21 rfl ?_
  refine v_iload_n dJ5_append_cf1ce_38 rfl ?_
  refine n_iadd (x := k) (y := L.2) dJ5_append_cf1ce_39 ?_
  refine pJ5_79 rfl dJ5_append_cf1ce_40 fa21 (Nat.le_of_ble_eq_true rfl) ?_
  refine nw (fun h1 f1 s1 => ?_)
  have fa21 : h1 (s) = some (.inr (0, [.ref a2, .int (nI 0), .int (nI mb), .int (nI (k + L.2))])) := f1
  have sa21 := s1
  clear f1 s1
  have fa22 := (sa21 (a2) (by omega)).trans fg2
  have fr23 : frP (fun z => z ≠ s ∧ z ≠ a ∧ z ≠ n) _ _ := fun z (hz : z ≠ s ∧ z ≠ a ∧ z ≠ n) => (sa21 z (by omega)).trans (fr22 z hz)
  refine v_aload_n dJ5_append_cf1ce_43 rfl ?_
  refine v_aret dJ5_append_cf1ce_44 rfl (Or.inl ⟨_, rfl⟩) ?_ (by omega) (by omega)
  exact ⟨rfl, a2, hg9, ⟨fa21, _, fa22, sb_latPut (w := L.2) hL (fun j hj => by rw [hgk2 j hj]; exact hgk j (by omega)) (fun i hi => ⟨hl256 i hi, hgl2 i hi⟩), hgf2, by omega⟩, fr23⟩
set_option maxRecDepth 20000 in
set_option maxHeartbeats 4000000 in
theorem tg_J4_append_15ec4 {l : Launch} {G : vG} {h : AH} {n : Nat} {s a m k mb mc ms r ra : Nat} {t : Nat → Nat} {L : Ln} (hb : sbP G h s a m t k mb) (hv : strV G h r ra L) (hm : m ≤ 60000) (hk : k + L.2 ≤ 60000) (hqc : sb_cap (k + L.2) m ≤ 60000) (hcs : m < k + L.2 → 1 ≤ mc ∧ sb_cap (k + L.2) m ≤ ms) (hra : ra ≠ a) : Mt l G mJ4_append_15ec4 [.ref s, .ref r] (n) h mc ms (fun r n2 h2 => r = some (.ref s) ∧ ∃ a2 : Nat, sbG (k + L.2) m a n a2 n2 ∧ sbP G h2 s a2 (sb_cap (k + L.2) m) (sb_cat t k L.1) (k + L.2) mb ∧ frP (fun z => z ≠ s ∧ z ≠ a ∧ z ≠ n) h h2) := by
  refine Mt.of (by decide) (Nat.le_of_ble_eq_true rfl) rfl ?_
  refine v_ls (ls2 := [some (.ref s), some (.ref r)]) rfl ?_
  refine v_aload_n dJ4_append_15ec4_0 rfl ?_
  refine v_aload_n dJ4_append_15ec4_1 rfl ?_
  refine v_callSU (st := []) dJ4_append_15ec4_2 (tg_J5_append_cf1ce hb hv hm hk hqc hcs hra) wJ4_29 hb.1 rfl rfl ⟨Nat.le_of_ble_eq_true rfl, Nat.le_of_ble_eq_true rfl⟩ (Nat.le_of_ble_eq_true rfl) ⟨by omega, by omega⟩ (fun r n2 h2 hq => ?_)
  obtain ⟨rfl, hz9⟩ := hq
  refine v_st (st2 := [.ref s]) rfl ?_
  refine v_pop dJ4_append_15ec4_5 rfl ?_
  refine v_aload_n dJ4_append_15ec4_6 rfl ?_
  refine v_aret dJ4_append_15ec4_7 rfl (Or.inl ⟨_, rfl⟩) ?_ (by omega) (by omega)
  exact ⟨rfl, hz9⟩
set_option maxRecDepth 20000 in
set_option maxHeartbeats 4000000 in
theorem t_J7_checkLength_df160 {l : Launch} {G : vG} {h : AH} {n : Nat} {x y : Nat} (hx : x ≤ y) (hy : y < 2 ^ 30) : Mt l G mJ7_checkLength_df160 [.int (nI x), .int (nI y)] (n) h 0 0 (fun r n2 h2 => r = none ∧ n2 = n ∧ h2 = h) := by
  refine Mt.of (by decide) (Nat.le_of_ble_eq_true rfl) rfl ?_
  refine v_ls (ls2 := [some (.int (nI x)), some (.int (nI y))]) rfl ?_
  refine v_iload_n dJ7_checkLength_df160_0 rfl ?_
  refine v_iload_n dJ7_checkLength_df160_1 rfl ?_
  refine n_icmp_ge (tgt := 37) (x := y) (y := x) dJ7_checkLength_df160_2 (by decide) (by omega) (by omega) (fun c21 => ?_) (fun c21 => ?_)
  · refine v_vret dJ7_checkLength_df160_37 rfl ?_ (by omega) (by omega)
    exact ⟨rfl, rfl, rfl⟩
  · omega
set_option maxRecDepth 20000 in
set_option maxHeartbeats 4000000 in
theorem t_J7_copyOfRangeByte_39247 {l : Launch} {G : vG} {h : AH} {n : Nat} {a m k : Nat} {f : Nat → Int32} (ha : h a = some (.inl (gC G 2, m, .inl f))) (hk : k ≤ m) (hm : m ≤ 60000) (hf : sb_Fit f) (han : a < n) : Mt l G mJ7_copyOfRangeByte_39247 [.ref a, .int (nI 0), .int (nI k)] (n) h 1 k (fun r n2 h2 => r = some (.ref n) ∧ n2 = n + 1 ∧ (∃ g : Nat → Int32, h2 n = some (.inl (gC G 2, k, .inl g)) ∧ sb_Fit g ∧ ∀ j, j < k → g j = f j) ∧ offn 1 n h h2) := by
  refine Mt.of (by decide) (Nat.le_of_ble_eq_true rfl) rfl ?_
  refine v_ls (ls2 := [some (.ref a), some (.int (nI 0)), some (.int (nI k)), none, none]) rfl ?_
  refine v_iload_n dJ7_copyOfRangeByte_39247_0 rfl ?_
  refine v_iload_n dJ7_copyOfRangeByte_39247_1 rfl ?_
  refine v_callS (st := []) dJ7_copyOfRangeByte_39247_2 (t_J7_checkLength_df160 (x := 0) (y := k) (by omega) (by omega)) wJ7_343 rfl ⟨Nat.le_of_ble_eq_true rfl, Nat.le_of_ble_eq_true rfl⟩ (Nat.le_of_ble_eq_true rfl) ⟨by omega, by omega⟩ (fun r n2 h2 hq => ?_)
  obtain ⟨rfl, hn9, rfl⟩ := hq; replace hn9 := hn9.symm; subst hn9
  refine v_st (st2 := []) rfl ?_
  refine v_iload_n dJ7_copyOfRangeByte_39247_5 rfl ?_
  refine v_iload_n dJ7_copyOfRangeByte_39247_6 rfl ?_
  refine n_isub (x := k) (y := 0) dJ7_copyOfRangeByte_39247_7 (by omega) ?_
  refine v_st (st2 := [.int (nI k)]) (by rw [Nat.sub_zero]) ?_
  refine v_istore_n dJ7_copyOfRangeByte_39247_8 rfl (by decide) ?_
  refine v_ls (ls2 := [some (.ref a), some (.int (nI 0)), some (.int (nI k)), some (.int (nI k)), none]) rfl ?_
  refine v_iload_n dJ7_copyOfRangeByte_39247_9 rfl ?_
  refine v_nb (k := k) dJ7_copyOfRangeByte_39247_10 (by omega) (by omega) (by omega) (fun h1 f1 s1 => ?_)
  have fa8 := (s1 a (by omega)).trans ha
  refine v_astore dJ7_copyOfRangeByte_39247_12 rfl (by decide) ?_
  refine v_ls (ls2 := [some (.ref a), some (.int (nI 0)), some (.int (nI k)), some (.int (nI k)), some (.ref n)]) rfl ?_
  refine v_aload_n dJ7_copyOfRangeByte_39247_14 rfl ?_
  refine v_iload_n dJ7_copyOfRangeByte_39247_15 rfl ?_
  refine v_aload dJ7_copyOfRangeByte_39247_16 rfl ?_
  refine v_iconst (v := nI 0) dJ7_copyOfRangeByte_39247_18 (by decide) ?_
  refine v_aload_n dJ7_copyOfRangeByte_39247_19 rfl ?_
  refine v_alen (t := 2) dJ7_copyOfRangeByte_39247_20 fa8 (by decide) ?_
  refine v_st (st2 := [.int (nI m), .int (nI 0), .ref n, .int (nI 0), .ref a]) rfl ?_
  refine v_iload_n dJ7_copyOfRangeByte_39247_21 rfl ?_
  refine n_isub (x := m) (y := 0) dJ7_copyOfRangeByte_39247_22 (by omega) ?_
  refine v_st (st2 := [.int (nI m), .int (nI 0), .ref n, .int (nI 0), .ref a]) (by rw [Nat.sub_zero]) ?_
  refine v_iload_n dJ7_copyOfRangeByte_39247_23 rfl ?_
  refine n_min (x := m) (y := k) dJ7_copyOfRangeByte_39247_24 q3_180 q2_70 q1_12 q2_71 (Nat.le_of_ble_eq_true rfl) (Nat.le_of_ble_eq_true rfl) (by omega) (by omega) (by omega) (by omega) ?_
  refine v_st (st2 := [.int (nI k), .int (nI 0), .ref n, .int (nI 0), .ref a]) (by rw [Nat.min_eq_right (by omega)]) ?_
  refine n_copyB (x := k) dJ7_copyOfRangeByte_39247_27 q3_181 fa8 f1 (by omega) (by omega) (by omega) hf (Nat.le_of_ble_eq_true rfl) (Nat.le_of_ble_eq_true rfl) ?_
  refine nw (fun h2 f2 s2 => ?_)
  refine v_aload dJ7_copyOfRangeByte_39247_30 rfl ?_
  refine v_aret dJ7_copyOfRangeByte_39247_32 rfl (Or.inr ⟨_, rfl⟩) ?_ (by omega) (by omega)
  exact ⟨rfl, rfl, ⟨_, f2, sb_fitC hf sb_fit0, fun j hj => sb_cpy0 hj⟩, fun z hz => (s2 z hz).trans (s1 z hz)⟩
set_option maxRecDepth 20000 in
set_option maxHeartbeats 4000000 in
theorem t_J7_copyOfRange_39247 {l : Launch} {G : vG} {h : AH} {n : Nat} {a m k : Nat} {f : Nat → Int32} (ha : h a = some (.inl (gC G 2, m, .inl f))) (hk : k ≤ m) (hm : m ≤ 60000) (hf : sb_Fit f) (han : a < n) : Mt l G mJ7_copyOfRange_39247 [.ref a, .int (nI 0), .int (nI k)] (n) h 1 k (fun r n2 h2 => r = some (.ref n) ∧ n2 = n + 1 ∧ (∃ g : Nat → Int32, h2 n = some (.inl (gC G 2, k, .inl g)) ∧ sb_Fit g ∧ ∀ j, j < k → g j = f j) ∧ offn 1 n h h2) := by
  refine Mt.of (by decide) (Nat.le_of_ble_eq_true rfl) rfl ?_
  refine v_ls (ls2 := [some (.ref a), some (.int (nI 0)), some (.int (nI k))]) rfl ?_
  refine v_iload_n dJ7_copyOfRange_39247_0 rfl ?_
  refine n_if_ne (tgt := 10) (x := 0) dJ7_copyOfRange_39247_1 (by decide) (by decide) (fun c => absurd c (by decide)) (fun _ => ?_)
  refine v_iload_n dJ7_copyOfRange_39247_4 rfl ?_
  refine v_aload_n dJ7_copyOfRange_39247_5 rfl ?_
  refine v_alen (t := 2) dJ7_copyOfRange_39247_6 ha (by decide) ?_
  refine v_st (st2 := [.int (nI m), .int (nI k)]) rfl ?_
  refine n_icmp_eq (tgt := 17) (x := k) (y := m) dJ7_copyOfRange_39247_7 (by decide) (by omega) (by omega) (fun c21 => ?_) (fun c21 => ?_)
  · refine v_aload_n dJ7_copyOfRange_39247_17 rfl ?_
    have hkm : k = m := by omega
    subst hkm
    refine v_clone dJ7_copyOfRange_39247_18 q3_173 ha hf (Nat.le_of_ble_eq_true rfl) (Nat.le_of_ble_eq_true rfl) (by omega) (by omega) (fun h1 f1 s1 => ?_)
    refine v_castB dJ7_copyOfRange_39247_21 q3_179 f1 ?_
    refine v_aret dJ7_copyOfRange_39247_24 rfl (Or.inr ⟨_, rfl⟩) ?_ (by omega) (by omega)
    exact ⟨rfl, rfl, ⟨f, f1, hf, fun _ _ => rfl⟩, s1⟩
  · refine v_aload_n dJ7_copyOfRange_39247_10 rfl ?_
    refine v_iload_n dJ7_copyOfRange_39247_11 rfl ?_
    refine v_iload_n dJ7_copyOfRange_39247_12 rfl ?_
    refine v_callS (st := []) dJ7_copyOfRange_39247_13 (t_J7_copyOfRangeByte_39247 ha hk hm hf han) wJ7_339 rfl ⟨Nat.le_of_ble_eq_true rfl, Nat.le_of_ble_eq_true rfl⟩ (Nat.le_of_ble_eq_true rfl) ⟨by omega, by omega⟩ (fun r n2 h2 hq => ?_)
    obtain ⟨rfl, rfl, hq⟩ := hq
    refine v_st (st2 := [.ref n]) rfl ?_
    refine v_aret dJ7_copyOfRange_39247_16 rfl (Or.inr ⟨_, rfl⟩) ?_ (by omega) (by omega)
    exact ⟨rfl, rfl, hq⟩
set_option maxRecDepth 20000 in
set_option maxHeartbeats 4000000 in
theorem t_J5_getValue_6d5f1 {l : Launch} {G : vG} {h : AH} {n : Nat} {s a mb k : Nat} (hs : h s = some (.inr (0, [.ref a, .int (nI 0), .int (nI mb), .int (nI k)]))) : Mt l G mJ5_getValue_6d5f1 [.ref s] (n) h 0 0 (fun r n2 h2 => r = some (.ref a) ∧ n2 = n ∧ h2 = h) := by
  refine Mt.of (by decide) (Nat.le_of_ble_eq_true rfl) rfl ?_
  refine v_ls (ls2 := [some (.ref s)]) rfl ?_
  refine v_aload_n dJ5_getValue_6d5f1_0 rfl ?_
  refine fJ5_15 (v := .ref a) rfl dJ5_getValue_6d5f1_1 hs rfl ?_
  refine v_aret dJ5_getValue_6d5f1_4 rfl (Or.inr ⟨_, rfl⟩) ?_ (by omega) (by omega)
  exact ⟨rfl, rfl, rfl⟩
set_option maxRecDepth 20000 in
set_option maxHeartbeats 4000000 in
theorem t_J0_init_db425 {l : Launch} {G : vG} {h : AH} {n : Nat} {s a m mb k q : Nat} {t : Nat → Nat} (hb : sbP G h s a m t k mb) (hm : m ≤ 60000) (hq : h q = some (.inr (9, [.null, .int 0, .int 0, .int 0]))) (hqn : q < n) : Mt l G mJ0_init_db425 [.ref q, .ref s, .null] (n) h 1 k (fun r n2 h2 => r = none ∧ n2 = n + 1 ∧ strP G h2 q n (t, k) ∧ frP (fun z => z ≠ q ∧ z < n) h h2) := by
  refine Mt.of (by decide) (Nat.le_of_ble_eq_true rfl) rfl ?_
  refine v_ls (ls2 := [some (.ref q), some (.ref s), some (.null), none, none]) rfl ?_
  have ⟨hs, f, ha, hL, hf, hkm⟩ := hb
  refine v_lt hs (fun hsn => ?_)
  refine v_lt ha (fun han => ?_)
  have hsq : s ≠ q := fun e => by rw [e, hq] at hs; cases hs
  have haq : a ≠ q := fun e => by rw [e, hq] at ha; cases ha
  have hsa := n_obj_ne hs ha
  refine v_aload_n dJ0_init_db425_0 rfl ?_
  refine v_objinit dJ0_init_db425_1 q4_183 q1_26 q1_27 (Nat.le_of_ble_eq_true rfl) (Nat.le_of_ble_eq_true rfl) ?_
  refine v_aload_n dJ0_init_db425_4 rfl ?_
  refine v_callU (st := []) dJ0_init_db425_5 (t_J5_getValue_6d5f1 hs) wJ0_552 hs rfl rfl ⟨Nat.le_of_ble_eq_true rfl, Nat.le_of_ble_eq_true rfl⟩ (Nat.le_of_ble_eq_true rfl) ⟨by omega, by omega⟩ (fun r n2 h2 hq => ?_)
  obtain ⟨rfl, hn9, rfl⟩ := hq; replace hn9 := hn9.symm; subst hn9
  refine v_st (st2 := [.ref a]) rfl ?_
  refine v_astore_n dJ0_init_db425_8 rfl (by decide) ?_
  refine v_ls (ls2 := [some (.ref q), some (.ref s), some (.null), some (.ref a), none]) rfl ?_
  refine v_aload_n dJ0_init_db425_9 rfl ?_
  refine v_callX (st := []) dJ0_init_db425_10 (t_SBlen (sbP_fr hb rfl rfl)) wJ0_549 hs rfl rfl ⟨Nat.le_of_ble_eq_true rfl, Nat.le_of_ble_eq_true rfl⟩ (Nat.le_of_ble_eq_true rfl) ⟨by omega, by omega⟩ (fun r n2 h2 hq => ?_)
  obtain ⟨rfl, hn9, rfl⟩ := hq; replace hn9 := hn9.symm; subst hn9
  refine v_st (st2 := [.int (nI k)]) rfl ?_
  refine v_istore dJ0_init_db425_13 rfl (by decide) ?_
  refine v_ls (ls2 := [some (.ref q), some (.ref s), some (.null), some (.ref a), some (.int (nI k))]) rfl ?_
  refine v_aload_n dJ0_init_db425_15 rfl ?_
  refine v_callU (st := []) dJ0_init_db425_16 (t_J5_isLatin1_aae02 hs ha) wJ0_1047 hs rfl rfl ⟨Nat.le_of_ble_eq_true rfl, Nat.le_of_ble_eq_true rfl⟩ (Nat.le_of_ble_eq_true rfl) ⟨by omega, by omega⟩ (fun r n2 h2 hq => ?_)
  obtain ⟨rfl, hn9, rfl⟩ := hq; replace hn9 := hn9.symm; subst hn9
  refine v_st (st2 := [.int (nI 1)]) rfl ?_
  refine n_if_eq (tgt := 41) (x := 1) dJ0_init_db425_19 (by decide) (by decide) (fun c => absurd c (by decide)) (fun _ => ?_)
  refine v_aload_n dJ0_init_db425_22 rfl ?_
  refine v_iconst (v := nI 0) dJ0_init_db425_23 (by decide) ?_
  refine pJ0_15 rfl rfl dJ0_init_db425_24 hq (Nat.le_of_ble_eq_true rfl) (by decide) (by decide) ?_
  refine nw (fun h1 f1 s1 => ?_)
  have fa21 : h1 (q) = some (.inr (9, [.null, .int (nI 0), .int 0, .int 0])) := f1
  have sa21 := s1
  clear f1 s1
  have fa22 := (sa21 (s) (by omega)).trans hs
  have fa23 := (sa21 (a) (by omega)).trans ha
  have fr24 : frP (fun z => z ≠ q ∧ z < n) _ _ := fun z (hz : z ≠ q ∧ z < n) => sa21 z (by omega)
  refine v_aload_n dJ0_init_db425_27 rfl ?_
  refine v_aload_n dJ0_init_db425_28 rfl ?_
  refine v_iconst (v := nI 0) dJ0_init_db425_29 (by decide) ?_
  refine v_iload dJ0_init_db425_30 rfl ?_
  refine v_callS (st := [.ref q]) dJ0_init_db425_32 (t_J7_copyOfRange_39247 fa23 hkm (by omega) hf han) wJ0_54 rfl ⟨Nat.le_of_ble_eq_true rfl, Nat.le_of_ble_eq_true rfl⟩ (Nat.le_of_ble_eq_true rfl) ⟨by omega, by omega⟩ (fun r n2 h2 hq => ?_)
  obtain ⟨rfl, rfl, ⟨g, fz, hfg, hgf⟩, sa9⟩ := hq
  refine v_st (st2 := [.ref n, .ref q]) rfl ?_
  have fa25 := (sa9 (s) (by omega)).trans fa22
  have fa26 := (sa9 (q) (by omega)).trans fa21
  have fr27 : frP (fun z => z ≠ q ∧ z < n) _ _ := fun z (hz : z ≠ q ∧ z < n) => (sa9 z (by omega)).trans (fr24 z hz)
  refine pJ0_9 rfl rfl dJ0_init_db425_35 fa26 (Nat.le_of_ble_eq_true rfl) ?_
  refine nw (fun h1 f1 s1 => ?_)
  have fa28 : h1 (q) = some (.inr (9, [.ref n, .int (nI 0), .int 0, .int 0])) := f1
  have sa28 := s1
  clear f1 s1
  have fa29 := (sa28 (s) (by omega)).trans fa25
  have fr30 : frP (fun z => z ≠ q ∧ z < n) _ _ := fun z (hz : z ≠ q ∧ z < n) => (sa28 z (by omega)).trans (fr27 z hz)
  have fa31 := (sa28 (n) (by omega)).trans fz
  refine v_goto (tgt := 97) dJ0_init_db425_38 (by decide) ?_
  refine v_vret dJ0_init_db425_97 rfl ?_ (by omega) (by omega)
  exact ⟨rfl, rfl, ⟨fa28, g, fa31, fun j hj => ⟨(hL j hj).1, (hgf j hj).trans (hL j hj).2⟩, hfg⟩, fr30⟩
set_option maxRecDepth 20000 in
set_option maxHeartbeats 4000000 in
theorem t_J0_init_81219 {l : Launch} {G : vG} {h : AH} {n : Nat} {s a m mb k q : Nat} {t : Nat → Nat} (hb : sbP G h s a m t k mb) (hm : m ≤ 60000) (hq : h q = some (.inr (9, [.null, .int 0, .int 0, .int 0]))) (hqn : q < n) : Mt l G mJ0_init_81219 [.ref q, .ref s] (n) h 1 k (fun r n2 h2 => r = none ∧ n2 = n + 1 ∧ strP G h2 q n (t, k) ∧ frP (fun z => z ≠ q ∧ z < n) h h2) := by
  refine Mt.of (by decide) (Nat.le_of_ble_eq_true rfl) rfl ?_
  refine v_ls (ls2 := [some (.ref q), some (.ref s)]) rfl ?_
  refine v_aload_n dJ0_init_81219_0 rfl ?_
  refine v_aload_n dJ0_init_81219_1 rfl ?_
  refine v_null dJ0_init_81219_2 ?_
  refine v_callI (st := []) dJ0_init_81219_3 (t_J0_init_db425 hb hm hq hqn) wJ0_489 rfl rfl ⟨Nat.le_of_ble_eq_true rfl, Nat.le_of_ble_eq_true rfl⟩ (Nat.le_of_ble_eq_true rfl) ⟨by omega, by omega⟩ (fun r n2 h2 hq => ?_)
  obtain ⟨rfl, hz9⟩ := hq
  refine v_st (st2 := []) rfl ?_
  refine v_vret dJ0_init_81219_6 rfl ?_ (by omega) (by omega)
  exact ⟨rfl, hz9⟩
set_option maxRecDepth 20000 in
set_option maxHeartbeats 4000000 in
theorem t_J4_toString_0e30d {l : Launch} {G : vG} {h : AH} {n : Nat} {s a m mb k : Nat} {t : Nat → Nat} (hb : sbP G h s a m t k mb) (hm : m ≤ 60000) : Mt l G mJ4_toString_0e30d [.ref s] (n) h 2 (4 + k) (fun r n2 h2 => r = some (.ref n) ∧ n2 = n + 2 ∧ strP G h2 n (n + 1) (t, k) ∧ frP (fun z => z < n) h h2) := by
  refine Mt.of (by decide) (Nat.le_of_ble_eq_true rfl) rfl ?_
  refine v_ls (ls2 := [some (.ref s)]) rfl ?_
  have ⟨hs, f, ha, hL, hf, hkm⟩ := hb
  refine v_lt hs (fun hsn => ?_)
  refine v_lt ha (fun han => ?_)
  refine nnJ0 dJ4_toString_0e30d_0 q4_175 (by omega) (by omega) (fun h1 f1 s1 => ?_)
  have fa9 := f1
  have sa9 := s1
  clear f1 s1
  refine v_dup dJ4_toString_0e30d_3 rfl ?_
  refine v_aload_n dJ4_toString_0e30d_4 rfl ?_
  refine v_callI (st := [.ref n]) dJ4_toString_0e30d_5 (t_J0_init_81219 (sbP_fr hb (sa9 s (by omega)) (sa9 a (by omega))) hm fa9 (by omega)) wJ4_137 rfl rfl ⟨Nat.le_of_ble_eq_true rfl, Nat.le_of_ble_eq_true rfl⟩ (Nat.le_of_ble_eq_true rfl) ⟨by omega, by omega⟩ (fun r n2 h2 hq => ?_)
  obtain ⟨rfl, rfl, hs9, fr9⟩ := hq
  refine v_st (st2 := [.ref n]) rfl ?_
  refine v_aret dJ4_toString_0e30d_8 rfl (Or.inl ⟨_, rfl⟩) ?_ (by omega) (by omega)
  exact ⟨rfl, rfl, hs9, fun z (hz : z < n) => (fr9 z (by omega)).trans (sa9 z (by omega))⟩
set_option maxRecDepth 20000 in
set_option maxHeartbeats 4000000 in
theorem t_J1_equals_b5fdf {l : Launch} {G : vG} {h : AH} {n : Nat} {a b k : Nat} {f g : Nat → Int32} (ha : h a = some (.inl (gC G 2, k, .inl f))) (hb : h b = some (.inl (gC G 2, k, .inl g))) (hk : k < 2 ^ 30) (he : ∀ j, j < k → f j = g j) : Mt l G mJ1_equals_b5fdf [.ref a, .ref b] (n) h 0 0 (fun r n2 h2 => r = some (.int (nI 1)) ∧ n2 = n ∧ h2 = h) := by
  refine Mt.of (by decide) (Nat.le_of_ble_eq_true rfl) rfl ?_
  refine v_ls (ls2 := [some (.ref a), some (.ref b), none]) rfl ?_
  refine v_aload_n dJ1_equals_b5fdf_0 rfl ?_
  refine v_alen (t := 2) dJ1_equals_b5fdf_1 ha (by decide) ?_
  refine v_st (st2 := [.int (nI k)]) rfl ?_
  refine v_aload_n dJ1_equals_b5fdf_2 rfl ?_
  refine v_alen (t := 2) dJ1_equals_b5fdf_3 hb (by decide) ?_
  refine v_st (st2 := [.int (nI k), .int (nI k)]) rfl ?_
  refine n_icmp_ne (tgt := 34) (x := k) (y := k) dJ1_equals_b5fdf_4 (by decide) (by omega) (by omega) (fun c21 => ?_) (fun c21 => ?_)
  · omega
  · refine v_iconst (v := nI 0) dJ1_equals_b5fdf_7 (by decide) ?_
    refine v_istore_n dJ1_equals_b5fdf_8 rfl (by decide) ?_
    refine v_ls (ls2 := [some (.ref a), some (.ref b), some (.int (nI 0))]) rfl ?_
    refine loopV (fun i => [some (.ref a), some (.ref b), some (.int (nI i))]) (fun _ => True) (N := k) 0 (Nat.zero_le _) rfl trivial (fun i hi _ ih => ?_)
    refine v_iload_n dJ1_equals_b5fdf_9 rfl ?_
    refine v_aload_n dJ1_equals_b5fdf_10 rfl ?_
    refine v_alen (t := 2) dJ1_equals_b5fdf_11 ha (by decide) ?_
    refine v_st (st2 := [.int (nI k), .int (nI i)]) rfl ?_
    refine n_icmp_ge (tgt := 32) (x := i) (y := k) dJ1_equals_b5fdf_12 (by decide) (by omega) (by omega) (fun c22 => ?_) (fun c22 => ?_)
    · refine v_iconst (v := nI 1) dJ1_equals_b5fdf_32 (by decide) ?_
      refine v_zret (ty := .boolean) dJ1_equals_b5fdf_33 rfl (by decide) ?_ (by omega) (by omega)
      exact ⟨rfl, rfl, rfl⟩
    · refine v_aload_n dJ1_equals_b5fdf_15 rfl ?_
      refine v_iload_n dJ1_equals_b5fdf_16 rfl ?_
      refine n_baldS (j := i) (y := f i) dJ1_equals_b5fdf_17 ha (by omega) (by omega) rfl ?_
      refine v_aload_n dJ1_equals_b5fdf_18 rfl ?_
      refine v_iload_n dJ1_equals_b5fdf_19 rfl ?_
      refine n_baldS (j := i) (y := g i) dJ1_equals_b5fdf_20 hb (by omega) (by omega) rfl ?_
      refine v_icmp_eq (tgt := 26) dJ1_equals_b5fdf_21 (by decide) (fun c23 => ?_) (fun c23 => ?_)
      · refine n_iinc (k := 1) (x := i) dJ1_equals_b5fdf_26 (by decide) rfl rfl (by decide) ?_
        refine v_ls (ls2 := [some (.ref a), some (.ref b), some (.int (nI (i + 1)))]) rfl ?_
        refine v_goto (tgt := 9) dJ1_equals_b5fdf_29 (by decide) ?_
        exact ih (by omega) trivial
      · exact absurd (he i (by omega)) c23
set_option maxRecDepth 20000 in
set_option maxHeartbeats 4000000 in
theorem t_J0_equals_9ea2d {l : Launch} {G : vG} {h : AH} {n : Nat} {q a p b : Nat} {L : Ln} (hs : strP G h q a L) (hp : strP G h p b L) (hL : L.2 < 2 ^ 30) : Mt l G mJ0_equals_9ea2d [.ref q, .ref p] (n) h 0 0 (fun r n2 h2 => r = some (.int (nI 1)) ∧ n2 = n ∧ h2 = h) := by
  refine Mt.of (by decide) (Nat.le_of_ble_eq_true rfl) rfl ?_
  refine v_ls (ls2 := [some (.ref q), some (.ref p), none]) rfl ?_
  obtain ⟨f, hfa, hla, hfi⟩ := hs.2
  obtain ⟨g, hfb, hlb, hgi⟩ := hp.2
  refine v_aload_n dJ0_equals_9ea2d_0 rfl ?_
  refine v_aload_n dJ0_equals_9ea2d_1 rfl ?_
  refine v_acmp_ne (tgt := 7) dJ0_equals_9ea2d_2 (by decide) (fun c1 => ?_) (fun c1 => ?_)
  · refine v_aload_n dJ0_equals_9ea2d_7 rfl ?_
    refine v_instT (ci := 9) (T := TJ0) (N := 4) dJ0_equals_9ea2d_8 q5_100 hp.1 rfl ?_
    refine v_st (st2 := [.int (nI 1)]) rfl ?_
    refine n_if_eq (tgt := 54) (x := 1) dJ0_equals_9ea2d_11 (by decide) (by decide) (fun c => absurd c (by decide)) (fun _ => ?_)
    refine v_aload_n dJ0_equals_9ea2d_14 rfl ?_
    refine v_castT (ci := 9) (T := TJ0) (N := 4) dJ0_equals_9ea2d_15 q5_100 hp.1 rfl ?_
    refine v_astore_n dJ0_equals_9ea2d_18 rfl (by decide) ?_
    refine v_ls (ls2 := [some (.ref q), some (.ref p), some (.ref p)]) rfl ?_
    refine v_gsC dJ0_equals_9ea2d_19 q3_101 ?_
    refine v_st (st2 := [.int (nI 1)]) rfl ?_
    refine n_if_eq (tgt := 36) (x := 1) dJ0_equals_9ea2d_22 (by decide) (by decide) (fun c => absurd c (by decide)) (fun _ => ?_)
    refine v_aload_n dJ0_equals_9ea2d_25 rfl ?_
    refine fJ0_15 (v := .int (nI 0)) rfl dJ0_equals_9ea2d_26 hs.1 rfl ?_
    refine v_aload_n dJ0_equals_9ea2d_29 rfl ?_
    refine fJ0_15 (v := .int (nI 0)) rfl dJ0_equals_9ea2d_30 hp.1 rfl ?_
    refine n_icmp_ne (tgt := 54) (x := 0) (y := 0) dJ0_equals_9ea2d_33 (by decide) (by decide) (by decide) (fun c => absurd c (by decide)) (fun _ => ?_)
    refine v_aload_n dJ0_equals_9ea2d_36 rfl ?_
    refine fJ0_9 (v := .ref a) rfl dJ0_equals_9ea2d_37 hs.1 rfl ?_
    refine v_aload_n dJ0_equals_9ea2d_40 rfl ?_
    refine fJ0_9 (v := .ref b) rfl dJ0_equals_9ea2d_41 hp.1 rfl ?_
    refine v_callS (st := []) dJ0_equals_9ea2d_44 (t_J1_equals_b5fdf hfa hfb (by omega) (fun j hj => (hla j hj).2.trans (hlb j hj).2.symm)) wJ0_541 rfl ⟨Nat.le_of_ble_eq_true rfl, Nat.le_of_ble_eq_true rfl⟩ (Nat.le_of_ble_eq_true rfl) ⟨by omega, by omega⟩ (fun r n2 h2 hq => ?_)
    obtain ⟨rfl, hn9, rfl⟩ := hq; replace hn9 := hn9.symm; subst hn9
    refine v_st (st2 := [.int (nI 1)]) rfl ?_
    refine n_if_eq (tgt := 54) (x := 1) dJ0_equals_9ea2d_47 (by decide) (by decide) (fun c => absurd c (by decide)) (fun _ => ?_)
    refine v_iconst (v := nI 1) dJ0_equals_9ea2d_50 (by decide) ?_
    refine v_goto (tgt := 55) dJ0_equals_9ea2d_51 (by decide) ?_
    refine v_zret (ty := .boolean) dJ0_equals_9ea2d_55 rfl (by decide) ?_ (by omega) (by omega)
    exact ⟨rfl, rfl, rfl⟩
  · refine v_iconst (v := nI 1) dJ0_equals_9ea2d_5 (by decide) ?_
    refine v_zret (ty := .boolean) dJ0_equals_9ea2d_6 rfl (by decide) ?_ (by omega) (by omega)
    exact ⟨rfl, rfl, rfl⟩
