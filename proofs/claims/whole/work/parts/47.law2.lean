theorem qb_eq {C : Ct} {f t : Int32} (h : Iv C) : qBest2 C f t = qBest C f t := by
  unfold qBest2 qBest
  rw [best_eq h.2.1 h.1.2.2.2.2.2.2.1]
abbrev mLn (nm : String) : vM := (⟨RL, nm, "([I)Z"⟩, cL_law, 8, some .boolean, 12, 446)
abbrev wls (G : vG) (u i : Nat) : List (Option Value) := [some (.ref (gA G 2 2)), some (.ref u), some (.ref (u + 250)), some (.int (nI i)), none, none, none, none]
set_option maxRecDepth 20000 in
set_option maxHeartbeats 4000000 in
theorem law_0 {nm : String} {l : Launch} {G : vG} {rc rs9 : Nat} {Fz : vFin} {u n : Nat} {h : AH} {b i cells slots : Nat} (hw : LX G u n h b) (hb1 : 200 ≤ b) (hb9 : b + 200000 ≤ 2 ^ 27) (hL9 : gA G 2 3 ≤ 2560) (hi9 : i + 4 < gA G 2 3) (hf : cells + 82 ≤ rc ∧ slots + 11644 ≤ rs9) (kk : ∀ (n2 : Nat) (h2 : AH) (c2 s2 : Nat), c2 ≤ cells + 82 → s2 ≤ slots + 11644 → LX G u n2 h2 (b + 100000) → V l G (mLn nm) rc rs9 Fz 1097 (wls G u i) [] n2 h2 c2 s2) : V l G (mLn nm) rc rs9 Fz 188 (wls G u i) [] n h cells slots := by
  obtain ⟨sv, rs, dt, C, T, Sn, TX, LN, wy, dtm, a1, a2, hun, ha12, kA0, kB0, kC0, kM0, kP0⟩ := hw
  have kA9 := kA0
  have kB9 := kB0
  have kC9 := kC0
  have kM9 := kM0
  have kP9 := kP0
  obtain ⟨hj, hc, ⟨B, hbe⟩, ⟨Tr, htr⟩, hsn, hh⟩ := kA9
  obtain ⟨han, ha, ⟨mm, mb, hcp, hb⟩, c0, p0, r0, L0, N0, hot, hL, hN⟩ := kB9
  obtain ⟨han2, ha2, mm2, mb2, hcp2, hb2⟩ := kC9
  obtain ⟨⟨hr, en, wg, dg, fl, ho⟩, hv, ⟨B7, hbe7⟩, hsd, ⟨K7, hkp7⟩, ⟨P7, hpa, hR9⟩, ⟨X, htx, hX⟩, Y, hli, hY⟩ := kM9
  obtain ⟨hI, hK, hIS, hKS, hTs, ht1, ht2, hsv, hts, hln, hrs⟩ := kP9
  refine v_ls (ls2 := [some (.ref (gA G 2 2)), some (.ref u), some (.ref (u + 250)), some (.int (nI i)), none, none, none, none]) rfl ?_
  refine v_aload_n dL_law_188 rfl ?_
  refine v_aload_n dL_law_189 rfl ?_
  refine v_iload_n dL_law_190 rfl ?_
  refine v_iconst (v := nI 1) dL_law_191 (by decide) ?_
  refine n_iadd (x := i) (y := 1) dL_law_192 ?_
  refine v_xald (j := i + 1) dL_law_193 (by omega) hL9 ?_
  refine v_callV (st := []) dL_law_194 (t_X6_fool (s := gx G (i + 1)) hj hc hK hb1 (by omega) hI.1 hbe hh) wL_13 hj rfl rfl ⟨Nat.le_of_ble_eq_true rfl, Nat.le_of_ble_eq_true rfl⟩ (Nat.le_of_ble_eq_true rfl) ⟨by omega, by omega⟩ (fun r n2 h2 hq => ?_)
  obtain ⟨rfl, hn9, hc1, hbe1, hj1, hh1, fr1⟩ := hq
  replace hn9 := hn9.symm
  subst hn9
  refine v_st (st2 := [.int (dFool C (gx G (i + 1))).1]) rfl ?_
  refine v_aload_n dL_law_197 rfl ?_
  have ho := (fr1 (u + 250) (by omega)).trans ho
  have hv := (fr1 (u + 250 + 1) (by omega)).trans hv
  have hbe7 := (fr1 (u + 250 + 2) (by omega)).trans hbe7
  have hsd := (fr1 (u + 250 + 3) (by omega)).trans hsd
  have hkp7 := (fr1 (u + 250 + 4) (by omega)).trans hkp7
  have hpa := (fr1 (u + 250 + 5) (by omega)).trans hpa
  have htx := (fr1 (u + 250 + 6) (by omega)).trans htx
  have hli := (fr1 (u + 250 + 7) (by omega)).trans hli
  refine v_aload_n dL_law_198 rfl ?_
  refine v_iload_n dL_law_199 rfl ?_
  refine v_iconst (v := nI 1) dL_law_200 (by decide) ?_
  refine n_iadd (x := i) (y := 1) dL_law_201 ?_
  refine v_xald (j := i + 1) dL_law_202 (by omega) hL9 ?_
  refine v_callV (st := [.int (dFool C (gx G (i + 1))).1]) dL_law_203 (t_X7_fool (s := gx G (i + 1)) ho hv hbe7 hpa hK hb1 (by omega) hI hR9 ht1 ht2) wL_17 ho rfl rfl ⟨Nat.le_of_ble_eq_true rfl, Nat.le_of_ble_eq_true rfl⟩ (Nat.le_of_ble_eq_true rfl) ⟨by omega, by omega⟩ (fun r n2 h2 hq => ?_)
  obtain ⟨rfl, hn9, ho2, hv2, ⟨B2, hbe2⟩, ⟨P2, hpa2, hR2⟩, fr2⟩ := hq
  replace hn9 := hn9.symm
  subst hn9
  refine v_st (st2 := [.int (dFool C (gx G (i + 1))).1, .int (dFool C (gx G (i + 1))).1]) rfl ?_
  refine v_icmp_eq (tgt := 1097) dL_law_206 (by decide) (fun _ => ?_) (fun cc => absurd rfl cc)
  have g9 : gs b (dFool C (gx G (i + 1))) := gs_dFool hI hK
  refine kk n h2 _ _ (by omega) (by omega) ⟨sv, rf1 (dFool C (gx G (i + 1))).2.2 rs, rf2 (dFool C (gx G (i + 1))).2.2 dt, (dFool C (gx G (i + 1))).2.1, hkp (dFool C (gx G (i + 1))).1 C T, Sn, TX, LN, rf1 (dFool C (gx G (i + 1))).2.2 wy, rf2 (dFool C (gx G (i + 1))).2.2 dtm, a1, a2, hun, ha12, ?_, ?_, ?_, ?_, ?_⟩
  · exact kA.fr ⟨hj1, hc1, ⟨_, hbe1⟩, ⟨Tr, ct_frP htr fr1 (fun q hq => by omega)⟩, ct_frP hsn fr1 (fun q hq => by omega), hh1⟩ (fun z z1 z2 => fr2 z (by omega))
  · exact (kB0.fr (Nat.le_refl _) (fun z hz => (fr2 z (by omega)).trans (fr1 z (by omega))))
  · exact (kC0.fr (Nat.le_refl _) (fun z hz => (fr2 z (by omega)).trans (fr1 z (by omega))))
  · exact ⟨⟨_, _, _, _, _, ho2⟩, hv2, ⟨_, hbe2⟩, (fr2 _ (by omega)).trans hsd, ⟨K7, (fr2 _ (by omega)).trans hkp7⟩, ⟨P2, hpa2, hR2⟩, ⟨X, (fr2 _ (by omega)).trans htx, hX⟩, Y, (fr2 _ (by omega)).trans hli, hY⟩
  · exact kP_R (R := (dFool C (gx G (i + 1)))) kP0 ⟨g9.1, g9.2.1.up (by omega)⟩ rz_dFool
set_option maxRecDepth 20000 in
set_option maxHeartbeats 4000000 in
theorem law_1 {nm : String} {l : Launch} {G : vG} {rc rs9 : Nat} {Fz : vFin} {u n : Nat} {h : AH} {b i cells slots : Nat} (hw : LX G u n h b) (hb1 : 200 ≤ b) (hb9 : b + 200000 ≤ 2 ^ 27) (hL9 : gA G 2 3 ≤ 2560) (hi9 : i + 4 < gA G 2 3) (hf : cells + 82 ≤ rc ∧ slots + 11644 ≤ rs9) (kk : ∀ (n2 : Nat) (h2 : AH) (c2 s2 : Nat), c2 ≤ cells + 82 → s2 ≤ slots + 11644 → LX G u n2 h2 (b + 100000) → V l G (mLn nm) rc rs9 Fz 1097 (wls G u i) [] n2 h2 c2 s2) : V l G (mLn nm) rc rs9 Fz 211 (wls G u i) [] n h cells slots := by
  obtain ⟨sv, rs, dt, C, T, Sn, TX, LN, wy, dtm, a1, a2, hun, ha12, kA0, kB0, kC0, kM0, kP0⟩ := hw
  have kA9 := kA0
  have kB9 := kB0
  have kC9 := kC0
  have kM9 := kM0
  have kP9 := kP0
  obtain ⟨hj, hc, ⟨B, hbe⟩, ⟨Tr, htr⟩, hsn, hh⟩ := kA9
  obtain ⟨han, ha, ⟨mm, mb, hcp, hb⟩, c0, p0, r0, L0, N0, hot, hL, hN⟩ := kB9
  obtain ⟨han2, ha2, mm2, mb2, hcp2, hb2⟩ := kC9
  obtain ⟨⟨hr, en, wg, dg, fl, ho⟩, hv, ⟨B7, hbe7⟩, hsd, ⟨K7, hkp7⟩, ⟨P7, hpa, hR9⟩, ⟨X, htx, hX⟩, Y, hli, hY⟩ := kM9
  obtain ⟨hI, hK, hIS, hKS, hTs, ht1, ht2, hsv, hts, hln, hrs⟩ := kP9
  refine v_ls (ls2 := [some (.ref (gA G 2 2)), some (.ref u), some (.ref (u + 250)), some (.int (nI i)), none, none, none, none]) rfl ?_
  refine v_aload_n dL_law_211 rfl ?_
  refine v_aload_n dL_law_212 rfl ?_
  refine v_iload_n dL_law_213 rfl ?_
  refine v_iconst (v := nI 1) dL_law_214 (by decide) ?_
  refine n_iadd (x := i) (y := 1) dL_law_215 ?_
  refine v_xald (j := i + 1) dL_law_216 (by omega) hL9 ?_
  refine v_callV (st := []) dL_law_217 (t_X6_joke (s := gx G (i + 1)) hj hc hK hb1 (by omega) hI.1 hbe hh) wL_18 hj rfl rfl ⟨Nat.le_of_ble_eq_true rfl, Nat.le_of_ble_eq_true rfl⟩ (Nat.le_of_ble_eq_true rfl) ⟨by omega, by omega⟩ (fun r n2 h2 hq => ?_)
  obtain ⟨rfl, hn9, hc1, hbe1, hj1, hh1, fr1⟩ := hq
  replace hn9 := hn9.symm
  subst hn9
  refine v_st (st2 := [.int (dJoke C (gx G (i + 1))).1]) rfl ?_
  refine v_aload_n dL_law_220 rfl ?_
  have ho := (fr1 (u + 250) (by omega)).trans ho
  have hv := (fr1 (u + 250 + 1) (by omega)).trans hv
  have hbe7 := (fr1 (u + 250 + 2) (by omega)).trans hbe7
  have hsd := (fr1 (u + 250 + 3) (by omega)).trans hsd
  have hkp7 := (fr1 (u + 250 + 4) (by omega)).trans hkp7
  have hpa := (fr1 (u + 250 + 5) (by omega)).trans hpa
  have htx := (fr1 (u + 250 + 6) (by omega)).trans htx
  have hli := (fr1 (u + 250 + 7) (by omega)).trans hli
  refine v_aload_n dL_law_221 rfl ?_
  refine v_iload_n dL_law_222 rfl ?_
  refine v_iconst (v := nI 1) dL_law_223 (by decide) ?_
  refine n_iadd (x := i) (y := 1) dL_law_224 ?_
  refine v_xald (j := i + 1) dL_law_225 (by omega) hL9 ?_
  refine v_callV (st := [.int (dJoke C (gx G (i + 1))).1]) dL_law_226 (t_X7_joke (s := gx G (i + 1)) ho hv hbe7 hpa hK hb1 (by omega) hI hR9 ht1 ht2) wL_21 ho rfl rfl ⟨Nat.le_of_ble_eq_true rfl, Nat.le_of_ble_eq_true rfl⟩ (Nat.le_of_ble_eq_true rfl) ⟨by omega, by omega⟩ (fun r n2 h2 hq => ?_)
  obtain ⟨rfl, hn9, ho2, hv2, ⟨B2, hbe2⟩, ⟨P2, hpa2, hR2⟩, fr2⟩ := hq
  replace hn9 := hn9.symm
  subst hn9
  refine v_st (st2 := [.int (dJoke C (gx G (i + 1))).1, .int (dJoke C (gx G (i + 1))).1]) rfl ?_
  refine v_icmp_eq (tgt := 1097) dL_law_229 (by decide) (fun _ => ?_) (fun cc => absurd rfl cc)
  have g9 : gs b (dJoke C (gx G (i + 1))) := gs_dJoke hI hK
  refine kk n h2 _ _ (by omega) (by omega) ⟨sv, rf1 (dJoke C (gx G (i + 1))).2.2 rs, rf2 (dJoke C (gx G (i + 1))).2.2 dt, (dJoke C (gx G (i + 1))).2.1, hkp (dJoke C (gx G (i + 1))).1 C T, Sn, TX, LN, rf1 (dJoke C (gx G (i + 1))).2.2 wy, rf2 (dJoke C (gx G (i + 1))).2.2 dtm, a1, a2, hun, ha12, ?_, ?_, ?_, ?_, ?_⟩
  · exact kA.fr ⟨hj1, hc1, ⟨_, hbe1⟩, ⟨Tr, ct_frP htr fr1 (fun q hq => by omega)⟩, ct_frP hsn fr1 (fun q hq => by omega), hh1⟩ (fun z z1 z2 => fr2 z (by omega))
  · exact (kB0.fr (Nat.le_refl _) (fun z hz => (fr2 z (by omega)).trans (fr1 z (by omega))))
  · exact (kC0.fr (Nat.le_refl _) (fun z hz => (fr2 z (by omega)).trans (fr1 z (by omega))))
  · exact ⟨⟨_, _, _, _, _, ho2⟩, hv2, ⟨_, hbe2⟩, (fr2 _ (by omega)).trans hsd, ⟨K7, (fr2 _ (by omega)).trans hkp7⟩, ⟨P2, hpa2, hR2⟩, ⟨X, (fr2 _ (by omega)).trans htx, hX⟩, Y, (fr2 _ (by omega)).trans hli, hY⟩
  · exact kP_R (R := (dJoke C (gx G (i + 1)))) kP0 ⟨g9.1, g9.2.1.up (by omega)⟩ rz_dJoke
set_option maxRecDepth 20000 in
set_option maxHeartbeats 4000000 in
theorem law_2 {nm : String} {l : Launch} {G : vG} {rc rs9 : Nat} {Fz : vFin} {u n : Nat} {h : AH} {b i cells slots : Nat} (hw : LX G u n h b) (hb1 : 200 ≤ b) (hb9 : b + 200000 ≤ 2 ^ 27) (hL9 : gA G 2 3 ≤ 2560) (hi9 : i + 4 < gA G 2 3) (hf : cells + 82 ≤ rc ∧ slots + 11644 ≤ rs9) (kk : ∀ (n2 : Nat) (h2 : AH) (c2 s2 : Nat), c2 ≤ cells + 82 → s2 ≤ slots + 11644 → LX G u n2 h2 (b + 100000) → V l G (mLn nm) rc rs9 Fz 1097 (wls G u i) [] n2 h2 c2 s2) : V l G (mLn nm) rc rs9 Fz 234 (wls G u i) [] n h cells slots := by
  obtain ⟨sv, rs, dt, C, T, Sn, TX, LN, wy, dtm, a1, a2, hun, ha12, kA0, kB0, kC0, kM0, kP0⟩ := hw
  have kA9 := kA0
  have kB9 := kB0
  have kC9 := kC0
  have kM9 := kM0
  have kP9 := kP0
  obtain ⟨hj, hc, ⟨B, hbe⟩, ⟨Tr, htr⟩, hsn, hh⟩ := kA9
  obtain ⟨han, ha, ⟨mm, mb, hcp, hb⟩, c0, p0, r0, L0, N0, hot, hL, hN⟩ := kB9
  obtain ⟨han2, ha2, mm2, mb2, hcp2, hb2⟩ := kC9
  obtain ⟨⟨hr, en, wg, dg, fl, ho⟩, hv, ⟨B7, hbe7⟩, hsd, ⟨K7, hkp7⟩, ⟨P7, hpa, hR9⟩, ⟨X, htx, hX⟩, Y, hli, hY⟩ := kM9
  obtain ⟨hI, hK, hIS, hKS, hTs, ht1, ht2, hsv, hts, hln, hrs⟩ := kP9
  refine v_ls (ls2 := [some (.ref (gA G 2 2)), some (.ref u), some (.ref (u + 250)), some (.int (nI i)), none, none, none, none]) rfl ?_
  refine v_aload_n dL_law_234 rfl ?_
  refine v_aload_n dL_law_235 rfl ?_
  refine v_iload_n dL_law_236 rfl ?_
  refine v_iconst (v := nI 1) dL_law_237 (by decide) ?_
  refine n_iadd (x := i) (y := 1) dL_law_238 ?_
  refine v_xald (j := i + 1) dL_law_239 (by omega) hL9 ?_
  refine v_aload_n dL_law_240 rfl ?_
  refine v_iload_n dL_law_241 rfl ?_
  refine v_iconst (v := nI 2) dL_law_242 (by decide) ?_
  refine n_iadd (x := i) (y := 2) dL_law_243 ?_
  refine v_xald (j := i + 2) dL_law_244 (by omega) hL9 ?_
  refine v_aload_n dL_law_245 rfl ?_
  refine v_iload_n dL_law_246 rfl ?_
  refine v_iconst (v := nI 3) dL_law_247 (by decide) ?_
  refine n_iadd (x := i) (y := 3) dL_law_248 ?_
  refine v_xald (j := i + 3) dL_law_249 (by omega) hL9 ?_
  refine v_callV (st := []) dL_law_250 (t_X6_patent (f := gx G (i + 1)) (j := gx G (i + 2)) (x := gx G (i + 3)) hj hc hK hb1 (by omega) hI.1 hbe hh) wL_22 hj rfl rfl ⟨Nat.le_of_ble_eq_true rfl, Nat.le_of_ble_eq_true rfl⟩ (Nat.le_of_ble_eq_true rfl) ⟨by omega, by omega⟩ (fun r n2 h2 hq => ?_)
  obtain ⟨rfl, hn9, hc1, hbe1, hj1, hh1, fr1⟩ := hq
  replace hn9 := hn9.symm
  subst hn9
  refine v_st (st2 := [.int (dPat C (gx G (i + 1)) (gx G (i + 2)) (gx G (i + 3))).1]) rfl ?_
  refine v_aload_n dL_law_253 rfl ?_
  have ho := (fr1 (u + 250) (by omega)).trans ho
  have hv := (fr1 (u + 250 + 1) (by omega)).trans hv
  have hbe7 := (fr1 (u + 250 + 2) (by omega)).trans hbe7
  have hsd := (fr1 (u + 250 + 3) (by omega)).trans hsd
  have hkp7 := (fr1 (u + 250 + 4) (by omega)).trans hkp7
  have hpa := (fr1 (u + 250 + 5) (by omega)).trans hpa
  have htx := (fr1 (u + 250 + 6) (by omega)).trans htx
  have hli := (fr1 (u + 250 + 7) (by omega)).trans hli
  refine v_aload_n dL_law_254 rfl ?_
  refine v_iload_n dL_law_255 rfl ?_
  refine v_iconst (v := nI 1) dL_law_256 (by decide) ?_
  refine n_iadd (x := i) (y := 1) dL_law_257 ?_
  refine v_xald (j := i + 1) dL_law_258 (by omega) hL9 ?_
  refine v_aload_n dL_law_259 rfl ?_
  refine v_iload_n dL_law_260 rfl ?_
  refine v_iconst (v := nI 2) dL_law_261 (by decide) ?_
  refine n_iadd (x := i) (y := 2) dL_law_262 ?_
  refine v_xald (j := i + 2) dL_law_263 (by omega) hL9 ?_
  refine v_aload_n dL_law_264 rfl ?_
  refine v_iload_n dL_law_265 rfl ?_
  refine v_iconst (v := nI 3) dL_law_266 (by decide) ?_
  refine n_iadd (x := i) (y := 3) dL_law_267 ?_
  refine v_xald (j := i + 3) dL_law_268 (by omega) hL9 ?_
  refine v_callV (st := [.int (dPat C (gx G (i + 1)) (gx G (i + 2)) (gx G (i + 3))).1]) dL_law_269 (t_X7_patent (f := gx G (i + 1)) (j := gx G (i + 2)) (x := gx G (i + 3)) ho hv hbe7 hpa hK hb1 (by omega) hI hR9 ht1 ht2) wL_26 ho rfl rfl ⟨Nat.le_of_ble_eq_true rfl, Nat.le_of_ble_eq_true rfl⟩ (Nat.le_of_ble_eq_true rfl) ⟨by omega, by omega⟩ (fun r n2 h2 hq => ?_)
  obtain ⟨rfl, hn9, ho2, hv2, ⟨B2, hbe2⟩, ⟨P2, hpa2, hR2⟩, fr2⟩ := hq
  replace hn9 := hn9.symm
  subst hn9
  refine v_st (st2 := [.int (dPat C (gx G (i + 1)) (gx G (i + 2)) (gx G (i + 3))).1, .int (dPat C (gx G (i + 1)) (gx G (i + 2)) (gx G (i + 3))).1]) rfl ?_
  refine v_icmp_eq (tgt := 1097) dL_law_272 (by decide) (fun _ => ?_) (fun cc => absurd rfl cc)
  have g9 : gs b (dPat C (gx G (i + 1)) (gx G (i + 2)) (gx G (i + 3))) := gs_dPat hI hK
  refine kk n h2 _ _ (by omega) (by omega) ⟨sv, rf1 (dPat C (gx G (i + 1)) (gx G (i + 2)) (gx G (i + 3))).2.2 rs, rf2 (dPat C (gx G (i + 1)) (gx G (i + 2)) (gx G (i + 3))).2.2 dt, (dPat C (gx G (i + 1)) (gx G (i + 2)) (gx G (i + 3))).2.1, hkp (dPat C (gx G (i + 1)) (gx G (i + 2)) (gx G (i + 3))).1 C T, Sn, TX, LN, rf1 (dPat C (gx G (i + 1)) (gx G (i + 2)) (gx G (i + 3))).2.2 wy, rf2 (dPat C (gx G (i + 1)) (gx G (i + 2)) (gx G (i + 3))).2.2 dtm, a1, a2, hun, ha12, ?_, ?_, ?_, ?_, ?_⟩
  · exact kA.fr ⟨hj1, hc1, ⟨_, hbe1⟩, ⟨Tr, ct_frP htr fr1 (fun q hq => by omega)⟩, ct_frP hsn fr1 (fun q hq => by omega), hh1⟩ (fun z z1 z2 => fr2 z (by omega))
  · exact (kB0.fr (Nat.le_refl _) (fun z hz => (fr2 z (by omega)).trans (fr1 z (by omega))))
  · exact (kC0.fr (Nat.le_refl _) (fun z hz => (fr2 z (by omega)).trans (fr1 z (by omega))))
  · exact ⟨⟨_, _, _, _, _, ho2⟩, hv2, ⟨_, hbe2⟩, (fr2 _ (by omega)).trans hsd, ⟨K7, (fr2 _ (by omega)).trans hkp7⟩, ⟨P2, hpa2, hR2⟩, ⟨X, (fr2 _ (by omega)).trans htx, hX⟩, Y, (fr2 _ (by omega)).trans hli, hY⟩
  · exact kP_R (R := (dPat C (gx G (i + 1)) (gx G (i + 2)) (gx G (i + 3)))) kP0 ⟨g9.1, g9.2.1.up (by omega)⟩ rz_dPat
set_option maxRecDepth 20000 in
set_option maxHeartbeats 4000000 in
theorem law_3 {nm : String} {l : Launch} {G : vG} {rc rs9 : Nat} {Fz : vFin} {u n : Nat} {h : AH} {b i cells slots : Nat} (hw : LX G u n h b) (hb1 : 200 ≤ b) (hb9 : b + 200000 ≤ 2 ^ 27) (hL9 : gA G 2 3 ≤ 2560) (hi9 : i + 4 < gA G 2 3) (hf : cells + 82 ≤ rc ∧ slots + 11644 ≤ rs9) (kk : ∀ (n2 : Nat) (h2 : AH) (c2 s2 : Nat), c2 ≤ cells + 82 → s2 ≤ slots + 11644 → LX G u n2 h2 (b + 100000) → V l G (mLn nm) rc rs9 Fz 1097 (wls G u i) [] n2 h2 c2 s2) : V l G (mLn nm) rc rs9 Fz 277 (wls G u i) [] n h cells slots := by
  obtain ⟨sv, rs, dt, C, T, Sn, TX, LN, wy, dtm, a1, a2, hun, ha12, kA0, kB0, kC0, kM0, kP0⟩ := hw
  have kA9 := kA0
  have kB9 := kB0
  have kC9 := kC0
  have kM9 := kM0
  have kP9 := kP0
  obtain ⟨hj, hc, ⟨B, hbe⟩, ⟨Tr, htr⟩, hsn, hh⟩ := kA9
  obtain ⟨han, ha, ⟨mm, mb, hcp, hb⟩, c0, p0, r0, L0, N0, hot, hL, hN⟩ := kB9
  obtain ⟨han2, ha2, mm2, mb2, hcp2, hb2⟩ := kC9
  obtain ⟨⟨hr, en, wg, dg, fl, ho⟩, hv, ⟨B7, hbe7⟩, hsd, ⟨K7, hkp7⟩, ⟨P7, hpa, hR9⟩, ⟨X, htx, hX⟩, Y, hli, hY⟩ := kM9
  obtain ⟨hI, hK, hIS, hKS, hTs, ht1, ht2, hsv, hts, hln, hrs⟩ := kP9
  refine v_ls (ls2 := [some (.ref (gA G 2 2)), some (.ref u), some (.ref (u + 250)), some (.int (nI i)), none, none, none, none]) rfl ?_
  refine v_aload_n dL_law_277 rfl ?_
  refine v_aload_n dL_law_278 rfl ?_
  refine v_iload_n dL_law_279 rfl ?_
  refine v_iconst (v := nI 1) dL_law_280 (by decide) ?_
  refine n_iadd (x := i) (y := 1) dL_law_281 ?_
  refine v_xald (j := i + 1) dL_law_282 (by omega) hL9 ?_
  refine v_callV (st := []) dL_law_283 (t_X6_insure (f := gx G (i + 1)) hj hc hK hb1 (by omega) hI.1 hbe hh) wL_27 hj rfl rfl ⟨Nat.le_of_ble_eq_true rfl, Nat.le_of_ble_eq_true rfl⟩ (Nat.le_of_ble_eq_true rfl) ⟨by omega, by omega⟩ (fun r n2 h2 hq => ?_)
  obtain ⟨rfl, hn9, hc1, hbe1, hj1, hh1, fr1⟩ := hq
  replace hn9 := hn9.symm
  subst hn9
  refine v_st (st2 := [.int (dIns C (gx G (i + 1))).1]) rfl ?_
  refine v_aload_n dL_law_286 rfl ?_
  have ho := (fr1 (u + 250) (by omega)).trans ho
  have hv := (fr1 (u + 250 + 1) (by omega)).trans hv
  have hbe7 := (fr1 (u + 250 + 2) (by omega)).trans hbe7
  have hsd := (fr1 (u + 250 + 3) (by omega)).trans hsd
  have hkp7 := (fr1 (u + 250 + 4) (by omega)).trans hkp7
  have hpa := (fr1 (u + 250 + 5) (by omega)).trans hpa
  have htx := (fr1 (u + 250 + 6) (by omega)).trans htx
  have hli := (fr1 (u + 250 + 7) (by omega)).trans hli
  refine v_aload_n dL_law_287 rfl ?_
  refine v_iload_n dL_law_288 rfl ?_
  refine v_iconst (v := nI 1) dL_law_289 (by decide) ?_
  refine n_iadd (x := i) (y := 1) dL_law_290 ?_
  refine v_xald (j := i + 1) dL_law_291 (by omega) hL9 ?_
  refine v_callV (st := [.int (dIns C (gx G (i + 1))).1]) dL_law_292 (t_X7_insure (f := gx G (i + 1)) ho hv hbe7 hpa hK hb1 (by omega) hI hR9 ht1 ht2) wL_30 ho rfl rfl ⟨Nat.le_of_ble_eq_true rfl, Nat.le_of_ble_eq_true rfl⟩ (Nat.le_of_ble_eq_true rfl) ⟨by omega, by omega⟩ (fun r n2 h2 hq => ?_)
  obtain ⟨rfl, hn9, ho2, hv2, ⟨B2, hbe2⟩, ⟨P2, hpa2, hR2⟩, fr2⟩ := hq
  replace hn9 := hn9.symm
  subst hn9
  refine v_st (st2 := [.int (dIns C (gx G (i + 1))).1, .int (dIns C (gx G (i + 1))).1]) rfl ?_
  refine v_icmp_eq (tgt := 1097) dL_law_295 (by decide) (fun _ => ?_) (fun cc => absurd rfl cc)
  have g9 : gs b (dIns C (gx G (i + 1))) := gs_dIns hI hK
  refine kk n h2 _ _ (by omega) (by omega) ⟨sv, rf1 (dIns C (gx G (i + 1))).2.2 rs, rf2 (dIns C (gx G (i + 1))).2.2 dt, (dIns C (gx G (i + 1))).2.1, hkp (dIns C (gx G (i + 1))).1 C T, Sn, TX, LN, rf1 (dIns C (gx G (i + 1))).2.2 wy, rf2 (dIns C (gx G (i + 1))).2.2 dtm, a1, a2, hun, ha12, ?_, ?_, ?_, ?_, ?_⟩
  · exact kA.fr ⟨hj1, hc1, ⟨_, hbe1⟩, ⟨Tr, ct_frP htr fr1 (fun q hq => by omega)⟩, ct_frP hsn fr1 (fun q hq => by omega), hh1⟩ (fun z z1 z2 => fr2 z (by omega))
  · exact (kB0.fr (Nat.le_refl _) (fun z hz => (fr2 z (by omega)).trans (fr1 z (by omega))))
  · exact (kC0.fr (Nat.le_refl _) (fun z hz => (fr2 z (by omega)).trans (fr1 z (by omega))))
  · exact ⟨⟨_, _, _, _, _, ho2⟩, hv2, ⟨_, hbe2⟩, (fr2 _ (by omega)).trans hsd, ⟨K7, (fr2 _ (by omega)).trans hkp7⟩, ⟨P2, hpa2, hR2⟩, ⟨X, (fr2 _ (by omega)).trans htx, hX⟩, Y, (fr2 _ (by omega)).trans hli, hY⟩
  · exact kP_R (R := (dIns C (gx G (i + 1)))) kP0 ⟨g9.1, g9.2.1.up (by omega)⟩ rz_dIns
set_option maxRecDepth 20000 in
set_option maxHeartbeats 4000000 in
theorem law_4 {nm : String} {l : Launch} {G : vG} {rc rs9 : Nat} {Fz : vFin} {u n : Nat} {h : AH} {b i cells slots : Nat} (hw : LX G u n h b) (hb1 : 200 ≤ b) (hb9 : b + 200000 ≤ 2 ^ 27) (hL9 : gA G 2 3 ≤ 2560) (hi9 : i + 4 < gA G 2 3) (hf : cells + 82 ≤ rc ∧ slots + 11644 ≤ rs9) (kk : ∀ (n2 : Nat) (h2 : AH) (c2 s2 : Nat), c2 ≤ cells + 82 → s2 ≤ slots + 11644 → LX G u n2 h2 (b + 100000) → V l G (mLn nm) rc rs9 Fz 1097 (wls G u i) [] n2 h2 c2 s2) : V l G (mLn nm) rc rs9 Fz 300 (wls G u i) [] n h cells slots := by
  obtain ⟨sv, rs, dt, C, T, Sn, TX, LN, wy, dtm, a1, a2, hun, ha12, kA0, kB0, kC0, kM0, kP0⟩ := hw
  have kA9 := kA0
  have kB9 := kB0
  have kC9 := kC0
  have kM9 := kM0
  have kP9 := kP0
  obtain ⟨hj, hc, ⟨B, hbe⟩, ⟨Tr, htr⟩, hsn, hh⟩ := kA9
  obtain ⟨han, ha, ⟨mm, mb, hcp, hb⟩, c0, p0, r0, L0, N0, hot, hL, hN⟩ := kB9
  obtain ⟨han2, ha2, mm2, mb2, hcp2, hb2⟩ := kC9
  obtain ⟨⟨hr, en, wg, dg, fl, ho⟩, hv, ⟨B7, hbe7⟩, hsd, ⟨K7, hkp7⟩, ⟨P7, hpa, hR9⟩, ⟨X, htx, hX⟩, Y, hli, hY⟩ := kM9
  obtain ⟨hI, hK, hIS, hKS, hTs, ht1, ht2, hsv, hts, hln, hrs⟩ := kP9
  refine v_ls (ls2 := [some (.ref (gA G 2 2)), some (.ref u), some (.ref (u + 250)), some (.int (nI i)), none, none, none, none]) rfl ?_
  refine v_aload_n dL_law_300 rfl ?_
  refine v_aload_n dL_law_301 rfl ?_
  refine v_iload_n dL_law_302 rfl ?_
  refine v_iconst (v := nI 1) dL_law_303 (by decide) ?_
  refine n_iadd (x := i) (y := 1) dL_law_304 ?_
  refine v_xald (j := i + 1) dL_law_305 (by omega) hL9 ?_
  refine v_callV (st := []) dL_law_306 (t_X6_audit (f := gx G (i + 1)) hj hc hK hb1 (by omega) hI.1 hbe hh) wL_31 hj rfl rfl ⟨Nat.le_of_ble_eq_true rfl, Nat.le_of_ble_eq_true rfl⟩ (Nat.le_of_ble_eq_true rfl) ⟨by omega, by omega⟩ (fun r n2 h2 hq => ?_)
  obtain ⟨rfl, hn9, hc1, hbe1, hj1, hh1, fr1⟩ := hq
  replace hn9 := hn9.symm
  subst hn9
  refine v_st (st2 := [.int (dAud C (gx G (i + 1))).1]) rfl ?_
  refine v_aload_n dL_law_309 rfl ?_
  have ho := (fr1 (u + 250) (by omega)).trans ho
  have hv := (fr1 (u + 250 + 1) (by omega)).trans hv
  have hbe7 := (fr1 (u + 250 + 2) (by omega)).trans hbe7
  have hsd := (fr1 (u + 250 + 3) (by omega)).trans hsd
  have hkp7 := (fr1 (u + 250 + 4) (by omega)).trans hkp7
  have hpa := (fr1 (u + 250 + 5) (by omega)).trans hpa
  have htx := (fr1 (u + 250 + 6) (by omega)).trans htx
  have hli := (fr1 (u + 250 + 7) (by omega)).trans hli
  refine v_aload_n dL_law_310 rfl ?_
  refine v_iload_n dL_law_311 rfl ?_
  refine v_iconst (v := nI 1) dL_law_312 (by decide) ?_
  refine n_iadd (x := i) (y := 1) dL_law_313 ?_
  refine v_xald (j := i + 1) dL_law_314 (by omega) hL9 ?_
  refine v_callV (st := [.int (dAud C (gx G (i + 1))).1]) dL_law_315 (t_X7_audit (f := gx G (i + 1)) ho hv hbe7 hpa hK hb1 (by omega) hI hR9 ht1 ht2) wL_34 ho rfl rfl ⟨Nat.le_of_ble_eq_true rfl, Nat.le_of_ble_eq_true rfl⟩ (Nat.le_of_ble_eq_true rfl) ⟨by omega, by omega⟩ (fun r n2 h2 hq => ?_)
  obtain ⟨rfl, hn9, ho2, hv2, ⟨B2, hbe2⟩, ⟨P2, hpa2, hR2⟩, fr2⟩ := hq
  replace hn9 := hn9.symm
  subst hn9
  refine v_st (st2 := [.int (dAud C (gx G (i + 1))).1, .int (dAud C (gx G (i + 1))).1]) rfl ?_
  refine v_icmp_eq (tgt := 1097) dL_law_318 (by decide) (fun _ => ?_) (fun cc => absurd rfl cc)
  have g9 : gs b (dAud C (gx G (i + 1))) := gs_dAud hI hK
  refine kk n h2 _ _ (by omega) (by omega) ⟨sv, rf1 (dAud C (gx G (i + 1))).2.2 rs, rf2 (dAud C (gx G (i + 1))).2.2 dt, (dAud C (gx G (i + 1))).2.1, hkp (dAud C (gx G (i + 1))).1 C T, Sn, TX, LN, rf1 (dAud C (gx G (i + 1))).2.2 wy, rf2 (dAud C (gx G (i + 1))).2.2 dtm, a1, a2, hun, ha12, ?_, ?_, ?_, ?_, ?_⟩
  · exact kA.fr ⟨hj1, hc1, ⟨_, hbe1⟩, ⟨Tr, ct_frP htr fr1 (fun q hq => by omega)⟩, ct_frP hsn fr1 (fun q hq => by omega), hh1⟩ (fun z z1 z2 => fr2 z (by omega))
  · exact (kB0.fr (Nat.le_refl _) (fun z hz => (fr2 z (by omega)).trans (fr1 z (by omega))))
  · exact (kC0.fr (Nat.le_refl _) (fun z hz => (fr2 z (by omega)).trans (fr1 z (by omega))))
  · exact ⟨⟨_, _, _, _, _, ho2⟩, hv2, ⟨_, hbe2⟩, (fr2 _ (by omega)).trans hsd, ⟨K7, (fr2 _ (by omega)).trans hkp7⟩, ⟨P2, hpa2, hR2⟩, ⟨X, (fr2 _ (by omega)).trans htx, hX⟩, Y, (fr2 _ (by omega)).trans hli, hY⟩
  · exact kP_R (R := (dAud C (gx G (i + 1)))) kP0 ⟨g9.1, g9.2.1.up (by omega)⟩ rz_dAud
set_option maxRecDepth 20000 in
set_option maxHeartbeats 4000000 in
theorem law_5 {nm : String} {l : Launch} {G : vG} {rc rs9 : Nat} {Fz : vFin} {u n : Nat} {h : AH} {b i cells slots : Nat} (hw : LX G u n h b) (hb1 : 200 ≤ b) (hb9 : b + 200000 ≤ 2 ^ 27) (hL9 : gA G 2 3 ≤ 2560) (hi9 : i + 4 < gA G 2 3) (hf : cells + 82 ≤ rc ∧ slots + 11644 ≤ rs9) (kk : ∀ (n2 : Nat) (h2 : AH) (c2 s2 : Nat), c2 ≤ cells + 82 → s2 ≤ slots + 11644 → LX G u n2 h2 (b + 100000) → V l G (mLn nm) rc rs9 Fz 1097 (wls G u i) [] n2 h2 c2 s2) : V l G (mLn nm) rc rs9 Fz 323 (wls G u i) [] n h cells slots := by
  obtain ⟨sv, rs, dt, C, T, Sn, TX, LN, wy, dtm, a1, a2, hun, ha12, kA0, kB0, kC0, kM0, kP0⟩ := hw
  have kA9 := kA0
  have kB9 := kB0
  have kC9 := kC0
  have kM9 := kM0
  have kP9 := kP0
  obtain ⟨hj, hc, ⟨B, hbe⟩, ⟨Tr, htr⟩, hsn, hh⟩ := kA9
  obtain ⟨han, ha, ⟨mm, mb, hcp, hb⟩, c0, p0, r0, L0, N0, hot, hL, hN⟩ := kB9
  obtain ⟨han2, ha2, mm2, mb2, hcp2, hb2⟩ := kC9
  obtain ⟨⟨hr, en, wg, dg, fl, ho⟩, hv, ⟨B7, hbe7⟩, hsd, ⟨K7, hkp7⟩, ⟨P7, hpa, hR9⟩, ⟨X, htx, hX⟩, Y, hli, hY⟩ := kM9
  obtain ⟨hI, hK, hIS, hKS, hTs, ht1, ht2, hsv, hts, hln, hrs⟩ := kP9
  refine v_ls (ls2 := [some (.ref (gA G 2 2)), some (.ref u), some (.ref (u + 250)), some (.int (nI i)), none, none, none, none]) rfl ?_
  refine v_aload_n dL_law_323 rfl ?_
  refine v_aload_n dL_law_324 rfl ?_
  refine v_iload_n dL_law_325 rfl ?_
  refine v_iconst (v := nI 1) dL_law_326 (by decide) ?_
  refine n_iadd (x := i) (y := 1) dL_law_327 ?_
  refine v_xald (j := i + 1) dL_law_328 (by omega) hL9 ?_
  refine v_aload_n dL_law_329 rfl ?_
  refine v_iload_n dL_law_330 rfl ?_
  refine v_iconst (v := nI 2) dL_law_331 (by decide) ?_
  refine n_iadd (x := i) (y := 2) dL_law_332 ?_
  refine v_xald (j := i + 2) dL_law_333 (by omega) hL9 ?_
  refine v_callV (st := []) dL_law_334 (t_X6_foolOf (f := gx G (i + 1)) (w := gx G (i + 2)) hj hc hK (by omega) hI.1) wL_35 hj rfl rfl ⟨Nat.le_of_ble_eq_true rfl, Nat.le_of_ble_eq_true rfl⟩ (Nat.le_of_ble_eq_true rfl) ⟨by omega, by omega⟩ (fun r n2 h2 hq => ?_)
  obtain ⟨rfl, hn9, hh9⟩ := hq; replace hh9 := hh9.symm; subst hh9
  replace hn9 := hn9.symm
  subst hn9
  refine v_st (st2 := [.int (qFool C (gx G (i + 1)) (gx G (i + 2)))]) rfl ?_
  refine v_aload_n dL_law_337 rfl ?_
  refine v_aload_n dL_law_338 rfl ?_
  refine v_iload_n dL_law_339 rfl ?_
  refine v_iconst (v := nI 1) dL_law_340 (by decide) ?_
  refine n_iadd (x := i) (y := 1) dL_law_341 ?_
  refine v_xald (j := i + 1) dL_law_342 (by omega) hL9 ?_
  refine v_aload_n dL_law_343 rfl ?_
  refine v_iload_n dL_law_344 rfl ?_
  refine v_iconst (v := nI 2) dL_law_345 (by decide) ?_
  refine n_iadd (x := i) (y := 2) dL_law_346 ?_
  refine v_xald (j := i + 2) dL_law_347 (by omega) hL9 ?_
  refine v_callV (st := [.int (qFool C (gx G (i + 1)) (gx G (i + 2)))]) dL_law_348 (t_X7_foolOf (f := gx G (i + 1)) (w := gx G (i + 2)) ho hv hK (by omega) hI) wL_39 ho rfl rfl ⟨Nat.le_of_ble_eq_true rfl, Nat.le_of_ble_eq_true rfl⟩ (Nat.le_of_ble_eq_true rfl) ⟨by omega, by omega⟩ (fun r n2 h2 hq => ?_)
  obtain ⟨rfl, hn9, hh9⟩ := hq; replace hh9 := hh9.symm; subst hh9
  replace hn9 := hn9.symm
  subst hn9
  refine v_st (st2 := [.int (qFool C (gx G (i + 1)) (gx G (i + 2))), .int (qFool C (gx G (i + 1)) (gx G (i + 2)))]) rfl ?_
  refine v_icmp_eq (tgt := 1097) dL_law_351 (by decide) (fun _ => ?_) (fun cc => absurd rfl cc)
  exact kk n h _ _ (by omega) (by omega) ⟨sv, rs, dt, C, T, Sn, TX, LN, wy, dtm, a1, a2, hun, ha12, kA0, kB0, kC0, kM0, kP0.up (by omega)⟩
set_option maxRecDepth 20000 in
set_option maxHeartbeats 4000000 in
theorem law_6 {nm : String} {l : Launch} {G : vG} {rc rs9 : Nat} {Fz : vFin} {u n : Nat} {h : AH} {b i cells slots : Nat} (hw : LX G u n h b) (hb1 : 200 ≤ b) (hb9 : b + 200000 ≤ 2 ^ 27) (hL9 : gA G 2 3 ≤ 2560) (hi9 : i + 4 < gA G 2 3) (hf : cells + 82 ≤ rc ∧ slots + 11644 ≤ rs9) (kk : ∀ (n2 : Nat) (h2 : AH) (c2 s2 : Nat), c2 ≤ cells + 82 → s2 ≤ slots + 11644 → LX G u n2 h2 (b + 100000) → V l G (mLn nm) rc rs9 Fz 1097 (wls G u i) [] n2 h2 c2 s2) : V l G (mLn nm) rc rs9 Fz 356 (wls G u i) [] n h cells slots := by
  obtain ⟨sv, rs, dt, C, T, Sn, TX, LN, wy, dtm, a1, a2, hun, ha12, kA0, kB0, kC0, kM0, kP0⟩ := hw
  have kA9 := kA0
  have kB9 := kB0
  have kC9 := kC0
  have kM9 := kM0
  have kP9 := kP0
  obtain ⟨hj, hc, ⟨B, hbe⟩, ⟨Tr, htr⟩, hsn, hh⟩ := kA9
  obtain ⟨han, ha, ⟨mm, mb, hcp, hb⟩, c0, p0, r0, L0, N0, hot, hL, hN⟩ := kB9
  obtain ⟨han2, ha2, mm2, mb2, hcp2, hb2⟩ := kC9
  obtain ⟨⟨hr, en, wg, dg, fl, ho⟩, hv, ⟨B7, hbe7⟩, hsd, ⟨K7, hkp7⟩, ⟨P7, hpa, hR9⟩, ⟨X, htx, hX⟩, Y, hli, hY⟩ := kM9
  obtain ⟨hI, hK, hIS, hKS, hTs, ht1, ht2, hsv, hts, hln, hrs⟩ := kP9
  refine v_ls (ls2 := [some (.ref (gA G 2 2)), some (.ref u), some (.ref (u + 250)), some (.int (nI i)), none, none, none, none]) rfl ?_
  refine v_aload_n dL_law_356 rfl ?_
  refine v_aload_n dL_law_357 rfl ?_
  refine v_iload_n dL_law_358 rfl ?_
  refine v_iconst (v := nI 1) dL_law_359 (by decide) ?_
  refine n_iadd (x := i) (y := 1) dL_law_360 ?_
  refine v_xald (j := i + 1) dL_law_361 (by omega) hL9 ?_
  refine v_aload_n dL_law_362 rfl ?_
  refine v_iload_n dL_law_363 rfl ?_
  refine v_iconst (v := nI 2) dL_law_364 (by decide) ?_
  refine n_iadd (x := i) (y := 2) dL_law_365 ?_
  refine v_xald (j := i + 2) dL_law_366 (by omega) hL9 ?_
  refine v_callV (st := []) dL_law_367 (t_X6_jokeOf (j := gx G (i + 1)) (w := gx G (i + 2)) hj hc hK (by omega) hI.1) wL_40 hj rfl rfl ⟨Nat.le_of_ble_eq_true rfl, Nat.le_of_ble_eq_true rfl⟩ (Nat.le_of_ble_eq_true rfl) ⟨by omega, by omega⟩ (fun r n2 h2 hq => ?_)
  obtain ⟨rfl, hn9, hh9⟩ := hq; replace hh9 := hh9.symm; subst hh9
  replace hn9 := hn9.symm
  subst hn9
  refine v_st (st2 := [.int (qJoke C (gx G (i + 1)) (gx G (i + 2)))]) rfl ?_
  refine v_aload_n dL_law_370 rfl ?_
  refine v_aload_n dL_law_371 rfl ?_
  refine v_iload_n dL_law_372 rfl ?_
  refine v_iconst (v := nI 1) dL_law_373 (by decide) ?_
  refine n_iadd (x := i) (y := 1) dL_law_374 ?_
  refine v_xald (j := i + 1) dL_law_375 (by omega) hL9 ?_
  refine v_aload_n dL_law_376 rfl ?_
  refine v_iload_n dL_law_377 rfl ?_
  refine v_iconst (v := nI 2) dL_law_378 (by decide) ?_
  refine n_iadd (x := i) (y := 2) dL_law_379 ?_
  refine v_xald (j := i + 2) dL_law_380 (by omega) hL9 ?_
  refine v_callV (st := [.int (qJoke C (gx G (i + 1)) (gx G (i + 2)))]) dL_law_381 (t_X7_jokeOf (j := gx G (i + 1)) (w := gx G (i + 2)) ho hv hK (by omega) hI) wL_43 ho rfl rfl ⟨Nat.le_of_ble_eq_true rfl, Nat.le_of_ble_eq_true rfl⟩ (Nat.le_of_ble_eq_true rfl) ⟨by omega, by omega⟩ (fun r n2 h2 hq => ?_)
  obtain ⟨rfl, hn9, hh9⟩ := hq; replace hh9 := hh9.symm; subst hh9
  replace hn9 := hn9.symm
  subst hn9
  refine v_st (st2 := [.int (qJoke C (gx G (i + 1)) (gx G (i + 2))), .int (qJoke C (gx G (i + 1)) (gx G (i + 2)))]) rfl ?_
  refine v_icmp_eq (tgt := 1097) dL_law_384 (by decide) (fun _ => ?_) (fun cc => absurd rfl cc)
  exact kk n h _ _ (by omega) (by omega) ⟨sv, rs, dt, C, T, Sn, TX, LN, wy, dtm, a1, a2, hun, ha12, kA0, kB0, kC0, kM0, kP0.up (by omega)⟩
set_option maxRecDepth 20000 in
set_option maxHeartbeats 4000000 in
theorem law_7 {nm : String} {l : Launch} {G : vG} {rc rs9 : Nat} {Fz : vFin} {u n : Nat} {h : AH} {b i cells slots : Nat} (hw : LX G u n h b) (hb1 : 200 ≤ b) (hb9 : b + 200000 ≤ 2 ^ 27) (hL9 : gA G 2 3 ≤ 2560) (hi9 : i + 4 < gA G 2 3) (hf : cells + 82 ≤ rc ∧ slots + 11644 ≤ rs9) (kk : ∀ (n2 : Nat) (h2 : AH) (c2 s2 : Nat), c2 ≤ cells + 82 → s2 ≤ slots + 11644 → LX G u n2 h2 (b + 100000) → V l G (mLn nm) rc rs9 Fz 1097 (wls G u i) [] n2 h2 c2 s2) : V l G (mLn nm) rc rs9 Fz 389 (wls G u i) [] n h cells slots := by
  obtain ⟨sv, rs, dt, C, T, Sn, TX, LN, wy, dtm, a1, a2, hun, ha12, kA0, kB0, kC0, kM0, kP0⟩ := hw
  have kA9 := kA0
  have kB9 := kB0
  have kC9 := kC0
  have kM9 := kM0
  have kP9 := kP0
  obtain ⟨hj, hc, ⟨B, hbe⟩, ⟨Tr, htr⟩, hsn, hh⟩ := kA9
  obtain ⟨han, ha, ⟨mm, mb, hcp, hb⟩, c0, p0, r0, L0, N0, hot, hL, hN⟩ := kB9
  obtain ⟨han2, ha2, mm2, mb2, hcp2, hb2⟩ := kC9
  obtain ⟨⟨hr, en, wg, dg, fl, ho⟩, hv, ⟨B7, hbe7⟩, hsd, ⟨K7, hkp7⟩, ⟨P7, hpa, hR9⟩, ⟨X, htx, hX⟩, Y, hli, hY⟩ := kM9
  obtain ⟨hI, hK, hIS, hKS, hTs, ht1, ht2, hsv, hts, hln, hrs⟩ := kP9
  refine v_ls (ls2 := [some (.ref (gA G 2 2)), some (.ref u), some (.ref (u + 250)), some (.int (nI i)), none, none, none, none]) rfl ?_
  refine v_aload_n dL_law_389 rfl ?_
  refine v_aload_n dL_law_390 rfl ?_
  refine v_iload_n dL_law_391 rfl ?_
  refine v_iconst (v := nI 1) dL_law_392 (by decide) ?_
  refine n_iadd (x := i) (y := 1) dL_law_393 ?_
  refine v_xald (j := i + 1) dL_law_394 (by omega) hL9 ?_
  refine v_aload_n dL_law_395 rfl ?_
  refine v_iload_n dL_law_396 rfl ?_
  refine v_iconst (v := nI 2) dL_law_397 (by decide) ?_
  refine n_iadd (x := i) (y := 2) dL_law_398 ?_
  refine v_xald (j := i + 2) dL_law_399 (by omega) hL9 ?_
  refine v_callV (st := []) dL_law_400 (t_X6_exempt (t := gx G (i + 1)) (x := gx G (i + 2)) hj hc hK hb1 (by omega) hI.1 hbe hh) wL_44 hj rfl rfl ⟨Nat.le_of_ble_eq_true rfl, Nat.le_of_ble_eq_true rfl⟩ (Nat.le_of_ble_eq_true rfl) ⟨by omega, by omega⟩ (fun r n2 h2 hq => ?_)
  obtain ⟨rfl, hn9, hc1, hbe1, hj1, hh1, fr1⟩ := hq
  replace hn9 := hn9.symm
  subst hn9
  refine v_st (st2 := [.int (dExe C (gx G (i + 1)) (gx G (i + 2))).1]) rfl ?_
  refine v_aload_n dL_law_403 rfl ?_
  have ho := (fr1 (u + 250) (by omega)).trans ho
  have hv := (fr1 (u + 250 + 1) (by omega)).trans hv
  have hbe7 := (fr1 (u + 250 + 2) (by omega)).trans hbe7
  have hsd := (fr1 (u + 250 + 3) (by omega)).trans hsd
  have hkp7 := (fr1 (u + 250 + 4) (by omega)).trans hkp7
  have hpa := (fr1 (u + 250 + 5) (by omega)).trans hpa
  have htx := (fr1 (u + 250 + 6) (by omega)).trans htx
  have hli := (fr1 (u + 250 + 7) (by omega)).trans hli
  refine v_aload_n dL_law_404 rfl ?_
  refine v_iload_n dL_law_405 rfl ?_
  refine v_iconst (v := nI 1) dL_law_406 (by decide) ?_
  refine n_iadd (x := i) (y := 1) dL_law_407 ?_
  refine v_xald (j := i + 1) dL_law_408 (by omega) hL9 ?_
  refine v_aload_n dL_law_409 rfl ?_
  refine v_iload_n dL_law_410 rfl ?_
  refine v_iconst (v := nI 2) dL_law_411 (by decide) ?_
  refine n_iadd (x := i) (y := 2) dL_law_412 ?_
  refine v_xald (j := i + 2) dL_law_413 (by omega) hL9 ?_
  refine v_callV (st := [.int (dExe C (gx G (i + 1)) (gx G (i + 2))).1]) dL_law_414 (t_X7_exempt (t := gx G (i + 1)) (x := gx G (i + 2)) ho hv hbe7 hpa hK hb1 (by omega) hI hR9 ht1 ht2) wL_47 ho rfl rfl ⟨Nat.le_of_ble_eq_true rfl, Nat.le_of_ble_eq_true rfl⟩ (Nat.le_of_ble_eq_true rfl) ⟨by omega, by omega⟩ (fun r n2 h2 hq => ?_)
  obtain ⟨rfl, hn9, ho2, hv2, ⟨B2, hbe2⟩, ⟨P2, hpa2, hR2⟩, fr2⟩ := hq
  replace hn9 := hn9.symm
  subst hn9
  refine v_st (st2 := [.int (dExe C (gx G (i + 1)) (gx G (i + 2))).1, .int (dExe C (gx G (i + 1)) (gx G (i + 2))).1]) rfl ?_
  refine v_icmp_eq (tgt := 1097) dL_law_417 (by decide) (fun _ => ?_) (fun cc => absurd rfl cc)
  have g9 : gs b (dExe C (gx G (i + 1)) (gx G (i + 2))) := gs_dExe hI hK
  refine kk n h2 _ _ (by omega) (by omega) ⟨sv, rf1 (dExe C (gx G (i + 1)) (gx G (i + 2))).2.2 rs, rf2 (dExe C (gx G (i + 1)) (gx G (i + 2))).2.2 dt, (dExe C (gx G (i + 1)) (gx G (i + 2))).2.1, hkp (dExe C (gx G (i + 1)) (gx G (i + 2))).1 C T, Sn, TX, LN, rf1 (dExe C (gx G (i + 1)) (gx G (i + 2))).2.2 wy, rf2 (dExe C (gx G (i + 1)) (gx G (i + 2))).2.2 dtm, a1, a2, hun, ha12, ?_, ?_, ?_, ?_, ?_⟩
  · exact kA.fr ⟨hj1, hc1, ⟨_, hbe1⟩, ⟨Tr, ct_frP htr fr1 (fun q hq => by omega)⟩, ct_frP hsn fr1 (fun q hq => by omega), hh1⟩ (fun z z1 z2 => fr2 z (by omega))
  · exact (kB0.fr (Nat.le_refl _) (fun z hz => (fr2 z (by omega)).trans (fr1 z (by omega))))
  · exact (kC0.fr (Nat.le_refl _) (fun z hz => (fr2 z (by omega)).trans (fr1 z (by omega))))
  · exact ⟨⟨_, _, _, _, _, ho2⟩, hv2, ⟨_, hbe2⟩, (fr2 _ (by omega)).trans hsd, ⟨K7, (fr2 _ (by omega)).trans hkp7⟩, ⟨P2, hpa2, hR2⟩, ⟨X, (fr2 _ (by omega)).trans htx, hX⟩, Y, (fr2 _ (by omega)).trans hli, hY⟩
  · exact kP_R (R := (dExe C (gx G (i + 1)) (gx G (i + 2)))) kP0 ⟨g9.1, g9.2.1.up (by omega)⟩ rz_dExe
set_option maxRecDepth 20000 in
set_option maxHeartbeats 4000000 in
theorem law_8 {nm : String} {l : Launch} {G : vG} {rc rs9 : Nat} {Fz : vFin} {u n : Nat} {h : AH} {b i cells slots : Nat} (hw : LX G u n h b) (hb1 : 200 ≤ b) (hb9 : b + 200000 ≤ 2 ^ 27) (hL9 : gA G 2 3 ≤ 2560) (hi9 : i + 4 < gA G 2 3) (hf : cells + 82 ≤ rc ∧ slots + 11644 ≤ rs9) (kk : ∀ (n2 : Nat) (h2 : AH) (c2 s2 : Nat), c2 ≤ cells + 82 → s2 ≤ slots + 11644 → LX G u n2 h2 (b + 100000) → V l G (mLn nm) rc rs9 Fz 1097 (wls G u i) [] n2 h2 c2 s2) : V l G (mLn nm) rc rs9 Fz 422 (wls G u i) [] n h cells slots := by
  obtain ⟨sv, rs, dt, C, T, Sn, TX, LN, wy, dtm, a1, a2, hun, ha12, kA0, kB0, kC0, kM0, kP0⟩ := hw
  have kA9 := kA0
  have kB9 := kB0
  have kC9 := kC0
  have kM9 := kM0
  have kP9 := kP0
  obtain ⟨hj, hc, ⟨B, hbe⟩, ⟨Tr, htr⟩, hsn, hh⟩ := kA9
  obtain ⟨han, ha, ⟨mm, mb, hcp, hb⟩, c0, p0, r0, L0, N0, hot, hL, hN⟩ := kB9
  obtain ⟨han2, ha2, mm2, mb2, hcp2, hb2⟩ := kC9
  obtain ⟨⟨hr, en, wg, dg, fl, ho⟩, hv, ⟨B7, hbe7⟩, hsd, ⟨K7, hkp7⟩, ⟨P7, hpa, hR9⟩, ⟨X, htx, hX⟩, Y, hli, hY⟩ := kM9
  obtain ⟨hI, hK, hIS, hKS, hTs, ht1, ht2, hsv, hts, hln, hrs⟩ := kP9
  refine v_ls (ls2 := [some (.ref (gA G 2 2)), some (.ref u), some (.ref (u + 250)), some (.int (nI i)), none, none, none, none]) rfl ?_
  refine v_aload_n dL_law_422 rfl ?_
  refine v_aload_n dL_law_423 rfl ?_
  refine v_iload_n dL_law_424 rfl ?_
  refine v_iconst (v := nI 1) dL_law_425 (by decide) ?_
  refine n_iadd (x := i) (y := 1) dL_law_426 ?_
  refine v_xald (j := i + 1) dL_law_427 (by omega) hL9 ?_
  refine v_aload_n dL_law_428 rfl ?_
  refine v_iload_n dL_law_429 rfl ?_
  refine v_iconst (v := nI 2) dL_law_430 (by decide) ?_
  refine n_iadd (x := i) (y := 2) dL_law_431 ?_
  refine v_xald (j := i + 2) dL_law_432 (by omega) hL9 ?_
  refine v_callV (st := []) dL_law_433 (t_X6_throneOf (t := gx G (i + 1)) (w := gx G (i + 2)) hj hc hK (by omega) hI.1) wL_48 hj rfl rfl ⟨Nat.le_of_ble_eq_true rfl, Nat.le_of_ble_eq_true rfl⟩ (Nat.le_of_ble_eq_true rfl) ⟨by omega, by omega⟩ (fun r n2 h2 hq => ?_)
  obtain ⟨rfl, hn9, hh9⟩ := hq; replace hh9 := hh9.symm; subst hh9
  replace hn9 := hn9.symm
  subst hn9
  refine v_st (st2 := [.int (qThr C (gx G (i + 1)) (gx G (i + 2)))]) rfl ?_
  refine v_aload_n dL_law_436 rfl ?_
  refine v_aload_n dL_law_437 rfl ?_
  refine v_iload_n dL_law_438 rfl ?_
  refine v_iconst (v := nI 1) dL_law_439 (by decide) ?_
  refine n_iadd (x := i) (y := 1) dL_law_440 ?_
  refine v_xald (j := i + 1) dL_law_441 (by omega) hL9 ?_
  refine v_aload_n dL_law_442 rfl ?_
  refine v_iload_n dL_law_443 rfl ?_
  refine v_iconst (v := nI 2) dL_law_444 (by decide) ?_
  refine n_iadd (x := i) (y := 2) dL_law_445 ?_
  refine v_xald (j := i + 2) dL_law_446 (by omega) hL9 ?_
  refine v_callV (st := [.int (qThr C (gx G (i + 1)) (gx G (i + 2)))]) dL_law_447 (t_X7_throneOf (t := gx G (i + 1)) (w := gx G (i + 2)) ho hv hK (by omega) hI) wL_51 ho rfl rfl ⟨Nat.le_of_ble_eq_true rfl, Nat.le_of_ble_eq_true rfl⟩ (Nat.le_of_ble_eq_true rfl) ⟨by omega, by omega⟩ (fun r n2 h2 hq => ?_)
  obtain ⟨rfl, hn9, hh9⟩ := hq; replace hh9 := hh9.symm; subst hh9
  replace hn9 := hn9.symm
  subst hn9
  refine v_st (st2 := [.int (qThr C (gx G (i + 1)) (gx G (i + 2))), .int (qThr C (gx G (i + 1)) (gx G (i + 2)))]) rfl ?_
  refine v_icmp_eq (tgt := 1097) dL_law_450 (by decide) (fun _ => ?_) (fun cc => absurd rfl cc)
  exact kk n h _ _ (by omega) (by omega) ⟨sv, rs, dt, C, T, Sn, TX, LN, wy, dtm, a1, a2, hun, ha12, kA0, kB0, kC0, kM0, kP0.up (by omega)⟩
set_option maxRecDepth 20000 in
set_option maxHeartbeats 4000000 in
theorem law_9 {nm : String} {l : Launch} {G : vG} {rc rs9 : Nat} {Fz : vFin} {u n : Nat} {h : AH} {b i cells slots : Nat} (hw : LX G u n h b) (hb1 : 200 ≤ b) (hb9 : b + 200000 ≤ 2 ^ 27) (hL9 : gA G 2 3 ≤ 2560) (hi9 : i + 4 < gA G 2 3) (hf : cells + 82 ≤ rc ∧ slots + 11644 ≤ rs9) (kk : ∀ (n2 : Nat) (h2 : AH) (c2 s2 : Nat), c2 ≤ cells + 82 → s2 ≤ slots + 11644 → LX G u n2 h2 (b + 100000) → V l G (mLn nm) rc rs9 Fz 1097 (wls G u i) [] n2 h2 c2 s2) : V l G (mLn nm) rc rs9 Fz 455 (wls G u i) [] n h cells slots := by
  obtain ⟨sv, rs, dt, C, T, Sn, TX, LN, wy, dtm, a1, a2, hun, ha12, kA0, kB0, kC0, kM0, kP0⟩ := hw
  have kA9 := kA0
  have kB9 := kB0
  have kC9 := kC0
  have kM9 := kM0
  have kP9 := kP0
  obtain ⟨hj, hc, ⟨B, hbe⟩, ⟨Tr, htr⟩, hsn, hh⟩ := kA9
  obtain ⟨han, ha, ⟨mm, mb, hcp, hb⟩, c0, p0, r0, L0, N0, hot, hL, hN⟩ := kB9
  obtain ⟨han2, ha2, mm2, mb2, hcp2, hb2⟩ := kC9
  obtain ⟨⟨hr, en, wg, dg, fl, ho⟩, hv, ⟨B7, hbe7⟩, hsd, ⟨K7, hkp7⟩, ⟨P7, hpa, hR9⟩, ⟨X, htx, hX⟩, Y, hli, hY⟩ := kM9
  obtain ⟨hI, hK, hIS, hKS, hTs, ht1, ht2, hsv, hts, hln, hrs⟩ := kP9
  refine v_ls (ls2 := [some (.ref (gA G 2 2)), some (.ref u), some (.ref (u + 250)), some (.int (nI i)), none, none, none, none]) rfl ?_
  refine v_aload_n dL_law_455 rfl ?_
  refine v_aload_n dL_law_456 rfl ?_
  refine v_iload_n dL_law_457 rfl ?_
  refine v_iconst (v := nI 1) dL_law_458 (by decide) ?_
  refine n_iadd (x := i) (y := 1) dL_law_459 ?_
  refine v_xald (j := i + 1) dL_law_460 (by omega) hL9 ?_
  refine v_aload_n dL_law_461 rfl ?_
  refine v_iload_n dL_law_462 rfl ?_
  refine v_iconst (v := nI 2) dL_law_463 (by decide) ?_
  refine n_iadd (x := i) (y := 2) dL_law_464 ?_
  refine v_xald (j := i + 2) dL_law_465 (by omega) hL9 ?_
  refine v_callV (st := []) dL_law_466 (t_X6_told (j := gx G (i + 1)) (t := gx G (i + 2)) hj hc hK (by omega) hI.1) wL_52 hj rfl rfl ⟨Nat.le_of_ble_eq_true rfl, Nat.le_of_ble_eq_true rfl⟩ (Nat.le_of_ble_eq_true rfl) ⟨by omega, by omega⟩ (fun r n2 h2 hq => ?_)
  obtain ⟨rfl, hn9, hh9⟩ := hq; replace hh9 := hh9.symm; subst hh9
  replace hn9 := hn9.symm
  subst hn9
  refine v_st (st2 := [.int (qTold C (gx G (i + 1)) (gx G (i + 2)))]) rfl ?_
  refine v_aload_n dL_law_469 rfl ?_
  refine v_aload_n dL_law_470 rfl ?_
  refine v_iload_n dL_law_471 rfl ?_
  refine v_iconst (v := nI 1) dL_law_472 (by decide) ?_
  refine n_iadd (x := i) (y := 1) dL_law_473 ?_
  refine v_xald (j := i + 1) dL_law_474 (by omega) hL9 ?_
  refine v_aload_n dL_law_475 rfl ?_
  refine v_iload_n dL_law_476 rfl ?_
  refine v_iconst (v := nI 2) dL_law_477 (by decide) ?_
  refine n_iadd (x := i) (y := 2) dL_law_478 ?_
  refine v_xald (j := i + 2) dL_law_479 (by omega) hL9 ?_
  refine v_callV (st := [.int (qTold C (gx G (i + 1)) (gx G (i + 2)))]) dL_law_480 (t_X7_told (j := gx G (i + 1)) (t := gx G (i + 2)) ho hv hK (by omega) hI) wL_55 ho rfl rfl ⟨Nat.le_of_ble_eq_true rfl, Nat.le_of_ble_eq_true rfl⟩ (Nat.le_of_ble_eq_true rfl) ⟨by omega, by omega⟩ (fun r n2 h2 hq => ?_)
  obtain ⟨rfl, hn9, hh9⟩ := hq; replace hh9 := hh9.symm; subst hh9
  replace hn9 := hn9.symm
  subst hn9
  refine v_st (st2 := [.int (qTold C (gx G (i + 1)) (gx G (i + 2))), .int (qTold C (gx G (i + 1)) (gx G (i + 2)))]) rfl ?_
  refine v_icmp_eq (tgt := 1097) dL_law_483 (by decide) (fun _ => ?_) (fun cc => absurd rfl cc)
  exact kk n h _ _ (by omega) (by omega) ⟨sv, rs, dt, C, T, Sn, TX, LN, wy, dtm, a1, a2, hun, ha12, kA0, kB0, kC0, kM0, kP0.up (by omega)⟩
set_option maxRecDepth 20000 in
set_option maxHeartbeats 4000000 in
theorem law_10 {nm : String} {l : Launch} {G : vG} {rc rs9 : Nat} {Fz : vFin} {u n : Nat} {h : AH} {b i cells slots : Nat} (hw : LX G u n h b) (hb1 : 200 ≤ b) (hb9 : b + 200000 ≤ 2 ^ 27) (hL9 : gA G 2 3 ≤ 2560) (hi9 : i + 4 < gA G 2 3) (hf : cells + 82 ≤ rc ∧ slots + 11644 ≤ rs9) (kk : ∀ (n2 : Nat) (h2 : AH) (c2 s2 : Nat), c2 ≤ cells + 82 → s2 ≤ slots + 11644 → LX G u n2 h2 (b + 100000) → V l G (mLn nm) rc rs9 Fz 1097 (wls G u i) [] n2 h2 c2 s2) : V l G (mLn nm) rc rs9 Fz 488 (wls G u i) [] n h cells slots := by
  obtain ⟨sv, rs, dt, C, T, Sn, TX, LN, wy, dtm, a1, a2, hun, ha12, kA0, kB0, kC0, kM0, kP0⟩ := hw
  have kA9 := kA0
  have kB9 := kB0
  have kC9 := kC0
  have kM9 := kM0
  have kP9 := kP0
  obtain ⟨hj, hc, ⟨B, hbe⟩, ⟨Tr, htr⟩, hsn, hh⟩ := kA9
  obtain ⟨han, ha, ⟨mm, mb, hcp, hb⟩, c0, p0, r0, L0, N0, hot, hL, hN⟩ := kB9
  obtain ⟨han2, ha2, mm2, mb2, hcp2, hb2⟩ := kC9
  obtain ⟨⟨hr, en, wg, dg, fl, ho⟩, hv, ⟨B7, hbe7⟩, hsd, ⟨K7, hkp7⟩, ⟨P7, hpa, hR9⟩, ⟨X, htx, hX⟩, Y, hli, hY⟩ := kM9
  obtain ⟨hI, hK, hIS, hKS, hTs, ht1, ht2, hsv, hts, hln, hrs⟩ := kP9
  refine v_ls (ls2 := [some (.ref (gA G 2 2)), some (.ref u), some (.ref (u + 250)), some (.int (nI i)), none, none, none, none]) rfl ?_
  refine v_aload_n dL_law_488 rfl ?_
  refine v_aload_n dL_law_489 rfl ?_
  refine v_iload_n dL_law_490 rfl ?_
  refine v_iconst (v := nI 1) dL_law_491 (by decide) ?_
  refine n_iadd (x := i) (y := 1) dL_law_492 ?_
  refine v_xald (j := i + 1) dL_law_493 (by omega) hL9 ?_
  refine v_aload_n dL_law_494 rfl ?_
  refine v_iload_n dL_law_495 rfl ?_
  refine v_iconst (v := nI 2) dL_law_496 (by decide) ?_
  refine n_iadd (x := i) (y := 2) dL_law_497 ?_
  refine v_xald (j := i + 2) dL_law_498 (by omega) hL9 ?_
  refine v_aload_n dL_law_499 rfl ?_
  refine v_iload_n dL_law_500 rfl ?_
  refine v_iconst (v := nI 3) dL_law_501 (by decide) ?_
  refine n_iadd (x := i) (y := 3) dL_law_502 ?_
  refine v_xald (j := i + 3) dL_law_503 (by omega) hL9 ?_
  refine v_aload_n dL_law_504 rfl ?_
  refine v_iload_n dL_law_505 rfl ?_
  refine v_iconst (v := nI 4) dL_law_506 (by decide) ?_
  refine n_iadd (x := i) (y := 4) dL_law_507 ?_
  refine v_xald (j := i + 4) dL_law_508 (by omega) hL9 ?_
  refine v_callV (st := []) dL_law_509 (t_X6_book (f := gx G (i + 1)) (j := gx G (i + 2)) (t := gx G (i + 3)) (x := gx G (i + 4)) hj hc hK hb1 (by omega) hI.1 hbe hh) wL_56 hj rfl rfl ⟨Nat.le_of_ble_eq_true rfl, Nat.le_of_ble_eq_true rfl⟩ (Nat.le_of_ble_eq_true rfl) ⟨by omega, by omega⟩ (fun r n2 h2 hq => ?_)
  obtain ⟨rfl, hn9, hc1, hbe1, hj1, hh1, fr1⟩ := hq
  replace hn9 := hn9.symm
  subst hn9
  refine v_st (st2 := [.int (dBook C (gx G (i + 1)) (gx G (i + 2)) (gx G (i + 3)) (gx G (i + 4))).1]) rfl ?_
  refine v_aload_n dL_law_512 rfl ?_
  have ho := (fr1 (u + 250) (by omega)).trans ho
  have hv := (fr1 (u + 250 + 1) (by omega)).trans hv
  have hbe7 := (fr1 (u + 250 + 2) (by omega)).trans hbe7
  have hsd := (fr1 (u + 250 + 3) (by omega)).trans hsd
  have hkp7 := (fr1 (u + 250 + 4) (by omega)).trans hkp7
  have hpa := (fr1 (u + 250 + 5) (by omega)).trans hpa
  have htx := (fr1 (u + 250 + 6) (by omega)).trans htx
  have hli := (fr1 (u + 250 + 7) (by omega)).trans hli
  refine v_aload_n dL_law_513 rfl ?_
  refine v_iload_n dL_law_514 rfl ?_
  refine v_iconst (v := nI 1) dL_law_515 (by decide) ?_
  refine n_iadd (x := i) (y := 1) dL_law_516 ?_
  refine v_xald (j := i + 1) dL_law_517 (by omega) hL9 ?_
  refine v_aload_n dL_law_518 rfl ?_
  refine v_iload_n dL_law_519 rfl ?_
  refine v_iconst (v := nI 2) dL_law_520 (by decide) ?_
  refine n_iadd (x := i) (y := 2) dL_law_521 ?_
  refine v_xald (j := i + 2) dL_law_522 (by omega) hL9 ?_
  refine v_aload_n dL_law_523 rfl ?_
  refine v_iload_n dL_law_524 rfl ?_
  refine v_iconst (v := nI 3) dL_law_525 (by decide) ?_
  refine n_iadd (x := i) (y := 3) dL_law_526 ?_
  refine v_xald (j := i + 3) dL_law_527 (by omega) hL9 ?_
  refine v_aload_n dL_law_528 rfl ?_
  refine v_iload_n dL_law_529 rfl ?_
  refine v_iconst (v := nI 4) dL_law_530 (by decide) ?_
  refine n_iadd (x := i) (y := 4) dL_law_531 ?_
  refine v_xald (j := i + 4) dL_law_532 (by omega) hL9 ?_
  refine v_callV (st := [.int (dBook C (gx G (i + 1)) (gx G (i + 2)) (gx G (i + 3)) (gx G (i + 4))).1]) dL_law_533 (t_X7_book (f := gx G (i + 1)) (j := gx G (i + 2)) (t := gx G (i + 3)) (x := gx G (i + 4)) ho hv hbe7 hpa hK hb1 (by omega) hI hR9 ht1 ht2) wL_60 ho rfl rfl ⟨Nat.le_of_ble_eq_true rfl, Nat.le_of_ble_eq_true rfl⟩ (Nat.le_of_ble_eq_true rfl) ⟨by omega, by omega⟩ (fun r n2 h2 hq => ?_)
  obtain ⟨rfl, hn9, ho2, hv2, ⟨B2, hbe2⟩, ⟨P2, hpa2, hR2⟩, fr2⟩ := hq
  replace hn9 := hn9.symm
  subst hn9
  refine v_st (st2 := [.int (dBook C (gx G (i + 1)) (gx G (i + 2)) (gx G (i + 3)) (gx G (i + 4))).1, .int (dBook C (gx G (i + 1)) (gx G (i + 2)) (gx G (i + 3)) (gx G (i + 4))).1]) rfl ?_
  refine v_icmp_eq (tgt := 1097) dL_law_536 (by decide) (fun _ => ?_) (fun cc => absurd rfl cc)
  have g9 : gs b (dBook C (gx G (i + 1)) (gx G (i + 2)) (gx G (i + 3)) (gx G (i + 4))) := gs_dBook hI hK hb1
  refine kk n h2 _ _ (by omega) (by omega) ⟨sv, rf1 (dBook C (gx G (i + 1)) (gx G (i + 2)) (gx G (i + 3)) (gx G (i + 4))).2.2 rs, rf2 (dBook C (gx G (i + 1)) (gx G (i + 2)) (gx G (i + 3)) (gx G (i + 4))).2.2 dt, (dBook C (gx G (i + 1)) (gx G (i + 2)) (gx G (i + 3)) (gx G (i + 4))).2.1, hkp (dBook C (gx G (i + 1)) (gx G (i + 2)) (gx G (i + 3)) (gx G (i + 4))).1 C T, Sn, TX, LN, rf1 (dBook C (gx G (i + 1)) (gx G (i + 2)) (gx G (i + 3)) (gx G (i + 4))).2.2 wy, rf2 (dBook C (gx G (i + 1)) (gx G (i + 2)) (gx G (i + 3)) (gx G (i + 4))).2.2 dtm, a1, a2, hun, ha12, ?_, ?_, ?_, ?_, ?_⟩
  · exact kA.fr ⟨hj1, hc1, ⟨_, hbe1⟩, ⟨Tr, ct_frP htr fr1 (fun q hq => by omega)⟩, ct_frP hsn fr1 (fun q hq => by omega), hh1⟩ (fun z z1 z2 => fr2 z (by omega))
  · exact (kB0.fr (Nat.le_refl _) (fun z hz => (fr2 z (by omega)).trans (fr1 z (by omega))))
  · exact (kC0.fr (Nat.le_refl _) (fun z hz => (fr2 z (by omega)).trans (fr1 z (by omega))))
  · exact ⟨⟨_, _, _, _, _, ho2⟩, hv2, ⟨_, hbe2⟩, (fr2 _ (by omega)).trans hsd, ⟨K7, (fr2 _ (by omega)).trans hkp7⟩, ⟨P2, hpa2, hR2⟩, ⟨X, (fr2 _ (by omega)).trans htx, hX⟩, Y, (fr2 _ (by omega)).trans hli, hY⟩
  · exact kP_R (R := (dBook C (gx G (i + 1)) (gx G (i + 2)) (gx G (i + 3)) (gx G (i + 4)))) kP0 ⟨g9.1, g9.2.1.up (by omega)⟩ rz_dBook
set_option maxRecDepth 20000 in
set_option maxHeartbeats 4000000 in
theorem law_11 {nm : String} {l : Launch} {G : vG} {rc rs9 : Nat} {Fz : vFin} {u n : Nat} {h : AH} {b i cells slots : Nat} (hw : LX G u n h b) (hb1 : 200 ≤ b) (hb9 : b + 200000 ≤ 2 ^ 27) (hL9 : gA G 2 3 ≤ 2560) (hi9 : i + 4 < gA G 2 3) (hf : cells + 82 ≤ rc ∧ slots + 11644 ≤ rs9) (kk : ∀ (n2 : Nat) (h2 : AH) (c2 s2 : Nat), c2 ≤ cells + 82 → s2 ≤ slots + 11644 → LX G u n2 h2 (b + 100000) → V l G (mLn nm) rc rs9 Fz 1097 (wls G u i) [] n2 h2 c2 s2) : V l G (mLn nm) rc rs9 Fz 541 (wls G u i) [] n h cells slots := by
  obtain ⟨sv, rs, dt, C, T, Sn, TX, LN, wy, dtm, a1, a2, hun, ha12, kA0, kB0, kC0, kM0, kP0⟩ := hw
  have kA9 := kA0
  have kB9 := kB0
  have kC9 := kC0
  have kM9 := kM0
  have kP9 := kP0
  obtain ⟨hj, hc, ⟨B, hbe⟩, ⟨Tr, htr⟩, hsn, hh⟩ := kA9
  obtain ⟨han, ha, ⟨mm, mb, hcp, hb⟩, c0, p0, r0, L0, N0, hot, hL, hN⟩ := kB9
  obtain ⟨han2, ha2, mm2, mb2, hcp2, hb2⟩ := kC9
  obtain ⟨⟨hr, en, wg, dg, fl, ho⟩, hv, ⟨B7, hbe7⟩, hsd, ⟨K7, hkp7⟩, ⟨P7, hpa, hR9⟩, ⟨X, htx, hX⟩, Y, hli, hY⟩ := kM9
  obtain ⟨hI, hK, hIS, hKS, hTs, ht1, ht2, hsv, hts, hln, hrs⟩ := kP9
  refine v_ls (ls2 := [some (.ref (gA G 2 2)), some (.ref u), some (.ref (u + 250)), some (.int (nI i)), none, none, none, none]) rfl ?_
  refine v_aload_n dL_law_541 rfl ?_
  refine v_callV (st := []) dL_law_542 (t_X6_next hj hc hK hb1 (by omega) hI.1 hbe hh) wL_61 hj rfl rfl ⟨Nat.le_of_ble_eq_true rfl, Nat.le_of_ble_eq_true rfl⟩ (Nat.le_of_ble_eq_true rfl) ⟨by omega, by omega⟩ (fun r n2 h2 hq => ?_)
  obtain ⟨rfl, hn9, hc1, hbe1, hj1, hh1, fr1⟩ := hq
  replace hn9 := hn9.symm
  subst hn9
  refine v_st (st2 := [.int (dNext C).1]) rfl ?_
  refine v_aload_n dL_law_545 rfl ?_
  have ho := (fr1 (u + 250) (by omega)).trans ho
  have hv := (fr1 (u + 250 + 1) (by omega)).trans hv
  have hbe7 := (fr1 (u + 250 + 2) (by omega)).trans hbe7
  have hsd := (fr1 (u + 250 + 3) (by omega)).trans hsd
  have hkp7 := (fr1 (u + 250 + 4) (by omega)).trans hkp7
  have hpa := (fr1 (u + 250 + 5) (by omega)).trans hpa
  have htx := (fr1 (u + 250 + 6) (by omega)).trans htx
  have hli := (fr1 (u + 250 + 7) (by omega)).trans hli
  refine v_callV (st := [.int (dNext C).1]) dL_law_546 (t_X7_next ho hv hbe7 hpa hK hb1 (by omega) hI hR9 ht1 ht2) wL_65 ho rfl rfl ⟨Nat.le_of_ble_eq_true rfl, Nat.le_of_ble_eq_true rfl⟩ (Nat.le_of_ble_eq_true rfl) ⟨by omega, by omega⟩ (fun r n2 h2 hq => ?_)
  obtain ⟨rfl, hn9, ho2, hv2, ⟨B2, hbe2⟩, ⟨P2, hpa2, hR2⟩, fr2⟩ := hq
  replace hn9 := hn9.symm
  subst hn9
  refine v_st (st2 := [.int (dNext C).1, .int (dNext C).1]) rfl ?_
  refine v_icmp_eq (tgt := 1097) dL_law_549 (by decide) (fun _ => ?_) (fun cc => absurd rfl cc)
  have g9 : gs b (dNext C) := gs_dNext hI hK
  refine kk n h2 _ _ (by omega) (by omega) ⟨sv, rf1 (dNext C).2.2 rs, rf2 (dNext C).2.2 dt, (dNext C).2.1, hkp (dNext C).1 C T, Sn, TX, LN, rf1 (dNext C).2.2 wy, rf2 (dNext C).2.2 dtm, a1, a2, hun, ha12, ?_, ?_, ?_, ?_, ?_⟩
  · exact kA.fr ⟨hj1, hc1, ⟨_, hbe1⟩, ⟨Tr, ct_frP htr fr1 (fun q hq => by omega)⟩, ct_frP hsn fr1 (fun q hq => by omega), hh1⟩ (fun z z1 z2 => fr2 z (by omega))
  · exact (kB0.fr (Nat.le_refl _) (fun z hz => (fr2 z (by omega)).trans (fr1 z (by omega))))
  · exact (kC0.fr (Nat.le_refl _) (fun z hz => (fr2 z (by omega)).trans (fr1 z (by omega))))
  · exact ⟨⟨_, _, _, _, _, ho2⟩, hv2, ⟨_, hbe2⟩, (fr2 _ (by omega)).trans hsd, ⟨K7, (fr2 _ (by omega)).trans hkp7⟩, ⟨P2, hpa2, hR2⟩, ⟨X, (fr2 _ (by omega)).trans htx, hX⟩, Y, (fr2 _ (by omega)).trans hli, hY⟩
  · exact kP_R (R := (dNext C)) kP0 ⟨g9.1, g9.2.1.up (by omega)⟩ rz_dNext
set_option maxRecDepth 20000 in
set_option maxHeartbeats 4000000 in
theorem law_12 {nm : String} {l : Launch} {G : vG} {rc rs9 : Nat} {Fz : vFin} {u n : Nat} {h : AH} {b i cells slots : Nat} (hw : LX G u n h b) (hb1 : 200 ≤ b) (hb9 : b + 200000 ≤ 2 ^ 27) (hL9 : gA G 2 3 ≤ 2560) (hi9 : i + 4 < gA G 2 3) (hf : cells + 82 ≤ rc ∧ slots + 11644 ≤ rs9) (kk : ∀ (n2 : Nat) (h2 : AH) (c2 s2 : Nat), c2 ≤ cells + 82 → s2 ≤ slots + 11644 → LX G u n2 h2 (b + 100000) → V l G (mLn nm) rc rs9 Fz 1097 (wls G u i) [] n2 h2 c2 s2) : V l G (mLn nm) rc rs9 Fz 554 (wls G u i) [] n h cells slots := by
  obtain ⟨sv, rs, dt, C, T, Sn, TX, LN, wy, dtm, a1, a2, hun, ha12, kA0, kB0, kC0, kM0, kP0⟩ := hw
  have kA9 := kA0
  have kB9 := kB0
  have kC9 := kC0
  have kM9 := kM0
  have kP9 := kP0
  obtain ⟨hj, hc, ⟨B, hbe⟩, ⟨Tr, htr⟩, hsn, hh⟩ := kA9
  obtain ⟨han, ha, ⟨mm, mb, hcp, hb⟩, c0, p0, r0, L0, N0, hot, hL, hN⟩ := kB9
  obtain ⟨han2, ha2, mm2, mb2, hcp2, hb2⟩ := kC9
  obtain ⟨⟨hr, en, wg, dg, fl, ho⟩, hv, ⟨B7, hbe7⟩, hsd, ⟨K7, hkp7⟩, ⟨P7, hpa, hR9⟩, ⟨X, htx, hX⟩, Y, hli, hY⟩ := kM9
  obtain ⟨hI, hK, hIS, hKS, hTs, ht1, ht2, hsv, hts, hln, hrs⟩ := kP9
  refine v_ls (ls2 := [some (.ref (gA G 2 2)), some (.ref u), some (.ref (u + 250)), some (.int (nI i)), none, none, none, none]) rfl ?_
  refine v_aload_n dL_law_554 rfl ?_
  refine v_aload_n dL_law_555 rfl ?_
  refine v_iload_n dL_law_556 rfl ?_
  refine v_iconst (v := nI 1) dL_law_557 (by decide) ?_
  refine n_iadd (x := i) (y := 1) dL_law_558 ?_
  refine v_xald (j := i + 1) dL_law_559 (by omega) hL9 ?_
  refine v_callV (st := []) dL_law_560 (t_X6_pass (x := gx G (i + 1)) hj hc hK hb1 (by omega) hI.1 hbe hh) wL_66 hj rfl rfl ⟨Nat.le_of_ble_eq_true rfl, Nat.le_of_ble_eq_true rfl⟩ (Nat.le_of_ble_eq_true rfl) ⟨by omega, by omega⟩ (fun r n2 h2 hq => ?_)
  obtain ⟨rfl, hn9, hc1, hbe1, hj1, hh1, fr1⟩ := hq
  replace hn9 := hn9.symm
  subst hn9
  refine v_st (st2 := [.int (dPass C (gx G (i + 1))).1]) rfl ?_
  refine v_aload_n dL_law_563 rfl ?_
  have ho := (fr1 (u + 250) (by omega)).trans ho
  have hv := (fr1 (u + 250 + 1) (by omega)).trans hv
  have hbe7 := (fr1 (u + 250 + 2) (by omega)).trans hbe7
  have hsd := (fr1 (u + 250 + 3) (by omega)).trans hsd
  have hkp7 := (fr1 (u + 250 + 4) (by omega)).trans hkp7
  have hpa := (fr1 (u + 250 + 5) (by omega)).trans hpa
  have htx := (fr1 (u + 250 + 6) (by omega)).trans htx
  have hli := (fr1 (u + 250 + 7) (by omega)).trans hli
  refine v_aload_n dL_law_564 rfl ?_
  refine v_iload_n dL_law_565 rfl ?_
  refine v_iconst (v := nI 1) dL_law_566 (by decide) ?_
  refine n_iadd (x := i) (y := 1) dL_law_567 ?_
  refine v_xald (j := i + 1) dL_law_568 (by omega) hL9 ?_
  refine v_callV (st := [.int (dPass C (gx G (i + 1))).1]) dL_law_569 (t_X7_pass (x := gx G (i + 1)) ho hv hbe7 hpa hK hb1 (by omega) hI hR9 ht1 ht2) wL_69 ho rfl rfl ⟨Nat.le_of_ble_eq_true rfl, Nat.le_of_ble_eq_true rfl⟩ (Nat.le_of_ble_eq_true rfl) ⟨by omega, by omega⟩ (fun r n2 h2 hq => ?_)
  obtain ⟨rfl, hn9, ho2, hv2, ⟨B2, hbe2⟩, ⟨P2, hpa2, hR2⟩, fr2⟩ := hq
  replace hn9 := hn9.symm
  subst hn9
  refine v_st (st2 := [.int (dPass C (gx G (i + 1))).1, .int (dPass C (gx G (i + 1))).1]) rfl ?_
  refine v_icmp_eq (tgt := 1097) dL_law_572 (by decide) (fun _ => ?_) (fun cc => absurd rfl cc)
  have g9 : gs b (dPass C (gx G (i + 1))) := gs_dPass hI hK
  refine kk n h2 _ _ (by omega) (by omega) ⟨sv, rf1 (dPass C (gx G (i + 1))).2.2 rs, rf2 (dPass C (gx G (i + 1))).2.2 dt, (dPass C (gx G (i + 1))).2.1, hkp (dPass C (gx G (i + 1))).1 C T, Sn, TX, LN, rf1 (dPass C (gx G (i + 1))).2.2 wy, rf2 (dPass C (gx G (i + 1))).2.2 dtm, a1, a2, hun, ha12, ?_, ?_, ?_, ?_, ?_⟩
  · exact kA.fr ⟨hj1, hc1, ⟨_, hbe1⟩, ⟨Tr, ct_frP htr fr1 (fun q hq => by omega)⟩, ct_frP hsn fr1 (fun q hq => by omega), hh1⟩ (fun z z1 z2 => fr2 z (by omega))
  · exact (kB0.fr (Nat.le_refl _) (fun z hz => (fr2 z (by omega)).trans (fr1 z (by omega))))
  · exact (kC0.fr (Nat.le_refl _) (fun z hz => (fr2 z (by omega)).trans (fr1 z (by omega))))
  · exact ⟨⟨_, _, _, _, _, ho2⟩, hv2, ⟨_, hbe2⟩, (fr2 _ (by omega)).trans hsd, ⟨K7, (fr2 _ (by omega)).trans hkp7⟩, ⟨P2, hpa2, hR2⟩, ⟨X, (fr2 _ (by omega)).trans htx, hX⟩, Y, (fr2 _ (by omega)).trans hli, hY⟩
  · exact kP_R (R := (dPass C (gx G (i + 1)))) kP0 ⟨g9.1, g9.2.1.up (by omega)⟩ rz_dPass
set_option maxRecDepth 20000 in
set_option maxHeartbeats 4000000 in
theorem law_13 {nm : String} {l : Launch} {G : vG} {rc rs9 : Nat} {Fz : vFin} {u n : Nat} {h : AH} {b i cells slots : Nat} (hw : LX G u n h b) (hb1 : 200 ≤ b) (hb9 : b + 200000 ≤ 2 ^ 27) (hL9 : gA G 2 3 ≤ 2560) (hi9 : i + 4 < gA G 2 3) (hf : cells + 82 ≤ rc ∧ slots + 11644 ≤ rs9) (kk : ∀ (n2 : Nat) (h2 : AH) (c2 s2 : Nat), c2 ≤ cells + 82 → s2 ≤ slots + 11644 → LX G u n2 h2 (b + 100000) → V l G (mLn nm) rc rs9 Fz 1097 (wls G u i) [] n2 h2 c2 s2) : V l G (mLn nm) rc rs9 Fz 577 (wls G u i) [] n h cells slots := by
  obtain ⟨sv, rs, dt, C, T, Sn, TX, LN, wy, dtm, a1, a2, hun, ha12, kA0, kB0, kC0, kM0, kP0⟩ := hw
  have kA9 := kA0
  have kB9 := kB0
  have kC9 := kC0
  have kM9 := kM0
  have kP9 := kP0
  obtain ⟨hj, hc, ⟨B, hbe⟩, ⟨Tr, htr⟩, hsn, hh⟩ := kA9
  obtain ⟨han, ha, ⟨mm, mb, hcp, hb⟩, c0, p0, r0, L0, N0, hot, hL, hN⟩ := kB9
  obtain ⟨han2, ha2, mm2, mb2, hcp2, hb2⟩ := kC9
  obtain ⟨⟨hr, en, wg, dg, fl, ho⟩, hv, ⟨B7, hbe7⟩, hsd, ⟨K7, hkp7⟩, ⟨P7, hpa, hR9⟩, ⟨X, htx, hX⟩, Y, hli, hY⟩ := kM9
  obtain ⟨hI, hK, hIS, hKS, hTs, ht1, ht2, hsv, hts, hln, hrs⟩ := kP9
  refine v_ls (ls2 := [some (.ref (gA G 2 2)), some (.ref u), some (.ref (u + 250)), some (.int (nI i)), none, none, none, none]) rfl ?_
  refine v_aload_n dL_law_577 rfl ?_
  refine v_aload_n dL_law_578 rfl ?_
  refine v_iload_n dL_law_579 rfl ?_
  refine v_iconst (v := nI 1) dL_law_580 (by decide) ?_
  refine n_iadd (x := i) (y := 1) dL_law_581 ?_
  refine v_xald (j := i + 1) dL_law_582 (by omega) hL9 ?_
  refine v_aload_n dL_law_583 rfl ?_
  refine v_iload_n dL_law_584 rfl ?_
  refine v_iconst (v := nI 2) dL_law_585 (by decide) ?_
  refine n_iadd (x := i) (y := 2) dL_law_586 ?_
  refine v_xald (j := i + 2) dL_law_587 (by omega) hL9 ?_
  refine v_callV (st := []) dL_law_588 (t_X6_booking (p := gx G (i + 1)) (w := gx G (i + 2)) hj hc hK (by omega) hI.1) wL_70 hj rfl rfl ⟨Nat.le_of_ble_eq_true rfl, Nat.le_of_ble_eq_true rfl⟩ (Nat.le_of_ble_eq_true rfl) ⟨by omega, by omega⟩ (fun r n2 h2 hq => ?_)
  obtain ⟨rfl, hn9, hh9⟩ := hq; replace hh9 := hh9.symm; subst hh9
  replace hn9 := hn9.symm
  subst hn9
  refine v_st (st2 := [.int (qBk C (gx G (i + 1)) (gx G (i + 2)))]) rfl ?_
  refine v_aload_n dL_law_591 rfl ?_
  refine v_aload_n dL_law_592 rfl ?_
  refine v_iload_n dL_law_593 rfl ?_
  refine v_iconst (v := nI 1) dL_law_594 (by decide) ?_
  refine n_iadd (x := i) (y := 1) dL_law_595 ?_
  refine v_xald (j := i + 1) dL_law_596 (by omega) hL9 ?_
  refine v_aload_n dL_law_597 rfl ?_
  refine v_iload_n dL_law_598 rfl ?_
  refine v_iconst (v := nI 2) dL_law_599 (by decide) ?_
  refine n_iadd (x := i) (y := 2) dL_law_600 ?_
  refine v_xald (j := i + 2) dL_law_601 (by omega) hL9 ?_
  refine v_callV (st := [.int (qBk C (gx G (i + 1)) (gx G (i + 2)))]) dL_law_602 (t_X7_booking (p := gx G (i + 1)) (w := gx G (i + 2)) ho hv hK (by omega) hI) wL_73 ho rfl rfl ⟨Nat.le_of_ble_eq_true rfl, Nat.le_of_ble_eq_true rfl⟩ (Nat.le_of_ble_eq_true rfl) ⟨by omega, by omega⟩ (fun r n2 h2 hq => ?_)
  obtain ⟨rfl, hn9, hh9⟩ := hq; replace hh9 := hh9.symm; subst hh9
  replace hn9 := hn9.symm
  subst hn9
  refine v_st (st2 := [.int (qBk C (gx G (i + 1)) (gx G (i + 2))), .int (qBk C (gx G (i + 1)) (gx G (i + 2)))]) rfl ?_
  refine v_icmp_eq (tgt := 1097) dL_law_605 (by decide) (fun _ => ?_) (fun cc => absurd rfl cc)
  exact kk n h _ _ (by omega) (by omega) ⟨sv, rs, dt, C, T, Sn, TX, LN, wy, dtm, a1, a2, hun, ha12, kA0, kB0, kC0, kM0, kP0.up (by omega)⟩
set_option maxRecDepth 20000 in
set_option maxHeartbeats 4000000 in
theorem law_14 {nm : String} {l : Launch} {G : vG} {rc rs9 : Nat} {Fz : vFin} {u n : Nat} {h : AH} {b i cells slots : Nat} (hw : LX G u n h b) (hb1 : 200 ≤ b) (hb9 : b + 200000 ≤ 2 ^ 27) (hL9 : gA G 2 3 ≤ 2560) (hi9 : i + 4 < gA G 2 3) (hf : cells + 82 ≤ rc ∧ slots + 11644 ≤ rs9) (kk : ∀ (n2 : Nat) (h2 : AH) (c2 s2 : Nat), c2 ≤ cells + 82 → s2 ≤ slots + 11644 → LX G u n2 h2 (b + 100000) → V l G (mLn nm) rc rs9 Fz 1097 (wls G u i) [] n2 h2 c2 s2) : V l G (mLn nm) rc rs9 Fz 610 (wls G u i) [] n h cells slots := by
  obtain ⟨sv, rs, dt, C, T, Sn, TX, LN, wy, dtm, a1, a2, hun, ha12, kA0, kB0, kC0, kM0, kP0⟩ := hw
  have kA9 := kA0
  have kB9 := kB0
  have kC9 := kC0
  have kM9 := kM0
  have kP9 := kP0
  obtain ⟨hj, hc, ⟨B, hbe⟩, ⟨Tr, htr⟩, hsn, hh⟩ := kA9
  obtain ⟨han, ha, ⟨mm, mb, hcp, hb⟩, c0, p0, r0, L0, N0, hot, hL, hN⟩ := kB9
  obtain ⟨han2, ha2, mm2, mb2, hcp2, hb2⟩ := kC9
  obtain ⟨⟨hr, en, wg, dg, fl, ho⟩, hv, ⟨B7, hbe7⟩, hsd, ⟨K7, hkp7⟩, ⟨P7, hpa, hR9⟩, ⟨X, htx, hX⟩, Y, hli, hY⟩ := kM9
  obtain ⟨hI, hK, hIS, hKS, hTs, ht1, ht2, hsv, hts, hln, hrs⟩ := kP9
  refine v_ls (ls2 := [some (.ref (gA G 2 2)), some (.ref u), some (.ref (u + 250)), some (.int (nI i)), none, none, none, none]) rfl ?_
  refine v_aload_n dL_law_610 rfl ?_
  refine v_aload_n dL_law_611 rfl ?_
  refine v_iload_n dL_law_612 rfl ?_
  refine v_iconst (v := nI 1) dL_law_613 (by decide) ?_
  refine n_iadd (x := i) (y := 1) dL_law_614 ?_
  refine v_xald (j := i + 1) dL_law_615 (by omega) hL9 ?_
  refine v_aload_n dL_law_616 rfl ?_
  refine v_iload_n dL_law_617 rfl ?_
  refine v_iconst (v := nI 2) dL_law_618 (by decide) ?_
  refine n_iadd (x := i) (y := 2) dL_law_619 ?_
  refine v_xald (j := i + 2) dL_law_620 (by omega) hL9 ?_
  refine v_aload_n dL_law_621 rfl ?_
  refine v_iload_n dL_law_622 rfl ?_
  refine v_iconst (v := nI 3) dL_law_623 (by decide) ?_
  refine n_iadd (x := i) (y := 3) dL_law_624 ?_
  refine v_xald (j := i + 3) dL_law_625 (by omega) hL9 ?_
  refine v_callV (st := []) dL_law_626 (t_X6_would (f := gx G (i + 1)) (j := gx G (i + 2)) (t := gx G (i + 3)) hj hc hK (by omega) hI.1) wL_74 hj rfl rfl ⟨Nat.le_of_ble_eq_true rfl, Nat.le_of_ble_eq_true rfl⟩ (Nat.le_of_ble_eq_true rfl) ⟨by omega, by omega⟩ (fun r n2 h2 hq => ?_)
  obtain ⟨rfl, hn9, hh9⟩ := hq; replace hh9 := hh9.symm; subst hh9
  replace hn9 := hn9.symm
  subst hn9
  refine v_st (st2 := [.int (qWould C (gx G (i + 1)) (gx G (i + 2)) (gx G (i + 3)))]) rfl ?_
  refine v_aload_n dL_law_629 rfl ?_
  refine v_aload_n dL_law_630 rfl ?_
  refine v_iload_n dL_law_631 rfl ?_
  refine v_iconst (v := nI 1) dL_law_632 (by decide) ?_
  refine n_iadd (x := i) (y := 1) dL_law_633 ?_
  refine v_xald (j := i + 1) dL_law_634 (by omega) hL9 ?_
  refine v_aload_n dL_law_635 rfl ?_
  refine v_iload_n dL_law_636 rfl ?_
  refine v_iconst (v := nI 2) dL_law_637 (by decide) ?_
  refine n_iadd (x := i) (y := 2) dL_law_638 ?_
  refine v_xald (j := i + 2) dL_law_639 (by omega) hL9 ?_
  refine v_aload_n dL_law_640 rfl ?_
  refine v_iload_n dL_law_641 rfl ?_
  refine v_iconst (v := nI 3) dL_law_642 (by decide) ?_
  refine n_iadd (x := i) (y := 3) dL_law_643 ?_
  refine v_xald (j := i + 3) dL_law_644 (by omega) hL9 ?_
  refine v_callV (st := [.int (qWould C (gx G (i + 1)) (gx G (i + 2)) (gx G (i + 3)))]) dL_law_645 (t_X7_would (f := gx G (i + 1)) (j := gx G (i + 2)) (t := gx G (i + 3)) ho hv hK (by omega) hI) wL_77 ho rfl rfl ⟨Nat.le_of_ble_eq_true rfl, Nat.le_of_ble_eq_true rfl⟩ (Nat.le_of_ble_eq_true rfl) ⟨by omega, by omega⟩ (fun r n2 h2 hq => ?_)
  obtain ⟨rfl, hn9, hh9⟩ := hq; replace hh9 := hh9.symm; subst hh9
  replace hn9 := hn9.symm
  subst hn9
  refine v_st (st2 := [.int (qWould C (gx G (i + 1)) (gx G (i + 2)) (gx G (i + 3))), .int (qWould C (gx G (i + 1)) (gx G (i + 2)) (gx G (i + 3)))]) rfl ?_
  refine v_icmp_eq (tgt := 1097) dL_law_648 (by decide) (fun _ => ?_) (fun cc => absurd rfl cc)
  exact kk n h _ _ (by omega) (by omega) ⟨sv, rs, dt, C, T, Sn, TX, LN, wy, dtm, a1, a2, hun, ha12, kA0, kB0, kC0, kM0, kP0.up (by omega)⟩
set_option maxRecDepth 20000 in
set_option maxHeartbeats 4000000 in
theorem law_15 {nm : String} {l : Launch} {G : vG} {rc rs9 : Nat} {Fz : vFin} {u n : Nat} {h : AH} {b i cells slots : Nat} (hw : LX G u n h b) (hb1 : 200 ≤ b) (hb9 : b + 200000 ≤ 2 ^ 27) (hL9 : gA G 2 3 ≤ 2560) (hi9 : i + 4 < gA G 2 3) (hf : cells + 82 ≤ rc ∧ slots + 11644 ≤ rs9) (kk : ∀ (n2 : Nat) (h2 : AH) (c2 s2 : Nat), c2 ≤ cells + 82 → s2 ≤ slots + 11644 → LX G u n2 h2 (b + 100000) → V l G (mLn nm) rc rs9 Fz 1097 (wls G u i) [] n2 h2 c2 s2) : V l G (mLn nm) rc rs9 Fz 653 (wls G u i) [] n h cells slots := by
  obtain ⟨sv, rs, dt, C, T, Sn, TX, LN, wy, dtm, a1, a2, hun, ha12, kA0, kB0, kC0, kM0, kP0⟩ := hw
  have kA9 := kA0
  have kB9 := kB0
  have kC9 := kC0
  have kM9 := kM0
  have kP9 := kP0
  obtain ⟨hj, hc, ⟨B, hbe⟩, ⟨Tr, htr⟩, hsn, hh⟩ := kA9
  obtain ⟨han, ha, ⟨mm, mb, hcp, hb⟩, c0, p0, r0, L0, N0, hot, hL, hN⟩ := kB9
  obtain ⟨han2, ha2, mm2, mb2, hcp2, hb2⟩ := kC9
  obtain ⟨⟨hr, en, wg, dg, fl, ho⟩, hv, ⟨B7, hbe7⟩, hsd, ⟨K7, hkp7⟩, ⟨P7, hpa, hR9⟩, ⟨X, htx, hX⟩, Y, hli, hY⟩ := kM9
  obtain ⟨hI, hK, hIS, hKS, hTs, ht1, ht2, hsv, hts, hln, hrs⟩ := kP9
  refine v_ls (ls2 := [some (.ref (gA G 2 2)), some (.ref u), some (.ref (u + 250)), some (.int (nI i)), none, none, none, none]) rfl ?_
  refine v_aload_n dL_law_653 rfl ?_
  refine v_aload_n dL_law_654 rfl ?_
  refine v_iload_n dL_law_655 rfl ?_
  refine v_iconst (v := nI 1) dL_law_656 (by decide) ?_
  refine n_iadd (x := i) (y := 1) dL_law_657 ?_
  refine v_xald (j := i + 1) dL_law_658 (by omega) hL9 ?_
  refine v_aload_n dL_law_659 rfl ?_
  refine v_iload_n dL_law_660 rfl ?_
  refine v_iconst (v := nI 2) dL_law_661 (by decide) ?_
  refine n_iadd (x := i) (y := 2) dL_law_662 ?_
  refine v_xald (j := i + 2) dL_law_663 (by omega) hL9 ?_
  refine v_callV (st := []) dL_law_664 (t_X6_best (f := gx G (i + 1)) (t := gx G (i + 2)) hj hc hK (by omega) hI.1) wL_78 hj rfl rfl ⟨Nat.le_of_ble_eq_true rfl, Nat.le_of_ble_eq_true rfl⟩ (Nat.le_of_ble_eq_true rfl) ⟨by omega, by omega⟩ (fun r n2 h2 hq => ?_)
  obtain ⟨rfl, hn9, hh9⟩ := hq; replace hh9 := hh9.symm; subst hh9
  replace hn9 := hn9.symm
  subst hn9
  refine v_st (st2 := [.int (qBest C (gx G (i + 1)) (gx G (i + 2)))]) rfl ?_
  refine v_aload_n dL_law_667 rfl ?_
  refine v_aload_n dL_law_668 rfl ?_
  refine v_iload_n dL_law_669 rfl ?_
  refine v_iconst (v := nI 1) dL_law_670 (by decide) ?_
  refine n_iadd (x := i) (y := 1) dL_law_671 ?_
  refine v_xald (j := i + 1) dL_law_672 (by omega) hL9 ?_
  refine v_aload_n dL_law_673 rfl ?_
  refine v_iload_n dL_law_674 rfl ?_
  refine v_iconst (v := nI 2) dL_law_675 (by decide) ?_
  refine n_iadd (x := i) (y := 2) dL_law_676 ?_
  refine v_xald (j := i + 2) dL_law_677 (by omega) hL9 ?_
  refine v_callV (st := [.int (qBest C (gx G (i + 1)) (gx G (i + 2)))]) dL_law_678 (t_X7_best (f := gx G (i + 1)) (t := gx G (i + 2)) ho hv hK (by omega) hI) wL_81 ho rfl rfl ⟨Nat.le_of_ble_eq_true rfl, Nat.le_of_ble_eq_true rfl⟩ (Nat.le_of_ble_eq_true rfl) ⟨by omega, by omega⟩ (fun r n2 h2 hq => ?_)
  obtain ⟨rfl, hn9, hh9⟩ := hq; replace hh9 := hh9.symm; subst hh9
  replace hn9 := hn9.symm
  subst hn9
  refine v_st (st2 := [.int (qBest C (gx G (i + 1)) (gx G (i + 2))), .int (qBest C (gx G (i + 1)) (gx G (i + 2)))]) rfl ?_
  refine v_icmp_eq (tgt := 1097) dL_law_681 (by decide) (fun _ => ?_) (fun cc => absurd rfl cc)
  exact kk n h _ _ (by omega) (by omega) ⟨sv, rs, dt, C, T, Sn, TX, LN, wy, dtm, a1, a2, hun, ha12, kA0, kB0, kC0, kM0, kP0.up (by omega)⟩
set_option maxRecDepth 20000 in
set_option maxHeartbeats 4000000 in
theorem law_16 {nm : String} {l : Launch} {G : vG} {rc rs9 : Nat} {Fz : vFin} {u n : Nat} {h : AH} {b i cells slots : Nat} (hw : LX G u n h b) (hb1 : 200 ≤ b) (hb9 : b + 200000 ≤ 2 ^ 27) (hL9 : gA G 2 3 ≤ 2560) (hi9 : i + 4 < gA G 2 3) (hf : cells + 82 ≤ rc ∧ slots + 11644 ≤ rs9) (kk : ∀ (n2 : Nat) (h2 : AH) (c2 s2 : Nat), c2 ≤ cells + 82 → s2 ≤ slots + 11644 → LX G u n2 h2 (b + 100000) → V l G (mLn nm) rc rs9 Fz 1097 (wls G u i) [] n2 h2 c2 s2) : V l G (mLn nm) rc rs9 Fz 686 (wls G u i) [] n h cells slots := by
  obtain ⟨sv, rs, dt, C, T, Sn, TX, LN, wy, dtm, a1, a2, hun, ha12, kA0, kB0, kC0, kM0, kP0⟩ := hw
  have kA9 := kA0
  have kB9 := kB0
  have kC9 := kC0
  have kM9 := kM0
  have kP9 := kP0
  obtain ⟨hj, hc, ⟨B, hbe⟩, ⟨Tr, htr⟩, hsn, hh⟩ := kA9
  obtain ⟨han, ha, ⟨mm, mb, hcp, hb⟩, c0, p0, r0, L0, N0, hot, hL, hN⟩ := kB9
  obtain ⟨han2, ha2, mm2, mb2, hcp2, hb2⟩ := kC9
  obtain ⟨⟨hr, en, wg, dg, fl, ho⟩, hv, ⟨B7, hbe7⟩, hsd, ⟨K7, hkp7⟩, ⟨P7, hpa, hR9⟩, ⟨X, htx, hX⟩, Y, hli, hY⟩ := kM9
  obtain ⟨hI, hK, hIS, hKS, hTs, ht1, ht2, hsv, hts, hln, hrs⟩ := kP9
  refine v_ls (ls2 := [some (.ref (gA G 2 2)), some (.ref u), some (.ref (u + 250)), some (.int (nI i)), none, none, none, none]) rfl ?_
  refine v_aload_n dL_law_686 rfl ?_
  refine v_aload_n dL_law_687 rfl ?_
  refine v_iload_n dL_law_688 rfl ?_
  refine v_iconst (v := nI 1) dL_law_689 (by decide) ?_
  refine n_iadd (x := i) (y := 1) dL_law_690 ?_
  refine v_xald (j := i + 1) dL_law_691 (by omega) hL9 ?_
  refine v_aload_n dL_law_692 rfl ?_
  refine v_iload_n dL_law_693 rfl ?_
  refine v_iconst (v := nI 2) dL_law_694 (by decide) ?_
  refine n_iadd (x := i) (y := 2) dL_law_695 ?_
  refine v_xald (j := i + 2) dL_law_696 (by omega) hL9 ?_
  refine v_callV (st := []) dL_law_697 (t_X6_bestAgain (f := gx G (i + 1)) (t := gx G (i + 2)) hj hc hK (by omega) hI.1) wL_82 hj rfl rfl ⟨Nat.le_of_ble_eq_true rfl, Nat.le_of_ble_eq_true rfl⟩ (Nat.le_of_ble_eq_true rfl) ⟨by omega, by omega⟩ (fun r n2 h2 hq => ?_)
  obtain ⟨rfl, hn9, hh9⟩ := hq; replace hh9 := hh9.symm; subst hh9
  replace hn9 := hn9.symm
  subst hn9
  have e9 : qBest2 C (gx G (i + 1)) (gx G (i + 2)) = qBest C (gx G (i + 1)) (gx G (i + 2)) := qb_eq hI
  refine v_st (st2 := [.int (qBest C (gx G (i + 1)) (gx G (i + 2)))]) (by rw [e9]; rfl) ?_
  refine v_aload_n dL_law_700 rfl ?_
  refine v_aload_n dL_law_701 rfl ?_
  refine v_iload_n dL_law_702 rfl ?_
  refine v_iconst (v := nI 1) dL_law_703 (by decide) ?_
  refine n_iadd (x := i) (y := 1) dL_law_704 ?_
  refine v_xald (j := i + 1) dL_law_705 (by omega) hL9 ?_
  refine v_aload_n dL_law_706 rfl ?_
  refine v_iload_n dL_law_707 rfl ?_
  refine v_iconst (v := nI 2) dL_law_708 (by decide) ?_
  refine n_iadd (x := i) (y := 2) dL_law_709 ?_
  refine v_xald (j := i + 2) dL_law_710 (by omega) hL9 ?_
  refine v_callV (st := [.int (qBest C (gx G (i + 1)) (gx G (i + 2)))]) dL_law_711 (t_X7_bestAgain (f := gx G (i + 1)) (t := gx G (i + 2)) ho hv hK (by omega) hI) wL_85 ho rfl rfl ⟨Nat.le_of_ble_eq_true rfl, Nat.le_of_ble_eq_true rfl⟩ (Nat.le_of_ble_eq_true rfl) ⟨by omega, by omega⟩ (fun r n2 h2 hq => ?_)
  obtain ⟨rfl, hn9, hh9⟩ := hq; replace hh9 := hh9.symm; subst hh9
  replace hn9 := hn9.symm
  subst hn9
  refine v_st (st2 := [.int (qBest C (gx G (i + 1)) (gx G (i + 2))), .int (qBest C (gx G (i + 1)) (gx G (i + 2)))]) rfl ?_
  refine v_icmp_eq (tgt := 1097) dL_law_714 (by decide) (fun _ => ?_) (fun cc => absurd rfl cc)
  exact kk n h _ _ (by omega) (by omega) ⟨sv, rs, dt, C, T, Sn, TX, LN, wy, dtm, a1, a2, hun, ha12, kA0, kB0, kC0, kM0, kP0.up (by omega)⟩
set_option maxRecDepth 20000 in
set_option maxHeartbeats 4000000 in
theorem law_17 {nm : String} {l : Launch} {G : vG} {rc rs9 : Nat} {Fz : vFin} {u n : Nat} {h : AH} {b i cells slots : Nat} (hw : LX G u n h b) (hb1 : 200 ≤ b) (hb9 : b + 200000 ≤ 2 ^ 27) (hL9 : gA G 2 3 ≤ 2560) (hi9 : i + 4 < gA G 2 3) (hf : cells + 82 ≤ rc ∧ slots + 11644 ≤ rs9) (kk : ∀ (n2 : Nat) (h2 : AH) (c2 s2 : Nat), c2 ≤ cells + 82 → s2 ≤ slots + 11644 → LX G u n2 h2 (b + 100000) → V l G (mLn nm) rc rs9 Fz 1097 (wls G u i) [] n2 h2 c2 s2) : V l G (mLn nm) rc rs9 Fz 719 (wls G u i) [] n h cells slots := by
  obtain ⟨sv, rs, dt, C, T, Sn, TX, LN, wy, dtm, a1, a2, hun, ha12, kA0, kB0, kC0, kM0, kP0⟩ := hw
  have kA9 := kA0
  have kB9 := kB0
  have kC9 := kC0
  have kM9 := kM0
  have kP9 := kP0
  obtain ⟨hj, hc, ⟨B, hbe⟩, ⟨Tr, htr⟩, hsn, hh⟩ := kA9
  obtain ⟨han, ha, ⟨mm, mb, hcp, hb⟩, c0, p0, r0, L0, N0, hot, hL, hN⟩ := kB9
  obtain ⟨han2, ha2, mm2, mb2, hcp2, hb2⟩ := kC9
  obtain ⟨⟨hr, en, wg, dg, fl, ho⟩, hv, ⟨B7, hbe7⟩, hsd, ⟨K7, hkp7⟩, ⟨P7, hpa, hR9⟩, ⟨X, htx, hX⟩, Y, hli, hY⟩ := kM9
  obtain ⟨hI, hK, hIS, hKS, hTs, ht1, ht2, hsv, hts, hln, hrs⟩ := kP9
  refine v_ls (ls2 := [some (.ref (gA G 2 2)), some (.ref u), some (.ref (u + 250)), some (.int (nI i)), none, none, none, none]) rfl ?_
  refine v_aload_n dL_law_719 rfl ?_
  refine v_callV (st := []) dL_law_720 (t_X6_ends hj hc hK (by omega) hI.1) wL_86 hj rfl rfl ⟨Nat.le_of_ble_eq_true rfl, Nat.le_of_ble_eq_true rfl⟩ (Nat.le_of_ble_eq_true rfl) ⟨by omega, by omega⟩ (fun r n2 h2 hq => ?_)
  obtain ⟨rfl, hn9, hh9⟩ := hq; replace hh9 := hh9.symm; subst hh9
  replace hn9 := hn9.symm
  subst hn9
  refine v_st (st2 := [.int (oN (-1015) (endF C (C 0 1)))]) rfl ?_
  refine v_aload_n dL_law_723 rfl ?_
  refine v_callV (st := [.int (oN (-1015) (endF C (C 0 1)))]) dL_law_724 (t_X7_ends ho hv hK (by omega) hI) wL_89 ho rfl rfl ⟨Nat.le_of_ble_eq_true rfl, Nat.le_of_ble_eq_true rfl⟩ (Nat.le_of_ble_eq_true rfl) ⟨by omega, by omega⟩ (fun r n2 h2 hq => ?_)
  obtain ⟨rfl, hn9, hh9⟩ := hq; replace hh9 := hh9.symm; subst hh9
  replace hn9 := hn9.symm
  subst hn9
  refine v_st (st2 := [.int (oN (-1015) (endF C (C 0 1))), .int (oN (-1015) (endF C (C 0 1)))]) rfl ?_
  refine v_icmp_eq (tgt := 1097) dL_law_727 (by decide) (fun _ => ?_) (fun cc => absurd rfl cc)
  exact kk n h _ _ (by omega) (by omega) ⟨sv, rs, dt, C, T, Sn, TX, LN, wy, dtm, a1, a2, hun, ha12, kA0, kB0, kC0, kM0, kP0.up (by omega)⟩
set_option maxRecDepth 20000 in
set_option maxHeartbeats 4000000 in
theorem law_18 {nm : String} {l : Launch} {G : vG} {rc rs9 : Nat} {Fz : vFin} {u n : Nat} {h : AH} {b i cells slots : Nat} (hw : LX G u n h b) (hb1 : 200 ≤ b) (hb9 : b + 200000 ≤ 2 ^ 27) (hL9 : gA G 2 3 ≤ 2560) (hi9 : i + 4 < gA G 2 3) (hf : cells + 82 ≤ rc ∧ slots + 11644 ≤ rs9) (kk : ∀ (n2 : Nat) (h2 : AH) (c2 s2 : Nat), c2 ≤ cells + 82 → s2 ≤ slots + 11644 → LX G u n2 h2 (b + 100000) → V l G (mLn nm) rc rs9 Fz 1097 (wls G u i) [] n2 h2 c2 s2) : V l G (mLn nm) rc rs9 Fz 732 (wls G u i) [] n h cells slots := by
  obtain ⟨sv, rs, dt, C, T, Sn, TX, LN, wy, dtm, a1, a2, hun, ha12, kA0, kB0, kC0, kM0, kP0⟩ := hw
  have kA9 := kA0
  have kB9 := kB0
  have kC9 := kC0
  have kM9 := kM0
  have kP9 := kP0
  obtain ⟨hj, hc, ⟨B, hbe⟩, ⟨Tr, htr⟩, hsn, hh⟩ := kA9
  obtain ⟨han, ha, ⟨mm, mb, hcp, hb⟩, c0, p0, r0, L0, N0, hot, hL, hN⟩ := kB9
  obtain ⟨han2, ha2, mm2, mb2, hcp2, hb2⟩ := kC9
  obtain ⟨⟨hr, en, wg, dg, fl, ho⟩, hv, ⟨B7, hbe7⟩, hsd, ⟨K7, hkp7⟩, ⟨P7, hpa, hR9⟩, ⟨X, htx, hX⟩, Y, hli, hY⟩ := kM9
  obtain ⟨hI, hK, hIS, hKS, hTs, ht1, ht2, hsv, hts, hln, hrs⟩ := kP9
  refine v_ls (ls2 := [some (.ref (gA G 2 2)), some (.ref u), some (.ref (u + 250)), some (.int (nI i)), none, none, none, none]) rfl ?_
  refine v_aload_n dL_law_732 rfl ?_
  refine v_callV (st := []) dL_law_733 (t_X6_endsAgain hj hc hK (by omega) hI.1) wL_90 hj rfl rfl ⟨Nat.le_of_ble_eq_true rfl, Nat.le_of_ble_eq_true rfl⟩ (Nat.le_of_ble_eq_true rfl) ⟨by omega, by omega⟩ (fun r n2 h2 hq => ?_)
  obtain ⟨rfl, hn9, hh9⟩ := hq; replace hh9 := hh9.symm; subst hh9
  replace hn9 := hn9.symm
  subst hn9
  have e9 := ends_eq (C := C) hI.1.2.2.2.2.2.2.2.2.2.2
  refine v_st (st2 := [.int (oN (-1015) (endF C (C 0 1)))]) (by rw [e9]; rfl) ?_
  refine v_aload_n dL_law_736 rfl ?_
  refine v_callV (st := [.int (oN (-1015) (endF C (C 0 1)))]) dL_law_737 (t_X7_endsAgain ho hv hK (by omega) hI) wL_93 ho rfl rfl ⟨Nat.le_of_ble_eq_true rfl, Nat.le_of_ble_eq_true rfl⟩ (Nat.le_of_ble_eq_true rfl) ⟨by omega, by omega⟩ (fun r n2 h2 hq => ?_)
  obtain ⟨rfl, hn9, hh9⟩ := hq; replace hh9 := hh9.symm; subst hh9
  replace hn9 := hn9.symm
  subst hn9
  refine v_st (st2 := [.int (oN (-1015) (endF C (C 0 1))), .int (oN (-1015) (endF C (C 0 1)))]) rfl ?_
  refine v_icmp_eq (tgt := 1097) dL_law_740 (by decide) (fun _ => ?_) (fun cc => absurd rfl cc)
  exact kk n h _ _ (by omega) (by omega) ⟨sv, rs, dt, C, T, Sn, TX, LN, wy, dtm, a1, a2, hun, ha12, kA0, kB0, kC0, kM0, kP0.up (by omega)⟩
set_option maxRecDepth 20000 in
set_option maxHeartbeats 4000000 in
theorem law_19 {nm : String} {l : Launch} {G : vG} {rc rs9 : Nat} {Fz : vFin} {u n : Nat} {h : AH} {b i cells slots : Nat} (hw : LX G u n h b) (hb1 : 200 ≤ b) (hb9 : b + 200000 ≤ 2 ^ 27) (hL9 : gA G 2 3 ≤ 2560) (hi9 : i + 4 < gA G 2 3) (hf : cells + 82 ≤ rc ∧ slots + 11644 ≤ rs9) (kk : ∀ (n2 : Nat) (h2 : AH) (c2 s2 : Nat), c2 ≤ cells + 82 → s2 ≤ slots + 11644 → LX G u n2 h2 (b + 100000) → V l G (mLn nm) rc rs9 Fz 1097 (wls G u i) [] n2 h2 c2 s2) : V l G (mLn nm) rc rs9 Fz 745 (wls G u i) [] n h cells slots := by
  obtain ⟨sv, rs, dt, C, T, Sn, TX, LN, wy, dtm, a1, a2, hun, ha12, kA0, kB0, kC0, kM0, kP0⟩ := hw
  have kA9 := kA0
  have kB9 := kB0
  have kC9 := kC0
  have kM9 := kM0
  have kP9 := kP0
  obtain ⟨hj, hc, ⟨B, hbe⟩, ⟨Tr, htr⟩, hsn, hh⟩ := kA9
  obtain ⟨han, ha, ⟨mm, mb, hcp, hb⟩, c0, p0, r0, L0, N0, hot, hL, hN⟩ := kB9
  obtain ⟨han2, ha2, mm2, mb2, hcp2, hb2⟩ := kC9
  obtain ⟨⟨hr, en, wg, dg, fl, ho⟩, hv, ⟨B7, hbe7⟩, hsd, ⟨K7, hkp7⟩, ⟨P7, hpa, hR9⟩, ⟨X, htx, hX⟩, Y, hli, hY⟩ := kM9
  obtain ⟨hI, hK, hIS, hKS, hTs, ht1, ht2, hsv, hts, hln, hrs⟩ := kP9
  refine v_ls (ls2 := [some (.ref (gA G 2 2)), some (.ref u), some (.ref (u + 250)), some (.int (nI i)), none, none, none, none]) rfl ?_
  refine v_aload_n dL_law_745 rfl ?_
  refine v_callV (st := []) dL_law_746 (t_X6_forecast hj hc htr hK (by omega) hI) wL_94 hj rfl rfl ⟨Nat.le_of_ble_eq_true rfl, Nat.le_of_ble_eq_true rfl⟩ (Nat.le_of_ble_eq_true rfl) ⟨by omega, by omega⟩ (fun r n2 h2 hq => ?_)
  obtain ⟨rfl, hn9, htr1, hj1, fr1⟩ := hq
  replace hn9 := hn9.symm
  subst hn9
  refine v_st (st2 := [.int (nI (sm (fcast (C 0 2) C 2) 6) - nI (sm (C 2) 6))]) rfl ?_
  refine v_aload_n dL_law_749 rfl ?_
  have ho := (fr1 (u + 250) (by omega)).trans ho
  have hv := (fr1 (u + 250 + 1) (by omega)).trans hv
  have hbe7 := (fr1 (u + 250 + 2) (by omega)).trans hbe7
  have hsd := (fr1 (u + 250 + 3) (by omega)).trans hsd
  have hkp7 := (fr1 (u + 250 + 4) (by omega)).trans hkp7
  have hpa := (fr1 (u + 250 + 5) (by omega)).trans hpa
  have htx := (fr1 (u + 250 + 6) (by omega)).trans htx
  have hli := (fr1 (u + 250 + 7) (by omega)).trans hli
  refine v_callV (st := [.int (nI (sm (fcast (C 0 2) C 2) 6) - nI (sm (C 2) 6))]) dL_law_750 (t_X7_forecast ho hv hK (by omega) hI hb1 hkp7) wL_97 ho rfl rfl ⟨Nat.le_of_ble_eq_true rfl, Nat.le_of_ble_eq_true rfl⟩ (Nat.le_of_ble_eq_true rfl) ⟨by omega, by omega⟩ (fun r n2 h2 hq => ?_)
  obtain ⟨rfl, hn9, ho2, hv2, ⟨F2, hkp2⟩, fr2⟩ := hq
  replace hn9 := hn9.symm
  subst hn9
  refine v_st (st2 := [.int (nI (sm (fcast (C 0 2) C 2) 6) - nI (sm (C 2) 6)), .int (nI (sm (fcast (C 0 2) C 2) 6) - nI (sm (C 2) 6))]) rfl ?_
  refine v_icmp_eq (tgt := 1097) dL_law_753 (by decide) (fun _ => ?_) (fun cc => absurd rfl cc)
  refine kk n h2 _ _ (by omega) (by omega) ⟨sv, rs, dt, C, T, Sn, TX, LN, wy, dtm, a1, a2, hun, ha12, ?_, ?_, ?_, ?_, kP0.up (by omega)⟩
  · exact kA.fr ⟨hj1, ct_frP hc fr1 (fun q hq => by omega), ⟨B, ct_frP hbe fr1 (fun q hq => by omega)⟩, ⟨_, htr1⟩, ct_frP hsn fr1 (fun q hq => by omega), ht_fr hh (fun z z1 z2 => fr1 z (by omega))⟩ (fun z z1 z2 => fr2 z (by omega))
  · exact (kB0.fr (Nat.le_refl _) (fun z hz => (fr2 z (by omega)).trans (fr1 z (by omega))))
  · exact (kC0.fr (Nat.le_refl _) (fun z hz => (fr2 z (by omega)).trans (fr1 z (by omega))))
  · exact ⟨⟨_, _, _, _, _, ho2⟩, hv2, ⟨B7, (fr2 _ (by omega)).trans hbe7⟩, (fr2 _ (by omega)).trans hsd, ⟨F2, hkp2⟩, ⟨P7, (fr2 _ (by omega)).trans hpa, hR9⟩, ⟨X, (fr2 _ (by omega)).trans htx, hX⟩, Y, (fr2 _ (by omega)).trans hli, hY⟩
set_option maxRecDepth 20000 in
set_option maxHeartbeats 4000000 in
theorem law_20 {nm : String} {l : Launch} {G : vG} {rc rs9 : Nat} {Fz : vFin} {u n : Nat} {h : AH} {b i cells slots : Nat} (hw : LX G u n h b) (hb1 : 200 ≤ b) (hb9 : b + 200000 ≤ 2 ^ 27) (hL9 : gA G 2 3 ≤ 2560) (hi9 : i + 4 < gA G 2 3) (hf : cells + 82 ≤ rc ∧ slots + 11644 ≤ rs9) (kk : ∀ (n2 : Nat) (h2 : AH) (c2 s2 : Nat), c2 ≤ cells + 82 → s2 ≤ slots + 11644 → LX G u n2 h2 (b + 100000) → V l G (mLn nm) rc rs9 Fz 1097 (wls G u i) [] n2 h2 c2 s2) : V l G (mLn nm) rc rs9 Fz 758 (wls G u i) [] n h cells slots := by
  obtain ⟨sv, rs, dt, C, T, Sn, TX, LN, wy, dtm, a1, a2, hun, ha12, kA0, kB0, kC0, kM0, kP0⟩ := hw
  have kA9 := kA0
  have kB9 := kB0
  have kC9 := kC0
  have kM9 := kM0
  have kP9 := kP0
  obtain ⟨hj, hc, ⟨B, hbe⟩, ⟨Tr, htr⟩, hsn, hh⟩ := kA9
  obtain ⟨han, ha, ⟨mm, mb, hcp, hb⟩, c0, p0, r0, L0, N0, hot, hL, hN⟩ := kB9
  obtain ⟨han2, ha2, mm2, mb2, hcp2, hb2⟩ := kC9
  obtain ⟨⟨hr, en, wg, dg, fl, ho⟩, hv, ⟨B7, hbe7⟩, hsd, ⟨K7, hkp7⟩, ⟨P7, hpa, hR9⟩, ⟨X, htx, hX⟩, Y, hli, hY⟩ := kM9
  obtain ⟨hI, hK, hIS, hKS, hTs, ht1, ht2, hsv, hts, hln, hrs⟩ := kP9
  refine v_ls (ls2 := [some (.ref (gA G 2 2)), some (.ref u), some (.ref (u + 250)), some (.int (nI i)), none, none, none, none]) rfl ?_
  refine v_aload_n dL_law_758 rfl ?_
  refine v_aload_n dL_law_759 rfl ?_
  refine v_iload_n dL_law_760 rfl ?_
  refine v_iconst (v := nI 1) dL_law_761 (by decide) ?_
  refine n_iadd (x := i) (y := 1) dL_law_762 ?_
  refine v_xald (j := i + 1) dL_law_763 (by omega) hL9 ?_
  refine v_callV (st := []) dL_law_764 (t_X6_ranked (x := gx G (i + 1)) hj hc hK (by omega) hI.1) wL_98 hj rfl rfl ⟨Nat.le_of_ble_eq_true rfl, Nat.le_of_ble_eq_true rfl⟩ (Nat.le_of_ble_eq_true rfl) ⟨by omega, by omega⟩ (fun r n2 h2 hq => ?_)
  obtain ⟨rfl, hn9, hh9⟩ := hq; replace hh9 := hh9.symm; subst hh9
  replace hn9 := hn9.symm
  subst hn9
  refine v_st (st2 := [.int (oN (-1011) (fs (fun z => decide (nI (flN C z) = gx G (i + 1))) 0 (C 0 0)))]) rfl ?_
  refine v_aload_n dL_law_767 rfl ?_
  refine v_aload_n dL_law_768 rfl ?_
  refine v_iload_n dL_law_769 rfl ?_
  refine v_iconst (v := nI 1) dL_law_770 (by decide) ?_
  refine n_iadd (x := i) (y := 1) dL_law_771 ?_
  refine v_xald (j := i + 1) dL_law_772 (by omega) hL9 ?_
  refine v_callV (st := [.int (oN (-1011) (fs (fun z => decide (nI (flN C z) = gx G (i + 1))) 0 (C 0 0)))]) dL_law_773 (t_X7_ranked (x := gx G (i + 1)) ho hv hK (by omega) hI) wL_101 ho rfl rfl ⟨Nat.le_of_ble_eq_true rfl, Nat.le_of_ble_eq_true rfl⟩ (Nat.le_of_ble_eq_true rfl) ⟨by omega, by omega⟩ (fun r n2 h2 hq => ?_)
  obtain ⟨rfl, hn9, hh9⟩ := hq; replace hh9 := hh9.symm; subst hh9
  replace hn9 := hn9.symm
  subst hn9
  refine v_st (st2 := [.int (oN (-1011) (fs (fun z => decide (nI (flN C z) = gx G (i + 1))) 0 (C 0 0))), .int (oN (-1011) (fs (fun z => decide (nI (flN C z) = gx G (i + 1))) 0 (C 0 0)))]) rfl ?_
  refine v_icmp_eq (tgt := 1097) dL_law_776 (by decide) (fun _ => ?_) (fun cc => absurd rfl cc)
  exact kk n h _ _ (by omega) (by omega) ⟨sv, rs, dt, C, T, Sn, TX, LN, wy, dtm, a1, a2, hun, ha12, kA0, kB0, kC0, kM0, kP0.up (by omega)⟩
set_option maxRecDepth 20000 in
set_option maxHeartbeats 4000000 in
theorem law_21 {nm : String} {l : Launch} {G : vG} {rc rs9 : Nat} {Fz : vFin} {u n : Nat} {h : AH} {b i cells slots : Nat} (hw : LX G u n h b) (hb1 : 200 ≤ b) (hb9 : b + 200000 ≤ 2 ^ 27) (hL9 : gA G 2 3 ≤ 2560) (hi9 : i + 4 < gA G 2 3) (hf : cells + 82 ≤ rc ∧ slots + 11644 ≤ rs9) (kk : ∀ (n2 : Nat) (h2 : AH) (c2 s2 : Nat), c2 ≤ cells + 82 → s2 ≤ slots + 11644 → LX G u n2 h2 (b + 100000) → V l G (mLn nm) rc rs9 Fz 1097 (wls G u i) [] n2 h2 c2 s2) : V l G (mLn nm) rc rs9 Fz 781 (wls G u i) [] n h cells slots := by
  obtain ⟨sv, rs, dt, C, T, Sn, TX, LN, wy, dtm, a1, a2, hun, ha12, kA0, kB0, kC0, kM0, kP0⟩ := hw
  have kA9 := kA0
  have kB9 := kB0
  have kC9 := kC0
  have kM9 := kM0
  have kP9 := kP0
  obtain ⟨hj, hc, ⟨B, hbe⟩, ⟨Tr, htr⟩, hsn, hh⟩ := kA9
  obtain ⟨han, ha, ⟨mm, mb, hcp, hb⟩, c0, p0, r0, L0, N0, hot, hL, hN⟩ := kB9
  obtain ⟨han2, ha2, mm2, mb2, hcp2, hb2⟩ := kC9
  obtain ⟨⟨hr, en, wg, dg, fl, ho⟩, hv, ⟨B7, hbe7⟩, hsd, ⟨K7, hkp7⟩, ⟨P7, hpa, hR9⟩, ⟨X, htx, hX⟩, Y, hli, hY⟩ := kM9
  obtain ⟨hI, hK, hIS, hKS, hTs, ht1, ht2, hsv, hts, hln, hrs⟩ := kP9
  refine v_ls (ls2 := [some (.ref (gA G 2 2)), some (.ref u), some (.ref (u + 250)), some (.int (nI i)), none, none, none, none]) rfl ?_
  refine v_aload_n dL_law_781 rfl ?_
  refine v_aload_n dL_law_782 rfl ?_
  refine v_iload_n dL_law_783 rfl ?_
  refine v_iconst (v := nI 1) dL_law_784 (by decide) ?_
  refine n_iadd (x := i) (y := 1) dL_law_785 ?_
  refine v_xald (j := i + 1) dL_law_786 (by omega) hL9 ?_
  refine v_callV (st := []) dL_law_787 (t_X6_stalest (x := gx G (i + 1)) hj hc hK (by omega) hI.1) wL_102 hj rfl rfl ⟨Nat.le_of_ble_eq_true rfl, Nat.le_of_ble_eq_true rfl⟩ (Nat.le_of_ble_eq_true rfl) ⟨by omega, by omega⟩ (fun r n2 h2 hq => ?_)
  obtain ⟨rfl, hn9, hh9⟩ := hq; replace hh9 := hh9.symm; subst hh9
  replace hn9 := hn9.symm
  subst hn9
  refine v_st (st2 := [.int (oN (-1011) (fs (fun z => decide (nI (jkN C z) = gx G (i + 1))) 0 (C 0 1)))]) rfl ?_
  refine v_aload_n dL_law_790 rfl ?_
  refine v_aload_n dL_law_791 rfl ?_
  refine v_iload_n dL_law_792 rfl ?_
  refine v_iconst (v := nI 1) dL_law_793 (by decide) ?_
  refine n_iadd (x := i) (y := 1) dL_law_794 ?_
  refine v_xald (j := i + 1) dL_law_795 (by omega) hL9 ?_
  refine v_callV (st := [.int (oN (-1011) (fs (fun z => decide (nI (jkN C z) = gx G (i + 1))) 0 (C 0 1)))]) dL_law_796 (t_X7_stalest (x := gx G (i + 1)) ho hv hK (by omega) hI) wL_105 ho rfl rfl ⟨Nat.le_of_ble_eq_true rfl, Nat.le_of_ble_eq_true rfl⟩ (Nat.le_of_ble_eq_true rfl) ⟨by omega, by omega⟩ (fun r n2 h2 hq => ?_)
  obtain ⟨rfl, hn9, hh9⟩ := hq; replace hh9 := hh9.symm; subst hh9
  replace hn9 := hn9.symm
  subst hn9
  refine v_st (st2 := [.int (oN (-1011) (fs (fun z => decide (nI (jkN C z) = gx G (i + 1))) 0 (C 0 1))), .int (oN (-1011) (fs (fun z => decide (nI (jkN C z) = gx G (i + 1))) 0 (C 0 1)))]) rfl ?_
  refine v_icmp_eq (tgt := 1097) dL_law_799 (by decide) (fun _ => ?_) (fun cc => absurd rfl cc)
  exact kk n h _ _ (by omega) (by omega) ⟨sv, rs, dt, C, T, Sn, TX, LN, wy, dtm, a1, a2, hun, ha12, kA0, kB0, kC0, kM0, kP0.up (by omega)⟩
set_option maxRecDepth 20000 in
set_option maxHeartbeats 4000000 in
theorem law_22 {nm : String} {l : Launch} {G : vG} {rc rs9 : Nat} {Fz : vFin} {u n : Nat} {h : AH} {b i cells slots : Nat} (hw : LX G u n h b) (hb1 : 200 ≤ b) (hb9 : b + 200000 ≤ 2 ^ 27) (hL9 : gA G 2 3 ≤ 2560) (hi9 : i + 4 < gA G 2 3) (hf : cells + 82 ≤ rc ∧ slots + 11644 ≤ rs9) (kk : ∀ (n2 : Nat) (h2 : AH) (c2 s2 : Nat), c2 ≤ cells + 82 → s2 ≤ slots + 11644 → LX G u n2 h2 (b + 100000) → V l G (mLn nm) rc rs9 Fz 1097 (wls G u i) [] n2 h2 c2 s2) : V l G (mLn nm) rc rs9 Fz 804 (wls G u i) [] n h cells slots := by
  obtain ⟨sv, rs, dt, C, T, Sn, TX, LN, wy, dtm, a1, a2, hun, ha12, kA0, kB0, kC0, kM0, kP0⟩ := hw
  have kA9 := kA0
  have kB9 := kB0
  have kC9 := kC0
  have kM9 := kM0
  have kP9 := kP0
  obtain ⟨hj, hc, ⟨B, hbe⟩, ⟨Tr, htr⟩, hsn, hh⟩ := kA9
  obtain ⟨han, ha, ⟨mm, mb, hcp, hb⟩, c0, p0, r0, L0, N0, hot, hL, hN⟩ := kB9
  obtain ⟨han2, ha2, mm2, mb2, hcp2, hb2⟩ := kC9
  obtain ⟨⟨hr, en, wg, dg, fl, ho⟩, hv, ⟨B7, hbe7⟩, hsd, ⟨K7, hkp7⟩, ⟨P7, hpa, hR9⟩, ⟨X, htx, hX⟩, Y, hli, hY⟩ := kM9
  obtain ⟨hI, hK, hIS, hKS, hTs, ht1, ht2, hsv, hts, hln, hrs⟩ := kP9
  refine v_ls (ls2 := [some (.ref (gA G 2 2)), some (.ref u), some (.ref (u + 250)), some (.int (nI i)), none, none, none, none]) rfl ?_
  refine v_aload_n dL_law_804 rfl ?_
  refine v_aload_n dL_law_805 rfl ?_
  refine v_iload_n dL_law_806 rfl ?_
  refine v_iconst (v := nI 1) dL_law_807 (by decide) ?_
  refine n_iadd (x := i) (y := 1) dL_law_808 ?_
  refine v_xald (j := i + 1) dL_law_809 (by omega) hL9 ?_
  refine v_callV (st := []) dL_law_810 (t_X6_append (x := gx G (i + 1)) hj hb hcp ha han hun hot hts.1) wL_106 hj rfl rfl ⟨Nat.le_of_ble_eq_true rfl, Nat.le_of_ble_eq_true rfl⟩ (Nat.le_of_ble_eq_true rfl) ⟨by omega, by omega⟩ (fun r n2 h2 hq => ?_)
  obtain ⟨rfl, a3, m3, mb3, hn3, hb3, hcp3, ha3, han3, hj1, hot1, fr1⟩ := hq
  refine v_st (st2 := [.int (apR TX (gx G (i + 1)))]) rfl ?_
  refine v_aload_n dL_law_813 rfl ?_
  have ho := (fr1 (u + 250) (by omega)).trans ho
  have hv := (fr1 (u + 250 + 1) (by omega)).trans hv
  have hbe7 := (fr1 (u + 250 + 2) (by omega)).trans hbe7
  have hsd := (fr1 (u + 250 + 3) (by omega)).trans hsd
  have hkp7 := (fr1 (u + 250 + 4) (by omega)).trans hkp7
  have hpa := (fr1 (u + 250 + 5) (by omega)).trans hpa
  have htx := (fr1 (u + 250 + 6) (by omega)).trans htx
  have hli := (fr1 (u + 250 + 7) (by omega)).trans hli
  refine v_aload_n dL_law_814 rfl ?_
  refine v_iload_n dL_law_815 rfl ?_
  refine v_iconst (v := nI 1) dL_law_816 (by decide) ?_
  refine n_iadd (x := i) (y := 1) dL_law_817 ?_
  refine v_xald (j := i + 1) dL_law_818 (by omega) hL9 ?_
  refine v_callV (st := [.int (apR TX (gx G (i + 1)))]) dL_law_819 (t_X7_append (x := gx G (i + 1)) ho htx hX hts.1) wL_109 ho rfl rfl ⟨Nat.le_of_ble_eq_true rfl, Nat.le_of_ble_eq_true rfl⟩ (Nat.le_of_ble_eq_true rfl) ⟨by omega, by omega⟩ (fun r n2 h2 hq => ?_)
  obtain ⟨rfl, hn9, ho2, ⟨X2, htx2, hX2⟩, fr2⟩ := hq
  subst hn9
  refine v_st (st2 := [.int (apR TX (gx G (i + 1))), .int (apR TX (gx G (i + 1)))]) rfl ?_
  refine v_icmp_eq (tgt := 1097) dL_law_822 (by decide) (fun _ => ?_) (fun cc => absurd rfl cc)
  refine kk _ _ _ _ (by omega) (by omega) ⟨sv, rs, dt, C, T, Sn, apL TX (gx G (i + 1)), LN, wy, dtm, a3, a2, by omega, by omega, ?_, ?_, ?_, ?_, (kP0.tx (tsg_ap hts)).up (by omega)⟩
  · exact kA0.fr (fun z z1 z2 => (fr2 z (by omega)).trans (fr1 z (by omega)))
  · exact (kB.fr (n := _) ⟨han3, by omega, ⟨m3, mb3, hcp3, hb3⟩, c0, p0, r0, L0, N0, hot1, (fr1 _ (by omega)).trans hL, (fr1 _ (by omega)).trans hN⟩ (Nat.le_refl _) (fun z hz => fr2 z (by omega)))
  · exact (kC0.fr hn3 (fun z hz => (fr2 z (by omega)).trans (fr1 z (by omega))))
  · exact ⟨⟨_, _, _, _, _, ho2⟩, (fr2 _ (by omega)).trans hv, ⟨B7, (fr2 _ (by omega)).trans hbe7⟩, (fr2 _ (by omega)).trans hsd, ⟨K7, (fr2 _ (by omega)).trans hkp7⟩, ⟨P7, (fr2 _ (by omega)).trans hpa, hR9⟩, ⟨X2, htx2, hX2⟩, Y, (fr2 _ (by omega)).trans hli, hY⟩
set_option maxRecDepth 20000 in
set_option maxHeartbeats 4000000 in
theorem law_23 {nm : String} {l : Launch} {G : vG} {rc rs9 : Nat} {Fz : vFin} {u n : Nat} {h : AH} {b i cells slots : Nat} (hw : LX G u n h b) (hb1 : 200 ≤ b) (hb9 : b + 200000 ≤ 2 ^ 27) (hL9 : gA G 2 3 ≤ 2560) (hi9 : i + 4 < gA G 2 3) (hf : cells + 82 ≤ rc ∧ slots + 11644 ≤ rs9) (kk : ∀ (n2 : Nat) (h2 : AH) (c2 s2 : Nat), c2 ≤ cells + 82 → s2 ≤ slots + 11644 → LX G u n2 h2 (b + 100000) → V l G (mLn nm) rc rs9 Fz 1097 (wls G u i) [] n2 h2 c2 s2) : V l G (mLn nm) rc rs9 Fz 827 (wls G u i) [] n h cells slots := by
  obtain ⟨sv, rs, dt, C, T, Sn, TX, LN, wy, dtm, a1, a2, hun, ha12, kA0, kB0, kC0, kM0, kP0⟩ := hw
  have kA9 := kA0
  have kB9 := kB0
  have kC9 := kC0
  have kM9 := kM0
  have kP9 := kP0
  obtain ⟨hj, hc, ⟨B, hbe⟩, ⟨Tr, htr⟩, hsn, hh⟩ := kA9
  obtain ⟨han, ha, ⟨mm, mb, hcp, hb⟩, c0, p0, r0, L0, N0, hot, hL, hN⟩ := kB9
  obtain ⟨han2, ha2, mm2, mb2, hcp2, hb2⟩ := kC9
  obtain ⟨⟨hr, en, wg, dg, fl, ho⟩, hv, ⟨B7, hbe7⟩, hsd, ⟨K7, hkp7⟩, ⟨P7, hpa, hR9⟩, ⟨X, htx, hX⟩, Y, hli, hY⟩ := kM9
  obtain ⟨hI, hK, hIS, hKS, hTs, ht1, ht2, hsv, hts, hln, hrs⟩ := kP9
  refine v_ls (ls2 := [some (.ref (gA G 2 2)), some (.ref u), some (.ref (u + 250)), some (.int (nI i)), none, none, none, none]) rfl ?_
  refine v_aload_n dL_law_827 rfl ?_
  refine v_callV (st := []) dL_law_828 (t_X6_run hj hc hbe hh hK hb1 (by omega) hI hot hb hcp ha han hun hts hL hN) wL_110 hj rfl rfl ⟨Nat.le_of_ble_eq_true rfl, Nat.le_of_ble_eq_true rfl⟩ (Nat.le_of_ble_eq_true rfl) ⟨by omega, by omega⟩ (fun r n2 h2 hq => ?_)
  obtain ⟨rfl, hn9, hc1, hbe1, hj1, hh1, ⟨c3, p3, r3, L3, N3, hot3, hL3, hN3⟩, ⟨mb3, hb3⟩, fr1⟩ := hq
  replace hn9 := hn9.symm
  subst hn9
  refine v_st (st2 := [.int (dRun (txt TX.1 TX.2) TX.2 C).1]) rfl ?_
  refine v_aload_n dL_law_831 rfl ?_
  have ho := (fr1 (u + 250) (by omega)).trans ho
  have hv := (fr1 (u + 250 + 1) (by omega)).trans hv
  have hbe7 := (fr1 (u + 250 + 2) (by omega)).trans hbe7
  have hsd := (fr1 (u + 250 + 3) (by omega)).trans hsd
  have hkp7 := (fr1 (u + 250 + 4) (by omega)).trans hkp7
  have hpa := (fr1 (u + 250 + 5) (by omega)).trans hpa
  have htx := (fr1 (u + 250 + 6) (by omega)).trans htx
  have hli := (fr1 (u + 250 + 7) (by omega)).trans hli
  refine v_callV (st := [.int (dRun (txt TX.1 TX.2) TX.2 C).1]) dL_law_832 (t_X7_run ho hv hbe7 hpa htx hX hts hK hb1 (by omega) hI hR9 ht1 ht2) wL_113 ho rfl rfl ⟨Nat.le_of_ble_eq_true rfl, Nat.le_of_ble_eq_true rfl⟩ (Nat.le_of_ble_eq_true rfl) ⟨by omega, by omega⟩ (fun r n2 h2 hq => ?_)
  obtain ⟨rfl, hn9, ⟨hr3, en3, wg3, dg3, fl3, ho2⟩, hv2, ⟨B2, hbe2⟩, ⟨P2, hpa2, hR2⟩, fr2⟩ := hq
  replace hn9 := hn9.symm
  subst hn9
  refine v_st (st2 := [.int (dRun (txt TX.1 TX.2) TX.2 C).1, .int (dRun (txt TX.1 TX.2) TX.2 C).1]) rfl ?_
  refine v_icmp_eq (tgt := 1097) dL_law_835 (by decide) (fun _ => ?_) (fun cc => absurd rfl cc)
  have g9 : gsr b (dRun (txt TX.1 TX.2) TX.2 C) := gsr_run hI hK hb1 (rdO_le 30 0 (Nat.zero_le _)).2
  refine kk n h2 _ _ (by omega) (by omega) ⟨sv, rf1 (dRun (txt TX.1 TX.2) TX.2 C).2.2 rs, rf2 (dRun (txt TX.1 TX.2) TX.2 C).2.2 dt, (dRun (txt TX.1 TX.2) TX.2 C).2.1, hkp (dRun (txt TX.1 TX.2) TX.2 C).1 C T, Sn, (TX.1, 0), LN, rf1 (dRun (txt TX.1 TX.2) TX.2 C).2.2 wy, rf2 (dRun (txt TX.1 TX.2) TX.2 C).2.2 dtm, a1, a2, hun, ha12, ?_, ?_, ?_, ?_, ?_⟩
  · exact kA.fr ⟨hj1, hc1, ⟨_, hbe1⟩, ⟨Tr, ct_frP htr fr1 (fun q hq => by omega)⟩, ct_frP hsn fr1 (fun q hq => by omega), hh1⟩ (fun z z1 z2 => fr2 z (by omega))
  · exact (kB.fr (n := n) ⟨han, ha, ⟨mm, mb3, hcp, hb3⟩, c3, p3, r3, L3, N3, hot3, hL3, hN3⟩ (Nat.le_refl _) (fun z hz => fr2 z (by omega)))
  · exact (kC0.fr (Nat.le_refl _) (fun z hz => (fr2 z (by omega)).trans (fr1 z (by omega))))
  · exact ⟨⟨_, _, _, _, _, ho2⟩, hv2, ⟨_, hbe2⟩, (fr2 _ (by omega)).trans hsd, ⟨K7, (fr2 _ (by omega)).trans hkp7⟩, ⟨P2, hpa2, hR2⟩, ⟨X, (fr2 _ (by omega)).trans htx, fun z hz => absurd hz (Nat.not_lt_zero z)⟩, Y, (fr2 _ (by omega)).trans hli, hY⟩
  · exact (kP_R (R := (dRun (txt TX.1 TX.2) TX.2 C)) kP0 g9 rz_dRun).tx tsg_0
set_option maxRecDepth 20000 in
set_option maxHeartbeats 4000000 in
theorem law_24 {nm : String} {l : Launch} {G : vG} {rc rs9 : Nat} {Fz : vFin} {u n : Nat} {h : AH} {b i cells slots : Nat} (hw : LX G u n h b) (hb1 : 200 ≤ b) (hb9 : b + 200000 ≤ 2 ^ 27) (hL9 : gA G 2 3 ≤ 2560) (hi9 : i + 4 < gA G 2 3) (hf : cells + 82 ≤ rc ∧ slots + 11644 ≤ rs9) (kk : ∀ (n2 : Nat) (h2 : AH) (c2 s2 : Nat), c2 ≤ cells + 82 → s2 ≤ slots + 11644 → LX G u n2 h2 (b + 100000) → V l G (mLn nm) rc rs9 Fz 1097 (wls G u i) [] n2 h2 c2 s2) : V l G (mLn nm) rc rs9 Fz 840 (wls G u i) [] n h cells slots := by
  obtain ⟨sv, rs, dt, C, T, Sn, TX, LN, wy, dtm, a1, a2, hun, ha12, kA0, kB0, kC0, kM0, kP0⟩ := hw
  have kA9 := kA0
  have kB9 := kB0
  have kC9 := kC0
  have kM9 := kM0
  have kP9 := kP0
  obtain ⟨hj, hc, ⟨B, hbe⟩, ⟨Tr, htr⟩, hsn, hh⟩ := kA9
  obtain ⟨han, ha, ⟨mm, mb, hcp, hb⟩, c0, p0, r0, L0, N0, hot, hL, hN⟩ := kB9
  obtain ⟨han2, ha2, mm2, mb2, hcp2, hb2⟩ := kC9
  obtain ⟨⟨hr, en, wg, dg, fl, ho⟩, hv, ⟨B7, hbe7⟩, hsd, ⟨K7, hkp7⟩, ⟨P7, hpa, hR9⟩, ⟨X, htx, hX⟩, Y, hli, hY⟩ := kM9
  obtain ⟨hI, hK, hIS, hKS, hTs, ht1, ht2, hsv, hts, hln, hrs⟩ := kP9
  refine v_ls (ls2 := [some (.ref (gA G 2 2)), some (.ref u), some (.ref (u + 250)), some (.int (nI i)), none, none, none, none]) rfl ?_
  refine v_aload_n dL_law_840 rfl ?_
  refine v_aload_n dL_law_841 rfl ?_
  refine v_iload_n dL_law_842 rfl ?_
  refine v_iconst (v := nI 1) dL_law_843 (by decide) ?_
  refine n_iadd (x := i) (y := 1) dL_law_844 ?_
  refine v_xald (j := i + 1) dL_law_845 (by omega) hL9 ?_
  refine v_callV (st := []) dL_law_846 (t_X6_tell (f := gx G (i + 1)) hj hb2 hcp2 ha2 han2 hun hc hK (by omega) hI.1 (Nat.le_trans hln.1 (by decide))) wL_114 hj rfl rfl ⟨Nat.le_of_ble_eq_true rfl, Nat.le_of_ble_eq_true rfl⟩ (Nat.le_of_ble_eq_true rfl) ⟨by omega, by omega⟩ (fun r n2 h2 hq => ?_)
  obtain ⟨rfl, a3, m3, mb3, hn3, hb3, hcp3, ha3, han3, hj1, fr1⟩ := hq
  refine v_st (st2 := [.int (if ixb (gx G (i + 1)) (C 0 0) = true then nI (tellL C (gx G (i + 1)).toNatClampNeg (LN.1, 0)).2 else -1011)]) rfl ?_
  refine v_aload_n dL_law_849 rfl ?_
  have ho := (fr1 (u + 250) (by omega)).trans ho
  have hv := (fr1 (u + 250 + 1) (by omega)).trans hv
  have hbe7 := (fr1 (u + 250 + 2) (by omega)).trans hbe7
  have hsd := (fr1 (u + 250 + 3) (by omega)).trans hsd
  have hkp7 := (fr1 (u + 250 + 4) (by omega)).trans hkp7
  have hpa := (fr1 (u + 250 + 5) (by omega)).trans hpa
  have htx := (fr1 (u + 250 + 6) (by omega)).trans htx
  have hli := (fr1 (u + 250 + 7) (by omega)).trans hli
  refine v_aload_n dL_law_850 rfl ?_
  refine v_iload_n dL_law_851 rfl ?_
  refine v_iconst (v := nI 1) dL_law_852 (by decide) ?_
  refine n_iadd (x := i) (y := 1) dL_law_853 ?_
  refine v_xald (j := i + 1) dL_law_854 (by omega) hL9 ?_
  refine v_callV (st := [.int (if ixb (gx G (i + 1)) (C 0 0) = true then nI (tellL C (gx G (i + 1)).toNatClampNeg (LN.1, 0)).2 else -1011)]) dL_law_855 (t_X7_tell (f := gx G (i + 1)) (T0 := LN.1) ho hv hli hK (by omega) hI) wL_117 ho rfl rfl ⟨Nat.le_of_ble_eq_true rfl, Nat.le_of_ble_eq_true rfl⟩ (Nat.le_of_ble_eq_true rfl) ⟨by omega, by omega⟩ (fun r n2 h2 hq => ?_)
  obtain ⟨rfl, hn9, ⟨l2, Y2, ho2, hli2, hq2⟩, fr2⟩ := hq
  subst hn9
  refine v_st (st2 := [.int (if ixb (gx G (i + 1)) (C 0 0) = true then nI (tellL C (gx G (i + 1)).toNatClampNeg (LN.1, 0)).2 else -1011), .int (if ixb (gx G (i + 1)) (C 0 0) = true then nI (tellL C (gx G (i + 1)).toNatClampNeg (LN.1, 0)).2 else -1011)]) rfl ?_
  refine v_icmp_eq (tgt := 1097) dL_law_858 (by decide) (fun _ => ?_) (fun cc => absurd rfl cc)
  obtain ⟨LN2, hLN2⟩ : ∃ z : Ln, z = (if ixb (gx G (i + 1)) (C 0 0) = true then tellL C (gx G (i + 1)).toNatClampNeg (LN.1, 0) else LN) := ⟨_, rfl⟩
  rw [← hLN2] at hb3
  have hg2 : lng 120 LN2 ∧ l2 = LN2.2 ∧ lrel Y2 LN2 := by
    by_cases q : ixb (gx G (i + 1)) (C 0 0) = true
    · rw [hLN2, if_pos q]
      exact ⟨lng_tell hK (by omega) hI.1 (cl_ix q (by have := hI.1.1; omega)), hq2.1 q⟩
    · rw [hLN2, if_neg q]
      obtain ⟨e1, e2⟩ := hq2.2 q
      exact ⟨hln, e1, by rw [e2]; exact hY⟩
  obtain ⟨hg3, rfl, hrl⟩ := hg2
  refine kk _ _ _ _ (by omega) (by omega) ⟨sv, rs, dt, C, T, Sn, TX, LN2, wy, dtm, a1, a3, by omega, by omega, ?_, ?_, ?_, ?_, (kP0.ln hg3).up (by omega)⟩
  · exact kA0.fr (fun z z1 z2 => (fr2 z (by omega)).trans (fr1 z (by omega)))
  · exact (kB0.fr hn3 (fun z hz => (fr2 z (by omega)).trans (fr1 z (by omega))))
  · exact (kC.fr (n := _) ⟨han3, by omega, m3, mb3, hcp3, hb3⟩ (Nat.le_refl _) (fun z hz => fr2 z (by omega)))
  · exact ⟨⟨_, _, _, _, _, ho2⟩, (fr2 _ (by omega)).trans hv, ⟨B7, (fr2 _ (by omega)).trans hbe7⟩, (fr2 _ (by omega)).trans hsd, ⟨K7, (fr2 _ (by omega)).trans hkp7⟩, ⟨P7, (fr2 _ (by omega)).trans hpa, hR9⟩, ⟨X, (fr2 _ (by omega)).trans htx, hX⟩, Y2, hli2, hrl⟩
set_option maxRecDepth 20000 in
set_option maxHeartbeats 4000000 in
theorem law_25 {nm : String} {l : Launch} {G : vG} {rc rs9 : Nat} {Fz : vFin} {u n : Nat} {h : AH} {b i cells slots : Nat} (hw : LX G u n h b) (hb1 : 200 ≤ b) (hb9 : b + 200000 ≤ 2 ^ 27) (hL9 : gA G 2 3 ≤ 2560) (hi9 : i + 4 < gA G 2 3) (hf : cells + 82 ≤ rc ∧ slots + 11644 ≤ rs9) (kk : ∀ (n2 : Nat) (h2 : AH) (c2 s2 : Nat), c2 ≤ cells + 82 → s2 ≤ slots + 11644 → LX G u n2 h2 (b + 100000) → V l G (mLn nm) rc rs9 Fz 1097 (wls G u i) [] n2 h2 c2 s2) : V l G (mLn nm) rc rs9 Fz 863 (wls G u i) [] n h cells slots := by
  obtain ⟨sv, rs, dt, C, T, Sn, TX, LN, wy, dtm, a1, a2, hun, ha12, kA0, kB0, kC0, kM0, kP0⟩ := hw
  have kA9 := kA0
  have kB9 := kB0
  have kC9 := kC0
  have kM9 := kM0
  have kP9 := kP0
  obtain ⟨hj, hc, ⟨B, hbe⟩, ⟨Tr, htr⟩, hsn, hh⟩ := kA9
  obtain ⟨han, ha, ⟨mm, mb, hcp, hb⟩, c0, p0, r0, L0, N0, hot, hL, hN⟩ := kB9
  obtain ⟨han2, ha2, mm2, mb2, hcp2, hb2⟩ := kC9
  obtain ⟨⟨hr, en, wg, dg, fl, ho⟩, hv, ⟨B7, hbe7⟩, hsd, ⟨K7, hkp7⟩, ⟨P7, hpa, hR9⟩, ⟨X, htx, hX⟩, Y, hli, hY⟩ := kM9
  obtain ⟨hI, hK, hIS, hKS, hTs, ht1, ht2, hsv, hts, hln, hrs⟩ := kP9
  refine v_ls (ls2 := [some (.ref (gA G 2 2)), some (.ref u), some (.ref (u + 250)), some (.int (nI i)), none, none, none, none]) rfl ?_
  refine v_aload_n dL_law_863 rfl ?_
  refine v_callV (st := []) dL_law_864 (t_X6_tellBookings hj hb2 hcp2 ha2 han2 hun hc hK (by omega) hI.1) wL_118 hj rfl rfl ⟨Nat.le_of_ble_eq_true rfl, Nat.le_of_ble_eq_true rfl⟩ (Nat.le_of_ble_eq_true rfl) ⟨by omega, by omega⟩ (fun r n2 h2 hq => ?_)
  obtain ⟨rfl, a3, m3, mb3, hn3, hb3, hcp3, ha3, han3, hj1, fr1⟩ := hq
  refine v_st (st2 := [.int (nI (bkL C (LN.1, 0) (C 0 2)).2)]) rfl ?_
  refine v_aload_n dL_law_867 rfl ?_
  have ho := (fr1 (u + 250) (by omega)).trans ho
  have hv := (fr1 (u + 250 + 1) (by omega)).trans hv
  have hbe7 := (fr1 (u + 250 + 2) (by omega)).trans hbe7
  have hsd := (fr1 (u + 250 + 3) (by omega)).trans hsd
  have hkp7 := (fr1 (u + 250 + 4) (by omega)).trans hkp7
  have hpa := (fr1 (u + 250 + 5) (by omega)).trans hpa
  have htx := (fr1 (u + 250 + 6) (by omega)).trans htx
  have hli := (fr1 (u + 250 + 7) (by omega)).trans hli
  refine v_callV (st := [.int (nI (bkL C (LN.1, 0) (C 0 2)).2)]) dL_law_868 (t_X7_tellBookings (T0 := LN.1) ho hv hli hK (by omega) hI) wL_121 ho rfl rfl ⟨Nat.le_of_ble_eq_true rfl, Nat.le_of_ble_eq_true rfl⟩ (Nat.le_of_ble_eq_true rfl) ⟨by omega, by omega⟩ (fun r n2 h2 hq => ?_)
  obtain ⟨rfl, hn9, ho2, ⟨Y2, hli2, hrl⟩, fr2⟩ := hq
  subst hn9
  refine v_st (st2 := [.int (nI (bkL C (LN.1, 0) (C 0 2)).2), .int (nI (bkL C (LN.1, 0) (C 0 2)).2)]) rfl ?_
  refine v_icmp_eq (tgt := 1097) dL_law_871 (by decide) (fun _ => ?_) (fun cc => absurd rfl cc)
  have hg3 : lng 120 (bkL C (LN.1, 0) (C 0 2)) := lng_le (lng_bk hI.1 (C 0 2) (Nat.le_refl _)) (by have := hI.1.2.2.1; omega)
  refine kk _ _ _ _ (by omega) (by omega) ⟨sv, rs, dt, C, T, Sn, TX, (bkL C (LN.1, 0) (C 0 2)), wy, dtm, a1, a3, by omega, by omega, ?_, ?_, ?_, ?_, (kP0.ln hg3).up (by omega)⟩
  · exact kA0.fr (fun z z1 z2 => (fr2 z (by omega)).trans (fr1 z (by omega)))
  · exact (kB0.fr hn3 (fun z hz => (fr2 z (by omega)).trans (fr1 z (by omega))))
  · exact (kC.fr (n := _) ⟨han3, by omega, m3, mb3, hcp3, hb3⟩ (Nat.le_refl _) (fun z hz => fr2 z (by omega)))
  · exact ⟨⟨_, _, _, _, _, ho2⟩, (fr2 _ (by omega)).trans hv, ⟨B7, (fr2 _ (by omega)).trans hbe7⟩, (fr2 _ (by omega)).trans hsd, ⟨K7, (fr2 _ (by omega)).trans hkp7⟩, ⟨P7, (fr2 _ (by omega)).trans hpa, hR9⟩, ⟨X, (fr2 _ (by omega)).trans htx, hX⟩, Y2, hli2, hrl⟩
set_option maxRecDepth 20000 in
set_option maxHeartbeats 4000000 in
theorem law_26 {nm : String} {l : Launch} {G : vG} {rc rs9 : Nat} {Fz : vFin} {u n : Nat} {h : AH} {b i cells slots : Nat} (hw : LX G u n h b) (hb1 : 200 ≤ b) (hb9 : b + 200000 ≤ 2 ^ 27) (hL9 : gA G 2 3 ≤ 2560) (hi9 : i + 4 < gA G 2 3) (hf : cells + 82 ≤ rc ∧ slots + 11644 ≤ rs9) (kk : ∀ (n2 : Nat) (h2 : AH) (c2 s2 : Nat), c2 ≤ cells + 82 → s2 ≤ slots + 11644 → LX G u n2 h2 (b + 100000) → V l G (mLn nm) rc rs9 Fz 1097 (wls G u i) [] n2 h2 c2 s2) : V l G (mLn nm) rc rs9 Fz 876 (wls G u i) [] n h cells slots := by
  obtain ⟨sv, rs, dt, C, T, Sn, TX, LN, wy, dtm, a1, a2, hun, ha12, kA0, kB0, kC0, kM0, kP0⟩ := hw
  have kA9 := kA0
  have kB9 := kB0
  have kC9 := kC0
  have kM9 := kM0
  have kP9 := kP0
  obtain ⟨hj, hc, ⟨B, hbe⟩, ⟨Tr, htr⟩, hsn, hh⟩ := kA9
  obtain ⟨han, ha, ⟨mm, mb, hcp, hb⟩, c0, p0, r0, L0, N0, hot, hL, hN⟩ := kB9
  obtain ⟨han2, ha2, mm2, mb2, hcp2, hb2⟩ := kC9
  obtain ⟨⟨hr, en, wg, dg, fl, ho⟩, hv, ⟨B7, hbe7⟩, hsd, ⟨K7, hkp7⟩, ⟨P7, hpa, hR9⟩, ⟨X, htx, hX⟩, Y, hli, hY⟩ := kM9
  obtain ⟨hI, hK, hIS, hKS, hTs, ht1, ht2, hsv, hts, hln, hrs⟩ := kP9
  refine v_ls (ls2 := [some (.ref (gA G 2 2)), some (.ref u), some (.ref (u + 250)), some (.int (nI i)), none, none, none, none]) rfl ?_
  refine v_aload_n dL_law_876 rfl ?_
  refine v_aload_n dL_law_877 rfl ?_
  refine v_iload_n dL_law_878 rfl ?_
  refine v_iconst (v := nI 1) dL_law_879 (by decide) ?_
  refine n_iadd (x := i) (y := 1) dL_law_880 ?_
  refine v_xald (j := i + 1) dL_law_881 (by omega) hL9 ?_
  refine v_callV (st := []) dL_law_882 (t_X6_character (x := gx G (i + 1)) hj hb2 hcp2 ha2 han2 hun hln.2) wL_122 hj rfl rfl ⟨Nat.le_of_ble_eq_true rfl, Nat.le_of_ble_eq_true rfl⟩ (Nat.le_of_ble_eq_true rfl) ⟨by omega, by omega⟩ (fun r n2 h2 hq => ?_)
  obtain ⟨rfl, hn9, hh9⟩ := hq; replace hh9 := hh9.symm; subst hh9
  replace hn9 := hn9.symm
  subst hn9
  refine v_st (st2 := [.int (qChr LN (gx G (i + 1)))]) rfl ?_
  refine v_aload_n dL_law_885 rfl ?_
  refine v_aload_n dL_law_886 rfl ?_
  refine v_iload_n dL_law_887 rfl ?_
  refine v_iconst (v := nI 1) dL_law_888 (by decide) ?_
  refine n_iadd (x := i) (y := 1) dL_law_889 ?_
  refine v_xald (j := i + 1) dL_law_890 (by omega) hL9 ?_
  refine v_callV (st := [.int (qChr LN (gx G (i + 1)))]) dL_law_891 (t_X7_character (x := gx G (i + 1)) ho hli hY hln.1) wL_125 ho rfl rfl ⟨Nat.le_of_ble_eq_true rfl, Nat.le_of_ble_eq_true rfl⟩ (Nat.le_of_ble_eq_true rfl) ⟨by omega, by omega⟩ (fun r n2 h2 hq => ?_)
  obtain ⟨rfl, hn9, hh9⟩ := hq; replace hh9 := hh9.symm; subst hh9
  replace hn9 := hn9.symm
  subst hn9
  refine v_st (st2 := [.int (qChr LN (gx G (i + 1))), .int (qChr LN (gx G (i + 1)))]) rfl ?_
  refine v_icmp_eq (tgt := 1097) dL_law_894 (by decide) (fun _ => ?_) (fun cc => absurd rfl cc)
  exact kk n h _ _ (by omega) (by omega) ⟨sv, rs, dt, C, T, Sn, TX, LN, wy, dtm, a1, a2, hun, ha12, kA0, kB0, kC0, kM0, kP0.up (by omega)⟩
set_option maxRecDepth 20000 in
set_option maxHeartbeats 4000000 in
theorem law_27 {nm : String} {l : Launch} {G : vG} {rc rs9 : Nat} {Fz : vFin} {u n : Nat} {h : AH} {b i cells slots : Nat} (hw : LX G u n h b) (hb1 : 200 ≤ b) (hb9 : b + 200000 ≤ 2 ^ 27) (hL9 : gA G 2 3 ≤ 2560) (hi9 : i + 4 < gA G 2 3) (hf : cells + 82 ≤ rc ∧ slots + 11644 ≤ rs9) (kk : ∀ (n2 : Nat) (h2 : AH) (c2 s2 : Nat), c2 ≤ cells + 82 → s2 ≤ slots + 11644 → LX G u n2 h2 (b + 100000) → V l G (mLn nm) rc rs9 Fz 1097 (wls G u i) [] n2 h2 c2 s2) : V l G (mLn nm) rc rs9 Fz 899 (wls G u i) [] n h cells slots := by
  obtain ⟨sv, rs, dt, C, T, Sn, TX, LN, wy, dtm, a1, a2, hun, ha12, kA0, kB0, kC0, kM0, kP0⟩ := hw
  have kA9 := kA0
  have kB9 := kB0
  have kC9 := kC0
  have kM9 := kM0
  have kP9 := kP0
  obtain ⟨hj, hc, ⟨B, hbe⟩, ⟨Tr, htr⟩, hsn, hh⟩ := kA9
  obtain ⟨han, ha, ⟨mm, mb, hcp, hb⟩, c0, p0, r0, L0, N0, hot, hL, hN⟩ := kB9
  obtain ⟨han2, ha2, mm2, mb2, hcp2, hb2⟩ := kC9
  obtain ⟨⟨hr, en, wg, dg, fl, ho⟩, hv, ⟨B7, hbe7⟩, hsd, ⟨K7, hkp7⟩, ⟨P7, hpa, hR9⟩, ⟨X, htx, hX⟩, Y, hli, hY⟩ := kM9
  obtain ⟨hI, hK, hIS, hKS, hTs, ht1, ht2, hsv, hts, hln, hrs⟩ := kP9
  refine v_ls (ls2 := [some (.ref (gA G 2 2)), some (.ref u), some (.ref (u + 250)), some (.int (nI i)), none, none, none, none]) rfl ?_
  refine v_aload_n dL_law_899 rfl ?_
  refine v_aload_n dL_law_900 rfl ?_
  refine v_iload_n dL_law_901 rfl ?_
  refine v_iconst (v := nI 1) dL_law_902 (by decide) ?_
  refine n_iadd (x := i) (y := 1) dL_law_903 ?_
  refine v_xald (j := i + 1) dL_law_904 (by omega) hL9 ?_
  refine v_if_eq (tgt := 912) dL_law_905 (by decide) (fun c1 => ?_) (fun c1 => ?_)
  · refine v_iconst (v := 0) dL_law_912 (by decide) ?_
    refine v_callV (st := []) dL_law_913 (t_X6_reason (x := 0) hj) wL_126 hj rfl rfl ⟨Nat.le_of_ble_eq_true rfl, Nat.le_of_ble_eq_true rfl⟩ (Nat.le_of_ble_eq_true rfl) ⟨by omega, by omega⟩ (fun r n2 h2 hq => ?_)
    obtain ⟨rfl, hn9, hh9⟩ := hq; replace hh9 := hh9.symm; subst hh9
    replace hn9 := hn9.symm
    subst hn9
    refine v_st (st2 := [.int (if 0 = 0 then rs else dt)]) rfl ?_
    refine v_aload_n dL_law_916 rfl ?_
    refine v_aload_n dL_law_917 rfl ?_
    refine v_iload_n dL_law_918 rfl ?_
    refine v_iconst (v := nI 1) dL_law_919 (by decide) ?_
    refine n_iadd (x := i) (y := 1) dL_law_920 ?_
    refine v_xald (j := i + 1) dL_law_921 (by omega) hL9 ?_
    refine v_if_eq (tgt := 929) dL_law_922 (by decide) (fun _ => ?_) (fun c2 => absurd c1 c2)
    refine v_iconst (v := 0) dL_law_929 (by decide) ?_
    refine v_callV (st := [.int (if 0 = 0 then rs else dt)]) dL_law_930 (t_X7_reason (x := 0) ho) wL_130 ho rfl rfl ⟨Nat.le_of_ble_eq_true rfl, Nat.le_of_ble_eq_true rfl⟩ (Nat.le_of_ble_eq_true rfl) ⟨by omega, by omega⟩ (fun r n2 h2 hq => ?_)
    obtain ⟨rfl, hn9, hh9⟩ := hq; replace hh9 := hh9.symm; subst hh9
    replace hn9 := hn9.symm
    subst hn9
    refine v_st (st2 := [.int (if wy = 0 then -1015 else if 0 = 0 then wy else dtm), .int (if 0 = 0 then rs else dt)]) rfl ?_
    have e9 : (if 0 = 0 then rs else dt) = (if wy = 0 then -1015 else if 0 = 0 then wy else dtm) := by
      rcases hrs with ⟨q1, q2, q3⟩ | ⟨q1, q2, q3⟩
      · rw [if_pos q1, q2, q3]; exact ite_self _
      · rw [if_neg q1, q2, q3]
    refine v_icmp_eq (tgt := 1097) dL_law_933 (by decide) (fun _ => ?_) (fun cc => absurd e9 cc)
    exact kk n h _ _ (by omega) (by omega) ⟨sv, rs, dt, C, T, Sn, TX, LN, wy, dtm, a1, a2, hun, ha12, kA0, kB0, kC0, kM0, kP0.up (by omega)⟩
  · refine v_iconst (v := 1) dL_law_908 (by decide) ?_
    refine v_goto (tgt := 913) dL_law_909 (by decide) ?_
    refine v_callV (st := []) dL_law_913 (t_X6_reason (x := 1) hj) wL_126 hj rfl rfl ⟨Nat.le_of_ble_eq_true rfl, Nat.le_of_ble_eq_true rfl⟩ (Nat.le_of_ble_eq_true rfl) ⟨by omega, by omega⟩ (fun r n2 h2 hq => ?_)
    obtain ⟨rfl, hn9, hh9⟩ := hq; replace hh9 := hh9.symm; subst hh9
    replace hn9 := hn9.symm
    subst hn9
    refine v_st (st2 := [.int (if 1 = 0 then rs else dt)]) rfl ?_
    refine v_aload_n dL_law_916 rfl ?_
    refine v_aload_n dL_law_917 rfl ?_
    refine v_iload_n dL_law_918 rfl ?_
    refine v_iconst (v := nI 1) dL_law_919 (by decide) ?_
    refine n_iadd (x := i) (y := 1) dL_law_920 ?_
    refine v_xald (j := i + 1) dL_law_921 (by omega) hL9 ?_
    refine v_if_eq (tgt := 929) dL_law_922 (by decide) (fun c2 => absurd c2 c1) (fun _ => ?_)
    refine v_iconst (v := 1) dL_law_925 (by decide) ?_
    refine v_goto (tgt := 930) dL_law_926 (by decide) ?_
    refine v_callV (st := [.int (if 1 = 0 then rs else dt)]) dL_law_930 (t_X7_reason (x := 1) ho) wL_130 ho rfl rfl ⟨Nat.le_of_ble_eq_true rfl, Nat.le_of_ble_eq_true rfl⟩ (Nat.le_of_ble_eq_true rfl) ⟨by omega, by omega⟩ (fun r n2 h2 hq => ?_)
    obtain ⟨rfl, hn9, hh9⟩ := hq; replace hh9 := hh9.symm; subst hh9
    replace hn9 := hn9.symm
    subst hn9
    refine v_st (st2 := [.int (if wy = 0 then -1015 else if 1 = 0 then wy else dtm), .int (if 1 = 0 then rs else dt)]) rfl ?_
    have e9 : (if 1 = 0 then rs else dt) = (if wy = 0 then -1015 else if 1 = 0 then wy else dtm) := by
      rcases hrs with ⟨q1, q2, q3⟩ | ⟨q1, q2, q3⟩
      · rw [if_pos q1, q2, q3]; exact ite_self _
      · rw [if_neg q1, q2, q3]
    refine v_icmp_eq (tgt := 1097) dL_law_933 (by decide) (fun _ => ?_) (fun cc => absurd e9 cc)
    exact kk n h _ _ (by omega) (by omega) ⟨sv, rs, dt, C, T, Sn, TX, LN, wy, dtm, a1, a2, hun, ha12, kA0, kB0, kC0, kM0, kP0.up (by omega)⟩
set_option maxRecDepth 20000 in
set_option maxHeartbeats 4000000 in
theorem law_28 {nm : String} {l : Launch} {G : vG} {rc rs9 : Nat} {Fz : vFin} {u n : Nat} {h : AH} {b i cells slots : Nat} (hw : LX G u n h b) (hb1 : 200 ≤ b) (hb9 : b + 200000 ≤ 2 ^ 27) (hL9 : gA G 2 3 ≤ 2560) (hi9 : i + 4 < gA G 2 3) (hf : cells + 82 ≤ rc ∧ slots + 11644 ≤ rs9) (kk : ∀ (n2 : Nat) (h2 : AH) (c2 s2 : Nat), c2 ≤ cells + 82 → s2 ≤ slots + 11644 → LX G u n2 h2 (b + 100000) → V l G (mLn nm) rc rs9 Fz 1097 (wls G u i) [] n2 h2 c2 s2) : V l G (mLn nm) rc rs9 Fz 938 (wls G u i) [] n h cells slots := by
  obtain ⟨sv, rs, dt, C, T, Sn, TX, LN, wy, dtm, a1, a2, hun, ha12, kA0, kB0, kC0, kM0, kP0⟩ := hw
  have kA9 := kA0
  have kB9 := kB0
  have kC9 := kC0
  have kM9 := kM0
  have kP9 := kP0
  obtain ⟨hj, hc, ⟨B, hbe⟩, ⟨Tr, htr⟩, hsn, hh⟩ := kA9
  obtain ⟨han, ha, ⟨mm, mb, hcp, hb⟩, c0, p0, r0, L0, N0, hot, hL, hN⟩ := kB9
  obtain ⟨han2, ha2, mm2, mb2, hcp2, hb2⟩ := kC9
  obtain ⟨⟨hr, en, wg, dg, fl, ho⟩, hv, ⟨B7, hbe7⟩, hsd, ⟨K7, hkp7⟩, ⟨P7, hpa, hR9⟩, ⟨X, htx, hX⟩, Y, hli, hY⟩ := kM9
  obtain ⟨hI, hK, hIS, hKS, hTs, ht1, ht2, hsv, hts, hln, hrs⟩ := kP9
  refine v_ls (ls2 := [some (.ref (gA G 2 2)), some (.ref u), some (.ref (u + 250)), some (.int (nI i)), none, none, none, none]) rfl ?_
  refine v_aload_n dL_law_938 rfl ?_
  refine v_aload_n dL_law_939 rfl ?_
  refine v_iload_n dL_law_940 rfl ?_
  refine v_iconst (v := nI 1) dL_law_941 (by decide) ?_
  refine n_iadd (x := i) (y := 1) dL_law_942 ?_
  refine v_xald (j := i + 1) dL_law_943 (by omega) hL9 ?_
  refine v_callV (st := []) dL_law_944 (t_X6_account (w := gx G (i + 1)) hj hb hcp ha han hun hot hc hh hK (by omega) hI.1) wL_131 hj rfl rfl ⟨Nat.le_of_ble_eq_true rfl, Nat.le_of_ble_eq_true rfl⟩ (Nat.le_of_ble_eq_true rfl) ⟨by omega, by omega⟩ (fun r n2 h2 hq => ?_)
  obtain ⟨rfl, hn9, hh9⟩ := hq; replace hh9 := hh9.symm; subst hh9
  replace hn9 := hn9.symm
  subst hn9
  refine v_st (st2 := [.int (qAcc C TX.2 T.1 (gx G (i + 1)))]) rfl ?_
  refine v_aload_n dL_law_947 rfl ?_
  refine v_aload_n dL_law_948 rfl ?_
  refine v_iload_n dL_law_949 rfl ?_
  refine v_iconst (v := nI 1) dL_law_950 (by decide) ?_
  refine n_iadd (x := i) (y := 1) dL_law_951 ?_
  refine v_xald (j := i + 1) dL_law_952 (by omega) hL9 ?_
  refine v_callV (st := [.int (qAcc C TX.2 T.1 (gx G (i + 1)))]) dL_law_953 (t_X7_account (w := gx G (i + 1)) ho hv hK (by omega) hI) wL_134 ho rfl rfl ⟨Nat.le_of_ble_eq_true rfl, Nat.le_of_ble_eq_true rfl⟩ (Nat.le_of_ble_eq_true rfl) ⟨by omega, by omega⟩ (fun r n2 h2 hq => ?_)
  obtain ⟨rfl, hn9, hh9⟩ := hq; replace hh9 := hh9.symm; subst hh9
  replace hn9 := hn9.symm
  subst hn9
  refine v_st (st2 := [.int (qAcc C TX.2 T.1 (gx G (i + 1))), .int (qAcc C TX.2 T.1 (gx G (i + 1)))]) rfl ?_
  refine v_icmp_eq (tgt := 1097) dL_law_956 (by decide) (fun _ => ?_) (fun cc => absurd rfl cc)
  exact kk n h _ _ (by omega) (by omega) ⟨sv, rs, dt, C, T, Sn, TX, LN, wy, dtm, a1, a2, hun, ha12, kA0, kB0, kC0, kM0, kP0.up (by omega)⟩
set_option maxRecDepth 20000 in
set_option maxHeartbeats 4000000 in
theorem law_29 {nm : String} {l : Launch} {G : vG} {rc rs9 : Nat} {Fz : vFin} {u n : Nat} {h : AH} {b i cells slots : Nat} (hw : LX G u n h b) (hb1 : 200 ≤ b) (hb9 : b + 200000 ≤ 2 ^ 27) (hL9 : gA G 2 3 ≤ 2560) (hi9 : i + 4 < gA G 2 3) (hf : cells + 82 ≤ rc ∧ slots + 11644 ≤ rs9) (kk : ∀ (n2 : Nat) (h2 : AH) (c2 s2 : Nat), c2 ≤ cells + 82 → s2 ≤ slots + 11644 → LX G u n2 h2 (b + 100000) → V l G (mLn nm) rc rs9 Fz 1097 (wls G u i) [] n2 h2 c2 s2) : V l G (mLn nm) rc rs9 Fz 961 (wls G u i) [] n h cells slots := by
  obtain ⟨sv, rs, dt, C, T, Sn, TX, LN, wy, dtm, a1, a2, hun, ha12, kA0, kB0, kC0, kM0, kP0⟩ := hw
  have kA9 := kA0
  have kB9 := kB0
  have kC9 := kC0
  have kM9 := kM0
  have kP9 := kP0
  obtain ⟨hj, hc, ⟨B, hbe⟩, ⟨Tr, htr⟩, hsn, hh⟩ := kA9
  obtain ⟨han, ha, ⟨mm, mb, hcp, hb⟩, c0, p0, r0, L0, N0, hot, hL, hN⟩ := kB9
  obtain ⟨han2, ha2, mm2, mb2, hcp2, hb2⟩ := kC9
  obtain ⟨⟨hr, en, wg, dg, fl, ho⟩, hv, ⟨B7, hbe7⟩, hsd, ⟨K7, hkp7⟩, ⟨P7, hpa, hR9⟩, ⟨X, htx, hX⟩, Y, hli, hY⟩ := kM9
  obtain ⟨hI, hK, hIS, hKS, hTs, ht1, ht2, hsv, hts, hln, hrs⟩ := kP9
  refine v_ls (ls2 := [some (.ref (gA G 2 2)), some (.ref u), some (.ref (u + 250)), some (.int (nI i)), none, none, none, none]) rfl ?_
  refine v_aload_n dL_law_961 rfl ?_
  refine v_callV (st := []) dL_law_962 (t_X6_isBalanced hj hc hK (by omega) hI) wL_135 hj rfl rfl ⟨Nat.le_of_ble_eq_true rfl, Nat.le_of_ble_eq_true rfl⟩ (Nat.le_of_ble_eq_true rfl) ⟨by omega, by omega⟩ (fun r n2 h2 hq => ?_)
  obtain ⟨rfl, hn9, hh9⟩ := hq; replace hh9 := hh9.symm; subst hh9
  replace hn9 := hn9.symm
  subst hn9
  refine v_st (st2 := [.int (nI (bI (C 0 4 + sm (C 16) 4 = sm (C 2) 6 + C 0 5 + C 0 6)))]) rfl ?_
  refine v_aload_n dL_law_965 rfl ?_
  refine v_callV (st := [.int (nI (bI (C 0 4 + sm (C 16) 4 = sm (C 2) 6 + C 0 5 + C 0 6)))]) dL_law_966 (t_X7_isBalanced ho hv hK (by omega) hI) wL_138 ho rfl rfl ⟨Nat.le_of_ble_eq_true rfl, Nat.le_of_ble_eq_true rfl⟩ (Nat.le_of_ble_eq_true rfl) ⟨by omega, by omega⟩ (fun r n2 h2 hq => ?_)
  obtain ⟨rfl, hn9, hh9⟩ := hq; replace hh9 := hh9.symm; subst hh9
  replace hn9 := hn9.symm
  subst hn9
  refine v_st (st2 := [.int (nI (bI (C 0 4 + sm (C 16) 4 = sm (C 2) 6 + C 0 5 + C 0 6))), .int (nI (bI (C 0 4 + sm (C 16) 4 = sm (C 2) 6 + C 0 5 + C 0 6)))]) rfl ?_
  refine v_icmp_eq (tgt := 1097) dL_law_969 (by decide) (fun _ => ?_) (fun cc => absurd rfl cc)
  exact kk n h _ _ (by omega) (by omega) ⟨sv, rs, dt, C, T, Sn, TX, LN, wy, dtm, a1, a2, hun, ha12, kA0, kB0, kC0, kM0, kP0.up (by omega)⟩
set_option maxRecDepth 20000 in
set_option maxHeartbeats 4000000 in
theorem law_30 {nm : String} {l : Launch} {G : vG} {rc rs9 : Nat} {Fz : vFin} {u n : Nat} {h : AH} {b i cells slots : Nat} (hw : LX G u n h b) (hb1 : 200 ≤ b) (hb9 : b + 200000 ≤ 2 ^ 27) (hL9 : gA G 2 3 ≤ 2560) (hi9 : i + 4 < gA G 2 3) (hf : cells + 82 ≤ rc ∧ slots + 11644 ≤ rs9) (kk : ∀ (n2 : Nat) (h2 : AH) (c2 s2 : Nat), c2 ≤ cells + 82 → s2 ≤ slots + 11644 → LX G u n2 h2 (b + 100000) → V l G (mLn nm) rc rs9 Fz 1097 (wls G u i) [] n2 h2 c2 s2) : V l G (mLn nm) rc rs9 Fz 974 (wls G u i) [] n h cells slots := by
  obtain ⟨sv, rs, dt, C, T, Sn, TX, LN, wy, dtm, a1, a2, hun, ha12, kA0, kB0, kC0, kM0, kP0⟩ := hw
  have kA9 := kA0
  have kB9 := kB0
  have kC9 := kC0
  have kM9 := kM0
  have kP9 := kP0
  obtain ⟨hj, hc, ⟨B, hbe⟩, ⟨Tr, htr⟩, hsn, hh⟩ := kA9
  obtain ⟨han, ha, ⟨mm, mb, hcp, hb⟩, c0, p0, r0, L0, N0, hot, hL, hN⟩ := kB9
  obtain ⟨han2, ha2, mm2, mb2, hcp2, hb2⟩ := kC9
  obtain ⟨⟨hr, en, wg, dg, fl, ho⟩, hv, ⟨B7, hbe7⟩, hsd, ⟨K7, hkp7⟩, ⟨P7, hpa, hR9⟩, ⟨X, htx, hX⟩, Y, hli, hY⟩ := kM9
  obtain ⟨hI, hK, hIS, hKS, hTs, ht1, ht2, hsv, hts, hln, hrs⟩ := kP9
  refine v_ls (ls2 := [some (.ref (gA G 2 2)), some (.ref u), some (.ref (u + 250)), some (.int (nI i)), none, none, none, none]) rfl ?_
  refine v_aload_n dL_law_974 rfl ?_
  refine v_callV (st := []) dL_law_975 (t_X6_meanWit hj hc hK (by omega) hI.1) wL_139 hj rfl rfl ⟨Nat.le_of_ble_eq_true rfl, Nat.le_of_ble_eq_true rfl⟩ (Nat.le_of_ble_eq_true rfl) ⟨by omega, by omega⟩ (fun r n2 h2 hq => ?_)
  obtain ⟨⟨x6, rfl, hx6⟩, hn9, hh9⟩ := hq; replace hh9 := hh9.symm; subst hh9
  replace hn9 := hn9.symm
  subst hn9
  refine v_st (st2 := [.double x6]) rfl ?_
  refine v_dstore dL_law_978 rfl (Nat.le_of_ble_eq_true rfl) ?_
  refine v_ls (ls2 := [some (.ref (gA G 2 2)), some (.ref u), some (.ref (u + 250)), some (.int (nI i)), some (.double x6), none, none, none]) rfl ?_
  refine v_aload_n dL_law_980 rfl ?_
  refine v_callV (st := []) dL_law_981 (t_X7_meanWit ho hv hK (by omega) hI) wL_143 ho rfl rfl ⟨Nat.le_of_ble_eq_true rfl, Nat.le_of_ble_eq_true rfl⟩ (Nat.le_of_ble_eq_true rfl) ⟨by omega, by omega⟩ (fun r n2 h2 hq => ?_)
  obtain ⟨⟨x7, rfl, hx7⟩, hn9, hh9⟩ := hq; replace hh9 := hh9.symm; subst hh9
  replace hn9 := hn9.symm
  subst hn9
  refine v_st (st2 := [.double x7]) rfl ?_
  refine v_dstore2 (k := 4) (y := x6) dL_law_984 rfl (by decide) rfl (Nat.le_of_ble_eq_true rfl) ?_
  refine v_ls (ls2 := [some (.ref (gA G 2 2)), some (.ref u), some (.ref (u + 250)), some (.int (nI i)), some (.double x6), none, some (.double x7), none]) rfl ?_
  have hdq : dq x6 x7 := mwz_dq hx6 hx7
  have kE : V l G (mLn nm) rc rs9 Fz 1012 [some (.ref (gA G 2 2)), some (.ref u), some (.ref (u + 250)), some (.int (nI i)), some (.double x6), none, some (.double x7), none] [] n h (cells + 0 + 0) (slots + 0 + 0) := by
    refine v_goto (tgt := 1097) dL_law_1012 (by decide) ?_
    refine v_forget 4 ?_
    refine v_forget 6 ?_
    refine v_ls (ls2 := [some (.ref (gA G 2 2)), some (.ref u), some (.ref (u + 250)), some (.int (nI i)), none, none, none, none]) rfl ?_
    exact kk n h _ _ (by omega) (by omega) ⟨sv, rs, dt, C, T, Sn, TX, LN, wy, dtm, a1, a2, hun, ha12, kA0, kB0, kC0, kM0, kP0.up (by omega)⟩
  refine v_dload dL_law_986 rfl ?_
  refine v_dload dL_law_988 rfl ?_
  refine v_dcmp dL_law_990 ?_
  refine v_if_eq (tgt := 1012) dL_law_991 (by decide) (fun _ => kE) (fun c1 => ?_)
  refine v_dload dL_law_994 rfl ?_
  refine v_dload dL_law_996 rfl ?_
  refine v_dcmp dL_law_998 ?_
  refine v_if_eq (tgt := 1010) dL_law_999 (by decide) (fun c2 => absurd c2 (dq_1 hdq c1)) (fun _ => ?_)
  refine v_dload dL_law_1002 rfl ?_
  refine v_dload dL_law_1004 rfl ?_
  refine v_dcmp dL_law_1006 ?_
  refine v_if_ne (tgt := 1012) dL_law_1007 (by decide) (fun _ => kE) (fun c2 => absurd c2 (dq_2 hdq c1))
set_option maxRecDepth 20000 in
set_option maxHeartbeats 4000000 in
theorem law_31 {nm : String} {l : Launch} {G : vG} {rc rs9 : Nat} {Fz : vFin} {u n : Nat} {h : AH} {b i cells slots : Nat} (hw : LX G u n h b) (hb1 : 200 ≤ b) (hb9 : b + 200000 ≤ 2 ^ 27) (hL9 : gA G 2 3 ≤ 2560) (hi9 : i + 4 < gA G 2 3) (hf : cells + 82 ≤ rc ∧ slots + 11644 ≤ rs9) (kk : ∀ (n2 : Nat) (h2 : AH) (c2 s2 : Nat), c2 ≤ cells + 82 → s2 ≤ slots + 11644 → LX G u n2 h2 (b + 100000) → V l G (mLn nm) rc rs9 Fz 1097 (wls G u i) [] n2 h2 c2 s2) : V l G (mLn nm) rc rs9 Fz 1015 (wls G u i) [] n h cells slots := by
  obtain ⟨sv, rs, dt, C, T, Sn, TX, LN, wy, dtm, a1, a2, hun, ha12, kA0, kB0, kC0, kM0, kP0⟩ := hw
  have kA9 := kA0
  have kB9 := kB0
  have kC9 := kC0
  have kM9 := kM0
  have kP9 := kP0
  obtain ⟨hj, hc, ⟨B, hbe⟩, ⟨Tr, htr⟩, hsn, hh⟩ := kA9
  obtain ⟨han, ha, ⟨mm, mb, hcp, hb⟩, c0, p0, r0, L0, N0, hot, hL, hN⟩ := kB9
  obtain ⟨han2, ha2, mm2, mb2, hcp2, hb2⟩ := kC9
  obtain ⟨⟨hr, en, wg, dg, fl, ho⟩, hv, ⟨B7, hbe7⟩, hsd, ⟨K7, hkp7⟩, ⟨P7, hpa, hR9⟩, ⟨X, htx, hX⟩, Y, hli, hY⟩ := kM9
  obtain ⟨hI, hK, hIS, hKS, hTs, ht1, ht2, hsv, hts, hln, hrs⟩ := kP9
  refine v_ls (ls2 := [some (.ref (gA G 2 2)), some (.ref u), some (.ref (u + 250)), some (.int (nI i)), none, none, none, none]) rfl ?_
  refine v_aload_n dL_law_1015 rfl ?_
  refine v_callV (st := []) dL_law_1016 (t_X6_slipShare hj hc hK (by omega) hI.1) wL_144 hj rfl rfl ⟨Nat.le_of_ble_eq_true rfl, Nat.le_of_ble_eq_true rfl⟩ (Nat.le_of_ble_eq_true rfl) ⟨by omega, by omega⟩ (fun r n2 h2 hq => ?_)
  obtain ⟨⟨x6, rfl, hx6⟩, hn9, hh9⟩ := hq; replace hh9 := hh9.symm; subst hh9
  replace hn9 := hn9.symm
  subst hn9
  refine v_st (st2 := [.float x6]) rfl ?_
  refine v_f2d dL_law_1019 (fun y6 hy6 => ?_)
  refine v_dstore dL_law_1020 rfl (Nat.le_of_ble_eq_true rfl) ?_
  refine v_ls (ls2 := [some (.ref (gA G 2 2)), some (.ref u), some (.ref (u + 250)), some (.int (nI i)), some (.double y6), none, none, none]) rfl ?_
  refine v_aload_n dL_law_1022 rfl ?_
  refine v_callV (st := []) dL_law_1023 (t_X7_slipShare ho hv hK (by omega) hI) wL_148 ho rfl rfl ⟨Nat.le_of_ble_eq_true rfl, Nat.le_of_ble_eq_true rfl⟩ (Nat.le_of_ble_eq_true rfl) ⟨by omega, by omega⟩ (fun r n2 h2 hq => ?_)
  obtain ⟨⟨x7, rfl, hx7⟩, hn9, hh9⟩ := hq; replace hh9 := hh9.symm; subst hh9
  replace hn9 := hn9.symm
  subst hn9
  refine v_st (st2 := [.float x7]) rfl ?_
  refine v_f2d dL_law_1026 (fun y7 hy7 => ?_)
  refine v_dstore2 (k := 4) (y := y6) dL_law_1027 rfl (by decide) rfl (Nat.le_of_ble_eq_true rfl) ?_
  refine v_ls (ls2 := [some (.ref (gA G 2 2)), some (.ref u), some (.ref (u + 250)), some (.int (nI i)), some (.double y6), none, some (.double y7), none]) rfl ?_
  have hdq : dq y6 y7 := ssz_dq hx6 hx7 hy6 hy7
  have kE : V l G (mLn nm) rc rs9 Fz 1055 [some (.ref (gA G 2 2)), some (.ref u), some (.ref (u + 250)), some (.int (nI i)), some (.double y6), none, some (.double y7), none] [] n h (cells + 0 + 0) (slots + 0 + 0) := by
    refine v_goto (tgt := 1097) dL_law_1055 (by decide) ?_
    refine v_forget 4 ?_
    refine v_forget 6 ?_
    refine v_ls (ls2 := [some (.ref (gA G 2 2)), some (.ref u), some (.ref (u + 250)), some (.int (nI i)), none, none, none, none]) rfl ?_
    exact kk n h _ _ (by omega) (by omega) ⟨sv, rs, dt, C, T, Sn, TX, LN, wy, dtm, a1, a2, hun, ha12, kA0, kB0, kC0, kM0, kP0.up (by omega)⟩
  refine v_dload dL_law_1029 rfl ?_
  refine v_dload dL_law_1031 rfl ?_
  refine v_dcmp dL_law_1033 ?_
  refine v_if_eq (tgt := 1055) dL_law_1034 (by decide) (fun _ => kE) (fun c1 => ?_)
  refine v_dload dL_law_1037 rfl ?_
  refine v_dload dL_law_1039 rfl ?_
  refine v_dcmp dL_law_1041 ?_
  refine v_if_eq (tgt := 1053) dL_law_1042 (by decide) (fun c2 => absurd c2 (dq_1 hdq c1)) (fun _ => ?_)
  refine v_dload dL_law_1045 rfl ?_
  refine v_dload dL_law_1047 rfl ?_
  refine v_dcmp dL_law_1049 ?_
  refine v_if_ne (tgt := 1055) dL_law_1050 (by decide) (fun _ => kE) (fun c2 => absurd c2 (dq_2 hdq c1))
set_option maxRecDepth 20000 in
set_option maxHeartbeats 4000000 in
theorem law_32 {nm : String} {l : Launch} {G : vG} {rc rs9 : Nat} {Fz : vFin} {u n : Nat} {h : AH} {b i cells slots : Nat} (hw : LX G u n h b) (hb1 : 200 ≤ b) (hb9 : b + 200000 ≤ 2 ^ 27) (hL9 : gA G 2 3 ≤ 2560) (hi9 : i + 4 < gA G 2 3) (hf : cells + 82 ≤ rc ∧ slots + 11644 ≤ rs9) (kk : ∀ (n2 : Nat) (h2 : AH) (c2 s2 : Nat), c2 ≤ cells + 82 → s2 ≤ slots + 11644 → LX G u n2 h2 (b + 100000) → V l G (mLn nm) rc rs9 Fz 1097 (wls G u i) [] n2 h2 c2 s2) : V l G (mLn nm) rc rs9 Fz 1058 (wls G u i) [] n h cells slots := by
  obtain ⟨sv, rs, dt, C, T, Sn, TX, LN, wy, dtm, a1, a2, hun, ha12, kA0, kB0, kC0, kM0, kP0⟩ := hw
  have kA9 := kA0
  have kB9 := kB0
  have kC9 := kC0
  have kM9 := kM0
  have kP9 := kP0
  obtain ⟨hj, hc, ⟨B, hbe⟩, ⟨Tr, htr⟩, hsn, hh⟩ := kA9
  obtain ⟨han, ha, ⟨mm, mb, hcp, hb⟩, c0, p0, r0, L0, N0, hot, hL, hN⟩ := kB9
  obtain ⟨han2, ha2, mm2, mb2, hcp2, hb2⟩ := kC9
  obtain ⟨⟨hr, en, wg, dg, fl, ho⟩, hv, ⟨B7, hbe7⟩, hsd, ⟨K7, hkp7⟩, ⟨P7, hpa, hR9⟩, ⟨X, htx, hX⟩, Y, hli, hY⟩ := kM9
  obtain ⟨hI, hK, hIS, hKS, hTs, ht1, ht2, hsv, hts, hln, hrs⟩ := kP9
  refine v_ls (ls2 := [some (.ref (gA G 2 2)), some (.ref u), some (.ref (u + 250)), some (.int (nI i)), none, none, none, none]) rfl ?_
  refine v_aload_n dL_law_1058 rfl ?_
  refine v_callV (st := []) dL_law_1059 (t_X6_undo hj hc hh) wL_149 hj rfl rfl ⟨Nat.le_of_ble_eq_true rfl, Nat.le_of_ble_eq_true rfl⟩ (Nat.le_of_ble_eq_true rfl) ⟨by omega, by omega⟩ (fun r n2 h2 hq => ?_)
  obtain ⟨rfl, hn9, hc1, hh1, hj1, fr1⟩ := hq
  replace hn9 := hn9.symm
  subst hn9
  refine v_st (st2 := [.int (if T.1 = 0 then -1015 else nI (T.1 - 1))]) rfl ?_
  refine v_aload_n dL_law_1062 rfl ?_
  have ho := (fr1 (u + 250) (by omega)).trans ho
  have hv := (fr1 (u + 250 + 1) (by omega)).trans hv
  have hbe7 := (fr1 (u + 250 + 2) (by omega)).trans hbe7
  have hsd := (fr1 (u + 250 + 3) (by omega)).trans hsd
  have hkp7 := (fr1 (u + 250 + 4) (by omega)).trans hkp7
  have hpa := (fr1 (u + 250 + 5) (by omega)).trans hpa
  have htx := (fr1 (u + 250 + 6) (by omega)).trans htx
  have hli := (fr1 (u + 250 + 7) (by omega)).trans hli
  refine v_callV (st := [.int (if T.1 = 0 then -1015 else nI (T.1 - 1))]) dL_law_1063 (t_X7_undo ho hv hpa hR9 ht1 ht2) wL_152 ho rfl rfl ⟨Nat.le_of_ble_eq_true rfl, Nat.le_of_ble_eq_true rfl⟩ (Nat.le_of_ble_eq_true rfl) ⟨by omega, by omega⟩ (fun r n2 h2 hq => ?_)
  obtain ⟨rfl, hn9, ho2, hv2, hR2, hpa2, fr2⟩ := hq
  replace hn9 := hn9.symm
  subst hn9
  refine v_st (st2 := [.int (if T.1 = 0 then -1015 else nI (T.1 - 1)), .int (if T.1 = 0 then -1015 else nI (T.1 - 1))]) rfl ?_
  refine v_icmp_eq (tgt := 1097) dL_law_1066 (by decide) (fun _ => ?_) (fun cc => absurd rfl cc)
  refine kk n h2 _ _ (by omega) (by omega) ⟨sv, rs, dt, if T.1 = 0 then C else T.2.2 ((T.2.1 + 7) % 8), if T.1 = 0 then T else hpop T, Sn, TX, LN, wy, dtm, a1, a2, hun, ha12, ?_, ?_, ?_, ?_, ?_⟩
  · exact kA.fr ⟨hj1, hc1, ⟨B, ct_frP hbe fr1 (fun q hq => by omega)⟩, ⟨Tr, ct_frP htr fr1 (fun q hq => by omega)⟩, ct_frP hsn fr1 (fun q hq => by omega), hh1⟩ (fun z z1 z2 => fr2 z (by omega))
  · exact (kB0.fr (Nat.le_refl _) (fun z hz => (fr2 z (by omega)).trans (fr1 z (by omega))))
  · exact (kC0.fr (Nat.le_refl _) (fun z hz => (fr2 z (by omega)).trans (fr1 z (by omega))))
  · exact ⟨⟨_, _, _, _, _, ho2⟩, hv2, ⟨B7, (fr2 _ (by omega)).trans hbe7⟩, (fr2 _ (by omega)).trans hsd, ⟨K7, (fr2 _ (by omega)).trans hkp7⟩, ⟨P7, hpa2, hR2⟩, ⟨X, (fr2 _ (by omega)).trans htx, hX⟩, Y, (fr2 _ (by omega)).trans hli, hY⟩
  · refine kP.up (b := b) ?_ (by omega)
    by_cases q : T.1 = 0
    · rw [if_pos q, if_pos q]; exact kP0
    · rw [if_neg q, if_neg q]
      have h8 := hpop_ok (T := T) ⟨ht1, ht2⟩
      exact ⟨(hTs _).1, (hTs _).2, hIS, hKS, hTs, h8.1, h8.2, hsv, hts, hln, hrs⟩
set_option maxRecDepth 20000 in
set_option maxHeartbeats 4000000 in
theorem law_33 {nm : String} {l : Launch} {G : vG} {rc rs9 : Nat} {Fz : vFin} {u n : Nat} {h : AH} {b i cells slots : Nat} (hw : LX G u n h b) (hb1 : 200 ≤ b) (hb9 : b + 200000 ≤ 2 ^ 27) (hL9 : gA G 2 3 ≤ 2560) (hi9 : i + 4 < gA G 2 3) (hf : cells + 82 ≤ rc ∧ slots + 11644 ≤ rs9) (kk : ∀ (n2 : Nat) (h2 : AH) (c2 s2 : Nat), c2 ≤ cells + 82 → s2 ≤ slots + 11644 → LX G u n2 h2 (b + 100000) → V l G (mLn nm) rc rs9 Fz 1097 (wls G u i) [] n2 h2 c2 s2) : V l G (mLn nm) rc rs9 Fz 1071 (wls G u i) [] n h cells slots := by
  obtain ⟨sv, rs, dt, C, T, Sn, TX, LN, wy, dtm, a1, a2, hun, ha12, kA0, kB0, kC0, kM0, kP0⟩ := hw
  have kA9 := kA0
  have kB9 := kB0
  have kC9 := kC0
  have kM9 := kM0
  have kP9 := kP0
  obtain ⟨hj, hc, ⟨B, hbe⟩, ⟨Tr, htr⟩, hsn, hh⟩ := kA9
  obtain ⟨han, ha, ⟨mm, mb, hcp, hb⟩, c0, p0, r0, L0, N0, hot, hL, hN⟩ := kB9
  obtain ⟨han2, ha2, mm2, mb2, hcp2, hb2⟩ := kC9
  obtain ⟨⟨hr, en, wg, dg, fl, ho⟩, hv, ⟨B7, hbe7⟩, hsd, ⟨K7, hkp7⟩, ⟨P7, hpa, hR9⟩, ⟨X, htx, hX⟩, Y, hli, hY⟩ := kM9
  obtain ⟨hI, hK, hIS, hKS, hTs, ht1, ht2, hsv, hts, hln, hrs⟩ := kP9
  refine v_ls (ls2 := [some (.ref (gA G 2 2)), some (.ref u), some (.ref (u + 250)), some (.int (nI i)), none, none, none, none]) rfl ?_
  refine v_aload_n dL_law_1071 rfl ?_
  refine v_callV (st := []) dL_law_1072 (t_X6_save hj hc hsn) wL_153 hj rfl rfl ⟨Nat.le_of_ble_eq_true rfl, Nat.le_of_ble_eq_true rfl⟩ (Nat.le_of_ble_eq_true rfl) ⟨by omega, by omega⟩ (fun r n2 h2 hq => ?_)
  obtain ⟨rfl, hn9, hsn1, hj1, fr1⟩ := hq
  replace hn9 := hn9.symm
  subst hn9
  refine v_st (st2 := [.int (nI (C 0 0))]) rfl ?_
  refine v_aload_n dL_law_1075 rfl ?_
  have ho := (fr1 (u + 250) (by omega)).trans ho
  have hv := (fr1 (u + 250 + 1) (by omega)).trans hv
  have hbe7 := (fr1 (u + 250 + 2) (by omega)).trans hbe7
  have hsd := (fr1 (u + 250 + 3) (by omega)).trans hsd
  have hkp7 := (fr1 (u + 250 + 4) (by omega)).trans hkp7
  have hpa := (fr1 (u + 250 + 5) (by omega)).trans hpa
  have htx := (fr1 (u + 250 + 6) (by omega)).trans htx
  have hli := (fr1 (u + 250 + 7) (by omega)).trans hli
  refine v_callV (st := [.int (nI (C 0 0))]) dL_law_1076 (t_X7_save ho hv hsd) wL_156 ho rfl rfl ⟨Nat.le_of_ble_eq_true rfl, Nat.le_of_ble_eq_true rfl⟩ (Nat.le_of_ble_eq_true rfl) ⟨by omega, by omega⟩ (fun r n2 h2 hq => ?_)
  obtain ⟨rfl, hn9, ho2, hsd2, fr2⟩ := hq
  replace hn9 := hn9.symm
  subst hn9
  refine v_st (st2 := [.int (nI (C 0 0)), .int (nI (C 0 0))]) rfl ?_
  refine v_icmp_eq (tgt := 1097) dL_law_1079 (by decide) (fun _ => ?_) (fun cc => absurd rfl cc)
  refine kk n h2 _ _ (by omega) (by omega) ⟨1, rs, dt, C, T, C, TX, LN, wy, dtm, a1, a2, hun, ha12, ?_, ?_, ?_, ?_, ?_⟩
  · exact kA.fr ⟨hj1, ct_frP hc fr1 (fun q hq => by omega), ⟨B, ct_frP hbe fr1 (fun q hq => by omega)⟩, ⟨Tr, ct_frP htr fr1 (fun q hq => by omega)⟩, hsn1, ht_fr hh (fun z z1 z2 => fr1 z (by omega))⟩ (fun z z1 z2 => fr2 z (by omega))
  · exact (kB0.fr (Nat.le_refl _) (fun z hz => (fr2 z (by omega)).trans (fr1 z (by omega))))
  · exact (kC0.fr (Nat.le_refl _) (fun z hz => (fr2 z (by omega)).trans (fr1 z (by omega))))
  · exact ⟨⟨_, _, _, _, _, ho2⟩, (fr2 _ (by omega)).trans hv, ⟨B7, (fr2 _ (by omega)).trans hbe7⟩, hsd2, ⟨K7, (fr2 _ (by omega)).trans hkp7⟩, ⟨P7, (fr2 _ (by omega)).trans hpa, hR9⟩, ⟨X, (fr2 _ (by omega)).trans htx, hX⟩, Y, (fr2 _ (by omega)).trans hli, hY⟩
  · exact kP.up (b := b) ⟨hI, hK, hI, hK, hTs, ht1, ht2, Nat.le_refl _, hts, hln, hrs⟩ (by omega)
set_option maxRecDepth 20000 in
set_option maxHeartbeats 4000000 in
theorem law_34 {nm : String} {l : Launch} {G : vG} {rc rs9 : Nat} {Fz : vFin} {u n : Nat} {h : AH} {b i cells slots : Nat} (hw : LX G u n h b) (hb1 : 200 ≤ b) (hb9 : b + 200000 ≤ 2 ^ 27) (hL9 : gA G 2 3 ≤ 2560) (hi9 : i + 4 < gA G 2 3) (hf : cells + 82 ≤ rc ∧ slots + 11644 ≤ rs9) (kk : ∀ (n2 : Nat) (h2 : AH) (c2 s2 : Nat), c2 ≤ cells + 82 → s2 ≤ slots + 11644 → LX G u n2 h2 (b + 100000) → V l G (mLn nm) rc rs9 Fz 1097 (wls G u i) [] n2 h2 c2 s2) : V l G (mLn nm) rc rs9 Fz 1084 (wls G u i) [] n h cells slots := by
  obtain ⟨sv, rs, dt, C, T, Sn, TX, LN, wy, dtm, a1, a2, hun, ha12, kA0, kB0, kC0, kM0, kP0⟩ := hw
  have kA9 := kA0
  have kB9 := kB0
  have kC9 := kC0
  have kM9 := kM0
  have kP9 := kP0
  obtain ⟨hj, hc, ⟨B, hbe⟩, ⟨Tr, htr⟩, hsn, hh⟩ := kA9
  obtain ⟨han, ha, ⟨mm, mb, hcp, hb⟩, c0, p0, r0, L0, N0, hot, hL, hN⟩ := kB9
  obtain ⟨han2, ha2, mm2, mb2, hcp2, hb2⟩ := kC9
  obtain ⟨⟨hr, en, wg, dg, fl, ho⟩, hv, ⟨B7, hbe7⟩, hsd, ⟨K7, hkp7⟩, ⟨P7, hpa, hR9⟩, ⟨X, htx, hX⟩, Y, hli, hY⟩ := kM9
  obtain ⟨hI, hK, hIS, hKS, hTs, ht1, ht2, hsv, hts, hln, hrs⟩ := kP9
  refine v_ls (ls2 := [some (.ref (gA G 2 2)), some (.ref u), some (.ref (u + 250)), some (.int (nI i)), none, none, none, none]) rfl ?_
  refine v_aload_n dL_law_1084 rfl ?_
  refine v_callV (st := []) dL_law_1085 (t_X6_restore hj hsv hc hsn hh) wL_157 hj rfl rfl ⟨Nat.le_of_ble_eq_true rfl, Nat.le_of_ble_eq_true rfl⟩ (Nat.le_of_ble_eq_true rfl) ⟨by omega, by omega⟩ (fun r n2 h2 hq => ?_)
  obtain ⟨rfl, hn9, hc1, hh1, fr1⟩ := hq
  replace hn9 := hn9.symm
  subst hn9
  refine v_st (st2 := [.int (if sv = 0 then -1015 else nI (Sn 0 0))]) rfl ?_
  refine v_aload_n dL_law_1088 rfl ?_
  have ho := (fr1 (u + 250) (by omega)).trans ho
  have hv := (fr1 (u + 250 + 1) (by omega)).trans hv
  have hbe7 := (fr1 (u + 250 + 2) (by omega)).trans hbe7
  have hsd := (fr1 (u + 250 + 3) (by omega)).trans hsd
  have hkp7 := (fr1 (u + 250 + 4) (by omega)).trans hkp7
  have hpa := (fr1 (u + 250 + 5) (by omega)).trans hpa
  have htx := (fr1 (u + 250 + 6) (by omega)).trans htx
  have hli := (fr1 (u + 250 + 7) (by omega)).trans hli
  refine v_callV (st := [.int (if sv = 0 then -1015 else nI (Sn 0 0))]) dL_law_1089 (t_X7_restore ho hsv hv hsd) wL_160 ho rfl rfl ⟨Nat.le_of_ble_eq_true rfl, Nat.le_of_ble_eq_true rfl⟩ (Nat.le_of_ble_eq_true rfl) ⟨by omega, by omega⟩ (fun r n2 h2 hq => ?_)
  obtain ⟨rfl, hn9, ho2, hv2, hsd2, fr2⟩ := hq
  replace hn9 := hn9.symm
  subst hn9
  refine v_st (st2 := [.int (if sv = 0 then -1015 else nI (Sn 0 0)), .int (if sv = 0 then -1015 else nI (Sn 0 0))]) rfl ?_
  refine v_icmp_eq (tgt := 1097) dL_law_1092 (by decide) (fun _ => ?_) (fun cc => absurd rfl cc)
  have e9 : (if sv = 0 then T.1 else 0) = (if sv = 0 then T else (0, T.2.1, T.2.2)).1 := by
    split <;> rfl
  rw [e9] at ho2
  refine kk n h2 _ _ (by omega) (by omega) ⟨sv, rs, dt, if sv = 0 then C else Sn, if sv = 0 then T else (0, T.2.1, T.2.2), Sn, TX, LN, wy, dtm, a1, a2, hun, ha12, ?_, ?_, ?_, ?_, ?_⟩
  · exact kA.fr ⟨(fr1 u (by omega)).trans hj, hc1, ⟨B, ct_frP hbe fr1 (fun q hq => by omega)⟩, ⟨Tr, ct_frP htr fr1 (fun q hq => by omega)⟩, ct_frP hsn fr1 (fun q hq => by omega), hh1⟩ (fun z z1 z2 => fr2 z (by omega))
  · exact (kB0.fr (Nat.le_refl _) (fun z hz => (fr2 z (by omega)).trans (fr1 z (by omega))))
  · exact (kC0.fr (Nat.le_refl _) (fun z hz => (fr2 z (by omega)).trans (fr1 z (by omega))))
  · refine ⟨⟨_, _, _, _, _, ho2⟩, hv2, ⟨B7, (fr2 _ (by omega)).trans hbe7⟩, hsd2, ⟨K7, (fr2 _ (by omega)).trans hkp7⟩, ⟨P7, (fr2 _ (by omega)).trans hpa, ?_⟩, ⟨X, (fr2 _ (by omega)).trans htx, hX⟩, Y, (fr2 _ (by omega)).trans hli, hY⟩
    by_cases q : sv = 0
    · rw [if_pos q]; exact hR9
    · rw [if_neg q]; exact fun z hz => absurd hz (Nat.not_lt_zero z)
  · refine kP.up (b := b) ?_ (by omega)
    by_cases q : sv = 0
    · rw [if_pos q, if_pos q]; exact kP0
    · rw [if_neg q, if_neg q]
      exact ⟨hIS, hKS, hIS, hKS, hTs, Nat.zero_le _, ht2, hsv, hts, hln, hrs⟩
