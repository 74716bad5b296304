abbrev mLn (nm : String) : vM := (⟨RL, nm, "([I)Z"⟩, cL_law, 10, some .boolean, 13, 514)
/-- what the law tells of a court, whatever is kept of before -/
def tdL (C : Ct) : Ln := toldL C (0, 0, fun _ => Z0)
theorem gt_k {k : Nat} (h : k < 2 ^ 28) : nI k > -1011 := by
  show (-1011 : Int32) < nI k
  rw [Int32.lt_iff_toInt_lt, nI_toInt (by omega)]
  show (-1011 : Int) < (k : Int)
  omega
theorem ngt_r {x : Int32} (h : x ≤ -1011) : ¬ x > -1011 := by
  rw [Int32.le_iff_toInt_le] at h
  show ¬ (-1011 : Int32) < x
  rw [Int32.lt_iff_toInt_lt]
  omega
theorem nle_k {k : Nat} (h : k < 2 ^ 28) : ¬ nI k ≤ -1011 := by
  rw [Int32.le_iff_toInt_le, nI_toInt (by omega)]
  show ¬ (k : Int) ≤ -1011
  omega
theorem neg_r {x : Int32} (h : x ≤ -1011) : x < 0 := by
  rw [Int32.le_iff_toInt_le] at h
  rw [Int32.lt_iff_toInt_lt]
  have h2 : Int32.toInt (-1011) = -1011 := by decide
  show x.toInt < 0
  omega
theorem nneg_k {k : Nat} (h : k < 2 ^ 28) : ¬ nI k < 0 := m1015 h
theorem hTop_k {C : Ct} {T : Hs} {k : Nat} (hk : k < 2 ^ 28) (hT : T.2.1 < 8) : hTop (hkp (nI k) C T) = C := by
  have e : hkp (nI k) C T = (min (T.1 + 1) 8, (T.2.1 + 1) % 8, su T.2.2 T.2.1 C) := if_neg (nneg_k hk)
  rw [e]
  show (if ((T.2.1 + 1) % 8 + 7) % 8 = T.2.1 then C else T.2.2 _) = C
  rw [if_pos (by omega)]
theorem hkp_k1 {C : Ct} {T : Hs} {k : Nat} (hk : k < 2 ^ 28) : (hkp (nI k) C T).1 = min (T.1 + 1) 8 := by
  have e : hkp (nI k) C T = (min (T.1 + 1) 8, (T.2.1 + 1) % 8, su T.2.2 T.2.1 C) := if_neg (nneg_k hk)
  rw [e]
theorem dec_k {x : Nat} (h : 0 < x) (h2 : x < 2 ^ 20) : nI x + Int32.ofInt (-1) = nI (x - 1) := by
  have e : nI x = nI (x - 1) + nI 1 := by rw [nI_add]; congr 1; omega
  rw [e, show Int32.ofInt (-1) = -nI 1 by decide, Int32.add_assoc, Int32.add_right_neg, Int32.add_zero]
set_option maxRecDepth 20000 in
set_option maxHeartbeats 8000000 in
theorem law_chk {nm : String} {l : Launch} {G : vG} {rc rs9 : Nat} {Fz : vFin} {u n : Nat} {h : AH} {b i cells slots : Nat} {a : Nat} {LN : Ln} {C : Ct} {T : Hs} {Sn : Ct} {sv : Nat} {rs dt : Int32} (g : gd b C) (o : oP G u n h a LN C T Sn sv rs dt) (hT : T.1 ≤ 8) (hb9 : b ≤ 145000) (hi : i < 16) (hf : cells + 3700 ≤ rc ∧ slots + 165000 ≤ rs9) (kk : ∀ (n2 : Nat) (h2 : AH) (c2 s2 : Nat) (a2 : Nat) (L2 : Ln) (C2 : Ct) (T2 : Hs) (Sn2 : Ct) (sv2 : Nat) (rs2 dt2 : Int32), c2 ≤ cells + 3700 → s2 ≤ slots + 165000 → gd b C2 → oP G u n2 h2 a2 L2 C2 T2 Sn2 sv2 rs2 dt2 → V l G (mLn nm) rc rs9 Fz 503 [some (.ref (gA G 2 2)), some (.ref u), some (.int (nI (2 * i + 2))), some (.int (nI 36)), some (.int (nI i)), none, none, none, none, none] [] n2 h2 c2 s2) : V l G (mLn nm) rc rs9 Fz 409 [some (.ref (gA G 2 2)), some (.ref u), some (.int (nI (2 * i + 2))), some (.int (nI 36)), some (.int (nI i)), none, none, some (.int (nI T.1)), none, none] [] n h cells slots := by
  have hun := o.n
  obtain ⟨hf1, hf2⟩ := hf
  refine v_aload_n dL_law_409 rfl ?_
  refine v_bipush (v := nI 14) dL_law_410 (by decide) ?_
  refine v_ask (st := []) (v2 := nI T.1) dL_law_412 (o_account g o) (qAcc_at (w := 14) (by decide)) wL_34 o.he rfl rfl ⟨Nat.le_of_ble_eq_true rfl, Nat.le_of_ble_eq_true rfl⟩ (Nat.le_of_ble_eq_true rfl) ⟨by omega, by omega⟩ ?_
  have b21 : T.1 < 2 ^ 28 := acN_b (T := T) (w := 14) g hT
  refine v_iload dL_law_415 rfl ?_
  refine n_icmp_ne (tgt := 457) (x := T.1) (y := T.1) dL_law_417 (by decide) (by omega) (by omega) (fun c => (by exfalso; omega)) (fun _ => ?_)
  refine v_aload_n dL_law_420 rfl ?_
  refine v_bipush (v := nI 13) dL_law_421 (by decide) ?_
  refine v_ask (st := []) (v2 := nI 0) dL_law_423 (o_account g o) (qAcc_at (w := 13) (by decide)) wL_34 o.he rfl rfl ⟨Nat.le_of_ble_eq_true rfl, Nat.le_of_ble_eq_true rfl⟩ (Nat.le_of_ble_eq_true rfl) ⟨by omega, by omega⟩ ?_
  refine n_if_ne (tgt := 457) (x := 0) dL_law_426 (by decide) (by decide) (fun c => absurd c (by decide)) (fun _ => ?_)
  refine v_aload_n dL_law_429 rfl ?_
  refine v_callS (st := []) dL_law_430 (t_L_jokes g o o.1.2.2.2.2.2.2.1) wL_198 rfl ⟨Nat.le_of_ble_eq_true rfl, Nat.le_of_ble_eq_true rfl⟩ (Nat.le_of_ble_eq_true rfl) ⟨by omega, by omega⟩ (fun r n22 h22 hq => ?_)
  obtain ⟨rfl, a22, L22, hn22, ha22, hb22, ho22, fr22⟩ := hq
  refine v_st (st2 := [.int (nI 1)]) rfl ?_
  refine v_widen (k1 := cells + 1) (k2 := slots + 4) (by omega) (by omega) ?_
  refine n_if_eq (tgt := 457) (x := 1) dL_law_433 (by decide) (by decide) (fun c => absurd c (by decide)) (fun _ => ?_)
  refine v_aload_n dL_law_436 rfl ?_
  refine v_callS (st := []) dL_law_437 (t_L_fools g ho22 ho22.1.2.2.2.2.2.2.1 hb9) wL_202 rfl ⟨Nat.le_of_ble_eq_true rfl, Nat.le_of_ble_eq_true rfl⟩ (Nat.le_of_ble_eq_true rfl) ⟨by omega, by omega⟩ (fun r n23 h23 hq => ?_)
  obtain ⟨rfl, a23, L23, hn23, ha23, hb23, ho23, fr23⟩ := hq
  refine v_st (st2 := [.int (nI 1)]) rfl ?_
  refine v_widen (k1 := cells + 1 + 500) (k2 := slots + 4 + 27000) (by omega) (by omega) ?_
  refine n_if_eq (tgt := 457) (x := 1) dL_law_440 (by decide) (by decide) (fun c => absurd c (by decide)) (fun _ => ?_)
  refine v_aload_n dL_law_443 rfl ?_
  refine v_callS (st := []) dL_law_444 (t_L_bookings g ho23 ho23.1.2.2.2.2.2.2.1) wL_205 rfl ⟨Nat.le_of_ble_eq_true rfl, Nat.le_of_ble_eq_true rfl⟩ (Nat.le_of_ble_eq_true rfl) ⟨by omega, by omega⟩ (fun r n24 h24 hq => ?_)
  obtain ⟨rfl, a24, L24, hn24, ha24, hb24, ho24, fr24⟩ := hq
  refine v_st (st2 := [.int (nI 1)]) rfl ?_
  refine v_widen (k1 := cells + 1 + 500 + 140) (k2 := slots + 4 + 27000 + 13500) (by omega) (by omega) ?_
  refine n_if_eq (tgt := 457) (x := 1) dL_law_447 (by decide) (by decide) (fun c => absurd c (by decide)) (fun _ => ?_)
  refine v_aload_n dL_law_450 rfl ?_
  refine v_callS (st := []) dL_law_451 (t_L_laughs g ho24 ho24.1.2.2.2.2.2.2.1) wL_208 rfl ⟨Nat.le_of_ble_eq_true rfl, Nat.le_of_ble_eq_true rfl⟩ (Nat.le_of_ble_eq_true rfl) ⟨by omega, by omega⟩ (fun r n25 h25 hq => ?_)
  obtain ⟨rfl, a25, L25, hn25, ha25, hb25, ho25, fr25⟩ := hq
  refine v_st (st2 := [.int (nI 1)]) rfl ?_
  refine v_widen (k1 := cells + 1 + 500 + 140 + 0) (k2 := slots + 4 + 27000 + 13500 + 0) (by omega) (by omega) ?_
  refine n_if_ne (tgt := 459) (x := 1) dL_law_454 (by decide) (by decide) (fun _ => ?_) (fun c => absurd c (by decide))
  refine v_iload dL_law_459 rfl ?_
  refine v_iconst (v := nI 3) dL_law_461 (by decide) ?_
  refine n_irem (x := i) (y := 3) dL_law_462 (by omega) (by omega) (by omega) ?_
  refine v_iconst (v := nI 2) dL_law_463 (by decide) ?_
  refine n_icmp_ne (tgt := 503) (x := i % 3) (y := 2) dL_law_464 (by decide) (by omega) (by omega) (fun c26 => ?_) (fun c26 => ?_)
  · refine v_forget 7 ?_
    refine v_ls (ls2 := [some (.ref (gA G 2 2)), some (.ref u), some (.int (nI (2 * i + 2))), some (.int (nI 36)), some (.int (nI i)), none, none, none, none, none]) rfl ?_
    exact kk _ _ _ _ _ _ _ _ _ _ _ _ (by omega) (by omega) g ho25
  · refine v_aload_n dL_law_467 rfl ?_
    have hT27 := ho25.1.2.2.2.2.2.2.1
    refine v_callS (st := []) dL_law_468 (t_L_told g ho25 hT27) wL_188 rfl ⟨Nat.le_of_ble_eq_true rfl, Nat.le_of_ble_eq_true rfl⟩ (Nat.le_of_ble_eq_true rfl) ⟨by omega, by omega⟩ (fun r n27 h27 hq => ?_)
    obtain ⟨q27, qa27, a27, L27, rfl, hn27, hx27, hy27, hs27, hl27, ha27, hb27, hc27, ho27, fr27⟩ := hq
    rw [toldL_T (U := (0, 0, fun _ => Z0))] at hs27 hl27
    have ht27 : strP G h27 q27 qa27 (tdL C) := hs27
    have hw27 : (tdL C).2 ≤ 5000 := hl27
    have hd27 : q27 ≠ a27 := fun e => by obtain ⟨m9, f9, e9⟩ := ho27.ar; have e8 := ht27.1; rw [e, e9] at e8; cases e8
    refine v_st (st2 := [.ref q27]) rfl ?_
    refine v_widen (k1 := cells + 1 + 500 + 140 + 0 + 1500) (k2 := slots + 4 + 27000 + 13500 + 0 + 60000) (by omega) (by omega) ?_
    refine v_astore dL_law_471 rfl (Nat.le_of_ble_eq_true rfl) ?_
    refine v_ls (ls2 := [some (.ref (gA G 2 2)), some (.ref u), some (.int (nI (2 * i + 2))), some (.int (nI 36)), some (.int (nI i)), none, none, some (.int (nI T.1)), some (.ref q27), none]) rfl ?_
    refine v_aload_n dL_law_473 rfl ?_
    refine v_callS (st := []) dL_law_474 (t_L_foretold g ho27 ho27.1.2.2.2.2.2.2.1 hb9) wL_211 rfl ⟨Nat.le_of_ble_eq_true rfl, Nat.le_of_ble_eq_true rfl⟩ (Nat.le_of_ble_eq_true rfl) ⟨by omega, by omega⟩ (fun r n2 h2 hq => ?_)
    obtain ⟨rfl, hn9, T28, rs28, dt28, hz28, ho28, fr28⟩ := hq; replace hn9 := hn9.symm; subst hn9
    refine v_st (st2 := [.int (nI 1)]) rfl ?_
    have hs29 := strP.fr ht27 (fr28 (q27) (by omega)) (fr28 (qa27) (by omega))
    refine n_if_eq (tgt := 501) (x := 1) dL_law_477 (by decide) (by decide) (fun c => absurd c (by decide)) (fun _ => ?_)
    refine v_aload dL_law_480 rfl ?_
    refine v_aload_n dL_law_482 rfl ?_
    have hT30 := ho28.1.2.2.2.2.2.2.1
    refine v_callS (st := [.ref q27]) dL_law_483 (t_L_told g ho28 hT30) wL_188 rfl ⟨Nat.le_of_ble_eq_true rfl, Nat.le_of_ble_eq_true rfl⟩ (Nat.le_of_ble_eq_true rfl) ⟨by omega, by omega⟩ (fun r n30 h30 hq => ?_)
    obtain ⟨q30, qa30, a30, L30, rfl, hn30, hx30, hy30, hs30, hl30, ha30, hb30, hc30, ho30, fr30⟩ := hq
    rw [toldL_T (U := (0, 0, fun _ => Z0))] at hs30 hl30
    have ht30 : strP G h30 q30 qa30 (tdL C) := hs30
    have hw30 : (tdL C).2 ≤ 5000 := hl30
    have hd30 : q30 ≠ a30 := fun e => by obtain ⟨m9, f9, e9⟩ := ho30.ar; have e8 := ht30.1; rw [e, e9] at e8; cases e8
    refine v_st (st2 := [.ref q30, .ref q27]) rfl ?_
    have hs31 := strP.fr hs29 (fr30 (q27) (by omega)) (fr30 (qa27) (by omega))
    refine v_widen (k1 := cells + 1 + 500 + 140 + 0 + 1500 + 1500) (k2 := slots + 4 + 27000 + 13500 + 0 + 60000 + 60000) (by omega) (by omega) ?_
    refine v_eqS (st := []) dL_law_486 hs31 ht30 wL_135 ⟨Nat.le_of_ble_eq_true rfl, Nat.le_of_ble_eq_true rfl⟩ (Nat.le_of_ble_eq_true rfl) (by omega) (by omega) (by omega) ?_
    refine n_if_eq (tgt := 501) (x := 1) dL_law_489 (by decide) (by decide) (fun c => absurd c (by decide)) (fun _ => ?_)
    refine v_aload_n dL_law_492 rfl ?_
    refine v_bipush (v := nI 14) dL_law_493 (by decide) ?_
    refine v_ask (st := []) (v2 := nI T28.1) dL_law_495 (o_account g ho30) (qAcc_at (w := 14) (by decide)) wL_34 ho30.he rfl rfl ⟨Nat.le_of_ble_eq_true rfl, Nat.le_of_ble_eq_true rfl⟩ (Nat.le_of_ble_eq_true rfl) ⟨by omega, by omega⟩ ?_
    have b32 : T28.1 < 2 ^ 28 := acN_b (T := T28) (w := 14) g ho28.1.2.2.2.2.2.2.1
    refine n_if_eq (tgt := 503) (x := T28.1) dL_law_498 (by decide) (by omega) (fun _ => ?_) (fun c => (by exfalso; omega))
    refine v_forget 7 ?_
    refine v_forget 8 ?_
    refine v_ls (ls2 := [some (.ref (gA G 2 2)), some (.ref u), some (.int (nI (2 * i + 2))), some (.int (nI 36)), some (.int (nI i)), none, none, none, none, none]) rfl ?_
    exact kk _ _ _ _ _ _ _ _ _ _ _ _ (by omega) (by omega) g ho30
set_option maxRecDepth 20000 in
set_option maxHeartbeats 8000000 in
theorem law_it {nm : String} {l : Launch} {G : vG} {rc rs9 : Nat} {Fz : vFin} {u n : Nat} {h : AH} {b i cells slots : Nat} {a : Nat} {LN : Ln} {C : Ct} {T : Hs} {Sn : Ct} {sv : Nat} {rs dt : Int32} (g : gd b C) (o : oP G u n h a LN C T Sn sv rs dt) (hb9 : b ≤ 140000) (hL : gA G 2 3 ≤ 260) (hi : i < 16) (hf : cells + 7000 ≤ rc ∧ slots + 290000 ≤ rs9) (kk : ∀ (n2 : Nat) (h2 : AH) (c2 s2 : Nat) (a2 : Nat) (L2 : Ln) (C2 : Ct) (T2 : Hs) (Sn2 : Ct) (sv2 : Nat) (rs2 dt2 : Int32), c2 ≤ cells + 7000 → s2 ≤ slots + 290000 → gd (b + 3000) C2 → oP G u n2 h2 a2 L2 C2 T2 Sn2 sv2 rs2 dt2 → V l G (mLn nm) rc rs9 Fz 503 [some (.ref (gA G 2 2)), some (.ref u), some (.int (nI (2 * i + 2))), some (.int (nI 36)), some (.int (nI i)), none, none, none, none, none] [] n2 h2 c2 s2) : V l G (mLn nm) rc rs9 Fz 266 [some (.ref (gA G 2 2)), some (.ref u), some (.int (nI (2 * i))), some (.int (nI 36)), some (.int (nI i)), none, none, none, none, none] [] n h cells slots := by
  have hun := o.n
  have hT := o.1.2.2.2.2.2.2.1
  obtain ⟨hf1, hf2⟩ := hf
  refine v_aload_n dL_law_266 rfl ?_
  refine v_iload_n dL_law_267 rfl ?_
  refine v_callS (st := []) dL_law_268 (t_L_cell (i := 2 * i) (by omega) hL) wL_181 rfl ⟨Nat.le_of_ble_eq_true rfl, Nat.le_of_ble_eq_true rfl⟩ (Nat.le_of_ble_eq_true rfl) ⟨by omega, by omega⟩ (fun r n2 h2 hq => ?_)
  obtain ⟨⟨x21, rfl⟩, hn9, rfl⟩ := hq; replace hn9 := hn9.symm; subst hn9
  refine v_st (st2 := [.int x21]) rfl ?_
  refine v_sipush (v := nI 255) dL_law_271 (by decide) ?_
  refine v_iand dL_law_274 ?_
  refine v_istore dL_law_275 rfl (Nat.le_of_ble_eq_true rfl) ?_
  refine v_ls (ls2 := [some (.ref (gA G 2 2)), some (.ref u), some (.int (nI (2 * i))), some (.int (nI 36)), some (.int (nI i)), some (.int ((x21 &&& nI 255))), none, none, none, none]) rfl ?_
  refine nnX7 dL_law_277 q4_55 (by omega) (by omega) (fun h1 f1 s1 => ?_)
  have fa22 := f1
  have sa22 := s1
  clear f1 s1
  have ho23 : oP G u n _ a LN C T Sn sv rs dt := oP.fr o (by omega) (fun z hz1 hz2 => sa22 z (by omega)) (sa22 a (by omega))
  refine v_dup dL_law_280 rfl ?_
  refine v_aload_n dL_law_281 rfl ?_
  refine v_iload_n dL_law_282 rfl ?_
  refine v_iconst (v := nI 1) dL_law_283 (by decide) ?_
  refine n_iadd (x := 2 * i) (y := 1) dL_law_284 ?_
  refine v_callS (st := [.ref n, .ref n]) dL_law_285 (t_L_cell (i := (2 * i) + 1) (by omega) hL) wL_181 rfl ⟨Nat.le_of_ble_eq_true rfl, Nat.le_of_ble_eq_true rfl⟩ (Nat.le_of_ble_eq_true rfl) ⟨by omega, by omega⟩ (fun r n2 h2 hq => ?_)
  obtain ⟨⟨x24, rfl⟩, hn9, rfl⟩ := hq; replace hn9 := hn9.symm; subst hn9
  refine v_st (st2 := [.int x24, .ref n, .ref n]) rfl ?_
  refine v_callI (st := [.ref n]) dL_law_288 (t_X7_init (x := x24) fa22) wL_185 rfl rfl ⟨Nat.le_of_ble_eq_true rfl, Nat.le_of_ble_eq_true rfl⟩ (Nat.le_of_ble_eq_true rfl) ⟨by omega, by omega⟩ (fun r n2 h2 hq => ?_)
  obtain ⟨rfl, hn9, fb25, sa25⟩ := hq; replace hn9 := hn9.symm; subst hn9
  refine v_st (st2 := [.ref n]) rfl ?_
  have ho26 : oP G u (n + 1) _ a LN C T Sn sv rs dt := oP.fr ho23 (by omega) (fun z hz1 hz2 => sa25 z (by omega)) (sa25 a (by omega))
  refine v_astore dL_law_291 rfl (Nat.le_of_ble_eq_true rfl) ?_
  refine v_ls (ls2 := [some (.ref (gA G 2 2)), some (.ref u), some (.int (nI (2 * i))), some (.int (nI 36)), some (.int (nI i)), some (.int ((x21 &&& nI 255))), some (.ref n), none, none, none]) rfl ?_
  refine n_iinc (k := 2) (x := 2 * i) dL_law_293 (by decide) rfl rfl (Nat.le_of_ble_eq_true rfl) ?_
  refine v_ls (ls2 := [some (.ref (gA G 2 2)), some (.ref u), some (.int (nI (2 * i + 2))), some (.int (nI 36)), some (.int (nI i)), some (.int ((x21 &&& nI 255))), some (.ref n), none, none, none]) rfl ?_
  refine v_aload_n dL_law_296 rfl ?_
  refine v_bipush (v := nI 14) dL_law_297 (by decide) ?_
  refine v_ask (st := []) (v2 := nI T.1) dL_law_299 (o_account g ho26) (qAcc_at (w := 14) (by decide)) wL_34 ho26.he rfl rfl ⟨Nat.le_of_ble_eq_true rfl, Nat.le_of_ble_eq_true rfl⟩ (Nat.le_of_ble_eq_true rfl) ⟨by omega, by omega⟩ ?_
  have b27 : T.1 < 2 ^ 28 := acN_b (T := T) (w := 14) g hT
  refine v_istore dL_law_302 rfl (Nat.le_of_ble_eq_true rfl) ?_
  refine v_ls (ls2 := [some (.ref (gA G 2 2)), some (.ref u), some (.int (nI (2 * i + 2))), some (.int (nI 36)), some (.int (nI i)), some (.int ((x21 &&& nI 255))), some (.ref n), some (.int (nI T.1)), none, none]) rfl ?_
  refine v_aload_n dL_law_304 rfl ?_
  have hT28 := ho26.1.2.2.2.2.2.2.1
  refine v_callS (st := []) dL_law_305 (t_L_told g ho26 hT28) wL_188 rfl ⟨Nat.le_of_ble_eq_true rfl, Nat.le_of_ble_eq_true rfl⟩ (Nat.le_of_ble_eq_true rfl) ⟨by omega, by omega⟩ (fun r n28 h28 hq => ?_)
  obtain ⟨q28, qa28, a28, L28, rfl, hn28, hx28, hy28, hs28, hl28, ha28, hb28, hc28, ho28, fr28⟩ := hq
  rw [toldL_T (U := (0, 0, fun _ => Z0))] at hs28 hl28
  have ht28 : strP G h28 q28 qa28 (tdL C) := hs28
  have hw28 : (tdL C).2 ≤ 5000 := hl28
  have hd28 : q28 ≠ a28 := fun e => by obtain ⟨m9, f9, e9⟩ := ho28.ar; have e8 := ht28.1; rw [e, e9] at e8; cases e8
  refine v_st (st2 := [.ref q28]) rfl ?_
  have fb29 := (fr28 (n) (by omega)).trans fb25
  refine v_widen (k1 := cells + 1 + 1500) (k2 := slots + 1 + 60000) (by omega) (by omega) ?_
  refine v_astore dL_law_308 rfl (Nat.le_of_ble_eq_true rfl) ?_
  refine v_ls (ls2 := [some (.ref (gA G 2 2)), some (.ref u), some (.int (nI (2 * i + 2))), some (.int (nI 36)), some (.int (nI i)), some (.int ((x21 &&& nI 255))), some (.ref n), some (.int (nI T.1)), some (.ref q28), none]) rfl ?_
  refine v_aload_n dL_law_310 rfl ?_
  refine v_iload dL_law_311 rfl ?_
  refine v_aload dL_law_313 rfl ?_
  refine v_callS (st := []) dL_law_315 (t_L_acts (y := (x21 &&& nI 255)) g ho28 ho28.1.2.2.2.2.2.2.1 fb29 (by omega)) wL_191 rfl ⟨Nat.le_of_ble_eq_true rfl, Nat.le_of_ble_eq_true rfl⟩ (Nat.le_of_ble_eq_true rfl) ⟨by omega, by omega⟩ (fun r n2 h2 hq => ?_)
  obtain ⟨R, gjR, rfl, hn9, hoR, ⟨B2, fbR⟩, frR⟩ := hq; replace hn9 := hn9.symm; subst hn9
  have hs30 := strP.fr ht28 (frR (q28) (by omega)) (frR (qa28) (by omega))
  have gR := gd_gj g gjR (by omega)
  have hTo := o.1.2.2.2.2.2.2
  rcases gjR.2.2.2 with ⟨hneg, hsame⟩ | ⟨k, hk, hpos⟩
  · have eT : hkp R.1 C T = T := if_pos (neg_r hneg)
    rw [hsame, eT] at hoR
    refine v_st (st2 := [.int R.1]) rfl ?_
    refine v_istore dL_law_318 rfl (Nat.le_of_ble_eq_true rfl) ?_
    refine v_ls (ls2 := [some (.ref (gA G 2 2)), some (.ref u), some (.int (nI (2 * i + 2))), some (.int (nI 36)), some (.int (nI i)), some (.int ((x21 &&& nI 255))), some (.ref n), some (.int (nI T.1)), some (.ref q28), some (.int R.1)]) rfl ?_
    refine v_iload dL_law_320 rfl ?_
    refine v_sipush (v := (-1011)) dL_law_322 (by decide) ?_
    refine v_icmp_gt (tgt := 342) dL_law_325 (by decide) (fun c => absurd c (ngt_r hneg)) (fun _ => ?_)
    refine v_aload dL_law_328 rfl ?_
    refine v_aload_n dL_law_330 rfl ?_
    have hT31 := hoR.1.2.2.2.2.2.2.1
    refine v_callS (st := [.ref q28]) dL_law_331 (t_L_told g hoR hT31) wL_188 rfl ⟨Nat.le_of_ble_eq_true rfl, Nat.le_of_ble_eq_true rfl⟩ (Nat.le_of_ble_eq_true rfl) ⟨by omega, by omega⟩ (fun r n31 h31 hq => ?_)
    obtain ⟨q31, qa31, a31, L31, rfl, hn31, hx31, hy31, hs31, hl31, ha31, hb31, hc31, ho31, fr31⟩ := hq
    rw [toldL_T (U := (0, 0, fun _ => Z0))] at hs31 hl31
    have ht31 : strP G h31 q31 qa31 (tdL C) := hs31
    have hw31 : (tdL C).2 ≤ 5000 := hl31
    have hd31 : q31 ≠ a31 := fun e => by obtain ⟨m9, f9, e9⟩ := ho31.ar; have e8 := ht31.1; rw [e, e9] at e8; cases e8
    refine v_st (st2 := [.ref q31, .ref q28]) rfl ?_
    have hs32 := strP.fr hs30 (fr31 (q28) (by omega)) (fr31 (qa28) (by omega))
    have fb33 := (fr31 (n) (by omega)).trans fbR
    refine v_widen (k1 := cells + 1 + 1500 + 1500) (k2 := slots + 1 + 60000 + 60000) (by omega) (by omega) ?_
    refine v_eqS (st := []) dL_law_334 hs32 ht31 wL_135 ⟨Nat.le_of_ble_eq_true rfl, Nat.le_of_ble_eq_true rfl⟩ (Nat.le_of_ble_eq_true rfl) (by omega) (by omega) (by omega) ?_
    refine n_if_ne (tgt := 342) (x := 1) dL_law_337 (by decide) (by decide) (fun _ => ?_) (fun c => absurd c (by decide))
    refine v_iload dL_law_342 rfl ?_
    refine v_sipush (v := (-1011)) dL_law_344 (by decide) ?_
    refine v_icmp_gt (tgt := 355) dL_law_347 (by decide) (fun c => absurd c (ngt_r hneg)) (fun _ => ?_)
    refine v_iload dL_law_350 rfl ?_
    refine v_goto (tgt := 364) dL_law_352 (by decide) ?_
    refine v_istore dL_law_364 rfl (Nat.le_of_ble_eq_true rfl) ?_
    refine v_ls (ls2 := [some (.ref (gA G 2 2)), some (.ref u), some (.int (nI (2 * i + 2))), some (.int (nI 36)), some (.int (nI i)), some (.int ((x21 &&& nI 255))), some (.ref n), some (.int (nI T.1)), some (.ref q28), some (.int R.1)]) rfl ?_
    refine v_iload dL_law_366 rfl ?_
    refine v_sipush (v := (-1011)) dL_law_368 (by decide) ?_
    refine v_icmp_le (tgt := 409) dL_law_371 (by decide) (fun _ => ?_) (fun c => absurd (hneg) c)
    refine v_forget 5 ?_
    refine v_forget 6 ?_
    refine v_forget 8 ?_
    refine v_forget 9 ?_
    refine v_ls (ls2 := [some (.ref (gA G 2 2)), some (.ref u), some (.int (nI (2 * i + 2))), some (.int (nI 36)), some (.int (nI i)), none, none, some (.int (nI T.1)), none, none]) (rfl) ?_
    refine law_chk (b := b + 3000) (gd_up g (by omega) (by omega)) ho31 ho31.1.2.2.2.2.2.2.1 (by omega) hi ⟨by omega, by omega⟩ (fun n2 h2 c2 s2 a2 L2 C2 T2 Sn2 sv2 rs2 dt2 hc2 hs2 g2 o2 => ?_)
    exact kk _ _ _ _ _ _ _ _ _ _ _ _ (by omega) (by omega) g2 o2
  · have hpos2 := hpos
    refine v_st (st2 := [.int (nI k)]) (by rw [hpos]; rfl) ?_
    rw [hpos] at hoR
    refine v_istore dL_law_318 rfl (Nat.le_of_ble_eq_true rfl) ?_
    refine v_ls (ls2 := [some (.ref (gA G 2 2)), some (.ref u), some (.int (nI (2 * i + 2))), some (.int (nI 36)), some (.int (nI i)), some (.int ((x21 &&& nI 255))), some (.ref n), some (.int (nI T.1)), some (.ref q28), some (.int (nI k))]) rfl ?_
    refine v_iload dL_law_320 rfl ?_
    refine v_sipush (v := (-1011)) dL_law_322 (by decide) ?_
    refine v_icmp_gt (tgt := 342) dL_law_325 (by decide) (fun _ => ?_) (fun c => absurd (gt_k hk) c)
    refine v_iload dL_law_342 rfl ?_
    refine v_sipush (v := (-1011)) dL_law_344 (by decide) ?_
    refine v_icmp_gt (tgt := 355) dL_law_347 (by decide) (fun _ => ?_) (fun c => absurd (gt_k hk) c)
    refine v_bipush (v := nI 8) dL_law_355 (by decide) ?_
    refine v_iload dL_law_357 rfl ?_
    refine v_iconst (v := nI 1) dL_law_359 (by decide) ?_
    refine n_iadd (x := T.1) (y := 1) dL_law_360 ?_
    refine n_min (x := 8) (y := T.1 + 1) dL_law_361 q5_131 q2_70 q1_12 q2_71 (Nat.le_of_ble_eq_true rfl) (Nat.le_of_ble_eq_true rfl) (by omega) (by omega) (by omega) (by omega) ?_
    refine v_istore dL_law_364 rfl (Nat.le_of_ble_eq_true rfl) ?_
    refine v_ls (ls2 := [some (.ref (gA G 2 2)), some (.ref u), some (.int (nI (2 * i + 2))), some (.int (nI 36)), some (.int (nI i)), some (.int ((x21 &&& nI 255))), some (.ref n), some (.int (nI (min 8 (T.1 + 1)))), some (.ref q28), some (.int (nI k))]) rfl ?_
    refine v_iload dL_law_366 rfl ?_
    refine v_sipush (v := (-1011)) dL_law_368 (by decide) ?_
    refine v_icmp_le (tgt := 409) dL_law_371 (by decide) (fun c => absurd c (nle_k hk)) (fun _ => ?_)
    refine v_aload dL_law_374 rfl ?_
    refine v_iconst (v := nI 4) dL_law_376 (by decide) ?_
    refine v_callV (st := []) dL_law_377 (t_X7_next (B := B2) (m := nI 4) fbR (by decide)) wL_23 fbR rfl rfl ⟨Nat.le_of_ble_eq_true rfl, Nat.le_of_ble_eq_true rfl⟩ (Nat.le_of_ble_eq_true rfl) ⟨by omega, by omega⟩ (fun r n2 h2 hq => ?_)
    obtain ⟨⟨x34, rfl⟩, hn9, ⟨B34, fb34⟩, sa34⟩ := hq; replace hn9 := hn9.symm; subst hn9
    refine v_st (st2 := [.int x34]) rfl ?_
    have hs35 := strP.fr hs30 (sa34 (q28) (by omega)) (sa34 (qa28) (by omega))
    have ho36 : oP G u n28 _ a28 L28 ((R.2.1)) ((hkp (nI k) C T)) Sn sv ((rf1 R.2.2 rs)) ((rf2 R.2.2 dt)) := oP.fr hoR (by omega) (fun z hz1 hz2 => sa34 z (by omega)) (sa34 a28 (by omega))
    refine v_if_ne (tgt := 409) dL_law_380 (by decide) (fun c37 => ?_) (fun c37 => ?_)
    · refine v_forget 5 ?_
      refine v_forget 6 ?_
      refine v_forget 8 ?_
      refine v_forget 9 ?_
      refine v_ls (ls2 := [some (.ref (gA G 2 2)), some (.ref u), some (.int (nI (2 * i + 2))), some (.int (nI 36)), some (.int (nI i)), none, none, some (.int (nI ((hkp (nI k) C T).1))), none, none]) (by rw [show min 8 (T.1 + 1) = (hkp (nI k) C T).1 from by rw [hkp_k1 hk]; omega]; rfl) ?_
      refine law_chk (b := b + 3000) (gR) ho36 ho36.1.2.2.2.2.2.2.1 (by omega) hi ⟨by omega, by omega⟩ (fun n2 h2 c2 s2 a2 L2 C2 T2 Sn2 sv2 rs2 dt2 hc2 hs2 g2 o2 => ?_)
      exact kk _ _ _ _ _ _ _ _ _ _ _ _ (by omega) (by omega) g2 o2
    · refine v_iinc dL_law_383 rfl rfl (Nat.le_of_ble_eq_true rfl) ?_
      refine v_ls (ls2 := [some (.ref (gA G 2 2)), some (.ref u), some (.int (nI (2 * i + 2))), some (.int (nI 36)), some (.int (nI i)), some (.int ((x21 &&& nI 255))), some (.ref n), some (.int (nI (min 8 (T.1 + 1) - 1))), some (.ref q28), some (.int (nI k))]) (by rw [← dec_k (x := min 8 (T.1 + 1)) (by omega) (by omega)]; rfl) ?_
      refine v_aload_n dL_law_386 rfl ?_
      have e81 := hkp_k1 (C := C) (T := T) hk
      refine v_callV (st := []) dL_law_387 (o_undo ho36) wL_171 ho36.he rfl rfl ⟨Nat.le_of_ble_eq_true rfl, Nat.le_of_ble_eq_true rfl⟩ (Nat.le_of_ble_eq_true rfl) ⟨by omega, by omega⟩ (fun r n2 h2 hq => ?_)
      obtain ⟨rfl, hn9, ho38, sa38⟩ := ou_of ho36 hq; replace hn9 := hn9.symm; subst hn9
      rw [if_neg (show ¬ (hkp (nI k) C T).1 = 0 by omega), if_neg (show ¬ (hkp (nI k) C T).1 = 0 by omega), hTop_k hk hTo.2] at ho38
      refine v_st (st2 := [.int (nI ((hkp (nI k) C T).1 - 1))]) (by rw [if_neg (show ¬ (hkp (nI k) C T).1 = 0 by omega)]; rfl) ?_
      have hs39 := strP.fr hs35 (sa38 (q28) (by omega)) (sa38 (qa28) (by omega))
      have fb40 := (sa38 (n) (by omega)).trans fb34
      refine v_iload dL_law_390 rfl ?_
      refine n_icmp_ne (tgt := 407) (x := (hkp (nI k) C T).1 - 1) (y := min 8 (T.1 + 1) - 1) dL_law_392 (by decide) (by omega) (by omega) (fun c => absurd (show (hkp (nI k) C T).1 - 1 = min 8 (T.1 + 1) - 1 by omega) c) (fun _ => ?_)
      refine v_aload dL_law_395 rfl ?_
      refine v_aload_n dL_law_397 rfl ?_
      have hT41 := ho38.1.2.2.2.2.2.2.1
      refine v_callS (st := [.ref q28]) dL_law_398 (t_L_told g ho38 hT41) wL_188 rfl ⟨Nat.le_of_ble_eq_true rfl, Nat.le_of_ble_eq_true rfl⟩ (Nat.le_of_ble_eq_true rfl) ⟨by omega, by omega⟩ (fun r n41 h41 hq => ?_)
      obtain ⟨q41, qa41, a41, L41, rfl, hn41, hx41, hy41, hs41, hl41, ha41, hb41, hc41, ho41, fr41⟩ := hq
      rw [toldL_T (U := (0, 0, fun _ => Z0))] at hs41 hl41
      have ht41 : strP G h41 q41 qa41 (tdL C) := hs41
      have hw41 : (tdL C).2 ≤ 5000 := hl41
      have hd41 : q41 ≠ a41 := fun e => by obtain ⟨m9, f9, e9⟩ := ho41.ar; have e8 := ht41.1; rw [e, e9] at e8; cases e8
      refine v_st (st2 := [.ref q41, .ref q28]) rfl ?_
      have hs42 := strP.fr hs39 (fr41 (q28) (by omega)) (fr41 (qa28) (by omega))
      have fb43 := (fr41 (n) (by omega)).trans fb40
      refine v_widen (k1 := cells + 1 + 1500 + 1500) (k2 := slots + 1 + 60000 + 60000) (by omega) (by omega) ?_
      refine v_eqS (st := []) dL_law_401 hs42 ht41 wL_135 ⟨Nat.le_of_ble_eq_true rfl, Nat.le_of_ble_eq_true rfl⟩ (Nat.le_of_ble_eq_true rfl) (by omega) (by omega) (by omega) ?_
      refine n_if_ne (tgt := 409) (x := 1) dL_law_404 (by decide) (by decide) (fun _ => ?_) (fun c => absurd c (by decide))
      refine v_forget 5 ?_
      refine v_forget 6 ?_
      refine v_forget 8 ?_
      refine v_forget 9 ?_
      refine v_ls (ls2 := [some (.ref (gA G 2 2)), some (.ref u), some (.int (nI (2 * i + 2))), some (.int (nI 36)), some (.int (nI i)), none, none, some (.int (nI ((hpop (hkp (nI k) C T)).1))), none, none]) (by rw [show min 8 (T.1 + 1) - 1 = (hpop (hkp (nI k) C T)).1 from by show _ = (hkp (nI k) C T).1 - 1; rw [hkp_k1 hk]; omega]; rfl) ?_
      refine law_chk (b := b + 3000) (gd_up g (by omega) (by omega)) ho41 ho41.1.2.2.2.2.2.2.1 (by omega) hi ⟨by omega, by omega⟩ (fun n2 h2 c2 s2 a2 L2 C2 T2 Sn2 sv2 rs2 dt2 hc2 hs2 g2 o2 => ?_)
      exact kk _ _ _ _ _ _ _ _ _ _ _ _ (by omega) (by omega) g2 o2
