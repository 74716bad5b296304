theorem cnt_d {q : Nat → Prop} [DecidablePred q] {n : Nat} : cnt (fun z => decide (q z)) n + bI (q n) = cnt (fun z => decide (q z)) (n + 1) := by
  by_cases h : q n
  · rw [bI_t h, cnt_t (decide_eq_true h)]
  · rw [bI_f h, cnt_f (decide_eq_false h)]; rfl
theorem m1015 {k : Nat} (h : k < 2 ^ 28) : ¬ nI k < 0 := by
  rw [Int32.lt_iff_toInt_lt, nI_toInt (by omega)]
  show ¬ ((k : Int) < 0)
  omega
theorem own_lt {C : Ct} {j : Nat} (h : C 8 j < 2 ^ 28) : ((if hold C j then nI (C 8 j) else (-1015 : Int32)) < 0) ↔ ¬ hold C j := by
  by_cases z : hold C j
  · rw [if_pos z]; exact ⟨fun e => absurd e (m1015 h), fun e => absurd z e⟩
  · rw [if_neg z]; exact ⟨fun _ => z, fun _ => by decide⟩
theorem hol_p {C : Ct} {j : Nat} : 0 < hol C j ↔ hold C j := by
  unfold hol
  by_cases z : hold C j
  · rw [if_pos z]; exact ⟨fun _ => z, fun _ => by have : C 0 3 < C 9 j := z; omega⟩
  · rw [if_neg z]; exact ⟨fun e => absurd e (Nat.lt_irrefl _), fun e => absurd e z⟩
theorem hol_t {C : Ct} {j : Nat} (h : hold C j) : C 0 3 + hol C j = C 9 j := by
  have z : C 0 3 < C 9 j := h
  unfold hol
  rw [if_pos h]
  omega
theorem fi_0 {C : Ct} {j : Nat} (h : ¬ hold C j) : oN (-1015) (endF C j) = oN (-1015) (endF C (j + 1)) := by
  rw [endF]
  cases endF C j with
  | none => show _ = oN _ (if hold C j then _ else _); rw [if_neg h]
  | some e => show _ = oN _ (if hold C j ∧ _ then _ else _); rw [if_neg (fun z => h z.1)]
theorem fi_1 {C : Ct} {j : Nat} (hB : bd C) (h : hold C j) (h1 : oN (-1015) (endF C j) < 0) : nI (C 9 j) = oN (-1015) (endF C (j + 1)) := by
  rw [endF]
  cases he : endF C j with
  | none => show _ = oN _ (if hold C j then _ else _); rw [if_pos h]; rfl
  | some e => rw [he] at h1; exact absurd h1 (m1015 (endF_bd hB he))
theorem fi_2 {C : Ct} {j : Nat} (hB : bd C) (h : hold C j) (h1 : ¬ oN (-1015) (endF C j) < 0) (h2 : ¬ nI (C 9 j) ≥ oN (-1015) (endF C j)) : nI (C 9 j) = oN (-1015) (endF C (j + 1)) := by
  rw [endF]
  cases he : endF C j with
  | none => rw [he] at h1; exact absurd (by decide) h1
  | some e =>
    have he2 := endF_bd hB he
    have h9 := hB 9 j
    rw [he] at h2
    show _ = oN _ (if hold C j ∧ C 9 j < e then _ else _)
    rw [if_pos ⟨h, by
      refine Nat.lt_of_not_le fun z => h2 ?_
      show nI e ≤ nI (C 9 j)
      rw [Int32.le_iff_toInt_le, nI_toInt (by omega), nI_toInt (by omega)]
      omega⟩]
    rfl
theorem fi_3 {C : Ct} {j : Nat} (hB : bd C) (h1 : ¬ oN (-1015) (endF C j) < 0) (h2 : nI (C 9 j) ≥ oN (-1015) (endF C j)) : oN (-1015) (endF C j) = oN (-1015) (endF C (j + 1)) := by
  rw [endF]
  cases he : endF C j with
  | none => rw [he] at h1; exact absurd (by decide) h1
  | some e =>
    have he2 := endF_bd hB he
    have h9 := hB 9 j
    rw [he] at h2
    have h3 : nI e ≤ nI (C 9 j) := h2
    rw [Int32.le_iff_toInt_le, nI_toInt (by omega), nI_toInt (by omega)] at h3
    show nI e = oN _ (if hold C j ∧ C 9 j < e then _ else _)
    rw [if_neg (by omega)]
    rfl
/-- the joke before, as the law keeps it -/
def lastJ (C : Ct) (j : Nat) : Int32 := if j = 0 then -1 else nI (jkR C (j - 1))
theorem jkA_cs {C : Ct} {a b : Nat} (h : jkA C a b) : tlS C b < tlS C a ∨ (tlS C a = tlS C b ∧ (C 7 b < C 7 a ∨ (C 7 a = C 7 b ∧ a < b))) := by
  unfold jkA at h
  split at h
  · split at h <;> omega
  · omega
abbrev DV (a b : Nat) : UInt64 := FP.ddiv (FP.i2d (nI a)) (FP.i2d (nI b))
theorem dv_ok : ∀ a, a < 109 → ∀ b, b < 13 → 0 < b → isNaN64 (DV a b) = false ∧ Op.cmpValue (FP.dcmp (DV a b) (DV a b)) CmpOp.l = 0 := by decide +kernel
theorem d0_ok : Op.cmpValue (FP.dcmp FP.dconst0 FP.dconst0) CmpOp.l = 0 := by decide +kernel
theorem al_eq {x y : UInt64} (h : alike64 x y = true) (hy : isNaN64 y = false) : x = y := by
  rcases al64 h with e | ⟨-, e⟩
  · exact e
  · rw [hy] at e; cases e

theorem mean_ok {b : Nat} {C : Ct} {z w : UInt64} (g : gd b C) (h0 : ¬ C 0 1 = 0) (hz : mwz C z) (hw : alike64 w (FP.ddiv (FP.i2d (nI (sm (C 7) (C 0 1)))) (FP.i2d (nI (C 0 1)))) = true) : Op.cmpValue (FP.dcmp z w) CmpOp.l = 0 := by
  have hn := g.1.1.1.2.1
  obtain ⟨⟨-, -, -, -, -, -, a7, -⟩, -, -, -, -, -, -, -, -, -, -, -, -, zj, -⟩ := g.1.1
  have e : sm (C 7) 12 = sm (C 7) (C 0 1) := sm_tail zj hn
  have hb : sm (C 7) (C 0 1) ≤ C 0 1 * 9 := sm_le (fun k _ => a7 k)
  have hb2 : C 0 1 * 9 ≤ 12 * 9 := Nat.mul_le_mul_right 9 hn
  obtain ⟨o1, o2⟩ := dv_ok (sm (C 7) (C 0 1)) (by omega) (C 0 1) (by omega) (by omega)
  unfold mwz at hz
  rw [if_neg h0, e] at hz
  rw [al_eq hz o1, al_eq hw o1]
  exact o2
set_option maxRecDepth 20000 in
set_option maxHeartbeats 4000000 in
theorem t_L_jokes {l : Launch} {G : vG} {h : AH} {n : Nat} {u a : Nat} {LN : Ln} {C : Ct} {T : Hs} {Sn : Ct} {sv : Nat} {rs dt : Int32} {b : Nat} (g : gd b C) (o : oP G u n h a LN C T Sn sv rs dt) (hT : T.1 ≤ 8) : Mt l G mL_jokes [.ref u] (n) h 1 4 (fun r n2 h2 => r = some (.int (nI 1)) ∧ ∃ (a2 : Nat) (L2 : Ln), n ≤ n2 ∧ (a2 = a ∨ n ≤ a2) ∧ a2 < n2 ∧ oP G u n2 h2 a2 L2 C T Sn sv rs dt ∧ frP (fun z => z < n ∧ z ≠ u + 248 ∧ z ≠ a) h h2) := by
  refine Mt.of (by decide) (Nat.le_of_ble_eq_true rfl) rfl ?_
  refine v_ls (ls2 := [some (.ref u), none, none, none, none, none, none, none, none, none, none, none, none, none]) rfl ?_
  have hun := o.n
  have hn6 := g.1.1.1.1
  have hn12 := g.1.1.1.2.1
  have hn10 := g.1.1.1.2.2.1
  refine v_aload_n dL_jokes_0 rfl ?_
  refine v_iconst (v := nI 1) dL_jokes_1 (by decide) ?_
  refine v_ask (st := []) (v2 := nI (C 0 1)) dL_jokes_2 (o_account g o) (qAcc_at (w := 1) (by decide)) wL_34 o.he rfl rfl ⟨Nat.le_of_ble_eq_true rfl, Nat.le_of_ble_eq_true rfl⟩ (Nat.le_of_ble_eq_true rfl) ⟨by omega, by omega⟩ ?_
  have b21 : C 0 1 < 2 ^ 28 := C_b g
  refine v_istore_n dL_jokes_5 rfl (by decide) ?_
  refine v_ls (ls2 := [some (.ref u), some (.int (nI (C 0 1))), none, none, none, none, none, none, none, none, none, none, none, none]) rfl ?_
  refine v_iconst (v := nI 0) dL_jokes_6 (by decide) ?_
  refine v_istore_n dL_jokes_7 rfl (by decide) ?_
  refine v_ls (ls2 := [some (.ref u), some (.int (nI (C 0 1))), some (.int (nI 0)), none, none, none, none, none, none, none, none, none, none, none]) rfl ?_
  refine v_sipush (v := (-1015)) dL_jokes_8 (by decide) ?_
  refine v_istore_n dL_jokes_11 rfl (by decide) ?_
  refine v_ls (ls2 := [some (.ref u), some (.int (nI (C 0 1))), some (.int (nI 0)), some (.int ((-1015))), none, none, none, none, none, none, none, none, none, none]) rfl ?_
  refine v_iconst (v := nI 0) dL_jokes_12 (by decide) ?_
  refine v_istore dL_jokes_13 rfl (by decide) ?_
  refine v_ls (ls2 := [some (.ref u), some (.int (nI (C 0 1))), some (.int (nI 0)), some (.int ((-1015))), some (.int (nI 0)), none, none, none, none, none, none, none, none, none]) rfl ?_
  refine v_iconst (v := (-1)) dL_jokes_15 (by decide) ?_
  refine v_istore dL_jokes_16 rfl (by decide) ?_
  refine v_ls (ls2 := [some (.ref u), some (.int (nI (C 0 1))), some (.int (nI 0)), some (.int ((-1015))), some (.int (nI 0)), some (.int ((-1))), none, none, none, none, none, none, none, none]) rfl ?_
  refine v_iconst (v := nI 4) dL_jokes_18 (by decide) ?_
  refine nni (k := 4) dL_jokes_19 (by decide) (by omega) (by omega) (fun h1 f1 s1 => ?_)
  have fa22 := f1
  have sa22 := s1
  clear f1 s1
  have ho23 : oP G u (n + 1) _ a LN C T Sn sv rs dt := oP.fr o (by omega) (fun z hz1 hz2 => sa22 z (by omega)) (sa22 a (by omega))
  have fr24 : frP (fun z => z < n) _ _ := fun z (hz : z < n) => sa22 z (by omega)
  refine v_astore dL_jokes_21 rfl (by decide) ?_
  refine v_ls (ls2 := [some (.ref u), some (.int (nI (C 0 1))), some (.int (nI 0)), some (.int ((-1015))), some (.int (nI 0)), some (.int ((-1))), some (.ref n), none, none, none, none, none, none, none]) rfl ?_
  refine v_iconst (v := nI 0) dL_jokes_23 (by decide) ?_
  refine v_istore dL_jokes_24 rfl (by decide) ?_
  refine v_ls (ls2 := [some (.ref u), some (.int (nI (C 0 1))), some (.int (nI 0)), some (.int ((-1015))), some (.int (nI 0)), some (.int ((-1))), some (.ref n), some (.int (nI 0)), none, none, none, none, none, none]) rfl ?_
  refine loopH (fun j => [some (.ref u), some (.int (nI (C 0 1))), some (.int (nI (cnt (fun z => decide (hold C z)) j))), some (.int (oN (-1015) (endF C j))), some (.int (nI (sm (C 7) j))), some (.int (lastJ C j)), some (.ref n), some (.int (nI j)), none, none, none, none, none, none]) (fun j h1 => ∃ F : Nat → Nat, h1 n = some (ar G 4 F) ∧ (∀ x, x < 4 → F x = sm (fun q => C 10 (q * 4 + x)) j) ∧ frP (fun z => z < n) h h1) (N := C 0 1) 0 (Nat.zero_le _) rfl ⟨_, fa22, fun _ _ => rfl, fr24⟩ (fun j h1 hj hp9 ihJ => ?_)
  obtain ⟨F, fa0, hF, fr0⟩ := hp9
  have o25 : oP G u (n + 1) _ a LN C T Sn sv rs dt := oP.fr o (by omega) (fun z hz1 hz2 => fr0 z (by omega)) (fr0 a (by omega))
  refine v_iload dL_jokes_26 rfl ?_
  refine v_iload_n dL_jokes_28 rfl ?_
  refine n_icmp_ge (tgt := 354) (x := j) (y := C 0 1) dL_jokes_29 (by decide) (by omega) (by omega) (fun c26 => ?_) (fun c26 => ?_)
  · have ej : j = C 0 1 := by omega
    subst ej
    refine v_forget 5 ?_
    refine v_forget 7 ?_
    refine v_ls (ls2 := [some (.ref u), some (.int (nI (C 0 1))), some (.int (nI (cnt (fun z => decide (hold C z)) (C 0 1)))), some (.int ((oN (-1015) (endF C (C 0 1))))), some (.int (nI (sm (C 7) (C 0 1)))), none, some (.ref n), none, none, none, none, none, none, none]) rfl ?_
    refine v_iconst (v := nI 0) dL_jokes_354 (by decide) ?_
    refine v_istore dL_jokes_355 rfl (by decide) ?_
    refine v_ls (ls2 := [some (.ref u), some (.int (nI (C 0 1))), some (.int (nI (cnt (fun z => decide (hold C z)) (C 0 1)))), some (.int ((oN (-1015) (endF C (C 0 1))))), some (.int (nI (sm (C 7) (C 0 1)))), none, some (.ref n), some (.int (nI 0)), none, none, none, none, none, none]) rfl ?_
    refine v_iconst (v := nI 0) dL_jokes_357 (by decide) ?_
    refine v_istore dL_jokes_358 rfl (by decide) ?_
    refine v_ls (ls2 := [some (.ref u), some (.int (nI (C 0 1))), some (.int (nI (cnt (fun z => decide (hold C z)) (C 0 1)))), some (.int ((oN (-1015) (endF C (C 0 1))))), some (.int (nI (sm (C 7) (C 0 1)))), none, some (.ref n), some (.int (nI 0)), some (.int (nI 0)), none, none, none, none, none]) rfl ?_
    refine loopV (fun t => [some (.ref u), some (.int (nI (C 0 1))), some (.int (nI (cnt (fun z => decide (hold C z)) (C 0 1)))), some (.int ((oN (-1015) (endF C (C 0 1))))), some (.int (nI (sm (C 7) (C 0 1)))), none, some (.ref n), some (.int (nI (sm (C 16) t))), some (.int (nI t)), none, none, none, none, none]) (fun _ => True) (N := 4) 0 (Nat.zero_le _) rfl trivial (fun t ht _ ihU => ?_)
    have b360 : sm (C 16) t < 2 ^ 28 := sm_b (g.2.1 16) g.2.2.2 (by omega)
    refine v_iload dL_jokes_360 rfl ?_
    refine v_iconst (v := nI 4) dL_jokes_362 (by decide) ?_
    refine n_icmp_ge (tgt := 457) (x := t) (y := 4) dL_jokes_363 (by decide) (by omega) (by omega) (fun c27 => ?_) (fun c27 => ?_)
    · have et : t = 4 := by omega
      subst et
      refine v_forget 8 ?_
      refine v_ls (ls2 := [some (.ref u), some (.int (nI (C 0 1))), some (.int (nI (cnt (fun z => decide (hold C z)) (C 0 1)))), some (.int ((oN (-1015) (endF C (C 0 1))))), some (.int (nI (sm (C 7) (C 0 1)))), none, some (.ref n), some (.int (nI (sm (C 16) 4))), none, none, none, none, none, none]) rfl ?_
      have bh0 := cnt_le (fun z => decide (hold C z)) (C 0 1)
      refine v_iload_n dL_jokes_457 rfl ?_
      refine n_if_ne (tgt := 465) (x := C 0 1) dL_jokes_458 (by decide) (by omega) (fun c28 => ?_) (fun c28 => ?_)
      · refine v_iload dL_jokes_465 rfl ?_
        refine v_i2d dL_jokes_467 ?_
        refine v_iload_n dL_jokes_468 rfl ?_
        refine v_i2d dL_jokes_469 ?_
        refine v_ddiv dL_jokes_470 (fun w29 alw29 => ?_)
        refine v_dstore dL_jokes_471 rfl (by decide) ?_
        refine v_ls (ls2 := [some (.ref u), some (.int (nI (C 0 1))), some (.int (nI (cnt (fun z => decide (hold C z)) (C 0 1)))), some (.int ((oN (-1015) (endF C (C 0 1))))), some (.int (nI (sm (C 7) (C 0 1)))), none, some (.ref n), some (.int (nI (sm (C 16) 4))), some (.double w29), none, none, none, none, none]) rfl ?_
        refine v_aload_n dL_jokes_473 rfl ?_
        refine v_bipush (v := nI 12) dL_jokes_474 (by decide) ?_
        refine v_ask (st := []) (v2 := nI (pat C)) dL_jokes_476 (o_account g o25) (qAcc_at (w := 12) (by decide)) wL_34 o25.he rfl rfl ⟨Nat.le_of_ble_eq_true rfl, Nat.le_of_ble_eq_true rfl⟩ (Nat.le_of_ble_eq_true rfl) ⟨by omega, by omega⟩ ?_
        have b30 : pat C < 2 ^ 28 := acN_b (T := T) (w := 12) g hT
        refine v_iload_n dL_jokes_479 rfl ?_
        refine n_icmp_ne (tgt := 559) (x := pat C) (y := cnt (fun z => decide (hold C z)) (C 0 1)) dL_jokes_480 (by decide) (by omega) (by omega) (fun c31 => ?_) (fun c31 => ?_)
        · exfalso
          first | exact c31 rfl | exact c28 rfl | omega | exact absurd (by assumption) c31
        · refine v_aload_n dL_jokes_483 rfl ?_
          refine v_ask (st := []) (v2 := oN (-1015) (endF C (C 0 1))) dL_jokes_484 (o_ends g o25) (rfl) wL_118 o25.he rfl rfl ⟨Nat.le_of_ble_eq_true rfl, Nat.le_of_ble_eq_true rfl⟩ (Nat.le_of_ble_eq_true rfl) ⟨by omega, by omega⟩ ?_
          refine v_iload_n dL_jokes_487 rfl ?_
          refine v_icmp_ne (tgt := 559) dL_jokes_488 (by decide) (fun c32 => ?_) (fun c32 => ?_)
          · exfalso
            first | exact c32 rfl | exact c31 rfl | omega | exact absurd (by assumption) c32
          · refine v_aload_n dL_jokes_491 rfl ?_
            refine v_ask (st := []) (v2 := oN (-1015) (endF C (C 0 1))) dL_jokes_492 (o_endsAgain g o25) (rfl) wL_121 o25.he rfl rfl ⟨Nat.le_of_ble_eq_true rfl, Nat.le_of_ble_eq_true rfl⟩ (Nat.le_of_ble_eq_true rfl) ⟨by omega, by omega⟩ ?_
            refine v_iload_n dL_jokes_495 rfl ?_
            refine v_icmp_ne (tgt := 559) dL_jokes_496 (by decide) (fun c33 => ?_) (fun c33 => ?_)
            · exfalso
              first | exact c33 rfl | exact c32 rfl | omega | exact absurd (by assumption) c33
            · refine v_aload_n dL_jokes_499 rfl ?_
              refine v_bipush (v := nI 6) dL_jokes_500 (by decide) ?_
              refine v_ask (st := []) (v2 := nI (sm (C 16) 4)) dL_jokes_502 (o_account g o25) (qAcc_at (w := 6) (by decide)) wL_34 o25.he rfl rfl ⟨Nat.le_of_ble_eq_true rfl, Nat.le_of_ble_eq_true rfl⟩ (Nat.le_of_ble_eq_true rfl) ⟨by omega, by omega⟩ ?_
              have b34 : sm (C 16) 4 < 2 ^ 28 := acN_b (T := T) (w := 6) g hT
              refine v_iload dL_jokes_505 rfl ?_
              refine n_icmp_ne (tgt := 559) (x := sm (C 16) 4) (y := sm (C 16) 4) dL_jokes_507 (by decide) (by omega) (by omega) (fun c35 => ?_) (fun c35 => ?_)
              · exfalso
                first | exact c35 rfl | exact c33 rfl | omega | exact absurd (by assumption) c35
              · refine v_aload_n dL_jokes_510 rfl ?_
                refine v_callV (st := []) dL_jokes_511 (o_meanWit g o25) wL_124 o25.he rfl rfl ⟨Nat.le_of_ble_eq_true rfl, Nat.le_of_ble_eq_true rfl⟩ (Nat.le_of_ble_eq_true rfl) ⟨by omega, by omega⟩ (fun r n2 h2 hq => ?_)
                obtain ⟨⟨z36, rfl, hz36⟩, hn9, rfl⟩ := hq; replace hn9 := hn9.symm; subst hn9
                refine v_st (st2 := [.double z36]) rfl ?_
                refine v_dload dL_jokes_514 rfl ?_
                refine v_dcmp dL_jokes_516 ?_
                refine v_st (st2 := [.int (nI 0)]) (by rw [mean_ok g (by omega) hz36 alw29]; rfl) ?_
                refine n_if_ne (tgt := 559) (x := 0) dL_jokes_517 (by decide) (by decide) (fun c => absurd c (by decide)) (fun _ => ?_)
                refine v_aload_n dL_jokes_520 rfl ?_
                refine v_iload_n dL_jokes_521 rfl ?_
                refine v_ask (st := []) (v2 := -1011) dL_jokes_522 (o_stalest g o25) (jk_no (by omega)) wL_115 o25.he rfl rfl ⟨Nat.le_of_ble_eq_true rfl, Nat.le_of_ble_eq_true rfl⟩ (Nat.le_of_ble_eq_true rfl) ⟨by omega, by omega⟩ ?_
                refine v_sipush (v := (-1011)) dL_jokes_525 (by decide) ?_
                refine v_icmp_ne (tgt := 559) dL_jokes_528 (by decide) (fun c37 => ?_) (fun c37 => ?_)
                · exfalso
                  first | exact c37 rfl | exact c35 rfl | omega | exact absurd (by assumption) c37
                · refine v_aload_n dL_jokes_531 rfl ?_
                  refine v_iload_n dL_jokes_532 rfl ?_
                  refine v_iconst (v := nI 0) dL_jokes_533 (by decide) ?_
                  refine v_ask (st := []) (v2 := -1011) dL_jokes_534 (o_jokeOf g o25) (qJoke_no (by omega)) wL_103 o25.he rfl rfl ⟨Nat.le_of_ble_eq_true rfl, Nat.le_of_ble_eq_true rfl⟩ (Nat.le_of_ble_eq_true rfl) ⟨by omega, by omega⟩ ?_
                  refine v_sipush (v := (-1011)) dL_jokes_537 (by decide) ?_
                  refine v_icmp_ne (tgt := 559) dL_jokes_540 (by decide) (fun c38 => ?_) (fun c38 => ?_)
                  · exfalso
                    first | exact c38 rfl | exact c37 rfl | omega | exact absurd (by assumption) c38
                  · refine v_aload_n dL_jokes_543 rfl ?_
                    refine v_iconst (v := nI 4) dL_jokes_544 (by decide) ?_
                    refine v_iconst (v := nI 0) dL_jokes_545 (by decide) ?_
                    refine v_ask (st := []) (v2 := -1011) dL_jokes_546 (o_throneOf g o25) (qThr_no) wL_106 o25.he rfl rfl ⟨Nat.le_of_ble_eq_true rfl, Nat.le_of_ble_eq_true rfl⟩ (Nat.le_of_ble_eq_true rfl) ⟨by omega, by omega⟩ ?_
                    refine v_sipush (v := (-1011)) dL_jokes_549 (by decide) ?_
                    refine v_icmp_ne (tgt := 559) dL_jokes_552 (by decide) (fun c39 => ?_) (fun c39 => ?_)
                    · exfalso
                      first | exact c39 rfl | exact c38 rfl | omega | exact absurd (by assumption) c39
                    · refine v_iconst (v := nI 1) dL_jokes_555 (by decide) ?_
                      refine v_goto (tgt := 560) dL_jokes_556 (by decide) ?_
                      refine v_zret (ty := .boolean) dL_jokes_560 rfl (by decide) ?_ (by omega) (by omega)
                      exact ⟨rfl, a, LN, by omega, Or.inl rfl, by omega, o25, fun z (hz : z < n ∧ z ≠ u + 248 ∧ z ≠ a) => fr0 z (by omega)⟩
      · refine v_dconst0 dL_jokes_461 ?_
        refine v_goto (tgt := 471) dL_jokes_462 (by decide) ?_
        refine v_dstore dL_jokes_471 rfl (by decide) ?_
        refine v_ls (ls2 := [some (.ref u), some (.int (nI (C 0 1))), some (.int (nI (cnt (fun z => decide (hold C z)) (C 0 1)))), some (.int ((oN (-1015) (endF C (C 0 1))))), some (.int (nI (sm (C 7) (C 0 1)))), none, some (.ref n), some (.int (nI (sm (C 16) 4))), some (.double FP.dconst0), none, none, none, none, none]) rfl ?_
        refine v_aload_n dL_jokes_473 rfl ?_
        refine v_bipush (v := nI 12) dL_jokes_474 (by decide) ?_
        refine v_ask (st := []) (v2 := nI (pat C)) dL_jokes_476 (o_account g o25) (qAcc_at (w := 12) (by decide)) wL_34 o25.he rfl rfl ⟨Nat.le_of_ble_eq_true rfl, Nat.le_of_ble_eq_true rfl⟩ (Nat.le_of_ble_eq_true rfl) ⟨by omega, by omega⟩ ?_
        have b40 : pat C < 2 ^ 28 := acN_b (T := T) (w := 12) g hT
        refine v_iload_n dL_jokes_479 rfl ?_
        refine n_icmp_ne (tgt := 559) (x := pat C) (y := cnt (fun z => decide (hold C z)) (C 0 1)) dL_jokes_480 (by decide) (by omega) (by omega) (fun c41 => ?_) (fun c41 => ?_)
        · exfalso
          first | exact c41 rfl | exact c28 rfl | omega | exact absurd (by assumption) c41
        · refine v_aload_n dL_jokes_483 rfl ?_
          refine v_ask (st := []) (v2 := oN (-1015) (endF C (C 0 1))) dL_jokes_484 (o_ends g o25) (rfl) wL_118 o25.he rfl rfl ⟨Nat.le_of_ble_eq_true rfl, Nat.le_of_ble_eq_true rfl⟩ (Nat.le_of_ble_eq_true rfl) ⟨by omega, by omega⟩ ?_
          refine v_iload_n dL_jokes_487 rfl ?_
          refine v_icmp_ne (tgt := 559) dL_jokes_488 (by decide) (fun c42 => ?_) (fun c42 => ?_)
          · exfalso
            first | exact c42 rfl | exact c41 rfl | omega | exact absurd (by assumption) c42
          · refine v_aload_n dL_jokes_491 rfl ?_
            refine v_ask (st := []) (v2 := oN (-1015) (endF C (C 0 1))) dL_jokes_492 (o_endsAgain g o25) (rfl) wL_121 o25.he rfl rfl ⟨Nat.le_of_ble_eq_true rfl, Nat.le_of_ble_eq_true rfl⟩ (Nat.le_of_ble_eq_true rfl) ⟨by omega, by omega⟩ ?_
            refine v_iload_n dL_jokes_495 rfl ?_
            refine v_icmp_ne (tgt := 559) dL_jokes_496 (by decide) (fun c43 => ?_) (fun c43 => ?_)
            · exfalso
              first | exact c43 rfl | exact c42 rfl | omega | exact absurd (by assumption) c43
            · refine v_aload_n dL_jokes_499 rfl ?_
              refine v_bipush (v := nI 6) dL_jokes_500 (by decide) ?_
              refine v_ask (st := []) (v2 := nI (sm (C 16) 4)) dL_jokes_502 (o_account g o25) (qAcc_at (w := 6) (by decide)) wL_34 o25.he rfl rfl ⟨Nat.le_of_ble_eq_true rfl, Nat.le_of_ble_eq_true rfl⟩ (Nat.le_of_ble_eq_true rfl) ⟨by omega, by omega⟩ ?_
              have b44 : sm (C 16) 4 < 2 ^ 28 := acN_b (T := T) (w := 6) g hT
              refine v_iload dL_jokes_505 rfl ?_
              refine n_icmp_ne (tgt := 559) (x := sm (C 16) 4) (y := sm (C 16) 4) dL_jokes_507 (by decide) (by omega) (by omega) (fun c45 => ?_) (fun c45 => ?_)
              · exfalso
                first | exact c45 rfl | exact c43 rfl | omega | exact absurd (by assumption) c45
              · refine v_aload_n dL_jokes_510 rfl ?_
                refine v_callV (st := []) dL_jokes_511 (o_meanWit g o25) wL_124 o25.he rfl rfl ⟨Nat.le_of_ble_eq_true rfl, Nat.le_of_ble_eq_true rfl⟩ (Nat.le_of_ble_eq_true rfl) ⟨by omega, by omega⟩ (fun r n2 h2 hq => ?_)
                obtain ⟨⟨z46, rfl, hz46⟩, hn9, rfl⟩ := hq; replace hn9 := hn9.symm; subst hn9
                refine v_st (st2 := [.double z46]) rfl ?_
                refine v_dload dL_jokes_514 rfl ?_
                refine v_dcmp dL_jokes_516 ?_
                refine v_st (st2 := [.int (nI 0)]) (by rw [show z46 = FP.dconst0 from by have q := hz46; unfold mwz at q; rw [if_pos (by omega)] at q; exact q, d0_ok]; rfl) ?_
                refine n_if_ne (tgt := 559) (x := 0) dL_jokes_517 (by decide) (by decide) (fun c => absurd c (by decide)) (fun _ => ?_)
                refine v_aload_n dL_jokes_520 rfl ?_
                refine v_iload_n dL_jokes_521 rfl ?_
                refine v_ask (st := []) (v2 := -1011) dL_jokes_522 (o_stalest g o25) (jk_no (by omega)) wL_115 o25.he rfl rfl ⟨Nat.le_of_ble_eq_true rfl, Nat.le_of_ble_eq_true rfl⟩ (Nat.le_of_ble_eq_true rfl) ⟨by omega, by omega⟩ ?_
                refine v_sipush (v := (-1011)) dL_jokes_525 (by decide) ?_
                refine v_icmp_ne (tgt := 559) dL_jokes_528 (by decide) (fun c47 => ?_) (fun c47 => ?_)
                · exfalso
                  first | exact c47 rfl | exact c45 rfl | omega | exact absurd (by assumption) c47
                · refine v_aload_n dL_jokes_531 rfl ?_
                  refine v_iload_n dL_jokes_532 rfl ?_
                  refine v_iconst (v := nI 0) dL_jokes_533 (by decide) ?_
                  refine v_ask (st := []) (v2 := -1011) dL_jokes_534 (o_jokeOf g o25) (qJoke_no (by omega)) wL_103 o25.he rfl rfl ⟨Nat.le_of_ble_eq_true rfl, Nat.le_of_ble_eq_true rfl⟩ (Nat.le_of_ble_eq_true rfl) ⟨by omega, by omega⟩ ?_
                  refine v_sipush (v := (-1011)) dL_jokes_537 (by decide) ?_
                  refine v_icmp_ne (tgt := 559) dL_jokes_540 (by decide) (fun c48 => ?_) (fun c48 => ?_)
                  · exfalso
                    first | exact c48 rfl | exact c47 rfl | omega | exact absurd (by assumption) c48
                  · refine v_aload_n dL_jokes_543 rfl ?_
                    refine v_iconst (v := nI 4) dL_jokes_544 (by decide) ?_
                    refine v_iconst (v := nI 0) dL_jokes_545 (by decide) ?_
                    refine v_ask (st := []) (v2 := -1011) dL_jokes_546 (o_throneOf g o25) (qThr_no) wL_106 o25.he rfl rfl ⟨Nat.le_of_ble_eq_true rfl, Nat.le_of_ble_eq_true rfl⟩ (Nat.le_of_ble_eq_true rfl) ⟨by omega, by omega⟩ ?_
                    refine v_sipush (v := (-1011)) dL_jokes_549 (by decide) ?_
                    refine v_icmp_ne (tgt := 559) dL_jokes_552 (by decide) (fun c49 => ?_) (fun c49 => ?_)
                    · exfalso
                      first | exact c49 rfl | exact c48 rfl | omega | exact absurd (by assumption) c49
                    · refine v_iconst (v := nI 1) dL_jokes_555 (by decide) ?_
                      refine v_goto (tgt := 560) dL_jokes_556 (by decide) ?_
                      refine v_zret (ty := .boolean) dL_jokes_560 rfl (by decide) ?_ (by omega) (by omega)
                      exact ⟨rfl, a, LN, by omega, Or.inl rfl, by omega, o25, fun z (hz : z < n ∧ z ≠ u + 248 ∧ z ≠ a) => fr0 z (by omega)⟩
    · refine v_iconst (v := nI 0) dL_jokes_366 (by decide) ?_
      refine v_istore dL_jokes_367 rfl (by decide) ?_
      refine v_ls (ls2 := [some (.ref u), some (.int (nI (C 0 1))), some (.int (nI (cnt (fun z => decide (hold C z)) (C 0 1)))), some (.int ((oN (-1015) (endF C (C 0 1))))), some (.int (nI (sm (C 7) (C 0 1)))), none, some (.ref n), some (.int (nI (sm (C 16) t))), some (.int (nI t)), some (.int (nI 0)), none, none, none, none]) rfl ?_
      refine v_iconst (v := nI 0) dL_jokes_369 (by decide) ?_
      refine v_istore dL_jokes_370 rfl (by decide) ?_
      refine v_ls (ls2 := [some (.ref u), some (.int (nI (C 0 1))), some (.int (nI (cnt (fun z => decide (hold C z)) (C 0 1)))), some (.int ((oN (-1015) (endF C (C 0 1))))), some (.int (nI (sm (C 7) (C 0 1)))), none, some (.ref n), some (.int (nI (sm (C 16) t))), some (.int (nI t)), some (.int (nI 0)), some (.int (nI 0)), none, none, none]) rfl ?_
      refine v_ls (ls2 := [some (.ref u), some (.int (nI (C 0 1))), some (.int (nI (cnt (fun z => decide (hold C z)) (C 0 1)))), some (.int ((oN (-1015) (endF C (C 0 1))))), some (.int (nI (sm (C 7) (C 0 1)))), none, some (.ref n), some (.int (nI (sm (C 16) t))), some (.int (nI t)), some (.int (nI 0)), some (.int (nI 0)), none, none, none]) rfl ?_
      refine loopV (fun k => [some (.ref u), some (.int (nI (C 0 1))), some (.int (nI (cnt (fun z => decide (hold C z)) (C 0 1)))), some (.int ((oN (-1015) (endF C (C 0 1))))), some (.int (nI (sm (C 7) (C 0 1)))), none, some (.ref n), some (.int (nI (sm (C 16) t))), some (.int (nI t)), some (.int (nI (cnt (fun z => decide (C 13 z = t)) k))), some (.int (nI k)), none, none, none]) (fun _ => True) (N := C 0 2) 0 (Nat.zero_le _) rfl trivial (fun k hk _ ihL => ?_)
      have bkL := cnt_le (fun z => decide (C 13 z = t)) k
      refine v_iload dL_jokes_372 rfl ?_
      refine v_aload_n dL_jokes_374 rfl ?_
      refine v_iconst (v := nI 2) dL_jokes_375 (by decide) ?_
      refine v_ask (st := [.int (nI k)]) (v2 := nI (C 0 2)) dL_jokes_376 (o_account g o25) (qAcc_at (w := 2) (by decide)) wL_34 o25.he rfl rfl ⟨Nat.le_of_ble_eq_true rfl, Nat.le_of_ble_eq_true rfl⟩ (Nat.le_of_ble_eq_true rfl) ⟨by omega, by omega⟩ ?_
      have b50 : C 0 2 < 2 ^ 28 := C_b g
      refine n_icmp_ge (tgt := 410) (x := k) (y := C 0 2) dL_jokes_379 (by decide) (by omega) (by omega) (fun c51 => ?_) (fun c51 => ?_)
      · have ek : k = C 0 2 := by omega
        subst ek
        refine v_forget 10 ?_
        refine v_ls (ls2 := [some (.ref u), some (.int (nI (C 0 1))), some (.int (nI (cnt (fun z => decide (hold C z)) (C 0 1)))), some (.int ((oN (-1015) (endF C (C 0 1))))), some (.int (nI (sm (C 7) (C 0 1)))), none, some (.ref n), some (.int (nI (sm (C 16) t))), some (.int (nI t)), some (.int (nI (cnt (fun z => decide (C 13 z = t)) (C 0 2)))), none, none, none, none]) rfl ?_
        refine v_iload dL_jokes_410 rfl ?_
        refine v_aload_n dL_jokes_412 rfl ?_
        refine v_iload dL_jokes_413 rfl ?_
        refine v_iconst (v := nI 2) dL_jokes_415 (by decide) ?_
        refine v_ask (st := [.int (nI (sm (C 16) t))]) (v2 := nI (C 16 t)) dL_jokes_416 (o_throneOf g o25) (qThr_at (t := t) (w := 2) (by omega) (by decide)) wL_106 o25.he rfl rfl ⟨Nat.le_of_ble_eq_true rfl, Nat.le_of_ble_eq_true rfl⟩ (Nat.le_of_ble_eq_true rfl) ⟨by omega, by omega⟩ ?_
        have b52 : C 16 t < 2 ^ 28 := C_b g
        refine n_iadd (x := sm (C 16) t) (y := C 16 t) dL_jokes_419 ?_
        refine v_istore dL_jokes_420 rfl (by decide) ?_
        refine v_ls (ls2 := [some (.ref u), some (.int (nI (C 0 1))), some (.int (nI (cnt (fun z => decide (hold C z)) (C 0 1)))), some (.int ((oN (-1015) (endF C (C 0 1))))), some (.int (nI (sm (C 7) (C 0 1)))), none, some (.ref n), some (.int (nI (sm (C 16) t + C 16 t))), some (.int (nI t)), some (.int (nI (cnt (fun z => decide (C 13 z = t)) (C 0 2)))), none, none, none, none]) rfl ?_
        refine v_aload_n dL_jokes_422 rfl ?_
        refine v_iload dL_jokes_423 rfl ?_
        refine v_iconst (v := nI 1) dL_jokes_425 (by decide) ?_
        refine v_ask (st := []) (v2 := nI (sm (fun j => C 10 (j * 4 + t)) (C 0 1))) dL_jokes_426 (o_throneOf g o25) (qThr_at (t := t) (w := 1) (by omega) (by decide)) wL_106 o25.he rfl rfl ⟨Nat.le_of_ble_eq_true rfl, Nat.le_of_ble_eq_true rfl⟩ (Nat.le_of_ble_eq_true rfl) ⟨by omega, by omega⟩ ?_
        have b53 : sm (fun j => C 10 (j * 4 + t)) (C 0 1) < 2 ^ 28 := sm_b (fun i => g.2.1 10 _) g.2.2.2 (by omega)
        refine v_aload dL_jokes_429 rfl ?_
        refine v_iload dL_jokes_431 rfl ?_
        refine n_ialdv (f := F) (j := t) (y := F t) dL_jokes_433 fa0 (by omega) (by decide) rfl ?_
        refine v_st (st2 := [.int (nI (sm (fun q => C 10 (q * 4 + t)) (C 0 1))), .int (nI (sm (fun j => C 10 (j * 4 + t)) (C 0 1)))]) (by rw [hF t (by omega)]) ?_
        refine n_icmp_ne (tgt := 449) (x := sm (fun j => C 10 (j * 4 + t)) (C 0 1)) (y := sm (fun q => C 10 (q * 4 + t)) (C 0 1)) dL_jokes_434 (by decide) (by omega) (by omega) (fun c54 => ?_) (fun c54 => ?_)
        · exfalso
          first | exact c54 rfl | exact c51 rfl | omega | exact absurd (by assumption) c54
        · refine v_aload_n dL_jokes_437 rfl ?_
          refine v_iload dL_jokes_438 rfl ?_
          refine v_iconst (v := nI 3) dL_jokes_440 (by decide) ?_
          refine v_ask (st := []) (v2 := nI (cnt (fun z => decide (C 13 z = t)) (C 0 2))) dL_jokes_441 (o_throneOf g o25) (qThr_at (t := t) (w := 3) (by omega) (by decide)) wL_106 o25.he rfl rfl ⟨Nat.le_of_ble_eq_true rfl, Nat.le_of_ble_eq_true rfl⟩ (Nat.le_of_ble_eq_true rfl) ⟨by omega, by omega⟩ ?_
          have b55 : cnt (fun z => decide (C 13 z = t)) (C 0 2) < 2 ^ 28 := Nat.lt_of_le_of_lt (cnt_le _ _) (by omega)
          refine v_iload dL_jokes_444 rfl ?_
          refine n_icmp_eq (tgt := 451) (x := cnt (fun z => decide (C 13 z = t)) (C 0 2)) (y := cnt (fun z => decide (C 13 z = t)) (C 0 2)) dL_jokes_446 (by decide) (by omega) (by omega) (fun c56 => ?_) (fun c56 => ?_)
          · refine n_iinc (k := 1) (x := t) dL_jokes_451 (by decide) rfl rfl (by decide) ?_
            refine v_ls (ls2 := [some (.ref u), some (.int (nI (C 0 1))), some (.int (nI (cnt (fun z => decide (hold C z)) (C 0 1)))), some (.int ((oN (-1015) (endF C (C 0 1))))), some (.int (nI (sm (C 7) (C 0 1)))), none, some (.ref n), some (.int (nI (sm (C 16) t + C 16 t))), some (.int (nI (t + 1))), some (.int (nI (cnt (fun z => decide (C 13 z = t)) (C 0 2)))), none, none, none, none]) rfl ?_
            refine v_goto (tgt := 360) dL_jokes_454 (by decide) ?_
            refine v_forget 9 ?_
            refine v_ls (ls2 := [some (.ref u), some (.int (nI (C 0 1))), some (.int (nI (cnt (fun z => decide (hold C z)) (C 0 1)))), some (.int ((oN (-1015) (endF C (C 0 1))))), some (.int (nI (sm (C 7) (C 0 1)))), none, some (.ref n), some (.int (nI (sm (C 16) (t + 1)))), some (.int (nI (t + 1))), none, none, none, none, none]) rfl ?_
            exact ihU (by omega) trivial
          · exfalso
            first | exact c56 rfl | exact c54 rfl | omega | exact absurd (by assumption) c56
      · refine v_iload dL_jokes_382 rfl ?_
        refine v_aload_n dL_jokes_384 rfl ?_
        refine v_iload dL_jokes_385 rfl ?_
        refine v_iconst (v := nI 2) dL_jokes_387 (by decide) ?_
        refine v_ask (st := [.int (nI (cnt (fun z => decide (C 13 z = t)) k))]) (v2 := nI (C 13 k)) dL_jokes_388 (o_booking g o25) (qBk_at (p := k) (w := 2) (by omega) (by omega) (by decide)) wL_112 o25.he rfl rfl ⟨Nat.le_of_ble_eq_true rfl, Nat.le_of_ble_eq_true rfl⟩ (Nat.le_of_ble_eq_true rfl) ⟨by omega, by omega⟩ ?_
        have b57 : C 13 k < 2 ^ 28 := C_b g
        refine v_iload dL_jokes_391 rfl ?_
        refine v_cut 401 [some (.ref u), some (.int (nI (C 0 1))), some (.int (nI (cnt (fun z => decide (hold C z)) (C 0 1)))), some (.int ((oN (-1015) (endF C (C 0 1))))), some (.int (nI (sm (C 7) (C 0 1)))), none, some (.ref n), some (.int (nI (sm (C 16) t))), some (.int (nI t)), some (.int (nI (cnt (fun z => decide (C 13 z = t)) k))), some (.int (nI k)), none, none, none] [.int (nI (bI (C 13 k = t))), .int (nI (cnt (fun z => decide (C 13 z = t)) k))] (fun K58 => ?_) ?_
        · refine n_icmp_ne (tgt := 400) (x := C 13 k) (y := t) dL_jokes_393 (by decide) (by omega) (by omega) (fun c59 => ?_) (fun c59 => ?_)
          · refine v_iconst (v := nI 0) dL_jokes_400 (by decide) ?_
            exact v_done K58 rfl (by rw [bI_f (c59)]) rfl
          · refine v_iconst (v := nI 1) dL_jokes_396 (by decide) ?_
            refine v_goto (tgt := 401) dL_jokes_397 (by decide) ?_
            exact v_done K58 rfl (by rw [bI_t (c59)]) rfl
        have bl60 : bI (C 13 k = t) < 2 := bI_lt
        refine n_iadd (x := cnt (fun z => decide (C 13 z = t)) k) (y := bI (C 13 k = t)) dL_jokes_401 ?_
        refine v_istore dL_jokes_402 rfl (by decide) ?_
        refine v_ls (ls2 := [some (.ref u), some (.int (nI (C 0 1))), some (.int (nI (cnt (fun z => decide (hold C z)) (C 0 1)))), some (.int ((oN (-1015) (endF C (C 0 1))))), some (.int (nI (sm (C 7) (C 0 1)))), none, some (.ref n), some (.int (nI (sm (C 16) t))), some (.int (nI t)), some (.int (nI ((cnt (fun z => decide (C 13 z = t)) k) + (bI (C 13 k = t))))), some (.int (nI k)), none, none, none]) rfl ?_
        refine n_iinc (k := 1) (x := k) dL_jokes_404 (by decide) rfl rfl (by decide) ?_
        refine v_ls (ls2 := [some (.ref u), some (.int (nI (C 0 1))), some (.int (nI (cnt (fun z => decide (hold C z)) (C 0 1)))), some (.int ((oN (-1015) (endF C (C 0 1))))), some (.int (nI (sm (C 7) (C 0 1)))), none, some (.ref n), some (.int (nI (sm (C 16) t))), some (.int (nI t)), some (.int (nI ((cnt (fun z => decide (C 13 z = t)) k) + (bI (C 13 k = t))))), some (.int (nI (k + 1))), none, none, none]) rfl ?_
        refine v_goto (tgt := 372) dL_jokes_407 (by decide) ?_
        refine v_ls (ls2 := [some (.ref u), some (.int (nI (C 0 1))), some (.int (nI (cnt (fun z => decide (hold C z)) (C 0 1)))), some (.int ((oN (-1015) (endF C (C 0 1))))), some (.int (nI (sm (C 7) (C 0 1)))), none, some (.ref n), some (.int (nI (sm (C 16) t))), some (.int (nI t)), some (.int (nI (cnt (fun z => decide (C 13 z = t)) (k + 1)))), some (.int (nI (k + 1))), none, none, none]) (by rw [← cnt_d (q := fun z => C 13 z = t)]) ?_
        exact ihL (by omega) trivial
  · refine v_iconst (v := nI 0) dL_jokes_32 (by decide) ?_
    refine v_istore dL_jokes_33 rfl (by decide) ?_
    refine v_ls (ls2 := [some (.ref u), some (.int (nI (C 0 1))), some (.int (nI (cnt (fun z => decide (hold C z)) j))), some (.int ((oN (-1015) (endF C j)))), some (.int (nI (sm (C 7) j))), some (.int ((lastJ C j))), some (.ref n), some (.int (nI j)), some (.int (nI 0)), none, none, none, none, none]) rfl ?_
    refine v_iconst (v := nI 0) dL_jokes_35 (by decide) ?_
    refine v_istore dL_jokes_36 rfl (by decide) ?_
    refine v_ls (ls2 := [some (.ref u), some (.int (nI (C 0 1))), some (.int (nI (cnt (fun z => decide (hold C z)) j))), some (.int ((oN (-1015) (endF C j)))), some (.int (nI (sm (C 7) j))), some (.int ((lastJ C j))), some (.ref n), some (.int (nI j)), some (.int (nI 0)), some (.int (nI 0)), none, none, none, none]) rfl ?_
    refine v_iconst (v := nI 0) dL_jokes_38 (by decide) ?_
    refine v_istore dL_jokes_39 rfl (by decide) ?_
    refine v_ls (ls2 := [some (.ref u), some (.int (nI (C 0 1))), some (.int (nI (cnt (fun z => decide (hold C z)) j))), some (.int ((oN (-1015) (endF C j)))), some (.int (nI (sm (C 7) j))), some (.int ((lastJ C j))), some (.ref n), some (.int (nI j)), some (.int (nI 0)), some (.int (nI 0)), some (.int (nI 0)), none, none, none]) rfl ?_
    refine loopH (fun t => [some (.ref u), some (.int (nI (C 0 1))), some (.int (nI (cnt (fun z => decide (hold C z)) j))), some (.int ((oN (-1015) (endF C j)))), some (.int (nI (sm (C 7) j))), some (.int ((lastJ C j))), some (.ref n), some (.int (nI j)), some (.int (nI (sm (fun q => C 10 (j * 4 + q)) t))), some (.int (nI 0)), some (.int (nI t)), none, none, none]) (fun t h1 => ∃ F : Nat → Nat, h1 n = some (ar G 4 F) ∧ (∀ x, x < 4 → F x = if x < t then sm (fun q => C 10 (q * 4 + x)) (j + 1) else sm (fun q => C 10 (q * 4 + x)) j) ∧ frP (fun z => z < n) h h1) (N := 4) 0 (Nat.zero_le _) rfl ⟨F, fa0, fun x hx => by rw [if_neg (Nat.not_lt_zero x)]; exact hF x hx, fr0⟩ (fun t h2 ht hp9 ihT => ?_)
    obtain ⟨F2, fa1, hF2, fr1⟩ := hp9
    have o61 : oP G u (n + 1) _ a LN C T Sn sv rs dt := oP.fr o (by omega) (fun z hz1 hz2 => fr1 z (by omega)) (fr1 a (by omega))
    have b41 : sm (fun q => C 10 (j * 4 + q)) t < 2 ^ 28 := sm_b (fun i => g.2.1 10 _) g.2.2.2 (by omega)
    refine v_iload dL_jokes_41 rfl ?_
    refine v_iconst (v := nI 4) dL_jokes_43 (by decide) ?_
    refine n_icmp_ge (tgt := 82) (x := t) (y := 4) dL_jokes_44 (by decide) (by omega) (by omega) (fun c62 => ?_) (fun c62 => ?_)
    · have et : t = 4 := by omega
      subst et
      have hF4 : ∀ x, x < 4 → F2 x = sm (fun q => C 10 (q * 4 + x)) (j + 1) := fun x hx => by rw [hF2 x hx, if_pos hx]
      refine v_forget 10 ?_
      refine v_ls (ls2 := [some (.ref u), some (.int (nI (C 0 1))), some (.int (nI (cnt (fun z => decide (hold C z)) j))), some (.int ((oN (-1015) (endF C j)))), some (.int (nI (sm (C 7) j))), some (.int ((lastJ C j))), some (.ref n), some (.int (nI j)), some (.int (nI (tlS C j))), some (.int (nI 0)), none, none, none, none]) rfl ?_
      have b82 := tlS_bb (j := j) g
      refine v_iconst (v := nI 0) dL_jokes_82 (by decide) ?_
      refine v_istore dL_jokes_83 rfl (by decide) ?_
      refine v_ls (ls2 := [some (.ref u), some (.int (nI (C 0 1))), some (.int (nI (cnt (fun z => decide (hold C z)) j))), some (.int ((oN (-1015) (endF C j)))), some (.int (nI (sm (C 7) j))), some (.int ((lastJ C j))), some (.ref n), some (.int (nI j)), some (.int (nI (tlS C j))), some (.int (nI 0)), some (.int (nI 0)), none, none, none]) rfl ?_
      refine v_ls (ls2 := [some (.ref u), some (.int (nI (C 0 1))), some (.int (nI (cnt (fun z => decide (hold C z)) j))), some (.int ((oN (-1015) (endF C j)))), some (.int (nI (sm (C 7) j))), some (.int ((lastJ C j))), some (.ref n), some (.int (nI j)), some (.int (nI (tlS C j))), some (.int (nI 0)), some (.int (nI 0)), none, none, none]) rfl ?_
      refine loopV (fun k => [some (.ref u), some (.int (nI (C 0 1))), some (.int (nI (cnt (fun z => decide (hold C z)) j))), some (.int ((oN (-1015) (endF C j)))), some (.int (nI (sm (C 7) j))), some (.int ((lastJ C j))), some (.ref n), some (.int (nI j)), some (.int (nI (tlS C j))), some (.int (nI (cnt (fun z => decide (C 12 z = j)) k))), some (.int (nI k)), none, none, none]) (fun _ => True) (N := C 0 2) 0 (Nat.zero_le _) rfl trivial (fun k hk _ ihK => ?_)
      have bkK := cnt_le (fun z => decide (C 12 z = j)) k
      refine v_iload dL_jokes_85 rfl ?_
      refine v_aload_n dL_jokes_87 rfl ?_
      refine v_iconst (v := nI 2) dL_jokes_88 (by decide) ?_
      refine v_ask (st := [.int (nI k)]) (v2 := nI (C 0 2)) dL_jokes_89 (o_account g o61) (qAcc_at (w := 2) (by decide)) wL_34 o61.he rfl rfl ⟨Nat.le_of_ble_eq_true rfl, Nat.le_of_ble_eq_true rfl⟩ (Nat.le_of_ble_eq_true rfl) ⟨by omega, by omega⟩ ?_
      have b63 : C 0 2 < 2 ^ 28 := C_b g
      refine n_icmp_ge (tgt := 123) (x := k) (y := C 0 2) dL_jokes_92 (by decide) (by omega) (by omega) (fun c64 => ?_) (fun c64 => ?_)
      · have ek : k = C 0 2 := by omega
        subst ek
        refine v_forget 10 ?_
        refine v_ls (ls2 := [some (.ref u), some (.int (nI (C 0 1))), some (.int (nI (cnt (fun z => decide (hold C z)) j))), some (.int ((oN (-1015) (endF C j)))), some (.int (nI (sm (C 7) j))), some (.int ((lastJ C j))), some (.ref n), some (.int (nI j)), some (.int (nI (tlS C j))), some (.int (nI (cnt (fun z => decide (C 12 z = j)) (C 0 2)))), none, none, none, none]) rfl ?_
        refine v_aload_n dL_jokes_123 rfl ?_
        refine v_iload dL_jokes_124 rfl ?_
        refine v_iconst (v := nI 1) dL_jokes_126 (by decide) ?_
        refine v_ask (st := []) (v2 := if hold C j then nI (C 8 j) else -1015) dL_jokes_127 (o_jokeOf g o61) (qJoke_at (j := j) (w := 1) (by omega) (by omega) (by decide)) wL_103 o61.he rfl rfl ⟨Nat.le_of_ble_eq_true rfl, Nat.le_of_ble_eq_true rfl⟩ (Nat.le_of_ble_eq_true rfl) ⟨by omega, by omega⟩ ?_
        refine v_cut 138 [some (.ref u), some (.int (nI (C 0 1))), some (.int (nI (cnt (fun z => decide (hold C z)) j))), some (.int ((oN (-1015) (endF C j)))), some (.int (nI (sm (C 7) j))), some (.int ((lastJ C j))), some (.ref n), some (.int (nI j)), some (.int (nI (tlS C j))), some (.int (nI (cnt (fun z => decide (C 12 z = j)) (C 0 2)))), none, none, none, none] [.int (nI (bI (hold C j)))] (fun K65 => ?_) ?_
        · refine v_if_lt (tgt := 137) dL_jokes_130 (by decide) (fun c66 => ?_) (fun c66 => ?_)
          · refine v_iconst (v := nI 0) dL_jokes_137 (by decide) ?_
            exact v_done K65 rfl (by rw [bI_f ((own_lt (C_b g)).mp c66)]) rfl
          · refine v_iconst (v := nI 1) dL_jokes_133 (by decide) ?_
            refine v_goto (tgt := 138) dL_jokes_134 (by decide) ?_
            exact v_done K65 rfl (by rw [bI_t (Classical.byContradiction fun z => c66 ((own_lt (C_b g)).mpr z))]) rfl
        have bl67 : bI (hold C j) < 2 := bI_lt
        refine v_istore dL_jokes_138 rfl (by decide) ?_
        refine v_ls (ls2 := [some (.ref u), some (.int (nI (C 0 1))), some (.int (nI (cnt (fun z => decide (hold C z)) j))), some (.int ((oN (-1015) (endF C j)))), some (.int (nI (sm (C 7) j))), some (.int ((lastJ C j))), some (.ref n), some (.int (nI j)), some (.int (nI (tlS C j))), some (.int (nI (cnt (fun z => decide (C 12 z = j)) (C 0 2)))), some (.int (nI (bI (hold C j)))), none, none, none]) rfl ?_
        refine v_aload_n dL_jokes_140 rfl ?_
        refine v_iconst (v := nI 3) dL_jokes_141 (by decide) ?_
        refine v_ask (st := []) (v2 := nI (C 0 3)) dL_jokes_142 (o_account g o61) (qAcc_at (w := 3) (by decide)) wL_34 o61.he rfl rfl ⟨Nat.le_of_ble_eq_true rfl, Nat.le_of_ble_eq_true rfl⟩ (Nat.le_of_ble_eq_true rfl) ⟨by omega, by omega⟩ ?_
        have b68 : C 0 3 < 2 ^ 28 := C_b g
        refine v_aload_n dL_jokes_145 rfl ?_
        refine v_iload dL_jokes_146 rfl ?_
        refine v_iconst (v := nI 2) dL_jokes_148 (by decide) ?_
        refine v_ask (st := [.int (nI (C 0 3))]) (v2 := nI (hol C j)) dL_jokes_149 (o_jokeOf g o61) ((qJoke_at (j := j) (w := 2) (by omega) (by omega) (by decide)).trans qJoke_2) wL_103 o61.he rfl rfl ⟨Nat.le_of_ble_eq_true rfl, Nat.le_of_ble_eq_true rfl⟩ (Nat.le_of_ble_eq_true rfl) ⟨by omega, by omega⟩ ?_
        have b69 : hol C j < 2 ^ 28 := hol_b g
        refine n_iadd (x := C 0 3) (y := hol C j) dL_jokes_152 ?_
        refine v_istore dL_jokes_153 rfl (by decide) ?_
        refine v_ls (ls2 := [some (.ref u), some (.int (nI (C 0 1))), some (.int (nI (cnt (fun z => decide (hold C z)) j))), some (.int ((oN (-1015) (endF C j)))), some (.int (nI (sm (C 7) j))), some (.int ((lastJ C j))), some (.ref n), some (.int (nI j)), some (.int (nI (tlS C j))), some (.int (nI (cnt (fun z => decide (C 12 z = j)) (C 0 2)))), some (.int (nI (bI (hold C j)))), some (.int (nI (C 0 3 + hol C j))), none, none]) rfl ?_
        refine v_iload_n dL_jokes_155 rfl ?_
        refine v_iload dL_jokes_156 rfl ?_
        refine v_cut 166 [some (.ref u), some (.int (nI (C 0 1))), some (.int (nI (cnt (fun z => decide (hold C z)) j))), some (.int ((oN (-1015) (endF C j)))), some (.int (nI (sm (C 7) j))), some (.int ((lastJ C j))), some (.ref n), some (.int (nI j)), some (.int (nI (tlS C j))), some (.int (nI (cnt (fun z => decide (C 12 z = j)) (C 0 2)))), some (.int (nI (bI (hold C j)))), some (.int (nI (C 0 3 + hol C j))), none, none] [.int (nI (bI (hold C j))), .int (nI (cnt (fun z => decide (hold C z)) j))] (fun K70 => ?_) ?_
        · refine n_ifb_eq (tgt := 165) (p := hold C j) dL_jokes_158 (by decide) (fun c71 => ?_) (fun c71 => ?_)
          · refine v_iconst (v := nI 0) dL_jokes_165 (by decide) ?_
            exact v_done K70 rfl (by rw [bI_f (c71)]) rfl
          · refine v_iconst (v := nI 1) dL_jokes_161 (by decide) ?_
            refine v_goto (tgt := 166) dL_jokes_162 (by decide) ?_
            exact v_done K70 rfl (by rw [bI_t (c71)]) rfl
        have bl72 : bI (hold C j) < 2 := bI_lt
        refine n_iadd (x := cnt (fun z => decide (hold C z)) j) (y := bI (hold C j)) dL_jokes_166 ?_
        refine v_istore_n dL_jokes_167 rfl (by decide) ?_
        refine v_ls (ls2 := [some (.ref u), some (.int (nI (C 0 1))), some (.int (nI ((cnt (fun z => decide (hold C z)) j) + bI (hold C j)))), some (.int ((oN (-1015) (endF C j)))), some (.int (nI (sm (C 7) j))), some (.int ((lastJ C j))), some (.ref n), some (.int (nI j)), some (.int (nI (tlS C j))), some (.int (nI (cnt (fun z => decide (C 12 z = j)) (C 0 2)))), some (.int (nI (bI (hold C j)))), some (.int (nI (C 0 3 + hol C j))), none, none]) rfl ?_
        have bn1 := cnt_le (fun z => decide (hold C z)) j
        have hBd : bd C := g.2.1.bd (by have := g.2.2.2; omega)
        refine v_cut 189 [some (.ref u), some (.int (nI (C 0 1))), some (.int (nI ((cnt (fun z => decide (hold C z)) j) + bI (hold C j)))), some (.int ((oN (-1015) (endF C j)))), some (.int (nI (sm (C 7) j))), some (.int ((lastJ C j))), some (.ref n), some (.int (nI j)), some (.int (nI (tlS C j))), some (.int (nI (cnt (fun z => decide (C 12 z = j)) (C 0 2)))), some (.int (nI (bI (hold C j)))), some (.int (nI (C 0 3 + hol C j))), none, none] [.int ((oN (-1015) (endF C (j + 1))))] (fun K73 => ?_) ?_
        · refine v_iload dL_jokes_168 rfl ?_
          refine n_ifb_eq (tgt := 188) (p := hold C j) dL_jokes_170 (by decide) (fun c74 => ?_) (fun c74 => ?_)
          · refine v_iload_n dL_jokes_188 rfl ?_
            exact v_done K73 rfl (by first | exact congrArg (fun z => [Value.int z]) (fi_0 (by assumption)) | exact congrArg (fun z => [Value.int z]) (fi_3 hBd (by assumption) (by have hh := hol_t (C := C) (j := j) (by assumption); rw [← hh]; assumption))) rfl
          · refine v_iload_n dL_jokes_173 rfl ?_
            refine v_if_lt (tgt := 183) dL_jokes_174 (by decide) (fun c75 => ?_) (fun c75 => ?_)
            · refine v_iload dL_jokes_183 rfl ?_
              refine v_goto (tgt := 189) dL_jokes_185 (by decide) ?_
              exact v_done K73 rfl (by first | exact congrArg (fun z => [Value.int z]) (by rw [hol_t (by assumption)]; exact fi_1 hBd (by assumption) (by assumption)) | exact congrArg (fun z => [Value.int z]) (by rw [hol_t (by assumption)]; exact fi_2 hBd (by assumption) (by assumption) (by have hh := hol_t (C := C) (j := j) (by assumption); rw [← hh]; assumption))) rfl
            · refine v_iload dL_jokes_177 rfl ?_
              refine v_iload_n dL_jokes_179 rfl ?_
              refine v_icmp_ge (tgt := 188) dL_jokes_180 (by decide) (fun c76 => ?_) (fun c76 => ?_)
              · refine v_iload_n dL_jokes_188 rfl ?_
                exact v_done K73 rfl (by first | exact congrArg (fun z => [Value.int z]) (fi_0 (by assumption)) | exact congrArg (fun z => [Value.int z]) (fi_3 hBd (by assumption) (by have hh := hol_t (C := C) (j := j) (by assumption); rw [← hh]; assumption))) rfl
              · refine v_iload dL_jokes_183 rfl ?_
                refine v_goto (tgt := 189) dL_jokes_185 (by decide) ?_
                exact v_done K73 rfl (by first | exact congrArg (fun z => [Value.int z]) (by rw [hol_t (by assumption)]; exact fi_1 hBd (by assumption) (by assumption)) | exact congrArg (fun z => [Value.int z]) (by rw [hol_t (by assumption)]; exact fi_2 hBd (by assumption) (by assumption) (by have hh := hol_t (C := C) (j := j) (by assumption); rw [← hh]; assumption))) rfl
        refine v_istore_n dL_jokes_189 rfl (by decide) ?_
        refine v_ls (ls2 := [some (.ref u), some (.int (nI (C 0 1))), some (.int (nI ((cnt (fun z => decide (hold C z)) j) + bI (hold C j)))), some (.int ((oN (-1015) (endF C (j + 1))))), some (.int (nI (sm (C 7) j))), some (.int ((lastJ C j))), some (.ref n), some (.int (nI j)), some (.int (nI (tlS C j))), some (.int (nI (cnt (fun z => decide (C 12 z = j)) (C 0 2)))), some (.int (nI (bI (hold C j)))), some (.int (nI (C 0 3 + hol C j))), none, none]) rfl ?_
        refine v_iload dL_jokes_190 rfl ?_
        refine v_aload_n dL_jokes_192 rfl ?_
        refine v_iload dL_jokes_193 rfl ?_
        refine v_iconst (v := nI 0) dL_jokes_195 (by decide) ?_
        refine v_ask (st := [.int (nI (sm (C 7) j))]) (v2 := nI (C 7 j)) dL_jokes_196 (o_jokeOf g o61) (qJoke_at (j := j) (w := 0) (by omega) (by omega) (by decide)) wL_103 o61.he rfl rfl ⟨Nat.le_of_ble_eq_true rfl, Nat.le_of_ble_eq_true rfl⟩ (Nat.le_of_ble_eq_true rfl) ⟨by omega, by omega⟩ ?_
        have b77 : C 7 j < 2 ^ 28 := C_b g
        refine n_iadd (x := sm (C 7) j) (y := C 7 j) dL_jokes_199 ?_
        refine v_istore dL_jokes_200 rfl (by decide) ?_
        refine v_ls (ls2 := [some (.ref u), some (.int (nI (C 0 1))), some (.int (nI ((cnt (fun z => decide (hold C z)) j) + bI (hold C j)))), some (.int ((oN (-1015) (endF C (j + 1))))), some (.int (nI (sm (C 7) j + C 7 j))), some (.int ((lastJ C j))), some (.ref n), some (.int (nI j)), some (.int (nI (tlS C j))), some (.int (nI (cnt (fun z => decide (C 12 z = j)) (C 0 2)))), some (.int (nI (bI (hold C j)))), some (.int (nI (C 0 3 + hol C j))), none, none]) rfl ?_
        refine v_aload_n dL_jokes_202 rfl ?_
        refine v_iload dL_jokes_203 rfl ?_
        refine v_ask (st := []) (v2 := nI (jkR C j)) dL_jokes_205 (o_stalest g o61) ((jk_at (r := j) (by omega) (by omega)).1) wL_115 o61.he rfl rfl ⟨Nat.le_of_ble_eq_true rfl, Nat.le_of_ble_eq_true rfl⟩ (Nat.le_of_ble_eq_true rfl) ⟨by omega, by omega⟩ ?_
        obtain ⟨-, rk78, -⟩ := jk_at (C := C) (r := j) (by omega) (by omega)
        refine v_istore dL_jokes_208 rfl (by decide) ?_
        refine v_ls (ls2 := [some (.ref u), some (.int (nI (C 0 1))), some (.int (nI ((cnt (fun z => decide (hold C z)) j) + bI (hold C j)))), some (.int ((oN (-1015) (endF C (j + 1))))), some (.int (nI (sm (C 7) j + C 7 j))), some (.int ((lastJ C j))), some (.ref n), some (.int (nI j)), some (.int (nI (tlS C j))), some (.int (nI (cnt (fun z => decide (C 12 z = j)) (C 0 2)))), some (.int (nI (bI (hold C j)))), some (.int (nI (C 0 3 + hol C j))), some (.int (nI (jkR C j))), none]) rfl ?_
        refine v_cut 280 [some (.ref u), some (.int (nI (C 0 1))), some (.int (nI ((cnt (fun z => decide (hold C z)) j) + bI (hold C j)))), some (.int ((oN (-1015) (endF C (j + 1))))), some (.int (nI (sm (C 7) j + C 7 j))), some (.int ((lastJ C j))), some (.ref n), some (.int (nI j)), some (.int (nI (tlS C j))), some (.int (nI (cnt (fun z => decide (C 12 z = j)) (C 0 2)))), some (.int (nI (bI (hold C j)))), some (.int (nI (C 0 3 + hol C j))), some (.int (nI (jkR C j))), none] [] (fun K79 => ?_) ?_
        · rcases Nat.eq_zero_or_pos j with hj0 | hj0
          · refine v_ls (ls2 := [some (.ref u), some (.int (nI (C 0 1))), some (.int (nI ((cnt (fun z => decide (hold C z)) j) + bI (hold C j)))), some (.int ((oN (-1015) (endF C (j + 1))))), some (.int (nI (sm (C 7) j + C 7 j))), some (.int ((-1))), some (.ref n), some (.int (nI j)), some (.int (nI (tlS C j))), some (.int (nI (cnt (fun z => decide (C 12 z = j)) (C 0 2)))), some (.int (nI (bI (hold C j)))), some (.int (nI (C 0 3 + hol C j))), some (.int (nI (jkR C j))), none]) (by rw [show lastJ C j = -1 from if_pos hj0]) ?_
            refine v_iload dL_jokes_210 rfl ?_
            refine v_if_ge (tgt := 219) dL_jokes_212 (by decide) (fun c => absurd c (by decide)) (fun _ => ?_)
            refine v_iconst (v := nI 1) dL_jokes_215 (by decide) ?_
            refine v_goto (tgt := 234) dL_jokes_216 (by decide) ?_
            refine v_istore dL_jokes_234 rfl (by decide) ?_
            refine v_ls (ls2 := [some (.ref u), some (.int (nI (C 0 1))), some (.int (nI ((cnt (fun z => decide (hold C z)) j) + bI (hold C j)))), some (.int ((oN (-1015) (endF C (j + 1))))), some (.int (nI (sm (C 7) j + C 7 j))), some (.int ((-1))), some (.ref n), some (.int (nI j)), some (.int (nI (tlS C j))), some (.int (nI (cnt (fun z => decide (C 12 z = j)) (C 0 2)))), some (.int (nI (bI (hold C j)))), some (.int (nI (C 0 3 + hol C j))), some (.int (nI (jkR C j))), some (.int (nI 1))]) rfl ?_
            refine v_iload dL_jokes_236 rfl ?_
            refine n_if_eq (tgt := 246) (x := 1) dL_jokes_238 (by decide) (by decide) (fun c => absurd c (by decide)) (fun _ => ?_)
            refine v_iload dL_jokes_241 rfl ?_
            refine v_goto (tgt := 261) dL_jokes_243 (by decide) ?_
            refine v_istore dL_jokes_261 rfl (by decide) ?_
            refine v_ls (ls2 := [some (.ref u), some (.int (nI (C 0 1))), some (.int (nI ((cnt (fun z => decide (hold C z)) j) + bI (hold C j)))), some (.int ((oN (-1015) (endF C (j + 1))))), some (.int (nI (sm (C 7) j + C 7 j))), some (.int ((-1))), some (.ref n), some (.int (nI j)), some (.int (nI (tlS C j))), some (.int (nI (cnt (fun z => decide (C 12 z = j)) (C 0 2)))), some (.int (nI (bI (hold C j)))), some (.int (nI (C 0 3 + hol C j))), some (.int (nI (jkR C j))), some (.int (nI 1))]) rfl ?_
            refine v_iload dL_jokes_263 rfl ?_
            refine n_if_lt (tgt := 342) (x := 1) dL_jokes_265 (by decide) (by decide) ?_
            refine v_iload dL_jokes_268 rfl ?_
            refine n_if_ne (tgt := 280) (x := 1) dL_jokes_270 (by decide) (by decide) (fun _ => ?_) (fun c => absurd c (by decide))
            refine v_forget 13 ?_
            refine v_ls (ls2 := [some (.ref u), some (.int (nI (C 0 1))), some (.int (nI ((cnt (fun z => decide (hold C z)) j) + bI (hold C j)))), some (.int ((oN (-1015) (endF C (j + 1))))), some (.int (nI (sm (C 7) j + C 7 j))), some (.int ((lastJ C j))), some (.ref n), some (.int (nI j)), some (.int (nI (tlS C j))), some (.int (nI (cnt (fun z => decide (C 12 z = j)) (C 0 2)))), some (.int (nI (bI (hold C j)))), some (.int (nI (C 0 3 + hol C j))), some (.int (nI (jkR C j))), none]) (by rw [show lastJ C j = (-1) from if_pos hj0]; rfl) ?_
            exact K79
          · refine v_ls (ls2 := [some (.ref u), some (.int (nI (C 0 1))), some (.int (nI ((cnt (fun z => decide (hold C z)) j) + bI (hold C j)))), some (.int ((oN (-1015) (endF C (j + 1))))), some (.int (nI (sm (C 7) j + C 7 j))), some (.int (nI (jkR C (j - 1)))), some (.ref n), some (.int (nI j)), some (.int (nI (tlS C j))), some (.int (nI (cnt (fun z => decide (C 12 z = j)) (C 0 2)))), some (.int (nI (bI (hold C j)))), some (.int (nI (C 0 3 + hol C j))), some (.int (nI (jkR C j))), none]) (by rw [show lastJ C j = nI (jkR C (j - 1)) from if_neg (by omega)]) ?_
            have hA := jkA_cs (jk_lt (C := C) (r := j - 1) (by omega) (by omega))
            rw [show j - 1 + 1 = j by omega] at hA
            obtain ⟨-, rkL, -⟩ := jk_at (C := C) (r := j - 1) (by omega) (by omega)
            refine v_iload dL_jokes_210 rfl ?_
            refine n_if_ge (tgt := 219) (x := jkR C (j - 1)) dL_jokes_212 (by decide) (by omega) ?_
            refine v_aload_n dL_jokes_219 rfl ?_
            refine v_iload dL_jokes_220 rfl ?_
            refine v_iconst (v := nI 3) dL_jokes_222 (by decide) ?_
            refine v_ask (st := []) (v2 := nI (tlS C (jkR C (j - 1)))) dL_jokes_223 (o_jokeOf g o61) (qJoke_at (j := jkR C (j - 1)) (w := 3) (by omega) (by omega) (by decide)) wL_103 o61.he rfl rfl ⟨Nat.le_of_ble_eq_true rfl, Nat.le_of_ble_eq_true rfl⟩ (Nat.le_of_ble_eq_true rfl) ⟨by omega, by omega⟩ ?_
            have b80 : tlS C (jkR C (j - 1)) < 2 ^ 28 := tlS_bb g
            refine v_aload_n dL_jokes_226 rfl ?_
            refine v_iload dL_jokes_227 rfl ?_
            refine v_iconst (v := nI 3) dL_jokes_229 (by decide) ?_
            refine v_ask (st := [.int (nI (tlS C (jkR C (j - 1))))]) (v2 := nI (tlS C (jkR C j))) dL_jokes_230 (o_jokeOf g o61) (qJoke_at (j := jkR C j) (w := 3) (by omega) (by omega) (by decide)) wL_103 o61.he rfl rfl ⟨Nat.le_of_ble_eq_true rfl, Nat.le_of_ble_eq_true rfl⟩ (Nat.le_of_ble_eq_true rfl) ⟨by omega, by omega⟩ ?_
            have b81 : tlS C (jkR C j) < 2 ^ 28 := tlS_bb g
            refine n_isub (x := tlS C (jkR C (j - 1))) (y := tlS C (jkR C j)) dL_jokes_233 (by omega) ?_
            refine v_istore dL_jokes_234 rfl (by decide) ?_
            refine v_ls (ls2 := [some (.ref u), some (.int (nI (C 0 1))), some (.int (nI ((cnt (fun z => decide (hold C z)) j) + bI (hold C j)))), some (.int ((oN (-1015) (endF C (j + 1))))), some (.int (nI (sm (C 7) j + C 7 j))), some (.int (nI (jkR C (j - 1)))), some (.ref n), some (.int (nI j)), some (.int (nI (tlS C j))), some (.int (nI (cnt (fun z => decide (C 12 z = j)) (C 0 2)))), some (.int (nI (bI (hold C j)))), some (.int (nI (C 0 3 + hol C j))), some (.int (nI (jkR C j))), some (.int (nI ((tlS C (jkR C (j - 1))) - tlS C (jkR C j))))]) rfl ?_
            refine v_iload dL_jokes_236 rfl ?_
            refine n_if_eq (tgt := 246) (x := (tlS C (jkR C (j - 1))) - tlS C (jkR C j)) dL_jokes_238 (by decide) (by omega) (fun c82 => ?_) (fun c82 => ?_)
            · refine v_aload_n dL_jokes_246 rfl ?_
              refine v_iload dL_jokes_247 rfl ?_
              refine v_iconst (v := nI 0) dL_jokes_249 (by decide) ?_
              refine v_ask (st := []) (v2 := nI (C 7 (jkR C (j - 1)))) dL_jokes_250 (o_jokeOf g o61) (qJoke_at (j := jkR C (j - 1)) (w := 0) (by omega) (by omega) (by decide)) wL_103 o61.he rfl rfl ⟨Nat.le_of_ble_eq_true rfl, Nat.le_of_ble_eq_true rfl⟩ (Nat.le_of_ble_eq_true rfl) ⟨by omega, by omega⟩ ?_
              have b83 : C 7 (jkR C (j - 1)) < 2 ^ 28 := C_b g
              refine v_aload_n dL_jokes_253 rfl ?_
              refine v_iload dL_jokes_254 rfl ?_
              refine v_iconst (v := nI 0) dL_jokes_256 (by decide) ?_
              refine v_ask (st := [.int (nI (C 7 (jkR C (j - 1))))]) (v2 := nI (C 7 (jkR C j))) dL_jokes_257 (o_jokeOf g o61) (qJoke_at (j := jkR C j) (w := 0) (by omega) (by omega) (by decide)) wL_103 o61.he rfl rfl ⟨Nat.le_of_ble_eq_true rfl, Nat.le_of_ble_eq_true rfl⟩ (Nat.le_of_ble_eq_true rfl) ⟨by omega, by omega⟩ ?_
              have b84 : C 7 (jkR C j) < 2 ^ 28 := C_b g
              refine n_isub (x := C 7 (jkR C (j - 1))) (y := C 7 (jkR C j)) dL_jokes_260 (by omega) ?_
              refine v_istore dL_jokes_261 rfl (by decide) ?_
              refine v_ls (ls2 := [some (.ref u), some (.int (nI (C 0 1))), some (.int (nI ((cnt (fun z => decide (hold C z)) j) + bI (hold C j)))), some (.int ((oN (-1015) (endF C (j + 1))))), some (.int (nI (sm (C 7) j + C 7 j))), some (.int (nI (jkR C (j - 1)))), some (.ref n), some (.int (nI j)), some (.int (nI (tlS C j))), some (.int (nI (cnt (fun z => decide (C 12 z = j)) (C 0 2)))), some (.int (nI (bI (hold C j)))), some (.int (nI (C 0 3 + hol C j))), some (.int (nI (jkR C j))), some (.int (nI ((C 7 (jkR C (j - 1))) - C 7 (jkR C j))))]) rfl ?_
              refine v_iload dL_jokes_263 rfl ?_
              refine n_if_lt (tgt := 342) (x := (C 7 (jkR C (j - 1))) - C 7 (jkR C j)) dL_jokes_265 (by decide) (by omega) ?_
              refine v_iload dL_jokes_268 rfl ?_
              refine n_if_ne (tgt := 280) (x := (C 7 (jkR C (j - 1))) - C 7 (jkR C j)) dL_jokes_270 (by decide) (by omega) (fun c85 => ?_) (fun c85 => ?_)
              · refine v_forget 13 ?_
                refine v_ls (ls2 := [some (.ref u), some (.int (nI (C 0 1))), some (.int (nI ((cnt (fun z => decide (hold C z)) j) + bI (hold C j)))), some (.int ((oN (-1015) (endF C (j + 1))))), some (.int (nI (sm (C 7) j + C 7 j))), some (.int ((lastJ C j))), some (.ref n), some (.int (nI j)), some (.int (nI (tlS C j))), some (.int (nI (cnt (fun z => decide (C 12 z = j)) (C 0 2)))), some (.int (nI (bI (hold C j)))), some (.int (nI (C 0 3 + hol C j))), some (.int (nI (jkR C j))), none]) (by rw [show lastJ C j = nI (jkR C (j - 1)) from if_neg (by omega)]; rfl) ?_
                exact K79
              · refine v_iload dL_jokes_273 rfl ?_
                refine v_iload dL_jokes_275 rfl ?_
                refine n_icmp_lt (tgt := 342) (x := jkR C j) (y := jkR C (j - 1)) dL_jokes_277 (by decide) (by omega) (by omega) (fun c86 => ?_) (fun c86 => ?_)
                · exfalso
                  first | exact c86 rfl | exact c85 rfl | omega | exact absurd (by assumption) c86
                · refine v_forget 13 ?_
                  refine v_ls (ls2 := [some (.ref u), some (.int (nI (C 0 1))), some (.int (nI ((cnt (fun z => decide (hold C z)) j) + bI (hold C j)))), some (.int ((oN (-1015) (endF C (j + 1))))), some (.int (nI (sm (C 7) j + C 7 j))), some (.int ((lastJ C j))), some (.ref n), some (.int (nI j)), some (.int (nI (tlS C j))), some (.int (nI (cnt (fun z => decide (C 12 z = j)) (C 0 2)))), some (.int (nI (bI (hold C j)))), some (.int (nI (C 0 3 + hol C j))), some (.int (nI (jkR C j))), none]) (by rw [show lastJ C j = nI (jkR C (j - 1)) from if_neg (by omega)]; rfl) ?_
                  exact K79
            · refine v_iload dL_jokes_241 rfl ?_
              refine v_goto (tgt := 261) dL_jokes_243 (by decide) ?_
              refine v_istore dL_jokes_261 rfl (by decide) ?_
              refine v_ls (ls2 := [some (.ref u), some (.int (nI (C 0 1))), some (.int (nI ((cnt (fun z => decide (hold C z)) j) + bI (hold C j)))), some (.int ((oN (-1015) (endF C (j + 1))))), some (.int (nI (sm (C 7) j + C 7 j))), some (.int (nI (jkR C (j - 1)))), some (.ref n), some (.int (nI j)), some (.int (nI (tlS C j))), some (.int (nI (cnt (fun z => decide (C 12 z = j)) (C 0 2)))), some (.int (nI (bI (hold C j)))), some (.int (nI (C 0 3 + hol C j))), some (.int (nI (jkR C j))), some (.int (nI ((tlS C (jkR C (j - 1))) - tlS C (jkR C j))))]) rfl ?_
              refine v_iload dL_jokes_263 rfl ?_
              refine n_if_lt (tgt := 342) (x := (tlS C (jkR C (j - 1))) - tlS C (jkR C j)) dL_jokes_265 (by decide) (by omega) ?_
              refine v_iload dL_jokes_268 rfl ?_
              refine n_if_ne (tgt := 280) (x := (tlS C (jkR C (j - 1))) - tlS C (jkR C j)) dL_jokes_270 (by decide) (by omega) (fun c87 => ?_) (fun c87 => ?_)
              · refine v_forget 13 ?_
                refine v_ls (ls2 := [some (.ref u), some (.int (nI (C 0 1))), some (.int (nI ((cnt (fun z => decide (hold C z)) j) + bI (hold C j)))), some (.int ((oN (-1015) (endF C (j + 1))))), some (.int (nI (sm (C 7) j + C 7 j))), some (.int ((lastJ C j))), some (.ref n), some (.int (nI j)), some (.int (nI (tlS C j))), some (.int (nI (cnt (fun z => decide (C 12 z = j)) (C 0 2)))), some (.int (nI (bI (hold C j)))), some (.int (nI (C 0 3 + hol C j))), some (.int (nI (jkR C j))), none]) (by rw [show lastJ C j = nI (jkR C (j - 1)) from if_neg (by omega)]; rfl) ?_
                exact K79
              · refine v_iload dL_jokes_273 rfl ?_
                refine v_iload dL_jokes_275 rfl ?_
                refine n_icmp_lt (tgt := 342) (x := jkR C j) (y := jkR C (j - 1)) dL_jokes_277 (by decide) (by omega) (by omega) (fun c88 => ?_) (fun c88 => ?_)
                · exfalso
                  first | exact c88 rfl | exact c87 rfl | omega | exact absurd (by assumption) c88
                · refine v_forget 13 ?_
                  refine v_ls (ls2 := [some (.ref u), some (.int (nI (C 0 1))), some (.int (nI ((cnt (fun z => decide (hold C z)) j) + bI (hold C j)))), some (.int ((oN (-1015) (endF C (j + 1))))), some (.int (nI (sm (C 7) j + C 7 j))), some (.int ((lastJ C j))), some (.ref n), some (.int (nI j)), some (.int (nI (tlS C j))), some (.int (nI (cnt (fun z => decide (C 12 z = j)) (C 0 2)))), some (.int (nI (bI (hold C j)))), some (.int (nI (C 0 3 + hol C j))), some (.int (nI (jkR C j))), none]) (by rw [show lastJ C j = nI (jkR C (j - 1)) from if_neg (by omega)]; rfl) ?_
                  exact K79
        refine v_iload dL_jokes_280 rfl ?_
        refine v_aload_n dL_jokes_282 rfl ?_
        refine v_iload dL_jokes_283 rfl ?_
        refine v_iconst (v := nI 2) dL_jokes_285 (by decide) ?_
        refine v_ask (st := [.int (nI (bI (hold C j)))]) (v2 := nI (hol C j)) dL_jokes_286 (o_jokeOf g o61) ((qJoke_at (j := j) (w := 2) (by omega) (by omega) (by decide)).trans qJoke_2) wL_103 o61.he rfl rfl ⟨Nat.le_of_ble_eq_true rfl, Nat.le_of_ble_eq_true rfl⟩ (Nat.le_of_ble_eq_true rfl) ⟨by omega, by omega⟩ ?_
        refine v_cut 297 [some (.ref u), some (.int (nI (C 0 1))), some (.int (nI ((cnt (fun z => decide (hold C z)) j) + bI (hold C j)))), some (.int ((oN (-1015) (endF C (j + 1))))), some (.int (nI (sm (C 7) j + C 7 j))), some (.int ((lastJ C j))), some (.ref n), some (.int (nI j)), some (.int (nI (tlS C j))), some (.int (nI (cnt (fun z => decide (C 12 z = j)) (C 0 2)))), some (.int (nI (bI (hold C j)))), some (.int (nI (C 0 3 + hol C j))), some (.int (nI (jkR C j))), none] [.int (nI (bI (hold C j))), .int (nI (bI (hold C j)))] (fun K89 => ?_) ?_
        · refine n_if_le (tgt := 296) (x := hol C j) dL_jokes_289 (by decide) (by omega) (fun c90 => ?_) (fun c90 => ?_)
          · refine v_iconst (v := nI 0) dL_jokes_296 (by decide) ?_
            exact v_done K89 rfl (by rw [bI_f (fun z => by have := hol_p.mpr z; omega)]) rfl
          · refine v_iconst (v := nI 1) dL_jokes_292 (by decide) ?_
            refine v_goto (tgt := 297) dL_jokes_293 (by decide) ?_
            exact v_done K89 rfl (by rw [bI_t (hol_p.mp (by omega))]) rfl
        have bl91 : bI (hold C j) < 2 := bI_lt
        refine n_icmp_ne (tgt := 342) (x := bI (hold C j)) (y := bI (hold C j)) dL_jokes_297 (by decide) (by omega) (by omega) (fun c92 => ?_) (fun c92 => ?_)
        · exfalso
          first | exact c92 rfl | exact c64 rfl | omega | exact absurd (by assumption) c92
        · refine v_cut 318 [some (.ref u), some (.int (nI (C 0 1))), some (.int (nI ((cnt (fun z => decide (hold C z)) j) + bI (hold C j)))), some (.int ((oN (-1015) (endF C (j + 1))))), some (.int (nI (sm (C 7) j + C 7 j))), some (.int ((lastJ C j))), some (.ref n), some (.int (nI j)), some (.int (nI (tlS C j))), some (.int (nI (cnt (fun z => decide (C 12 z = j)) (C 0 2)))), some (.int (nI (bI (hold C j)))), some (.int (nI (C 0 3 + hol C j))), some (.int (nI (jkR C j))), none] [] (fun K93 => ?_) ?_
          · refine v_iload dL_jokes_300 rfl ?_
            refine n_ifb_ne (tgt := 318) (p := hold C j) dL_jokes_302 (by decide) (fun c94 => ?_) (fun c94 => ?_)
            · exact K93
            · refine v_aload_n dL_jokes_305 rfl ?_
              refine v_iload dL_jokes_306 rfl ?_
              refine v_iconst (v := nI 1) dL_jokes_308 (by decide) ?_
              refine v_ask (st := []) (v2 := if hold C j then nI (C 8 j) else -1015) dL_jokes_309 (o_jokeOf g o61) (qJoke_at (j := j) (w := 1) (by omega) (by omega) (by decide)) wL_103 o61.he rfl rfl ⟨Nat.le_of_ble_eq_true rfl, Nat.le_of_ble_eq_true rfl⟩ (Nat.le_of_ble_eq_true rfl) ⟨by omega, by omega⟩ ?_
              refine v_st (st2 := [.int ((-1015))]) (by rw [if_neg (by assumption)]) ?_
              refine v_sipush (v := (-1015)) dL_jokes_312 (by decide) ?_
              refine v_icmp_ne (tgt := 342) dL_jokes_315 (by decide) (fun c95 => ?_) (fun c95 => ?_)
              · exfalso
                first | exact c95 rfl | exact c94 rfl | omega | exact absurd (by assumption) c95
              · exact K93
          refine v_aload_n dL_jokes_318 rfl ?_
          refine v_iload dL_jokes_319 rfl ?_
          refine v_iconst (v := nI 3) dL_jokes_321 (by decide) ?_
          refine v_ask (st := []) (v2 := nI (tlS C j)) dL_jokes_322 (o_jokeOf g o61) (qJoke_at (j := j) (w := 3) (by omega) (by omega) (by decide)) wL_103 o61.he rfl rfl ⟨Nat.le_of_ble_eq_true rfl, Nat.le_of_ble_eq_true rfl⟩ (Nat.le_of_ble_eq_true rfl) ⟨by omega, by omega⟩ ?_
          have b96 : tlS C j < 2 ^ 28 := tlS_bb g
          refine v_iload dL_jokes_325 rfl ?_
          refine n_icmp_ne (tgt := 342) (x := tlS C j) (y := tlS C j) dL_jokes_327 (by decide) (by omega) (by omega) (fun c97 => ?_) (fun c97 => ?_)
          · exfalso
            first | exact c97 rfl | omega | exact absurd (by assumption) c97
          · refine v_aload_n dL_jokes_330 rfl ?_
            refine v_iload dL_jokes_331 rfl ?_
            refine v_iconst (v := nI 4) dL_jokes_333 (by decide) ?_
            refine v_ask (st := []) (v2 := nI (cnt (fun z => decide (C 12 z = j)) (C 0 2))) dL_jokes_334 (o_jokeOf g o61) (qJoke_at (j := j) (w := 4) (by omega) (by omega) (by decide)) wL_103 o61.he rfl rfl ⟨Nat.le_of_ble_eq_true rfl, Nat.le_of_ble_eq_true rfl⟩ (Nat.le_of_ble_eq_true rfl) ⟨by omega, by omega⟩ ?_
            have b98 : cnt (fun z => decide (C 12 z = j)) (C 0 2) < 2 ^ 28 := Nat.lt_of_le_of_lt (cnt_le _ _) (by omega)
            refine v_iload dL_jokes_337 rfl ?_
            refine n_icmp_eq (tgt := 344) (x := cnt (fun z => decide (C 12 z = j)) (C 0 2)) (y := cnt (fun z => decide (C 12 z = j)) (C 0 2)) dL_jokes_339 (by decide) (by omega) (by omega) (fun c99 => ?_) (fun c99 => ?_)
            · refine v_iload dL_jokes_344 rfl ?_
              refine v_istore dL_jokes_346 rfl (by decide) ?_
              refine v_ls (ls2 := [some (.ref u), some (.int (nI (C 0 1))), some (.int (nI ((cnt (fun z => decide (hold C z)) j) + bI (hold C j)))), some (.int ((oN (-1015) (endF C (j + 1))))), some (.int (nI (sm (C 7) j + C 7 j))), some (.int (nI (jkR C j))), some (.ref n), some (.int (nI j)), some (.int (nI (tlS C j))), some (.int (nI (cnt (fun z => decide (C 12 z = j)) (C 0 2)))), some (.int (nI (bI (hold C j)))), some (.int (nI (C 0 3 + hol C j))), some (.int (nI (jkR C j))), none]) rfl ?_
              refine n_iinc (k := 1) (x := j) dL_jokes_348 (by decide) rfl rfl (by decide) ?_
              refine v_ls (ls2 := [some (.ref u), some (.int (nI (C 0 1))), some (.int (nI ((cnt (fun z => decide (hold C z)) j) + bI (hold C j)))), some (.int ((oN (-1015) (endF C (j + 1))))), some (.int (nI (sm (C 7) j + C 7 j))), some (.int (nI (jkR C j))), some (.ref n), some (.int (nI (j + 1))), some (.int (nI (tlS C j))), some (.int (nI (cnt (fun z => decide (C 12 z = j)) (C 0 2)))), some (.int (nI (bI (hold C j)))), some (.int (nI (C 0 3 + hol C j))), some (.int (nI (jkR C j))), none]) rfl ?_
              refine v_goto (tgt := 26) dL_jokes_351 (by decide) ?_
              refine v_forget 8 ?_
              refine v_forget 9 ?_
              refine v_forget 10 ?_
              refine v_forget 11 ?_
              refine v_forget 12 ?_
              refine v_ls (ls2 := [some (.ref u), some (.int (nI (C 0 1))), some (.int (nI (cnt (fun z => decide (hold C z)) (j + 1)))), some (.int ((oN (-1015) (endF C (j + 1))))), some (.int (nI (sm (C 7) (j + 1)))), some (.int ((lastJ C (j + 1)))), some (.ref n), some (.int (nI (j + 1))), none, none, none, none, none, none]) (by rw [← cnt_d (q := fun z => hold C z)]; rfl) ?_
              exact ihJ (by omega) _ ⟨_, fa1, hF4, fr1⟩
            · exfalso
              first | exact c99 rfl | exact c97 rfl | omega | exact absurd (by assumption) c99
      · refine v_iload dL_jokes_95 rfl ?_
        refine v_aload_n dL_jokes_97 rfl ?_
        refine v_iload dL_jokes_98 rfl ?_
        refine v_iconst (v := nI 1) dL_jokes_100 (by decide) ?_
        refine v_ask (st := [.int (nI (cnt (fun z => decide (C 12 z = j)) k))]) (v2 := nI (C 12 k)) dL_jokes_101 (o_booking g o61) (qBk_at (p := k) (w := 1) (by omega) (by omega) (by decide)) wL_112 o61.he rfl rfl ⟨Nat.le_of_ble_eq_true rfl, Nat.le_of_ble_eq_true rfl⟩ (Nat.le_of_ble_eq_true rfl) ⟨by omega, by omega⟩ ?_
        have b100 : C 12 k < 2 ^ 28 := C_b g
        refine v_iload dL_jokes_104 rfl ?_
        refine v_cut 114 [some (.ref u), some (.int (nI (C 0 1))), some (.int (nI (cnt (fun z => decide (hold C z)) j))), some (.int ((oN (-1015) (endF C j)))), some (.int (nI (sm (C 7) j))), some (.int ((lastJ C j))), some (.ref n), some (.int (nI j)), some (.int (nI (tlS C j))), some (.int (nI (cnt (fun z => decide (C 12 z = j)) k))), some (.int (nI k)), none, none, none] [.int (nI (bI (C 12 k = j))), .int (nI (cnt (fun z => decide (C 12 z = j)) k))] (fun K101 => ?_) ?_
        · refine n_icmp_ne (tgt := 113) (x := C 12 k) (y := j) dL_jokes_106 (by decide) (by omega) (by omega) (fun c102 => ?_) (fun c102 => ?_)
          · refine v_iconst (v := nI 0) dL_jokes_113 (by decide) ?_
            exact v_done K101 rfl (by rw [bI_f (c102)]) rfl
          · refine v_iconst (v := nI 1) dL_jokes_109 (by decide) ?_
            refine v_goto (tgt := 114) dL_jokes_110 (by decide) ?_
            exact v_done K101 rfl (by rw [bI_t (c102)]) rfl
        have bl103 : bI (C 12 k = j) < 2 := bI_lt
        refine n_iadd (x := cnt (fun z => decide (C 12 z = j)) k) (y := bI (C 12 k = j)) dL_jokes_114 ?_
        refine v_istore dL_jokes_115 rfl (by decide) ?_
        refine v_ls (ls2 := [some (.ref u), some (.int (nI (C 0 1))), some (.int (nI (cnt (fun z => decide (hold C z)) j))), some (.int ((oN (-1015) (endF C j)))), some (.int (nI (sm (C 7) j))), some (.int ((lastJ C j))), some (.ref n), some (.int (nI j)), some (.int (nI (tlS C j))), some (.int (nI ((cnt (fun z => decide (C 12 z = j)) k) + (bI (C 12 k = j))))), some (.int (nI k)), none, none, none]) rfl ?_
        refine n_iinc (k := 1) (x := k) dL_jokes_117 (by decide) rfl rfl (by decide) ?_
        refine v_ls (ls2 := [some (.ref u), some (.int (nI (C 0 1))), some (.int (nI (cnt (fun z => decide (hold C z)) j))), some (.int ((oN (-1015) (endF C j)))), some (.int (nI (sm (C 7) j))), some (.int ((lastJ C j))), some (.ref n), some (.int (nI j)), some (.int (nI (tlS C j))), some (.int (nI ((cnt (fun z => decide (C 12 z = j)) k) + (bI (C 12 k = j))))), some (.int (nI (k + 1))), none, none, none]) rfl ?_
        refine v_goto (tgt := 85) dL_jokes_120 (by decide) ?_
        refine v_ls (ls2 := [some (.ref u), some (.int (nI (C 0 1))), some (.int (nI (cnt (fun z => decide (hold C z)) j))), some (.int ((oN (-1015) (endF C j)))), some (.int (nI (sm (C 7) j))), some (.int ((lastJ C j))), some (.ref n), some (.int (nI j)), some (.int (nI (tlS C j))), some (.int (nI (cnt (fun z => decide (C 12 z = j)) (k + 1)))), some (.int (nI (k + 1))), none, none, none]) (by rw [← cnt_d (q := fun z => C 12 z = j)]) ?_
        exact ihK (by omega) trivial
    · refine v_iload dL_jokes_47 rfl ?_
      refine v_aload_n dL_jokes_49 rfl ?_
      refine v_iload dL_jokes_50 rfl ?_
      refine v_iload dL_jokes_52 rfl ?_
      refine v_ask (st := [.int (nI (sm (fun q => C 10 (j * 4 + q)) t))]) (v2 := nI (C 10 (j * 4 + t))) dL_jokes_54 (o_told g o61) (qTold_at (j := j) (t := t) (by omega) (by omega) (by omega)) wL_100 o61.he rfl rfl ⟨Nat.le_of_ble_eq_true rfl, Nat.le_of_ble_eq_true rfl⟩ (Nat.le_of_ble_eq_true rfl) ⟨by omega, by omega⟩ ?_
      have b104 : C 10 (j * 4 + t) < 2 ^ 28 := C_b g
      refine n_iadd (x := sm (fun q => C 10 (j * 4 + q)) t) (y := C 10 (j * 4 + t)) dL_jokes_57 ?_
      refine v_istore dL_jokes_58 rfl (by decide) ?_
      refine v_ls (ls2 := [some (.ref u), some (.int (nI (C 0 1))), some (.int (nI (cnt (fun z => decide (hold C z)) j))), some (.int ((oN (-1015) (endF C j)))), some (.int (nI (sm (C 7) j))), some (.int ((lastJ C j))), some (.ref n), some (.int (nI j)), some (.int (nI ((sm (fun q => C 10 (j * 4 + q)) t) + (C 10 (j * 4 + t))))), some (.int (nI 0)), some (.int (nI t)), none, none, none]) rfl ?_
      refine v_aload dL_jokes_60 rfl ?_
      refine v_iload dL_jokes_62 rfl ?_
      refine v_dup2 dL_jokes_64 rfl rfl ?_
      refine n_ialdv (f := F2) (j := t) (y := F2 t) dL_jokes_65 fa1 (by omega) (by decide) rfl ?_
      refine v_aload_n dL_jokes_66 rfl ?_
      refine v_iload dL_jokes_67 rfl ?_
      refine v_iload dL_jokes_69 rfl ?_
      refine v_ask (st := [.int (nI (F2 t)), .int (nI t), .ref n]) (v2 := nI (C 10 (j * 4 + t))) dL_jokes_71 (o_told g o61) (qTold_at (j := j) (t := t) (by omega) (by omega) (by omega)) wL_100 o61.he rfl rfl ⟨Nat.le_of_ble_eq_true rfl, Nat.le_of_ble_eq_true rfl⟩ (Nat.le_of_ble_eq_true rfl) ⟨by omega, by omega⟩ ?_
      refine n_iadd (x := F2 t) (y := C 10 (j * 4 + t)) dL_jokes_74 ?_
      refine n_iast (f := F2) (j := t) (x := F2 t + (C 10 (j * 4 + t))) dL_jokes_75 fa1 (by omega) (by decide) ?_
      refine nw (fun h1 f1 s1 => ?_)
      have fa105 : h1 (n) = some (ar G 4 (va_up F2 t (F2 t + (C 10 (j * 4 + t))))) := f1
      have sa105 := s1
      clear f1 s1
      have ho106 : oP G u (n + 1) _ a LN C T Sn sv rs dt := oP.fr o61 (by omega) (fun z hz1 hz2 => sa105 z (by omega)) (sa105 a (by omega))
      have fr107 : frP (fun z => z < n) _ _ := fun z (hz : z < n) => (sa105 z (by omega)).trans (fr1 z hz)
      refine n_iinc (k := 1) (x := t) dL_jokes_76 (by decide) rfl rfl (by decide) ?_
      refine v_ls (ls2 := [some (.ref u), some (.int (nI (C 0 1))), some (.int (nI (cnt (fun z => decide (hold C z)) j))), some (.int ((oN (-1015) (endF C j)))), some (.int (nI (sm (C 7) j))), some (.int ((lastJ C j))), some (.ref n), some (.int (nI j)), some (.int (nI ((sm (fun q => C 10 (j * 4 + q)) t) + (C 10 (j * 4 + t))))), some (.int (nI 0)), some (.int (nI (t + 1))), none, none, none]) rfl ?_
      refine v_goto (tgt := 41) dL_jokes_79 (by decide) ?_
      have hF3 : ∀ x, x < 4 → (va_up F2 t (F2 t + (C 10 (j * 4 + t)))) x = if x < (t + 1) then sm (fun q => C 10 (q * 4 + x)) (j + 1) else sm (fun q => C 10 (q * 4 + x)) j := fun x hx => by
        unfold va_up
        by_cases e : x = t
        · rw [if_pos e, if_pos (by omega), e, hF2 t (by omega), if_neg (Nat.lt_irrefl t)]; rfl
        · rw [if_neg e, hF2 x hx]; by_cases e2 : x < t
          · rw [if_pos e2, if_pos (by omega)]
          · rw [if_neg e2, if_neg (by omega)]
      exact ihT (by omega) _ ⟨_, fa105, hF3, fr107⟩
