theorem crG_3 {C : Ct} : crG C 0 3 = C 14 0 := by
  unfold crG
  split
  · rfl
  · split
    · rfl
    · unfold prG prf
      split
      · split <;> rfl
      · rfl
theorem crG_0 {C : Ct} : crG C 0 0 = C 0 0 := by
  unfold crG
  split
  · rfl
  · split
    · rfl
    · unfold prG prf
      split
      · split <;> rfl
      · rfl
theorem crG_1 {C : Ct} : crG C 0 1 = C 0 1 := by
  unfold crG
  split
  · rfl
  · split
    · rfl
    · unfold prG prf
      split
      · split <;> rfl
      · rfl
abbrev exB (C : Ct) : Prop := exm C (C 13 0) ∨ barr (crH C) (C 11 0) (C 12 0)
theorem crG_10 {C : Ct} : crG C 10 (C 12 0 * 4 + C 13 0) = C 10 (C 12 0 * 4 + C 13 0) + bI (¬ exB C) := by
  unfold crG
  split
  · rename_i h; rw [bI_f (p := ¬ exB C) (fun z => z (Or.inl h))]; rfl
  · rename_i h1
    split
    · rename_i h; rw [bI_f (p := ¬ exB C) (fun z => z (Or.inr h))]; rfl
    · rename_i h2
      rw [bI_t (p := ¬ exB C) (fun z => z.elim h1 h2)]
      have e : (va_up (C 10) (C 12 0 * 4 + C 13 0) (C 10 (C 12 0 * 4 + C 13 0) + 1)) (C 12 0 * 4 + C 13 0) = C 10 (C 12 0 * 4 + C 13 0) + 1 := if_pos rfl
      unfold prG prf
      split
      · split
        · exact e
        · exact e
      · exact e
theorem crG_6 {C : Ct} (hf : C 11 0 < 6) : sm (crG C 6) 6 = sm (C 6) 6 + bI (¬ exm C (C 13 0) ∧ ¬ barr (crH C) (C 11 0) (C 12 0) ∧ crR C < 5) := by
  unfold crG crR
  by_cases h1 : exm C (C 13 0)
  · rw [if_pos h1, bI_f (fun z => z.1 h1)]; rfl
  · rw [if_neg h1, if_neg h1]
    by_cases h2 : barr (crH C) (C 11 0) (C 12 0)
    · rw [if_pos h2, bI_f (fun z => z.2.1 h2)]; rfl
    · rw [if_neg h2, if_neg h2]
      have hl : lau (crH C) (C 11 0) (C 12 0) (C 13 0) = lau C (C 11 0) (C 12 0) (C 13 0) := rfl
      unfold prG prf
      rw [hl]
      by_cases h3 : lau C (C 11 0) (C 12 0) (C 13 0) < 5
      · rw [if_pos h3, if_pos h3, bI_t ⟨h1, h2, h3⟩]
        have e := sm_up (C 6) (C 6 (C 11 0) + 1) hf
        have e2 : sm (va_up (C 6) (C 11 0) (C 6 (C 11 0) + 1)) 6 = sm (C 6) 6 + 1 := by omega
        split
        · exact e2
        · exact e2
      · rw [if_neg h3, if_neg h3, bI_f (fun z => h3 z.2.2)]; rfl
theorem fcit_2 {C : Ct} : ∀ k, fcit k C 0 2 = C 0 2 - k
  | 0 => rfl
  | k + 1 => by rw [fcit, crG_2, fcit_2 k]; omega
theorem fcit_7 {C : Ct} : ∀ k, fcit k C 0 7 = C 0 7 + k
  | 0 => rfl
  | k + 1 => by rw [fcit, crG_7, fcit_7 k]; omega
theorem dNx {C : Ct} (h : ¬ C 0 2 = 0) : dNext C = (nI (crR C), crG C, none) := if_neg h
theorem gd_next {b : Nat} {C : Ct} (g : gd b C) (h : ¬ C 0 2 = 0) (hb : b ≤ 2000000) : gd (b + 3000) (crG C) := by
  have q := gd_gj g (gj_dNext g.1 g.2.1 (by omega)) (by omega)
  rw [dNx h] at q
  exact q
theorem fcit_gd {b : Nat} {C : Ct} (g : gd b C) (hb : b ≤ 145000) (hn : C 0 2 ≤ 10) : ∀ k, k ≤ C 0 2 → gd (b + 3000 * k) (fcit k C)
  | 0, _ => g
  | k + 1, h => by
    have q := gd_next (fcit_gd g hb hn k (by omega)) (by rw [fcit_2]; omega) (by omega)
    rw [show b + 3000 * (k + 1) = b + 3000 * k + 3000 by omega]
    exact q
theorem will_0 {C : Ct} (h : C 0 2 = 0) : nI (sm (fcast (C 0 2) C 2) 6) - nI (sm (C 2) 6) = nI 0 := by
  rw [h]
  exact Int32.sub_self _
theorem will_n {C : Ct} : nI (sm (C 2) 6) + (nI (sm (fcast (C 0 2) C 2) 6) - nI (sm (C 2) 6)) = nI (sm (fcit (C 0 2) C 2) 6) := by
  rw [fcast_it, Int32.add_comm]
  exact Int32.sub_add_cancel _ _
theorem ba_0 {C : Ct} {f j : Nat} (hlo : C 0 3 ≤ C 14 0) : barr (crH C) f j ↔ (hold C j ∧ C 8 j ≠ f ∧ C 14 0 < C 9 j) := by
  have e : barr (crH C) f j ↔ (C 14 0 < C 9 j ∧ C 8 j ≠ f) := Iff.rfl
  rw [e]
  exact ⟨fun z => ⟨by show C 0 3 < C 9 j; omega, z.2, z.1⟩, fun z => ⟨z.2.2, z.2.1⟩⟩
set_option maxRecDepth 20000 in
set_option maxHeartbeats 4000000 in
theorem t_L_foretold {l : Launch} {G : vG} {h : AH} {n : Nat} {u a : Nat} {LN : Ln} {C : Ct} {T : Hs} {Sn : Ct} {sv : Nat} {rs dt : Int32} {b : Nat} (g : gd b C) (o : oP G u n h a LN C T Sn sv rs dt) (hT : T.1 ≤ 8) (hb9 : b ≤ 145000) : Mt l G mL_foretold [.ref u] (n) h 0 0 (fun r n2 h2 => r = some (.int (nI 1)) ∧ n2 = n ∧ ∃ (T2 : Hs) (rs2 dt2 : Int32), T2.1 = 0 ∧ oP G u n h2 a LN C T2 C 1 rs2 dt2 ∧ frP (fun z => z < u ∨ u + 250 ≤ z) h h2) := by
  refine Mt.of (by decide) (Nat.le_of_ble_eq_true rfl) rfl ?_
  refine v_ls (ls2 := [some (.ref u), none, none, none, none, none, none, none, none, none, none, none, none, none, none, none, none, none]) rfl ?_
  have hun := o.n
  have hn6 := g.1.1.1.1
  have hn12 := g.1.1.1.2.1
  have hn10 := g.1.1.1.2.2.1
  refine v_aload_n dL_foretold_0 rfl ?_
  refine v_callV (st := []) dL_foretold_1 (o_save o) wL_157 o.he rfl rfl ⟨Nat.le_of_ble_eq_true rfl, Nat.le_of_ble_eq_true rfl⟩ (Nat.le_of_ble_eq_true rfl) ⟨by omega, by omega⟩ (fun r n2 h2 hq => ?_)
  obtain ⟨rfl, hn9, ho21, sa21⟩ := os_of o hq; replace hn9 := hn9.symm; subst hn9
  refine v_st (st2 := [.int (nI (C 0 0))]) rfl ?_
  have fr22 : frP (fun z => z < u ∨ u + 250 ≤ z) _ _ := fun z (hz : z < u ∨ u + 250 ≤ z) => sa21 z (by omega)
  refine v_istore_n dL_foretold_4 rfl (by decide) ?_
  refine v_ls (ls2 := [some (.ref u), some (.int (nI (C 0 0))), none, none, none, none, none, none, none, none, none, none, none, none, none, none, none, none]) rfl ?_
  refine v_aload_n dL_foretold_5 rfl ?_
  refine v_iconst (v := nI 2) dL_foretold_6 (by decide) ?_
  refine v_ask (st := []) (v2 := nI (C 0 2)) dL_foretold_7 (o_account g ho21) (qAcc_at (w := 2) (by decide)) wL_34 ho21.he rfl rfl ⟨Nat.le_of_ble_eq_true rfl, Nat.le_of_ble_eq_true rfl⟩ (Nat.le_of_ble_eq_true rfl) ⟨by omega, by omega⟩ ?_
  have b23 : C 0 2 < 2 ^ 28 := C_b g
  refine v_istore_n dL_foretold_10 rfl (by decide) ?_
  refine v_ls (ls2 := [some (.ref u), some (.int (nI (C 0 0))), some (.int (nI (C 0 2))), none, none, none, none, none, none, none, none, none, none, none, none, none, none, none]) rfl ?_
  refine v_aload_n dL_foretold_11 rfl ?_
  refine v_iconst (v := nI 4) dL_foretold_12 (by decide) ?_
  refine v_ask (st := []) (v2 := nI (sm (C 2) 6)) dL_foretold_13 (o_account g ho21) (qAcc_at (w := 4) (by decide)) wL_34 ho21.he rfl rfl ⟨Nat.le_of_ble_eq_true rfl, Nat.le_of_ble_eq_true rfl⟩ (Nat.le_of_ble_eq_true rfl) ⟨by omega, by omega⟩ ?_
  have b24 : sm (C 2) 6 < 2 ^ 28 := acN_b (T := T) (w := 4) g hT
  refine v_istore_n dL_foretold_16 rfl (by decide) ?_
  refine v_ls (ls2 := [some (.ref u), some (.int (nI (C 0 0))), some (.int (nI (C 0 2))), some (.int (nI (sm (C 2) 6))), none, none, none, none, none, none, none, none, none, none, none, none, none, none]) rfl ?_
  refine v_aload_n dL_foretold_17 rfl ?_
  obtain ⟨Y25, hY25, t25⟩ := o_forecast (l := l) g ho21
  refine v_callV (st := []) dL_foretold_18 (t25) wL_160 ho21.he rfl rfl ⟨Nat.le_of_ble_eq_true rfl, Nat.le_of_ble_eq_true rfl⟩ (Nat.le_of_ble_eq_true rfl) ⟨by omega, by omega⟩ (fun r n2 h2 hq => ?_)
  obtain ⟨rfl, hn9, ho26, sa26⟩ := of_of ho21 hq; replace hn9 := hn9.symm; subst hn9
  refine v_st (st2 := [.int ((nI (sm (fcast (C 0 2) C 2) 6) - nI (sm (C 2) 6)))]) rfl ?_
  have fr27 : frP (fun z => z < u ∨ u + 250 ≤ z) _ _ := fun z (hz : z < u ∨ u + 250 ≤ z) => (sa26 z (by omega)).trans (fr22 z hz)
  refine v_istore dL_foretold_21 rfl (by decide) ?_
  refine v_ls (ls2 := [some (.ref u), some (.int (nI (C 0 0))), some (.int (nI (C 0 2))), some (.int (nI (sm (C 2) 6))), some (.int ((nI (sm (fcast (C 0 2) C 2) 6) - nI (sm (C 2) 6)))), none, none, none, none, none, none, none, none, none, none, none, none, none]) rfl ?_
  refine v_aload_n dL_foretold_23 rfl ?_
  refine v_bipush (v := nI 10) dL_foretold_24 (by decide) ?_
  refine v_ask (st := []) (v2 := nI (C 0 7)) dL_foretold_26 (o_account g ho26) (qAcc_at (w := 10) (by decide)) wL_34 ho26.he rfl rfl ⟨Nat.le_of_ble_eq_true rfl, Nat.le_of_ble_eq_true rfl⟩ (Nat.le_of_ble_eq_true rfl) ⟨by omega, by omega⟩ ?_
  have b28 : C 0 7 < 2 ^ 28 := C_b g
  refine v_istore dL_foretold_29 rfl (by decide) ?_
  refine v_ls (ls2 := [some (.ref u), some (.int (nI (C 0 0))), some (.int (nI (C 0 2))), some (.int (nI (sm (C 2) 6))), some (.int ((nI (sm (fcast (C 0 2) C 2) 6) - nI (sm (C 2) 6)))), some (.int (nI (C 0 7))), none, none, none, none, none, none, none, none, none, none, none, none]) rfl ?_
  refine v_iconst (v := nI 1) dL_foretold_31 (by decide) ?_
  refine v_istore dL_foretold_32 rfl (by decide) ?_
  refine v_ls (ls2 := [some (.ref u), some (.int (nI (C 0 0))), some (.int (nI (C 0 2))), some (.int (nI (sm (C 2) 6))), some (.int ((nI (sm (fcast (C 0 2) C 2) 6) - nI (sm (C 2) 6)))), some (.int (nI (C 0 7))), some (.int (nI 1)), none, none, none, none, none, none, none, none, none, none, none]) rfl ?_
  refine v_iload_n dL_foretold_34 rfl ?_
  refine n_if_ne (tgt := 86) (x := C 0 2) dL_foretold_35 (by decide) (by omega) (fun c29 => ?_) (fun c29 => ?_)
  · have c0p : 0 < C 0 2 := Nat.pos_of_ne_zero (Nat.ne_of_gt c29)
    obtain ⟨k11, k12, k13, k14⟩ := g.1.1.1.2.2.2.2.2.2.2.2.2.1 0 c0p
    obtain ⟨-, -, -, -, -, -, lo, -⟩ := g.1.1.2
    have hlo := lo 0 c0p
    have g1 := gd_next g (Nat.ne_of_gt c29) (by omega)
    have e13 := crG_3 (C := C)
    have e10 := crG_10 (C := C)
    have e16 := crG_6 (C := C) (by omega)
    have e11 := crG_1 (C := C)
    have e00 := crG_0 (C := C)
    have eR := crR_le g.1.1
    have hBR := C_b (x := 10) (y := C 12 0 * 4 + C 13 0) g
    have hL7 := g.1.1.1.2.2.2.2.2.2.1 (C 12 0)
    have hL1 := g.1.1.1.2.2.2.1 (C 11 0)
    refine v_aload_n dL_foretold_86 rfl ?_
    refine v_iconst (v := nI 0) dL_foretold_87 (by decide) ?_
    refine v_iconst (v := nI 0) dL_foretold_88 (by decide) ?_
    refine v_ask (st := []) (v2 := nI (C 11 0)) dL_foretold_89 (o_booking g ho26) (qBk_at (p := 0) (w := 0) (by omega) (by omega) (by decide)) wL_112 ho26.he rfl rfl ⟨Nat.le_of_ble_eq_true rfl, Nat.le_of_ble_eq_true rfl⟩ (Nat.le_of_ble_eq_true rfl) ⟨by omega, by omega⟩ ?_
    have b30 : C 11 0 < 2 ^ 28 := C_b g
    refine v_istore dL_foretold_92 rfl (by decide) ?_
    refine v_ls (ls2 := [some (.ref u), some (.int (nI (C 0 0))), some (.int (nI (C 0 2))), some (.int (nI (sm (C 2) 6))), some (.int ((nI (sm (fcast (C 0 2) C 2) 6) - nI (sm (C 2) 6)))), some (.int (nI (C 0 7))), some (.int (nI 1)), some (.int (nI (C 11 0))), none, none, none, none, none, none, none, none, none, none]) rfl ?_
    refine v_aload_n dL_foretold_94 rfl ?_
    refine v_iconst (v := nI 0) dL_foretold_95 (by decide) ?_
    refine v_iconst (v := nI 1) dL_foretold_96 (by decide) ?_
    refine v_ask (st := []) (v2 := nI (C 12 0)) dL_foretold_97 (o_booking g ho26) (qBk_at (p := 0) (w := 1) (by omega) (by omega) (by decide)) wL_112 ho26.he rfl rfl ⟨Nat.le_of_ble_eq_true rfl, Nat.le_of_ble_eq_true rfl⟩ (Nat.le_of_ble_eq_true rfl) ⟨by omega, by omega⟩ ?_
    have b31 : C 12 0 < 2 ^ 28 := C_b g
    refine v_istore dL_foretold_100 rfl (by decide) ?_
    refine v_ls (ls2 := [some (.ref u), some (.int (nI (C 0 0))), some (.int (nI (C 0 2))), some (.int (nI (sm (C 2) 6))), some (.int ((nI (sm (fcast (C 0 2) C 2) 6) - nI (sm (C 2) 6)))), some (.int (nI (C 0 7))), some (.int (nI 1)), some (.int (nI (C 11 0))), some (.int (nI (C 12 0))), none, none, none, none, none, none, none, none, none]) rfl ?_
    refine v_aload_n dL_foretold_102 rfl ?_
    refine v_iconst (v := nI 0) dL_foretold_103 (by decide) ?_
    refine v_iconst (v := nI 2) dL_foretold_104 (by decide) ?_
    refine v_ask (st := []) (v2 := nI (C 13 0)) dL_foretold_105 (o_booking g ho26) (qBk_at (p := 0) (w := 2) (by omega) (by omega) (by decide)) wL_112 ho26.he rfl rfl ⟨Nat.le_of_ble_eq_true rfl, Nat.le_of_ble_eq_true rfl⟩ (Nat.le_of_ble_eq_true rfl) ⟨by omega, by omega⟩ ?_
    have b32 : C 13 0 < 2 ^ 28 := C_b g
    refine v_istore dL_foretold_108 rfl (by decide) ?_
    refine v_ls (ls2 := [some (.ref u), some (.int (nI (C 0 0))), some (.int (nI (C 0 2))), some (.int (nI (sm (C 2) 6))), some (.int ((nI (sm (fcast (C 0 2) C 2) 6) - nI (sm (C 2) 6)))), some (.int (nI (C 0 7))), some (.int (nI 1)), some (.int (nI (C 11 0))), some (.int (nI (C 12 0))), some (.int (nI (C 13 0))), none, none, none, none, none, none, none, none]) rfl ?_
    refine v_aload_n dL_foretold_110 rfl ?_
    refine v_iconst (v := nI 0) dL_foretold_111 (by decide) ?_
    refine v_iconst (v := nI 3) dL_foretold_112 (by decide) ?_
    refine v_ask (st := []) (v2 := nI (C 14 0)) dL_foretold_113 (o_booking g ho26) (qBk_at (p := 0) (w := 3) (by omega) (by omega) (by decide)) wL_112 ho26.he rfl rfl ⟨Nat.le_of_ble_eq_true rfl, Nat.le_of_ble_eq_true rfl⟩ (Nat.le_of_ble_eq_true rfl) ⟨by omega, by omega⟩ ?_
    have b33 : C 14 0 < 2 ^ 28 := C_b g
    refine v_istore dL_foretold_116 rfl (by decide) ?_
    refine v_ls (ls2 := [some (.ref u), some (.int (nI (C 0 0))), some (.int (nI (C 0 2))), some (.int (nI (sm (C 2) 6))), some (.int ((nI (sm (fcast (C 0 2) C 2) 6) - nI (sm (C 2) 6)))), some (.int (nI (C 0 7))), some (.int (nI 1)), some (.int (nI (C 11 0))), some (.int (nI (C 12 0))), some (.int (nI (C 13 0))), some (.int (nI (C 14 0))), none, none, none, none, none, none, none]) rfl ?_
    refine v_aload_n dL_foretold_118 rfl ?_
    refine v_iload dL_foretold_119 rfl ?_
    refine v_iload dL_foretold_121 rfl ?_
    refine v_ask (st := []) (v2 := nI (C 10 ((C 12 0) * 4 + (C 13 0)))) dL_foretold_123 (o_told g ho26) (qTold_at (j := C 12 0) (t := C 13 0) (by omega) (by omega) (by omega)) wL_100 ho26.he rfl rfl ⟨Nat.le_of_ble_eq_true rfl, Nat.le_of_ble_eq_true rfl⟩ (Nat.le_of_ble_eq_true rfl) ⟨by omega, by omega⟩ ?_
    have b34 : C 10 ((C 12 0) * 4 + (C 13 0)) < 2 ^ 28 := C_b g
    refine v_istore dL_foretold_126 rfl (by decide) ?_
    refine v_ls (ls2 := [some (.ref u), some (.int (nI (C 0 0))), some (.int (nI (C 0 2))), some (.int (nI (sm (C 2) 6))), some (.int ((nI (sm (fcast (C 0 2) C 2) 6) - nI (sm (C 2) 6)))), some (.int (nI (C 0 7))), some (.int (nI 1)), some (.int (nI (C 11 0))), some (.int (nI (C 12 0))), some (.int (nI (C 13 0))), some (.int (nI (C 14 0))), some (.int (nI (C 10 ((C 12 0) * 4 + (C 13 0))))), none, none, none, none, none, none]) rfl ?_
    refine v_aload_n dL_foretold_128 rfl ?_
    refine v_iload dL_foretold_129 rfl ?_
    refine v_iconst (v := nI 0) dL_foretold_131 (by decide) ?_
    refine v_ask (st := []) (v2 := nI (C 15 (C 13 0))) dL_foretold_132 (o_throneOf g ho26) (qThr_at (t := C 13 0) (w := 0) (by omega) (by decide)) wL_106 ho26.he rfl rfl ⟨Nat.le_of_ble_eq_true rfl, Nat.le_of_ble_eq_true rfl⟩ (Nat.le_of_ble_eq_true rfl) ⟨by omega, by omega⟩ ?_
    have b35 : C 15 (C 13 0) < 2 ^ 28 := C_b g
    refine v_iconst (v := nI 1) dL_foretold_135 (by decide) ?_
    refine v_cut 144 [some (.ref u), some (.int (nI (C 0 0))), some (.int (nI (C 0 2))), some (.int (nI (sm (C 2) 6))), some (.int ((nI (sm (fcast (C 0 2) C 2) 6) - nI (sm (C 2) 6)))), some (.int (nI (C 0 7))), some (.int (nI 1)), some (.int (nI (C 11 0))), some (.int (nI (C 12 0))), some (.int (nI (C 13 0))), some (.int (nI (C 14 0))), some (.int (nI (C 10 ((C 12 0) * 4 + (C 13 0))))), none, none, none, none, none, none] [.int (nI (bI (exm C (C 13 0))))] (fun K36 => ?_) ?_
    · refine n_icmp_ne (tgt := 143) (x := C 15 (C 13 0)) (y := 1) dL_foretold_136 (by decide) (by omega) (by omega) (fun c37 => ?_) (fun c37 => ?_)
      · refine v_iconst (v := nI 0) dL_foretold_143 (by decide) ?_
        exact v_done K36 rfl (by rw [bI_f (c37)]) rfl
      · refine v_iconst (v := nI 1) dL_foretold_139 (by decide) ?_
        refine v_goto (tgt := 144) dL_foretold_140 (by decide) ?_
        exact v_done K36 rfl (by rw [bI_t (c37)]) rfl
    have bl38 : bI (exm C (C 13 0)) < 2 := bI_lt
    refine v_istore dL_foretold_144 rfl (by decide) ?_
    refine v_ls (ls2 := [some (.ref u), some (.int (nI (C 0 0))), some (.int (nI (C 0 2))), some (.int (nI (sm (C 2) 6))), some (.int ((nI (sm (fcast (C 0 2) C 2) 6) - nI (sm (C 2) 6)))), some (.int (nI (C 0 7))), some (.int (nI 1)), some (.int (nI (C 11 0))), some (.int (nI (C 12 0))), some (.int (nI (C 13 0))), some (.int (nI (C 14 0))), some (.int (nI (C 10 ((C 12 0) * 4 + (C 13 0))))), some (.int (nI (bI (exm C (C 13 0))))), none, none, none, none, none]) rfl ?_
    refine v_cut 191 [some (.ref u), some (.int (nI (C 0 0))), some (.int (nI (C 0 2))), some (.int (nI (sm (C 2) 6))), some (.int ((nI (sm (fcast (C 0 2) C 2) 6) - nI (sm (C 2) 6)))), some (.int (nI (C 0 7))), some (.int (nI 1)), some (.int (nI (C 11 0))), some (.int (nI (C 12 0))), some (.int (nI (C 13 0))), some (.int (nI (C 14 0))), some (.int (nI (C 10 ((C 12 0) * 4 + (C 13 0))))), some (.int (nI (bI (exm C (C 13 0))))), none, none, none, none, none] [.int (nI (bI (barr (crH C) (C 11 0) (C 12 0))))] (fun K39 => ?_) ?_
    · refine v_aload_n dL_foretold_146 rfl ?_
      refine v_iload dL_foretold_147 rfl ?_
      refine v_iconst (v := nI 1) dL_foretold_149 (by decide) ?_
      refine v_ask (st := []) (v2 := if hold C (C 12 0) then nI (C 8 (C 12 0)) else -1015) dL_foretold_150 (o_jokeOf g ho26) (qJoke_at (j := C 12 0) (w := 1) (by omega) (by omega) (by decide)) wL_103 ho26.he rfl rfl ⟨Nat.le_of_ble_eq_true rfl, Nat.le_of_ble_eq_true rfl⟩ (Nat.le_of_ble_eq_true rfl) ⟨by omega, by omega⟩ ?_
      refine v_if_lt (tgt := 190) dL_foretold_153 (by decide) (fun c40 => ?_) (fun c40 => ?_)
      · refine v_iconst (v := nI 0) dL_foretold_190 (by decide) ?_
        exact v_done K39 rfl (by rw [bI_f (fun z => (own_lt (C_b g)).mp c40 ((ba_0 hlo).mp z).1)]) rfl
      · refine v_aload_n dL_foretold_156 rfl ?_
        refine v_iload dL_foretold_157 rfl ?_
        refine v_iconst (v := nI 1) dL_foretold_159 (by decide) ?_
        refine v_ask (st := []) (v2 := if hold C (C 12 0) then nI (C 8 (C 12 0)) else -1015) dL_foretold_160 (o_jokeOf g ho26) (qJoke_at (j := C 12 0) (w := 1) (by omega) (by omega) (by decide)) wL_103 ho26.he rfl rfl ⟨Nat.le_of_ble_eq_true rfl, Nat.le_of_ble_eq_true rfl⟩ (Nat.le_of_ble_eq_true rfl) ⟨by omega, by omega⟩ ?_
        refine v_iload dL_foretold_163 rfl ?_
        refine v_icmp_eq (tgt := 190) dL_foretold_165 (by decide) (fun c41 => ?_) (fun c41 => ?_)
        · refine v_iconst (v := nI 0) dL_foretold_190 (by decide) ?_
          exact v_done K39 rfl (by rw [bI_f (fun z => ((ba_0 hlo).mp z).2.1 ((own_eq (C_b g) (by omega)).mp c41).2)]) rfl
        · refine v_aload_n dL_foretold_168 rfl ?_
          refine v_iconst (v := nI 3) dL_foretold_169 (by decide) ?_
          refine v_ask (st := []) (v2 := nI (C 0 3)) dL_foretold_170 (o_account g ho26) (qAcc_at (w := 3) (by decide)) wL_34 ho26.he rfl rfl ⟨Nat.le_of_ble_eq_true rfl, Nat.le_of_ble_eq_true rfl⟩ (Nat.le_of_ble_eq_true rfl) ⟨by omega, by omega⟩ ?_
          have b42 : C 0 3 < 2 ^ 28 := C_b g
          refine v_aload_n dL_foretold_173 rfl ?_
          refine v_iload dL_foretold_174 rfl ?_
          refine v_iconst (v := nI 2) dL_foretold_176 (by decide) ?_
          refine v_ask (st := [.int (nI (C 0 3))]) (v2 := nI (hol C (C 12 0))) dL_foretold_177 (o_jokeOf g ho26) ((qJoke_at (j := C 12 0) (w := 2) (by omega) (by omega) (by decide)).trans qJoke_2) wL_103 ho26.he rfl rfl ⟨Nat.le_of_ble_eq_true rfl, Nat.le_of_ble_eq_true rfl⟩ (Nat.le_of_ble_eq_true rfl) ⟨by omega, by omega⟩ ?_
          have b43 : hol C (C 12 0) < 2 ^ 28 := hol_b g
          refine n_iadd (x := C 0 3) (y := hol C (C 12 0)) dL_foretold_180 ?_
          refine v_iload dL_foretold_181 rfl ?_
          refine n_icmp_le (tgt := 190) (x := C 0 3 + hol C (C 12 0)) (y := C 14 0) dL_foretold_183 (by decide) (by omega) (by omega) (fun c44 => ?_) (fun c44 => ?_)
          · refine v_iconst (v := nI 0) dL_foretold_190 (by decide) ?_
            exact v_done K39 rfl (by rw [bI_f (fun z => by obtain ⟨z1, z2, z3⟩ := (ba_0 hlo).mp z; have := hol_t z1; omega)]) rfl
          · refine v_iconst (v := nI 1) dL_foretold_186 (by decide) ?_
            refine v_goto (tgt := 191) dL_foretold_187 (by decide) ?_
            exact v_done K39 rfl (by rw [bI_t ((ba_0 hlo).mpr ⟨Classical.byContradiction fun z => c40 ((own_lt (C_b g)).mpr z), fun z => c41 ((own_eq (C_b g) (by omega)).mpr ⟨Classical.byContradiction fun z => c40 ((own_lt (C_b g)).mpr z), z⟩), by have := hol_t (C := C) (j := C 12 0) (Classical.byContradiction fun z => c40 ((own_lt (C_b g)).mpr z)); omega⟩)]) rfl
    have bl45 : bI (barr (crH C) (C 11 0) (C 12 0)) < 2 := bI_lt
    refine v_istore dL_foretold_191 rfl (by decide) ?_
    refine v_ls (ls2 := [some (.ref u), some (.int (nI (C 0 0))), some (.int (nI (C 0 2))), some (.int (nI (sm (C 2) 6))), some (.int ((nI (sm (fcast (C 0 2) C 2) 6) - nI (sm (C 2) 6)))), some (.int (nI (C 0 7))), some (.int (nI 1)), some (.int (nI (C 11 0))), some (.int (nI (C 12 0))), some (.int (nI (C 13 0))), some (.int (nI (C 14 0))), some (.int (nI (C 10 ((C 12 0) * 4 + (C 13 0))))), some (.int (nI (bI (exm C (C 13 0))))), some (.int (nI (bI (barr (crH C) (C 11 0) (C 12 0))))), none, none, none, none]) rfl ?_
    refine v_cut 231 [some (.ref u), some (.int (nI (C 0 0))), some (.int (nI (C 0 2))), some (.int (nI (sm (C 2) 6))), some (.int ((nI (sm (fcast (C 0 2) C 2) 6) - nI (sm (C 2) 6)))), some (.int (nI (C 0 7))), some (.int (nI 1)), some (.int (nI (C 11 0))), some (.int (nI (C 12 0))), some (.int (nI (C 13 0))), some (.int (nI (C 14 0))), some (.int (nI (C 10 ((C 12 0) * 4 + (C 13 0))))), some (.int (nI (bI (exm C (C 13 0))))), some (.int (nI (bI (barr (crH C) (C 11 0) (C 12 0))))), none, none, none, none] [.int (nI (crR C))] (fun K46 => ?_) ?_
    · refine v_iload dL_foretold_193 rfl ?_
      refine n_ifb_ne (tgt := 203) (p := exm C (C 13 0)) dL_foretold_195 (by decide) (fun c47 => ?_) (fun c47 => ?_)
      · refine v_iconst (v := nI 0) dL_foretold_203 (by decide) ?_
        refine v_goto (tgt := 231) dL_foretold_204 (by decide) ?_
        exact v_done K46 rfl (by rw [show crR C = 0 from if_pos c47]) rfl
      · refine v_iload dL_foretold_198 rfl ?_
        refine n_ifb_eq (tgt := 207) (p := barr (crH C) (C 11 0) (C 12 0)) dL_foretold_200 (by decide) (fun c48 => ?_) (fun c48 => ?_)
        · refine v_iconst (v := nI 0) dL_foretold_207 (by decide) ?_
          refine v_aload_n dL_foretold_208 rfl ?_
          refine v_iload dL_foretold_209 rfl ?_
          refine v_iconst (v := nI 0) dL_foretold_211 (by decide) ?_
          refine v_ask (st := [.int (nI 0)]) (v2 := nI (C 7 (C 12 0))) dL_foretold_212 (o_jokeOf g ho26) (qJoke_at (j := C 12 0) (w := 0) (by omega) (by omega) (by decide)) wL_103 ho26.he rfl rfl ⟨Nat.le_of_ble_eq_true rfl, Nat.le_of_ble_eq_true rfl⟩ (Nat.le_of_ble_eq_true rfl) ⟨by omega, by omega⟩ ?_
          have b49 : C 7 (C 12 0) < 2 ^ 28 := C_b g
          refine v_aload_n dL_foretold_215 rfl ?_
          refine v_iload dL_foretold_216 rfl ?_
          refine v_iconst (v := nI 0) dL_foretold_218 (by decide) ?_
          refine v_ask (st := [.int (nI (C 7 (C 12 0))), .int (nI 0)]) (v2 := nI (C 1 (C 11 0))) dL_foretold_219 (o_foolOf g ho26) (qFool_at (f := C 11 0) (w := 0) (by omega) (by omega) (by decide)) wL_97 ho26.he rfl rfl ⟨Nat.le_of_ble_eq_true rfl, Nat.le_of_ble_eq_true rfl⟩ (Nat.le_of_ble_eq_true rfl) ⟨by omega, by omega⟩ ?_
          have b50 : C 1 (C 11 0) < 2 ^ 28 := C_b g
          refine n_iadd (x := C 7 (C 12 0)) (y := C 1 (C 11 0)) dL_foretold_222 ?_
          refine v_iconst (v := nI 2) dL_foretold_223 (by decide) ?_
          refine v_iload dL_foretold_224 rfl ?_
          refine n_imul (x := 2) (y := C 10 ((C 12 0) * 4 + (C 13 0))) dL_foretold_226 ?_
          refine v_isub dL_foretold_227 ?_
          refine n_max0 (x := C 7 (C 12 0) + C 1 (C 11 0)) (y := 2 * (C 10 ((C 12 0) * 4 + (C 13 0)))) dL_foretold_228 q4_79 q2_238 q1_12 q2_239 (Nat.le_of_ble_eq_true rfl) (Nat.le_of_ble_eq_true rfl) (by omega) (by omega) (by omega) (by omega) ?_
          refine v_st (st2 := [.int (nI (lau C (C 11 0) (C 12 0) (C 13 0)))]) rfl ?_
          exact v_done K46 rfl (by rw [show crR C = lau C (C 11 0) (C 12 0) (C 13 0) from (if_neg c47).trans (if_neg c48)]) rfl
        · refine v_iconst (v := nI 0) dL_foretold_203 (by decide) ?_
          refine v_goto (tgt := 231) dL_foretold_204 (by decide) ?_
          exact v_done K46 rfl (by rw [show crR C = 0 from (if_neg c47).trans (if_pos c48)]) rfl
    refine v_istore dL_foretold_231 rfl (by decide) ?_
    refine v_ls (ls2 := [some (.ref u), some (.int (nI (C 0 0))), some (.int (nI (C 0 2))), some (.int (nI (sm (C 2) 6))), some (.int ((nI (sm (fcast (C 0 2) C 2) 6) - nI (sm (C 2) 6)))), some (.int (nI (C 0 7))), some (.int (nI 1)), some (.int (nI (C 11 0))), some (.int (nI (C 12 0))), some (.int (nI (C 13 0))), some (.int (nI (C 14 0))), some (.int (nI (C 10 ((C 12 0) * 4 + (C 13 0))))), some (.int (nI (bI (exm C (C 13 0))))), some (.int (nI (bI (barr (crH C) (C 11 0) (C 12 0))))), some (.int (nI (crR C))), none, none, none]) rfl ?_
    refine v_aload_n dL_foretold_233 rfl ?_
    refine v_bipush (v := nI 11) dL_foretold_234 (by decide) ?_
    refine v_ask (st := []) (v2 := nI (sm (C 6) 6)) dL_foretold_236 (o_account g ho26) (qAcc_at (w := 11) (by decide)) wL_34 ho26.he rfl rfl ⟨Nat.le_of_ble_eq_true rfl, Nat.le_of_ble_eq_true rfl⟩ (Nat.le_of_ble_eq_true rfl) ⟨by omega, by omega⟩ ?_
    have b51 : sm (C 6) 6 < 2 ^ 28 := acN_b (T := T) (w := 11) g hT
    refine v_istore dL_foretold_239 rfl (by decide) ?_
    refine v_ls (ls2 := [some (.ref u), some (.int (nI (C 0 0))), some (.int (nI (C 0 2))), some (.int (nI (sm (C 2) 6))), some (.int ((nI (sm (fcast (C 0 2) C 2) 6) - nI (sm (C 2) 6)))), some (.int (nI (C 0 7))), some (.int (nI 1)), some (.int (nI (C 11 0))), some (.int (nI (C 12 0))), some (.int (nI (C 13 0))), some (.int (nI (C 14 0))), some (.int (nI (C 10 ((C 12 0) * 4 + (C 13 0))))), some (.int (nI (bI (exm C (C 13 0))))), some (.int (nI (bI (barr (crH C) (C 11 0) (C 12 0))))), some (.int (nI (crR C))), some (.int (nI (sm (C 6) 6))), none, none]) rfl ?_
    refine v_iload dL_foretold_241 rfl ?_
    refine v_aload_n dL_foretold_243 rfl ?_
    obtain ⟨B52, hB52, t52⟩ := o_next (l := l) g ho26
    rw [dNx (C := C) (Nat.ne_of_gt c29)] at t52
    refine v_callV (st := [.int (nI 1)]) dL_foretold_244 (t52) wL_57 ho26.he rfl rfl ⟨Nat.le_of_ble_eq_true rfl, Nat.le_of_ble_eq_true rfl⟩ (Nat.le_of_ble_eq_true rfl) ⟨by omega, by omega⟩ (fun r n2 h2 hq => ?_)
    obtain ⟨rfl, hn9, ho53, sa53⟩ := oc_of ho26 hq; replace hn9 := hn9.symm; subst hn9
    refine v_st (st2 := [.int (nI (crR C)), .int (nI 1)]) rfl ?_
    have fr54 : frP (fun z => z < u ∨ u + 250 ≤ z) _ _ := fun z (hz : z < u ∨ u + 250 ≤ z) => (sa53 z (by omega)).trans (fr27 z hz)
    have ho55 : oP G u n _ a LN ((crG C)) ((hkp (nI (crR C)) C T)) C 1 rs dt := ho53
    refine v_iload dL_foretold_247 rfl ?_
    refine n_icmp_ne (tgt := 328) (x := crR C) (y := crR C) dL_foretold_249 (by decide) (by omega) (by omega) (fun c => (by exfalso; omega)) (fun _ => ?_)
    refine v_aload_n dL_foretold_252 rfl ?_
    refine v_iconst (v := nI 3) dL_foretold_253 (by decide) ?_
    refine v_ask (st := [.int (nI 1)]) (v2 := nI (((crG C)) 0 3)) dL_foretold_254 (o_account g1 ho55) (qAcc_at (w := 3) (by decide)) wL_34 ho55.he rfl rfl ⟨Nat.le_of_ble_eq_true rfl, Nat.le_of_ble_eq_true rfl⟩ (Nat.le_of_ble_eq_true rfl) ⟨by omega, by omega⟩ ?_
    have b56 : ((crG C)) 0 3 < 2 ^ 28 := C_b g1
    refine v_iload dL_foretold_257 rfl ?_
    refine n_icmp_ne (tgt := 328) (x := ((crG C)) 0 3) (y := C 14 0) dL_foretold_259 (by decide) (by omega) (by omega) (fun c => (by exfalso; omega)) (fun _ => ?_)
    refine v_aload_n dL_foretold_262 rfl ?_
    refine v_iload dL_foretold_263 rfl ?_
    refine v_iload dL_foretold_265 rfl ?_
    refine v_ask (st := [.int (nI 1)]) (v2 := nI (((crG C)) 10 ((C 12 0) * 4 + (C 13 0)))) dL_foretold_267 (o_told g1 ho55) (qTold_at (j := C 12 0) (t := C 13 0) (by omega) (by omega) (by omega)) wL_100 ho55.he rfl rfl ⟨Nat.le_of_ble_eq_true rfl, Nat.le_of_ble_eq_true rfl⟩ (Nat.le_of_ble_eq_true rfl) ⟨by omega, by omega⟩ ?_
    have b57 : ((crG C)) 10 ((C 12 0) * 4 + (C 13 0)) < 2 ^ 28 := C_b g1
    refine v_iload dL_foretold_270 rfl ?_
    refine v_cut 287 [some (.ref u), some (.int (nI (C 0 0))), some (.int (nI (C 0 2))), some (.int (nI (sm (C 2) 6))), some (.int ((nI (sm (fcast (C 0 2) C 2) 6) - nI (sm (C 2) 6)))), some (.int (nI (C 0 7))), some (.int (nI 1)), some (.int (nI (C 11 0))), some (.int (nI (C 12 0))), some (.int (nI (C 13 0))), some (.int (nI (C 14 0))), some (.int (nI (C 10 ((C 12 0) * 4 + (C 13 0))))), some (.int (nI (bI (exm C (C 13 0))))), some (.int (nI (bI (barr (crH C) (C 11 0) (C 12 0))))), some (.int (nI (crR C))), some (.int (nI (sm (C 6) 6))), none, none] [.int (nI (bI (¬ exB C))), .int (nI (C 10 ((C 12 0) * 4 + (C 13 0)))), .int (nI (((crG C)) 10 ((C 12 0) * 4 + (C 13 0)))), .int (nI 1)] (fun K58 => ?_) ?_
    · refine v_iload dL_foretold_272 rfl ?_
      refine n_ifb_ne (tgt := 282) (p := exm C (C 13 0)) dL_foretold_274 (by decide) (fun c59 => ?_) (fun c59 => ?_)
      · refine v_iconst (v := nI 0) dL_foretold_282 (by decide) ?_
        refine v_goto (tgt := 287) dL_foretold_283 (by decide) ?_
        exact v_done K58 rfl (by rw [bI_f (p := ¬ exB C) (fun z => z (Or.inl c59))]) rfl
      · refine v_iload dL_foretold_277 rfl ?_
        refine n_ifb_eq (tgt := 286) (p := barr (crH C) (C 11 0) (C 12 0)) dL_foretold_279 (by decide) (fun c60 => ?_) (fun c60 => ?_)
        · refine v_iconst (v := nI 1) dL_foretold_286 (by decide) ?_
          exact v_done K58 rfl (by rw [bI_t (p := ¬ exB C) (fun z => z.elim c59 c60)]) rfl
        · refine v_iconst (v := nI 0) dL_foretold_282 (by decide) ?_
          refine v_goto (tgt := 287) dL_foretold_283 (by decide) ?_
          exact v_done K58 rfl (by rw [bI_f (p := ¬ exB C) (fun z => z (Or.inr c60))]) rfl
    have bl61 : bI (¬ exB C) < 2 := bI_lt
    refine n_iadd (x := C 10 ((C 12 0) * 4 + (C 13 0))) (y := bI (¬ exB C)) dL_foretold_287 ?_
    refine n_icmp_ne (tgt := 328) (x := ((crG C)) 10 ((C 12 0) * 4 + (C 13 0))) (y := (C 10 ((C 12 0) * 4 + (C 13 0))) + (bI (¬ exB C))) dL_foretold_288 (by decide) (by omega) (by omega) (fun c => (by exfalso; omega)) (fun _ => ?_)
    refine v_aload_n dL_foretold_291 rfl ?_
    refine v_bipush (v := nI 11) dL_foretold_292 (by decide) ?_
    refine v_ask (st := [.int (nI 1)]) (v2 := nI (sm (((crG C)) 6) 6)) dL_foretold_294 (o_account g1 ho55) (qAcc_at (w := 11) (by decide)) wL_34 ho55.he rfl rfl ⟨Nat.le_of_ble_eq_true rfl, Nat.le_of_ble_eq_true rfl⟩ (Nat.le_of_ble_eq_true rfl) ⟨by omega, by omega⟩ ?_
    have b62 : sm (((crG C)) 6) 6 < 2 ^ 28 := acN_b (T := (hkp (nI (crR C)) C T)) (w := 11) g1 ho55.1.2.2.2.2.2.2.1
    refine v_iload dL_foretold_297 rfl ?_
    refine v_cut 320 [some (.ref u), some (.int (nI (C 0 0))), some (.int (nI (C 0 2))), some (.int (nI (sm (C 2) 6))), some (.int ((nI (sm (fcast (C 0 2) C 2) 6) - nI (sm (C 2) 6)))), some (.int (nI (C 0 7))), some (.int (nI 1)), some (.int (nI (C 11 0))), some (.int (nI (C 12 0))), some (.int (nI (C 13 0))), some (.int (nI (C 14 0))), some (.int (nI (C 10 ((C 12 0) * 4 + (C 13 0))))), some (.int (nI (bI (exm C (C 13 0))))), some (.int (nI (bI (barr (crH C) (C 11 0) (C 12 0))))), some (.int (nI (crR C))), some (.int (nI (sm (C 6) 6))), none, none] [.int (nI (bI (¬ exm C (C 13 0) ∧ ¬ barr (crH C) (C 11 0) (C 12 0) ∧ crR C < 5))), .int (nI (sm (C 6) 6)), .int (nI (sm (((crG C)) 6) 6)), .int (nI 1)] (fun K63 => ?_) ?_
    · refine v_iload dL_foretold_299 rfl ?_
      refine n_ifb_ne (tgt := 319) (p := exm C (C 13 0)) dL_foretold_301 (by decide) (fun c64 => ?_) (fun c64 => ?_)
      · refine v_iconst (v := nI 0) dL_foretold_319 (by decide) ?_
        exact v_done K63 rfl (by rw [bI_f (fun z => z.1 c64)]) rfl
      · refine v_iload dL_foretold_304 rfl ?_
        refine n_ifb_ne (tgt := 319) (p := barr (crH C) (C 11 0) (C 12 0)) dL_foretold_306 (by decide) (fun c65 => ?_) (fun c65 => ?_)
        · refine v_iconst (v := nI 0) dL_foretold_319 (by decide) ?_
          exact v_done K63 rfl (by rw [bI_f (fun z => z.2.1 c65)]) rfl
        · refine v_iload dL_foretold_309 rfl ?_
          refine v_iconst (v := nI 5) dL_foretold_311 (by decide) ?_
          refine n_icmp_ge (tgt := 319) (x := crR C) (y := 5) dL_foretold_312 (by decide) (by omega) (by omega) (fun c66 => ?_) (fun c66 => ?_)
          · refine v_iconst (v := nI 0) dL_foretold_319 (by decide) ?_
            exact v_done K63 rfl (by rw [bI_f (fun z => by have := z.2.2; omega)]) rfl
          · refine v_iconst (v := nI 1) dL_foretold_315 (by decide) ?_
            refine v_goto (tgt := 320) dL_foretold_316 (by decide) ?_
            exact v_done K63 rfl (by rw [bI_t ⟨c64, c65, by omega⟩]) rfl
    have bl67 : bI (¬ exm C (C 13 0) ∧ ¬ barr (crH C) (C 11 0) (C 12 0) ∧ crR C < 5) < 2 := bI_lt
    refine n_iadd (x := sm (C 6) 6) (y := bI (¬ exm C (C 13 0) ∧ ¬ barr (crH C) (C 11 0) (C 12 0) ∧ crR C < 5)) dL_foretold_320 ?_
    refine n_icmp_ne (tgt := 328) (x := sm (((crG C)) 6) 6) (y := sm (C 6) 6 + (bI (¬ exm C (C 13 0) ∧ ¬ barr (crH C) (C 11 0) (C 12 0) ∧ crR C < 5))) dL_foretold_321 (by decide) (by omega) (by omega) (fun c => (by exfalso; omega)) (fun _ => ?_)
    refine v_iconst (v := nI 1) dL_foretold_324 (by decide) ?_
    refine v_goto (tgt := 329) dL_foretold_325 (by decide) ?_
    refine v_iand dL_foretold_329 ?_
    refine v_st (st2 := [.int (nI 1)]) (by decide) ?_
    refine v_istore dL_foretold_330 rfl (by decide) ?_
    refine v_ls (ls2 := [some (.ref u), some (.int (nI (C 0 0))), some (.int (nI (C 0 2))), some (.int (nI (sm (C 2) 6))), some (.int ((nI (sm (fcast (C 0 2) C 2) 6) - nI (sm (C 2) 6)))), some (.int (nI (C 0 7))), some (.int (nI 1)), some (.int (nI (C 11 0))), some (.int (nI (C 12 0))), some (.int (nI (C 13 0))), some (.int (nI (C 14 0))), some (.int (nI (C 10 ((C 12 0) * 4 + (C 13 0))))), some (.int (nI (bI (exm C (C 13 0))))), some (.int (nI (bI (barr (crH C) (C 11 0) (C 12 0))))), some (.int (nI (crR C))), some (.int (nI (sm (C 6) 6))), none, none]) rfl ?_
    refine v_iconst (v := nI 1) dL_foretold_332 (by decide) ?_
    refine v_istore dL_foretold_333 rfl (by decide) ?_
    refine v_ls (ls2 := [some (.ref u), some (.int (nI (C 0 0))), some (.int (nI (C 0 2))), some (.int (nI (sm (C 2) 6))), some (.int ((nI (sm (fcast (C 0 2) C 2) 6) - nI (sm (C 2) 6)))), some (.int (nI (C 0 7))), some (.int (nI 1)), some (.int (nI (C 11 0))), some (.int (nI (C 12 0))), some (.int (nI (C 13 0))), some (.int (nI (C 14 0))), some (.int (nI (C 10 ((C 12 0) * 4 + (C 13 0))))), some (.int (nI (bI (exm C (C 13 0))))), some (.int (nI (bI (barr (crH C) (C 11 0) (C 12 0))))), some (.int (nI (crR C))), some (.int (nI (sm (C 6) 6))), some (.int (nI 1)), none]) rfl ?_
    refine v_forget 7 ?_
    refine v_forget 8 ?_
    refine v_forget 9 ?_
    refine v_forget 10 ?_
    refine v_forget 11 ?_
    refine v_forget 12 ?_
    refine v_forget 13 ?_
    refine v_forget 14 ?_
    refine v_forget 15 ?_
    refine v_ls (ls2 := [some (.ref u), some (.int (nI (C 0 0))), some (.int (nI (C 0 2))), some (.int (nI (sm (C 2) 6))), some (.int ((nI (sm (fcast (C 0 2) C 2) 6) - nI (sm (C 2) 6)))), some (.int (nI (C 0 7))), some (.int (nI 1)), none, none, none, none, none, none, none, none, none, some (.int (nI 1)), none]) rfl ?_
    refine loopH (fun k => [some (.ref u), some (.int (nI (C 0 0))), some (.int (nI (C 0 2))), some (.int (nI (sm (C 2) 6))), some (.int ((nI (sm (fcast (C 0 2) C 2) 6) - nI (sm (C 2) 6)))), some (.int (nI (C 0 7))), some (.int (nI 1)), none, none, none, none, none, none, none, none, none, some (.int (nI k)), none]) (fun k h1 => ∃ T2 : Hs, oP G u n h1 a LN (fcit k C) T2 C 1 rs dt ∧ frP (fun z => z < u ∨ u + 250 ≤ z) h h1) (N := C 0 2) 1 (by omega) rfl ⟨_, ho55, fr54⟩ (fun k h1 hk hp9 ihK => ?_)
    obtain ⟨T2, ho2, fr2⟩ := hp9
    have gk := fcit_gd g hb9 hn10 k hk
    have ek := fcit_2 (C := C) k
    have e7k := fcit_7 (C := C) k
    have hT2 := ho2.1.2.2.2.2.2.2.1
    refine v_iload dL_foretold_335 rfl ?_
    refine v_iload_n dL_foretold_337 rfl ?_
    refine n_icmp_ge (tgt := 353) (x := k) (y := C 0 2) dL_foretold_338 (by decide) (by omega) (by omega) (fun c68 => ?_) (fun c68 => ?_)
    · have ek9 : k = C 0 2 := by omega
      subst ek9
      refine v_iload dL_foretold_353 rfl ?_
      refine v_aload_n dL_foretold_355 rfl ?_
      refine v_iconst (v := nI 2) dL_foretold_356 (by decide) ?_
      refine v_ask (st := [.int (nI 1)]) (v2 := nI (((fcit (C 0 2) C)) 0 2)) dL_foretold_357 (o_account gk ho2) (qAcc_at (w := 2) (by decide)) wL_34 ho2.he rfl rfl ⟨Nat.le_of_ble_eq_true rfl, Nat.le_of_ble_eq_true rfl⟩ (Nat.le_of_ble_eq_true rfl) ⟨by omega, by omega⟩ ?_
      have b69 : ((fcit (C 0 2) C)) 0 2 < 2 ^ 28 := C_b gk
      refine n_if_ne (tgt := 392) (x := ((fcit (C 0 2) C)) 0 2) dL_foretold_360 (by decide) (by omega) (fun c => (by exfalso; omega)) (fun _ => ?_)
      refine v_aload_n dL_foretold_363 rfl ?_
      refine v_iconst (v := nI 4) dL_foretold_364 (by decide) ?_
      refine v_ask (st := [.int (nI 1)]) (v2 := nI (sm (((fcit (C 0 2) C)) 2) 6)) dL_foretold_365 (o_account gk ho2) (qAcc_at (w := 4) (by decide)) wL_34 ho2.he rfl rfl ⟨Nat.le_of_ble_eq_true rfl, Nat.le_of_ble_eq_true rfl⟩ (Nat.le_of_ble_eq_true rfl) ⟨by omega, by omega⟩ ?_
      have b70 : sm (((fcit (C 0 2) C)) 2) 6 < 2 ^ 28 := acN_b (T := T2) (w := 4) gk hT2
      refine v_iload_n dL_foretold_368 rfl ?_
      refine v_iload dL_foretold_369 rfl ?_
      refine v_iadd dL_foretold_371 ?_
      refine v_st (st2 := [.int (nI (sm ((fcit (C 0 2) C) 2) 6)), .int (nI (sm (((fcit (C 0 2) C)) 2) 6)), .int (nI 1)]) (by rw [will_n]) ?_
      refine n_icmp_ne (tgt := 392) (x := sm (((fcit (C 0 2) C)) 2) 6) (y := sm ((fcit (C 0 2) C) 2) 6) dL_foretold_372 (by decide) (by omega) (by omega) (fun c => (by exfalso; omega)) (fun _ => ?_)
      refine v_aload_n dL_foretold_375 rfl ?_
      refine v_bipush (v := nI 10) dL_foretold_376 (by decide) ?_
      refine v_ask (st := [.int (nI 1)]) (v2 := nI (((fcit (C 0 2) C)) 0 7)) dL_foretold_378 (o_account gk ho2) (qAcc_at (w := 10) (by decide)) wL_34 ho2.he rfl rfl ⟨Nat.le_of_ble_eq_true rfl, Nat.le_of_ble_eq_true rfl⟩ (Nat.le_of_ble_eq_true rfl) ⟨by omega, by omega⟩ ?_
      have b71 : ((fcit (C 0 2) C)) 0 7 < 2 ^ 28 := C_b gk
      refine v_iload dL_foretold_381 rfl ?_
      refine v_iload_n dL_foretold_383 rfl ?_
      refine n_iadd (x := C 0 7) (y := C 0 2) dL_foretold_384 ?_
      refine n_icmp_ne (tgt := 392) (x := ((fcit (C 0 2) C)) 0 7) (y := C 0 7 + C 0 2) dL_foretold_385 (by decide) (by omega) (by omega) (fun c => (by exfalso; omega)) (fun _ => ?_)
      refine v_iconst (v := nI 1) dL_foretold_388 (by decide) ?_
      refine v_goto (tgt := 393) dL_foretold_389 (by decide) ?_
      refine v_iand dL_foretold_393 ?_
      refine v_st (st2 := [.int (nI 1)]) (by decide) ?_
      refine v_istore dL_foretold_394 rfl (by decide) ?_
      refine v_ls (ls2 := [some (.ref u), some (.int (nI (C 0 0))), some (.int (nI (C 0 2))), some (.int (nI (sm (C 2) 6))), some (.int ((nI (sm (fcast (C 0 2) C 2) 6) - nI (sm (C 2) 6)))), some (.int (nI (C 0 7))), some (.int (nI 1)), none, none, none, none, none, none, none, none, none, some (.int (nI (C 0 2))), none]) rfl ?_
      refine v_aload_n dL_foretold_396 rfl ?_
      have hT9 := ho2
      refine v_callV (st := []) dL_foretold_397 (o_restore ho2 (by decide)) wL_167 ho2.he rfl rfl ⟨Nat.le_of_ble_eq_true rfl, Nat.le_of_ble_eq_true rfl⟩ (Nat.le_of_ble_eq_true rfl) ⟨by omega, by omega⟩ (fun r n2 h2 hq => ?_)
      obtain ⟨rfl, hn9, ho72, sa72⟩ := or_of ho2 hq; replace hn9 := hn9.symm; subst hn9
      refine v_st (st2 := [.int (nI (C 0 0))]) rfl ?_
      have fr73 : frP (fun z => z < u ∨ u + 250 ≤ z) _ _ := fun z (hz : z < u ∨ u + 250 ≤ z) => (sa72 z (by omega)).trans (fr2 z hz)
      have ho74 : oP G u n _ a LN C ((0, T2.2.1, T2.2.2)) C 1 rs dt := ho72
      refine v_iload_n dL_foretold_400 rfl ?_
      refine n_icmp_ne (tgt := 413) (x := C 0 0) (y := C 0 0) dL_foretold_401 (by decide) (by omega) (by omega) (fun c => (by exfalso; omega)) (fun _ => ?_)
      refine v_iload dL_foretold_404 rfl ?_
      refine n_if_eq (tgt := 413) (x := 1) dL_foretold_406 (by decide) (by decide) (fun c => absurd c (by decide)) (fun _ => ?_)
      refine v_iconst (v := nI 1) dL_foretold_409 (by decide) ?_
      refine v_goto (tgt := 414) dL_foretold_410 (by decide) ?_
      refine v_zret (ty := .boolean) dL_foretold_414 rfl (by decide) ?_ (by omega) (by omega)
      exact ⟨rfl, rfl, _, _, _, rfl, ho74, fr73⟩
    · refine v_aload_n dL_foretold_341 rfl ?_
      obtain ⟨B75, hB75, t75⟩ := o_next (l := l) gk ho2
      rw [dNx (C := (fcit k C)) (by omega)] at t75
      refine v_callV (st := []) dL_foretold_342 (t75) wL_57 ho2.he rfl rfl ⟨Nat.le_of_ble_eq_true rfl, Nat.le_of_ble_eq_true rfl⟩ (Nat.le_of_ble_eq_true rfl) ⟨by omega, by omega⟩ (fun r n2 h2 hq => ?_)
      obtain ⟨rfl, hn9, ho76, sa76⟩ := oc_of ho2 hq; replace hn9 := hn9.symm; subst hn9
      refine v_st (st2 := [.int (nI (crR ((fcit k C))))]) rfl ?_
      have fr77 : frP (fun z => z < u ∨ u + 250 ≤ z) _ _ := fun z (hz : z < u ∨ u + 250 ≤ z) => (sa76 z (by omega)).trans (fr2 z hz)
      have ho78 : oP G u n _ a LN ((fcit (k + 1) C)) ((hkp (nI (crR ((fcit k C)))) ((fcit k C)) T2)) C 1 rs dt := ho76
      refine v_istore dL_foretold_345 rfl (by decide) ?_
      refine v_ls (ls2 := [some (.ref u), some (.int (nI (C 0 0))), some (.int (nI (C 0 2))), some (.int (nI (sm (C 2) 6))), some (.int ((nI (sm (fcast (C 0 2) C 2) 6) - nI (sm (C 2) 6)))), some (.int (nI (C 0 7))), some (.int (nI 1)), none, none, none, none, none, none, none, none, none, some (.int (nI k)), some (.int (nI (crR ((fcit k C)))))]) rfl ?_
      refine n_iinc (k := 1) (x := k) dL_foretold_347 (by decide) rfl rfl (by decide) ?_
      refine v_ls (ls2 := [some (.ref u), some (.int (nI (C 0 0))), some (.int (nI (C 0 2))), some (.int (nI (sm (C 2) 6))), some (.int ((nI (sm (fcast (C 0 2) C 2) 6) - nI (sm (C 2) 6)))), some (.int (nI (C 0 7))), some (.int (nI 1)), none, none, none, none, none, none, none, none, none, some (.int (nI (k + 1))), some (.int (nI (crR ((fcit k C)))))]) rfl ?_
      refine v_goto (tgt := 335) dL_foretold_350 (by decide) ?_
      refine v_forget 17 ?_
      refine v_ls (ls2 := [some (.ref u), some (.int (nI (C 0 0))), some (.int (nI (C 0 2))), some (.int (nI (sm (C 2) 6))), some (.int ((nI (sm (fcast (C 0 2) C 2) 6) - nI (sm (C 2) 6)))), some (.int (nI (C 0 7))), some (.int (nI 1)), none, none, none, none, none, none, none, none, none, some (.int (nI (k + 1))), none]) rfl ?_
      exact ihK (by omega) _ ⟨_, ho78, fr77⟩
  · refine v_iload dL_foretold_38 rfl ?_
    refine v_iload dL_foretold_40 rfl ?_
    refine v_st (st2 := [.int (nI 0), .int (nI 1)]) (by rw [will_0 c29]) ?_
    refine n_if_ne (tgt := 79) (x := 0) dL_foretold_42 (by decide) (by decide) (fun c => absurd c (by decide)) (fun _ => ?_)
    refine v_aload_n dL_foretold_45 rfl ?_
    obtain ⟨B79, hB79, t79⟩ := o_next (l := l) g ho26
    rw [show dNext C = rfz C 11 (nI (C 0 7)) from if_pos c29] at t79
    refine v_callV (st := [.int (nI 1)]) dL_foretold_46 (t79) wL_57 ho26.he rfl rfl ⟨Nat.le_of_ble_eq_true rfl, Nat.le_of_ble_eq_true rfl⟩ (Nat.le_of_ble_eq_true rfl) ⟨by omega, by omega⟩ (fun r n2 h2 hq => ?_)
    obtain ⟨rfl, hn9, ho80, sa80⟩ := oc_of ho26 hq; replace hn9 := hn9.symm; subst hn9
    refine v_st (st2 := [.int ((-1014)), .int (nI 1)]) rfl ?_
    have fr81 : frP (fun z => z < u ∨ u + 250 ≤ z) _ _ := fun z (hz : z < u ∨ u + 250 ≤ z) => (sa80 z (by omega)).trans (fr27 z hz)
    have ho82 : oP G u n _ a LN C ((hkp (-1014) C T)) C 1 11 ((nI (C 0 7))) := ho80
    refine v_sipush (v := (-1014)) dL_foretold_49 (by decide) ?_
    refine v_icmp_ne (tgt := 79) dL_foretold_52 (by decide) (fun c83 => ?_) (fun c83 => ?_)
    · exfalso
      first | exact c83 rfl | exact c29 rfl | omega | exact absurd (by assumption) c83
    · refine v_aload_n dL_foretold_55 rfl ?_
      refine v_iconst (v := nI 0) dL_foretold_56 (by decide) ?_
      refine v_ask (st := [.int (nI 1)]) (v2 := nI 11) dL_foretold_57 (o_reason ho82) ((if_pos (by decide)).trans (by decide)) wL_163 ho82.he rfl rfl ⟨Nat.le_of_ble_eq_true rfl, Nat.le_of_ble_eq_true rfl⟩ (Nat.le_of_ble_eq_true rfl) ⟨by omega, by omega⟩ ?_
      refine v_bipush (v := nI 11) dL_foretold_60 (by decide) ?_
      refine n_icmp_ne (tgt := 79) (x := 11) (y := 11) dL_foretold_62 (by decide) (by decide) (by decide) (fun c => absurd c (by decide)) (fun _ => ?_)
      refine v_aload_n dL_foretold_65 rfl ?_
      refine v_iconst (v := nI 1) dL_foretold_66 (by decide) ?_
      refine v_ask (st := [.int (nI 1)]) (v2 := nI (C 0 7)) dL_foretold_67 (o_reason ho82) (if_neg (by decide)) wL_163 ho82.he rfl rfl ⟨Nat.le_of_ble_eq_true rfl, Nat.le_of_ble_eq_true rfl⟩ (Nat.le_of_ble_eq_true rfl) ⟨by omega, by omega⟩ ?_
      refine v_iload dL_foretold_70 rfl ?_
      refine n_icmp_ne (tgt := 79) (x := C 0 7) (y := C 0 7) dL_foretold_72 (by decide) (by omega) (by omega) (fun c => (by exfalso; omega)) (fun _ => ?_)
      refine v_iconst (v := nI 1) dL_foretold_75 (by decide) ?_
      refine v_goto (tgt := 80) dL_foretold_76 (by decide) ?_
      refine v_iand dL_foretold_80 ?_
      refine v_st (st2 := [.int (nI 1)]) (by decide) ?_
      refine v_istore dL_foretold_81 rfl (by decide) ?_
      refine v_ls (ls2 := [some (.ref u), some (.int (nI (C 0 0))), some (.int (nI (C 0 2))), some (.int (nI (sm (C 2) 6))), some (.int ((nI (sm (fcast (C 0 2) C 2) 6) - nI (sm (C 2) 6)))), some (.int (nI (C 0 7))), some (.int (nI 1)), none, none, none, none, none, none, none, none, none, none, none]) rfl ?_
      refine v_goto (tgt := 396) dL_foretold_83 (by decide) ?_
      refine v_aload_n dL_foretold_396 rfl ?_
      have hT9 := ho82
      refine v_callV (st := []) dL_foretold_397 (o_restore ho82 (by decide)) wL_167 ho82.he rfl rfl ⟨Nat.le_of_ble_eq_true rfl, Nat.le_of_ble_eq_true rfl⟩ (Nat.le_of_ble_eq_true rfl) ⟨by omega, by omega⟩ (fun r n2 h2 hq => ?_)
      obtain ⟨rfl, hn9, ho84, sa84⟩ := or_of ho82 hq; replace hn9 := hn9.symm; subst hn9
      refine v_st (st2 := [.int (nI (C 0 0))]) rfl ?_
      have fr85 : frP (fun z => z < u ∨ u + 250 ≤ z) _ _ := fun z (hz : z < u ∨ u + 250 ≤ z) => (sa84 z (by omega)).trans (fr81 z hz)
      have ho86 : oP G u n _ a LN C ((0, (hkp (-1014) C T).2.1, (hkp (-1014) C T).2.2)) C 1 11 ((nI (C 0 7))) := ho84
      refine v_iload_n dL_foretold_400 rfl ?_
      refine n_icmp_ne (tgt := 413) (x := C 0 0) (y := C 0 0) dL_foretold_401 (by decide) (by omega) (by omega) (fun c => (by exfalso; omega)) (fun _ => ?_)
      refine v_iload dL_foretold_404 rfl ?_
      refine n_if_eq (tgt := 413) (x := 1) dL_foretold_406 (by decide) (by decide) (fun c => absurd c (by decide)) (fun _ => ?_)
      refine v_iconst (v := nI 1) dL_foretold_409 (by decide) ?_
      refine v_goto (tgt := 414) dL_foretold_410 (by decide) ?_
      refine v_zret (ty := .boolean) dL_foretold_414 rfl (by decide) ?_ (by omega) (by omega)
      exact ⟨rfl, rfl, _, _, _, rfl, ho86, fr85⟩
