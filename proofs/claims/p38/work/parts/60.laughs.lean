theorem lauN_0 {C : Ct} {f j t : Nat} (h : exm C t ∨ barr C f j) : lauN C f j t = 0 := if_pos h
theorem lauN_1 {C : Ct} {f j t : Nat} (h : ¬ (exm C t ∨ barr C f j)) : lauN C f j t = lau C f j t := if_neg h
theorem bJ_s {C : Ct} {f t j : Nat} (h : lauN C f j t ≤ (bJ C f t j).2) : bJ C f t (j + 1) = bJ C f t j := by
  show (if _ then _ else _) = _
  rw [if_neg (by omega)]
theorem bJ_n {C : Ct} {f t j : Nat} (h : (bJ C f t j).2 < lauN C f j t) : bJ C f t (j + 1) = (some j, lauN C f j t) := by
  show (if _ then _ else _) = _
  rw [if_pos h]
theorem bJ_m {C : Ct} {f t j : Nat} : max (bJ C f t j).2 (lauN C f j t) = (bJ C f t (j + 1)).2 := by
  rcases Nat.lt_or_ge (bJ C f t j).2 (lauN C f j t) with h | h
  · rw [bJ_n h]; show _ = lauN C f j t; omega
  · rw [bJ_s h]; omega
theorem lauN_b {C : Ct} {f j t : Nat} (h : iv C) : lauN C f j t ≤ 18 := by
  have h1 := h.2.2.2.1 f
  have h7 := h.2.2.2.2.2.2.1 j
  have := lauN_le C f j t
  omega
theorem bJ_b {C : Ct} {f t : Nat} (h : iv C) : ∀ j, (bJ C f t j).2 ≤ 18
  | 0 => Nat.zero_le _
  | j + 1 => by
    have := bJ_b (f := f) (t := t) h j
    have := lauN_b (f := f) (j := j) (t := t) h
    rw [← bJ_m]
    omega
set_option maxRecDepth 20000 in
set_option maxHeartbeats 4000000 in
theorem t_L_laughs {l : Launch} {G : vG} {h : AH} {n : Nat} {u a : Nat} {LN : Ln} {C : Ct} {T : Hs} {Sn : Ct} {sv : Nat} {rs dt : Int32} {b : Nat} (g : gd b C) (o : oP G u n h a LN C T Sn sv rs dt) (hT : T.1 ≤ 8) : Mt l G mL_laughs [.ref u] (n) h 0 0 (fun r n2 h2 => r = some (.int (nI 1)) ∧ ∃ (a2 : Nat) (L2 : Ln), n ≤ n2 ∧ (a2 = a ∨ n ≤ a2) ∧ a2 < n2 ∧ oP G u n2 h2 a2 L2 C T Sn sv rs dt ∧ frP (fun z => z < n ∧ z ≠ u + 248 ∧ z ≠ a) h h2) := by
  refine Mt.of (by decide) (Nat.le_of_ble_eq_true rfl) rfl ?_
  refine v_ls (ls2 := [some (.ref u), none, none, none, none, none, none, none]) rfl ?_
  have hun := o.n
  have hn6 := g.1.1.1.1
  have hn12 := g.1.1.1.2.1
  have hn10 := g.1.1.1.2.2.1
  refine v_iconst (v := nI 0) dL_laughs_0 (by decide) ?_
  refine v_istore_n dL_laughs_1 rfl (by decide) ?_
  refine v_ls (ls2 := [some (.ref u), some (.int (nI 0)), none, none, none, none, none, none]) rfl ?_
  refine v_ls (ls2 := [some (.ref u), some (.int (nI 0)), none, none, none, none, none, none]) rfl ?_
  refine loopV (fun f => [some (.ref u), some (.int (nI f)), none, none, none, none, none, none]) (fun _ => True) (N := C 0 0) 0 (Nat.zero_le _) rfl trivial (fun f hf9 _ ihF => ?_)
  refine v_iload_n dL_laughs_2 rfl ?_
  refine v_aload_n dL_laughs_3 rfl ?_
  refine v_iconst (v := nI 0) dL_laughs_4 (by decide) ?_
  refine v_ask (st := [.int (nI f)]) (v2 := nI (C 0 0)) dL_laughs_5 (o_account g o) (qAcc_at (w := 0) (by decide)) wL_34 o.he rfl rfl ⟨Nat.le_of_ble_eq_true rfl, Nat.le_of_ble_eq_true rfl⟩ (Nat.le_of_ble_eq_true rfl) ⟨by omega, by omega⟩ ?_
  have b21 : C 0 0 < 2 ^ 28 := C_b g
  refine n_icmp_ge (tgt := 184) (x := f) (y := C 0 0) dL_laughs_8 (by decide) (by omega) (by omega) (fun c22 => ?_) (fun c22 => ?_)
  · have ef : f = C 0 0 := by omega
    subst ef
    refine v_aload_n dL_laughs_184 rfl ?_
    refine v_aload_n dL_laughs_185 rfl ?_
    refine v_iconst (v := nI 0) dL_laughs_186 (by decide) ?_
    refine v_ask (st := [.ref u]) (v2 := nI (C 0 0)) dL_laughs_187 (o_account g o) (qAcc_at (w := 0) (by decide)) wL_34 o.he rfl rfl ⟨Nat.le_of_ble_eq_true rfl, Nat.le_of_ble_eq_true rfl⟩ (Nat.le_of_ble_eq_true rfl) ⟨by omega, by omega⟩ ?_
    refine v_iconst (v := nI 0) dL_laughs_190 (by decide) ?_
    refine v_ask (st := []) (v2 := -1011) dL_laughs_191 (o_best g o) (qBest_no (by omega)) wL_151 o.he rfl rfl ⟨Nat.le_of_ble_eq_true rfl, Nat.le_of_ble_eq_true rfl⟩ (Nat.le_of_ble_eq_true rfl) ⟨by omega, by omega⟩ ?_
    refine v_sipush (v := (-1011)) dL_laughs_194 (by decide) ?_
    refine v_icmp_ne (tgt := 221) dL_laughs_197 (by decide) (fun c23 => ?_) (fun c23 => ?_)
    · exfalso
      first | exact c23 rfl | exact c22 rfl | omega | exact absurd (by assumption) c23
    · refine v_aload_n dL_laughs_200 rfl ?_
      refine v_iconst (v := nI 0) dL_laughs_201 (by decide) ?_
      refine v_aload_n dL_laughs_202 rfl ?_
      refine v_iconst (v := nI 1) dL_laughs_203 (by decide) ?_
      refine v_ask (st := [.int (nI 0), .ref u]) (v2 := nI (C 0 1)) dL_laughs_204 (o_account g o) (qAcc_at (w := 1) (by decide)) wL_34 o.he rfl rfl ⟨Nat.le_of_ble_eq_true rfl, Nat.le_of_ble_eq_true rfl⟩ (Nat.le_of_ble_eq_true rfl) ⟨by omega, by omega⟩ ?_
      have b24 : C 0 1 < 2 ^ 28 := C_b g
      refine v_iconst (v := nI 0) dL_laughs_207 (by decide) ?_
      refine v_ask (st := []) (v2 := -1011) dL_laughs_208 (o_would g o) (qWould_no (by omega)) wL_148 o.he rfl rfl ⟨Nat.le_of_ble_eq_true rfl, Nat.le_of_ble_eq_true rfl⟩ (Nat.le_of_ble_eq_true rfl) ⟨by omega, by omega⟩ ?_
      refine v_sipush (v := (-1011)) dL_laughs_211 (by decide) ?_
      refine v_icmp_ne (tgt := 221) dL_laughs_214 (by decide) (fun c25 => ?_) (fun c25 => ?_)
      · exfalso
        first | exact c25 rfl | exact c23 rfl | omega | exact absurd (by assumption) c25
      · refine v_iconst (v := nI 1) dL_laughs_217 (by decide) ?_
        refine v_goto (tgt := 222) dL_laughs_218 (by decide) ?_
        refine v_zret (ty := .boolean) dL_laughs_222 rfl (by decide) ?_ (by omega) (by omega)
        exact ⟨rfl, a, LN, by omega, Or.inl rfl, by omega, o, fun z _ => rfl⟩
  · refine v_iconst (v := nI 0) dL_laughs_11 (by decide) ?_
    refine v_istore_n dL_laughs_12 rfl (by decide) ?_
    refine v_ls (ls2 := [some (.ref u), some (.int (nI f)), some (.int (nI 0)), none, none, none, none, none]) rfl ?_
    refine v_ls (ls2 := [some (.ref u), some (.int (nI f)), some (.int (nI 0)), none, none, none, none, none]) rfl ?_
    refine loopV (fun t => [some (.ref u), some (.int (nI f)), some (.int (nI t)), none, none, none, none, none]) (fun _ => True) (N := 4) 0 (Nat.zero_le _) rfl trivial (fun t ht9 _ ihT => ?_)
    refine v_iload_n dL_laughs_13 rfl ?_
    refine v_iconst (v := nI 4) dL_laughs_14 (by decide) ?_
    refine n_icmp_ge (tgt := 178) (x := t) (y := 4) dL_laughs_15 (by decide) (by omega) (by omega) (fun c26 => ?_) (fun c26 => ?_)
    · refine n_iinc (k := 1) (x := f) dL_laughs_178 (by decide) rfl rfl (by decide) ?_
      refine v_ls (ls2 := [some (.ref u), some (.int (nI (f + 1))), some (.int (nI t)), none, none, none, none, none]) rfl ?_
      refine v_goto (tgt := 2) dL_laughs_181 (by decide) ?_
      refine v_forget 2 ?_
      refine v_ls (ls2 := [some (.ref u), some (.int (nI (f + 1))), none, none, none, none, none, none]) (rfl) ?_
      exact ihF (by omega) trivial
    · refine v_sipush (v := (-1015)) dL_laughs_18 (by decide) ?_
      refine v_istore_n dL_laughs_21 rfl (by decide) ?_
      refine v_ls (ls2 := [some (.ref u), some (.int (nI f)), some (.int (nI t)), some (.int ((-1015))), none, none, none, none]) rfl ?_
      refine v_iconst (v := nI 0) dL_laughs_22 (by decide) ?_
      refine v_istore dL_laughs_23 rfl (by decide) ?_
      refine v_ls (ls2 := [some (.ref u), some (.int (nI f)), some (.int (nI t)), some (.int ((-1015))), some (.int (nI 0)), none, none, none]) rfl ?_
      refine v_iconst (v := nI 0) dL_laughs_25 (by decide) ?_
      refine v_istore dL_laughs_26 rfl (by decide) ?_
      refine v_ls (ls2 := [some (.ref u), some (.int (nI f)), some (.int (nI t)), some (.int ((-1015))), some (.int (nI 0)), some (.int (nI 0)), none, none]) rfl ?_
      refine v_ls (ls2 := [some (.ref u), some (.int (nI f)), some (.int (nI t)), some (.int ((oN (-1015) (bJ C f t 0).1))), some (.int (nI ((bJ C f t 0).2))), some (.int (nI 0)), none, none]) rfl ?_
      refine loopV (fun j => [some (.ref u), some (.int (nI f)), some (.int (nI t)), some (.int ((oN (-1015) (bJ C f t j).1))), some (.int (nI ((bJ C f t j).2))), some (.int (nI j)), none, none]) (fun _ => True) (N := C 0 1) 0 (Nat.zero_le _) rfl trivial (fun j hj9 _ ihJ => ?_)
      refine v_iload dL_laughs_28 rfl ?_
      refine v_aload_n dL_laughs_30 rfl ?_
      refine v_iconst (v := nI 1) dL_laughs_31 (by decide) ?_
      refine v_ask (st := [.int (nI j)]) (v2 := nI (C 0 1)) dL_laughs_32 (o_account g o) (qAcc_at (w := 1) (by decide)) wL_34 o.he rfl rfl ⟨Nat.le_of_ble_eq_true rfl, Nat.le_of_ble_eq_true rfl⟩ (Nat.le_of_ble_eq_true rfl) ⟨by omega, by omega⟩ ?_
      have b27 : C 0 1 < 2 ^ 28 := C_b g
      refine n_icmp_ge (tgt := 150) (x := j) (y := C 0 1) dL_laughs_35 (by decide) (by omega) (by omega) (fun c28 => ?_) (fun c28 => ?_)
      · have ej : j = C 0 1 := by omega
        subst ej
        refine v_aload_n dL_laughs_150 rfl ?_
        refine v_iload_n dL_laughs_151 rfl ?_
        refine v_iload_n dL_laughs_152 rfl ?_
        refine v_ask (st := []) (v2 := oN (-1015) (bJ C f t (C 0 1)).1) dL_laughs_153 (o_best g o) (qBest_at (f := f) (t := t) (by omega) (by omega) (by omega)) wL_151 o.he rfl rfl ⟨Nat.le_of_ble_eq_true rfl, Nat.le_of_ble_eq_true rfl⟩ (Nat.le_of_ble_eq_true rfl) ⟨by omega, by omega⟩ ?_
        refine v_iload_n dL_laughs_156 rfl ?_
        refine v_icmp_ne (tgt := 170) dL_laughs_157 (by decide) (fun c29 => ?_) (fun c29 => ?_)
        · exfalso
          first | exact c29 rfl | exact c28 rfl | omega | exact absurd (by assumption) c29
        · refine v_aload_n dL_laughs_160 rfl ?_
          refine v_iload_n dL_laughs_161 rfl ?_
          refine v_iload_n dL_laughs_162 rfl ?_
          refine v_ask (st := []) (v2 := oN (-1015) (bJ C f t (C 0 1)).1) dL_laughs_163 (o_bestAgain g o) (qBest2_at g.1.1 (f := f) (t := t) (by omega) (by omega) (by omega)) wL_154 o.he rfl rfl ⟨Nat.le_of_ble_eq_true rfl, Nat.le_of_ble_eq_true rfl⟩ (Nat.le_of_ble_eq_true rfl) ⟨by omega, by omega⟩ ?_
          refine v_iload_n dL_laughs_166 rfl ?_
          refine v_icmp_eq (tgt := 172) dL_laughs_167 (by decide) (fun c30 => ?_) (fun c30 => ?_)
          · refine n_iinc (k := 1) (x := t) dL_laughs_172 (by decide) rfl rfl (by decide) ?_
            refine v_ls (ls2 := [some (.ref u), some (.int (nI f)), some (.int (nI (t + 1))), some (.int ((oN (-1015) (bJ C f t (C 0 1)).1))), some (.int (nI ((bJ C f t (C 0 1)).2))), some (.int (nI (C 0 1))), none, none]) rfl ?_
            refine v_goto (tgt := 13) dL_laughs_175 (by decide) ?_
            refine v_forget 3 ?_
            refine v_forget 4 ?_
            refine v_forget 5 ?_
            refine v_ls (ls2 := [some (.ref u), some (.int (nI f)), some (.int (nI (t + 1))), none, none, none, none, none]) (rfl) ?_
            exact ihT (by omega) trivial
          · exfalso
            first | exact c30 rfl | exact c29 rfl | omega | exact absurd (by assumption) c30
      · refine v_aload_n dL_laughs_38 rfl ?_
        refine v_iload dL_laughs_39 rfl ?_
        refine v_iconst (v := nI 1) dL_laughs_41 (by decide) ?_
        refine v_ask (st := []) (v2 := if hold C j then nI (C 8 j) else -1015) dL_laughs_42 (o_jokeOf g o) (qJoke_at (j := j) (w := 1) (by omega) (by omega) (by decide)) wL_103 o.he rfl rfl ⟨Nat.le_of_ble_eq_true rfl, Nat.le_of_ble_eq_true rfl⟩ (Nat.le_of_ble_eq_true rfl) ⟨by omega, by omega⟩ ?_
        refine v_istore dL_laughs_45 rfl (by decide) ?_
        refine v_ls (ls2 := [some (.ref u), some (.int (nI f)), some (.int (nI t)), some (.int ((oN (-1015) (bJ C f t j).1))), some (.int (nI ((bJ C f t j).2))), some (.int (nI j)), some (.int ((if hold C j then nI (C 8 j) else -1015))), none]) rfl ?_
        refine v_iconst (v := nI 0) dL_laughs_47 (by decide) ?_
        refine v_aload_n dL_laughs_48 rfl ?_
        refine v_iload dL_laughs_49 rfl ?_
        refine v_iconst (v := nI 0) dL_laughs_51 (by decide) ?_
        refine v_ask (st := [.int (nI 0)]) (v2 := nI (C 7 j)) dL_laughs_52 (o_jokeOf g o) (qJoke_at (j := j) (w := 0) (by omega) (by omega) (by decide)) wL_103 o.he rfl rfl ⟨Nat.le_of_ble_eq_true rfl, Nat.le_of_ble_eq_true rfl⟩ (Nat.le_of_ble_eq_true rfl) ⟨by omega, by omega⟩ ?_
        have b31 : C 7 j < 2 ^ 28 := C_b g
        refine v_aload_n dL_laughs_55 rfl ?_
        refine v_iload_n dL_laughs_56 rfl ?_
        refine v_iconst (v := nI 0) dL_laughs_57 (by decide) ?_
        refine v_ask (st := [.int (nI (C 7 j)), .int (nI 0)]) (v2 := nI (C 1 f)) dL_laughs_58 (o_foolOf g o) (qFool_at (f := f) (w := 0) (by omega) (by omega) (by decide)) wL_97 o.he rfl rfl ⟨Nat.le_of_ble_eq_true rfl, Nat.le_of_ble_eq_true rfl⟩ (Nat.le_of_ble_eq_true rfl) ⟨by omega, by omega⟩ ?_
        have b32 : C 1 f < 2 ^ 28 := C_b g
        refine n_iadd (x := C 7 j) (y := C 1 f) dL_laughs_61 ?_
        refine v_iconst (v := nI 2) dL_laughs_62 (by decide) ?_
        refine v_aload_n dL_laughs_63 rfl ?_
        refine v_iload dL_laughs_64 rfl ?_
        refine v_iload_n dL_laughs_66 rfl ?_
        refine v_ask (st := [.int (nI 2), .int (nI (C 7 j + C 1 f)), .int (nI 0)]) (v2 := nI (C 10 (j * 4 + t))) dL_laughs_67 (o_told g o) (qTold_at (j := j) (t := t) (by omega) (by omega) (by omega)) wL_100 o.he rfl rfl ⟨Nat.le_of_ble_eq_true rfl, Nat.le_of_ble_eq_true rfl⟩ (Nat.le_of_ble_eq_true rfl) ⟨by omega, by omega⟩ ?_
        have b33 : C 10 (j * 4 + t) < 2 ^ 28 := C_b g
        refine n_imul (x := 2) (y := C 10 (j * 4 + t)) dL_laughs_70 ?_
        refine v_isub dL_laughs_71 ?_
        refine n_max0 (x := C 7 j + C 1 f) (y := 2 * (C 10 (j * 4 + t))) dL_laughs_72 q4_79 q2_238 q1_12 q2_239 (Nat.le_of_ble_eq_true rfl) (Nat.le_of_ble_eq_true rfl) (by omega) (by omega) (by omega) (by omega) ?_
        refine v_st (st2 := [.int (nI (lau C f j t))]) rfl ?_
        refine v_istore dL_laughs_75 rfl (by decide) ?_
        refine v_ls (ls2 := [some (.ref u), some (.int (nI f)), some (.int (nI t)), some (.int ((oN (-1015) (bJ C f t j).1))), some (.int (nI ((bJ C f t j).2))), some (.int (nI j)), some (.int ((if hold C j then nI (C 8 j) else -1015))), some (.int (nI (lau C f j t)))]) rfl ?_
        refine v_cut 104 [some (.ref u), some (.int (nI f)), some (.int (nI t)), some (.int ((oN (-1015) (bJ C f t j).1))), some (.int (nI ((bJ C f t j).2))), some (.int (nI j)), some (.int ((if hold C j then nI (C 8 j) else -1015))), some (.int (nI (lau C f j t)))] [.int (nI (lauN C f j t))] (fun K34 => ?_) ?_
        · refine v_aload_n dL_laughs_77 rfl ?_
          refine v_iload_n dL_laughs_78 rfl ?_
          refine v_iconst (v := nI 0) dL_laughs_79 (by decide) ?_
          refine v_ask (st := []) (v2 := nI (C 15 t)) dL_laughs_80 (o_throneOf g o) (qThr_at (t := t) (w := 0) (by omega) (by decide)) wL_106 o.he rfl rfl ⟨Nat.le_of_ble_eq_true rfl, Nat.le_of_ble_eq_true rfl⟩ (Nat.le_of_ble_eq_true rfl) ⟨by omega, by omega⟩ ?_
          have b35 : C 15 t < 2 ^ 28 := C_b g
          refine v_iconst (v := nI 1) dL_laughs_83 (by decide) ?_
          refine n_icmp_eq (tgt := 98) (x := C 15 t) (y := 1) dL_laughs_84 (by decide) (by omega) (by omega) (fun c36 => ?_) (fun c36 => ?_)
          · refine v_iconst (v := nI 0) dL_laughs_98 (by decide) ?_
            refine v_goto (tgt := 104) dL_laughs_99 (by decide) ?_
            exact v_done K34 rfl (by rw [lauN_0 (Or.inl c36)]) rfl
          · refine v_iload dL_laughs_87 rfl ?_
            refine v_if_lt (tgt := 102) dL_laughs_89 (by decide) (fun c37 => ?_) (fun c37 => ?_)
            · refine v_iload dL_laughs_102 rfl ?_
              exact v_done K34 rfl (by rw [lauN_1 (fun z => z.elim (fun q => c36 q) (fun q => (own_lt (C_b g)).mp c37 q.1))]) rfl
            · have hh : hold C j := Classical.byContradiction fun z => c37 ((own_lt (C_b g)).mpr z)
              have b92 : C 8 j < 2 ^ 28 := C_b g
              refine v_ls (ls2 := [some (.ref u), some (.int (nI f)), some (.int (nI t)), some (.int ((oN (-1015) (bJ C f t j).1))), some (.int (nI ((bJ C f t j).2))), some (.int (nI j)), some (.int (nI (C 8 j))), some (.int (nI (lau C f j t)))]) (by rw [if_pos hh]) ?_
              refine v_iload dL_laughs_92 rfl ?_
              refine v_iload_n dL_laughs_94 rfl ?_
              refine n_icmp_eq (tgt := 102) (x := C 8 j) (y := f) dL_laughs_95 (by decide) (by omega) (by omega) (fun c38 => ?_) (fun c38 => ?_)
              · refine v_iload dL_laughs_102 rfl ?_
                exact v_done K34 (by rw [if_pos hh]) (by rw [lauN_1 (fun z => z.elim (fun q => c36 q) (fun q => q.2 c38))]) rfl
              · refine v_iconst (v := nI 0) dL_laughs_98 (by decide) ?_
                refine v_goto (tgt := 104) dL_laughs_99 (by decide) ?_
                exact v_done K34 (by rw [if_pos hh]) (by rw [lauN_0 (Or.inr ⟨hh, c38⟩)]) rfl
        have bl1 := lauN_b (f := f) (j := j) (t := t) g.1.1.1
        have bl2 := bJ_b (f := f) (t := t) g.1.1.1 j
        refine v_istore dL_laughs_104 rfl (by decide) ?_
        refine v_ls (ls2 := [some (.ref u), some (.int (nI f)), some (.int (nI t)), some (.int ((oN (-1015) (bJ C f t j).1))), some (.int (nI ((bJ C f t j).2))), some (.int (nI j)), some (.int ((if hold C j then nI (C 8 j) else -1015))), some (.int (nI (lauN C f j t)))]) rfl ?_
        refine v_cut 119 [some (.ref u), some (.int (nI f)), some (.int (nI t)), some (.int ((oN (-1015) (bJ C f t j).1))), some (.int (nI ((bJ C f t j).2))), some (.int (nI j)), some (.int ((if hold C j then nI (C 8 j) else -1015))), some (.int (nI (lauN C f j t)))] [.int ((oN (-1015) (bJ C f t (j + 1)).1))] (fun K39 => ?_) ?_
        · refine v_iload dL_laughs_106 rfl ?_
          refine v_iload dL_laughs_108 rfl ?_
          refine n_icmp_le (tgt := 118) (x := lauN C f j t) (y := (bJ C f t j).2) dL_laughs_110 (by decide) (by omega) (by omega) (fun c40 => ?_) (fun c40 => ?_)
          · refine v_iload_n dL_laughs_118 rfl ?_
            exact v_done K39 rfl (by rw [bJ_s c40]) rfl
          · refine v_iload dL_laughs_113 rfl ?_
            refine v_goto (tgt := 119) dL_laughs_115 (by decide) ?_
            exact v_done K39 rfl (by rw [bJ_n c40]; rfl) rfl
        refine v_istore_n dL_laughs_119 rfl (by decide) ?_
        refine v_ls (ls2 := [some (.ref u), some (.int (nI f)), some (.int (nI t)), some (.int ((oN (-1015) (bJ C f t (j + 1)).1))), some (.int (nI ((bJ C f t j).2))), some (.int (nI j)), some (.int ((if hold C j then nI (C 8 j) else -1015))), some (.int (nI (lauN C f j t)))]) rfl ?_
        refine v_iload dL_laughs_120 rfl ?_
        refine v_iload dL_laughs_122 rfl ?_
        refine n_max (x := (bJ C f t j).2) (y := lauN C f j t) dL_laughs_124 q4_79 q2_238 q1_12 q2_239 (Nat.le_of_ble_eq_true rfl) (Nat.le_of_ble_eq_true rfl) (by omega) (by omega) (by omega) (by omega) ?_
        refine v_st (st2 := [.int (nI ((bJ C f t (j + 1)).2))]) (by rw [bJ_m]) ?_
        refine v_istore dL_laughs_127 rfl (by decide) ?_
        refine v_ls (ls2 := [some (.ref u), some (.int (nI f)), some (.int (nI t)), some (.int ((oN (-1015) (bJ C f t (j + 1)).1))), some (.int (nI ((bJ C f t (j + 1)).2))), some (.int (nI j)), some (.int ((if hold C j then nI (C 8 j) else -1015))), some (.int (nI (lauN C f j t)))]) rfl ?_
        refine v_aload_n dL_laughs_129 rfl ?_
        refine v_iload_n dL_laughs_130 rfl ?_
        refine v_iload dL_laughs_131 rfl ?_
        refine v_iload_n dL_laughs_133 rfl ?_
        refine v_ask (st := []) (v2 := nI (lauN C f j t)) dL_laughs_134 (o_would g o) (qWould_at (f := f) (j := j) (t := t) (by omega) (by omega) (by omega) (by omega) (by omega)) wL_148 o.he rfl rfl ⟨Nat.le_of_ble_eq_true rfl, Nat.le_of_ble_eq_true rfl⟩ (Nat.le_of_ble_eq_true rfl) ⟨by omega, by omega⟩ ?_
        refine v_iload dL_laughs_137 rfl ?_
        refine n_icmp_eq (tgt := 144) (x := lauN C f j t) (y := lauN C f j t) dL_laughs_139 (by decide) (by omega) (by omega) (fun c41 => ?_) (fun c41 => ?_)
        · refine n_iinc (k := 1) (x := j) dL_laughs_144 (by decide) rfl rfl (by decide) ?_
          refine v_ls (ls2 := [some (.ref u), some (.int (nI f)), some (.int (nI t)), some (.int ((oN (-1015) (bJ C f t (j + 1)).1))), some (.int (nI ((bJ C f t (j + 1)).2))), some (.int (nI (j + 1))), some (.int ((if hold C j then nI (C 8 j) else -1015))), some (.int (nI (lauN C f j t)))]) rfl ?_
          refine v_goto (tgt := 28) dL_laughs_147 (by decide) ?_
          refine v_forget 6 ?_
          refine v_forget 7 ?_
          refine v_ls (ls2 := [some (.ref u), some (.int (nI f)), some (.int (nI t)), some (.int ((oN (-1015) (bJ C f t (j + 1)).1))), some (.int (nI ((bJ C f t (j + 1)).2))), some (.int (nI (j + 1))), none, none]) (rfl) ?_
          exact ihJ (by omega) trivial
        · exfalso
          first | exact c41 rfl | exact c28 rfl | omega | exact absurd (by assumption) c41
