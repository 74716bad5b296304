theorem nz_n {k : Nat} (h : 0 < k) (h2 : k < 2 ^ 31) : ¬ nI k = 0 := fun e => by
  have := (nI_eq (a := k) (b := 0) h2 (by decide)).mp e
  omega
theorem nnX7 {l : Launch} {G : vG} {M : vM} {rc rs : Nat} {Fz : vFin} {pc : Nat} {ls : List (Option Value)} {st : List Value} {n : Nat} {h : AH} {cells slots : Nat} {index : Nat} (hd : decode M.2.1 pc = .ok (.new index, 3)) (hcl : Cond.classLink M.1.cls index RX7 ∈ gw) (hc1 : cells + 1 ≤ rc) (hs1 : slots + 1 ≤ rs) (kk : ∀ h1 : AH, h1 n = some (.inr (8, [.int 0])) → offn 1 n h h1 → V l G M rc rs Fz (pc + 3) ls (.ref n :: st) (n + 1) h1 (cells + 1) (slots + 1)) : V l G M rc rs Fz pc ls st n h cells slots :=
  v_new (ci := 8) (fs := [.int 0]) hd rfl inX7 tyX7 tyX7_ok hcl q4_56 q1_18 (by decide) hc1 hs1 (nw (fun h1 f1 s1 => kk h1 f1 s1))
set_option maxRecDepth 20000 in
set_option maxHeartbeats 4000000 in
theorem t_X7_init {l : Launch} {G : vG} {h : AH} {n : Nat} {q : Nat} {B x : Int32} (hq0 : h q = some (.inr (8, [.int B]))) : Mt l G mX7_init [.ref q, .int x] (n) h 0 0 (fun r n2 h2 => r = none ∧ n2 = n ∧ h2 q = some (.inr (8, [.int x])) ∧ offn 1 q h h2) := by
  refine Mt.of (by decide) (Nat.le_of_ble_eq_true rfl) rfl ?_
  refine v_ls (ls2 := [some (.ref q), some (.int x)]) rfl ?_
  refine v_aload_n dX7_init_0 rfl ?_
  refine v_objinit dX7_init_1 q4_60 q1_26 q1_27 (Nat.le_of_ble_eq_true rfl) (Nat.le_of_ble_eq_true rfl) ?_
  refine v_aload_n dX7_init_4 rfl ?_
  refine v_iload_n dX7_init_5 rfl ?_
  refine pX7_7 rfl dX7_init_6 hq0 (Nat.le_of_ble_eq_true rfl) ?_
  refine nw (fun h1 f1 s1 => ?_)
  have fa21 : h1 (q) = some (.inr (8, [.int x])) := f1
  have sa21 := s1
  clear f1 s1
  have fr22 : offn 1 q h _ := offn_in offn_rf sa21 (by omega)
  refine v_vret dX7_init_9 rfl ?_ (by omega) (by omega)
  exact ⟨rfl, rfl, fa21, fr22⟩
set_option maxRecDepth 20000 in
set_option maxHeartbeats 4000000 in
theorem t_X7_next {l : Launch} {G : vG} {h : AH} {n : Nat} {q : Nat} {B m : Int32} (hq0 : h q = some (.inr (8, [.int B]))) (hm : ¬ m = 0) : Mt l G mX7_next [.ref q, .int m] (n) h 0 0 (fun r n2 h2 => (∃ x : Int32, r = some (.int x)) ∧ n2 = n ∧ (∃ B2 : Int32, h2 q = some (.inr (8, [.int B2]))) ∧ offn 1 q h h2) := by
  refine Mt.of (by decide) (Nat.le_of_ble_eq_true rfl) rfl ?_
  refine v_ls (ls2 := [some (.ref q), some (.int m)]) rfl ?_
  refine v_aload_n dX7_next_0 rfl ?_
  refine v_aload_n dX7_next_1 rfl ?_
  refine fX7_7 (v := .int B) rfl dX7_next_2 hq0 rfl ?_
  refine v_ldci (v := 1103515245) dX7_next_5 q4_69 ?_
  refine v_imul dX7_next_7 ?_
  refine v_sipush (v := nI 12345) dX7_next_8 (by decide) ?_
  refine v_iadd dX7_next_11 ?_
  refine pX7_7 rfl dX7_next_12 hq0 (Nat.le_of_ble_eq_true rfl) ?_
  refine nw (fun h1 f1 s1 => ?_)
  have fa21 : h1 (q) = some (.inr (8, [.int (((B * 1103515245) + nI 12345))])) := f1
  have sa21 := s1
  clear f1 s1
  have fr22 : offn 1 q h _ := offn_in offn_rf sa21 (by omega)
  refine v_aload_n dX7_next_15 rfl ?_
  refine fX7_7 (v := .int (((B * 1103515245) + nI 12345))) rfl dX7_next_16 fa21 rfl ?_
  refine v_bipush (v := nI 16) dX7_next_19 (by decide) ?_
  obtain ⟨y23, hy23⟩ : ∃ y9 : Int32, ((((B * 1103515245) + nI 12345) : Int32).toUInt32 >>> ((nI 16 : Int32).toUInt32 &&& Int32.toUInt32 31)).toInt32 = y9 := ⟨_, rfl⟩
  refine v_iushr dX7_next_21 hy23 ?_
  refine v_iload_n dX7_next_22 rfl ?_
  refine v_irem dX7_next_23 hm ?_
  refine v_iret dX7_next_24 rfl ?_ (by omega) (by omega)
  exact ⟨⟨_, rfl⟩, rfl, ⟨_, fa21⟩, fr22⟩
set_option maxRecDepth 20000 in
set_option maxHeartbeats 4000000 in
theorem t_L_some {l : Launch} {G : vG} {h : AH} {n : Nat} {q m : Nat} {B : Int32} (hq0 : h q = some (.inr (8, [.int B]))) (hm : m < 2 ^ 28) : Mt l G mL_some [.ref q, .int (nI m)] (n) h 0 0 (fun r n2 h2 => (∃ x : Int32, r = some (.int x)) ∧ n2 = n ∧ (∃ B2 : Int32, h2 q = some (.inr (8, [.int B2]))) ∧ offn 1 q h h2) := by
  refine Mt.of (by decide) (Nat.le_of_ble_eq_true rfl) rfl ?_
  refine v_ls (ls2 := [some (.ref q), some (.int (nI m))]) rfl ?_
  refine v_aload_n dL_some_0 rfl ?_
  refine v_bipush (v := nI 25) dL_some_1 (by decide) ?_
  refine v_callV (st := []) dL_some_3 (t_X7_next (B := B) (m := nI 25) hq0 (by decide)) wL_23 hq0 rfl rfl ⟨Nat.le_of_ble_eq_true rfl, Nat.le_of_ble_eq_true rfl⟩ (Nat.le_of_ble_eq_true rfl) ⟨by omega, by omega⟩ (fun r n2 h2 hq => ?_)
  obtain ⟨⟨x21, rfl⟩, hn9, ⟨B21, fb21⟩, sa21⟩ := hq; replace hn9 := hn9.symm; subst hn9
  refine v_st (st2 := [.int x21]) rfl ?_
  have fr22 : offn 1 q h _ := offn_in offn_rf sa21 (by omega)
  refine v_if_ne (tgt := 13) dL_some_6 (by decide) (fun c23 => ?_) (fun c23 => ?_)
  · refine v_aload_n dL_some_13 rfl ?_
    refine v_iconst (v := nI 1) dL_some_14 (by decide) ?_
    refine v_iload_n dL_some_15 rfl ?_
    refine n_max (x := 1) (y := m) dL_some_16 q4_79 q2_238 q1_12 q2_239 (Nat.le_of_ble_eq_true rfl) (Nat.le_of_ble_eq_true rfl) (by omega) (by omega) (by omega) (by omega) ?_
    refine v_callV (st := []) dL_some_19 (t_X7_next (B := B21) (m := nI (max 1 m)) fb21 (nz_n (by omega) (by omega))) wL_23 fb21 rfl rfl ⟨Nat.le_of_ble_eq_true rfl, Nat.le_of_ble_eq_true rfl⟩ (Nat.le_of_ble_eq_true rfl) ⟨by omega, by omega⟩ (fun r n2 h2 hq => ?_)
    obtain ⟨⟨x24, rfl⟩, hn9, ⟨B24, fb24⟩, sa24⟩ := hq; replace hn9 := hn9.symm; subst hn9
    refine v_st (st2 := [.int x24]) rfl ?_
    have fr25 : offn 1 q h _ := offn_in fr22 sa24 (by omega)
    refine v_iret dL_some_22 rfl ?_ (by omega) (by omega)
    exact ⟨⟨_, rfl⟩, rfl, ⟨_, fb24⟩, fr25⟩
  · refine v_iload_n dL_some_9 rfl ?_
    refine v_goto (tgt := 22) dL_some_10 (by decide) ?_
    refine v_iret dL_some_22 rfl ?_ (by omega) (by omega)
    exact ⟨⟨_, rfl⟩, rfl, ⟨_, fb21⟩, fr22⟩
set_option maxRecDepth 20000 in
set_option maxHeartbeats 4000000 in
theorem t_L_cell {l : Launch} {G : vG} {h : AH} {n : Nat} {i : Nat} (hi : i < 2 ^ 20) (hL : gA G 2 3 ≤ 260) : Mt l G mL_cell [.ref (gA G 2 2), .int (nI i)] (n) h 0 0 (fun r n2 h2 => (∃ x : Int32, r = some (.int x)) ∧ n2 = n ∧ h2 = h) := by
  refine Mt.of (by decide) (Nat.le_of_ble_eq_true rfl) rfl ?_
  refine v_ls (ls2 := [some (.ref (gA G 2 2)), some (.int (nI i))]) rfl ?_
  refine v_aload_n dL_cell_0 rfl ?_
  refine v_xlen dL_cell_1 ?_
  refine n_if_ne (tgt := 15) (x := gA G 2 3) dL_cell_2 (by decide) (by omega) (fun c21 => ?_) (fun c21 => ?_)
  · refine v_aload_n dL_cell_15 rfl ?_
    refine v_iload_n dL_cell_16 rfl ?_
    refine v_aload_n dL_cell_17 rfl ?_
    refine v_xlen dL_cell_18 ?_
    refine n_irem (x := i) (y := gA G 2 3) dL_cell_19 (by omega) (by omega) (by omega) ?_
    refine v_xald dL_cell_20 (Nat.mod_lt _ (by omega)) hL ?_
    refine v_iconst (v := nI 5) dL_cell_21 (by decide) ?_
    refine v_iload_n dL_cell_22 rfl ?_
    refine v_aload_n dL_cell_23 rfl ?_
    refine v_xlen dL_cell_24 ?_
    refine n_idiv (x := i) (y := gA G 2 3) dL_cell_25 (by omega) (by omega) (by omega) ?_
    refine n_imul (x := 5) (y := i / gA G 2 3) dL_cell_26 ?_
    have hdv : i / gA G 2 3 ≤ i := Nat.div_le_self _ _
    refine v_bipush (v := nI 17) dL_cell_27 (by decide) ?_
    refine n_irem (x := 5 * (i / gA G 2 3)) (y := 17) dL_cell_29 (by omega) (by omega) (by omega) ?_
    obtain ⟨y22, hy22⟩ : ∃ y9 : Int32, (((gx G (i % gA G 2 3)) : Int32).toUInt32 >>> ((nI ((5 * (i / gA G 2 3)) % 17) : Int32).toUInt32 &&& Int32.toUInt32 31)).toInt32 = y9 := ⟨_, rfl⟩
    refine v_iushr dL_cell_30 hy22 ?_
    refine v_iret dL_cell_31 rfl ?_ (by omega) (by omega)
    exact ⟨⟨_, rfl⟩, rfl, rfl⟩
  · refine v_bipush (v := nI 71) dL_cell_5 (by decide) ?_
    refine v_iload_n dL_cell_7 rfl ?_
    refine n_imul (x := 71) (y := i) dL_cell_8 ?_
    refine v_bipush (v := nI 13) dL_cell_9 (by decide) ?_
    refine n_iadd (x := 71 * i) (y := 13) dL_cell_11 ?_
    refine v_goto (tgt := 31) dL_cell_12 (by decide) ?_
    refine v_iret dL_cell_31 rfl ?_ (by omega) (by omega)
    exact ⟨⟨_, rfl⟩, rfl, rfl⟩
set_option maxRecDepth 20000 in
set_option maxHeartbeats 4000000 in
theorem t_L_acts {l : Launch} {G : vG} {h : AH} {n : Nat} {u a : Nat} {LN : Ln} {C : Ct} {T : Hs} {Sn : Ct} {sv : Nat} {rs dt : Int32} {b : Nat} {q : Nat} {y B : Int32} (g : gd b C) (o : oP G u n h a LN C T Sn sv rs dt) (hT : T.1 ≤ 8) (hq0 : h q = some (.inr (8, [.int B]))) (hqu : u + 250 ≤ q) : Mt l G mL_acts [.ref u, .int y, .ref q] (n) h 0 0 (fun r n2 h2 => ∃ R : Rz, gj b C R ∧ r = some (.int R.1) ∧ n2 = n ∧ oP G u n h2 a LN R.2.1 (hkp R.1 C T) Sn sv (rf1 R.2.2 rs) (rf2 R.2.2 dt) ∧ (∃ B2 : Int32, h2 q = some (.inr (8, [.int B2]))) ∧ frP (fun z => (z < u ∨ u + 250 ≤ z) ∧ z ≠ q) h h2) := by
  refine Mt.of (by decide) (Nat.le_of_ble_eq_true rfl) rfl ?_
  refine v_ls (ls2 := [some (.ref u), some (.int y), some (.ref q), none, none]) rfl ?_
  have hqa : q ≠ a := fun e => by obtain ⟨m9, f9, e9⟩ := o.ar; rw [e, e9] at hq0; cases hq0
  have hun := o.n
  refine v_aload_n dL_acts_0 rfl ?_
  refine v_aload_n dL_acts_1 rfl ?_
  refine v_iconst (v := nI 0) dL_acts_2 (by decide) ?_
  refine v_ask (st := [.ref q]) (v2 := nI (C 0 0)) dL_acts_3 (o_account g o) (qAcc_at (w := 0) (by decide)) wL_34 o.he rfl rfl ⟨Nat.le_of_ble_eq_true rfl, Nat.le_of_ble_eq_true rfl⟩ (Nat.le_of_ble_eq_true rfl) ⟨by omega, by omega⟩ ?_
  have b21 : C 0 0 < 2 ^ 28 := C_b g
  refine v_callS (st := []) dL_acts_6 (t_L_some (B := B) (m := C 0 0) hq0 (by omega)) wL_37 rfl ⟨Nat.le_of_ble_eq_true rfl, Nat.le_of_ble_eq_true rfl⟩ (Nat.le_of_ble_eq_true rfl) ⟨by omega, by omega⟩ (fun r n2 h2 hq => ?_)
  obtain ⟨⟨x22, rfl⟩, hn9, ⟨B22, fb22⟩, sa22⟩ := hq; replace hn9 := hn9.symm; subst hn9
  refine v_st (st2 := [.int x22]) rfl ?_
  have ho23 : oP G u n _ a LN C T Sn sv rs dt := oP.fr o (by omega) (fun z hz1 hz2 => sa22 z (by omega)) (sa22 a (by omega))
  have fr24 : frP (fun z => (z < u ∨ u + 250 ≤ z) ∧ z ≠ q) _ _ := fun z (hz : (z < u ∨ u + 250 ≤ z) ∧ z ≠ q) => sa22 z (by omega)
  refine v_istore_n dL_acts_9 rfl (by decide) ?_
  refine v_ls (ls2 := [some (.ref u), some (.int y), some (.ref q), some (.int x22), none]) rfl ?_
  refine v_aload_n dL_acts_10 rfl ?_
  refine v_aload_n dL_acts_11 rfl ?_
  refine v_iconst (v := nI 1) dL_acts_12 (by decide) ?_
  refine v_ask (st := [.ref q]) (v2 := nI (C 0 1)) dL_acts_13 (o_account g ho23) (qAcc_at (w := 1) (by decide)) wL_34 ho23.he rfl rfl ⟨Nat.le_of_ble_eq_true rfl, Nat.le_of_ble_eq_true rfl⟩ (Nat.le_of_ble_eq_true rfl) ⟨by omega, by omega⟩ ?_
  have b25 : C 0 1 < 2 ^ 28 := C_b g
  refine v_callS (st := []) dL_acts_16 (t_L_some (B := B22) (m := C 0 1) fb22 (by omega)) wL_37 rfl ⟨Nat.le_of_ble_eq_true rfl, Nat.le_of_ble_eq_true rfl⟩ (Nat.le_of_ble_eq_true rfl) ⟨by omega, by omega⟩ (fun r n2 h2 hq => ?_)
  obtain ⟨⟨x26, rfl⟩, hn9, ⟨B26, fb26⟩, sa26⟩ := hq; replace hn9 := hn9.symm; subst hn9
  refine v_st (st2 := [.int x26]) rfl ?_
  have ho27 : oP G u n _ a LN C T Sn sv rs dt := oP.fr ho23 (by omega) (fun z hz1 hz2 => sa26 z (by omega)) (sa26 a (by omega))
  have fr28 : frP (fun z => (z < u ∨ u + 250 ≤ z) ∧ z ≠ q) _ _ := fun z (hz : (z < u ∨ u + 250 ≤ z) ∧ z ≠ q) => (sa26 z (by omega)).trans (fr24 z hz)
  refine v_istore dL_acts_19 rfl (by decide) ?_
  refine v_ls (ls2 := [some (.ref u), some (.int y), some (.ref q), some (.int x22), some (.int x26)]) rfl ?_
  refine v_iload_n dL_acts_21 rfl ?_
  refine v_bipush (v := nI 30) dL_acts_22 (by decide) ?_
  refine v_irem dL_acts_24 (by decide) ?_
  obtain ⟨y9, hy9⟩ : ∃ y9 : Int32, y9 = (y - y / nI 30 * nI 30) := ⟨_, rfl⟩
  rw [← hy9]
  by_cases hlo : y9.toInt < 0 ∨ 27 < y9.toInt
  · refine v_tsOut (tgt := 355) dL_acts_25 hlo (by decide) ?_
    refine v_aload_n dL_acts_355 rfl ?_
    refine v_aload_n dL_acts_356 rfl ?_
    refine v_bipush (v := nI 20) dL_acts_357 (by decide) ?_
    refine v_callV (st := [.ref u]) dL_acts_359 (t_X7_next (B := B26) (m := nI 20) fb26 (by decide)) wL_23 fb26 rfl rfl ⟨Nat.le_of_ble_eq_true rfl, Nat.le_of_ble_eq_true rfl⟩ (Nat.le_of_ble_eq_true rfl) ⟨by omega, by omega⟩ (fun r n2 h2 hq => ?_)
    obtain ⟨⟨x29, rfl⟩, hn9, ⟨B29, fb29⟩, sa29⟩ := hq; replace hn9 := hn9.symm; subst hn9
    refine v_st (st2 := [.int x29, .ref u]) rfl ?_
    have ho30 : oP G u n _ a LN C T Sn sv rs dt := oP.fr ho27 (by omega) (fun z hz1 hz2 => sa29 z (by omega)) (sa29 a (by omega))
    have fr31 : frP (fun z => (z < u ∨ u + 250 ≤ z) ∧ z ≠ q) _ _ := fun z (hz : (z < u ∨ u + 250 ≤ z) ∧ z ≠ q) => (sa29 z (by omega)).trans (fr28 z hz)
    refine v_if_ne (tgt := 370) dL_acts_362 (by decide) (fun c32 => ?_) (fun c32 => ?_)
    · refine v_iconst (v := nI 1) dL_acts_370 (by decide) ?_
      refine v_aload_n dL_acts_371 rfl ?_
      refine v_iconst (v := nI 5) dL_acts_372 (by decide) ?_
      refine v_callV (st := [.int (nI 1), .ref u]) dL_acts_373 (t_X7_next (B := B29) (m := nI 5) fb29 (by decide)) wL_23 fb29 rfl rfl ⟨Nat.le_of_ble_eq_true rfl, Nat.le_of_ble_eq_true rfl⟩ (Nat.le_of_ble_eq_true rfl) ⟨by omega, by omega⟩ (fun r n2 h2 hq => ?_)
      obtain ⟨⟨x33, rfl⟩, hn9, ⟨B33, fb33⟩, sa33⟩ := hq; replace hn9 := hn9.symm; subst hn9
      refine v_st (st2 := [.int x33, .int (nI 1), .ref u]) rfl ?_
      have ho34 : oP G u n _ a LN C T Sn sv rs dt := oP.fr ho30 (by omega) (fun z hz1 hz2 => sa33 z (by omega)) (sa33 a (by omega))
      have fr35 : frP (fun z => (z < u ∨ u + 250 ≤ z) ∧ z ≠ q) _ _ := fun z (hz : (z < u ∨ u + 250 ≤ z) ∧ z ≠ q) => (sa33 z (by omega)).trans (fr31 z hz)
      refine v_iadd dL_acts_376 ?_
      obtain ⟨B36, hB36, t36⟩ := o_pass (l := l) g ho34 (x := (nI 1 + x33))
      obtain ⟨R36, hR36⟩ : ∃ R : Rz, R = dPass C ((nI 1 + x33)) := ⟨_, rfl⟩
      have gj36 : gj b C R36 := by rw [hR36]; exact gj_dPass g.1 g.2.1 (by have := g.2.2.2; omega)
      rw [← hR36] at t36
      refine v_callV (st := []) dL_acts_377 t36 wL_68 ho34.he rfl rfl ⟨Nat.le_of_ble_eq_true rfl, Nat.le_of_ble_eq_true rfl⟩ (Nat.le_of_ble_eq_true rfl) ⟨by omega, by omega⟩ (fun r n2 h2 hq => ?_)
      obtain ⟨rfl, hn9, ho36, sa36⟩ := oc_of ho34 hq; replace hn9 := hn9.symm; subst hn9
      refine v_st (st2 := [.int R36.1]) rfl ?_
      have fr37 : frP (fun z => (z < u ∨ u + 250 ≤ z) ∧ z ≠ q) _ _ := fun z (hz : (z < u ∨ u + 250 ≤ z) ∧ z ≠ q) => (sa36 z (by omega)).trans (fr35 z hz)
      have fb38 := (sa36 (q) (by omega)).trans fb33
      refine v_iret dL_acts_380 rfl ?_ (by omega) (by omega)
      exact ⟨_, gj36, rfl, rfl, ho36, ⟨_, fb38⟩, fr37⟩
    · refine v_bipush (v := nI 25) dL_acts_365 (by decide) ?_
      refine v_goto (tgt := 377) dL_acts_367 (by decide) ?_
      obtain ⟨B39, hB39, t39⟩ := o_pass (l := l) g ho30 (x := nI 25)
      obtain ⟨R39, hR39⟩ : ∃ R : Rz, R = dPass C (nI 25) := ⟨_, rfl⟩
      have gj39 : gj b C R39 := by rw [hR39]; exact gj_dPass g.1 g.2.1 (by have := g.2.2.2; omega)
      rw [← hR39] at t39
      refine v_callV (st := []) dL_acts_377 t39 wL_68 ho30.he rfl rfl ⟨Nat.le_of_ble_eq_true rfl, Nat.le_of_ble_eq_true rfl⟩ (Nat.le_of_ble_eq_true rfl) ⟨by omega, by omega⟩ (fun r n2 h2 hq => ?_)
      obtain ⟨rfl, hn9, ho39, sa39⟩ := oc_of ho30 hq; replace hn9 := hn9.symm; subst hn9
      refine v_st (st2 := [.int R39.1]) rfl ?_
      have fr40 : frP (fun z => (z < u ∨ u + 250 ≤ z) ∧ z ≠ q) _ _ := fun z (hz : (z < u ∨ u + 250 ≤ z) ∧ z ≠ q) => (sa39 z (by omega)).trans (fr31 z hz)
      have fb41 := (sa39 (q) (by omega)).trans fb29
      refine v_iret dL_acts_380 rfl ?_ (by omega) (by omega)
      exact ⟨_, gj39, rfl, rfl, ho39, ⟨_, fb41⟩, fr40⟩
  obtain ⟨z9, hz9⟩ : ∃ z9 : Nat, z9 = (y9.toInt - 0).toNat := ⟨_, rfl⟩
  by_cases hz0 : z9 < 1
  · refine v_tsIn (off := 127) (tgt := 152) dL_acts_25 (by omega) (by omega) (by rw [← hz9]; exact (by decide : ∀ z, z < 1 → 0 ≤ z → (#[127, 154, 154, 180, 180, 180, 180, 223, 223, 223, 223, 223, 223, 223, 223, 223, 277, 277, 277, 277, 277, 277, 282, 282, 288, 288, 294, 294] : Array Int)[z]? = some 127) z9 (by omega) (by omega)) (by decide) ?_
    refine v_aload_n dL_acts_152 rfl ?_
    refine v_aload_n dL_acts_153 rfl ?_
    refine v_bipush (v := nI 20) dL_acts_154 (by decide) ?_
    refine v_callV (st := [.ref u]) dL_acts_156 (t_X7_next (B := B26) (m := nI 20) fb26 (by decide)) wL_23 fb26 rfl rfl ⟨Nat.le_of_ble_eq_true rfl, Nat.le_of_ble_eq_true rfl⟩ (Nat.le_of_ble_eq_true rfl) ⟨by omega, by omega⟩ (fun r n2 h2 hq => ?_)
    obtain ⟨⟨x42, rfl⟩, hn9, ⟨B42, fb42⟩, sa42⟩ := hq; replace hn9 := hn9.symm; subst hn9
    refine v_st (st2 := [.int x42, .ref u]) rfl ?_
    have ho43 : oP G u n _ a LN C T Sn sv rs dt := oP.fr ho27 (by omega) (fun z hz1 hz2 => sa42 z (by omega)) (sa42 a (by omega))
    have fr44 : frP (fun z => (z < u ∨ u + 250 ≤ z) ∧ z ≠ q) _ _ := fun z (hz : (z < u ∨ u + 250 ≤ z) ∧ z ≠ q) => (sa42 z (by omega)).trans (fr28 z hz)
    refine v_if_ne (tgt := 167) dL_acts_159 (by decide) (fun c45 => ?_) (fun c45 => ?_)
    · refine v_iconst (v := nI 1) dL_acts_167 (by decide) ?_
      refine v_aload_n dL_acts_168 rfl ?_
      refine v_bipush (v := nI 9) dL_acts_169 (by decide) ?_
      refine v_callV (st := [.int (nI 1), .ref u]) dL_acts_171 (t_X7_next (B := B42) (m := nI 9) fb42 (by decide)) wL_23 fb42 rfl rfl ⟨Nat.le_of_ble_eq_true rfl, Nat.le_of_ble_eq_true rfl⟩ (Nat.le_of_ble_eq_true rfl) ⟨by omega, by omega⟩ (fun r n2 h2 hq => ?_)
      obtain ⟨⟨x46, rfl⟩, hn9, ⟨B46, fb46⟩, sa46⟩ := hq; replace hn9 := hn9.symm; subst hn9
      refine v_st (st2 := [.int x46, .int (nI 1), .ref u]) rfl ?_
      have ho47 : oP G u n _ a LN C T Sn sv rs dt := oP.fr ho43 (by omega) (fun z hz1 hz2 => sa46 z (by omega)) (sa46 a (by omega))
      have fr48 : frP (fun z => (z < u ∨ u + 250 ≤ z) ∧ z ≠ q) _ _ := fun z (hz : (z < u ∨ u + 250 ≤ z) ∧ z ≠ q) => (sa46 z (by omega)).trans (fr44 z hz)
      refine v_iadd dL_acts_174 ?_
      obtain ⟨B49, hB49, t49⟩ := o_fool (l := l) g ho47 (x := (nI 1 + x46))
      obtain ⟨R49, hR49⟩ : ∃ R : Rz, R = dFool C ((nI 1 + x46)) := ⟨_, rfl⟩
      have gj49 : gj b C R49 := by rw [hR49]; exact gj_dFool g.1 g.2.1 (by have := g.2.2.2; omega)
      rw [← hR49] at t49
      refine v_callV (st := []) dL_acts_175 t49 wL_43 ho47.he rfl rfl ⟨Nat.le_of_ble_eq_true rfl, Nat.le_of_ble_eq_true rfl⟩ (Nat.le_of_ble_eq_true rfl) ⟨by omega, by omega⟩ (fun r n2 h2 hq => ?_)
      obtain ⟨rfl, hn9, ho49, sa49⟩ := oc_of ho47 hq; replace hn9 := hn9.symm; subst hn9
      refine v_st (st2 := [.int R49.1]) rfl ?_
      have fr50 : frP (fun z => (z < u ∨ u + 250 ≤ z) ∧ z ≠ q) _ _ := fun z (hz : (z < u ∨ u + 250 ≤ z) ∧ z ≠ q) => (sa49 z (by omega)).trans (fr48 z hz)
      have fb51 := (sa49 (q) (by omega)).trans fb46
      refine v_iret dL_acts_178 rfl ?_ (by omega) (by omega)
      exact ⟨_, gj49, rfl, rfl, ho49, ⟨_, fb51⟩, fr50⟩
    · refine v_bipush (v := nI 10) dL_acts_162 (by decide) ?_
      refine v_goto (tgt := 175) dL_acts_164 (by decide) ?_
      obtain ⟨B52, hB52, t52⟩ := o_fool (l := l) g ho43 (x := nI 10)
      obtain ⟨R52, hR52⟩ : ∃ R : Rz, R = dFool C (nI 10) := ⟨_, rfl⟩
      have gj52 : gj b C R52 := by rw [hR52]; exact gj_dFool g.1 g.2.1 (by have := g.2.2.2; omega)
      rw [← hR52] at t52
      refine v_callV (st := []) dL_acts_175 t52 wL_43 ho43.he rfl rfl ⟨Nat.le_of_ble_eq_true rfl, Nat.le_of_ble_eq_true rfl⟩ (Nat.le_of_ble_eq_true rfl) ⟨by omega, by omega⟩ (fun r n2 h2 hq => ?_)
      obtain ⟨rfl, hn9, ho52, sa52⟩ := oc_of ho43 hq; replace hn9 := hn9.symm; subst hn9
      refine v_st (st2 := [.int R52.1]) rfl ?_
      have fr53 : frP (fun z => (z < u ∨ u + 250 ≤ z) ∧ z ≠ q) _ _ := fun z (hz : (z < u ∨ u + 250 ≤ z) ∧ z ≠ q) => (sa52 z (by omega)).trans (fr44 z hz)
      have fb54 := (sa52 (q) (by omega)).trans fb42
      refine v_iret dL_acts_178 rfl ?_ (by omega) (by omega)
      exact ⟨_, gj52, rfl, rfl, ho52, ⟨_, fb54⟩, fr53⟩
  by_cases hz1 : z9 < 3
  · refine v_tsIn (off := 154) (tgt := 179) dL_acts_25 (by omega) (by omega) (by rw [← hz9]; exact (by decide : ∀ z, z < 3 → 1 ≤ z → (#[127, 154, 154, 180, 180, 180, 180, 223, 223, 223, 223, 223, 223, 223, 223, 223, 277, 277, 277, 277, 277, 277, 282, 282, 288, 288, 294, 294] : Array Int)[z]? = some 154) z9 (by omega) (by omega)) (by decide) ?_
    refine v_aload_n dL_acts_179 rfl ?_
    refine v_aload_n dL_acts_180 rfl ?_
    refine v_bipush (v := nI 20) dL_acts_181 (by decide) ?_
    refine v_callV (st := [.ref u]) dL_acts_183 (t_X7_next (B := B26) (m := nI 20) fb26 (by decide)) wL_23 fb26 rfl rfl ⟨Nat.le_of_ble_eq_true rfl, Nat.le_of_ble_eq_true rfl⟩ (Nat.le_of_ble_eq_true rfl) ⟨by omega, by omega⟩ (fun r n2 h2 hq => ?_)
    obtain ⟨⟨x55, rfl⟩, hn9, ⟨B55, fb55⟩, sa55⟩ := hq; replace hn9 := hn9.symm; subst hn9
    refine v_st (st2 := [.int x55, .ref u]) rfl ?_
    have ho56 : oP G u n _ a LN C T Sn sv rs dt := oP.fr ho27 (by omega) (fun z hz1 hz2 => sa55 z (by omega)) (sa55 a (by omega))
    have fr57 : frP (fun z => (z < u ∨ u + 250 ≤ z) ∧ z ≠ q) _ _ := fun z (hz : (z < u ∨ u + 250 ≤ z) ∧ z ≠ q) => (sa55 z (by omega)).trans (fr28 z hz)
    refine v_if_ne (tgt := 193) dL_acts_186 (by decide) (fun c58 => ?_) (fun c58 => ?_)
    · refine v_iconst (v := nI 1) dL_acts_193 (by decide) ?_
      refine v_aload_n dL_acts_194 rfl ?_
      refine v_bipush (v := nI 9) dL_acts_195 (by decide) ?_
      refine v_callV (st := [.int (nI 1), .ref u]) dL_acts_197 (t_X7_next (B := B55) (m := nI 9) fb55 (by decide)) wL_23 fb55 rfl rfl ⟨Nat.le_of_ble_eq_true rfl, Nat.le_of_ble_eq_true rfl⟩ (Nat.le_of_ble_eq_true rfl) ⟨by omega, by omega⟩ (fun r n2 h2 hq => ?_)
      obtain ⟨⟨x59, rfl⟩, hn9, ⟨B59, fb59⟩, sa59⟩ := hq; replace hn9 := hn9.symm; subst hn9
      refine v_st (st2 := [.int x59, .int (nI 1), .ref u]) rfl ?_
      have ho60 : oP G u n _ a LN C T Sn sv rs dt := oP.fr ho56 (by omega) (fun z hz1 hz2 => sa59 z (by omega)) (sa59 a (by omega))
      have fr61 : frP (fun z => (z < u ∨ u + 250 ≤ z) ∧ z ≠ q) _ _ := fun z (hz : (z < u ∨ u + 250 ≤ z) ∧ z ≠ q) => (sa59 z (by omega)).trans (fr57 z hz)
      refine v_iadd dL_acts_200 ?_
      obtain ⟨B62, hB62, t62⟩ := o_joke (l := l) g ho60 (x := (nI 1 + x59))
      obtain ⟨R62, hR62⟩ : ∃ R : Rz, R = dJoke C ((nI 1 + x59)) := ⟨_, rfl⟩
      have gj62 : gj b C R62 := by rw [hR62]; exact gj_dJoke g.1 g.2.1 (by have := g.2.2.2; omega)
      rw [← hR62] at t62
      refine v_callV (st := []) dL_acts_201 t62 wL_46 ho60.he rfl rfl ⟨Nat.le_of_ble_eq_true rfl, Nat.le_of_ble_eq_true rfl⟩ (Nat.le_of_ble_eq_true rfl) ⟨by omega, by omega⟩ (fun r n2 h2 hq => ?_)
      obtain ⟨rfl, hn9, ho62, sa62⟩ := oc_of ho60 hq; replace hn9 := hn9.symm; subst hn9
      refine v_st (st2 := [.int R62.1]) rfl ?_
      have fr63 : frP (fun z => (z < u ∨ u + 250 ≤ z) ∧ z ≠ q) _ _ := fun z (hz : (z < u ∨ u + 250 ≤ z) ∧ z ≠ q) => (sa62 z (by omega)).trans (fr61 z hz)
      have fb64 := (sa62 (q) (by omega)).trans fb59
      refine v_iret dL_acts_204 rfl ?_ (by omega) (by omega)
      exact ⟨_, gj62, rfl, rfl, ho62, ⟨_, fb64⟩, fr63⟩
    · refine v_iconst (v := nI 0) dL_acts_189 (by decide) ?_
      refine v_goto (tgt := 201) dL_acts_190 (by decide) ?_
      obtain ⟨B65, hB65, t65⟩ := o_joke (l := l) g ho56 (x := nI 0)
      obtain ⟨R65, hR65⟩ : ∃ R : Rz, R = dJoke C (nI 0) := ⟨_, rfl⟩
      have gj65 : gj b C R65 := by rw [hR65]; exact gj_dJoke g.1 g.2.1 (by have := g.2.2.2; omega)
      rw [← hR65] at t65
      refine v_callV (st := []) dL_acts_201 t65 wL_46 ho56.he rfl rfl ⟨Nat.le_of_ble_eq_true rfl, Nat.le_of_ble_eq_true rfl⟩ (Nat.le_of_ble_eq_true rfl) ⟨by omega, by omega⟩ (fun r n2 h2 hq => ?_)
      obtain ⟨rfl, hn9, ho65, sa65⟩ := oc_of ho56 hq; replace hn9 := hn9.symm; subst hn9
      refine v_st (st2 := [.int R65.1]) rfl ?_
      have fr66 : frP (fun z => (z < u ∨ u + 250 ≤ z) ∧ z ≠ q) _ _ := fun z (hz : (z < u ∨ u + 250 ≤ z) ∧ z ≠ q) => (sa65 z (by omega)).trans (fr57 z hz)
      have fb67 := (sa65 (q) (by omega)).trans fb55
      refine v_iret dL_acts_204 rfl ?_ (by omega) (by omega)
      exact ⟨_, gj65, rfl, rfl, ho65, ⟨_, fb67⟩, fr66⟩
  by_cases hz2 : z9 < 7
  · refine v_tsIn (off := 180) (tgt := 205) dL_acts_25 (by omega) (by omega) (by rw [← hz9]; exact (by decide : ∀ z, z < 7 → 3 ≤ z → (#[127, 154, 154, 180, 180, 180, 180, 223, 223, 223, 223, 223, 223, 223, 223, 223, 277, 277, 277, 277, 277, 277, 282, 282, 288, 288, 294, 294] : Array Int)[z]? = some 180) z9 (by omega) (by omega)) (by decide) ?_
    refine v_aload_n dL_acts_205 rfl ?_
    refine v_iload_n dL_acts_206 rfl ?_
    refine v_iload dL_acts_207 rfl ?_
    refine v_aload_n dL_acts_209 rfl ?_
    refine v_bipush (v := nI 20) dL_acts_210 (by decide) ?_
    refine v_callV (st := [.int x26, .int x22, .ref u]) dL_acts_212 (t_X7_next (B := B26) (m := nI 20) fb26 (by decide)) wL_23 fb26 rfl rfl ⟨Nat.le_of_ble_eq_true rfl, Nat.le_of_ble_eq_true rfl⟩ (Nat.le_of_ble_eq_true rfl) ⟨by omega, by omega⟩ (fun r n2 h2 hq => ?_)
    obtain ⟨⟨x68, rfl⟩, hn9, ⟨B68, fb68⟩, sa68⟩ := hq; replace hn9 := hn9.symm; subst hn9
    refine v_st (st2 := [.int x68, .int x26, .int x22, .ref u]) rfl ?_
    have ho69 : oP G u n _ a LN C T Sn sv rs dt := oP.fr ho27 (by omega) (fun z hz1 hz2 => sa68 z (by omega)) (sa68 a (by omega))
    have fr70 : frP (fun z => (z < u ∨ u + 250 ≤ z) ∧ z ≠ q) _ _ := fun z (hz : (z < u ∨ u + 250 ≤ z) ∧ z ≠ q) => (sa68 z (by omega)).trans (fr28 z hz)
    refine v_if_ne (tgt := 223) dL_acts_215 (by decide) (fun c71 => ?_) (fun c71 => ?_)
    · refine v_iconst (v := nI 1) dL_acts_223 (by decide) ?_
      refine v_aload_n dL_acts_224 rfl ?_
      refine v_aload_n dL_acts_225 rfl ?_
      refine v_iconst (v := nI 3) dL_acts_226 (by decide) ?_
      refine v_callV (st := [.ref q, .int (nI 1), .int x26, .int x22, .ref u]) dL_acts_227 (t_X7_next (B := B68) (m := nI 3) fb68 (by decide)) wL_23 fb68 rfl rfl ⟨Nat.le_of_ble_eq_true rfl, Nat.le_of_ble_eq_true rfl⟩ (Nat.le_of_ble_eq_true rfl) ⟨by omega, by omega⟩ (fun r n2 h2 hq => ?_)
      obtain ⟨⟨x72, rfl⟩, hn9, ⟨B72, fb72⟩, sa72⟩ := hq; replace hn9 := hn9.symm; subst hn9
      refine v_st (st2 := [.int x72, .ref q, .int (nI 1), .int x26, .int x22, .ref u]) rfl ?_
      have ho73 : oP G u n _ a LN C T Sn sv rs dt := oP.fr ho69 (by omega) (fun z hz1 hz2 => sa72 z (by omega)) (sa72 a (by omega))
      have fr74 : frP (fun z => (z < u ∨ u + 250 ≤ z) ∧ z ≠ q) _ _ := fun z (hz : (z < u ∨ u + 250 ≤ z) ∧ z ≠ q) => (sa72 z (by omega)).trans (fr70 z hz)
      refine v_if_ne (tgt := 238) dL_acts_230 (by decide) (fun c75 => ?_) (fun c75 => ?_)
      · refine v_bipush (v := nI 6) dL_acts_238 (by decide) ?_
        refine v_callV (st := [.int (nI 1), .int x26, .int x22, .ref u]) dL_acts_240 (t_X7_next (B := B72) (m := nI 6) fb72 (by decide)) wL_23 fb72 rfl rfl ⟨Nat.le_of_ble_eq_true rfl, Nat.le_of_ble_eq_true rfl⟩ (Nat.le_of_ble_eq_true rfl) ⟨by omega, by omega⟩ (fun r n2 h2 hq => ?_)
        obtain ⟨⟨x76, rfl⟩, hn9, ⟨B76, fb76⟩, sa76⟩ := hq; replace hn9 := hn9.symm; subst hn9
        refine v_st (st2 := [.int x76, .int (nI 1), .int x26, .int x22, .ref u]) rfl ?_
        have ho77 : oP G u n _ a LN C T Sn sv rs dt := oP.fr ho73 (by omega) (fun z hz1 hz2 => sa76 z (by omega)) (sa76 a (by omega))
        have fr78 : frP (fun z => (z < u ∨ u + 250 ≤ z) ∧ z ≠ q) _ _ := fun z (hz : (z < u ∨ u + 250 ≤ z) ∧ z ≠ q) => (sa76 z (by omega)).trans (fr74 z hz)
        refine v_iadd dL_acts_243 ?_
        obtain ⟨B79, hB79, t79⟩ := o_patent (l := l) g ho77 (x := x22) (y := x26) (z := (nI 1 + x76))
        obtain ⟨R79, hR79⟩ : ∃ R : Rz, R = dPat C x22 x26 ((nI 1 + x76)) := ⟨_, rfl⟩
        have gj79 : gj b C R79 := by rw [hR79]; exact gj_dPat g.1 g.2.1 (by have := g.2.2.2; omega)
        rw [← hR79] at t79
        refine v_callV (st := []) dL_acts_244 t79 wL_49 ho77.he rfl rfl ⟨Nat.le_of_ble_eq_true rfl, Nat.le_of_ble_eq_true rfl⟩ (Nat.le_of_ble_eq_true rfl) ⟨by omega, by omega⟩ (fun r n2 h2 hq => ?_)
        obtain ⟨rfl, hn9, ho79, sa79⟩ := oc_of ho77 hq; replace hn9 := hn9.symm; subst hn9
        refine v_st (st2 := [.int R79.1]) rfl ?_
        have fr80 : frP (fun z => (z < u ∨ u + 250 ≤ z) ∧ z ≠ q) _ _ := fun z (hz : (z < u ∨ u + 250 ≤ z) ∧ z ≠ q) => (sa79 z (by omega)).trans (fr78 z hz)
        have fb81 := (sa79 (q) (by omega)).trans fb76
        refine v_iret dL_acts_247 rfl ?_ (by omega) (by omega)
        exact ⟨_, gj79, rfl, rfl, ho79, ⟨_, fb81⟩, fr80⟩
      · refine v_bipush (v := nI 48) dL_acts_233 (by decide) ?_
        refine v_goto (tgt := 240) dL_acts_235 (by decide) ?_
        refine v_callV (st := [.int (nI 1), .int x26, .int x22, .ref u]) dL_acts_240 (t_X7_next (B := B72) (m := nI 48) fb72 (by decide)) wL_23 fb72 rfl rfl ⟨Nat.le_of_ble_eq_true rfl, Nat.le_of_ble_eq_true rfl⟩ (Nat.le_of_ble_eq_true rfl) ⟨by omega, by omega⟩ (fun r n2 h2 hq => ?_)
        obtain ⟨⟨x82, rfl⟩, hn9, ⟨B82, fb82⟩, sa82⟩ := hq; replace hn9 := hn9.symm; subst hn9
        refine v_st (st2 := [.int x82, .int (nI 1), .int x26, .int x22, .ref u]) rfl ?_
        have ho83 : oP G u n _ a LN C T Sn sv rs dt := oP.fr ho73 (by omega) (fun z hz1 hz2 => sa82 z (by omega)) (sa82 a (by omega))
        have fr84 : frP (fun z => (z < u ∨ u + 250 ≤ z) ∧ z ≠ q) _ _ := fun z (hz : (z < u ∨ u + 250 ≤ z) ∧ z ≠ q) => (sa82 z (by omega)).trans (fr74 z hz)
        refine v_iadd dL_acts_243 ?_
        obtain ⟨B85, hB85, t85⟩ := o_patent (l := l) g ho83 (x := x22) (y := x26) (z := (nI 1 + x82))
        obtain ⟨R85, hR85⟩ : ∃ R : Rz, R = dPat C x22 x26 ((nI 1 + x82)) := ⟨_, rfl⟩
        have gj85 : gj b C R85 := by rw [hR85]; exact gj_dPat g.1 g.2.1 (by have := g.2.2.2; omega)
        rw [← hR85] at t85
        refine v_callV (st := []) dL_acts_244 t85 wL_49 ho83.he rfl rfl ⟨Nat.le_of_ble_eq_true rfl, Nat.le_of_ble_eq_true rfl⟩ (Nat.le_of_ble_eq_true rfl) ⟨by omega, by omega⟩ (fun r n2 h2 hq => ?_)
        obtain ⟨rfl, hn9, ho85, sa85⟩ := oc_of ho83 hq; replace hn9 := hn9.symm; subst hn9
        refine v_st (st2 := [.int R85.1]) rfl ?_
        have fr86 : frP (fun z => (z < u ∨ u + 250 ≤ z) ∧ z ≠ q) _ _ := fun z (hz : (z < u ∨ u + 250 ≤ z) ∧ z ≠ q) => (sa85 z (by omega)).trans (fr84 z hz)
        have fb87 := (sa85 (q) (by omega)).trans fb82
        refine v_iret dL_acts_247 rfl ?_ (by omega) (by omega)
        exact ⟨_, gj85, rfl, rfl, ho85, ⟨_, fb87⟩, fr86⟩
    · refine v_bipush (v := nI 49) dL_acts_218 (by decide) ?_
      refine v_goto (tgt := 244) dL_acts_220 (by decide) ?_
      obtain ⟨B88, hB88, t88⟩ := o_patent (l := l) g ho69 (x := x22) (y := x26) (z := nI 49)
      obtain ⟨R88, hR88⟩ : ∃ R : Rz, R = dPat C x22 x26 (nI 49) := ⟨_, rfl⟩
      have gj88 : gj b C R88 := by rw [hR88]; exact gj_dPat g.1 g.2.1 (by have := g.2.2.2; omega)
      rw [← hR88] at t88
      refine v_callV (st := []) dL_acts_244 t88 wL_49 ho69.he rfl rfl ⟨Nat.le_of_ble_eq_true rfl, Nat.le_of_ble_eq_true rfl⟩ (Nat.le_of_ble_eq_true rfl) ⟨by omega, by omega⟩ (fun r n2 h2 hq => ?_)
      obtain ⟨rfl, hn9, ho88, sa88⟩ := oc_of ho69 hq; replace hn9 := hn9.symm; subst hn9
      refine v_st (st2 := [.int R88.1]) rfl ?_
      have fr89 : frP (fun z => (z < u ∨ u + 250 ≤ z) ∧ z ≠ q) _ _ := fun z (hz : (z < u ∨ u + 250 ≤ z) ∧ z ≠ q) => (sa88 z (by omega)).trans (fr70 z hz)
      have fb90 := (sa88 (q) (by omega)).trans fb68
      refine v_iret dL_acts_247 rfl ?_ (by omega) (by omega)
      exact ⟨_, gj88, rfl, rfl, ho88, ⟨_, fb90⟩, fr89⟩
  by_cases hz3 : z9 < 16
  · refine v_tsIn (off := 223) (tgt := 248) dL_acts_25 (by omega) (by omega) (by rw [← hz9]; exact (by decide : ∀ z, z < 16 → 7 ≤ z → (#[127, 154, 154, 180, 180, 180, 180, 223, 223, 223, 223, 223, 223, 223, 223, 223, 277, 277, 277, 277, 277, 277, 282, 282, 288, 288, 294, 294] : Array Int)[z]? = some 223) z9 (by omega) (by omega)) (by decide) ?_
    refine v_aload_n dL_acts_248 rfl ?_
    refine v_iload_n dL_acts_249 rfl ?_
    refine v_iload dL_acts_250 rfl ?_
    refine v_aload_n dL_acts_252 rfl ?_
    refine v_iconst (v := nI 4) dL_acts_253 (by decide) ?_
    refine v_callS (st := [.int x26, .int x22, .ref u]) dL_acts_254 (t_L_some (B := B26) (m := 4) fb26 (by omega)) wL_37 rfl ⟨Nat.le_of_ble_eq_true rfl, Nat.le_of_ble_eq_true rfl⟩ (Nat.le_of_ble_eq_true rfl) ⟨by omega, by omega⟩ (fun r n2 h2 hq => ?_)
    obtain ⟨⟨x91, rfl⟩, hn9, ⟨B91, fb91⟩, sa91⟩ := hq; replace hn9 := hn9.symm; subst hn9
    refine v_st (st2 := [.int x91, .int x26, .int x22, .ref u]) rfl ?_
    have ho92 : oP G u n _ a LN C T Sn sv rs dt := oP.fr ho27 (by omega) (fun z hz1 hz2 => sa91 z (by omega)) (sa91 a (by omega))
    have fr93 : frP (fun z => (z < u ∨ u + 250 ≤ z) ∧ z ≠ q) _ _ := fun z (hz : (z < u ∨ u + 250 ≤ z) ∧ z ≠ q) => (sa91 z (by omega)).trans (fr28 z hz)
    refine v_aload_n dL_acts_257 rfl ?_
    refine v_bipush (v := nI 25) dL_acts_258 (by decide) ?_
    refine v_callV (st := [.int x91, .int x26, .int x22, .ref u]) dL_acts_260 (t_X7_next (B := B91) (m := nI 25) fb91 (by decide)) wL_23 fb91 rfl rfl ⟨Nat.le_of_ble_eq_true rfl, Nat.le_of_ble_eq_true rfl⟩ (Nat.le_of_ble_eq_true rfl) ⟨by omega, by omega⟩ (fun r n2 h2 hq => ?_)
    obtain ⟨⟨x94, rfl⟩, hn9, ⟨B94, fb94⟩, sa94⟩ := hq; replace hn9 := hn9.symm; subst hn9
    refine v_st (st2 := [.int x94, .int x91, .int x26, .int x22, .ref u]) rfl ?_
    have ho95 : oP G u n _ a LN C T Sn sv rs dt := oP.fr ho92 (by omega) (fun z hz1 hz2 => sa94 z (by omega)) (sa94 a (by omega))
    have fr96 : frP (fun z => (z < u ∨ u + 250 ≤ z) ∧ z ≠ q) _ _ := fun z (hz : (z < u ∨ u + 250 ≤ z) ∧ z ≠ q) => (sa94 z (by omega)).trans (fr93 z hz)
    refine v_if_ne (tgt := 271) dL_acts_263 (by decide) (fun c97 => ?_) (fun c97 => ?_)
    · refine v_aload_n dL_acts_271 rfl ?_
      refine v_iconst (v := nI 3) dL_acts_272 (by decide) ?_
      refine v_ask (st := [.int x91, .int x26, .int x22, .ref u]) (v2 := nI (C 0 3)) dL_acts_273 (o_account g ho95) (qAcc_at (w := 3) (by decide)) wL_34 ho95.he rfl rfl ⟨Nat.le_of_ble_eq_true rfl, Nat.le_of_ble_eq_true rfl⟩ (Nat.le_of_ble_eq_true rfl) ⟨by omega, by omega⟩ ?_
      have b98 : C 0 3 < 2 ^ 28 := C_b g
      refine v_aload_n dL_acts_276 rfl ?_
      refine v_bipush (v := nI 6) dL_acts_277 (by decide) ?_
      refine v_callV (st := [.int (nI (C 0 3)), .int x91, .int x26, .int x22, .ref u]) dL_acts_279 (t_X7_next (B := B94) (m := nI 6) fb94 (by decide)) wL_23 fb94 rfl rfl ⟨Nat.le_of_ble_eq_true rfl, Nat.le_of_ble_eq_true rfl⟩ (Nat.le_of_ble_eq_true rfl) ⟨by omega, by omega⟩ (fun r n2 h2 hq => ?_)
      obtain ⟨⟨x99, rfl⟩, hn9, ⟨B99, fb99⟩, sa99⟩ := hq; replace hn9 := hn9.symm; subst hn9
      refine v_st (st2 := [.int x99, .int (nI (C 0 3)), .int x91, .int x26, .int x22, .ref u]) rfl ?_
      have ho100 : oP G u n _ a LN C T Sn sv rs dt := oP.fr ho95 (by omega) (fun z hz1 hz2 => sa99 z (by omega)) (sa99 a (by omega))
      have fr101 : frP (fun z => (z < u ∨ u + 250 ≤ z) ∧ z ≠ q) _ _ := fun z (hz : (z < u ∨ u + 250 ≤ z) ∧ z ≠ q) => (sa99 z (by omega)).trans (fr96 z hz)
      refine v_iadd dL_acts_282 ?_
      refine v_aload_n dL_acts_283 rfl ?_
      refine v_bipush (v := nI 8) dL_acts_284 (by decide) ?_
      refine v_callV (st := [.int ((nI (C 0 3) + x99)), .int x91, .int x26, .int x22, .ref u]) dL_acts_286 (t_X7_next (B := B99) (m := nI 8) fb99 (by decide)) wL_23 fb99 rfl rfl ⟨Nat.le_of_ble_eq_true rfl, Nat.le_of_ble_eq_true rfl⟩ (Nat.le_of_ble_eq_true rfl) ⟨by omega, by omega⟩ (fun r n2 h2 hq => ?_)
      obtain ⟨⟨x102, rfl⟩, hn9, ⟨B102, fb102⟩, sa102⟩ := hq; replace hn9 := hn9.symm; subst hn9
      refine v_st (st2 := [.int x102, .int ((nI (C 0 3) + x99)), .int x91, .int x26, .int x22, .ref u]) rfl ?_
      have ho103 : oP G u n _ a LN C T Sn sv rs dt := oP.fr ho100 (by omega) (fun z hz1 hz2 => sa102 z (by omega)) (sa102 a (by omega))
      have fr104 : frP (fun z => (z < u ∨ u + 250 ≤ z) ∧ z ≠ q) _ _ := fun z (hz : (z < u ∨ u + 250 ≤ z) ∧ z ≠ q) => (sa102 z (by omega)).trans (fr101 z hz)
      refine v_if_ne (tgt := 296) dL_acts_289 (by decide) (fun c105 => ?_) (fun c105 => ?_)
      · refine v_iconst (v := nI 0) dL_acts_296 (by decide) ?_
        refine v_isub dL_acts_297 ?_
        obtain ⟨B106, hB106, t106⟩ := o_book (l := l) g ho103 (x := x22) (y := x26) (z := x91) (w := ((nI (C 0 3) + x99) - nI 0))
        obtain ⟨R106, hR106⟩ : ∃ R : Rz, R = dBook C x22 x26 x91 (((nI (C 0 3) + x99) - nI 0)) := ⟨_, rfl⟩
        have gj106 : gj b C R106 := by rw [hR106]; exact gj_dBook g.1 g.2.1 (by have := g.2.2.2; omega) (by have := g.2.2.1; omega)
        rw [← hR106] at t106
        refine v_callV (st := []) dL_acts_298 t106 wL_53 ho103.he rfl rfl ⟨Nat.le_of_ble_eq_true rfl, Nat.le_of_ble_eq_true rfl⟩ (Nat.le_of_ble_eq_true rfl) ⟨by omega, by omega⟩ (fun r n2 h2 hq => ?_)
        obtain ⟨rfl, hn9, ho106, sa106⟩ := oc_of ho103 hq; replace hn9 := hn9.symm; subst hn9
        refine v_st (st2 := [.int R106.1]) rfl ?_
        have fr107 : frP (fun z => (z < u ∨ u + 250 ≤ z) ∧ z ≠ q) _ _ := fun z (hz : (z < u ∨ u + 250 ≤ z) ∧ z ≠ q) => (sa106 z (by omega)).trans (fr104 z hz)
        have fb108 := (sa106 (q) (by omega)).trans fb102
        refine v_iret dL_acts_301 rfl ?_ (by omega) (by omega)
        exact ⟨_, gj106, rfl, rfl, ho106, ⟨_, fb108⟩, fr107⟩
      · refine v_iconst (v := nI 1) dL_acts_292 (by decide) ?_
        refine v_goto (tgt := 297) dL_acts_293 (by decide) ?_
        refine v_isub dL_acts_297 ?_
        obtain ⟨B109, hB109, t109⟩ := o_book (l := l) g ho103 (x := x22) (y := x26) (z := x91) (w := ((nI (C 0 3) + x99) - nI 1))
        obtain ⟨R109, hR109⟩ : ∃ R : Rz, R = dBook C x22 x26 x91 (((nI (C 0 3) + x99) - nI 1)) := ⟨_, rfl⟩
        have gj109 : gj b C R109 := by rw [hR109]; exact gj_dBook g.1 g.2.1 (by have := g.2.2.2; omega) (by have := g.2.2.1; omega)
        rw [← hR109] at t109
        refine v_callV (st := []) dL_acts_298 t109 wL_53 ho103.he rfl rfl ⟨Nat.le_of_ble_eq_true rfl, Nat.le_of_ble_eq_true rfl⟩ (Nat.le_of_ble_eq_true rfl) ⟨by omega, by omega⟩ (fun r n2 h2 hq => ?_)
        obtain ⟨rfl, hn9, ho109, sa109⟩ := oc_of ho103 hq; replace hn9 := hn9.symm; subst hn9
        refine v_st (st2 := [.int R109.1]) rfl ?_
        have fr110 : frP (fun z => (z < u ∨ u + 250 ≤ z) ∧ z ≠ q) _ _ := fun z (hz : (z < u ∨ u + 250 ≤ z) ∧ z ≠ q) => (sa109 z (by omega)).trans (fr104 z hz)
        have fb111 := (sa109 (q) (by omega)).trans fb102
        refine v_iret dL_acts_301 rfl ?_ (by omega) (by omega)
        exact ⟨_, gj109, rfl, rfl, ho109, ⟨_, fb111⟩, fr110⟩
    · refine v_bipush (v := nI 100) dL_acts_266 (by decide) ?_
      refine v_goto (tgt := 298) dL_acts_268 (by decide) ?_
      obtain ⟨B112, hB112, t112⟩ := o_book (l := l) g ho95 (x := x22) (y := x26) (z := x91) (w := nI 100)
      obtain ⟨R112, hR112⟩ : ∃ R : Rz, R = dBook C x22 x26 x91 (nI 100) := ⟨_, rfl⟩
      have gj112 : gj b C R112 := by rw [hR112]; exact gj_dBook g.1 g.2.1 (by have := g.2.2.2; omega) (by have := g.2.2.1; omega)
      rw [← hR112] at t112
      refine v_callV (st := []) dL_acts_298 t112 wL_53 ho95.he rfl rfl ⟨Nat.le_of_ble_eq_true rfl, Nat.le_of_ble_eq_true rfl⟩ (Nat.le_of_ble_eq_true rfl) ⟨by omega, by omega⟩ (fun r n2 h2 hq => ?_)
      obtain ⟨rfl, hn9, ho112, sa112⟩ := oc_of ho95 hq; replace hn9 := hn9.symm; subst hn9
      refine v_st (st2 := [.int R112.1]) rfl ?_
      have fr113 : frP (fun z => (z < u ∨ u + 250 ≤ z) ∧ z ≠ q) _ _ := fun z (hz : (z < u ∨ u + 250 ≤ z) ∧ z ≠ q) => (sa112 z (by omega)).trans (fr96 z hz)
      have fb114 := (sa112 (q) (by omega)).trans fb94
      refine v_iret dL_acts_301 rfl ?_ (by omega) (by omega)
      exact ⟨_, gj112, rfl, rfl, ho112, ⟨_, fb114⟩, fr113⟩
  by_cases hz4 : z9 < 22
  · refine v_tsIn (off := 277) (tgt := 302) dL_acts_25 (by omega) (by omega) (by rw [← hz9]; exact (by decide : ∀ z, z < 22 → 16 ≤ z → (#[127, 154, 154, 180, 180, 180, 180, 223, 223, 223, 223, 223, 223, 223, 223, 223, 277, 277, 277, 277, 277, 277, 282, 282, 288, 288, 294, 294] : Array Int)[z]? = some 277) z9 (by omega) (by omega)) (by decide) ?_
    refine v_aload_n dL_acts_302 rfl ?_
    obtain ⟨B115, hB115, t115⟩ := o_next (l := l) g ho27
    obtain ⟨R115, hR115⟩ : ∃ R : Rz, R = dNext C := ⟨_, rfl⟩
    have gj115 : gj b C R115 := by rw [hR115]; exact gj_dNext g.1 g.2.1 (by have := g.2.2.2; omega)
    rw [← hR115] at t115
    refine v_callV (st := []) dL_acts_303 t115 wL_57 ho27.he rfl rfl ⟨Nat.le_of_ble_eq_true rfl, Nat.le_of_ble_eq_true rfl⟩ (Nat.le_of_ble_eq_true rfl) ⟨by omega, by omega⟩ (fun r n2 h2 hq => ?_)
    obtain ⟨rfl, hn9, ho115, sa115⟩ := oc_of ho27 hq; replace hn9 := hn9.symm; subst hn9
    refine v_st (st2 := [.int R115.1]) rfl ?_
    have fr116 : frP (fun z => (z < u ∨ u + 250 ≤ z) ∧ z ≠ q) _ _ := fun z (hz : (z < u ∨ u + 250 ≤ z) ∧ z ≠ q) => (sa115 z (by omega)).trans (fr28 z hz)
    have fb117 := (sa115 (q) (by omega)).trans fb26
    refine v_iret dL_acts_306 rfl ?_ (by omega) (by omega)
    exact ⟨_, gj115, rfl, rfl, ho115, ⟨_, fb117⟩, fr116⟩
  by_cases hz5 : z9 < 24
  · refine v_tsIn (off := 282) (tgt := 307) dL_acts_25 (by omega) (by omega) (by rw [← hz9]; exact (by decide : ∀ z, z < 24 → 22 ≤ z → (#[127, 154, 154, 180, 180, 180, 180, 223, 223, 223, 223, 223, 223, 223, 223, 223, 277, 277, 277, 277, 277, 277, 282, 282, 288, 288, 294, 294] : Array Int)[z]? = some 282) z9 (by omega) (by omega)) (by decide) ?_
    refine v_aload_n dL_acts_307 rfl ?_
    refine v_iload_n dL_acts_308 rfl ?_
    obtain ⟨B118, hB118, t118⟩ := o_insure (l := l) g ho27 (x := x22)
    obtain ⟨R118, hR118⟩ : ∃ R : Rz, R = dIns C x22 := ⟨_, rfl⟩
    have gj118 : gj b C R118 := by rw [hR118]; exact gj_dIns g.1 g.2.1 (by have := g.2.2.2; omega)
    rw [← hR118] at t118
    refine v_callV (st := []) dL_acts_309 t118 wL_59 ho27.he rfl rfl ⟨Nat.le_of_ble_eq_true rfl, Nat.le_of_ble_eq_true rfl⟩ (Nat.le_of_ble_eq_true rfl) ⟨by omega, by omega⟩ (fun r n2 h2 hq => ?_)
    obtain ⟨rfl, hn9, ho118, sa118⟩ := oc_of ho27 hq; replace hn9 := hn9.symm; subst hn9
    refine v_st (st2 := [.int R118.1]) rfl ?_
    have fr119 : frP (fun z => (z < u ∨ u + 250 ≤ z) ∧ z ≠ q) _ _ := fun z (hz : (z < u ∨ u + 250 ≤ z) ∧ z ≠ q) => (sa118 z (by omega)).trans (fr28 z hz)
    have fb120 := (sa118 (q) (by omega)).trans fb26
    refine v_iret dL_acts_312 rfl ?_ (by omega) (by omega)
    exact ⟨_, gj118, rfl, rfl, ho118, ⟨_, fb120⟩, fr119⟩
  by_cases hz6 : z9 < 26
  · refine v_tsIn (off := 288) (tgt := 313) dL_acts_25 (by omega) (by omega) (by rw [← hz9]; exact (by decide : ∀ z, z < 26 → 24 ≤ z → (#[127, 154, 154, 180, 180, 180, 180, 223, 223, 223, 223, 223, 223, 223, 223, 223, 277, 277, 277, 277, 277, 277, 282, 282, 288, 288, 294, 294] : Array Int)[z]? = some 288) z9 (by omega) (by omega)) (by decide) ?_
    refine v_aload_n dL_acts_313 rfl ?_
    refine v_iload_n dL_acts_314 rfl ?_
    obtain ⟨B121, hB121, t121⟩ := o_audit (l := l) g ho27 (x := x22)
    obtain ⟨R121, hR121⟩ : ∃ R : Rz, R = dAud C x22 := ⟨_, rfl⟩
    have gj121 : gj b C R121 := by rw [hR121]; exact gj_dAud g.1 g.2.1 (by have := g.2.2.2; omega)
    rw [← hR121] at t121
    refine v_callV (st := []) dL_acts_315 t121 wL_62 ho27.he rfl rfl ⟨Nat.le_of_ble_eq_true rfl, Nat.le_of_ble_eq_true rfl⟩ (Nat.le_of_ble_eq_true rfl) ⟨by omega, by omega⟩ (fun r n2 h2 hq => ?_)
    obtain ⟨rfl, hn9, ho121, sa121⟩ := oc_of ho27 hq; replace hn9 := hn9.symm; subst hn9
    refine v_st (st2 := [.int R121.1]) rfl ?_
    have fr122 : frP (fun z => (z < u ∨ u + 250 ≤ z) ∧ z ≠ q) _ _ := fun z (hz : (z < u ∨ u + 250 ≤ z) ∧ z ≠ q) => (sa121 z (by omega)).trans (fr28 z hz)
    have fb123 := (sa121 (q) (by omega)).trans fb26
    refine v_iret dL_acts_318 rfl ?_ (by omega) (by omega)
    exact ⟨_, gj121, rfl, rfl, ho121, ⟨_, fb123⟩, fr122⟩
  refine v_tsIn (off := 294) (tgt := 319) dL_acts_25 (by omega) (by omega) (by rw [← hz9]; exact (by decide : ∀ z, z < 28 → 26 ≤ z → (#[127, 154, 154, 180, 180, 180, 180, 223, 223, 223, 223, 223, 223, 223, 223, 223, 277, 277, 277, 277, 277, 277, 282, 282, 288, 288, 294, 294] : Array Int)[z]? = some 294) z9 (by omega) (by omega)) (by decide) ?_
  refine v_aload_n dL_acts_319 rfl ?_
  refine v_aload_n dL_acts_320 rfl ?_
  refine v_iconst (v := nI 4) dL_acts_321 (by decide) ?_
  refine v_callS (st := [.ref u]) dL_acts_322 (t_L_some (B := B26) (m := 4) fb26 (by omega)) wL_37 rfl ⟨Nat.le_of_ble_eq_true rfl, Nat.le_of_ble_eq_true rfl⟩ (Nat.le_of_ble_eq_true rfl) ⟨by omega, by omega⟩ (fun r n2 h2 hq => ?_)
  obtain ⟨⟨x124, rfl⟩, hn9, ⟨B124, fb124⟩, sa124⟩ := hq; replace hn9 := hn9.symm; subst hn9
  refine v_st (st2 := [.int x124, .ref u]) rfl ?_
  have ho125 : oP G u n _ a LN C T Sn sv rs dt := oP.fr ho27 (by omega) (fun z hz1 hz2 => sa124 z (by omega)) (sa124 a (by omega))
  have fr126 : frP (fun z => (z < u ∨ u + 250 ≤ z) ∧ z ≠ q) _ _ := fun z (hz : (z < u ∨ u + 250 ≤ z) ∧ z ≠ q) => (sa124 z (by omega)).trans (fr28 z hz)
  refine v_aload_n dL_acts_325 rfl ?_
  refine v_bipush (v := nI 20) dL_acts_326 (by decide) ?_
  refine v_callV (st := [.int x124, .ref u]) dL_acts_328 (t_X7_next (B := B124) (m := nI 20) fb124 (by decide)) wL_23 fb124 rfl rfl ⟨Nat.le_of_ble_eq_true rfl, Nat.le_of_ble_eq_true rfl⟩ (Nat.le_of_ble_eq_true rfl) ⟨by omega, by omega⟩ (fun r n2 h2 hq => ?_)
  obtain ⟨⟨x127, rfl⟩, hn9, ⟨B127, fb127⟩, sa127⟩ := hq; replace hn9 := hn9.symm; subst hn9
  refine v_st (st2 := [.int x127, .int x124, .ref u]) rfl ?_
  have ho128 : oP G u n _ a LN C T Sn sv rs dt := oP.fr ho125 (by omega) (fun z hz1 hz2 => sa127 z (by omega)) (sa127 a (by omega))
  have fr129 : frP (fun z => (z < u ∨ u + 250 ≤ z) ∧ z ≠ q) _ _ := fun z (hz : (z < u ∨ u + 250 ≤ z) ∧ z ≠ q) => (sa127 z (by omega)).trans (fr126 z hz)
  refine v_if_ne (tgt := 338) dL_acts_331 (by decide) (fun c130 => ?_) (fun c130 => ?_)
  · refine v_aload_n dL_acts_338 rfl ?_
    refine v_iconst (v := nI 3) dL_acts_339 (by decide) ?_
    refine v_callV (st := [.int x124, .ref u]) dL_acts_340 (t_X7_next (B := B127) (m := nI 3) fb127 (by decide)) wL_23 fb127 rfl rfl ⟨Nat.le_of_ble_eq_true rfl, Nat.le_of_ble_eq_true rfl⟩ (Nat.le_of_ble_eq_true rfl) ⟨by omega, by omega⟩ (fun r n2 h2 hq => ?_)
    obtain ⟨⟨x131, rfl⟩, hn9, ⟨B131, fb131⟩, sa131⟩ := hq; replace hn9 := hn9.symm; subst hn9
    refine v_st (st2 := [.int x131, .int x124, .ref u]) rfl ?_
    have ho132 : oP G u n _ a LN C T Sn sv rs dt := oP.fr ho128 (by omega) (fun z hz1 hz2 => sa131 z (by omega)) (sa131 a (by omega))
    have fr133 : frP (fun z => (z < u ∨ u + 250 ≤ z) ∧ z ≠ q) _ _ := fun z (hz : (z < u ∨ u + 250 ≤ z) ∧ z ≠ q) => (sa131 z (by omega)).trans (fr129 z hz)
    refine v_if_ne (tgt := 350) dL_acts_343 (by decide) (fun c134 => ?_) (fun c134 => ?_)
    · refine v_iconst (v := nI 0) dL_acts_350 (by decide) ?_
      obtain ⟨B135, hB135, t135⟩ := o_exempt (l := l) g ho132 (x := x124) (y := nI 0)
      obtain ⟨R135, hR135⟩ : ∃ R : Rz, R = dExe C x124 (nI 0) := ⟨_, rfl⟩
      have gj135 : gj b C R135 := by rw [hR135]; exact gj_dExe g.1 g.2.1 (by have := g.2.2.2; omega)
      rw [← hR135] at t135
      refine v_callV (st := []) dL_acts_351 t135 wL_65 ho132.he rfl rfl ⟨Nat.le_of_ble_eq_true rfl, Nat.le_of_ble_eq_true rfl⟩ (Nat.le_of_ble_eq_true rfl) ⟨by omega, by omega⟩ (fun r n2 h2 hq => ?_)
      obtain ⟨rfl, hn9, ho135, sa135⟩ := oc_of ho132 hq; replace hn9 := hn9.symm; subst hn9
      refine v_st (st2 := [.int R135.1]) rfl ?_
      have fr136 : frP (fun z => (z < u ∨ u + 250 ≤ z) ∧ z ≠ q) _ _ := fun z (hz : (z < u ∨ u + 250 ≤ z) ∧ z ≠ q) => (sa135 z (by omega)).trans (fr133 z hz)
      have fb137 := (sa135 (q) (by omega)).trans fb131
      refine v_iret dL_acts_354 rfl ?_ (by omega) (by omega)
      exact ⟨_, gj135, rfl, rfl, ho135, ⟨_, fb137⟩, fr136⟩
    · refine v_iconst (v := nI 1) dL_acts_346 (by decide) ?_
      refine v_goto (tgt := 351) dL_acts_347 (by decide) ?_
      obtain ⟨B138, hB138, t138⟩ := o_exempt (l := l) g ho132 (x := x124) (y := nI 1)
      obtain ⟨R138, hR138⟩ : ∃ R : Rz, R = dExe C x124 (nI 1) := ⟨_, rfl⟩
      have gj138 : gj b C R138 := by rw [hR138]; exact gj_dExe g.1 g.2.1 (by have := g.2.2.2; omega)
      rw [← hR138] at t138
      refine v_callV (st := []) dL_acts_351 t138 wL_65 ho132.he rfl rfl ⟨Nat.le_of_ble_eq_true rfl, Nat.le_of_ble_eq_true rfl⟩ (Nat.le_of_ble_eq_true rfl) ⟨by omega, by omega⟩ (fun r n2 h2 hq => ?_)
      obtain ⟨rfl, hn9, ho138, sa138⟩ := oc_of ho132 hq; replace hn9 := hn9.symm; subst hn9
      refine v_st (st2 := [.int R138.1]) rfl ?_
      have fr139 : frP (fun z => (z < u ∨ u + 250 ≤ z) ∧ z ≠ q) _ _ := fun z (hz : (z < u ∨ u + 250 ≤ z) ∧ z ≠ q) => (sa138 z (by omega)).trans (fr133 z hz)
      have fb140 := (sa138 (q) (by omega)).trans fb131
      refine v_iret dL_acts_354 rfl ?_ (by omega) (by omega)
      exact ⟨_, gj138, rfl, rfl, ho138, ⟨_, fb140⟩, fr139⟩
  · refine v_iconst (v := nI 2) dL_acts_334 (by decide) ?_
    refine v_goto (tgt := 351) dL_acts_335 (by decide) ?_
    obtain ⟨B141, hB141, t141⟩ := o_exempt (l := l) g ho128 (x := x124) (y := nI 2)
    obtain ⟨R141, hR141⟩ : ∃ R : Rz, R = dExe C x124 (nI 2) := ⟨_, rfl⟩
    have gj141 : gj b C R141 := by rw [hR141]; exact gj_dExe g.1 g.2.1 (by have := g.2.2.2; omega)
    rw [← hR141] at t141
    refine v_callV (st := []) dL_acts_351 t141 wL_65 ho128.he rfl rfl ⟨Nat.le_of_ble_eq_true rfl, Nat.le_of_ble_eq_true rfl⟩ (Nat.le_of_ble_eq_true rfl) ⟨by omega, by omega⟩ (fun r n2 h2 hq => ?_)
    obtain ⟨rfl, hn9, ho141, sa141⟩ := oc_of ho128 hq; replace hn9 := hn9.symm; subst hn9
    refine v_st (st2 := [.int R141.1]) rfl ?_
    have fr142 : frP (fun z => (z < u ∨ u + 250 ≤ z) ∧ z ≠ q) _ _ := fun z (hz : (z < u ∨ u + 250 ≤ z) ∧ z ≠ q) => (sa141 z (by omega)).trans (fr129 z hz)
    have fb143 := (sa141 (q) (by omega)).trans fb127
    refine v_iret dL_acts_354 rfl ?_ (by omega) (by omega)
    exact ⟨_, gj141, rfl, rfl, ho141, ⟨_, fb143⟩, fr142⟩
