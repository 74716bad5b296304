theorem gZ0 : gd 200 Z0 := ⟨⟨Iv_Z0, jx_Z0⟩, fun _ _ => (by decide : 0 < 200), (by decide : 3000 * 0 + 200 ≤ 200), by decide⟩
def sR0 : Rz := dFool Z0 (nI 7)
theorem sV0 : sR0.1 = nI 0 := by decide +kernel
theorem sG0 : gd 3200 sR0.2.1 := gd_gj (R := sR0) gZ0 (gj_dFool gZ0.1 gZ0.2.1 (by have := gZ0.2.2.2; omega)) (by decide)
def sR1 : Rz := dFool sR0.2.1 (nI 2)
theorem sV1 : sR1.1 = nI 1 := by decide +kernel
theorem sG1 : gd 6200 sR1.2.1 := gd_gj (R := sR1) sG0 (gj_dFool sG0.1 sG0.2.1 (by have := sG0.2.2.2; omega)) (by decide)
def sR2 : Rz := dFool sR1.2.1 (nI 9)
theorem sV2 : sR2.1 = nI 2 := by decide +kernel
theorem sG2 : gd 9200 sR2.2.1 := gd_gj (R := sR2) sG1 (gj_dFool sG1.1 sG1.2.1 (by have := sG1.2.2.2; omega)) (by decide)
def sR3 : Rz := dJoke sR2.2.1 (nI 5)
theorem sV3 : sR3.1 = nI 0 := by decide +kernel
theorem sG3 : gd 12200 sR3.2.1 := gd_gj (R := sR3) sG2 (gj_dJoke sG2.1 sG2.2.1 (by have := sG2.2.2.2; omega)) (by decide)
def sR4 : Rz := dJoke sR3.2.1 (nI 9)
theorem sV4 : sR4.1 = nI 1 := by decide +kernel
theorem sG4 : gd 15200 sR4.2.1 := gd_gj (R := sR4) sG3 (gj_dJoke sG3.1 sG3.2.1 (by have := sG3.2.2.2; omega)) (by decide)
def sR5 : Rz := dJoke sR4.2.1 (nI 1)
theorem sV5 : sR5.1 = nI 2 := by decide +kernel
theorem sG5 : gd 18200 sR5.2.1 := gd_gj (R := sR5) sG4 (gj_dJoke sG4.1 sG4.2.1 (by have := sG4.2.2.2; omega)) (by decide)
def sR6 : Rz := dPat sR5.2.1 (nI 0) (nI 1) (nI 3)
theorem sV6 : sR6.1 = nI 3 := by decide +kernel
theorem sG6 : gd 21200 sR6.2.1 := gd_gj (R := sR6) sG5 (gj_dPat sG5.1 sG5.2.1 (by have := sG5.2.2.2; omega)) (by decide)
def sR7 : Rz := dIns sR6.2.1 (nI 1)
theorem sV7 : sR7.1 = nI 1 := by decide +kernel
theorem sG7 : gd 24200 sR7.2.1 := gd_gj (R := sR7) sG6 (gj_dIns sG6.1 sG6.2.1 (by have := sG6.2.2.2; omega)) (by decide)
def sR8 : Rz := dBook sR7.2.1 (nI 0) (nI 1) (nI 0) (nI 1)
theorem sV8 : sR8.1 = nI 0 := by decide +kernel
theorem sG8 : gd 27200 sR8.2.1 := gd_gj (R := sR8) sG7 (gj_dBook sG7.1 sG7.2.1 (by have := sG7.2.2.2; omega) (by have := sG7.2.2.1; omega)) (by decide)
def sR9 : Rz := dBook sR8.2.1 (nI 1) (nI 2) (nI 0) (nI 1)
theorem sV9 : sR9.1 = nI 1 := by decide +kernel
theorem sG9 : gd 30200 sR9.2.1 := gd_gj (R := sR9) sG8 (gj_dBook sG8.1 sG8.2.1 (by have := sG8.2.2.2; omega) (by have := sG8.2.2.1; omega)) (by decide)
def sR10 : Rz := dBook sR9.2.1 (nI 2) (nI 0) (nI 1) (nI 2)
theorem sV10 : sR10.1 = nI 2 := by decide +kernel
theorem sG10 : gd 33200 sR10.2.1 := gd_gj (R := sR10) sG9 (gj_dBook sG9.1 sG9.2.1 (by have := sG9.2.2.2; omega) (by have := sG9.2.2.1; omega)) (by decide)
def sR11 : Rz := dBook sR10.2.1 (nI 2) (nI 0) (nI 0) (nI 5)
theorem sV11 : sR11.1 = nI 3 := by decide +kernel
theorem sG11 : gd 36200 sR11.2.1 := gd_gj (R := sR11) sG10 (gj_dBook sG10.1 sG10.2.1 (by have := sG10.2.2.2; omega) (by have := sG10.2.2.1; omega)) (by decide)
def sR12 : Rz := dExe sR11.2.1 (nI 3) (nI 1)
theorem sV12 : sR12.1 = nI 1 := by decide +kernel
theorem sG12 : gd 39200 sR12.2.1 := gd_gj (R := sR12) sG11 (gj_dExe sG11.1 sG11.2.1 (by have := sG11.2.2.2; omega)) (by decide)
def sR13 : Rz := dNext sR12.2.1
theorem sV13 : sR13.1 = nI 16 := by decide +kernel
theorem sG13 : gd 42200 sR13.2.1 := gd_gj (R := sR13) sG12 (gj_dNext sG12.1 sG12.2.1 (by have := sG12.2.2.2; omega)) (by decide)
def sR14 : Rz := dNext sR13.2.1
theorem sV14 : sR14.1 = nI 3 := by decide +kernel
theorem sG14 : gd 45200 sR14.2.1 := gd_gj (R := sR14) sG13 (gj_dNext sG13.1 sG13.2.1 (by have := sG13.2.2.2; omega)) (by decide)
def sR15 : Rz := dPass sR14.2.1 (nI 1)
theorem sV15 : sR15.1 = nI 0 := by decide +kernel
theorem sG15 : gd 48200 sR15.2.1 := gd_gj (R := sR15) sG14 (gj_dPass sG14.1 sG14.2.1 (by have := sG14.2.2.2; omega)) (by decide)
set_option maxRecDepth 20000 in
set_option maxHeartbeats 4000000 in
theorem t_L_stock {l : Launch} {G : vG} {h : AH} {n : Nat} {u a : Nat} {LN : Ln} {T : Hs} {Sn : Ct} {sv : Nat} {rs dt : Int32} (o : oP G u n h a LN Z0 T Sn sv rs dt) : Mt l G mL_stock [.ref u] (n) h 0 0 (fun r n2 h2 => r = some (.int (nI 36)) ∧ n2 = n ∧ ∃ (T2 : Hs) (rs2 dt2 : Int32), oP G u n h2 a LN sR15.2.1 T2 Sn sv rs2 dt2 ∧ frP (fun z => z < u ∨ u + 250 ≤ z) h h2) := by
  refine Mt.of (by decide) (Nat.le_of_ble_eq_true rfl) rfl ?_
  refine v_ls (ls2 := [some (.ref u), none]) rfl ?_
  have hun := o.n
  refine v_aload_n dL_stock_0 rfl ?_
  refine v_bipush (v := nI 7) dL_stock_1 (by decide) ?_
  obtain ⟨B21, hB21, t21⟩ := o_fool (l := l) gZ0 o (x := nI 7)
  rw [show dFool Z0 (nI 7) = sR0 from rfl] at t21
  refine v_callV (st := []) dL_stock_3 t21 wL_43 o.he rfl rfl ⟨Nat.le_of_ble_eq_true rfl, Nat.le_of_ble_eq_true rfl⟩ (Nat.le_of_ble_eq_true rfl) ⟨by omega, by omega⟩ (fun r n2 h2 hq => ?_)
  obtain ⟨rfl, hn9, ho21, sa21⟩ := oc_of o hq; replace hn9 := hn9.symm; subst hn9
  refine v_st (st2 := [.int (nI 0)]) (by rw [sV0]; rfl) ?_
  have fr22 : frP (fun z => z < u ∨ u + 250 ≤ z) _ _ := fun z (hz : z < u ∨ u + 250 ≤ z) => sa21 z (by omega)
  obtain ⟨T21, r21, d21, hp21⟩ : ∃ (T9 : Hs) (r9 d9 : Int32), oP G u n _ a LN sR0.2.1 T9 Sn sv r9 d9 := ⟨_, _, _, ho21⟩
  clear ho21
  refine v_aload_n dL_stock_6 rfl ?_
  refine v_iconst (v := nI 2) dL_stock_7 (by decide) ?_
  obtain ⟨B23, hB23, t23⟩ := o_fool (l := l) sG0 hp21 (x := nI 2)
  rw [show dFool sR0.2.1 (nI 2) = sR1 from rfl] at t23
  refine v_callV (st := [.int (nI 0)]) dL_stock_8 t23 wL_43 hp21.he rfl rfl ⟨Nat.le_of_ble_eq_true rfl, Nat.le_of_ble_eq_true rfl⟩ (Nat.le_of_ble_eq_true rfl) ⟨by omega, by omega⟩ (fun r n2 h2 hq => ?_)
  obtain ⟨rfl, hn9, ho23, sa23⟩ := oc_of hp21 hq; replace hn9 := hn9.symm; subst hn9
  refine v_st (st2 := [.int (nI 1), .int (nI 0)]) (by rw [sV1]; rfl) ?_
  have fr24 : frP (fun z => z < u ∨ u + 250 ≤ z) _ _ := fun z (hz : z < u ∨ u + 250 ≤ z) => (sa23 z (by omega)).trans (fr22 z hz)
  obtain ⟨T23, r23, d23, hp23⟩ : ∃ (T9 : Hs) (r9 d9 : Int32), oP G u n _ a LN sR1.2.1 T9 Sn sv r9 d9 := ⟨_, _, _, ho23⟩
  clear ho23
  refine n_iadd (x := 0) (y := 1) dL_stock_11 ?_
  refine v_aload_n dL_stock_12 rfl ?_
  refine v_bipush (v := nI 9) dL_stock_13 (by decide) ?_
  obtain ⟨B25, hB25, t25⟩ := o_fool (l := l) sG1 hp23 (x := nI 9)
  rw [show dFool sR1.2.1 (nI 9) = sR2 from rfl] at t25
  refine v_callV (st := [.int (nI (0 + 1))]) dL_stock_15 t25 wL_43 hp23.he rfl rfl ⟨Nat.le_of_ble_eq_true rfl, Nat.le_of_ble_eq_true rfl⟩ (Nat.le_of_ble_eq_true rfl) ⟨by omega, by omega⟩ (fun r n2 h2 hq => ?_)
  obtain ⟨rfl, hn9, ho25, sa25⟩ := oc_of hp23 hq; replace hn9 := hn9.symm; subst hn9
  refine v_st (st2 := [.int (nI 2), .int (nI (0 + 1))]) (by rw [sV2]; rfl) ?_
  have fr26 : frP (fun z => z < u ∨ u + 250 ≤ z) _ _ := fun z (hz : z < u ∨ u + 250 ≤ z) => (sa25 z (by omega)).trans (fr24 z hz)
  obtain ⟨T25, r25, d25, hp25⟩ : ∃ (T9 : Hs) (r9 d9 : Int32), oP G u n _ a LN sR2.2.1 T9 Sn sv r9 d9 := ⟨_, _, _, ho25⟩
  clear ho25
  refine n_iadd (x := 0 + 1) (y := 2) dL_stock_18 ?_
  refine v_aload_n dL_stock_19 rfl ?_
  refine v_iconst (v := nI 5) dL_stock_20 (by decide) ?_
  obtain ⟨B27, hB27, t27⟩ := o_joke (l := l) sG2 hp25 (x := nI 5)
  rw [show dJoke sR2.2.1 (nI 5) = sR3 from rfl] at t27
  refine v_callV (st := [.int (nI ((0 + 1) + 2))]) dL_stock_21 t27 wL_46 hp25.he rfl rfl ⟨Nat.le_of_ble_eq_true rfl, Nat.le_of_ble_eq_true rfl⟩ (Nat.le_of_ble_eq_true rfl) ⟨by omega, by omega⟩ (fun r n2 h2 hq => ?_)
  obtain ⟨rfl, hn9, ho27, sa27⟩ := oc_of hp25 hq; replace hn9 := hn9.symm; subst hn9
  refine v_st (st2 := [.int (nI 0), .int (nI ((0 + 1) + 2))]) (by rw [sV3]; rfl) ?_
  have fr28 : frP (fun z => z < u ∨ u + 250 ≤ z) _ _ := fun z (hz : z < u ∨ u + 250 ≤ z) => (sa27 z (by omega)).trans (fr26 z hz)
  obtain ⟨T27, r27, d27, hp27⟩ : ∃ (T9 : Hs) (r9 d9 : Int32), oP G u n _ a LN sR3.2.1 T9 Sn sv r9 d9 := ⟨_, _, _, ho27⟩
  clear ho27
  refine n_iadd (x := (0 + 1) + 2) (y := 0) dL_stock_24 ?_
  refine v_aload_n dL_stock_25 rfl ?_
  refine v_bipush (v := nI 9) dL_stock_26 (by decide) ?_
  obtain ⟨B29, hB29, t29⟩ := o_joke (l := l) sG3 hp27 (x := nI 9)
  rw [show dJoke sR3.2.1 (nI 9) = sR4 from rfl] at t29
  refine v_callV (st := [.int (nI (((0 + 1) + 2) + 0))]) dL_stock_28 t29 wL_46 hp27.he rfl rfl ⟨Nat.le_of_ble_eq_true rfl, Nat.le_of_ble_eq_true rfl⟩ (Nat.le_of_ble_eq_true rfl) ⟨by omega, by omega⟩ (fun r n2 h2 hq => ?_)
  obtain ⟨rfl, hn9, ho29, sa29⟩ := oc_of hp27 hq; replace hn9 := hn9.symm; subst hn9
  refine v_st (st2 := [.int (nI 1), .int (nI (((0 + 1) + 2) + 0))]) (by rw [sV4]; rfl) ?_
  have fr30 : frP (fun z => z < u ∨ u + 250 ≤ z) _ _ := fun z (hz : z < u ∨ u + 250 ≤ z) => (sa29 z (by omega)).trans (fr28 z hz)
  obtain ⟨T29, r29, d29, hp29⟩ : ∃ (T9 : Hs) (r9 d9 : Int32), oP G u n _ a LN sR4.2.1 T9 Sn sv r9 d9 := ⟨_, _, _, ho29⟩
  clear ho29
  refine n_iadd (x := ((0 + 1) + 2) + 0) (y := 1) dL_stock_31 ?_
  refine v_aload_n dL_stock_32 rfl ?_
  refine v_iconst (v := nI 1) dL_stock_33 (by decide) ?_
  obtain ⟨B31, hB31, t31⟩ := o_joke (l := l) sG4 hp29 (x := nI 1)
  rw [show dJoke sR4.2.1 (nI 1) = sR5 from rfl] at t31
  refine v_callV (st := [.int (nI ((((0 + 1) + 2) + 0) + 1))]) dL_stock_34 t31 wL_46 hp29.he rfl rfl ⟨Nat.le_of_ble_eq_true rfl, Nat.le_of_ble_eq_true rfl⟩ (Nat.le_of_ble_eq_true rfl) ⟨by omega, by omega⟩ (fun r n2 h2 hq => ?_)
  obtain ⟨rfl, hn9, ho31, sa31⟩ := oc_of hp29 hq; replace hn9 := hn9.symm; subst hn9
  refine v_st (st2 := [.int (nI 2), .int (nI ((((0 + 1) + 2) + 0) + 1))]) (by rw [sV5]; rfl) ?_
  have fr32 : frP (fun z => z < u ∨ u + 250 ≤ z) _ _ := fun z (hz : z < u ∨ u + 250 ≤ z) => (sa31 z (by omega)).trans (fr30 z hz)
  obtain ⟨T31, r31, d31, hp31⟩ : ∃ (T9 : Hs) (r9 d9 : Int32), oP G u n _ a LN sR5.2.1 T9 Sn sv r9 d9 := ⟨_, _, _, ho31⟩
  clear ho31
  refine n_iadd (x := (((0 + 1) + 2) + 0) + 1) (y := 2) dL_stock_37 ?_
  refine v_aload_n dL_stock_38 rfl ?_
  refine v_iconst (v := nI 0) dL_stock_39 (by decide) ?_
  refine v_iconst (v := nI 1) dL_stock_40 (by decide) ?_
  refine v_iconst (v := nI 3) dL_stock_41 (by decide) ?_
  obtain ⟨B33, hB33, t33⟩ := o_patent (l := l) sG5 hp31 (x := nI 0) (y := nI 1) (z := nI 3)
  rw [show dPat sR5.2.1 (nI 0) (nI 1) (nI 3) = sR6 from rfl] at t33
  refine v_callV (st := [.int (nI (((((0 + 1) + 2) + 0) + 1) + 2))]) dL_stock_42 t33 wL_49 hp31.he rfl rfl ⟨Nat.le_of_ble_eq_true rfl, Nat.le_of_ble_eq_true rfl⟩ (Nat.le_of_ble_eq_true rfl) ⟨by omega, by omega⟩ (fun r n2 h2 hq => ?_)
  obtain ⟨rfl, hn9, ho33, sa33⟩ := oc_of hp31 hq; replace hn9 := hn9.symm; subst hn9
  refine v_st (st2 := [.int (nI 3), .int (nI (((((0 + 1) + 2) + 0) + 1) + 2))]) (by rw [sV6]; rfl) ?_
  have fr34 : frP (fun z => z < u ∨ u + 250 ≤ z) _ _ := fun z (hz : z < u ∨ u + 250 ≤ z) => (sa33 z (by omega)).trans (fr32 z hz)
  obtain ⟨T33, r33, d33, hp33⟩ : ∃ (T9 : Hs) (r9 d9 : Int32), oP G u n _ a LN sR6.2.1 T9 Sn sv r9 d9 := ⟨_, _, _, ho33⟩
  clear ho33
  refine n_iadd (x := ((((0 + 1) + 2) + 0) + 1) + 2) (y := 3) dL_stock_45 ?_
  refine v_aload_n dL_stock_46 rfl ?_
  refine v_iconst (v := nI 1) dL_stock_47 (by decide) ?_
  obtain ⟨B35, hB35, t35⟩ := o_insure (l := l) sG6 hp33 (x := nI 1)
  rw [show dIns sR6.2.1 (nI 1) = sR7 from rfl] at t35
  refine v_callV (st := [.int (nI ((((((0 + 1) + 2) + 0) + 1) + 2) + 3))]) dL_stock_48 t35 wL_59 hp33.he rfl rfl ⟨Nat.le_of_ble_eq_true rfl, Nat.le_of_ble_eq_true rfl⟩ (Nat.le_of_ble_eq_true rfl) ⟨by omega, by omega⟩ (fun r n2 h2 hq => ?_)
  obtain ⟨rfl, hn9, ho35, sa35⟩ := oc_of hp33 hq; replace hn9 := hn9.symm; subst hn9
  refine v_st (st2 := [.int (nI 1), .int (nI ((((((0 + 1) + 2) + 0) + 1) + 2) + 3))]) (by rw [sV7]; rfl) ?_
  have fr36 : frP (fun z => z < u ∨ u + 250 ≤ z) _ _ := fun z (hz : z < u ∨ u + 250 ≤ z) => (sa35 z (by omega)).trans (fr34 z hz)
  obtain ⟨T35, r35, d35, hp35⟩ : ∃ (T9 : Hs) (r9 d9 : Int32), oP G u n _ a LN sR7.2.1 T9 Sn sv r9 d9 := ⟨_, _, _, ho35⟩
  clear ho35
  refine n_iadd (x := (((((0 + 1) + 2) + 0) + 1) + 2) + 3) (y := 1) dL_stock_51 ?_
  refine v_istore_n dL_stock_52 rfl (by decide) ?_
  refine v_ls (ls2 := [some (.ref u), some (.int (nI (((((((0 + 1) + 2) + 0) + 1) + 2) + 3) + 1)))]) rfl ?_
  refine v_iload_n dL_stock_53 rfl ?_
  refine v_aload_n dL_stock_54 rfl ?_
  refine v_iconst (v := nI 0) dL_stock_55 (by decide) ?_
  refine v_iconst (v := nI 1) dL_stock_56 (by decide) ?_
  refine v_iconst (v := nI 0) dL_stock_57 (by decide) ?_
  refine v_iconst (v := nI 1) dL_stock_58 (by decide) ?_
  obtain ⟨B37, hB37, t37⟩ := o_book (l := l) sG7 hp35 (x := nI 0) (y := nI 1) (z := nI 0) (w := nI 1)
  rw [show dBook sR7.2.1 (nI 0) (nI 1) (nI 0) (nI 1) = sR8 from rfl] at t37
  refine v_callV (st := [.int (nI (((((((0 + 1) + 2) + 0) + 1) + 2) + 3) + 1))]) dL_stock_59 t37 wL_53 hp35.he rfl rfl ⟨Nat.le_of_ble_eq_true rfl, Nat.le_of_ble_eq_true rfl⟩ (Nat.le_of_ble_eq_true rfl) ⟨by omega, by omega⟩ (fun r n2 h2 hq => ?_)
  obtain ⟨rfl, hn9, ho37, sa37⟩ := oc_of hp35 hq; replace hn9 := hn9.symm; subst hn9
  refine v_st (st2 := [.int (nI 0), .int (nI (((((((0 + 1) + 2) + 0) + 1) + 2) + 3) + 1))]) (by rw [sV8]; rfl) ?_
  have fr38 : frP (fun z => z < u ∨ u + 250 ≤ z) _ _ := fun z (hz : z < u ∨ u + 250 ≤ z) => (sa37 z (by omega)).trans (fr36 z hz)
  obtain ⟨T37, r37, d37, hp37⟩ : ∃ (T9 : Hs) (r9 d9 : Int32), oP G u n _ a LN sR8.2.1 T9 Sn sv r9 d9 := ⟨_, _, _, ho37⟩
  clear ho37
  refine v_aload_n dL_stock_62 rfl ?_
  refine v_iconst (v := nI 1) dL_stock_63 (by decide) ?_
  refine v_iconst (v := nI 2) dL_stock_64 (by decide) ?_
  refine v_iconst (v := nI 0) dL_stock_65 (by decide) ?_
  refine v_iconst (v := nI 1) dL_stock_66 (by decide) ?_
  obtain ⟨B39, hB39, t39⟩ := o_book (l := l) sG8 hp37 (x := nI 1) (y := nI 2) (z := nI 0) (w := nI 1)
  rw [show dBook sR8.2.1 (nI 1) (nI 2) (nI 0) (nI 1) = sR9 from rfl] at t39
  refine v_callV (st := [.int (nI 0), .int (nI (((((((0 + 1) + 2) + 0) + 1) + 2) + 3) + 1))]) dL_stock_67 t39 wL_53 hp37.he rfl rfl ⟨Nat.le_of_ble_eq_true rfl, Nat.le_of_ble_eq_true rfl⟩ (Nat.le_of_ble_eq_true rfl) ⟨by omega, by omega⟩ (fun r n2 h2 hq => ?_)
  obtain ⟨rfl, hn9, ho39, sa39⟩ := oc_of hp37 hq; replace hn9 := hn9.symm; subst hn9
  refine v_st (st2 := [.int (nI 1), .int (nI 0), .int (nI (((((((0 + 1) + 2) + 0) + 1) + 2) + 3) + 1))]) (by rw [sV9]; rfl) ?_
  have fr40 : frP (fun z => z < u ∨ u + 250 ≤ z) _ _ := fun z (hz : z < u ∨ u + 250 ≤ z) => (sa39 z (by omega)).trans (fr38 z hz)
  obtain ⟨T39, r39, d39, hp39⟩ : ∃ (T9 : Hs) (r9 d9 : Int32), oP G u n _ a LN sR9.2.1 T9 Sn sv r9 d9 := ⟨_, _, _, ho39⟩
  clear ho39
  refine n_iadd (x := 0) (y := 1) dL_stock_70 ?_
  refine v_aload_n dL_stock_71 rfl ?_
  refine v_iconst (v := nI 2) dL_stock_72 (by decide) ?_
  refine v_iconst (v := nI 0) dL_stock_73 (by decide) ?_
  refine v_iconst (v := nI 1) dL_stock_74 (by decide) ?_
  refine v_iconst (v := nI 2) dL_stock_75 (by decide) ?_
  obtain ⟨B41, hB41, t41⟩ := o_book (l := l) sG9 hp39 (x := nI 2) (y := nI 0) (z := nI 1) (w := nI 2)
  rw [show dBook sR9.2.1 (nI 2) (nI 0) (nI 1) (nI 2) = sR10 from rfl] at t41
  refine v_callV (st := [.int (nI (0 + 1)), .int (nI (((((((0 + 1) + 2) + 0) + 1) + 2) + 3) + 1))]) dL_stock_76 t41 wL_53 hp39.he rfl rfl ⟨Nat.le_of_ble_eq_true rfl, Nat.le_of_ble_eq_true rfl⟩ (Nat.le_of_ble_eq_true rfl) ⟨by omega, by omega⟩ (fun r n2 h2 hq => ?_)
  obtain ⟨rfl, hn9, ho41, sa41⟩ := oc_of hp39 hq; replace hn9 := hn9.symm; subst hn9
  refine v_st (st2 := [.int (nI 2), .int (nI (0 + 1)), .int (nI (((((((0 + 1) + 2) + 0) + 1) + 2) + 3) + 1))]) (by rw [sV10]; rfl) ?_
  have fr42 : frP (fun z => z < u ∨ u + 250 ≤ z) _ _ := fun z (hz : z < u ∨ u + 250 ≤ z) => (sa41 z (by omega)).trans (fr40 z hz)
  obtain ⟨T41, r41, d41, hp41⟩ : ∃ (T9 : Hs) (r9 d9 : Int32), oP G u n _ a LN sR10.2.1 T9 Sn sv r9 d9 := ⟨_, _, _, ho41⟩
  clear ho41
  refine n_iadd (x := 0 + 1) (y := 2) dL_stock_79 ?_
  refine v_aload_n dL_stock_80 rfl ?_
  refine v_iconst (v := nI 2) dL_stock_81 (by decide) ?_
  refine v_iconst (v := nI 0) dL_stock_82 (by decide) ?_
  refine v_iconst (v := nI 0) dL_stock_83 (by decide) ?_
  refine v_iconst (v := nI 5) dL_stock_84 (by decide) ?_
  obtain ⟨B43, hB43, t43⟩ := o_book (l := l) sG10 hp41 (x := nI 2) (y := nI 0) (z := nI 0) (w := nI 5)
  rw [show dBook sR10.2.1 (nI 2) (nI 0) (nI 0) (nI 5) = sR11 from rfl] at t43
  refine v_callV (st := [.int (nI ((0 + 1) + 2)), .int (nI (((((((0 + 1) + 2) + 0) + 1) + 2) + 3) + 1))]) dL_stock_85 t43 wL_53 hp41.he rfl rfl ⟨Nat.le_of_ble_eq_true rfl, Nat.le_of_ble_eq_true rfl⟩ (Nat.le_of_ble_eq_true rfl) ⟨by omega, by omega⟩ (fun r n2 h2 hq => ?_)
  obtain ⟨rfl, hn9, ho43, sa43⟩ := oc_of hp41 hq; replace hn9 := hn9.symm; subst hn9
  refine v_st (st2 := [.int (nI 3), .int (nI ((0 + 1) + 2)), .int (nI (((((((0 + 1) + 2) + 0) + 1) + 2) + 3) + 1))]) (by rw [sV11]; rfl) ?_
  have fr44 : frP (fun z => z < u ∨ u + 250 ≤ z) _ _ := fun z (hz : z < u ∨ u + 250 ≤ z) => (sa43 z (by omega)).trans (fr42 z hz)
  obtain ⟨T43, r43, d43, hp43⟩ : ∃ (T9 : Hs) (r9 d9 : Int32), oP G u n _ a LN sR11.2.1 T9 Sn sv r9 d9 := ⟨_, _, _, ho43⟩
  clear ho43
  refine n_iadd (x := (0 + 1) + 2) (y := 3) dL_stock_88 ?_
  refine v_aload_n dL_stock_89 rfl ?_
  refine v_iconst (v := nI 3) dL_stock_90 (by decide) ?_
  refine v_iconst (v := nI 1) dL_stock_91 (by decide) ?_
  obtain ⟨B45, hB45, t45⟩ := o_exempt (l := l) sG11 hp43 (x := nI 3) (y := nI 1)
  rw [show dExe sR11.2.1 (nI 3) (nI 1) = sR12 from rfl] at t45
  refine v_callV (st := [.int (nI (((0 + 1) + 2) + 3)), .int (nI (((((((0 + 1) + 2) + 0) + 1) + 2) + 3) + 1))]) dL_stock_92 t45 wL_65 hp43.he rfl rfl ⟨Nat.le_of_ble_eq_true rfl, Nat.le_of_ble_eq_true rfl⟩ (Nat.le_of_ble_eq_true rfl) ⟨by omega, by omega⟩ (fun r n2 h2 hq => ?_)
  obtain ⟨rfl, hn9, ho45, sa45⟩ := oc_of hp43 hq; replace hn9 := hn9.symm; subst hn9
  refine v_st (st2 := [.int (nI 1), .int (nI (((0 + 1) + 2) + 3)), .int (nI (((((((0 + 1) + 2) + 0) + 1) + 2) + 3) + 1))]) (by rw [sV12]; rfl) ?_
  have fr46 : frP (fun z => z < u ∨ u + 250 ≤ z) _ _ := fun z (hz : z < u ∨ u + 250 ≤ z) => (sa45 z (by omega)).trans (fr44 z hz)
  obtain ⟨T45, r45, d45, hp45⟩ : ∃ (T9 : Hs) (r9 d9 : Int32), oP G u n _ a LN sR12.2.1 T9 Sn sv r9 d9 := ⟨_, _, _, ho45⟩
  clear ho45
  refine n_iadd (x := ((0 + 1) + 2) + 3) (y := 1) dL_stock_95 ?_
  refine n_iadd (x := ((((((0 + 1) + 2) + 0) + 1) + 2) + 3) + 1) (y := (((0 + 1) + 2) + 3) + 1) dL_stock_96 ?_
  refine v_istore_n dL_stock_97 rfl (by decide) ?_
  refine v_ls (ls2 := [some (.ref u), some (.int (nI ((((((((0 + 1) + 2) + 0) + 1) + 2) + 3) + 1) + ((((0 + 1) + 2) + 3) + 1))))]) rfl ?_
  refine v_iload_n dL_stock_98 rfl ?_
  refine v_aload_n dL_stock_99 rfl ?_
  obtain ⟨B47, hB47, t47⟩ := o_next (l := l) sG12 hp45
  rw [show dNext sR12.2.1 = sR13 from rfl] at t47
  refine v_callV (st := [.int (nI ((((((((0 + 1) + 2) + 0) + 1) + 2) + 3) + 1) + ((((0 + 1) + 2) + 3) + 1)))]) dL_stock_100 t47 wL_57 hp45.he rfl rfl ⟨Nat.le_of_ble_eq_true rfl, Nat.le_of_ble_eq_true rfl⟩ (Nat.le_of_ble_eq_true rfl) ⟨by omega, by omega⟩ (fun r n2 h2 hq => ?_)
  obtain ⟨rfl, hn9, ho47, sa47⟩ := oc_of hp45 hq; replace hn9 := hn9.symm; subst hn9
  refine v_st (st2 := [.int (nI 16), .int (nI ((((((((0 + 1) + 2) + 0) + 1) + 2) + 3) + 1) + ((((0 + 1) + 2) + 3) + 1)))]) (by rw [sV13]; rfl) ?_
  have fr48 : frP (fun z => z < u ∨ u + 250 ≤ z) _ _ := fun z (hz : z < u ∨ u + 250 ≤ z) => (sa47 z (by omega)).trans (fr46 z hz)
  obtain ⟨T47, r47, d47, hp47⟩ : ∃ (T9 : Hs) (r9 d9 : Int32), oP G u n _ a LN sR13.2.1 T9 Sn sv r9 d9 := ⟨_, _, _, ho47⟩
  clear ho47
  refine n_iadd (x := (((((((0 + 1) + 2) + 0) + 1) + 2) + 3) + 1) + ((((0 + 1) + 2) + 3) + 1)) (y := 16) dL_stock_103 ?_
  refine v_aload_n dL_stock_104 rfl ?_
  obtain ⟨B49, hB49, t49⟩ := o_next (l := l) sG13 hp47
  rw [show dNext sR13.2.1 = sR14 from rfl] at t49
  refine v_callV (st := [.int (nI (((((((((0 + 1) + 2) + 0) + 1) + 2) + 3) + 1) + ((((0 + 1) + 2) + 3) + 1)) + 16))]) dL_stock_105 t49 wL_57 hp47.he rfl rfl ⟨Nat.le_of_ble_eq_true rfl, Nat.le_of_ble_eq_true rfl⟩ (Nat.le_of_ble_eq_true rfl) ⟨by omega, by omega⟩ (fun r n2 h2 hq => ?_)
  obtain ⟨rfl, hn9, ho49, sa49⟩ := oc_of hp47 hq; replace hn9 := hn9.symm; subst hn9
  refine v_st (st2 := [.int (nI 3), .int (nI (((((((((0 + 1) + 2) + 0) + 1) + 2) + 3) + 1) + ((((0 + 1) + 2) + 3) + 1)) + 16))]) (by rw [sV14]; rfl) ?_
  have fr50 : frP (fun z => z < u ∨ u + 250 ≤ z) _ _ := fun z (hz : z < u ∨ u + 250 ≤ z) => (sa49 z (by omega)).trans (fr48 z hz)
  obtain ⟨T49, r49, d49, hp49⟩ : ∃ (T9 : Hs) (r9 d9 : Int32), oP G u n _ a LN sR14.2.1 T9 Sn sv r9 d9 := ⟨_, _, _, ho49⟩
  clear ho49
  refine n_iadd (x := ((((((((0 + 1) + 2) + 0) + 1) + 2) + 3) + 1) + ((((0 + 1) + 2) + 3) + 1)) + 16) (y := 3) dL_stock_108 ?_
  refine v_aload_n dL_stock_109 rfl ?_
  refine v_iconst (v := nI 1) dL_stock_110 (by decide) ?_
  obtain ⟨B51, hB51, t51⟩ := o_pass (l := l) sG14 hp49 (x := nI 1)
  rw [show dPass sR14.2.1 (nI 1) = sR15 from rfl] at t51
  refine v_callV (st := [.int (nI ((((((((((0 + 1) + 2) + 0) + 1) + 2) + 3) + 1) + ((((0 + 1) + 2) + 3) + 1)) + 16) + 3))]) dL_stock_111 t51 wL_68 hp49.he rfl rfl ⟨Nat.le_of_ble_eq_true rfl, Nat.le_of_ble_eq_true rfl⟩ (Nat.le_of_ble_eq_true rfl) ⟨by omega, by omega⟩ (fun r n2 h2 hq => ?_)
  obtain ⟨rfl, hn9, ho51, sa51⟩ := oc_of hp49 hq; replace hn9 := hn9.symm; subst hn9
  refine v_st (st2 := [.int (nI 0), .int (nI ((((((((((0 + 1) + 2) + 0) + 1) + 2) + 3) + 1) + ((((0 + 1) + 2) + 3) + 1)) + 16) + 3))]) (by rw [sV15]; rfl) ?_
  have fr52 : frP (fun z => z < u ∨ u + 250 ≤ z) _ _ := fun z (hz : z < u ∨ u + 250 ≤ z) => (sa51 z (by omega)).trans (fr50 z hz)
  obtain ⟨T51, r51, d51, hp51⟩ : ∃ (T9 : Hs) (r9 d9 : Int32), oP G u n _ a LN sR15.2.1 T9 Sn sv r9 d9 := ⟨_, _, _, ho51⟩
  clear ho51
  refine n_iadd (x := (((((((((0 + 1) + 2) + 0) + 1) + 2) + 3) + 1) + ((((0 + 1) + 2) + 3) + 1)) + 16) + 3) (y := 0) dL_stock_114 ?_
  refine v_iret dL_stock_115 rfl ?_ (by omega) (by omega)
  exact ⟨rfl, rfl, _, _, _, hp51, fr52⟩
