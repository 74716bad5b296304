def cSU (own : String) (index : Nat) (M2 : vM) (k : Nat) : Prop := Cond.methodLink own index M2.1 ∈ gw ∧ Cond.sameMethod M2.1.cls M2.1.cls M2.1.name M2.1.desc ∈ gw ∧ Cond.superclass own M2.1.cls ∈ gw ∧ Cond.instanceMethod M2.1 ∈ gw ∧ Cond.initialized M2.1.cls ∈ gw ∧ Cond.code M2.1 M2.2.1 M2.2.2.1 M2.2.2.2.1 ∈ gw ∧ M2.1.name ≠ "<init>" ∧ (parseMethodDescriptor M2.1.desc).map (fun d => d.parameters.length) = some k
def cU (own : String) (index : Nat) (M2 : vM) (C : String) (k : Nat) : Prop := Cond.methodLink own index M2.1 ∈ gw ∧ Cond.sameMethod M2.1.cls M2.1.cls M2.1.name M2.1.desc ∈ gw ∧ Cond.selects C M2.1 M2.1 ∈ gw ∧ Cond.instanceMethod M2.1 ∈ gw ∧ Cond.initialized M2.1.cls ∈ gw ∧ Cond.code M2.1 M2.2.1 M2.2.2.1 M2.2.2.2.1 ∈ gw ∧ (M2.1.cls ≠ "java/lang/invoke/MethodHandle" ∧ M2.1.cls ≠ "java/lang/invoke/VarHandle" ∧ (parseMethodDescriptor M2.1.desc).map (fun d => d.parameters.length) = some k)
theorem v_callSU {l : Launch} {G : vG} {M : vM} {rc rs : Nat} {Fz : vFin} {pc : Nat} {ls : List (Option Value)} {st : List Value} {n : Nat} {h : AH} {cells slots : Nat} {M2 : vM} {index mc ms : Nat} {As : List Value} {st0 : List Value} {Q2 : Option Value → Nat → AH → Prop} {b ci N : Nat} {fs : List Value} {T : u_T} {C0 : String} (hd : decode M.2.1 pc = .ok (.invokespecial index, 3)) (hM : Mt l G M2 (.ref b :: As) n h mc ms Q2) (hw : cSU M.1.cls index M2 As.length) (he : h b = some (.inr (ci, fs))) (hc : vwCl[ci]? = some (C0, T, N)) (hs0 : st0 = As.reverse ++ .ref b :: st) (hR : M2.2.2.2.2.1 + 1 ≤ M.2.2.2.2.1 ∧ 8 + (M2.2.2.1 + 11) + M2.2.2.2.2.2 ≤ M.2.2.2.2.2) (hst : (st.map fun v => v.category).sum ≤ 8) (hf : cells + mc ≤ rc ∧ slots + ms ≤ rs) (kk : ∀ (r : Option Value) (n2 : Nat) (h2 : AH), Q2 r n2 h2 → V l G M rc rs Fz (pc + 3) ls (r.toList ++ st) n2 h2 (cells + mc) (slots + ms)) : V l G M rc rs Fz pc ls (st0) n h cells slots := by
  intro p e s m args below meth c H locs lsA d0 hx hb hr hml hts hown hlk hnm hd0 hC hS hbs hP hl
  subst hs0
  obtain ⟨w1, w2, w3, w4, w5, w6, w7, w8⟩ := hw
  have hat : ClassAt (s.setDrawn d0) C0 ((gD G).1 ci) := (hC.1.1 ci _ hc).2
  exact px_callD hd0 (va_runSU_D (C := C0) (As := As) (rest := st) hat ⟨hx, hb, hml, hown, dr_words hts d0⟩ hM (va_cwSU As.length (dr_words hts d0) (gw_in (fun w hw => by
    simp only [va_wsSU, List.cons_append, List.nil_append, List.mem_cons] at hw
    rcases hw with rfl | rfl | rfl | rfl | rfl | hw
    · exact w1
    · exact w2
    · exact w3
    · exact w4
    · exact w5
    · exact gw_mW w6 w hw)) rfl rfl rfl ⟨w7, w8⟩ hR) ⟨pcM.blind, va_recv (s := s.setDrawn d0) (D := gD G) (cl := vwCl) (tys := gT G) hC.1 (hP.one he) (q0 := 0) hc rfl, fun U hU hW => ⟨rfl, by rw [hU]; exact cx.warm hW (cx.same (u := s) rfl (hC.kept hS.2.1)), by rw [hU]; exact Nat.le_trans hbs hS.1, by rw [hU]; exact hP⟩⟩ rfl rfl hl.1 rfl (lv_room hst) hd hf) hS (fun r n2 h2 H1 locs1 d1 hd1 hQ hP1 hS1 => kk r n2 h2 hQ p e s m args below meth c _ _ lsA d1 hx hb hr hml hts hown hlk hnm hd1 hC hS1 hbs hP1 hl)
theorem v_callU {l : Launch} {G : vG} {M : vM} {rc rs : Nat} {Fz : vFin} {pc : Nat} {ls : List (Option Value)} {st : List Value} {n : Nat} {h : AH} {cells slots : Nat} {M2 : vM} {index mc ms : Nat} {As : List Value} {st0 : List Value} {Q2 : Option Value → Nat → AH → Prop} {b ci N : Nat} {fs : List Value} {T : u_T} {C0 : String} (hd : decode M.2.1 pc = .ok (.invokevirtual index, 3)) (hM : Mt l G M2 (.ref b :: As) n h mc ms Q2) (hw : cU M.1.cls index M2 C0 As.length) (he : h b = some (.inr (ci, fs))) (hc : vwCl[ci]? = some (C0, T, N)) (hs0 : st0 = As.reverse ++ .ref b :: st) (hR : M2.2.2.2.2.1 + 1 ≤ M.2.2.2.2.1 ∧ 8 + (M2.2.2.1 + 11) + M2.2.2.2.2.2 ≤ M.2.2.2.2.2) (hst : (st.map fun v => v.category).sum ≤ 8) (hf : cells + mc ≤ rc ∧ slots + ms ≤ rs) (kk : ∀ (r : Option Value) (n2 : Nat) (h2 : AH), Q2 r n2 h2 → V l G M rc rs Fz (pc + 3) ls (r.toList ++ st) n2 h2 (cells + mc) (slots + ms)) : V l G M rc rs Fz pc ls (st0) n h cells slots := by
  intro p e s m args below meth c H locs lsA d0 hx hb hr hml hts hown hlk hnm hd0 hC hS hbs hP hl
  subst hs0
  obtain ⟨w1, w2, w3, w4, w5, w6, w7⟩ := hw
  exact px_callD hd0 (va_runU_D (C := C0) (owner := M2.1.cls) (x := M2.1) (As := As) (rest := st) ⟨hx, hb, hml, hown, dr_words hts d0⟩ hM (va_cwU As.length (dr_words hts d0) (gw_in (fun w hw => by
    simp only [va_wsU, List.cons_append, List.nil_append, List.mem_cons] at hw
    rcases hw with rfl | rfl | rfl | rfl | rfl | hw
    · exact w1
    · exact w2
    · exact w3
    · exact w4
    · exact w5
    · exact gw_mW w6 w hw)) rfl rfl rfl rfl w7 hR) ⟨pcM.blind, va_recv (s := s.setDrawn d0) (D := gD G) (cl := vwCl) (tys := gT G) hC.1 (hP.one he) (q0 := 0) hc rfl, fun U hU hW => ⟨rfl, by rw [hU]; exact cx.warm hW (cx.same (u := s) rfl (hC.kept hS.2.1)), by rw [hU]; exact Nat.le_trans hbs hS.1, by rw [hU]; exact hP⟩⟩ rfl rfl hl.1 rfl (lv_room hst) hd hf) hS (fun r n2 h2 H1 locs1 d1 hd1 hQ hP1 hS1 => kk r n2 h2 hQ p e s m args below meth c _ _ lsA d1 hx hb hr hml hts hown hlk hnm hd1 hC hS1 hbs hP1 hl)
theorem v_gsC {l : Launch} {G : vG} {M : vM} {rc rs : Nat} {Fz : vFin} {pc : Nat} {ls : List (Option Value)} {st : List Value} {n : Nat} {h : AH} {cells slots : Nat} {index : Nat} (hd : decode M.2.1 pc = .ok (.getstatic index, 3)) (hlk9 : Cond.fieldLink M.1.cls index "java/lang/String" "COMPACT_STRINGS" "Z" ∈ gw) (kk : V l G M rc rs Fz (pc + 3) ls (.int 1 :: st) n h cells slots) : V l G M rc rs Fz pc ls (st) n h cells slots := by
  intro p e s m args below meth c H locs lsA d0 hx hb hr hml hts hown hlk hnm hd0 hC hS hbs hP hl
  have hZ : va_Z "java/lang/String" "COMPACT_STRINGS" "Z" (.int 1) (gU G) s s.heap := hC.2.2.2.1
  exact va_gets (s := s.setDrawn d0) hx hb (hZ.moved (Vm.Alike.refl _)) hS hown (dr_words hts d0 _ hlk9) (fun _ h => h) hd (kk p e s m args below meth c H locs lsA d0 hx hb hr hml hts hown hlk hnm hd0 hC hS hbs hP hl)
theorem v_gs1 {l : Launch} {G : vG} {M : vM} {rc rs : Nat} {Fz : vFin} {pc : Nat} {ls : List (Option Value)} {st : List Value} {n : Nat} {h : AH} {cells slots : Nat} {index : Nat} (hd : decode M.2.1 pc = .ok (.getstatic index, 3)) (hlk9 : Cond.fieldLink M.1.cls index "java/lang/Integer" "DigitOnes" "[B" ∈ gw) (kk : V l G M rc rs Fz (pc + 3) ls (.ref (gA G 2 0) :: st) n h cells slots) : V l G M rc rs Fz pc ls (st) n h cells slots := by
  intro p e s m args below meth c H locs lsA d0 hx hb hr hml hts hown hlk hnm hd0 hC hS hbs hP hl
  have hZ : va_Z "java/lang/Integer" "DigitOnes" "[B" (.ref (gA G 2 0)) (gU G) s s.heap := hC.2.2.2.2.2.1
  exact va_gets (s := s.setDrawn d0) hx hb (hZ.moved (Vm.Alike.refl _)) hS hown (dr_words hts d0 _ hlk9) (fun _ h => h) hd (kk p e s m args below meth c H locs lsA d0 hx hb hr hml hts hown hlk hnm hd0 hC hS hbs hP hl)
theorem v_gsT {l : Launch} {G : vG} {M : vM} {rc rs : Nat} {Fz : vFin} {pc : Nat} {ls : List (Option Value)} {st : List Value} {n : Nat} {h : AH} {cells slots : Nat} {index : Nat} (hd : decode M.2.1 pc = .ok (.getstatic index, 3)) (hlk9 : Cond.fieldLink M.1.cls index "java/lang/Integer" "DigitTens" "[B" ∈ gw) (kk : V l G M rc rs Fz (pc + 3) ls (.ref (gA G 2 1) :: st) n h cells slots) : V l G M rc rs Fz pc ls (st) n h cells slots := by
  intro p e s m args below meth c H locs lsA d0 hx hb hr hml hts hown hlk hnm hd0 hC hS hbs hP hl
  have hZ : va_Z "java/lang/Integer" "DigitTens" "[B" (.ref (gA G 2 1)) (gU G) s s.heap := hC.2.2.2.2.2.2.2.1
  exact va_gets (s := s.setDrawn d0) hx hb (hZ.moved (Vm.Alike.refl _)) hS hown (dr_words hts d0 _ hlk9) (fun _ h => h) hd (kk p e s m args below meth c H locs lsA d0 hx hb hr hml hts hown hlk hnm hd0 hC hS hbs hP hl)
theorem v_gsF {l : Launch} {G : vG} {M : vM} {rc rs : Nat} {Fz : vFin} {pc : Nat} {ls : List (Option Value)} {st : List Value} {n : Nat} {h : AH} {cells slots : Nat} {index : Nat} (hd : decode M.2.1 pc = .ok (.getstatic index, 3)) (hlk9 : Cond.fieldLink M.1.cls index "jdk/internal/util/Preconditions" "SIOOBE_FORMATTER" "Ljava/util/function/BiFunction;" ∈ gw) (kk : ∀ z : Value, (z = .null ∨ ∃ t, z = .ref t) → V l G M rc rs Fz (pc + 3) ls (z :: st) n h cells slots) : V l G M rc rs Fz pc ls (st) n h cells slots := by
  intro p e s m args below meth c H locs lsA d0 hx hb hr hml hts hown hlk hnm hd0 hC hS hbs hP hl
  have hZ : va_Zq "jdk/internal/util/Preconditions" "SIOOBE_FORMATTER" "Ljava/util/function/BiFunction;" (gU G) s s.heap := hC.2.2.2.2.1
  rcases hZ with hZ | ⟨t, hZ⟩
  · exact va_gets (s := s.setDrawn d0) hx hb (hZ.moved (Vm.Alike.refl _)) hS hown (dr_words hts d0 _ hlk9) (fun _ h => h) hd (kk _ (Or.inl rfl) p e s m args below meth c H locs lsA d0 hx hb hr hml hts hown hlk hnm hd0 hC hS hbs hP hl)
  · exact va_gets (s := s.setDrawn d0) hx hb (hZ.moved (Vm.Alike.refl _)) hS hown (dr_words hts d0 _ hlk9) (fun _ h => h) hd (kk _ (Or.inr ⟨t, rfl⟩) p e s m args below meth c H locs lsA d0 hx hb hr hml hts hown hlk hnm hd0 hC hS hbs hP hl)
theorem v_t1 {l : Launch} {G : vG} {M : vM} {rc rs : Nat} {Fz : vFin} {pc : Nat} {ls : List (Option Value)} {st : List Value} {n : Nat} {h : AH} {cells slots : Nat} {j : Nat} (hd : decode M.2.1 pc = .ok (.baload, 1)) (hj : j < 100) (kk : V l G M rc rs Fz (pc + 1) ls (dg_one j :: st) n h cells slots) : V l G M rc rs Fz pc ls (.int (nI j) :: .ref (gA G 2 0) :: st) n h cells slots := by
  intro p e s m args below meth c H locs lsA d0 hx hb hr hml hts hown hlk hnm hd0 hC hS hbs hP hl
  have hT : va_T .byte (gA G 2 0) 100 dg_one (gU G) s s.heap := hC.2.2.2.2.2.2.1
  exact va_tb (s := s.setDrawn d0) hx hb (hT.moved (Vm.Alike.refl _)) hS (vp_in_nI hj (by decide)) (by rw [nI_clamp (Nat.lt_trans hj (by decide))]) hd (kk p e s m args below meth c H locs lsA d0 hx hb hr hml hts hown hlk hnm hd0 hC hS hbs hP hl)
theorem v_tT {l : Launch} {G : vG} {M : vM} {rc rs : Nat} {Fz : vFin} {pc : Nat} {ls : List (Option Value)} {st : List Value} {n : Nat} {h : AH} {cells slots : Nat} {j : Nat} (hd : decode M.2.1 pc = .ok (.baload, 1)) (hj : j < 100) (kk : V l G M rc rs Fz (pc + 1) ls (dg_ten j :: st) n h cells slots) : V l G M rc rs Fz pc ls (.int (nI j) :: .ref (gA G 2 1) :: st) n h cells slots := by
  intro p e s m args below meth c H locs lsA d0 hx hb hr hml hts hown hlk hnm hd0 hC hS hbs hP hl
  have hT : va_T .byte (gA G 2 1) 100 dg_ten (gU G) s s.heap := hC.2.2.2.2.2.2.2.2.1
  exact va_tb (s := s.setDrawn d0) hx hb (hT.moved (Vm.Alike.refl _)) hS (vp_in_nI hj (by decide)) (by rw [nI_clamp (Nat.lt_trans hj (by decide))]) hd (kk p e s m args below meth c H locs lsA d0 hx hb hr hml hts hown hlk hnm hd0 hC hS hbs hP hl)
theorem v_ldcs {l : Launch} {G : vG} {M : vM} {rc rs : Nat} {Fz : vFin} {pc : Nat} {ls : List (Option Value)} {st : List Value} {n : Nat} {h : AH} {cells slots : Nat} {index i : Nat} (hd : decode M.2.1 pc = .ok (.ldc index, 2)) (hj : i < 3) (hi9 : st_ix.getD i 0 = index) (ho9 : M.1.cls = RL) (kk : V l G M rc rs Fz (pc + 2) ls (.ref (gA G 0 i) :: st) n h cells slots) : V l G M rc rs Fz pc ls (st) n h cells slots := by
  intro p e s m args below meth c H locs lsA d0 hx hb hr hml hts hown hlk hnm hd0 hC hS hbs hP hl
  have hR9 := hC.2.2.2.2.2.2.2.2.2.2.2.1 i hj
  rw [hi9] at hR9
  exact va_ldcS (s := s.setDrawn d0) hx hb (ho9 ▸ hown) (vk_R.same (u := s) rfl hR9) hd (kk p e s m args below meth c H locs lsA d0 hx hb hr hml hts hown hlk hnm hd0 hC hS hbs hP hl)
theorem v_ldci {l : Launch} {G : vG} {M : vM} {rc rs : Nat} {Fz : vFin} {pc : Nat} {ls : List (Option Value)} {st : List Value} {n : Nat} {h : AH} {cells slots : Nat} {index : Nat} {v : Int32} (hd : decode M.2.1 pc = .ok (.ldc index, 2)) (hk9 : Cond.constant M.1.cls index v ∈ gw) (kk : V l G M rc rs Fz (pc + 2) ls (.int v :: st) n h cells slots) : V l G M rc rs Fz pc ls (st) n h cells slots := by
  intro p e s m args below meth c H locs lsA d0 hx hb hr hml hts hown hlk hnm hd0 hC hS hbs hP hl
  exact lv_ldc (s := s.setDrawn d0) hx hb hown (dr_words hts d0 _ hk9) hd (kk p e s m args below meth c H locs lsA d0 hx hb hr hml hts hown hlk hnm hd0 hC hS hbs hP hl)
theorem v_scod {l : Launch} {G : vG} {M : vM} {rc rs : Nat} {Fz : vFin} {pc : Nat} {ls : List (Option Value)} {st : List Value} {n : Nat} {h : AH} {cells slots : Nat} {index i : Nat} (hd : decode M.2.1 pc = .ok (.getfield index, 3)) (hi : i < 3) (hlk9 : Cond.fieldLink M.1.cls index "java/lang/String" "coder" "B" ∈ gw) (kk : V l G M rc rs Fz (pc + 3) ls (.int 0 :: st) n h cells slots) : V l G M rc rs Fz pc ls (.ref (gA G 0 i) :: st) n h cells slots := by
  intro p e s m args below meth c H locs lsA d0 hx hb hr hml hts hown hlk hnm hd0 hC hS hbs hP hl
  have hE := (hC.2.2.2.2.2.2.2.2.2.2.1.1 i hi).2.1
  exact vk_getf (s := s.setDrawn d0) hx hb (hE.moved (Vm.Alike.refl _)) hS hown (dr_words hts d0 _ hlk9) (fun _ h => h) hd (kk p e s m args below meth c H locs lsA d0 hx hb hr hml hts hown hlk hnm hd0 hC hS hbs hP hl)
theorem v_sval {l : Launch} {G : vG} {M : vM} {rc rs : Nat} {Fz : vFin} {pc : Nat} {ls : List (Option Value)} {st : List Value} {n : Nat} {h : AH} {cells slots : Nat} {index i : Nat} (hd : decode M.2.1 pc = .ok (.getfield index, 3)) (hi : i < 3) (hlk9 : Cond.fieldLink M.1.cls index "java/lang/String" "value" "[B" ∈ gw) (kk : V l G M rc rs Fz (pc + 3) ls (.ref (gA G 1 i) :: st) n h cells slots) : V l G M rc rs Fz pc ls (.ref (gA G 0 i) :: st) n h cells slots := by
  intro p e s m args below meth c H locs lsA d0 hx hb hr hml hts hown hlk hnm hd0 hC hS hbs hP hl
  have hE := (hC.2.2.2.2.2.2.2.2.2.2.1.1 i hi).2.2.1
  exact vk_getf (s := s.setDrawn d0) hx hb (hE.moved (Vm.Alike.refl _)) hS hown (dr_words hts d0 _ hlk9) (fun _ h => h) hd (kk p e s m args below meth c H locs lsA d0 hx hb hr hml hts hown hlk hnm hd0 hC hS hbs hP hl)
theorem v_slen {l : Launch} {G : vG} {M : vM} {rc rs : Nat} {Fz : vFin} {pc : Nat} {ls : List (Option Value)} {st : List Value} {n : Nat} {h : AH} {cells slots : Nat} {i : Nat} (hd : decode M.2.1 pc = .ok (.arraylength, 1)) (hi : i < 3) (kk : V l G M rc rs Fz (pc + 1) ls (.int (nI (st_len.getD i 0)) :: st) n h cells slots) : V l G M rc rs Fz pc ls (.ref (gA G 1 i) :: st) n h cells slots := by
  intro p e s m args below meth c H locs lsA d0 hx hb hr hml hts hown hlk hnm hd0 hC hS hbs hP hl
  have hT := (hC.2.2.2.2.2.2.2.2.2.2.1.1 i hi).2.2.2
  exact va_tlen (s := s.setDrawn d0) hx hb (hT.moved (Vm.Alike.refl _)) hS rfl hd (kk p e s m args below meth c H locs lsA d0 hx hb hr hml hts hown hlk hnm hd0 hC hS hbs hP hl)
theorem v_sbyt {l : Launch} {G : vG} {M : vM} {rc rs : Nat} {Fz : vFin} {pc : Nat} {ls : List (Option Value)} {st : List Value} {n : Nat} {h : AH} {cells slots : Nat} {i j : Nat} (hd : decode M.2.1 pc = .ok (.baload, 1)) (hi : i < 3) (hj : j < st_len.getD i 0) (hj9 : j < 100) (kk : V l G M rc rs Fz (pc + 1) ls (.int ((st_byt.getD i []).getD j 0) :: st) n h cells slots) : V l G M rc rs Fz pc ls (.int (nI j) :: .ref (gA G 1 i) :: st) n h cells slots := by
  intro p e s m args below meth c H locs lsA d0 hx hb hr hml hts hown hlk hnm hd0 hC hS hbs hP hl
  have hT := (hC.2.2.2.2.2.2.2.2.2.2.1.1 i hi).2.2.2
  exact va_tb (s := s.setDrawn d0) hx hb (hT.moved (Vm.Alike.refl _)) hS (vp_in_nI hj (Nat.lt_trans ((by decide : ∀ i, i < 3 → st_len.getD i 0 < 100) i hi) (by decide))) (by rw [nI_clamp (by omega)]) hd (kk p e s m args below meth c H locs lsA d0 hx hb hr hml hts hown hlk hnm hd0 hC hS hbs hP hl)
theorem v_lt {l : Launch} {G : vG} {M : vM} {rc rs : Nat} {Fz : vFin} {pc : Nat} {ls : List (Option Value)} {st : List Value} {n : Nat} {h : AH} {cells slots : Nat} {a : Nat} {f : va_E} (he : h a = some f) (kk : a < n → V l G M rc rs Fz pc ls (st) n h cells slots) : V l G M rc rs Fz pc ls (st) n h cells slots := by
  intro p e s m args below meth c H locs lsA d0 hx hb hr hml hts hown hlk hnm hd0 hC hS hbs hP hl
  have hz : a < H.size := (hP.2.2 a f he).2.lt
  exact kk (by rw [← hP.1]; exact hz) p e s m args below meth c H locs lsA d0 hx hb hr hml hts hown hlk hnm hd0 hC hS hbs hP hl
theorem v_callT {l : Launch} {G : vG} {M : vM} {rc rs : Nat} {Fz : vFin} {pc : Nat} {ls : List (Option Value)} {st : List Value} {n : Nat} {h : AH} {cells slots : Nat} {M2 : vM} {index mc ms : Nat} {As : List Value} {st0 : List Value} {Q2 : Option Value → Nat → AH → Prop} {i : Nat} (hd : decode M.2.1 pc = .ok (.invokevirtual index, 3)) (hM : Mt l G M2 (.ref (gA G 0 i) :: As) n h mc ms Q2) (hw : cV M.1.cls index M2 As.length) (hi : i < 3) (hcl : M2.1.cls = "java/lang/String") (hs0 : st0 = As.reverse ++ .ref (gA G 0 i) :: st) (hR : M2.2.2.2.2.1 + 1 ≤ M.2.2.2.2.1 ∧ 8 + (M2.2.2.1 + 11) + M2.2.2.2.2.2 ≤ M.2.2.2.2.2) (hst : (st.map fun v => v.category).sum ≤ 8) (hf : cells + mc ≤ rc ∧ slots + ms ≤ rs) (kk : ∀ (r : Option Value) (n2 : Nat) (h2 : AH), Q2 r n2 h2 → V l G M rc rs Fz (pc + 3) ls (r.toList ++ st) n2 h2 (cells + mc) (slots + ms)) : V l G M rc rs Fz pc ls (st0) n h cells slots := by
  intro p e s m args below meth c H locs lsA d0 hx hb hr hml hts hown hlk hnm hd0 hC hS hbs hP hl
  subst hs0
  obtain ⟨w1, w2, w3, w4, w5, w6⟩ := hw
  exact px_callD hd0 (va_runV_D (C := M2.1.cls) (As := As) (rest := st) ⟨hx, hb, hml, hown, dr_words hts d0⟩ hM (cwV As.length (dr_words hts d0) (gw_in (fun w hw => by
    simp only [wsV, List.cons_append, List.nil_append, List.mem_cons] at hw
    rcases hw with rfl | rfl | rfl | rfl | hw
    · exact w1
    · exact w2
    · exact w3
    · exact w4
    · exact gw_mW w5 w hw)) rfl rfl rfl ⟨rfl, w6⟩ hR) ⟨pcM.blind, by rw [hcl]; exact vk_recv (s := s.setDrawn d0) (hC.2.2.2.2.2.2.2.2.2.2.1.moved (Vm.Alike.refl _)) hi hS, fun U hU hW => ⟨rfl, by rw [hU]; exact cx.warm hW (cx.same (u := s) rfl (hC.kept hS.2.1)), by rw [hU]; exact Nat.le_trans hbs hS.1, by rw [hU]; exact hP⟩⟩ rfl rfl hl.1 rfl (lv_room hst) hd hf) hS (fun r n2 h2 H1 locs1 d1 hd1 hQ hP1 hS1 => kk r n2 h2 hQ p e s m args below meth c _ _ lsA d1 hx hb hr hml hts hown hlk hnm hd1 hC hS1 hbs hP1 hl)
