theorem v_iushr {l : Launch} {G : vG} {M : vM} {rc rs : Nat} {Fz : vFin} {pc : Nat} {ls : List (Option Value)} {st : List Value} {n : Nat} {h : AH} {cells slots : Nat} {x y v : Int32} (hd : decode M.2.1 pc = .ok (.iushr, 1)) (hv : (x.toUInt32 >>> (y.toUInt32 &&& Int32.toUInt32 31)).toInt32 = v) (kk : V l G M rc rs Fz (pc + 1) ls (.int v :: st) n h cells slots) : V l G M rc rs Fz pc ls (.int y :: .int x :: st) n h cells slots := by
  intro p e s m args below meth c H locs lsA d0 hx hb hr hml hts hown hlk hnm hd0 hC hS hbs hP hl
  exact lv_iushr hx hb hd hv (kk p e s m args below meth c H locs lsA d0 hx hb hr hml hts hown hlk hnm hd0 hC hS hbs hP hl)
theorem v_fload {l : Launch} {G : vG} {M : vM} {rc rs : Nat} {Fz : vFin} {pc : Nat} {ls : List (Option Value)} {st : List Value} {n : Nat} {h : AH} {cells slots : Nat} {k : Nat} {x : UInt32} (hd : decode M.2.1 pc = .ok (.fload k, 2)) (hv : ls[k]? = some (some (.float x))) (kk : V l G M rc rs Fz (pc + 2) ls (.float x :: st) n h cells slots) : V l G M rc rs Fz pc ls (st) n h cells slots := by
  intro p e s m args below meth c H locs lsA d0 hx hb hr hml hts hown hlk hnm hd0 hC hS hbs hP hl
  exact lv_fload hx hb hd (hl.2.2 _ _ hv) (kk p e s m args below meth c H locs lsA d0 hx hb hr hml hts hown hlk hnm hd0 hC hS hbs hP hl)
theorem v_fstore {l : Launch} {G : vG} {M : vM} {rc rs : Nat} {Fz : vFin} {pc : Nat} {ls : List (Option Value)} {st : List Value} {n : Nat} {h : AH} {cells slots : Nat} {k : Nat} {x : UInt32} (hd : decode M.2.1 pc = .ok (.fstore k, 2)) (h1 : l1 ls = true) (hn : k < M.2.2.1) (kk : V l G M rc rs Fz (pc + 2) (ls.set k (some (.float x))) (st) n h cells slots) : V l G M rc rs Fz pc ls (.float x :: st) n h cells slots := by
  intro p e s m args below meth c H locs lsA d0 hx hb hr hml hts hown hlk hnm hd0 hC hS hbs hP hl
  exact lv_fstore hx hb hd hl.has hn rfl (fun ls2 hB => kk p e s m args below meth c H locs _ d0 hx hb hr hml hts hown hlk hnm hd0 hC hS hbs hP (lok.put h1 hB))
theorem v_fcmp {l : Launch} {G : vG} {M : vM} {rc rs : Nat} {Fz : vFin} {pc : Nat} {ls : List (Option Value)} {st : List Value} {n : Nat} {h : AH} {cells slots : Nat} {x y : UInt32} {op : CmpOp} (hd : decode M.2.1 pc = .ok (.fcmp op, 1)) (kk : V l G M rc rs Fz (pc + 1) ls (.int (Op.cmpValue (FP.fcmp x y) op) :: st) n h cells slots) : V l G M rc rs Fz pc ls (.float y :: .float x :: st) n h cells slots := by
  intro p e s m args below meth c H locs lsA d0 hx hb hr hml hts hown hlk hnm hd0 hC hS hbs hP hl
  exact lv_fcmp hx hb hd (kk p e s m args below meth c H locs lsA d0 hx hb hr hml hts hown hlk hnm hd0 hC hS hbs hP hl)
theorem v_null {l : Launch} {G : vG} {M : vM} {rc rs : Nat} {Fz : vFin} {pc : Nat} {ls : List (Option Value)} {st : List Value} {n : Nat} {h : AH} {cells slots : Nat} (hd : decode M.2.1 pc = .ok (.aconst_null, 1)) (kk : V l G M rc rs Fz (pc + 1) ls (.null :: st) n h cells slots) : V l G M rc rs Fz pc ls (st) n h cells slots := by
  intro p e s m args below meth c H locs lsA d0 hx hb hr hml hts hown hlk hnm hd0 hC hS hbs hP hl
  exact lv_null hx hb hd (kk p e s m args below meth c H locs lsA d0 hx hb hr hml hts hown hlk hnm hd0 hC hS hbs hP hl)
theorem v_ifnn {l : Launch} {G : vG} {M : vM} {rc rs : Nat} {Fz : vFin} {pc : Nat} {ls : List (Option Value)} {st : List Value} {n : Nat} {h : AH} {cells slots : Nat} {x : Nat} {off : Int} {tgt : Nat} (hd : decode M.2.1 pc = .ok (.ifnonnull off, 3)) (ht : (pc : Int) + off = (tgt : Int)) (kk : V l G M rc rs Fz tgt ls (st) n h cells slots) : V l G M rc rs Fz pc ls (.ref x :: st) n h cells slots := by
  intro p e s m args below meth c H locs lsA d0 hx hb hr hml hts hown hlk hnm hd0 hC hS hbs hP hl
  exact lv_ifnonnull hx hb hd ht (kk p e s m args below meth c H locs lsA d0 hx hb hr hml hts hown hlk hnm hd0 hC hS hbs hP hl)
theorem v_acmp_ne {l : Launch} {G : vG} {M : vM} {rc rs : Nat} {Fz : vFin} {pc : Nat} {ls : List (Option Value)} {st : List Value} {n : Nat} {h : AH} {cells slots : Nat} {x y : Nat} {off : Int} {tgt : Nat} (hd : decode M.2.1 pc = .ok (.if_acmp .ne off, 3)) (ht : (pc : Int) + off = (tgt : Int)) (kt : ¬ x = y → V l G M rc rs Fz tgt ls (st) n h cells slots) (kf : x = y → V l G M rc rs Fz (pc + 3) ls (st) n h cells slots) : V l G M rc rs Fz pc ls (.ref y :: .ref x :: st) n h cells slots := by
  intro p e s m args below meth c H locs lsA d0 hx hb hr hml hts hown hlk hnm hd0 hC hS hbs hP hl
  exact lv_acmp_ne (rx := some x) (ry := some y) hx hb hd ht (fun z => kt (fun q => z (by rw [q])) p e s m args below meth c H locs lsA d0 hx hb hr hml hts hown hlk hnm hd0 hC hS hbs hP hl) (fun z => kf (Option.some.inj z) p e s m args below meth c H locs lsA d0 hx hb hr hml hts hown hlk hnm hd0 hC hS hbs hP hl)
theorem v_instT {l : Launch} {G : vG} {M : vM} {rc rs : Nat} {Fz : vFin} {pc : Nat} {ls : List (Option Value)} {st : List Value} {n : Nat} {h : AH} {cells slots : Nat} {index a ci N : Nat} {fs : List Value} {T : u_T} {C0 : String} (hd : decode M.2.1 pc = .ok (.instanceof index, 3)) (hlk9 : Cond.classLink M.1.cls index C0 ∈ gw) (he : h a = some (.inr (ci, fs))) (hc : vwCl[ci]? = some (C0, T, N)) (kk : V l G M rc rs Fz (pc + 3) ls (.int 1 :: st) n h cells slots) : V l G M rc rs Fz pc ls (.ref a :: st) n h cells slots := by
  intro p e s m args below meth c H locs lsA d0 hx hb hr hml hts hown hlk hnm hd0 hC hS hbs hP hl
  have hts2 := dr_words hts d0
  obtain ⟨-, r9, hr9, cell, g1, g2, g3, -⟩ := hP.2.2 _ _ he
  have hcl : ClassAt s C0 ((gD G).1 ci) := (hC.1.1 ci _ hc).2
  have hr2 : r9 = (C0, T, N) := Option.some.inj (hr9.symm.trans hc)
  exact va_instS (s := s.setDrawn d0) hx hb hown (hts2 _ hlk9) (show ClassAt (s.setDrawn d0) C0 ((gD G).1 ci) from hcl) ⟨cell, g1, by rw [g3]; rfl, by rw [g2]; exact hcl.1⟩ hd (kk p e s m args below meth c H locs lsA d0 hx hb hr hml hts hown hlk hnm hd0 hC hS hbs hP hl)
theorem v_castT {l : Launch} {G : vG} {M : vM} {rc rs : Nat} {Fz : vFin} {pc : Nat} {ls : List (Option Value)} {st : List Value} {n : Nat} {h : AH} {cells slots : Nat} {index a ci N : Nat} {fs : List Value} {T : u_T} {C0 : String} (hd : decode M.2.1 pc = .ok (.checkcast index, 3)) (hlk9 : Cond.classLink M.1.cls index C0 ∈ gw) (he : h a = some (.inr (ci, fs))) (hc : vwCl[ci]? = some (C0, T, N)) (kk : V l G M rc rs Fz (pc + 3) ls (.ref a :: st) n h cells slots) : V l G M rc rs Fz pc ls (.ref a :: st) n h cells slots := by
  intro p e s m args below meth c H locs lsA d0 hx hb hr hml hts hown hlk hnm hd0 hC hS hbs hP hl
  have hts2 := dr_words hts d0
  obtain ⟨-, r9, hr9, cell, g1, g2, g3, -⟩ := hP.2.2 _ _ he
  have hcl : ClassAt s C0 ((gD G).1 ci) := (hC.1.1 ci _ hc).2
  have hr2 : r9 = (C0, T, N) := Option.some.inj (hr9.symm.trans hc)
  exact va_castS (s := s.setDrawn d0) hx hb hown (hts2 _ hlk9) (show ClassAt (s.setDrawn d0) C0 ((gD G).1 ci) from hcl) ⟨cell, g1, by rw [g3]; rfl, by rw [g2]; exact hcl.1⟩ hd (kk p e s m args below meth c H locs lsA d0 hx hb hr hml hts hown hlk hnm hd0 hC hS hbs hP hl)
theorem v_castB {l : Launch} {G : vG} {M : vM} {rc rs : Nat} {Fz : vFin} {pc : Nat} {ls : List (Option Value)} {st : List Value} {n : Nat} {h : AH} {cells slots : Nat} {index a : Nat} {x : vp_A} (hd : decode M.2.1 pc = .ok (.checkcast index, 3)) (hlk9 : Cond.classLink M.1.cls index "[B" ∈ gw) (he : h a = some (.inl (gC G 2, x))) (kk : V l G M rc rs Fz (pc + 3) ls (.ref a :: st) n h cells slots) : V l G M rc rs Fz pc ls (.ref a :: st) n h cells slots := by
  intro p e s m args below meth c H locs lsA d0 hx hb hr hml hts hown hlk hnm hd0 hC hS hbs hP hl
  have hts2 := dr_words hts d0
  have hK2 : va_K (gD G) vwCl (gT G) (s.setDrawn d0) := hC.1
  exact va_castA (s := s.setDrawn d0) hx hb hown (hts2 _ hlk9) (hP.one he) 0 rfl (hK2.2 2 _ rfl).2 hd (kk p e s m args below meth c H locs lsA d0 hx hb hr hml hts hown hlk hnm hd0 hC hS hbs hP hl)
theorem cx.cln {G : vG} {s : State} {H : Heap} (h : cx G s H) : va_Nw (.castable "[B" "java/lang/Cloneable") s := h.2.2.2.2.2.2.2.2.2.2.2.2.2
theorem v_clone {l : Launch} {G : vG} {M : vM} {rc rs : Nat} {Fz : vFin} {pc : Nat} {ls : List (Option Value)} {st : List Value} {n : Nat} {h : AH} {cells slots : Nat} {index a k : Nat} {f : Nat → Int32} (hd : decode M.2.1 pc = .ok (.invokevirtual index, 3)) (hlk9 : Cond.methodLink M.1.cls index ⟨"[B", "clone", "()Ljava/lang/Object;"⟩ ∈ gw) (he : h a = some (.inl (gC G 2, k, .inl f))) (hf : sb_Fit f) (hfr : 1 ≤ M.2.2.2.2.1) (hlo : (st.map fun v => v.category).sum + 14 ≤ M.2.2.2.2.2) (hc1 : cells + 1 ≤ rc) (hs1 : slots + k ≤ rs) (kk : ∀ h1 : AH, h1 n = some (.inl (gC G 2, k, .inl f)) → offn 1 n h h1 → V l G M rc rs Fz (pc + 3) ls (.ref n :: st) (n + 1) h1 (cells + 1) (slots + k)) : V l G M rc rs Fz pc ls (.ref a :: st) n h cells slots := by
  intro p e s m args below meth c H locs lsA d0 hx hb hr hml hts hown hlk hnm hd0 hC hS hbs hP hl
  have hts2 := dr_words hts d0
  obtain ⟨hge, hat⟩ := hP.2.2 _ _ he
  have hat2 : H[a]? = some (vp_cell (gC G 2) (k, .inl f)) := hat
  have hK2 : va_K (gD G) vwCl (gT G) (s.setDrawn d0) := hC.1
  have hnmB : (s.setDrawn d0).vm.findClass "[B" = some (gC G 2) := (hK2.2 2 _ rfl).2
  have hcl : va_Nw (.castable "[B" "java/lang/Cloneable") (s.setDrawn d0) := va_Nw.same (u := s) rfl rfl hC.cln
  obtain ⟨c0, t0, f1, f2, f3⟩ := Cond.castable_spec (va_Nw.use (A := args) rfl hcl)
  cases hnmB.symm.trans f1
  have hsz : (vp_cell (gC G 2) (k, .inl f)).slots.size = k := by rw [vp_cell_i]; exact arrV_size _ _ _
  obtain ⟨-, kS, hkS, compS, hkindS⟩ := (hK2.2 2 _ rfl).1 0 (fun _ => .null)
  intro T hT X
  obtain ⟨-, kA, hkA, comp, hkind⟩ := State.isArrayOf_alike X.warmed.alike ((hK2.2 2 _ rfl).1 0 (fun _ => .null))
  obtain ⟨vm', X', step⟩ := X.cloneArray hx hown (hts2 _ hlk9) (hts2 _ q3_174) (hts2 _ q3_175) (hts2 _ q3_176) (hts2 _ q3_177) (a := a) (cell := vp_cell (gC G 2) (k, .inl f)) (by rw [hT]; exact hat2) (fun _ h => by cases h) (fun h => by cases h) hnmB f2 f3
    (fun i v hv => by
      have hi : i < k := by
        have := (Array.getElem?_eq_some_iff.mp hv).1
        rw [hsz] at this
        exact this
      rw [vp_cell_i, arrV_read _ _ hi] at hv
      cases hv
      have hk' : T.vm.classes[gC G 2]? = some kA := hkA
      have h9 : fits .byte (.int (f i)) = true := hf i
      have hcl0 : (vp_cell (gC G 2) (k, .inl f)).cls = gC G 2 := rfl
      rw [hcl0]
      simpa [State.fitsSlot, State.slotType?, hk', hkind] using h9)
    (g := F0 m pc lsA (.ref a :: st)) rfl (by rw [hml]; exact hl.1) rfl (by rw [hb]; exact hd) hfr (by show 2 * 0 + _ + 14 ≤ M.2.2.2.2.2; omega) hc1 (by rw [hsz]; exact hs1) (hloader := Vm.clonesLoader_of_array hkS hkindS)
  rw [show ({ cls := (vp_cell (gC G 2) (k, .inl f)).cls, slots := (vp_cell (gC G 2) (k, .inl f)).slots } : Cell) = vp_cell (gC G 2) (k, .inl f) from rfl, hsz] at X'
  generalize hH1 : H.push (vp_cell (gC G 2) (k, .inl f)) = H1
  have z1 : H1.size = n + 1 := by rw [← hH1, Array.size_push, hP.1]
  have e1 : H1[n]? = some (vp_cell (gC G 2) (k, .inl f)) := by rw [← hH1, ← hP.1, Array.getElem?_push_size]
  have o1 : ∀ q : Nat, q < n → H1[q]? = H[q]? := fun q hq => by rw [← hH1, Array.getElem?_push, if_neg (by rw [hP.1]; exact Nat.ne_of_lt hq)]
  obtain ⟨t2, a1, b1⟩ := kk (va_up h n (some (.inl (gC G 2, k, .inl f)))) (if_pos rfl) (fun x hx => if_neg (by omega)) p e s m args below meth c H1 _ lsA d0 hx hb hr hml hts hown hlk hnm hd0 hC (hS.push (by rw [z1, ← hP.1]; exact Nat.le_succ _) (fun q hq => o1 q (by rw [← hP.1]; exact hq))) hbs (hP.push (show H1[n]? = some (vp_cell _ _) from e1) z1 o1) hl
    ((T.setVm vm').pushCell (vp_cell (gC G 2) (k, .inl f))) (by rw [← hH1, ← hT]; rfl) X'
  refine ⟨t2, step t2 ?_, b1⟩
  rw [show ({ cls := (vp_cell (gC G 2) (k, .inl f)).cls, slots := (vp_cell (gC G 2) (k, .inl f)).slots } : Cell) = vp_cell (gC G 2) (k, .inl f) from rfl, hT, show H.size = n from hP.1]
  exact a1
theorem n_copyD {l : Launch} {G : vG} {M : vM} {rc rs : Nat} {Fz : vFin} {pc : Nat} {ls : List (Option Value)} {st : List Value} {n : Nat} {h : AH} {cells slots : Nat} {index a0 a m k x d : Nat} {f g : Nat → Int32} (hd : decode M.2.1 pc = .ok (.invokestatic index, 3)) (hlink : Cond.methodLink M.1.cls index arraycopyName ∈ gw) (ha0 : h a0 = some (.inl (gC G 2, m, .inl f))) (ha1 : h a = some (.inl (gC G 2, k, .inl g))) (hx : x ≤ m) (hx2 : d + x ≤ k) (hm : m < 2 ^ 30) (hk : k < 2 ^ 30) (hf : sb_Fit f) (hfr : 1 ≤ M.2.2.2.2.1) (hlo : (st.map fun v => v.category).sum + (nativeFrameWords "java/lang/System" "arraycopy" 5 + 11) ≤ M.2.2.2.2.2) (kk : V l G M rc rs Fz (pc + 3) ls st n (va_up h a (some (.inl (gC G 2, k, .inl (va_cpy f g 0 d x))))) cells slots) : V l G M rc rs Fz pc ls (.int (nI x) :: .int (nI d) :: .ref a :: .int (nI 0) :: .ref a0 :: st) n h cells slots := by
  refine v_copy (t := 2) (ty := .byte) hd hlink q2_74 q2_73 q1_13 ha0 ha1 rfl rfl (nI_pos (by decide)) (nI_pos (by omega)) (nI_pos (by omega)) (by rw [nI_clamp (by decide), nI_clamp (by omega)]; omega) (by rw [nI_clamp (by omega), nI_clamp (by omega)]; omega) (fun i _ => hf _) hfr hlo ?_
  rw [nI_clamp (by decide), nI_clamp (by omega), nI_clamp (by omega)]
  exact kk
theorem n_copyK {l : Launch} {G : vG} {M : vM} {rc rs : Nat} {Fz : vFin} {pc : Nat} {ls : List (Option Value)} {st : List Value} {n : Nat} {h : AH} {cells slots : Nat} {index i a k x d : Nat} {g : Nat → Int32} (hd : decode M.2.1 pc = .ok (.invokestatic index, 3)) (hlink : Cond.methodLink M.1.cls index arraycopyName ∈ gw) (hi : i < 3) (ha1 : h a = some (.inl (gC G 2, k, .inl g))) (hx : x ≤ st_len.getD i 0) (hx2 : d + x ≤ k) (hk : k < 2 ^ 30) (hfit : ∀ j, j < x → fits .byte (.int ((st_byt.getD i []).getD j 0)) = true) (hfr : 1 ≤ M.2.2.2.2.1) (hlo : (st.map fun v => v.category).sum + (nativeFrameWords "java/lang/System" "arraycopy" 5 + 11) ≤ M.2.2.2.2.2) (kk : V l G M rc rs Fz (pc + 3) ls st n (va_up h a (some (.inl (gC G 2, k, .inl (va_cpy (fun j => (st_byt.getD i []).getD j 0) g 0 d x))))) cells slots) : V l G M rc rs Fz pc ls (.int (nI x) :: .int (nI d) :: .ref a :: .int (nI 0) :: .ref (gA G 1 i) :: st) n h cells slots := by
  intro p e s m args below meth c H locs lsA d0 hx hb hr hml hts hown hlk hnm hd0 hC hS hbs hP hl
  have hts2 := dr_words hts d0
  have nn : ∀ z : Nat, z < 2 ^ 31 → (nI z).toInt = (z : Int) := fun z hz => nI_toInt hz
  have hxk : x < 2 ^ 31 := by omega
  have hdk : d < 2 ^ 31 := by omega
  obtain ⟨scr, hs1, hs2, hs3, hs4, -, hs5, hs7⟩ := (hC.2.2.2.2.2.2.2.2.2.2.1.1 i hi).2.2.2
  have hc0 : H[gA G 1 i]? = some scr := by rw [hS.2.1 _ (Array.getElem?_eq_some_iff.mp hs1).1 hs7]; exact hs1
  obtain ⟨hge, hc1⟩ := hP.2.2 _ _ ha1
  have hc1 : H[a]? = some (vp_cell (gC G 2) (k, .inl g)) := hc1
  obtain ⟨hs6, k0, hk0, cm0, hkk0⟩ := hs2
  obtain ⟨-, k1, hk1, cm1, hkk1⟩ := (hC.1.2 2 _ rfl).1 k (fun j => .int (g j))
  intro T hT X
  obtain ⟨vm', X', step⟩ := X.arraycopy hx hown (hts2 _ hlink) (hts2 _ q2_74) (hts2 _ q2_73) (hts2 _ q1_13) (src := gA G 1 i) (dst := a) (cs := scr) (cd := vp_cell (gC G 2) (k, .inl g)) (srcPos := nI 0) (destPos := nI d) (n := nI x) (by rw [hT]; exact hc0) (by rw [hT]; exact hc1)
    hs6 (fun _ h => by cases h) hs3 (fun h => by cases h) hk0 hk1 hkk0 hkk1 (by simp [refKind]) (nI_pos (by decide)) (nI_pos hdk) (nI_pos hxk)
    (by rw [nn 0 (by decide), nn x hxk]; omega)
    (by rw [nn d hdk, nn x hxk]; show ¬ _ > ((arrV (gC G 2) k (fun j => .int (g j))).slots.size : Int); rw [arrV_size]; omega)
    (fun vm₁ _ j hj => by
      rw [nI_clamp hxk] at hj
      have e : scr.slots.getD ((nI 0).toNatClampNeg + j) .null = .int ((st_byt.getD i []).getD j 0) := by
        rw [nI_clamp (by decide), Nat.zero_add, Array.getD_eq_getD_getElem?, hs5 _ (by omega)]
        rfl
      refine ⟨?_, ?_⟩
      · rw [e]
        exact hfit j hj
      · rw [e]
        exact trivial)
    (g := F0 m pc lsA (.int (nI x) :: .int (nI d) :: .ref a :: .int (nI 0) :: .ref (gA G 1 i) :: st)) rfl (by rw [hml]; exact hl.1) (rest := st) rfl (by rw [hb]; exact hd) hfr (by show 2 * 0 + _ + _ ≤ M.2.2.2.2.2; omega)
  have e1 : copied scr (vp_cell (gC G 2) (k, .inl g)) (nI 0) (nI d) (nI x) = vp_cell (gC G 2) (k, .inl (va_cpy (fun j => (st_byt.getD i []).getD j 0) g (nI 0).toNatClampNeg (nI d).toNatClampNeg (nI x).toNatClampNeg)) := va_copiedX (fun z => .int z) scr (gC G 2) (fun j => (st_byt.getD i []).getD j 0) g hs5 (by rw [nI_clamp (by decide), nI_clamp hxk]; omega)
  rw [nI_clamp (by decide), nI_clamp hdk, nI_clamp hxk] at e1
  rw [e1] at X' step
  have hl9 : a < H.size := (Array.getElem?_eq_some_iff.mp hc1).1
  have hheap : ((T.setVm vm').setCell a (vp_cell (gC G 2) (k, .inl (va_cpy (fun j => (st_byt.getD i []).getD j 0) g 0 d x)))).heap = H.setIfInBounds a (vp_cell (gC G 2) (k, .inl (va_cpy (fun j => (st_byt.getD i []).getD j 0) g 0 d x))) := by rw [← hT]; rfl
  have oq : ∀ q : Nat, q ≠ a → (H.setIfInBounds a (vp_cell (gC G 2) (k, .inl (va_cpy (fun j => (st_byt.getD i []).getD j 0) g 0 d x))))[q]? = H[q]? := fun q hq => by simp [Array.getElem?_setIfInBounds, Ne.symm hq]
  obtain ⟨t2, a1, b1⟩ := kk p e s m args below meth c (H.setIfInBounds a (vp_cell (gC G 2) (k, .inl (va_cpy (fun j => (st_byt.getD i []).getD j 0) g 0 d x)))) _ lsA d0 hx hb hr hml hts hown hlk hnm hd0 hC ⟨by simp; exact hS.1, fun q g1 g2 => by
      rw [oq q (fun e => g2 (by rw [e]; exact hge))]
      exact hS.2.1 q g1 g2, fun q hq => by
      rcases List.mem_append.mp hq with h | h
      · exact hS.2.2 q h
      · obtain ⟨z, -, hz⟩ := List.mem_map.mp h
        rw [← hz]
        exact hge⟩ hbs (hP.set ha1 (show (H.setIfInBounds a _)[a]? = some _ by simp [Array.getElem?_setIfInBounds, hl9]) (by simp) oq) hl _ hheap X'
  exact ⟨t2, step t2 a1, b1⟩
