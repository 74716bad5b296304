theorem cx.ao {G : vG} {s : State} {H : Heap} (h : cx G s H) : va_AO RX1 s := h.2.2.2.2.2.2.2.2.2.2.2.2.1
theorem cx.nest {G : vG} {s : State} {H : Heap} (h : cx G s H) : ∀ q ∈ nl, va_Nw (.methodLinkNest q.1 q.2.1 q.2.2.1 q.2.2.2) s := h.2.2.2.2.2.2.2.2.2.1
theorem va_S.push {A : Nat → Prop} {H0 H H1 : Heap} {locs : List Loc} (h : va_S A H0 H locs) (z : H.size ≤ H1.size) (oq : ∀ q : Nat, q < H.size → H1[q]? = H[q]?) : va_S A H0 H1 locs := ⟨Nat.le_trans h.1 z, fun q h1 h2 => (oq q (Nat.lt_of_lt_of_le h1 h.1)).trans (h.2.1 q h1 h2), h.2.2⟩
theorem v_new {l : Launch} {G : vG} {M : vM} {rc rs : Nat} {Fz : vFin} {pc : Nat} {ls : List (Option Value)} {st : List Value} {n : Nat} {h : AH} {cells slots : Nat} {index ci N : Nat} {fs : List Value} {C : String} {T : u_T} (hd : decode M.2.1 pc = .ok (.new index, 3)) (hc : vwCl[ci]? = some (C, T, N)) (hin : ∀ w ∈ u_ws C T N, w ∈ gw) (ty0 : Nat → FieldType) (hty : ∀ k, k < N → parseFieldDescriptor (T k).2.2.1 = some (ty0 k)) (hcl : Cond.classLink M.1.cls index C ∈ gw) (hinst : Cond.instantiable C N ∈ gw) (hini : Cond.initialized C ∈ gw) (hfs : ∀ j, j < N → defaultValue (ty0 j) = vp_V fs j) (hc1 : cells + 1 ≤ rc) (hs1 : slots + N ≤ rs) (kk : V l G M rc rs Fz (pc + 3) ls (.ref n :: st) (n + 1) (va_up h n (some (.inr (ci, fs)))) (cells + 1) (slots + N)) : V l G M rc rs Fz pc ls (st) n h cells slots := by
  intro p e s m args below meth c H locs lsA d0 hx hb hr hml hts hown hlk hnm hd0 hC hS hbs hP hl
  have hts2 := dr_words hts d0
  have hKn : u_Kn s C T N ((gD G).1 ci) ((gD G).2 ci) := hC.1.1 ci _ hc
  have hfc : (s.setDrawn d0).vm.findClass C = some ((gD G).1 ci) := hKn.2.1
  have hw1 := hts2 _ hcl
  have hw2 := hts2 _ hinst
  have hw3 := hts2 _ hini
  refine W.newcK (s := s.setDrawn d0) hx hb hown hw1 hw2 hw3 rfl hd hc1 hs1 hfc hP.1 fun H1 kC hkC e1 z1 o1 => ?_
  have hkC2 : s.vm.classes[(gD G).1 ci]? = some kC := hkC
  have hb9 := u_born (s := s) ty0 hts hin hKn hkC2 e1 hty
  have hat9 : va_at (gD G) vwCl (n, .inr (ci, fs)) H1 := ⟨(C, T, N), hc, hb9.to hfs⟩
  exact kk p e s m args below meth c _ _ lsA d0 hx hb hr hml hts hown hlk hnm hd0 hC (hS.push (by rw [z1, ← hP.1]; exact Nat.le_succ _) (fun q hq => o1 q (by rw [← hP.1]; exact hq))) hbs (hP.push hat9 z1 o1) hl
theorem v_newi {l : Launch} {G : vG} {M : vM} {rc rs : Nat} {Fz : vFin} {pc : Nat} {ls : List (Option Value)} {st : List Value} {n : Nat} {h : AH} {cells slots : Nat} {x : Int32} {N : Nat} (hd : decode M.2.1 pc = .ok (.newarray .int, 2)) (hw : Cond.arrayClass .int ∈ gw) (hx0 : ¬ x < 0) (hN : x.toNatClampNeg = N) (hN2 : N ≤ 100000) (hc1 : cells + 1 ≤ rc) (hs1 : slots + N ≤ rs) (kk : V l G M rc rs Fz (pc + 2) ls (.ref n :: st) (n + 1) (va_up h n (some (.inl (gC G 0, N, .inl (fun _ => 0))))) (cells + 1) (slots + N)) : V l G M rc rs Fz pc ls (.int x :: st) n h cells slots := by
  intro p e s m args below meth c H locs lsA d0 hx hb hr hml hts hown hlk hnm hd0 hC hS hbs hP hl
  have hts2 := dr_words hts d0
  refine va_newaK (s := s.setDrawn d0) hx hb (atype := .int) (hts2 _ hw) rfl hd rfl hx0 hN (by show N * 4 ≤ 536870912; omega) hc1 hs1 hP.1 fun H1 cA e1 z1 o1 hAr hNm => ?_
  have hcA : cA = gC G 0 := Option.some.inj (hNm.symm.trans (hC.1.2 0 _ rfl).2)
  subst hcA
  exact kk p e s m args below meth c _ _ lsA d0 hx hb hr hml hts hown hlk hnm hd0 hC (hS.push (by rw [z1, ← hP.1]; exact Nat.le_succ _) (fun q hq => o1 q (by rw [← hP.1]; exact hq))) hbs (hP.push (show H1[n]? = some (vp_cell _ _) from e1) z1 o1) hl
theorem v_newc {l : Launch} {G : vG} {M : vM} {rc rs : Nat} {Fz : vFin} {pc : Nat} {ls : List (Option Value)} {st : List Value} {n : Nat} {h : AH} {cells slots : Nat} {x : Int32} {N : Nat} (hd : decode M.2.1 pc = .ok (.newarray .char, 2)) (hw : Cond.arrayClass .char ∈ gw) (hx0 : ¬ x < 0) (hN : x.toNatClampNeg = N) (hN2 : N ≤ 100000) (hc1 : cells + 1 ≤ rc) (hs1 : slots + N ≤ rs) (kk : V l G M rc rs Fz (pc + 2) ls (.ref n :: st) (n + 1) (va_up h n (some (.inl (gC G 1, N, .inl (fun _ => 0))))) (cells + 1) (slots + N)) : V l G M rc rs Fz pc ls (.int x :: st) n h cells slots := by
  intro p e s m args below meth c H locs lsA d0 hx hb hr hml hts hown hlk hnm hd0 hC hS hbs hP hl
  have hts2 := dr_words hts d0
  refine va_newaK (s := s.setDrawn d0) hx hb (atype := .char) (hts2 _ hw) rfl hd rfl hx0 hN (by show N * 2 ≤ 536870912; omega) hc1 hs1 hP.1 fun H1 cA e1 z1 o1 hAr hNm => ?_
  have hcA : cA = gC G 1 := Option.some.inj (hNm.symm.trans (hC.1.2 1 _ rfl).2)
  subst hcA
  exact kk p e s m args below meth c _ _ lsA d0 hx hb hr hml hts hown hlk hnm hd0 hC (hS.push (by rw [z1, ← hP.1]; exact Nat.le_succ _) (fun q hq => o1 q (by rw [← hP.1]; exact hq))) hbs (hP.push (show H1[n]? = some (vp_cell _ _) from e1) z1 o1) hl
theorem v_newb {l : Launch} {G : vG} {M : vM} {rc rs : Nat} {Fz : vFin} {pc : Nat} {ls : List (Option Value)} {st : List Value} {n : Nat} {h : AH} {cells slots : Nat} {x : Int32} {N : Nat} (hd : decode M.2.1 pc = .ok (.newarray .byte, 2)) (hw : Cond.arrayClass .byte ∈ gw) (hx0 : ¬ x < 0) (hN : x.toNatClampNeg = N) (hN2 : N ≤ 100000) (hc1 : cells + 1 ≤ rc) (hs1 : slots + N ≤ rs) (kk : V l G M rc rs Fz (pc + 2) ls (.ref n :: st) (n + 1) (va_up h n (some (.inl (gC G 2, N, .inl (fun _ => 0))))) (cells + 1) (slots + N)) : V l G M rc rs Fz pc ls (.int x :: st) n h cells slots := by
  intro p e s m args below meth c H locs lsA d0 hx hb hr hml hts hown hlk hnm hd0 hC hS hbs hP hl
  have hts2 := dr_words hts d0
  refine va_newaK (s := s.setDrawn d0) hx hb (atype := .byte) (hts2 _ hw) rfl hd rfl hx0 hN (by show N * 1 ≤ 536870912; omega) hc1 hs1 hP.1 fun H1 cA e1 z1 o1 hAr hNm => ?_
  have hcA : cA = gC G 2 := Option.some.inj (hNm.symm.trans (hC.1.2 2 _ rfl).2)
  subst hcA
  exact kk p e s m args below meth c _ _ lsA d0 hx hb hr hml hts hown hlk hnm hd0 hC (hS.push (by rw [z1, ← hP.1]; exact Nat.le_succ _) (fun q hq => o1 q (by rw [← hP.1]; exact hq))) hbs (hP.push (show H1[n]? = some (vp_cell _ _) from e1) z1 o1) hl
theorem v_newq {l : Launch} {G : vG} {M : vM} {rc rs : Nat} {Fz : vFin} {pc : Nat} {ls : List (Option Value)} {st : List Value} {n : Nat} {h : AH} {cells slots : Nat} {index : Nat} {x : Int32} {N : Nat} (hd : decode M.2.1 pc = .ok (.anewarray index, 3)) (hcl : Cond.classLink M.1.cls index RX1 ∈ gw) (hx0 : ¬ x < 0) (hN : x.toNatClampNeg = N) (hN2 : N ≤ 100000) (hc1 : cells + 1 ≤ rc) (hs1 : slots + N ≤ rs) (kk : V l G M rc rs Fz (pc + 3) ls (.ref n :: st) (n + 1) (va_up h n (some (.inl (gC G 3, N, .inr (.inr (.inr (.inr (fun _ => none)))))))) (cells + 1) (slots + N)) : V l G M rc rs Fz pc ls (.int x :: st) n h cells slots := by
  intro p e s m args below meth c H locs lsA d0 hx hb hr hml hts hown hlk hnm hd0 hC hS hbs hP hl
  have hts2 := dr_words hts d0
  subst hN
  have hO : va_AO RX1 (s.setDrawn d0) := va_AO.moved (u := s) (Vm.Alike.refl s.vm) hC.ao
  refine W.anew (s := s.setDrawn d0) hx hb hown (hts2 _ hcl) (va_AO.use hO) rfl hd rfl hx0 (by omega) hc1 hs1 fun cA kA comp f1 f2 f3 f4 => ?_
  obtain ⟨kA2, comp2, g1, g2, g3, g4⟩ := (hC.1.2 3 _ rfl).2
  have hcA : cA = gC G 3 := Option.some.inj (f1.symm.trans g4)
  subst hcA
  generalize hH1 : H.push ({ cls := gC G 3, slots := Array.replicate x.toNatClampNeg .null, vm := .none } : Cell) = H1
  have z1 : H1.size = n + 1 := by rw [← hH1, Array.size_push, hP.1]
  have e1 : H1[n]? = some (arrV (gC G 3) x.toNatClampNeg (fun _ => .null)) := by rw [← hH1, ← hP.1, Array.getElem?_push_size, ← arrV_new]
  have o1 : ∀ q : Nat, q < n → H1[q]? = H[q]? := fun q hq => by rw [← hH1, Array.getElem?_push, if_neg (by rw [hP.1]; exact Nat.ne_of_lt hq)]
  rw [show H.size = n from hP.1]
  exact kk p e s m args below meth c _ _ lsA d0 hx hb hr hml hts hown hlk hnm hd0 hC (hS.push (by rw [z1, ← hP.1]; exact Nat.le_succ _) (fun q hq => o1 q (by rw [← hP.1]; exact hq))) hbs (hP.push (show H1[n]? = some (vp_cell _ _) from e1) z1 o1) hl
theorem v_aast {l : Launch} {G : vG} {M : vM} {rc rs : Nat} {Fz : vFin} {pc : Nat} {ls : List (Option Value)} {st : List Value} {n : Nat} {h : AH} {cells slots : Nat} {a k v ci N : Nat} {f : Nat → Option Nat} {vs : List Value} {T : u_T} {i : Int32} (hd : decode M.2.1 pc = .ok (.aastore, 1)) (he : h a = some (.inl (gC G 3, k, .inr (.inr (.inr (.inr f)))))) (hv : h v = some (.inr (ci, vs))) (hc : vwCl[ci]? = some (RX1, T, N)) (hi : vp_in i k) (kk : V l G M rc rs Fz (pc + 1) ls (st) n (va_up h a (some (.inl (gC G 3, k, .inr (.inr (.inr (.inr (va_up f i.toNatClampNeg (some v))))))))) cells slots) : V l G M rc rs Fz pc ls (.ref v :: .int i :: .ref a :: st) n h cells slots := by
  intro p e s m args below meth c H locs lsA d0 hx hb hr hml hts hown hlk hnm hd0 hC hS hbs hP hl
  have hlt : i.toNatClampNeg < k := Nat.not_le.mp fun q => hi (Or.inr q)
  have h0 : ¬ i < 0 := fun q => hi (Or.inl q)
  obtain ⟨hge, hat⟩ := hP.2.2 _ _ he
  obtain ⟨-, r', hr', cellV, g1, g2, g3, -⟩ := hP.2.2 _ _ hv
  have hcls := (hC.1.1 ci _ hc).2
  obtain ⟨kA, comp, k1, k2, k3, -⟩ := (hC.1.2 3 _ rfl).2
  have hcomp : comp = (gD G).1 ci := Option.some.inj (k3.symm.trans hcls.1)
  subst hcomp
  obtain ⟨kC, hkC, -⟩ := hcls.2
  have hat2 : H[a]? = some (vp_cell (gC G 3) (k, .inr (.inr (.inr (.inr f))))) := hat
  have hin9 : ¬ i < 0 ∧ i.toNatClampNeg < (vp_cell (gC G 3) (k, .inr (.inr (.inr (.inr f))))).slots.size := ⟨h0, by rw [vp_cell_q, arrV_size]; exact hlt⟩
  have hcls : ClassAt (s.setDrawn d0) RX1 ((gD G).1 ci) := hcls
  refine W.aast (s := s.setDrawn d0) hx hb hat2 (fun q h => by cases h) (fun h => by cases h) k1 k2 rfl hkC hin9 g1 (fun q h => by rw [g3] at h; cases h) (by rw [g2]; exact hkC) (by rw [g2]; exact va_assign hcls) rfl rfl hd fun H1 e9 z oq => ?_
  refine kk p e s m args below meth c _ _ lsA d0 hx hb hr hml hts hown hlk hnm hd0 hC (hS.put z oq hge) hbs (hP.set he ?_ z oq) hl
  show H1[a]? = some (vp_cell _ _)
  rw [e9]
  rw [vp_cell_q, vp_cell_q, arrV_store]
  congr 2
  funext q
  by_cases hq : q = i.toNatClampNeg
  · subst hq
    simp [updV, va_up, va_rf]
  · simp [updV, va_up, hq]
theorem v_copy {l : Launch} {G : vG} {M : vM} {rc rs : Nat} {Fz : vFin} {pc : Nat} {ls : List (Option Value)} {st : List Value} {n : Nat} {h : AH} {cells slots : Nat} {index a0 a t n0 n1 : Nat} {f g : Nat → Int32} {ty : FieldType} {sp dp x : Int32} (hd : decode M.2.1 pc = .ok (.invokestatic index, 3)) (hlink : Cond.methodLink M.1.cls index arraycopyName ∈ gw) (hnat : Cond.native arraycopyName ∈ gw) (hstat : Cond.static arraycopyName ∈ gw) (hini : Cond.initialized "java/lang/System" ∈ gw) (ha0 : h a0 = some (.inl (gC G t, n0, .inl f))) (ha1 : h a = some (.inl (gC G t, n1, .inl g))) (ht : (gT G)[t]? = some (gC G t, ty)) (hprim : refKind ty = false) (h1 : ¬ sp < 0) (h2 : ¬ dp < 0) (h3 : ¬ x < 0) (h4 : sp.toNatClampNeg + x.toNatClampNeg ≤ n0) (h5 : dp.toNatClampNeg + x.toNatClampNeg ≤ n1) (hfit : ∀ i, i < x.toNatClampNeg → fits ty (.int (f (sp.toNatClampNeg + i))) = true) (hfr : 1 ≤ M.2.2.2.2.1) (hlo : (st.map fun v => v.category).sum + (nativeFrameWords "java/lang/System" "arraycopy" 5 + 11) ≤ M.2.2.2.2.2) (kk : V l G M rc rs Fz (pc + 3) ls (st) n (va_up h a (some (.inl (gC G t, n1, .inl (va_cpy f g sp.toNatClampNeg dp.toNatClampNeg x.toNatClampNeg))))) cells slots) : V l G M rc rs Fz pc ls (.int x :: .int dp :: .ref a :: .int sp :: .ref a0 :: st) n h cells slots := by
  intro p e s m args below meth c H locs lsA d0 hx hb hr hml hts hown hlk hnm hd0 hC hS hbs hP hl
  have hts2 := dr_words hts d0
  have nn : ∀ z : Int32, ¬ z < 0 → z.toInt = (z.toNatClampNeg : Int) := by
    intro z hz
    have hz0 : (0 : Int) ≤ z.toInt := by
      have := Int32.not_lt.mp hz
      simpa using Int32.le_iff_toInt_le.mp this
    show z.toInt = ((z.toInt.toNat : Nat) : Int)
    omega
  obtain ⟨hge0, hc0⟩ := hP.2.2 _ _ ha0
  obtain ⟨hge, hc1⟩ := hP.2.2 _ _ ha1
  have hc0 : H[a0]? = some (vp_cell (gC G t) (n0, .inl f)) := hc0
  have hc1 : H[a]? = some (vp_cell (gC G t) (n1, .inl g)) := hc1
  intro T hT X
  obtain ⟨-, k0, hk0, cm0, hkk0⟩ := (hC.1.2 t _ ht).1 n0 (fun j => .int (f j))
  obtain ⟨-, k1, hk1, cm1, hkk1⟩ := (hC.1.2 t _ ht).1 n1 (fun j => .int (g j))
  obtain ⟨vm', X', step⟩ := X.arraycopy hx hown (hts2 _ hlink) (hts2 _ hnat) (hts2 _ hstat) (hts2 _ hini) (src := a0) (dst := a) (cs := vp_cell (gC G t) (n0, .inl f)) (cd := vp_cell (gC G t) (n1, .inl g)) (srcPos := sp) (destPos := dp) (n := x) (by rw [hT]; exact hc0) (by rw [hT]; exact hc1)
    (fun _ h => by cases h) (fun _ h => by cases h) (fun h => by cases h) (fun h => by cases h) hk0 hk1 hkk0 hkk1 (by simp [hprim]) h1 h2 h3
    (by rw [nn sp h1, nn x h3]; show ¬ _ > ((arrV (gC G t) n0 (fun j => .int (f j))).slots.size : Int); rw [arrV_size]; omega)
    (by rw [nn dp h2, nn x h3]; show ¬ _ > ((arrV (gC G t) n1 (fun j => .int (g j))).slots.size : Int); rw [arrV_size]; omega)
    (fun vm₁ _ i hi => by
      have e : (vp_cell (gC G t) (n0, .inl f)).slots.getD (sp.toNatClampNeg + i) .null = .int (f (sp.toNatClampNeg + i)) := by
        show (arrV (gC G t) n0 (fun j => .int (f j))).slots.getD _ _ = _
        rw [Array.getD_eq_getD_getElem?, arrV_read _ _ (by omega)]
        rfl
      refine ⟨?_, ?_⟩
      · rw [e]
        exact hfit i hi
      · rw [e]
        exact trivial)
    (g := F0 m pc lsA (.int x :: .int dp :: .ref a :: .int sp :: .ref a0 :: st)) rfl (by rw [hml]; exact hl.1) (rest := st) rfl (by rw [hb]; exact hd) hfr (by show 2 * 0 + _ + _ ≤ M.2.2.2.2.2; omega)
  have e1 : copied (vp_cell (gC G t) (n0, .inl f)) (vp_cell (gC G t) (n1, .inl g)) sp dp x = vp_cell (gC G t) (n1, .inl (va_cpy f g sp.toNatClampNeg dp.toNatClampNeg x.toNatClampNeg)) := va_copied (fun z => .int z) (gC G t) (gC G t) f g h4
  rw [e1] at X' step
  have hl9 : a < H.size := (Array.getElem?_eq_some_iff.mp hc1).1
  have hheap : ((T.setVm vm').setCell a (vp_cell (gC G t) (n1, .inl (va_cpy f g sp.toNatClampNeg dp.toNatClampNeg x.toNatClampNeg)))).heap = H.setIfInBounds a (vp_cell (gC G t) (n1, .inl (va_cpy f g sp.toNatClampNeg dp.toNatClampNeg x.toNatClampNeg))) := by rw [← hT]; rfl
  have oq : ∀ q : Nat, q ≠ a → (H.setIfInBounds a (vp_cell (gC G t) (n1, .inl (va_cpy f g sp.toNatClampNeg dp.toNatClampNeg x.toNatClampNeg))))[q]? = H[q]? := fun q hq => by simp [Array.getElem?_setIfInBounds, Ne.symm hq]
  obtain ⟨t2, a1, b1⟩ := kk p e s m args below meth c (H.setIfInBounds a (vp_cell (gC G t) (n1, .inl (va_cpy f g sp.toNatClampNeg dp.toNatClampNeg x.toNatClampNeg)))) _ lsA d0 hx hb hr hml hts hown hlk hnm hd0 hC ⟨by simp; exact hS.1, fun q g1 g2 => by
      rw [oq q (fun e => g2 (by rw [e]; exact hge))]
      exact hS.2.1 q g1 g2, fun q hq => by
      rcases List.mem_append.mp hq with h | h
      · exact hS.2.2 q h
      · obtain ⟨z, -, hz⟩ := List.mem_map.mp h
        rw [← hz]
        exact hge⟩ hbs (hP.set ha1 (show (H.setIfInBounds a _)[a]? = some _ by simp [Array.getElem?_setIfInBounds, hl9]) (by simp) oq) hl _ hheap X'
  exact ⟨t2, step t2 a1, b1⟩
theorem v_max {l : Launch} {G : vG} {M : vM} {rc rs : Nat} {Fz : vFin} {pc : Nat} {ls : List (Option Value)} {st : List Value} {n : Nat} {h : AH} {cells slots : Nat} {index : Nat} {x y : Int32} (hd : decode M.2.1 pc = .ok (.invokestatic index, 3)) (hlink : Cond.methodLink M.1.cls index Lib.Math.max.name ∈ gw) (hstat : Cond.static Lib.Math.max.name ∈ gw) (hini : Cond.initialized "java/lang/Math" ∈ gw) (hcode : Cond.code Lib.Math.max.name Lib.Math.max.code 2 (some .int) ∈ gw) (hfr : 1 ≤ M.2.2.2.2.1) (hlo : (st.map fun v => v.category).sum + 13 ≤ M.2.2.2.2.2) (hc1 : cells ≤ rc) (hs1 : slots ≤ rs) (kk : V l G M rc rs Fz (pc + 3) ls (.int (if x < y then y else x) :: st) n h cells slots) : V l G M rc rs Fz pc ls (.int y :: .int x :: st) n h cells slots := by
  intro p e s m args below meth c H locs lsA d0 hx hb hr hml hts hown hlk hnm hd0 hC hS hbs hP hl
  have hts2 := dr_words hts d0
  exact va_mmax (s := s.setDrawn d0) hx hb (hml.trans hl.1.symm) hown (hts2 _ hlink) (hts2 _ hstat) (hts2 _ hini) (hts2 _ hcode) hfr hlo hc1 hs1 hd (kk p e s m args below meth c H locs lsA d0 hx hb hr hml hts hown hlk hnm hd0 hC hS hbs hP hl)
theorem v_min {l : Launch} {G : vG} {M : vM} {rc rs : Nat} {Fz : vFin} {pc : Nat} {ls : List (Option Value)} {st : List Value} {n : Nat} {h : AH} {cells slots : Nat} {index : Nat} {x y : Int32} (hd : decode M.2.1 pc = .ok (.invokestatic index, 3)) (hlink : Cond.methodLink M.1.cls index Lib.Math.min.name ∈ gw) (hstat : Cond.static Lib.Math.min.name ∈ gw) (hini : Cond.initialized "java/lang/Math" ∈ gw) (hcode : Cond.code Lib.Math.min.name Lib.Math.min.code 2 (some .int) ∈ gw) (hfr : 1 ≤ M.2.2.2.2.1) (hlo : (st.map fun v => v.category).sum + 13 ≤ M.2.2.2.2.2) (hc1 : cells ≤ rc) (hs1 : slots ≤ rs) (kk : V l G M rc rs Fz (pc + 3) ls (.int (if y < x then y else x) :: st) n h cells slots) : V l G M rc rs Fz pc ls (.int y :: .int x :: st) n h cells slots := by
  intro p e s m args below meth c H locs lsA d0 hx hb hr hml hts hown hlk hnm hd0 hC hS hbs hP hl
  have hts2 := dr_words hts d0
  exact va_mmin (s := s.setDrawn d0) hx hb (hml.trans hl.1.symm) hown (hts2 _ hlink) (hts2 _ hstat) (hts2 _ hini) (hts2 _ hcode) hfr hlo hc1 hs1 hd (kk p e s m args below meth c H locs lsA d0 hx hb hr hml hts hown hlk hnm hd0 hC hS hbs hP hl)
theorem v_objinit {l : Launch} {G : vG} {M : vM} {rc rs : Nat} {Fz : vFin} {pc : Nat} {ls : List (Option Value)} {st : List Value} {n : Nat} {h : AH} {cells slots : Nat} {index a : Nat} (hd : decode M.2.1 pc = .ok (.invokespecial index, 3)) (hlink : Cond.methodLink M.1.cls index objectInit ∈ gw) (hinst : Cond.instanceMethod objectInit ∈ gw) (hcode : Cond.code objectInit ⟨#[0xb1]⟩ 1 none ∈ gw) (hfr : 1 ≤ M.2.2.2.2.1) (hlo : (st.map fun v => v.category).sum + 12 ≤ M.2.2.2.2.2) (kk : V l G M rc rs Fz (pc + 3) ls (st) n h cells slots) : V l G M rc rs Fz pc ls (.ref a :: st) n h cells slots := by
  intro p e s m args below meth c H locs lsA d0 hx hb hr hml hts hown hlk hnm hd0 hC hS hbs hP hl
  have hts2 := dr_words hts d0
  refine W.objInit (s := s.setDrawn d0) hx hb hown (hts2 _ hlink) (hts2 _ hinst) (hts2 _ hcode) rfl (by rw [hml]; exact hl.1) rfl hd hfr (by show 2 * 0 + _ + 12 ≤ M.2.2.2.2.2; omega) ?_
  exact kk p e s m args below meth c H locs lsA d0 hx hb hr hml hts hown hlk hnm hd0 hC hS hbs hP hl
def cV (own : String) (index : Nat) (M2 : vM) (k : Nat) : Prop := Cond.methodLink own index M2.1 ∈ gw ∧ Cond.instanceMethod M2.1 ∈ gw ∧ Cond.selects M2.1.cls M2.1 M2.1 ∈ gw ∧ Cond.initialized M2.1.cls ∈ gw ∧ Cond.code M2.1 M2.2.1 M2.2.2.1 M2.2.2.2.1 ∈ gw ∧ (M2.1.cls ≠ "java/lang/invoke/MethodHandle" ∧ M2.1.cls ≠ "java/lang/invoke/VarHandle" ∧ (parseMethodDescriptor M2.1.desc).map (fun d => d.parameters.length) = some k)
def cS (own : String) (index : Nat) (M2 : vM) (k : Nat) : Prop := Cond.methodLink own index M2.1 ∈ gw ∧ Cond.static M2.1 ∈ gw ∧ Cond.initialized M2.1.cls ∈ gw ∧ Cond.code M2.1 M2.2.1 M2.2.2.1 M2.2.2.2.1 ∈ gw ∧ (M2.1.cls ≠ "java/lang/invoke/MethodHandle" ∧ M2.1.cls ≠ "java/lang/invoke/VarHandle" ∧ (parseMethodDescriptor M2.1.desc).map (fun d => d.parameters.length) = some k)
def cI (own : String) (index : Nat) (M2 : vM) (k : Nat) : Prop := Cond.methodLink own index M2.1 ∈ gw ∧ Cond.instanceMethod M2.1 ∈ gw ∧ Cond.initialized M2.1.cls ∈ gw ∧ Cond.code M2.1 M2.2.1 M2.2.2.1 M2.2.2.2.1 ∈ gw ∧ M2.1.name = "<init>" ∧ (M2.1.cls ≠ "java/lang/invoke/MethodHandle" ∧ M2.1.cls ≠ "java/lang/invoke/VarHandle" ∧ (parseMethodDescriptor M2.1.desc).map (fun d => d.parameters.length) = some k)
def cIN (own : String) (index : Nat) (M2 : vM) (host : String) (k : Nat) : Prop := (own, index, M2.1, host) ∈ nl ∧ Cond.instanceMethod M2.1 ∈ gw ∧ Cond.initialized M2.1.cls ∈ gw ∧ Cond.code M2.1 M2.2.1 M2.2.2.1 M2.2.2.2.1 ∈ gw ∧ M2.1.name = "<init>" ∧ (M2.1.cls ≠ "java/lang/invoke/MethodHandle" ∧ M2.1.cls ≠ "java/lang/invoke/VarHandle" ∧ (parseMethodDescriptor M2.1.desc).map (fun d => d.parameters.length) = some k)
def cSN (own : String) (index : Nat) (M2 : vM) (host : String) (k : Nat) : Prop := (own, index, M2.1, host) ∈ nl ∧ Cond.static M2.1 ∈ gw ∧ Cond.initialized M2.1.cls ∈ gw ∧ Cond.code M2.1 M2.2.1 M2.2.2.1 M2.2.2.2.1 ∈ gw ∧ (M2.1.cls ≠ "java/lang/invoke/MethodHandle" ∧ M2.1.cls ≠ "java/lang/invoke/VarHandle" ∧ (parseMethodDescriptor M2.1.desc).map (fun d => d.parameters.length) = some k)
theorem v_callV {l : Launch} {G : vG} {M : vM} {rc rs : Nat} {Fz : vFin} {pc : Nat} {ls : List (Option Value)} {st : List Value} {n : Nat} {h : AH} {cells slots : Nat} {M2 : vM} {index mc ms : Nat} {As : List Value} {st0 : List Value} {Q2 : Option Value → Nat → AH → Prop} {b ci N : Nat} {fs : List Value} {T : u_T} (hd : decode M.2.1 pc = .ok (.invokevirtual index, 3)) (hM : Mt l G M2 (.ref b :: As) n h mc ms Q2) (hw : cV M.1.cls index M2 As.length) (he : h b = some (.inr (ci, fs))) (hc : vwCl[ci]? = some (M2.1.cls, T, N)) (hs0 : st0 = As.reverse ++ .ref b :: st) (hR : M2.2.2.2.2.1 + 1 ≤ M.2.2.2.2.1 ∧ 8 + (M2.2.2.1 + 11) + M2.2.2.2.2.2 ≤ M.2.2.2.2.2) (hst : (st.map fun v => v.category).sum ≤ 8) (hf : cells + mc ≤ rc ∧ slots + ms ≤ rs) (kk : ∀ (r : Option Value) (n2 : Nat) (h2 : AH), Q2 r n2 h2 → V l G M rc rs Fz (pc + 3) ls (r.toList ++ st) n2 h2 (cells + mc) (slots + ms)) : V l G M rc rs Fz pc ls (st0) n h cells slots := by
  intro p e s m args below meth c H locs lsA d0 hx hb hr hml hts hown hlk hnm hd0 hC hS hbs hP hl
  subst hs0
  obtain ⟨w1, w2, w3, w4, w5, w6⟩ := hw
  exact px_callD hd0 (va_runV_D (C := M2.1.cls) (As := As) (rest := st) ⟨hx, hb, hml, hown, dr_words hts d0⟩ hM (cwV As.length (dr_words hts d0) (gw_in (fun w hw => by
    simp only [wsV, List.cons_append, List.nil_append, List.mem_cons] at hw
    rcases hw with rfl | rfl | rfl | rfl | hw
    · exact w1
    · exact w2
    · exact w3
    · exact w4
    · exact gw_mW w5 w hw)) rfl rfl rfl ⟨rfl, w6⟩ hR) ⟨pcM.blind, va_recv (s := s.setDrawn d0) (D := gD G) (cl := vwCl) (tys := gT G) hC.1 (hP.one he) (q0 := 0) hc rfl, fun U hU hW => ⟨rfl, by rw [hU]; exact cx.warm hW (cx.same (u := s) rfl (hC.kept hS.2.1)), by rw [hU]; exact Nat.le_trans hbs hS.1, by rw [hU]; exact hP⟩⟩ rfl rfl hl.1 rfl (lv_room hst) hd hf) hS (fun r n2 h2 H1 locs1 d1 hd1 hQ hP1 hS1 => kk r n2 h2 hQ p e s m args below meth c _ _ lsA d1 hx hb hr hml hts hown hlk hnm hd1 hC hS1 hbs hP1 hl)
theorem v_callS {l : Launch} {G : vG} {M : vM} {rc rs : Nat} {Fz : vFin} {pc : Nat} {ls : List (Option Value)} {st : List Value} {n : Nat} {h : AH} {cells slots : Nat} {M2 : vM} {index mc ms : Nat} {As : List Value} {st0 : List Value} {Q2 : Option Value → Nat → AH → Prop} (hd : decode M.2.1 pc = .ok (.invokestatic index, 3)) (hM : Mt l G M2 As n h mc ms Q2) (hw : cS M.1.cls index M2 As.length) (hs0 : st0 = As.reverse ++ st) (hR : M2.2.2.2.2.1 + 1 ≤ M.2.2.2.2.1 ∧ 8 + (M2.2.2.1 + 11) + M2.2.2.2.2.2 ≤ M.2.2.2.2.2) (hst : (st.map fun v => v.category).sum ≤ 8) (hf : cells + mc ≤ rc ∧ slots + ms ≤ rs) (kk : ∀ (r : Option Value) (n2 : Nat) (h2 : AH), Q2 r n2 h2 → V l G M rc rs Fz (pc + 3) ls (r.toList ++ st) n2 h2 (cells + mc) (slots + ms)) : V l G M rc rs Fz pc ls (st0) n h cells slots := by
  intro p e s m args below meth c H locs lsA d0 hx hb hr hml hts hown hlk hnm hd0 hC hS hbs hP hl
  subst hs0
  obtain ⟨w1, w2, w3, w4, w5⟩ := hw
  exact px_callD hd0 (va_runS_D (As := As) (rest := st) ⟨hx, hb, hml, hown, dr_words hts d0⟩ hM (va_cwS As.length (dr_words hts d0) (gw_in (fun w hw => by
    simp only [va_wsS, List.cons_append, List.nil_append, List.mem_cons] at hw
    rcases hw with rfl | rfl | rfl | hw
    · exact w1
    · exact w2
    · exact w3
    · exact gw_mW w4 w hw)) rfl rfl rfl w5 hR) ⟨pcM.blind, fun U hU hW => ⟨rfl, by rw [hU]; exact cx.warm hW (cx.same (u := s) rfl (hC.kept hS.2.1)), by rw [hU]; exact Nat.le_trans hbs hS.1, by rw [hU]; exact hP⟩⟩ rfl rfl hl.1 rfl (lv_room hst) hd hf) hS (fun r n2 h2 H1 locs1 d1 hd1 hQ hP1 hS1 => kk r n2 h2 hQ p e s m args below meth c _ _ lsA d1 hx hb hr hml hts hown hlk hnm hd1 hC hS1 hbs hP1 hl)
theorem v_callI {l : Launch} {G : vG} {M : vM} {rc rs : Nat} {Fz : vFin} {pc : Nat} {ls : List (Option Value)} {st : List Value} {n : Nat} {h : AH} {cells slots : Nat} {M2 : vM} {index mc ms : Nat} {As : List Value} {st0 : List Value} {Q2 : Option Value → Nat → AH → Prop} {b : Nat} (hd : decode M.2.1 pc = .ok (.invokespecial index, 3)) (hM : Mt l G M2 (.ref b :: As) n h mc ms Q2) (hw : cI M.1.cls index M2 As.length) (hr9 : M2.2.2.2.1 = none) (hs0 : st0 = As.reverse ++ .ref b :: st) (hR : M2.2.2.2.2.1 + 1 ≤ M.2.2.2.2.1 ∧ 8 + (M2.2.2.1 + 11) + M2.2.2.2.2.2 ≤ M.2.2.2.2.2) (hst : (st.map fun v => v.category).sum ≤ 8) (hf : cells + mc ≤ rc ∧ slots + ms ≤ rs) (kk : ∀ (r : Option Value) (n2 : Nat) (h2 : AH), Q2 r n2 h2 → V l G M rc rs Fz (pc + 3) ls (r.toList ++ st) n2 h2 (cells + mc) (slots + ms)) : V l G M rc rs Fz pc ls (st0) n h cells slots := by
  intro p e s m args below meth c H locs lsA d0 hx hb hr hml hts hown hlk hnm hd0 hC hS hbs hP hl
  subst hs0
  obtain ⟨w1, w2, w3, w4, w5, w6⟩ := hw
  have hW9 : mW M2 = Cond.code M2.1 M2.2.1 M2.2.2.1 none :: gw := by rw [mW, hr9]
  exact px_callD hd0 (va_runI_D (As := As) (rest := st) ⟨hx, hb, hml, hown, dr_words hts d0⟩ hM (cwI As.length (dr_words hts d0) (gw_in (gw_mW w4)) hW9 rfl rfl (dr_words hts d0 _ w3) (dr_words hts d0 _ w1) (dr_words hts d0 _ w2) w5 w6 hR) ⟨pcM.blind, fun U hU hW => ⟨rfl, by rw [hU]; exact cx.warm hW (cx.same (u := s) rfl (hC.kept hS.2.1)), by rw [hU]; exact Nat.le_trans hbs hS.1, by rw [hU]; exact hP⟩⟩ rfl rfl hl.1 rfl (lv_room hst) hd hf) hS (fun r n2 h2 H1 locs1 d1 hd1 hQ hP1 hS1 => kk r n2 h2 hQ p e s m args below meth c _ _ lsA d1 hx hb hr hml hts hown hlk hnm hd1 hC hS1 hbs hP1 hl)
theorem v_callIN {l : Launch} {G : vG} {M : vM} {rc rs : Nat} {Fz : vFin} {pc : Nat} {ls : List (Option Value)} {st : List Value} {n : Nat} {h : AH} {cells slots : Nat} {M2 : vM} {index mc ms : Nat} {As : List Value} {st0 : List Value} {Q2 : Option Value → Nat → AH → Prop} {b : Nat} {host : String} (hd : decode M.2.1 pc = .ok (.invokespecial index, 3)) (hM : Mt l G M2 (.ref b :: As) n h mc ms Q2) (hw : cIN M.1.cls index M2 host As.length) (hr9 : M2.2.2.2.1 = none) (hs0 : st0 = As.reverse ++ .ref b :: st) (hR : M2.2.2.2.2.1 + 1 ≤ M.2.2.2.2.1 ∧ 8 + (M2.2.2.1 + 11) + M2.2.2.2.2.2 ≤ M.2.2.2.2.2) (hst : (st.map fun v => v.category).sum ≤ 8) (hf : cells + mc ≤ rc ∧ slots + ms ≤ rs) (kk : ∀ (r : Option Value) (n2 : Nat) (h2 : AH), Q2 r n2 h2 → V l G M rc rs Fz (pc + 3) ls (r.toList ++ st) n2 h2 (cells + mc) (slots + ms)) : V l G M rc rs Fz pc ls (st0) n h cells slots := by
  intro p e s m args below meth c H locs lsA d0 hx hb hr hml hts hown hlk hnm hd0 hC hS hbs hP hl
  subst hs0
  have hnest : va_Nw (.methodLinkNest M.1.cls index M2.1 host) (s.setDrawn d0) := va_Nw.same (u := s) rfl rfl (hC.nest _ hw.1)
  obtain ⟨w1, w2, w3, w4, w5, w6⟩ := hw
  have hW9 : mW M2 = Cond.code M2.1 M2.2.1 M2.2.2.1 none :: gw := by rw [mW, hr9]
  exact px_callD hd0 (va_runIN_D (host := host) (As := As) (rest := st) ⟨hx, hb, hml, hown, dr_words hts d0⟩ hM ⟨va_cnB As.length (dr_words hts d0) (gw_in (gw_mW w4)) hW9 rfl rfl hnest (dr_words hts d0 _ w3) w6 hR, w5, dr_words hts d0 _ w2⟩ ⟨pcM.blind, fun U hU hW => ⟨rfl, by rw [hU]; exact cx.warm hW (cx.same (u := s) rfl (hC.kept hS.2.1)), by rw [hU]; exact Nat.le_trans hbs hS.1, by rw [hU]; exact hP⟩⟩ rfl rfl hl.1 rfl (lv_room hst) hd hf) hS (fun r n2 h2 H1 locs1 d1 hd1 hQ hP1 hS1 => kk r n2 h2 hQ p e s m args below meth c _ _ lsA d1 hx hb hr hml hts hown hlk hnm hd1 hC hS1 hbs hP1 hl)
theorem v_callSN {l : Launch} {G : vG} {M : vM} {rc rs : Nat} {Fz : vFin} {pc : Nat} {ls : List (Option Value)} {st : List Value} {n : Nat} {h : AH} {cells slots : Nat} {M2 : vM} {index mc ms : Nat} {As : List Value} {st0 : List Value} {Q2 : Option Value → Nat → AH → Prop} {host : String} (hd : decode M.2.1 pc = .ok (.invokestatic index, 3)) (hM : Mt l G M2 As n h mc ms Q2) (hw : cSN M.1.cls index M2 host As.length) (hs0 : st0 = As.reverse ++ st) (hR : M2.2.2.2.2.1 + 1 ≤ M.2.2.2.2.1 ∧ 8 + (M2.2.2.1 + 11) + M2.2.2.2.2.2 ≤ M.2.2.2.2.2) (hst : (st.map fun v => v.category).sum ≤ 8) (hf : cells + mc ≤ rc ∧ slots + ms ≤ rs) (kk : ∀ (r : Option Value) (n2 : Nat) (h2 : AH), Q2 r n2 h2 → V l G M rc rs Fz (pc + 3) ls (r.toList ++ st) n2 h2 (cells + mc) (slots + ms)) : V l G M rc rs Fz pc ls (st0) n h cells slots := by
  intro p e s m args below meth c H locs lsA d0 hx hb hr hml hts hown hlk hnm hd0 hC hS hbs hP hl
  subst hs0
  have hnest : va_Nw (.methodLinkNest M.1.cls index M2.1 host) (s.setDrawn d0) := va_Nw.same (u := s) rfl rfl (hC.nest _ hw.1)
  obtain ⟨w1, w2, w3, w4, w6⟩ := hw
  exact px_callD hd0 (va_runSN_D (host := host) (As := As) (rest := st) ⟨hx, hb, hml, hown, dr_words hts d0⟩ hM ⟨va_cnB As.length (dr_words hts d0) (gw_in (gw_mW w4)) rfl rfl rfl hnest (dr_words hts d0 _ w3) w6 hR, dr_words hts d0 _ w2, trivial⟩ ⟨pcM.blind, fun U hU hW => ⟨rfl, by rw [hU]; exact cx.warm hW (cx.same (u := s) rfl (hC.kept hS.2.1)), by rw [hU]; exact Nat.le_trans hbs hS.1, by rw [hU]; exact hP⟩⟩ rfl rfl hl.1 rfl (lv_room hst) hd hf) hS (fun r n2 h2 H1 locs1 d1 hd1 hQ hP1 hS1 => kk r n2 h2 hQ p e s m args below meth c _ _ lsA d1 hx hb hr hml hts hown hlk hnm hd1 hC hS1 hbs hP1 hl)
theorem v_iret {l : Launch} {G : vG} {M : vM} {rc rs : Nat} {pc : Nat} {ls : List (Option Value)} {n : Nat} {h : AH} {cells slots : Nat} {Q : Option Value → Nat → AH → Prop} {mc ms : Nat} {v : Int32} (hd : decode M.2.1 pc = .ok (.ireturn, 1)) (hr2 : M.2.2.2.1 = some .int) (hq : Q (some (.int v)) n h) (hc1 : cells ≤ mc) (hs1 : slots ≤ ms) : V l G M rc rs (finM G Q mc ms) pc ls [.int v] n h cells slots := by
  intro p e s m args below meth c H locs lsA d0 hx hb hr hml hts hown hlk hnm hd0 hC hS hbs hP hl
  refine W.widen hc1 hs1 (W.endD hd0 ?_)
  exact W.iret hx hb (hr.trans hr2) (fun t ht hW => ⟨⟨_, n, h, rfl, hq, by rw [ht]; exact hP⟩, hS.F ht⟩) hS.2.2 hd hlk
theorem v_zret {l : Launch} {G : vG} {M : vM} {rc rs : Nat} {pc : Nat} {ls : List (Option Value)} {n : Nat} {h : AH} {cells slots : Nat} {Q : Option Value → Nat → AH → Prop} {mc ms : Nat} {v : Int32} {ty : FieldType} (hd : decode M.2.1 pc = .ok (.ireturn, 1)) (hr2 : M.2.2.2.1 = some ty) (hn9 : narrow ty (.int v) = .int v) (hq : Q (some (.int v)) n h) (hc1 : cells ≤ mc) (hs1 : slots ≤ ms) : V l G M rc rs (finM G Q mc ms) pc ls [.int v] n h cells slots := by
  intro p e s m args below meth c H locs lsA d0 hx hb hr hml hts hown hlk hnm hd0 hC hS hbs hP hl
  refine W.widen hc1 hs1 (W.endD hd0 ?_)
  exact W.zret hx hb (hr.trans hr2) hn9 (fun t ht hW => ⟨⟨_, n, h, rfl, hq, by rw [ht]; exact hP⟩, hS.F ht⟩) hS.2.2 hd hlk
theorem v_vret {l : Launch} {G : vG} {M : vM} {rc rs : Nat} {pc : Nat} {ls : List (Option Value)} {n : Nat} {h : AH} {cells slots : Nat} {Q : Option Value → Nat → AH → Prop} {mc ms : Nat}  (hd : decode M.2.1 pc = .ok (.return_, 1)) (hr2 : M.2.2.2.1 = none) (hq : Q none n h) (hc1 : cells ≤ mc) (hs1 : slots ≤ ms) : V l G M rc rs (finM G Q mc ms) pc ls [] n h cells slots := by
  intro p e s m args below meth c H locs lsA d0 hx hb hr hml hts hown hlk hnm hd0 hC hS hbs hP hl
  refine W.widen hc1 hs1 (W.endD hd0 ?_)
  exact W.vret hx hb (hr.trans hr2) (fun t ht hW => ⟨⟨_, n, h, rfl, hq, by rw [ht]; exact hP⟩, hS.F ht⟩) hS.2.2 hd hlk
theorem v_aret {l : Launch} {G : vG} {M : vM} {rc rs : Nat} {pc : Nat} {ls : List (Option Value)} {n : Nat} {h : AH} {cells slots : Nat} {Q : Option Value → Nat → AH → Prop} {mc ms : Nat} {v : Nat} {rt : FieldType} (hd : decode M.2.1 pc = .ok (.areturn, 1)) (hr2 : M.2.2.2.1 = some rt) (hrt : (∃ n, rt = .object n) ∨ ∃ t, rt = .array t) (hq : Q (some (.ref v)) n h) (hc1 : cells ≤ mc) (hs1 : slots ≤ ms) : V l G M rc rs (finM G Q mc ms) pc ls [.ref v] n h cells slots := by
  intro p e s m args below meth c H locs lsA d0 hx hb hr hml hts hown hlk hnm hd0 hC hS hbs hP hl
  refine W.widen hc1 hs1 (W.endD hd0 ?_)
  exact W.aret hx hb (hr.trans hr2) hrt (Or.inr ⟨_, rfl⟩) (fun t ht hW => ⟨⟨_, n, h, rfl, hq, by rw [ht]; exact hP⟩, hS.F ht⟩) hS.2.2 hd hlk
theorem v_dret {l : Launch} {G : vG} {M : vM} {rc rs : Nat} {pc : Nat} {ls : List (Option Value)} {n : Nat} {h : AH} {cells slots : Nat} {Q : Option Value → Nat → AH → Prop} {mc ms : Nat} {v : UInt64} (hd : decode M.2.1 pc = .ok (.dreturn, 1)) (hr2 : M.2.2.2.1 = some .double) (hq : Q (some (.double v)) n h) (hc1 : cells ≤ mc) (hs1 : slots ≤ ms) : V l G M rc rs (finM G Q mc ms) pc ls [.double v] n h cells slots := by
  intro p e s m args below meth c H locs lsA d0 hx hb hr hml hts hown hlk hnm hd0 hC hS hbs hP hl
  refine W.widen hc1 hs1 (W.endD hd0 ?_)
  exact W.dret hx hb (hr.trans hr2) (fun t ht hW => ⟨⟨_, n, h, rfl, hq, by rw [ht]; exact hP⟩, hS.F ht⟩) hS.2.2 hd hlk
theorem v_fret {l : Launch} {G : vG} {M : vM} {rc rs : Nat} {pc : Nat} {ls : List (Option Value)} {n : Nat} {h : AH} {cells slots : Nat} {Q : Option Value → Nat → AH → Prop} {mc ms : Nat} {v : UInt32} (hd : decode M.2.1 pc = .ok (.freturn, 1)) (hr2 : M.2.2.2.1 = some .float) (hq : Q (some (.float v)) n h) (hc1 : cells ≤ mc) (hs1 : slots ≤ ms) : V l G M rc rs (finM G Q mc ms) pc ls [.float v] n h cells slots := by
  intro p e s m args below meth c H locs lsA d0 hx hb hr hml hts hown hlk hnm hd0 hC hS hbs hP hl
  refine W.widen hc1 hs1 (W.endD hd0 ?_)
  exact W.fret hx hb (hr.trans hr2) (fun t ht hW => ⟨⟨_, n, h, rfl, hq, by rw [ht]; exact hP⟩, hS.F ht⟩) hS.2.2 hd hlk
