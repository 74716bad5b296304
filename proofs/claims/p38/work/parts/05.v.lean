/-! V: a walk over a heap that is written as a function of addresses; every row is one row of the kit, said once for all methods -/
abbrev AH : Type := Nat → Option va_E
def px_P (D : va_G) (bs n : Nat) (h : AH) (H : Heap) : Prop := H.size = n ∧ bs ≤ n ∧ ∀ (a : Nat) (e : va_E), h a = some e → bs ≤ a ∧ va_at D vwCl (a, e) H
theorem px_P.one {D : va_G} {bs n : Nat} {h : AH} {H : Heap} {a : Nat} {e : va_E} (hP : px_P D bs n h H) (he : h a = some e) : va_P D vwCl [(a, e)] H := by
  intro k q hk
  cases k with
  | zero => cases hk; exact (hP.2.2 a e he).2
  | succ k => simp at hk
theorem px_P.two {D : va_G} {bs n : Nat} {h : AH} {H : Heap} {a b : Nat} {e f : va_E} (hP : px_P D bs n h H) (he : h a = some e) (hf : h b = some f) : va_P D vwCl [(a, e), (b, f)] H := by
  intro k q hk
  cases k with
  | zero => cases hk; exact (hP.2.2 a e he).2
  | succ k =>
    cases k with
    | zero => cases hk; exact (hP.2.2 b f hf).2
    | succ k => simp at hk
theorem px_P.set {D : va_G} {bs n : Nat} {h : AH} {H H1 : Heap} {a : Nat} {e0 e : va_E} (hP : px_P D bs n h H) (he : h a = some e0) (hq : va_at D vwCl (a, e) H1) (hz : H1.size = H.size) (oq : ∀ q : Nat, q ≠ a → H1[q]? = H[q]?) : px_P D bs n (va_up h a (some e)) H1 := by
  refine ⟨hz.trans hP.1, hP.2.1, fun b e' hb => ?_⟩
  unfold va_up at hb
  by_cases hba : b = a
  · rw [if_pos hba] at hb
    cases hb
    subst hba
    exact ⟨(hP.2.2 _ _ he).1, hq⟩
  · rw [if_neg hba] at hb
    obtain ⟨g1, g2⟩ := hP.2.2 _ _ hb
    exact ⟨g1, g2.kept (oq b hba)⟩
theorem px_P.push {D : va_G} {bs n : Nat} {h : AH} {H H1 : Heap} {e : va_E} (hP : px_P D bs n h H) (hq : va_at D vwCl (n, e) H1) (hz : H1.size = n + 1) (oq : ∀ q : Nat, q < n → H1[q]? = H[q]?) : px_P D bs (n + 1) (va_up h n (some e)) H1 := by
  refine ⟨hz, Nat.le_succ_of_le hP.2.1, fun b e' hb => ?_⟩
  unfold va_up at hb
  by_cases hba : b = n
  · rw [if_pos hba] at hb
    cases hb
    subst hba
    exact ⟨hP.2.1, hq⟩
  · rw [if_neg hba] at hb
    obtain ⟨g1, g2⟩ := hP.2.2 _ _ hb
    have hl : b < H.size := g2.lt
    exact ⟨g1, g2.kept (oq b (by rw [← hP.1]; exact hl))⟩
/-- the givens of the start that no call changes: class and array numbers, the script, statics, tables, String constants -/
abbrev vG : Type := va_G × (Nat → ClassId) × (Nat → Nat → Nat) × Nat × (Nat → Int32)
abbrev gD (G : vG) : va_G := G.1
abbrev gC (G : vG) : Nat → ClassId := G.2.1
abbrev gA (G : vG) : Nat → Nat → Nat := G.2.2.1
abbrev gb (G : vG) : Nat := G.2.2.2.1
abbrev gx (G : vG) : Nat → Int32 := G.2.2.2.2
abbrev gT (G : vG) : List (ClassId × FieldType) := [(gC G 0, .int), (gC G 1, .char), (gC G 2, .byte), (gC G 3, .object RX1)]
abbrev gU (G : vG) : Nat → Prop := fun q => gb G ≤ q
def st_ix : List Nat := [128, 130, 146]
def st_tx : List String := ["~", "", " "]
def st_len : List Nat := [1, 0, 1]
def st_byt : List (List Int32) := [[126], [], [32]]
def dg_one (j : Nat) : Value := .int (nI (48 + j % 10))
def dg_ten (j : Nat) : Value := .int (nI (48 + j / 10))
def cx (G : vG) (s : State) (H : Heap) : Prop :=
  va_K (gD G) vwCl (gT G) s ∧ va_X (gA G 2 2) (gA G 2 3) (gx G) s H ∧ gA G 2 2 < gb G ∧
  va_Z "java/lang/String" "COMPACT_STRINGS" "Z" (.int 1) (gU G) s H ∧ va_Zq "jdk/internal/util/Preconditions" "SIOOBE_FORMATTER" "Ljava/util/function/BiFunction;" (gU G) s H ∧
  va_Z "java/lang/Integer" "DigitOnes" "[B" (.ref (gA G 2 0)) (gU G) s H ∧ va_T .byte (gA G 2 0) 100 dg_one (gU G) s H ∧
  va_Z "java/lang/Integer" "DigitTens" "[B" (.ref (gA G 2 1)) (gU G) s H ∧ va_T .byte (gA G 2 1) 100 dg_ten (gU G) s H ∧
  (∀ q ∈ nl, va_Nw (.methodLinkNest q.1 q.2.1 q.2.2.1 q.2.2.2) s) ∧ vk_S 3 st_len st_byt (gA G 0) (gA G 1) (gU G) s H ∧ (∀ i : Nat, i < 3 → vk_R RL (st_ix.getD i 0) (st_tx.getD i "") (gA G 0 i) s) ∧ (va_AO RX1 s ∧ va_Nw (.castable "[B" "java/lang/Cloneable") s)
theorem cx.al {G : vG} {u U : State} {H : Heap} (hv : u.vm.Alike U.vm) (hr : ∀ (k a : Nat) (tx : String), vk_R RL k tx a u → vk_R RL k tx a U) (ho : va_AO RX1 u ∧ va_Nw (.castable "[B" "java/lang/Cloneable") u → va_AO RX1 U ∧ va_Nw (.castable "[B" "java/lang/Cloneable") U) (hn : ∀ (a : String) (i : Nat) (x : MethodName) (h : String), va_Nw (.methodLinkNest a i x h) u → va_Nw (.methodLinkNest a i x h) U) (h : cx G u H) : cx G U H := by
  obtain ⟨h1, h2, h3, h4, h5, h6, h7, h8, h9, h13, h10, h11, h12⟩ := h
  exact ⟨va_K.moved hv h1, va_X.moved hv h2, h3, va_Z.moved hv h4, va_Zq.moved hv h5, va_Z.moved hv h6, va_T.moved hv h7, va_Z.moved hv h8, va_T.moved hv h9, fun q hq => hn _ _ _ _ (h13 q hq), vk_S.moved hv h10, fun i hi => hr _ _ _ (h11 i hi), ho h12⟩
theorem cx.warm {G : vG} {s U : State} {H : Heap} (hW : s.WarmedH U.vm) (h : cx G s H) : cx G U H := h.al hW.alike (fun _ _ _ q => vk_R.warm hW q) (fun q => ⟨va_AO.moved hW.alike q.1, va_Nw.warmC hW q.2⟩) (fun _ _ _ _ q => va_Nw.warmM hW q)
theorem cx.same {G : vG} {u U : State} {H : Heap} (hv : U.vm = u.vm) (h : cx G u H) : cx G U H := h.al (by rw [hv]; exact Vm.Alike.refl _) (fun _ _ _ q => vk_R.same hv q) (fun q => ⟨va_AO.moved (by rw [hv]; exact Vm.Alike.refl _) q.1, va_Nw.same rfl hv.symm q.2⟩) (fun _ _ _ _ q => va_Nw.same rfl hv.symm q)
theorem cx.kept {G : vG} {s : State} {H H1 : Heap} (h : cx G s H) (hq : ∀ a : Nat, a < H.size → ¬ gU G a → H1[a]? = H[a]?) : cx G s H1 := by
  obtain ⟨h1, h2, h3, h4, h5, h6, h7, h8, h9, h13, h10, h11⟩ := h
  have hb : H1[gA G 2 2]? = H[gA G 2 2]? := by
    obtain ⟨scr, e1, -⟩ := h2
    exact hq _ (Array.getElem?_eq_some_iff.mp e1).1 (Nat.not_le.mpr h3)
  exact ⟨h1, h2.kept hb, h3, h4.kept hq, h5.kept hq, h6.kept hq, h7.kept hq, h8.kept hq, h9.kept hq, h13, h10.kept hq, h11⟩
/-- a method: name, code, locals, answer's type, frames and words of its calls -/
abbrev vM : Type := MethodName × ByteArray × Nat × Option FieldType × Nat × Nat
def mW (M : vM) : List Cond := Cond.code M.1 M.2.1 M.2.2.1 M.2.2.2.1 :: gw
/-- locals: the whole frame, unset ones as none -/
def lok (lsA : Array Slot) (nL : Nat) (ls : List (Option Value)) : Prop := lsA.size = nL ∧ lv_wf lsA ∧ ∀ (i : Nat) (v : Value), ls[i]? = some (some v) → lsA[i]? = some (.val v)
def lprs (ls : List (Option Value)) : List (Nat × Value) := (List.range ls.length).filterMap (fun i => match ls[i]? with | some (some v) => some (i, v) | _ => none)
theorem lprs_mem {ls : List (Option Value)} {i : Nat} {v : Value} : (i, v) ∈ lprs ls ↔ ls[i]? = some (some v) := by
  unfold lprs
  constructor
  · intro h
    obtain ⟨j, hj, e⟩ := List.mem_filterMap.mp h
    split at e
    · rename_i w hw
      cases e
      exact hw
    · cases e
  · intro h
    refine List.mem_filterMap.mpr ⟨i, List.mem_range.mpr (List.getElem?_eq_some_iff.mp h).1, ?_⟩
    rw [h]
theorem lok.has {lsA : Array Slot} {nL : Nat} {ls : List (Option Value)} (h : lok lsA nL ls) : lv_has lsA nL (lprs ls) := ⟨h.1, h.2.1, fun q hq => h.2.2 q.1 q.2 (lprs_mem.mp hq)⟩
def l1 (ls : List (Option Value)) : Bool := ls.all (fun o => match o with | some v => v.category == 1 | none => true)
theorem l1_at {ls : List (Option Value)} (h : l1 ls = true) {i : Nat} {v : Value} (hv : ls[i]? = some (some v)) : ¬ v.category = 2 := by
  have := List.all_eq_true.mp h (some v) (List.mem_of_getElem? hv)
  simp only [beq_iff_eq] at this
  omega
theorem lok.put {lsB : Array Slot} {nL : Nat} {ls : List (Option Value)} {i : Nat} {v : Value} (h1 : l1 ls = true) (hB : lv_has lsB nL ((i, v) :: (lprs ls).filter (fun q => !(q.1 == i) && !(q.1 + 1 == i && q.2.category == 2)))) : lok lsB nL (ls.set i (some v)) := by
  refine ⟨hB.1, hB.2.1, fun j w hj => ?_⟩
  by_cases hji : j = i
  · subst hji
    have hl : j < ls.length := by
      have := (List.getElem?_eq_some_iff.mp hj).1
      simpa using this
    rw [List.getElem?_set_self hl] at hj
    cases hj
    exact hB.2.2 _ List.mem_cons_self
  · rw [List.getElem?_set_ne (Ne.symm hji)] at hj
    refine hB.2.2 (j, w) (List.mem_cons_of_mem _ (List.mem_filter.mpr ⟨lprs_mem.mpr hj, ?_⟩))
    have hc := l1_at h1 hj
    simp [hji, hc]
theorem lok.entry {vs : List Value} {n : Nat} (h : (lg_sl vs).length ≤ n) (h1 : l1 (vs.map some) = true) : lok ((lg_sl vs ++ List.replicate (n - (lg_sl vs).length) Slot.unset).toArray) n (vs.map some ++ List.replicate (n - vs.length) none) := by
  obtain ⟨a1, a2, a3⟩ := lv_entry vs h
  refine ⟨a1, a2, fun i v hv => ?_⟩
  by_cases hi : i < vs.length
  · rw [List.getElem?_append_left (by simpa using hi)] at hv
    refine a3 (i, v) ?_
    have key : ∀ (ws : List Value) (k : Nat), l1 (ws.map some) = true → ∀ (j : Nat) (x : Value), ws[j]? = some x → (k + j, x) ∈ lv_args k ws := by
      intro ws
      induction ws with
      | nil => intro k _ j x hx; simp at hx
      | cons y ys ih =>
        intro k hl j x hx
        have hy : ¬ y.category = 2 := l1_at (ls := (y :: ys).map some) hl (i := 0) rfl
        have hl2 : l1 (ys.map some) = true := by
          simp only [l1, List.map_cons, List.all_cons, Bool.and_eq_true] at hl
          exact hl.2
        cases j with
        | zero => cases hx; exact List.mem_cons_self
        | succ j =>
          refine List.mem_cons_of_mem _ ?_
          rw [if_neg hy]
          have := ih (k + 1) hl2 j x hx
          rwa [show k + 1 + j = k + (j + 1) by omega] at this
    have := key vs 0 h1 i v (by simpa using hv)
    simpa using this
  · rw [List.getElem?_append_right (by simpa using hi)] at hv
    have := List.eq_of_mem_replicate (List.mem_of_getElem? hv)
    cases this
abbrev vFin : Type := List Frame → Array Value → State → State → Prop
def V (l : Launch) (G : vG) (M : vM) (rc rs : Nat) (Fz : vFin) (pc : Nat) (ls : List (Option Value)) (st : List Value) (n : Nat) (h : AH) (cells slots : Nat) : Prop :=
  ∀ (p : Program) (e : Env) (s : State) (m : MethodId) (args : Array Value) (below : List Frame) (meth : Method) (c : Code) (H : Heap) (locs : List Loc) (lsA : Array Slot) (d0 : Drawn),
    p.tables.exec = Jvm.exec → c.code = M.2.1 → meth.sig.returnType = M.2.2.2.1 → c.maxLocals = M.2.2.1 → (∀ w ∈ gw, w.before args s = true) → s.vm.findClass M.1.cls = some m.cls → meth.locks = false → meth.name = M.1.name → s.drawn.sameBut d0 lw_cs →
    cx G s s.heap → va_S (gU G) s.heap H locs → gb G ≤ s.heap.size → px_P (gD G) (gb G) n h H → lok lsA M.2.2.1 ls →
    W p l e ({ frames := M.2.2.2.2.1, cells := rc, slots := rs, locals := M.2.2.2.2.2 } : Room) (s.setDrawn d0) m args below meth c H locs cells slots (Fz below args s) (F0 m pc lsA st)
def qcM (G : vG) (Q : Option Value → Nat → AH → Prop) : Array Value → State → Outcome → State → Prop := fun _ st o t => (∃ (r : Option Value) (n : Nat) (h : AH), o = .returned r ∧ Q r n h ∧ px_P (gD G) (gb G) n h t.heap) ∧ va_F (gU G) st t
def finM (G : vG) (Q : Option Value → Nat → AH → Prop) (mc ms : Nat) : vFin := fun below args s => MQD lw_cs below (qcM G Q) args s mc ms (gU G)
def pcM (G : vG) (As : List Value) (n : Nat) (h : AH) : Array Value → State → Prop := va_Pc As (fun U => cx G U U.heap ∧ gb G ≤ U.heap.size ∧ px_P (gD G) (gb G) n h U.heap)
/-- a method's contract: from this heap, with these arguments, it returns, and Q holds of answer and heap -/
def Mt (l : Launch) (G : vG) (M : vM) (As : List Value) (n : Nat) (h : AH) (mc ms : Nat) (Q : Option Value → Nat → AH → Prop) : Prop :=
  MetD lw_cs l M.1 (mW M) ({ frames := M.2.2.2.2.1, cells := mc, slots := ms, locals := M.2.2.2.2.2 } : Room) (pcM G As n h) (qcM G Q) mc ms (gU G)
theorem pcM.blind {G : vG} {As : List Value} {n : Nat} {h : AH} : FrameBlind (pcM G As n h) := fun _ U g mk q => ⟨q.1, cx.same (u := U) rfl q.2.1, q.2.2.1, q.2.2.2⟩
theorem Mt.of {l : Launch} {G : vG} {M : vM} {As : List Value} {n : Nat} {h : AH} {mc ms : Nat} {Q : Option Value → Nat → AH → Prop} (hy : plainName M.1.cls = true) (hl : (lg_sl As).length ≤ M.2.2.1) (h1 : l1 (As.map some) = true)
    (k : V l G M mc ms (finM G Q mc ms) 0 (As.map some ++ List.replicate (M.2.2.1 - As.length) none) [] n h 0 0) : Mt l G M As n h mc ms Q := by
  refine MetD.ofW (cc := M.2.1) (maxL := M.2.2.1) (ret := M.2.2.2.1) hy rfl ?_
  intro p e s m args below meth c s₁ B hml hv hd0
  obtain ⟨rfl, hC, hb, hP⟩ := hv
  rw [lg_entry_eq]
  exact k p e s m _ below meth c s.heap [] _ s.drawn B.exec B.bytes B.returns hml (fun w hw => atoms_spec (ws := mW M) B.pre w (List.mem_cons_of_mem _ hw)) (findClass_of_methodNamed B.named) B.notSynchronized (name_of_methodNamed B.named B.method).1 hd0 hC va_S.rf hb hP (lok.entry hl h1)
theorem gw_good : ∀ w ∈ gw, (w.onTables && w.keeps) = true ∨ ∃ ty, w = .arrayClass ty := by
  have h : gw.all goodWord = true := by decide +kernel
  exact fun w hw => good_of_word (List.all_eq_true.mp h w hw)
theorem gw_in {ws : List Cond} (h : ∀ w ∈ ws, w ∈ gw) : GoodIn gw ws := fun w hw => ⟨h w hw, gw_good w (h w hw)⟩
theorem gw_mW {M : vM} (h : Cond.code M.1 M.2.1 M.2.2.1 M.2.2.2.1 ∈ gw) : ∀ w ∈ mW M, w ∈ gw := fun w hw => (List.mem_cons.mp hw).elim (fun q => by rw [q]; exact h) id
theorem px_callD {p : Program} {l : Launch} {e : Env} {R : Room} {s : State} {m : MethodId} {args : Array Value} {below : List Frame} {meth : Method} {c : Code} {H : Heap} {locs : List Loc} {cells slots : Nat} {Q : State → Prop} {pc : Nat} {ls : Array Slot} {rest st0 : List Value} {a : Array Value} {mc ms : Nat} {G : vG} {d0 : Drawn} {Q2 : Option Value → Nat → AH → Prop} (hd0 : s.drawn.sameBut d0 lw_cs)
    (hr : va_RunD lw_cs p l e R (s.setDrawn d0) m args below meth c H locs cells slots mc ms (F0 m pc ls st0) rest (qcM G Q2 a) (gU G)) (hS : va_S (gU G) s.heap H locs)
    (kk : ∀ (r : Option Value) (n' : Nat) (h' : AH) (H1 : Heap) (locs1 : List Loc) (d' : Drawn), s.drawn.sameBut d' lw_cs → Q2 r n' h' → px_P (gD G) (gb G) n' h' H1 → va_S (gU G) s.heap H1 locs1 → W p l e R (s.setDrawn d') m args below meth c H1 locs1 (cells + mc) (slots + ms) Q (F0 m (pc + 3) ls (r.toList ++ rest))) : W p l e R (s.setDrawn d0) m args below meth c H locs cells slots Q (F0 m pc ls st0) := by
  intro T hT X
  obtain ⟨v, st₀, t, T', L, d', hd', h0, X', hL, e1, e2, ⟨⟨r, n', h', hv, hq, hp⟩, hz, hk⟩, st⟩ := hr T hT X
  cases hv
  rw [h0] at hz hk
  obtain ⟨t2, a1, b1⟩ := kk _ n' h' T'.heap (locs ++ L) d' (hd0.trans hd') hq (by rw [e1]; exact hp)
    ⟨Nat.le_trans hS.1 (by rw [e1]; exact hz), fun q h1 h2 => by rw [e1, hk q (Nat.lt_of_lt_of_le h1 hS.1) h2]; exact hS.2.1 q h1 h2, fun q hq => by
      rcases List.mem_append.mp hq with h | h
      · exact hS.2.2 q h
      · exact hL q h⟩ T' rfl X'
  exact ⟨t2, st t2 a1, b1⟩
theorem v_iconst {l : Launch} {G : vG} {M : vM} {rc rs : Nat} {Fz : vFin} {pc : Nat} {ls : List (Option Value)} {st : List Value} {n : Nat} {h : AH} {cells slots : Nat} {k : Int} {v : Int32} (hd : decode M.2.1 pc = .ok (.iconst k, 1)) (hv : Int32.ofInt k = v) (kk : V l G M rc rs Fz (pc + 1) ls (.int v :: st) n h cells slots) : V l G M rc rs Fz pc ls (st) n h cells slots := by
  intro p e s m args below meth c H locs lsA d0 hx hb hr hml hts hown hlk hnm hd0 hC hS hbs hP hl
  exact lv_iconst hx hb hd hv (kk p e s m args below meth c H locs lsA d0 hx hb hr hml hts hown hlk hnm hd0 hC hS hbs hP hl)
theorem v_bipush {l : Launch} {G : vG} {M : vM} {rc rs : Nat} {Fz : vFin} {pc : Nat} {ls : List (Option Value)} {st : List Value} {n : Nat} {h : AH} {cells slots : Nat} {k : Int} {v : Int32} (hd : decode M.2.1 pc = .ok (.bipush k, 2)) (hv : (Int8.ofInt k).toInt32 = v) (kk : V l G M rc rs Fz (pc + 2) ls (.int v :: st) n h cells slots) : V l G M rc rs Fz pc ls (st) n h cells slots := by
  intro p e s m args below meth c H locs lsA d0 hx hb hr hml hts hown hlk hnm hd0 hC hS hbs hP hl
  exact lv_bipush hx hb hd hv (kk p e s m args below meth c H locs lsA d0 hx hb hr hml hts hown hlk hnm hd0 hC hS hbs hP hl)
theorem v_sipush {l : Launch} {G : vG} {M : vM} {rc rs : Nat} {Fz : vFin} {pc : Nat} {ls : List (Option Value)} {st : List Value} {n : Nat} {h : AH} {cells slots : Nat} {k : Int} {v : Int32} (hd : decode M.2.1 pc = .ok (.sipush k, 3)) (hv : (Int16.ofInt k).toInt32 = v) (kk : V l G M rc rs Fz (pc + 3) ls (.int v :: st) n h cells slots) : V l G M rc rs Fz pc ls (st) n h cells slots := by
  intro p e s m args below meth c H locs lsA d0 hx hb hr hml hts hown hlk hnm hd0 hC hS hbs hP hl
  exact lv_sipush hx hb hd hv (kk p e s m args below meth c H locs lsA d0 hx hb hr hml hts hown hlk hnm hd0 hC hS hbs hP hl)
theorem v_iload_n {l : Launch} {G : vG} {M : vM} {rc rs : Nat} {Fz : vFin} {pc : Nat} {ls : List (Option Value)} {st : List Value} {n : Nat} {h : AH} {cells slots : Nat} {k : Fin 4} {x : Int32} (hd : decode M.2.1 pc = .ok (.iload_n k, 1)) (hv : ls[(k : Nat)]? = some (some (.int x))) (kk : V l G M rc rs Fz (pc + 1) ls (.int x :: st) n h cells slots) : V l G M rc rs Fz pc ls (st) n h cells slots := by
  intro p e s m args below meth c H locs lsA d0 hx hb hr hml hts hown hlk hnm hd0 hC hS hbs hP hl
  exact lv_iload_n hx hb hd rfl (hl.2.2 _ _ hv) (kk p e s m args below meth c H locs lsA d0 hx hb hr hml hts hown hlk hnm hd0 hC hS hbs hP hl)
theorem v_iload {l : Launch} {G : vG} {M : vM} {rc rs : Nat} {Fz : vFin} {pc : Nat} {ls : List (Option Value)} {st : List Value} {n : Nat} {h : AH} {cells slots : Nat} {k : Nat} {x : Int32} (hd : decode M.2.1 pc = .ok (.iload k, 2)) (hv : ls[k]? = some (some (.int x))) (kk : V l G M rc rs Fz (pc + 2) ls (.int x :: st) n h cells slots) : V l G M rc rs Fz pc ls (st) n h cells slots := by
  intro p e s m args below meth c H locs lsA d0 hx hb hr hml hts hown hlk hnm hd0 hC hS hbs hP hl
  exact lv_iload hx hb hd (hl.2.2 _ _ hv) (kk p e s m args below meth c H locs lsA d0 hx hb hr hml hts hown hlk hnm hd0 hC hS hbs hP hl)
theorem v_aload_n {l : Launch} {G : vG} {M : vM} {rc rs : Nat} {Fz : vFin} {pc : Nat} {ls : List (Option Value)} {st : List Value} {n : Nat} {h : AH} {cells slots : Nat} {k : Fin 4} {x : Nat} (hd : decode M.2.1 pc = .ok (.aload_n k, 1)) (hv : ls[(k : Nat)]? = some (some (.ref x))) (kk : V l G M rc rs Fz (pc + 1) ls (.ref x :: st) n h cells slots) : V l G M rc rs Fz pc ls (st) n h cells slots := by
  intro p e s m args below meth c H locs lsA d0 hx hb hr hml hts hown hlk hnm hd0 hC hS hbs hP hl
  exact lv_aload_n hx hb hd rfl (hl.2.2 _ _ hv) (kk p e s m args below meth c H locs lsA d0 hx hb hr hml hts hown hlk hnm hd0 hC hS hbs hP hl)
theorem v_aload {l : Launch} {G : vG} {M : vM} {rc rs : Nat} {Fz : vFin} {pc : Nat} {ls : List (Option Value)} {st : List Value} {n : Nat} {h : AH} {cells slots : Nat} {k : Nat} {x : Nat} (hd : decode M.2.1 pc = .ok (.aload k, 2)) (hv : ls[k]? = some (some (.ref x))) (kk : V l G M rc rs Fz (pc + 2) ls (.ref x :: st) n h cells slots) : V l G M rc rs Fz pc ls (st) n h cells slots := by
  intro p e s m args below meth c H locs lsA d0 hx hb hr hml hts hown hlk hnm hd0 hC hS hbs hP hl
  exact lv_aload hx hb hd (hl.2.2 _ _ hv) (kk p e s m args below meth c H locs lsA d0 hx hb hr hml hts hown hlk hnm hd0 hC hS hbs hP hl)
theorem v_dload {l : Launch} {G : vG} {M : vM} {rc rs : Nat} {Fz : vFin} {pc : Nat} {ls : List (Option Value)} {st : List Value} {n : Nat} {h : AH} {cells slots : Nat} {k : Nat} {x : UInt64} (hd : decode M.2.1 pc = .ok (.dload k, 2)) (hv : ls[k]? = some (some (.double x))) (kk : V l G M rc rs Fz (pc + 2) ls (.double x :: st) n h cells slots) : V l G M rc rs Fz pc ls (st) n h cells slots := by
  intro p e s m args below meth c H locs lsA d0 hx hb hr hml hts hown hlk hnm hd0 hC hS hbs hP hl
  exact lv_dload hx hb hd (hl.2.2 _ _ hv) (kk p e s m args below meth c H locs lsA d0 hx hb hr hml hts hown hlk hnm hd0 hC hS hbs hP hl)
theorem v_istore_n {l : Launch} {G : vG} {M : vM} {rc rs : Nat} {Fz : vFin} {pc : Nat} {ls : List (Option Value)} {st : List Value} {n : Nat} {h : AH} {cells slots : Nat} {k : Fin 4} {x : Int32} (hd : decode M.2.1 pc = .ok (.istore_n k, 1)) (h1 : l1 ls = true) (hn : (k : Nat) < M.2.2.1) (kk : V l G M rc rs Fz (pc + 1) (ls.set (k : Nat) (some (.int x))) (st) n h cells slots) : V l G M rc rs Fz pc ls (.int x :: st) n h cells slots := by
  intro p e s m args below meth c H locs lsA d0 hx hb hr hml hts hown hlk hnm hd0 hC hS hbs hP hl
  exact lv_istore_n hx hb hd rfl hl.has hn rfl (fun ls2 hB => kk p e s m args below meth c H locs _ d0 hx hb hr hml hts hown hlk hnm hd0 hC hS hbs hP (lok.put h1 hB))
theorem v_istore {l : Launch} {G : vG} {M : vM} {rc rs : Nat} {Fz : vFin} {pc : Nat} {ls : List (Option Value)} {st : List Value} {n : Nat} {h : AH} {cells slots : Nat} {k : Nat} {x : Int32} (hd : decode M.2.1 pc = .ok (.istore k, 2)) (h1 : l1 ls = true) (hn : k < M.2.2.1) (kk : V l G M rc rs Fz (pc + 2) (ls.set k (some (.int x))) (st) n h cells slots) : V l G M rc rs Fz pc ls (.int x :: st) n h cells slots := by
  intro p e s m args below meth c H locs lsA d0 hx hb hr hml hts hown hlk hnm hd0 hC hS hbs hP hl
  exact lv_istore hx hb hd hl.has hn rfl (fun ls2 hB => kk p e s m args below meth c H locs _ d0 hx hb hr hml hts hown hlk hnm hd0 hC hS hbs hP (lok.put h1 hB))
theorem v_astore_n {l : Launch} {G : vG} {M : vM} {rc rs : Nat} {Fz : vFin} {pc : Nat} {ls : List (Option Value)} {st : List Value} {n : Nat} {h : AH} {cells slots : Nat} {k : Fin 4} {x : Nat} (hd : decode M.2.1 pc = .ok (.astore_n k, 1)) (h1 : l1 ls = true) (hn : (k : Nat) < M.2.2.1) (kk : V l G M rc rs Fz (pc + 1) (ls.set (k : Nat) (some (.ref x))) (st) n h cells slots) : V l G M rc rs Fz pc ls (.ref x :: st) n h cells slots := by
  intro p e s m args below meth c H locs lsA d0 hx hb hr hml hts hown hlk hnm hd0 hC hS hbs hP hl
  exact lv_astore_n hx hb hd rfl hl.has hn rfl (fun ls2 hB => kk p e s m args below meth c H locs _ d0 hx hb hr hml hts hown hlk hnm hd0 hC hS hbs hP (lok.put h1 hB))
theorem v_astore {l : Launch} {G : vG} {M : vM} {rc rs : Nat} {Fz : vFin} {pc : Nat} {ls : List (Option Value)} {st : List Value} {n : Nat} {h : AH} {cells slots : Nat} {k : Nat} {x : Nat} (hd : decode M.2.1 pc = .ok (.astore k, 2)) (h1 : l1 ls = true) (hn : k < M.2.2.1) (kk : V l G M rc rs Fz (pc + 2) (ls.set k (some (.ref x))) (st) n h cells slots) : V l G M rc rs Fz pc ls (.ref x :: st) n h cells slots := by
  intro p e s m args below meth c H locs lsA d0 hx hb hr hml hts hown hlk hnm hd0 hC hS hbs hP hl
  exact lv_astore hx hb hd hl.has hn rfl (fun ls2 hB => kk p e s m args below meth c H locs _ d0 hx hb hr hml hts hown hlk hnm hd0 hC hS hbs hP (lok.put h1 hB))
theorem v_iinc {l : Launch} {G : vG} {M : vM} {rc rs : Nat} {Fz : vFin} {pc : Nat} {ls : List (Option Value)} {st : List Value} {n : Nat} {h : AH} {cells slots : Nat} {i : Nat} {z : Int} {x : Int32} (hd : decode M.2.1 pc = .ok (.iinc i z, 3)) (hv : ls[i]? = some (some (.int x))) (h1 : l1 ls = true) (hn : i < M.2.2.1) (kk : V l G M rc rs Fz (pc + 3) (ls.set i (some (.int (x + Int32.ofInt z)))) (st) n h cells slots) : V l G M rc rs Fz pc ls (st) n h cells slots := by
  intro p e s m args below meth c H locs lsA d0 hx hb hr hml hts hown hlk hnm hd0 hC hS hbs hP hl
  obtain ⟨k, hk⟩ := List.getElem?_of_mem (lprs_mem.mpr hv)
  exact lv_iinc hx hb hd hl.has hk rfl hn rfl (fun ls2 hB => kk p e s m args below meth c H locs _ d0 hx hb hr hml hts hown hlk hnm hd0 hC hS hbs hP (lok.put h1 hB))
theorem v_iadd {l : Launch} {G : vG} {M : vM} {rc rs : Nat} {Fz : vFin} {pc : Nat} {ls : List (Option Value)} {st : List Value} {n : Nat} {h : AH} {cells slots : Nat} {x y : Int32} (hd : decode M.2.1 pc = .ok (.iadd, 1))  (kk : V l G M rc rs Fz (pc + 1) ls (.int (x + y) :: st) n h cells slots) : V l G M rc rs Fz pc ls (.int y :: .int x :: st) n h cells slots := by
  intro p e s m args below meth c H locs lsA d0 hx hb hr hml hts hown hlk hnm hd0 hC hS hbs hP hl
  exact lv_iadd hx hb hd  (kk p e s m args below meth c H locs lsA d0 hx hb hr hml hts hown hlk hnm hd0 hC hS hbs hP hl)
theorem v_isub {l : Launch} {G : vG} {M : vM} {rc rs : Nat} {Fz : vFin} {pc : Nat} {ls : List (Option Value)} {st : List Value} {n : Nat} {h : AH} {cells slots : Nat} {x y : Int32} (hd : decode M.2.1 pc = .ok (.isub, 1))  (kk : V l G M rc rs Fz (pc + 1) ls (.int (x - y) :: st) n h cells slots) : V l G M rc rs Fz pc ls (.int y :: .int x :: st) n h cells slots := by
  intro p e s m args below meth c H locs lsA d0 hx hb hr hml hts hown hlk hnm hd0 hC hS hbs hP hl
  exact lv_isub hx hb hd  (kk p e s m args below meth c H locs lsA d0 hx hb hr hml hts hown hlk hnm hd0 hC hS hbs hP hl)
theorem v_imul {l : Launch} {G : vG} {M : vM} {rc rs : Nat} {Fz : vFin} {pc : Nat} {ls : List (Option Value)} {st : List Value} {n : Nat} {h : AH} {cells slots : Nat} {x y : Int32} (hd : decode M.2.1 pc = .ok (.imul, 1))  (kk : V l G M rc rs Fz (pc + 1) ls (.int (x * y) :: st) n h cells slots) : V l G M rc rs Fz pc ls (.int y :: .int x :: st) n h cells slots := by
  intro p e s m args below meth c H locs lsA d0 hx hb hr hml hts hown hlk hnm hd0 hC hS hbs hP hl
  exact lv_imul hx hb hd  (kk p e s m args below meth c H locs lsA d0 hx hb hr hml hts hown hlk hnm hd0 hC hS hbs hP hl)
theorem v_iand {l : Launch} {G : vG} {M : vM} {rc rs : Nat} {Fz : vFin} {pc : Nat} {ls : List (Option Value)} {st : List Value} {n : Nat} {h : AH} {cells slots : Nat} {x y : Int32} (hd : decode M.2.1 pc = .ok (.iand, 1))  (kk : V l G M rc rs Fz (pc + 1) ls (.int (x &&& y) :: st) n h cells slots) : V l G M rc rs Fz pc ls (.int y :: .int x :: st) n h cells slots := by
  intro p e s m args below meth c H locs lsA d0 hx hb hr hml hts hown hlk hnm hd0 hC hS hbs hP hl
  exact lv_iand hx hb hd  (kk p e s m args below meth c H locs lsA d0 hx hb hr hml hts hown hlk hnm hd0 hC hS hbs hP hl)
theorem v_ior {l : Launch} {G : vG} {M : vM} {rc rs : Nat} {Fz : vFin} {pc : Nat} {ls : List (Option Value)} {st : List Value} {n : Nat} {h : AH} {cells slots : Nat} {x y : Int32} (hd : decode M.2.1 pc = .ok (.ior, 1))  (kk : V l G M rc rs Fz (pc + 1) ls (.int (x ||| y) :: st) n h cells slots) : V l G M rc rs Fz pc ls (.int y :: .int x :: st) n h cells slots := by
  intro p e s m args below meth c H locs lsA d0 hx hb hr hml hts hown hlk hnm hd0 hC hS hbs hP hl
  exact lv_ior hx hb hd  (kk p e s m args below meth c H locs lsA d0 hx hb hr hml hts hown hlk hnm hd0 hC hS hbs hP hl)
theorem v_ishl {l : Launch} {G : vG} {M : vM} {rc rs : Nat} {Fz : vFin} {pc : Nat} {ls : List (Option Value)} {st : List Value} {n : Nat} {h : AH} {cells slots : Nat} {x y : Int32} (hd : decode M.2.1 pc = .ok (.ishl, 1))  (kk : V l G M rc rs Fz (pc + 1) ls (.int (x <<< (y &&& 31)) :: st) n h cells slots) : V l G M rc rs Fz pc ls (.int y :: .int x :: st) n h cells slots := by
  intro p e s m args below meth c H locs lsA d0 hx hb hr hml hts hown hlk hnm hd0 hC hS hbs hP hl
  exact lv_ishl hx hb hd  (kk p e s m args below meth c H locs lsA d0 hx hb hr hml hts hown hlk hnm hd0 hC hS hbs hP hl)
theorem v_ishr {l : Launch} {G : vG} {M : vM} {rc rs : Nat} {Fz : vFin} {pc : Nat} {ls : List (Option Value)} {st : List Value} {n : Nat} {h : AH} {cells slots : Nat} {x y : Int32} (hd : decode M.2.1 pc = .ok (.ishr, 1))  (kk : V l G M rc rs Fz (pc + 1) ls (.int (x >>> (y &&& 31)) :: st) n h cells slots) : V l G M rc rs Fz pc ls (.int y :: .int x :: st) n h cells slots := by
  intro p e s m args below meth c H locs lsA d0 hx hb hr hml hts hown hlk hnm hd0 hC hS hbs hP hl
  exact lv_ishr hx hb hd  (kk p e s m args below meth c H locs lsA d0 hx hb hr hml hts hown hlk hnm hd0 hC hS hbs hP hl)
theorem v_idiv {l : Launch} {G : vG} {M : vM} {rc rs : Nat} {Fz : vFin} {pc : Nat} {ls : List (Option Value)} {st : List Value} {n : Nat} {h : AH} {cells slots : Nat} {x y : Int32} (hd : decode M.2.1 pc = .ok (.idiv, 1)) (hy : ¬ y = 0) (kk : V l G M rc rs Fz (pc + 1) ls (.int (x / y) :: st) n h cells slots) : V l G M rc rs Fz pc ls (.int y :: .int x :: st) n h cells slots := by
  intro p e s m args below meth c H locs lsA d0 hx hb hr hml hts hown hlk hnm hd0 hC hS hbs hP hl
  exact lv_idiv hx hb hd hy (kk p e s m args below meth c H locs lsA d0 hx hb hr hml hts hown hlk hnm hd0 hC hS hbs hP hl)
theorem v_irem {l : Launch} {G : vG} {M : vM} {rc rs : Nat} {Fz : vFin} {pc : Nat} {ls : List (Option Value)} {st : List Value} {n : Nat} {h : AH} {cells slots : Nat} {x y : Int32} (hd : decode M.2.1 pc = .ok (.irem, 1)) (hy : ¬ y = 0) (kk : V l G M rc rs Fz (pc + 1) ls (.int (x - x / y * y) :: st) n h cells slots) : V l G M rc rs Fz pc ls (.int y :: .int x :: st) n h cells slots := by
  intro p e s m args below meth c H locs lsA d0 hx hb hr hml hts hown hlk hnm hd0 hC hS hbs hP hl
  exact lv_irem hx hb hd hy (kk p e s m args below meth c H locs lsA d0 hx hb hr hml hts hown hlk hnm hd0 hC hS hbs hP hl)
theorem v_ineg {l : Launch} {G : vG} {M : vM} {rc rs : Nat} {Fz : vFin} {pc : Nat} {ls : List (Option Value)} {st : List Value} {n : Nat} {h : AH} {cells slots : Nat} {x : Int32} (hd : decode M.2.1 pc = .ok (.ineg, 1))  (kk : V l G M rc rs Fz (pc + 1) ls (.int (-x) :: st) n h cells slots) : V l G M rc rs Fz pc ls (.int x :: st) n h cells slots := by
  intro p e s m args below meth c H locs lsA d0 hx hb hr hml hts hown hlk hnm hd0 hC hS hbs hP hl
  exact lv_ineg hx hb hd  (kk p e s m args below meth c H locs lsA d0 hx hb hr hml hts hown hlk hnm hd0 hC hS hbs hP hl)
theorem v_i2c {l : Launch} {G : vG} {M : vM} {rc rs : Nat} {Fz : vFin} {pc : Nat} {ls : List (Option Value)} {st : List Value} {n : Nat} {h : AH} {cells slots : Nat} {x : Int32} (hd : decode M.2.1 pc = .ok (.i2c, 1))  (kk : V l G M rc rs Fz (pc + 1) ls (.int ((x.toUInt32 % 65536).toInt32) :: st) n h cells slots) : V l G M rc rs Fz pc ls (.int x :: st) n h cells slots := by
  intro p e s m args below meth c H locs lsA d0 hx hb hr hml hts hown hlk hnm hd0 hC hS hbs hP hl
  exact lv_i2c hx hb hd rfl (kk p e s m args below meth c H locs lsA d0 hx hb hr hml hts hown hlk hnm hd0 hC hS hbs hP hl)
theorem v_i2b {l : Launch} {G : vG} {M : vM} {rc rs : Nat} {Fz : vFin} {pc : Nat} {ls : List (Option Value)} {st : List Value} {n : Nat} {h : AH} {cells slots : Nat} {x : Int32} (hd : decode M.2.1 pc = .ok (.i2b, 1))  (kk : V l G M rc rs Fz (pc + 1) ls (.int (x.toInt8.toInt32) :: st) n h cells slots) : V l G M rc rs Fz pc ls (.int x :: st) n h cells slots := by
  intro p e s m args below meth c H locs lsA d0 hx hb hr hml hts hown hlk hnm hd0 hC hS hbs hP hl
  exact lv_i2b hx hb hd rfl (kk p e s m args below meth c H locs lsA d0 hx hb hr hml hts hown hlk hnm hd0 hC hS hbs hP hl)
theorem v_i2d {l : Launch} {G : vG} {M : vM} {rc rs : Nat} {Fz : vFin} {pc : Nat} {ls : List (Option Value)} {st : List Value} {n : Nat} {h : AH} {cells slots : Nat} {x : Int32} (hd : decode M.2.1 pc = .ok (.i2d, 1))  (kk : V l G M rc rs Fz (pc + 1) ls (.double (FP.i2d x) :: st) n h cells slots) : V l G M rc rs Fz pc ls (.int x :: st) n h cells slots := by
  intro p e s m args below meth c H locs lsA d0 hx hb hr hml hts hown hlk hnm hd0 hC hS hbs hP hl
  exact lv_i2d hx hb hd  (kk p e s m args below meth c H locs lsA d0 hx hb hr hml hts hown hlk hnm hd0 hC hS hbs hP hl)
theorem v_i2f {l : Launch} {G : vG} {M : vM} {rc rs : Nat} {Fz : vFin} {pc : Nat} {ls : List (Option Value)} {st : List Value} {n : Nat} {h : AH} {cells slots : Nat} {x : Int32} (hd : decode M.2.1 pc = .ok (.i2f, 1))  (kk : V l G M rc rs Fz (pc + 1) ls (.float (FP.i2f x) :: st) n h cells slots) : V l G M rc rs Fz pc ls (.int x :: st) n h cells slots := by
  intro p e s m args below meth c H locs lsA d0 hx hb hr hml hts hown hlk hnm hd0 hC hS hbs hP hl
  exact lv_i2f hx hb hd  (kk p e s m args below meth c H locs lsA d0 hx hb hr hml hts hown hlk hnm hd0 hC hS hbs hP hl)
theorem v_dcmp {l : Launch} {G : vG} {M : vM} {rc rs : Nat} {Fz : vFin} {pc : Nat} {ls : List (Option Value)} {st : List Value} {n : Nat} {h : AH} {cells slots : Nat} {x y : UInt64} {op : CmpOp} (hd : decode M.2.1 pc = .ok (.dcmp op, 1))  (kk : V l G M rc rs Fz (pc + 1) ls (.int (Op.cmpValue (FP.dcmp x y) op) :: st) n h cells slots) : V l G M rc rs Fz pc ls (.double y :: .double x :: st) n h cells slots := by
  intro p e s m args below meth c H locs lsA d0 hx hb hr hml hts hown hlk hnm hd0 hC hS hbs hP hl
  exact lv_dcmp hx hb hd  (kk p e s m args below meth c H locs lsA d0 hx hb hr hml hts hown hlk hnm hd0 hC hS hbs hP hl)
theorem v_fconst0 {l : Launch} {G : vG} {M : vM} {rc rs : Nat} {Fz : vFin} {pc : Nat} {ls : List (Option Value)} {st : List Value} {n : Nat} {h : AH} {cells slots : Nat}  (hd : decode M.2.1 pc = .ok (.fconst 0, 1))  (kk : V l G M rc rs Fz (pc + 1) ls (.float FP.fconst0 :: st) n h cells slots) : V l G M rc rs Fz pc ls (st) n h cells slots := by
  intro p e s m args below meth c H locs lsA d0 hx hb hr hml hts hown hlk hnm hd0 hC hS hbs hP hl
  exact lv_fconst0 hx hb hd  (kk p e s m args below meth c H locs lsA d0 hx hb hr hml hts hown hlk hnm hd0 hC hS hbs hP hl)
theorem v_dconst0 {l : Launch} {G : vG} {M : vM} {rc rs : Nat} {Fz : vFin} {pc : Nat} {ls : List (Option Value)} {st : List Value} {n : Nat} {h : AH} {cells slots : Nat}  (hd : decode M.2.1 pc = .ok (.dconst 0, 1))  (kk : V l G M rc rs Fz (pc + 1) ls (.double FP.dconst0 :: st) n h cells slots) : V l G M rc rs Fz pc ls (st) n h cells slots := by
  intro p e s m args below meth c H locs lsA d0 hx hb hr hml hts hown hlk hnm hd0 hC hS hbs hP hl
  exact lv_dconst0 hx hb hd  (kk p e s m args below meth c H locs lsA d0 hx hb hr hml hts hown hlk hnm hd0 hC hS hbs hP hl)
theorem v_dup {l : Launch} {G : vG} {M : vM} {rc rs : Nat} {Fz : vFin} {pc : Nat} {ls : List (Option Value)} {st : List Value} {n : Nat} {h : AH} {cells slots : Nat} {va : Value} (hd : decode M.2.1 pc = .ok (.dup, 1)) (ha : va.category = 1) (kk : V l G M rc rs Fz (pc + 1) ls (va :: va :: st) n h cells slots) : V l G M rc rs Fz pc ls (va :: st) n h cells slots := by
  intro p e s m args below meth c H locs lsA d0 hx hb hr hml hts hown hlk hnm hd0 hC hS hbs hP hl
  exact lv_dup hx hb hd ha (kk p e s m args below meth c H locs lsA d0 hx hb hr hml hts hown hlk hnm hd0 hC hS hbs hP hl)
theorem v_pop {l : Launch} {G : vG} {M : vM} {rc rs : Nat} {Fz : vFin} {pc : Nat} {ls : List (Option Value)} {st : List Value} {n : Nat} {h : AH} {cells slots : Nat} {va : Value} (hd : decode M.2.1 pc = .ok (.pop, 1)) (ha : va.category = 1) (kk : V l G M rc rs Fz (pc + 1) ls (st) n h cells slots) : V l G M rc rs Fz pc ls (va :: st) n h cells slots := by
  intro p e s m args below meth c H locs lsA d0 hx hb hr hml hts hown hlk hnm hd0 hC hS hbs hP hl
  exact lv_pop hx hb hd ha (kk p e s m args below meth c H locs lsA d0 hx hb hr hml hts hown hlk hnm hd0 hC hS hbs hP hl)
theorem v_dup2 {l : Launch} {G : vG} {M : vM} {rc rs : Nat} {Fz : vFin} {pc : Nat} {ls : List (Option Value)} {st : List Value} {n : Nat} {h : AH} {cells slots : Nat} {va vb : Value} (hd : decode M.2.1 pc = .ok (.dup2, 1)) (ha : va.category = 1) (hb2 : vb.category = 1) (kk : V l G M rc rs Fz (pc + 1) ls (va :: vb :: va :: vb :: st) n h cells slots) : V l G M rc rs Fz pc ls (va :: vb :: st) n h cells slots := by
  intro p e s m args below meth c H locs lsA d0 hx hb hr hml hts hown hlk hnm hd0 hC hS hbs hP hl
  exact lv_dup2_11 hx hb hd ha hb2 (kk p e s m args below meth c H locs lsA d0 hx hb hr hml hts hown hlk hnm hd0 hC hS hbs hP hl)
theorem v_dup_x1 {l : Launch} {G : vG} {M : vM} {rc rs : Nat} {Fz : vFin} {pc : Nat} {ls : List (Option Value)} {st : List Value} {n : Nat} {h : AH} {cells slots : Nat} {va vb : Value} (hd : decode M.2.1 pc = .ok (.dup_x1, 1)) (ha : va.category = 1) (hb2 : vb.category = 1) (kk : V l G M rc rs Fz (pc + 1) ls (va :: vb :: va :: st) n h cells slots) : V l G M rc rs Fz pc ls (va :: vb :: st) n h cells slots := by
  intro p e s m args below meth c H locs lsA d0 hx hb hr hml hts hown hlk hnm hd0 hC hS hbs hP hl
  exact lv_dup_x1 hx hb hd ha hb2 (kk p e s m args below meth c H locs lsA d0 hx hb hr hml hts hown hlk hnm hd0 hC hS hbs hP hl)
theorem v_if_eq {l : Launch} {G : vG} {M : vM} {rc rs : Nat} {Fz : vFin} {pc : Nat} {ls : List (Option Value)} {st : List Value} {n : Nat} {h : AH} {cells slots : Nat} {x : Int32} {off : Int} {tgt : Nat} (hd : decode M.2.1 pc = .ok (.ifCond .eq off, 3)) (ht : (pc : Int) + off = (tgt : Int)) (kt : x = 0 → V l G M rc rs Fz tgt ls (st) n h cells slots) (kf : ¬ x = 0 → V l G M rc rs Fz (pc + 3) ls (st) n h cells slots) : V l G M rc rs Fz pc ls (.int x :: st) n h cells slots := by
  intro p e s m args below meth c H locs lsA d0 hx hb hr hml hts hown hlk hnm hd0 hC hS hbs hP hl
  exact lv_if_eq hx hb hd ht (fun z => kt z p e s m args below meth c H locs lsA d0 hx hb hr hml hts hown hlk hnm hd0 hC hS hbs hP hl) (fun z => kf z p e s m args below meth c H locs lsA d0 hx hb hr hml hts hown hlk hnm hd0 hC hS hbs hP hl)
theorem v_icmp_eq {l : Launch} {G : vG} {M : vM} {rc rs : Nat} {Fz : vFin} {pc : Nat} {ls : List (Option Value)} {st : List Value} {n : Nat} {h : AH} {cells slots : Nat} {x y : Int32} {off : Int} {tgt : Nat} (hd : decode M.2.1 pc = .ok (.if_icmp .eq off, 3)) (ht : (pc : Int) + off = (tgt : Int)) (kt : x = y → V l G M rc rs Fz tgt ls (st) n h cells slots) (kf : ¬ x = y → V l G M rc rs Fz (pc + 3) ls (st) n h cells slots) : V l G M rc rs Fz pc ls (.int y :: .int x :: st) n h cells slots := by
  intro p e s m args below meth c H locs lsA d0 hx hb hr hml hts hown hlk hnm hd0 hC hS hbs hP hl
  exact lv_icmp_eq hx hb hd ht (fun z => kt z p e s m args below meth c H locs lsA d0 hx hb hr hml hts hown hlk hnm hd0 hC hS hbs hP hl) (fun z => kf z p e s m args below meth c H locs lsA d0 hx hb hr hml hts hown hlk hnm hd0 hC hS hbs hP hl)
theorem v_if_ne {l : Launch} {G : vG} {M : vM} {rc rs : Nat} {Fz : vFin} {pc : Nat} {ls : List (Option Value)} {st : List Value} {n : Nat} {h : AH} {cells slots : Nat} {x : Int32} {off : Int} {tgt : Nat} (hd : decode M.2.1 pc = .ok (.ifCond .ne off, 3)) (ht : (pc : Int) + off = (tgt : Int)) (kt : ¬ x = 0 → V l G M rc rs Fz tgt ls (st) n h cells slots) (kf : x = 0 → V l G M rc rs Fz (pc + 3) ls (st) n h cells slots) : V l G M rc rs Fz pc ls (.int x :: st) n h cells slots := by
  intro p e s m args below meth c H locs lsA d0 hx hb hr hml hts hown hlk hnm hd0 hC hS hbs hP hl
  exact lv_if_ne hx hb hd ht (fun z => kt z p e s m args below meth c H locs lsA d0 hx hb hr hml hts hown hlk hnm hd0 hC hS hbs hP hl) (fun z => kf z p e s m args below meth c H locs lsA d0 hx hb hr hml hts hown hlk hnm hd0 hC hS hbs hP hl)
theorem v_icmp_ne {l : Launch} {G : vG} {M : vM} {rc rs : Nat} {Fz : vFin} {pc : Nat} {ls : List (Option Value)} {st : List Value} {n : Nat} {h : AH} {cells slots : Nat} {x y : Int32} {off : Int} {tgt : Nat} (hd : decode M.2.1 pc = .ok (.if_icmp .ne off, 3)) (ht : (pc : Int) + off = (tgt : Int)) (kt : ¬ x = y → V l G M rc rs Fz tgt ls (st) n h cells slots) (kf : x = y → V l G M rc rs Fz (pc + 3) ls (st) n h cells slots) : V l G M rc rs Fz pc ls (.int y :: .int x :: st) n h cells slots := by
  intro p e s m args below meth c H locs lsA d0 hx hb hr hml hts hown hlk hnm hd0 hC hS hbs hP hl
  exact lv_icmp_ne hx hb hd ht (fun z => kt z p e s m args below meth c H locs lsA d0 hx hb hr hml hts hown hlk hnm hd0 hC hS hbs hP hl) (fun z => kf z p e s m args below meth c H locs lsA d0 hx hb hr hml hts hown hlk hnm hd0 hC hS hbs hP hl)
theorem v_if_lt {l : Launch} {G : vG} {M : vM} {rc rs : Nat} {Fz : vFin} {pc : Nat} {ls : List (Option Value)} {st : List Value} {n : Nat} {h : AH} {cells slots : Nat} {x : Int32} {off : Int} {tgt : Nat} (hd : decode M.2.1 pc = .ok (.ifCond .lt off, 3)) (ht : (pc : Int) + off = (tgt : Int)) (kt : x < 0 → V l G M rc rs Fz tgt ls (st) n h cells slots) (kf : ¬ x < 0 → V l G M rc rs Fz (pc + 3) ls (st) n h cells slots) : V l G M rc rs Fz pc ls (.int x :: st) n h cells slots := by
  intro p e s m args below meth c H locs lsA d0 hx hb hr hml hts hown hlk hnm hd0 hC hS hbs hP hl
  exact lv_if_lt hx hb hd ht (fun z => kt z p e s m args below meth c H locs lsA d0 hx hb hr hml hts hown hlk hnm hd0 hC hS hbs hP hl) (fun z => kf z p e s m args below meth c H locs lsA d0 hx hb hr hml hts hown hlk hnm hd0 hC hS hbs hP hl)
theorem v_icmp_lt {l : Launch} {G : vG} {M : vM} {rc rs : Nat} {Fz : vFin} {pc : Nat} {ls : List (Option Value)} {st : List Value} {n : Nat} {h : AH} {cells slots : Nat} {x y : Int32} {off : Int} {tgt : Nat} (hd : decode M.2.1 pc = .ok (.if_icmp .lt off, 3)) (ht : (pc : Int) + off = (tgt : Int)) (kt : x < y → V l G M rc rs Fz tgt ls (st) n h cells slots) (kf : ¬ x < y → V l G M rc rs Fz (pc + 3) ls (st) n h cells slots) : V l G M rc rs Fz pc ls (.int y :: .int x :: st) n h cells slots := by
  intro p e s m args below meth c H locs lsA d0 hx hb hr hml hts hown hlk hnm hd0 hC hS hbs hP hl
  exact lv_icmp_lt hx hb hd ht (fun z => kt z p e s m args below meth c H locs lsA d0 hx hb hr hml hts hown hlk hnm hd0 hC hS hbs hP hl) (fun z => kf z p e s m args below meth c H locs lsA d0 hx hb hr hml hts hown hlk hnm hd0 hC hS hbs hP hl)
theorem v_if_ge {l : Launch} {G : vG} {M : vM} {rc rs : Nat} {Fz : vFin} {pc : Nat} {ls : List (Option Value)} {st : List Value} {n : Nat} {h : AH} {cells slots : Nat} {x : Int32} {off : Int} {tgt : Nat} (hd : decode M.2.1 pc = .ok (.ifCond .ge off, 3)) (ht : (pc : Int) + off = (tgt : Int)) (kt : 0 ≤ x → V l G M rc rs Fz tgt ls (st) n h cells slots) (kf : ¬ 0 ≤ x → V l G M rc rs Fz (pc + 3) ls (st) n h cells slots) : V l G M rc rs Fz pc ls (.int x :: st) n h cells slots := by
  intro p e s m args below meth c H locs lsA d0 hx hb hr hml hts hown hlk hnm hd0 hC hS hbs hP hl
  exact lv_if_ge hx hb hd ht (fun z => kt z p e s m args below meth c H locs lsA d0 hx hb hr hml hts hown hlk hnm hd0 hC hS hbs hP hl) (fun z => kf z p e s m args below meth c H locs lsA d0 hx hb hr hml hts hown hlk hnm hd0 hC hS hbs hP hl)
theorem v_icmp_ge {l : Launch} {G : vG} {M : vM} {rc rs : Nat} {Fz : vFin} {pc : Nat} {ls : List (Option Value)} {st : List Value} {n : Nat} {h : AH} {cells slots : Nat} {x y : Int32} {off : Int} {tgt : Nat} (hd : decode M.2.1 pc = .ok (.if_icmp .ge off, 3)) (ht : (pc : Int) + off = (tgt : Int)) (kt : y ≤ x → V l G M rc rs Fz tgt ls (st) n h cells slots) (kf : ¬ y ≤ x → V l G M rc rs Fz (pc + 3) ls (st) n h cells slots) : V l G M rc rs Fz pc ls (.int y :: .int x :: st) n h cells slots := by
  intro p e s m args below meth c H locs lsA d0 hx hb hr hml hts hown hlk hnm hd0 hC hS hbs hP hl
  exact lv_icmp_ge hx hb hd ht (fun z => kt z p e s m args below meth c H locs lsA d0 hx hb hr hml hts hown hlk hnm hd0 hC hS hbs hP hl) (fun z => kf z p e s m args below meth c H locs lsA d0 hx hb hr hml hts hown hlk hnm hd0 hC hS hbs hP hl)
theorem v_if_gt {l : Launch} {G : vG} {M : vM} {rc rs : Nat} {Fz : vFin} {pc : Nat} {ls : List (Option Value)} {st : List Value} {n : Nat} {h : AH} {cells slots : Nat} {x : Int32} {off : Int} {tgt : Nat} (hd : decode M.2.1 pc = .ok (.ifCond .gt off, 3)) (ht : (pc : Int) + off = (tgt : Int)) (kt : 0 < x → V l G M rc rs Fz tgt ls (st) n h cells slots) (kf : ¬ 0 < x → V l G M rc rs Fz (pc + 3) ls (st) n h cells slots) : V l G M rc rs Fz pc ls (.int x :: st) n h cells slots := by
  intro p e s m args below meth c H locs lsA d0 hx hb hr hml hts hown hlk hnm hd0 hC hS hbs hP hl
  exact lv_if_gt hx hb hd ht (fun z => kt z p e s m args below meth c H locs lsA d0 hx hb hr hml hts hown hlk hnm hd0 hC hS hbs hP hl) (fun z => kf z p e s m args below meth c H locs lsA d0 hx hb hr hml hts hown hlk hnm hd0 hC hS hbs hP hl)
theorem v_icmp_gt {l : Launch} {G : vG} {M : vM} {rc rs : Nat} {Fz : vFin} {pc : Nat} {ls : List (Option Value)} {st : List Value} {n : Nat} {h : AH} {cells slots : Nat} {x y : Int32} {off : Int} {tgt : Nat} (hd : decode M.2.1 pc = .ok (.if_icmp .gt off, 3)) (ht : (pc : Int) + off = (tgt : Int)) (kt : y < x → V l G M rc rs Fz tgt ls (st) n h cells slots) (kf : ¬ y < x → V l G M rc rs Fz (pc + 3) ls (st) n h cells slots) : V l G M rc rs Fz pc ls (.int y :: .int x :: st) n h cells slots := by
  intro p e s m args below meth c H locs lsA d0 hx hb hr hml hts hown hlk hnm hd0 hC hS hbs hP hl
  exact lv_icmp_gt hx hb hd ht (fun z => kt z p e s m args below meth c H locs lsA d0 hx hb hr hml hts hown hlk hnm hd0 hC hS hbs hP hl) (fun z => kf z p e s m args below meth c H locs lsA d0 hx hb hr hml hts hown hlk hnm hd0 hC hS hbs hP hl)
theorem v_if_le {l : Launch} {G : vG} {M : vM} {rc rs : Nat} {Fz : vFin} {pc : Nat} {ls : List (Option Value)} {st : List Value} {n : Nat} {h : AH} {cells slots : Nat} {x : Int32} {off : Int} {tgt : Nat} (hd : decode M.2.1 pc = .ok (.ifCond .le off, 3)) (ht : (pc : Int) + off = (tgt : Int)) (kt : x ≤ 0 → V l G M rc rs Fz tgt ls (st) n h cells slots) (kf : ¬ x ≤ 0 → V l G M rc rs Fz (pc + 3) ls (st) n h cells slots) : V l G M rc rs Fz pc ls (.int x :: st) n h cells slots := by
  intro p e s m args below meth c H locs lsA d0 hx hb hr hml hts hown hlk hnm hd0 hC hS hbs hP hl
  exact lv_if_le hx hb hd ht (fun z => kt z p e s m args below meth c H locs lsA d0 hx hb hr hml hts hown hlk hnm hd0 hC hS hbs hP hl) (fun z => kf z p e s m args below meth c H locs lsA d0 hx hb hr hml hts hown hlk hnm hd0 hC hS hbs hP hl)
theorem v_icmp_le {l : Launch} {G : vG} {M : vM} {rc rs : Nat} {Fz : vFin} {pc : Nat} {ls : List (Option Value)} {st : List Value} {n : Nat} {h : AH} {cells slots : Nat} {x y : Int32} {off : Int} {tgt : Nat} (hd : decode M.2.1 pc = .ok (.if_icmp .le off, 3)) (ht : (pc : Int) + off = (tgt : Int)) (kt : x ≤ y → V l G M rc rs Fz tgt ls (st) n h cells slots) (kf : ¬ x ≤ y → V l G M rc rs Fz (pc + 3) ls (st) n h cells slots) : V l G M rc rs Fz pc ls (.int y :: .int x :: st) n h cells slots := by
  intro p e s m args below meth c H locs lsA d0 hx hb hr hml hts hown hlk hnm hd0 hC hS hbs hP hl
  exact lv_icmp_le hx hb hd ht (fun z => kt z p e s m args below meth c H locs lsA d0 hx hb hr hml hts hown hlk hnm hd0 hC hS hbs hP hl) (fun z => kf z p e s m args below meth c H locs lsA d0 hx hb hr hml hts hown hlk hnm hd0 hC hS hbs hP hl)
theorem v_goto {l : Launch} {G : vG} {M : vM} {rc rs : Nat} {Fz : vFin} {pc : Nat} {ls : List (Option Value)} {st : List Value} {n : Nat} {h : AH} {cells slots : Nat} {off : Int} {tgt : Nat} (hd : decode M.2.1 pc = .ok (.goto off, 3)) (ht : (pc : Int) + off = (tgt : Int)) (kk : V l G M rc rs Fz tgt ls (st) n h cells slots) : V l G M rc rs Fz pc ls (st) n h cells slots := by
  intro p e s m args below meth c H locs lsA d0 hx hb hr hml hts hown hlk hnm hd0 hC hS hbs hP hl
  exact lv_goto hx hb hd ht (kk p e s m args below meth c H locs lsA d0 hx hb hr hml hts hown hlk hnm hd0 hC hS hbs hP hl)
theorem v_tsIn {l : Launch} {G : vG} {M : vM} {rc rs : Nat} {Fz : vFin} {pc : Nat} {ls : List (Option Value)} {st : List Value} {n : Nat} {h : AH} {cells slots : Nat} {dflt lo hi : Int} {offs : Array Int} {len : Nat} {x : Int32} {off : Int} {tgt : Nat} (hd : decode M.2.1 pc = .ok (.tableswitch dflt lo hi offs, len)) (h1 : ¬ x.toInt < lo) (h2 : ¬ hi < x.toInt) (ho : offs[(x.toInt - lo).toNat]? = some off) (ht : (pc : Int) + off = (tgt : Int)) (kk : V l G M rc rs Fz tgt ls (st) n h cells slots) : V l G M rc rs Fz pc ls (.int x :: st) n h cells slots := by
  intro p e s m args below meth c H locs lsA d0 hx hb hr hml hts hown hlk hnm hd0 hC hS hbs hP hl
  exact lv_tableIn hx hb hd h1 h2 ho ht (kk p e s m args below meth c H locs lsA d0 hx hb hr hml hts hown hlk hnm hd0 hC hS hbs hP hl)
theorem v_tsOut {l : Launch} {G : vG} {M : vM} {rc rs : Nat} {Fz : vFin} {pc : Nat} {ls : List (Option Value)} {st : List Value} {n : Nat} {h : AH} {cells slots : Nat} {dflt lo hi : Int} {offs : Array Int} {len : Nat} {x : Int32} {tgt : Nat} (hd : decode M.2.1 pc = .ok (.tableswitch dflt lo hi offs, len)) (h1 : x.toInt < lo ∨ hi < x.toInt) (ht : (pc : Int) + dflt = (tgt : Int)) (kk : V l G M rc rs Fz tgt ls (st) n h cells slots) : V l G M rc rs Fz pc ls (.int x :: st) n h cells slots := by
  intro p e s m args below meth c H locs lsA d0 hx hb hr hml hts hown hlk hnm hd0 hC hS hbs hP hl
  exact lv_tableOut hx hb hd h1 ht (kk p e s m args below meth c H locs lsA d0 hx hb hr hml hts hown hlk hnm hd0 hC hS hbs hP hl)
theorem v_lookup {l : Launch} {G : vG} {M : vM} {rc rs : Nat} {Fz : vFin} {pc : Nat} {ls : List (Option Value)} {st : List Value} {n : Nat} {h : AH} {cells slots : Nat} {dflt : Int} {ps : Array (Int × Int)} {len : Nat} {x : Int32} {off : Int} {tgt : Nat} (hd : decode M.2.1 pc = .ok (.lookupswitch dflt ps, len)) (hp : (ps.toList.zip (ps.toList.drop 1)).all (fun (a, next) => a.1 < next.1) = true) (ho : Op.lookupswitch.offset ps.toList dflt x.toInt = off) (ht : (pc : Int) + off = (tgt : Int)) (kk : V l G M rc rs Fz tgt ls (st) n h cells slots) : V l G M rc rs Fz pc ls (.int x :: st) n h cells slots := by
  intro p e s m args below meth c H locs lsA d0 hx hb hr hml hts hown hlk hnm hd0 hC hS hbs hP hl
  exact lv_lookup hx hb hd hp ho ht (kk p e s m args below meth c H locs lsA d0 hx hb hr hml hts hown hlk hnm hd0 hC hS hbs hP hl)
theorem v_widen {l : Launch} {G : vG} {M : vM} {rc rs : Nat} {Fz : vFin} {pc : Nat} {ls : List (Option Value)} {st : List Value} {n : Nat} {h : AH} {cells slots : Nat} {k1 k2 : Nat} (h1 : cells ≤ k1) (h2 : slots ≤ k2) (kk : V l G M rc rs Fz pc ls (st) n h k1 k2) : V l G M rc rs Fz pc ls (st) n h cells slots := by
  intro p e s m args below meth c H locs lsA d0 hx hb hr hml hts hown hlk hnm hd0 hC hS hbs hP hl
  exact W.widen h1 h2 (kk p e s m args below meth c H locs lsA d0 hx hb hr hml hts hown hlk hnm hd0 hC hS hbs hP hl)
theorem v_getf {l : Launch} {G : vG} {M : vM} {rc rs : Nat} {Fz : vFin} {pc : Nat} {ls : List (Option Value)} {st : List Value} {n : Nat} {h : AH} {cells slots : Nat} {index a ci k N : Nat} {fs : List Value} {C : String} {T : u_T} {v : Value} (hd : decode M.2.1 pc = .ok (.getfield index, 3)) (he : h a = some (.inr (ci, fs))) (hc : vwCl[ci]? = some (C, T, N)) (hin : ∀ w ∈ u_ws C T N, w ∈ gw) (hk : k < N) (hw : Cond.fieldLink M.1.cls index (T k).1 (T k).2.1 (T k).2.2.1 ∈ gw) (hv : fs[k]? = some v) (kk : V l G M rc rs Fz (pc + 3) ls (v :: st) n h cells slots) : V l G M rc rs Fz pc ls (.ref a :: st) n h cells slots := by
  intro p e s m args below meth c H locs lsA d0 hx hb hr hml hts hown hlk hnm hd0 hC hS hbs hP hl
  exact va_get (D := gD G) (cl := vwCl) (tys := gT G) hx hb (dr_words hts d0) hin hown hC.1 (hP.one he) 0 rfl hc k hk (dr_words hts d0 _ hw) (fun _ q => q) hv hd (kk p e s m args below meth c H locs lsA d0 hx hb hr hml hts hown hlk hnm hd0 hC hS hbs hP hl)
theorem v_putf {l : Launch} {G : vG} {M : vM} {rc rs : Nat} {Fz : vFin} {pc : Nat} {ls : List (Option Value)} {st : List Value} {n : Nat} {h : AH} {cells slots : Nat} {index a ci k N : Nat} {fs : List Value} {C : String} {T : u_T} {v : Value} (hd : decode M.2.1 pc = .ok (.putfield index, 3)) (he : h a = some (.inr (ci, fs))) (hc : vwCl[ci]? = some (C, T, N)) (hin : ∀ w ∈ u_ws C T N, w ∈ gw) (ty0 : Nat → FieldType) (hty : ∀ k, k < N → parseFieldDescriptor (T k).2.2.1 = some (ty0 k)) (hnm2 : ∀ a, a < N → ∀ b, b < N → a ≠ b → (T a).2.1 ≠ (T b).2.1) (hk : k < N) (hw : Cond.fieldLink M.1.cls index (T k).1 (T k).2.1 (T k).2.2.1 ∈ gw) (hfin : (T k).2.2.2 = false ∨ ((T k).2.2.2 = true ∧ M.1.name = "<init>" ∧ (T k).1 = M.1.cls)) (hn : narrow (ty0 k) v = v) (hfit : fits (ty0 k) v = true) (hl2 : k < fs.length) (kk : V l G M rc rs Fz (pc + 3) ls (st) n (va_up h a (some (.inr (ci, fs.set k v)))) cells slots) : V l G M rc rs Fz pc ls (v :: .ref a :: st) n h cells slots := by
  intro p e s m args below meth c H locs lsA d0 hx hb hr hml hts hown hlk hnm hd0 hC hS hbs hP hl
  have hts2 := dr_words hts d0
  have hown2 : (s.setDrawn d0).vm.findClass M.1.cls = some m.cls := hown
  have hK2 : va_K (gD G) vwCl (gT G) (s.setDrawn d0) := hC.1
  have hap := va_apart (own := M.1.cls) hts2 hin ty0 hty hnm2 hK2 hc
  obtain ⟨hge, r, h1, cell, q1, q2, q3, q4⟩ := hP.2.2 _ _ he
  have hr2 : r = (C, T, N) := Option.some.inj (h1.symm.trans hc)
  subst hr2
  obtain ⟨hS1, hfc, kC, hkC, hkind⟩ := hK2.1 ci _ hc
  obtain ⟨cf, kf, fi, f, hi, hsl⟩ := hS1 k hk
  have hlay := hts2 _ (hin _ (u_in_lay hk))
  unfold u_lay at hlay
  have hst := (u_facts hfc hkC (u_lays hts2 hin hk) hi).1
  have fin : ∀ H' : Heap, H'[a]? = some (cell.setSlot f.slot v) → H'.size = H.size → (∀ q, q ≠ a → H'[q]? = H[q]?) → W p l e ({ frames := M.2.2.2.2.1, cells := rc, slots := rs, locals := M.2.2.2.2.2 } : Room) (s.setDrawn d0) m args below meth c H' (locs ++ [⟨a, f.slot⟩]) cells slots (Fz below args s) (F0 m (pc + 3) lsA st) := by
    intro H' e1 e2 e3
    rw [hsl] at e1 ⊢
    exact kk p e s m args below meth c _ _ lsA d0 hx hb hr hml hts hown hlk hnm hd0 hC (hS.put e2 e3 hge) hbs (hP.set he ⟨_, hc, t_OB.to (V := updV (vp_V fs) k v) ⟨_, e1, q2, q3, t_set q4 hap hk v⟩ (fun j _ => vp_updV_set hl2 v j)⟩ e2 e3) hl
  rcases hfin with hfin | ⟨hfin, hin2, hdecl⟩
  · rw [if_neg (by rw [hfin]; decide)] at hlay
    have h6 := u_store hfc hkC hkind hlay hi (hty k hk) hn hfit
    exact W.putK hx hb (f := f) ⟨hown2, hts2 _ hw, ⟨_, _, _, hi⟩, hst⟩ (by rw [q2]; exact h6) q1 q3 (by rw [hsl]; exact k2_hasslot (q4 k hk)) rfl rfl hd fin
  · rw [if_pos hfin] at hlay
    have hcf : m.cls = cf := by
      obtain ⟨_, _, c', _, _, _, -, -, hf', -, -, -, hown3, -⟩ := Cond.laysFinal_spec hlay
      have e1 : c' = cf := by have := hi.symm.trans hf'; simp at this; exact this.1.symm
      rw [hdecl] at hown3
      rw [← e1]; exact Option.some.inj (hown2.symm.trans hown3)
    have h6 := u_fits hfc hkC hkind (Or.inr hlay) hi (hty k hk) hn hfit
    exact W.putFinK hx hb hown2 (hts2 _ hw) hi hst hcf (hnm.trans hin2) (by rw [q2]; exact h6) q1 q3 (by rw [hsl]; exact k2_hasslot (q4 k hk)) rfl rfl hd fin
theorem v_iald {l : Launch} {G : vG} {M : vM} {rc rs : Nat} {Fz : vFin} {pc : Nat} {ls : List (Option Value)} {st : List Value} {n : Nat} {h : AH} {cells slots : Nat} {a k : Nat} {f : Nat → Int32} {i : Int32} (hd : decode M.2.1 pc = .ok (.iaload, 1)) (he : h a = some (.inl (gC G 0, k, .inl f))) (hi : vp_in i k) (kk : V l G M rc rs Fz (pc + 1) ls (.int (f i.toNatClampNeg) :: st) n h cells slots) : V l G M rc rs Fz pc ls (.int i :: .ref a :: st) n h cells slots := by
  intro p e s m args below meth c H locs lsA d0 hx hb hr hml hts hown hlk hnm hd0 hC hS hbs hP hl
  have hK2 : va_K (gD G) vwCl (gT G) (s.setDrawn d0) := hC.1
  exact va_iald hx hb hK2 (hP.one he) 0 0 rfl rfl hi hd (kk p e s m args below meth c H locs lsA d0 hx hb hr hml hts hown hlk hnm hd0 hC hS hbs hP hl)
theorem v_cald {l : Launch} {G : vG} {M : vM} {rc rs : Nat} {Fz : vFin} {pc : Nat} {ls : List (Option Value)} {st : List Value} {n : Nat} {h : AH} {cells slots : Nat} {a k : Nat} {f : Nat → Int32} {i : Int32} (hd : decode M.2.1 pc = .ok (.caload, 1)) (he : h a = some (.inl (gC G 1, k, .inl f))) (hi : vp_in i k) (kk : V l G M rc rs Fz (pc + 1) ls (.int (f i.toNatClampNeg) :: st) n h cells slots) : V l G M rc rs Fz pc ls (.int i :: .ref a :: st) n h cells slots := by
  intro p e s m args below meth c H locs lsA d0 hx hb hr hml hts hown hlk hnm hd0 hC hS hbs hP hl
  have hK2 : va_K (gD G) vwCl (gT G) (s.setDrawn d0) := hC.1
  exact va_cald hx hb hK2 (hP.one he) 0 1 rfl rfl hi hd (kk p e s m args below meth c H locs lsA d0 hx hb hr hml hts hown hlk hnm hd0 hC hS hbs hP hl)
theorem v_bald {l : Launch} {G : vG} {M : vM} {rc rs : Nat} {Fz : vFin} {pc : Nat} {ls : List (Option Value)} {st : List Value} {n : Nat} {h : AH} {cells slots : Nat} {a k : Nat} {f : Nat → Int32} {i : Int32} (hd : decode M.2.1 pc = .ok (.baload, 1)) (he : h a = some (.inl (gC G 2, k, .inl f))) (hi : vp_in i k) (kk : V l G M rc rs Fz (pc + 1) ls (.int (f i.toNatClampNeg) :: st) n h cells slots) : V l G M rc rs Fz pc ls (.int i :: .ref a :: st) n h cells slots := by
  intro p e s m args below meth c H locs lsA d0 hx hb hr hml hts hown hlk hnm hd0 hC hS hbs hP hl
  have hK2 : va_K (gD G) vwCl (gT G) (s.setDrawn d0) := hC.1
  exact va_bald hx hb hK2 (hP.one he) 0 2 rfl rfl hi hd (kk p e s m args below meth c H locs lsA d0 hx hb hr hml hts hown hlk hnm hd0 hC hS hbs hP hl)
theorem v_iast {l : Launch} {G : vG} {M : vM} {rc rs : Nat} {Fz : vFin} {pc : Nat} {ls : List (Option Value)} {st : List Value} {n : Nat} {h : AH} {cells slots : Nat} {a k : Nat} {f : Nat → Int32} {i x : Int32} (hd : decode M.2.1 pc = .ok (.iastore, 1)) (he : h a = some (.inl (gC G 0, k, .inl f))) (hi : vp_in i k) (kk : V l G M rc rs Fz (pc + 1) ls (st) n (va_up h a (some (.inl (gC G 0, k, .inl (upd f i.toNatClampNeg x))))) cells slots) : V l G M rc rs Fz pc ls (.int x :: .int i :: .ref a :: st) n h cells slots := by
  intro p e s m args below meth c H locs lsA d0 hx hb hr hml hts hown hlk hnm hd0 hC hS hbs hP hl
  obtain ⟨hge, hat⟩ := hP.2.2 _ _ he
  have hat2 : H[a]? = some (vp_cell (gC G 0) (k, .inl f)) := hat
  have hK2 : va_K (gD G) vwCl (gT G) s := hC.1
  have hAr : (s.setDrawn d0).isArrayOf (vp_cell (gC G 0) (k, .inl f)) .int := (hK2.2 0 _ rfl).1 k (fun j => .int (f j))
  have hkn : (vp_cell (gC G 0) (k, .inl f)).vm ≠ .unknown := fun q => by cases q
  have hin9 : ¬ (i < 0 ∨ (vp_cell (gC G 0) (k, .inl f)).slots.size ≤ i.toNatClampNeg) := by
    rw [vp_cell_i, arrV_size]
    exact hi
  refine W.iast hx hb hat2 hAr hkn hin9 rfl rfl hd fun H1 e z oq => ?_
  refine kk p _ s m args below meth c _ _ lsA d0 hx hb hr hml hts hown hlk hnm hd0 hC (hS.put z oq hge) hbs (hP.set he ?_ z oq) hl
  show H1[a]? = some (vp_cell _ _)
  rw [e]
  rw [vp_cell_i, vp_cell_i, arrV_store]
  congr 2
  funext q
  by_cases hq : q = i.toNatClampNeg
  · subst hq
    simp [updV, upd, vp_nar]
    try rfl
  · simp [updV, upd, hq]
theorem v_cast {l : Launch} {G : vG} {M : vM} {rc rs : Nat} {Fz : vFin} {pc : Nat} {ls : List (Option Value)} {st : List Value} {n : Nat} {h : AH} {cells slots : Nat} {a k : Nat} {f : Nat → Int32} {i x : Int32} (hd : decode M.2.1 pc = .ok (.castore, 1)) (he : h a = some (.inl (gC G 1, k, .inl f))) (hi : vp_in i k) (kk : V l G M rc rs Fz (pc + 1) ls (st) n (va_up h a (some (.inl (gC G 1, k, .inl (upd f i.toNatClampNeg (vp_nar .char x)))))) cells slots) : V l G M rc rs Fz pc ls (.int x :: .int i :: .ref a :: st) n h cells slots := by
  intro p e s m args below meth c H locs lsA d0 hx hb hr hml hts hown hlk hnm hd0 hC hS hbs hP hl
  obtain ⟨hge, hat⟩ := hP.2.2 _ _ he
  have hat2 : H[a]? = some (vp_cell (gC G 1) (k, .inl f)) := hat
  have hK2 : va_K (gD G) vwCl (gT G) s := hC.1
  have hAr : (s.setDrawn d0).isArrayOf (vp_cell (gC G 1) (k, .inl f)) .char := (hK2.2 1 _ rfl).1 k (fun j => .int (f j))
  have hkn : (vp_cell (gC G 1) (k, .inl f)).vm ≠ .unknown := fun q => by cases q
  have hin9 : ¬ (i < 0 ∨ (vp_cell (gC G 1) (k, .inl f)).slots.size ≤ i.toNatClampNeg) := by
    rw [vp_cell_i, arrV_size]
    exact hi
  refine W.cast hx hb hat2 hAr hkn hin9 rfl rfl hd fun H1 e z oq => ?_
  refine kk p _ s m args below meth c _ _ lsA d0 hx hb hr hml hts hown hlk hnm hd0 hC (hS.put z oq hge) hbs (hP.set he ?_ z oq) hl
  show H1[a]? = some (vp_cell _ _)
  rw [e]
  rw [vp_cell_i, vp_cell_i, arrV_store]
  congr 2
  funext q
  by_cases hq : q = i.toNatClampNeg
  · subst hq
    simp [updV, upd, vp_nar]
    try rfl
  · simp [updV, upd, hq]
theorem v_bast {l : Launch} {G : vG} {M : vM} {rc rs : Nat} {Fz : vFin} {pc : Nat} {ls : List (Option Value)} {st : List Value} {n : Nat} {h : AH} {cells slots : Nat} {a k : Nat} {f : Nat → Int32} {i x : Int32} (hd : decode M.2.1 pc = .ok (.bastore, 1)) (he : h a = some (.inl (gC G 2, k, .inl f))) (hi : vp_in i k) (kk : V l G M rc rs Fz (pc + 1) ls (st) n (va_up h a (some (.inl (gC G 2, k, .inl (upd f i.toNatClampNeg (vp_nar .byte x)))))) cells slots) : V l G M rc rs Fz pc ls (.int x :: .int i :: .ref a :: st) n h cells slots := by
  intro p e s m args below meth c H locs lsA d0 hx hb hr hml hts hown hlk hnm hd0 hC hS hbs hP hl
  obtain ⟨hge, hat⟩ := hP.2.2 _ _ he
  have hat2 : H[a]? = some (vp_cell (gC G 2) (k, .inl f)) := hat
  have hK2 : va_K (gD G) vwCl (gT G) s := hC.1
  have hAr : (s.setDrawn d0).isArrayOf (vp_cell (gC G 2) (k, .inl f)) .byte := (hK2.2 2 _ rfl).1 k (fun j => .int (f j))
  have hkn : (vp_cell (gC G 2) (k, .inl f)).vm ≠ .unknown := fun q => by cases q
  have hin9 : ¬ (i < 0 ∨ (vp_cell (gC G 2) (k, .inl f)).slots.size ≤ i.toNatClampNeg) := by
    rw [vp_cell_i, arrV_size]
    exact hi
  refine W.bast hx hb hat2 hAr hkn hin9 rfl rfl hd fun H1 e z oq => ?_
  refine kk p _ s m args below meth c _ _ lsA d0 hx hb hr hml hts hown hlk hnm hd0 hC (hS.put z oq hge) hbs (hP.set he ?_ z oq) hl
  show H1[a]? = some (vp_cell _ _)
  rw [e]
  rw [vp_cell_i, vp_cell_i, arrV_store]
  congr 2
  funext q
  by_cases hq : q = i.toNatClampNeg
  · subst hq
    simp [updV, upd, vp_nar]
    try rfl
  · simp [updV, upd, hq]
theorem v_alen {l : Launch} {G : vG} {M : vM} {rc rs : Nat} {Fz : vFin} {pc : Nat} {ls : List (Option Value)} {st : List Value} {n : Nat} {h : AH} {cells slots : Nat} {a t k : Nat} {f : (Nat → Int32) ⊕ (Nat → Int64) ⊕ (Nat → UInt32) ⊕ (Nat → UInt64) ⊕ (Nat → Option Nat)} (hd : decode M.2.1 pc = .ok (.arraylength, 1)) (he : h a = some (.inl (gC G t, k, f))) (ht : t < 4) (kk : V l G M rc rs Fz (pc + 1) ls (.int (Int32.ofNat k) :: st) n h cells slots) : V l G M rc rs Fz pc ls (.ref a :: st) n h cells slots := by
  intro p e s m args below meth c H locs lsA d0 hx hb hr hml hts hown hlk hnm hd0 hC hS hbs hP hl
  obtain ⟨ty, hty⟩ : ∃ ty, (gT G)[t]? = some (gC G t, ty) := by
    rcases (by omega : t = 0 ∨ t = 1 ∨ t = 2 ∨ t = 3) with rfl | rfl | rfl | rfl
    · exact ⟨_, rfl⟩
    · exact ⟨_, rfl⟩
    · exact ⟨_, rfl⟩
    · exact ⟨_, rfl⟩
  have hK2 : va_K (gD G) vwCl (gT G) (s.setDrawn d0) := hC.1
  exact va_alen hx hb hK2 (hP.one he) 0 t rfl hty rfl hd (kk p e s m args below meth c H locs lsA d0 hx hb hr hml hts hown hlk hnm hd0 hC hS hbs hP hl)
theorem v_aald {l : Launch} {G : vG} {M : vM} {rc rs : Nat} {Fz : vFin} {pc : Nat} {ls : List (Option Value)} {st : List Value} {n : Nat} {h : AH} {cells slots : Nat} {a k : Nat} {f : Nat → Option Nat} {i : Int32} (hd : decode M.2.1 pc = .ok (.aaload, 1)) (he : h a = some (.inl (gC G 3, k, .inr (.inr (.inr (.inr f)))))) (hi : vp_in i k) (kk : V l G M rc rs Fz (pc + 1) ls (va_rf (f i.toNatClampNeg) :: st) n h cells slots) : V l G M rc rs Fz pc ls (.int i :: .ref a :: st) n h cells slots := by
  intro p e s m args below meth c H locs lsA d0 hx hb hr hml hts hown hlk hnm hd0 hC hS hbs hP hl
  have hK2 : va_K (gD G) vwCl (gT G) (s.setDrawn d0) := hC.1
  exact va_aldq hx hb hK2 (hP.one he) 0 3 rfl rfl hi hd (kk p e s m args below meth c H locs lsA d0 hx hb hr hml hts hown hlk hnm hd0 hC hS hbs hP hl)
