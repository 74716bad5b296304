theorem v_xald {l : Launch} {G : vG} {M : vM} {rc rs : Nat} {Fz : vFin} {pc : Nat} {ls : List (Option Value)} {st : List Value} {n : Nat} {h : AH} {cells slots : Nat} {j : Nat} (hd : decode M.2.1 pc = .ok (.iaload, 1)) (hj : j < gA G 2 3) (hL : gA G 2 3 ≤ 260) (kk : V l G M rc rs Fz (pc + 1) ls (.int (gx G j) :: st) n h cells slots) : V l G M rc rs Fz pc ls (.int (nI j) :: .ref (gA G 2 2) :: st) n h cells slots := by
  intro p e s m args below meth c H locs lsA d0 hx hb hr hml hts hown hlk hnm hd0 hC hS hbs hP hl
  have hX : va_X (gA G 2 2) (gA G 2 3) (gx G) (s.setDrawn d0) s.heap := hC.2.1
  have k2 := kk p e s m args below meth c H locs lsA d0 hx hb hr hml hts hown hlk hnm hd0 hC hS hbs hP hl
  refine va_sld hx hb hX (Nat.lt_of_lt_of_le hC.2.2.1 hbs) (Nat.not_le.mpr hC.2.2.1) hS (vp_in_nI hj (by omega)) hd ?_
  rw [nI_clamp (by omega)]
  exact k2
theorem v_xlen {l : Launch} {G : vG} {M : vM} {rc rs : Nat} {Fz : vFin} {pc : Nat} {ls : List (Option Value)} {st : List Value} {n : Nat} {h : AH} {cells slots : Nat} (hd : decode M.2.1 pc = .ok (.arraylength, 1)) (kk : V l G M rc rs Fz (pc + 1) ls (.int (nI (gA G 2 3)) :: st) n h cells slots) : V l G M rc rs Fz pc ls (.ref (gA G 2 2) :: st) n h cells slots := by
  intro p e s m args below meth c H locs lsA d0 hx hb hr hml hts hown hlk hnm hd0 hC hS hbs hP hl
  have hX : va_X (gA G 2 2) (gA G 2 3) (gx G) (s.setDrawn d0) s.heap := hC.2.1
  exact va_slen hx hb hX (Nat.lt_of_lt_of_le hC.2.2.1 hbs) (Nat.not_le.mpr hC.2.2.1) hS hd (kk p e s m args below meth c H locs lsA d0 hx hb hr hml hts hown hlk hnm hd0 hC hS hbs hP hl)
theorem lok.put2 {lsB : Array Slot} {nL : Nat} {ls : List (Option Value)} {i : Nat} {x : UInt64} (h1 : l1 ls = true) (hB : lv_has lsB nL ((i, .double x) :: (lprs ls).filter (fun q => !(q.1 == i) && (!(q.1 == i + 1) && !(q.1 + 1 == i && q.2.category == 2))))) : lok lsB nL ((ls.set i (some (.double x))).set (i + 1) none) := by
  refine ⟨hB.1, hB.2.1, fun j w hj => ?_⟩
  by_cases hj1 : j = i + 1
  · subst hj1
    rw [List.getElem?_set] at hj
    split at hj
    · split at hj <;> cases hj
    · exact absurd rfl ‹_›
  rw [List.getElem?_set_ne (Ne.symm hj1)] at hj
  by_cases hji : j = i
  · subst hji
    have hl : j < ls.length := by
      have := (List.getElem?_eq_some_iff.mp hj).1
      simpa using this
    rw [List.getElem?_set_self hl] at hj
    cases hj
    exact hB.2.2 _ List.mem_cons_self
  · rw [List.getElem?_set_ne (Ne.symm hji)] at hj
    refine hB.2.2 (j, w) (List.mem_cons_of_mem _ (List.mem_filter.mpr ⟨lprs_mem.mpr hj, ?_⟩))
    have hc := l1_at h1 hj
    simp [hji, hj1, hc]
theorem v_dstore {l : Launch} {G : vG} {M : vM} {rc rs : Nat} {Fz : vFin} {pc : Nat} {ls : List (Option Value)} {st : List Value} {n : Nat} {h : AH} {cells slots : Nat} {k : Nat} {x : UInt64} (hd : decode M.2.1 pc = .ok (.dstore k, 2)) (h1 : l1 ls = true) (hn : k + 1 < M.2.2.1) (kk : V l G M rc rs Fz (pc + 2) ((ls.set k (some (.double x))).set (k + 1) none) st n h cells slots) : V l G M rc rs Fz pc ls (.double x :: st) n h cells slots := by
  intro p e s m args below meth c H locs lsA d0 hx hb hr hml hts hown hlk hnm hd0 hC hS hbs hP hl
  exact lv_dstore hx hb hd hl.has hn rfl (fun ls2 hB => kk p e s m args below meth c H locs _ d0 hx hb hr hml hts hown hlk hnm hd0 hC hS hbs hP (lok.put2 h1 hB))
/-- doubles: one number, or both no number -/
def dq (x y : UInt64) : Prop := x = y ∨ (isNaN64 x = true ∧ isNaN64 y = true)
theorem al64 {x y : UInt64} (h : alike64 x y = true) : dq x y := by
  unfold alike64 at h
  simp only [Bool.or_eq_true, Bool.and_eq_true, decide_eq_true_eq] at h
  exact h
theorem dq_tr {x y w : UInt64} (a : dq x w) (b : dq y w) : dq x y := by
  rcases a with rfl | ⟨a1, a2⟩
  · rcases b with rfl | ⟨b1, b2⟩
    · exact Or.inl rfl
    · exact Or.inr ⟨b2, b1⟩
  · rcases b with rfl | ⟨b1, b2⟩
    · exact Or.inr ⟨a1, a2⟩
    · exact Or.inr ⟨a1, b1⟩
theorem dn64 {z : UInt64} (h : isNaN64 z = true) : FP.Core.decode FP.Core.b64 z.toNat = .nan := by
  rw [isNaN64_iff, show (0x7fffffffffffffff : Nat) = 2 ^ 63 - 1 from rfl, Nat.and_two_pow_sub_one_eq_mod] at h
  have hz : z.toNat < 2 ^ 64 := z.toNat_lt
  have e1 : FP.Core.fieldE FP.Core.b64 z.toNat = FP.Core.b64.exps - 1 := by
    show z.toNat / 2 ^ 52 % 2 ^ 11 = 2 ^ 11 - 1
    omega
  have e2 : ¬ FP.Core.fieldT FP.Core.b64 z.toNat = 0 := by
    show ¬ z.toNat % 2 ^ 52 = 0
    omega
  unfold FP.Core.decode
  rw [if_pos e1, if_neg e2]
theorem cmp_nan {z : UInt64} (h : isNaN64 z = true) : ¬ Op.cmpValue (FP.dcmp z z) CmpOp.l = 0 := by
  have e : FP.dcmp z z = none := by
    show FP.Core.order (FP.Core.decode FP.Core.b64 z.toNat) (FP.Core.decode FP.Core.b64 z.toNat) = none
    rw [dn64 h]
    rfl
  rw [e]
  decide
theorem dq_1 {x y : UInt64} (h : dq x y) (c : ¬ Op.cmpValue (FP.dcmp x y) CmpOp.l = 0) : ¬ Op.cmpValue (FP.dcmp x x) CmpOp.l = 0 := by
  rcases h with rfl | ⟨a, _⟩
  · exact c
  · exact cmp_nan a
theorem dq_2 {x y : UInt64} (h : dq x y) (c : ¬ Op.cmpValue (FP.dcmp x y) CmpOp.l = 0) : ¬ Op.cmpValue (FP.dcmp y y) CmpOp.l = 0 := by
  rcases h with rfl | ⟨_, a⟩
  · exact c
  · exact cmp_nan a
/-- a line's length and signs -/
def lng (k : Nat) (S : Ln) : Prop := S.2 ≤ k ∧ ∀ i, i < S.2 → S.1 i < 256
theorem lng_0 {F : Nat → Nat} : lng 0 (F, 0) := ⟨Nat.le_refl _, fun i hi => absurd hi (Nat.not_lt_zero i)⟩
theorem lng_le {k m : Nat} {S : Ln} (h : lng k S) (hm : k ≤ m) : lng m S := ⟨Nat.le_trans h.1 hm, h.2⟩
theorem lng_c {k c : Nat} {S : Ln} (h : lng k S) (hc : c < 256) : lng (k + 1) (wc S c) := by
  refine ⟨Nat.succ_le_succ h.1, fun i hi => ?_⟩
  show (if i < S.2 then S.1 i else c) < 256
  by_cases q : i < S.2
  · rw [if_pos q]; exact h.2 i q
  · rw [if_neg q]; exact hc
theorem lng_i {k x d : Nat} {S : Ln} (h : lng k S) (hx : sb_dg x ≤ d) : lng (k + d) (wi S x) := by
  refine ⟨Nat.add_le_add h.1 hx, fun i hi => ?_⟩
  rcases Nat.lt_or_ge i S.2 with q | q
  · show sb_cat S.1 S.2 (sb_dec x) i < 256
    rw [sb_cat_lo q]; exact h.2 i q
  · obtain ⟨j, rfl⟩ := Nat.exists_eq_add_of_le q
    have hi2 : S.2 + j < S.2 + sb_dg x := hi
    rw [wi_at (by omega)]
    have := Nat.mod_lt (x / tpw (sb_dg x) j) (show 10 > 0 by decide)
    omega
theorem dg9 {x : Nat} (h : x < 2 ^ 28) : sb_dg x ≤ 9 := by
  unfold sb_dg
  (repeat' split) <;> omega
theorem lng_plS {k : Nat} {S : Ln} (h : lng k S) : ∀ j : Nat, lng (k + j) (plS j S)
  | 0 => h
  | j + 1 => lng_c (lng_plS h j) (by decide)
theorem lng_tell {b f : Nat} {C : Ct} {F : Nat → Nat} (hK : bdk b C) (hb : b ≤ 2 ^ 28) (hi : iv C) (hf : f < C 0 0) : lng 120 (tellL C f (F, 0)) := by
  have a1 := hi.1
  have a2 := hi.2.2.2.1 f
  have a3 := hi.2.2.2.2.1 f
  have a4 := hi.2.2.2.2.2.1 f
  have a5 := hK 3 f
  have k1 : lng (2 + 1 + 2 + 1 + 2) (wi (wc (wi (wc (wi (F, 0) f) 115) (C 1 f)) 36) (C 2 f)) := lng_le (lng_i (lng_c (lng_i (lng_c (lng_i lng_0 (dg2 (by omega))) (by decide)) (dg2 (by omega))) (by decide)) (dg2 (by omega))) (by omega)
  unfold tellL
  refine lng_le (lng_plS (k := 2 + 1 + 2 + 1 + 2 + 1 + 9) ?_ (C 4 f)) (by omega)
  by_cases q : 0 < C 3 f
  · rw [if_pos q]; exact lng_i (lng_c k1 (by decide)) (dg9 (by omega))
  · rw [if_neg q]; exact lng_le k1 (by omega)
theorem lng_bk {C : Ct} {F : Nat → Nat} (hi : iv C) : ∀ p : Nat, p ≤ C 0 2 → lng (12 * p) (bkL C (F, 0) p)
  | 0, _ => lng_0
  | p + 1, hp => by
    have ih := lng_bk (F := F) hi p (by omega)
    have a := hi.2.2.2.2.2.2.2.2.2.1 p (by omega)
    have a1 := hi.1
    have a2 := hi.2.1
    have k0 : lng (12 * p + 1) (if 0 < p then wc (bkL C (F, 0) p) 32 else bkL C (F, 0) p) := by
      by_cases q : 0 < p
      · rw [if_pos q]; exact lng_c ih (by decide)
      · rw [if_neg q]; exact lng_le ih (by omega)
    exact lng_le (lng_i (lng_c (lng_i (lng_c (lng_i (lng_c (lng_i k0 (dg2 (by omega))) (by decide)) (dg2 (by omega))) (by decide)) (dg2 (by omega))) (by decide)) (dg2 (by omega))) (by omega)
/-- a reason is never 0 -/
def rz (R : Rz) : Prop := ∀ p, R.2.2 = some p → ¬ p.1 = 0
theorem rz_n {C : Ct} {c : Int32} : rz (ncz c C) := fun p hp => by cases hp
theorem rz_o {C : Ct} {c : Int32} : rz (c, C, none) := fun p hp => by cases hp
theorem rz_r {C : Ct} {w d : Int32} (h : ¬ w = 0) : rz (rfz C w d) := fun p hp => by
  cases hp
  exact h
theorem rz_dFool {C : Ct} {s : Int32} : rz (dFool C s) := by
  unfold dFool 
  (repeat' split) <;> first | exact rz_n | exact rz_r (by decide) | exact rz_o
theorem rz_dJoke {C : Ct} {s : Int32} : rz (dJoke C s) := by
  unfold dJoke 
  (repeat' split) <;> first | exact rz_n | exact rz_r (by decide) | exact rz_o
theorem rz_dPat {C : Ct} {f j x : Int32} : rz (dPat C f j x) := by
  unfold dPat dPatN
  (repeat' split) <;> first | exact rz_n | exact rz_r (by decide) | exact rz_o
theorem rz_dIns {C : Ct} {f : Int32} : rz (dIns C f) := by
  unfold dIns dInsN
  (repeat' split) <;> first | exact rz_n | exact rz_r (by decide) | exact rz_o
theorem rz_dAud {C : Ct} {f : Int32} : rz (dAud C f) := by
  unfold dAud dAudN
  (repeat' split) <;> first | exact rz_n | exact rz_r (by decide) | exact rz_o
theorem rz_dExe {C : Ct} {t x : Int32} : rz (dExe C t x) := by
  unfold dExe dExeN
  (repeat' split) <;> first | exact rz_n | exact rz_r (by decide) | exact rz_o
theorem rz_dBook {C : Ct} {f j t x : Int32} : rz (dBook C f j t x) := by
  unfold dBook dBookN dBookP
  (repeat' split) <;> first | exact rz_n | exact rz_r (by decide) | exact rz_o
theorem rz_dNext {C : Ct}  : rz (dNext C ) := by
  unfold dNext 
  (repeat' split) <;> first | exact rz_n | exact rz_r (by decide) | exact rz_o
theorem rz_dPass {C : Ct} {x : Int32} : rz (dPass C x) := by
  unfold dPass dPassN dPs
  (repeat' split) <;> first | exact rz_n | exact rz_r (by decide) | exact rz_o
/-- the class's side of the law's world -/
def kA (G : vG) (u : Nat) (h : AH) (sv : Nat) (rs dt : Int32) (C : Ct) (T : Hs) (Sn : Ct) : Prop := h u = some (jc u sv rs dt) ∧ ct G h (u + 1) C ∧ (∃ B : Ct, ct G h (u + 21) B) ∧ (∃ Y : Ct, ct G h (u + 41) Y) ∧ ct G h (u + 61) Sn ∧ ht G h (u + 81) T
theorem kA.fr {G : vG} {u : Nat} {h h2 : AH} {sv : Nat} {rs dt : Int32} {C : Ct} {T : Hs} {Sn : Ct} (a : kA G u h sv rs dt C T Sn) (f : ∀ z, u ≤ z → z < u + 243 → h2 z = h z) : kA G u h2 sv rs dt C T Sn := by
  obtain ⟨h1, h3, ⟨B, h4⟩, ⟨Y, h5⟩, h6, h7⟩ := a
  exact ⟨(f u (by omega) (by omega)).trans h1, fun i hi => (f _ (by omega) (by omega)).trans (h3 i hi), ⟨B, fun i hi => (f _ (by omega) (by omega)).trans (h4 i hi)⟩, ⟨Y, fun i hi => (f _ (by omega) (by omega)).trans (h5 i hi)⟩, fun i hi => (f _ (by omega) (by omega)).trans (h6 i hi), ht_fr h7 (fun z z1 z2 => f z (by omega) (by omega))⟩
def kB (G : vG) (u n : Nat) (h : AH) (a : Nat) (TX : Ln) : Prop := a < n ∧ (a = u + 245 ∨ u + 250 ≤ a) ∧ (∃ mm mb : Nat, capM mm ∧ sbP G h (u + 244) a mm TX.1 TX.2 mb) ∧ ∃ (c p r : Nat) (L N : Nat → Nat), h (u + 243) = some (.inr (6, [.ref (u + 244), .int (nI c), .int (nI p), .int (nI r), .ref (u + 246), .ref (u + 247)])) ∧ h (u + 246) = some (.inl (gC G 1, 30, .inl (fun i => nI (L i)))) ∧ h (u + 247) = some (ar G 120 N)
theorem kB.fr {G : vG} {u n n2 : Nat} {h h2 : AH} {a : Nat} {TX : Ln} (k : kB G u n h a TX) (hn : n ≤ n2) (f : ∀ z, (u + 243 ≤ z ∧ z ≤ u + 247) ∨ z = a → h2 z = h z) : kB G u n2 h2 a TX := by
  obtain ⟨h1, h3, ⟨mm, mb, h4, h5⟩, c, p, r, L, N, h6, h7, h8⟩ := k
  exact ⟨by omega, h3, ⟨mm, mb, h4, sbP_fr h5 (f _ (Or.inl (by omega))) (f _ (Or.inr rfl))⟩, c, p, r, L, N, (f _ (Or.inl (by omega))).trans h6, (f _ (Or.inl (by omega))).trans h7, (f _ (Or.inl (by omega))).trans h8⟩
def kC (G : vG) (u n : Nat) (h : AH) (a : Nat) (LN : Ln) : Prop := a < n ∧ (a = u + 249 ∨ u + 250 ≤ a) ∧ ∃ mm mb : Nat, capM mm ∧ sbP G h (u + 248) a mm LN.1 LN.2 mb
theorem kC.fr {G : vG} {u n n2 : Nat} {h h2 : AH} {a : Nat} {LN : Ln} (k : kC G u n h a LN) (hn : n ≤ n2) (f : ∀ z, z = u + 248 ∨ z = a → h2 z = h z) : kC G u n2 h2 a LN := by
  obtain ⟨h1, h3, mm, mb, h4, h5⟩ := k
  exact ⟨by omega, h3, mm, mb, h4, sbP_fr h5 (f _ (Or.inl rfl)) (f _ (Or.inr rfl))⟩
