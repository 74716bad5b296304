/-- a StringBuilder at s with the text S, its bytes at a, m of them: no more than twice what it needs -/
def sbL (G : vG) (h : AH) (s a m : Nat) (S : Ln) : Prop := (∃ mb : Nat, sbP G h s a m S.1 S.2 mb) ∧ 16 ≤ m ∧ m ≤ 2 * S.2 + 16
theorem sbL.fr {G : vG} {h h2 : AH} {s a m : Nat} {S : Ln} (b : sbL G h s a m S) (h1 : h2 s = h s) (h3 : h2 a = h a) : sbL G h2 s a m S := by
  obtain ⟨⟨mb, hb⟩, c⟩ := b
  exact ⟨⟨mb, sbP_fr hb h1 h3⟩, c⟩
theorem sbL.cong {G : vG} {h : AH} {s a m : Nat} {S T : Ln} (b : sbL G h s a m S) (h2 : T.2 = S.2) (h1 : ∀ i, i < S.2 → T.1 i = S.1 i) : sbL G h s a m T := by
  obtain ⟨⟨mb, q1, f, q2, q3, q4, q5⟩, c1, c2⟩ := b
  refine ⟨⟨mb, by rw [h2]; exact q1, f, q2, fun j hj => ?_, q4, by omega⟩, c1, by omega⟩
  rw [h2] at hj
  rw [h1 j hj]
  exact q3 j hj
theorem grow_ok {q m : Nat} (hm : 16 ≤ m) : m < q → 1 ≤ sb_cap q m / 16 - m / 16 ∧ sb_cap q m ≤ 2 * sb_cap q m - 2 * m := by
  intro h
  unfold sb_cap
  rw [if_neg (by omega)]
  split <;> omega
theorem cap_bd {q k m : Nat} (hm : m ≤ 2 * k + 16) (hk : k ≤ q) : sb_cap q m ≤ 2 * q + 16 := by
  unfold sb_cap
  split
  · omega
  · split <;> omega
/-- a text, and another behind it -/
def wl (S L : Ln) : Ln := (sb_cat S.1 S.2 L.1, S.2 + L.2)
abbrev zL : Ln := (fun _ => 0, 0)
theorem v_appC {l : Launch} {G : vG} {M : vM} {rc rs : Nat} {Fz : vFin} {pc : Nat} {ls : List (Option Value)} {st : List Value} {n : Nat} {h : AH} {cells slots : Nat} {index s a m : Nat} {S : Ln} {c : Nat} (c0 s0 : Nat) (hd : decode M.2.1 pc = .ok (.invokevirtual index, 3)) (hb : sbL G h s a m S) (hc : c < 256) (hw : cV M.1.cls index mJ4_append_cf468 1) (hR : mJ4_append_cf468.2.2.2.2.1 + 1 ≤ M.2.2.2.2.1 ∧ 8 + (mJ4_append_cf468.2.2.1 + 11) + mJ4_append_cf468.2.2.2.2.2 ≤ M.2.2.2.2.2) (hst : (st.map fun v => v.category).sum ≤ 8) (hk : S.2 ≤ 20000) (hc1 : cells ≤ c0 + m / 16) (hs1 : slots ≤ s0 + 2 * m) (hc2 : c0 + (2 * S.2 + 18) / 16 ≤ rc) (hs2 : s0 + 2 * (2 * S.2 + 18) ≤ rs) (kk : ∀ (a2 m2 n2 : Nat) (h2 : AH), n ≤ n2 → (a2 = a ∨ n ≤ a2) → a2 < n2 → s < n2 → sbL G h2 s a2 m2 (wc S c) → frP (fun z => z ≠ s ∧ z ≠ a ∧ z < n) h h2 → V l G M rc rs Fz (pc + 3) ls (.ref s :: st) n2 h2 (c0 + m2 / 16) (s0 + 2 * m2)) : V l G M rc rs Fz pc ls (.int (nI c) :: .ref s :: st) n h cells slots := by
  obtain ⟨⟨mb, hb⟩, h16, hmk⟩ := hb
  have hg := grow_ok (q := S.2 + 1) h16
  have hcb := cap_bd (q := S.2 + 1) hmk (by omega)
  have hgm := sb_cap_gem (S.2 + 1) m
  have ⟨_, f, ha, _, _, _⟩ := hb
  refine v_widen hc1 hs1 ?_
  refine v_lt hb.1 (fun hsn => v_lt ha (fun han => ?_))
  refine v_callV (T := TJ4) (N := 4) (mc := sb_cap (S.2 + 1) m / 16 - m / 16) (ms := 2 * sb_cap (S.2 + 1) m - 2 * m) hd (tg_J4_append_cf468 hb hc (by omega) (by omega) (by omega) hg) hw hb.1 rfl rfl hR hst ⟨by omega, by omega⟩ (fun r n2 h2 hq => ?_)
  obtain ⟨rfl, a2, hg9, hb9, fr9⟩ := hq
  unfold sbG at hg9
  refine v_widen (k1 := c0 + sb_cap (S.2 + 1) m / 16) (k2 := s0 + 2 * sb_cap (S.2 + 1) m) (by omega) (by omega) ?_
  exact kk a2 (sb_cap (S.2 + 1) m) n2 h2 (by omega) (by omega) (by omega) (by omega) ⟨⟨mb, hb9⟩, by omega, hcb⟩ (fun z (hz : z ≠ s ∧ z ≠ a ∧ z < n) => fr9 z (by omega))
theorem v_appI {l : Launch} {G : vG} {M : vM} {rc rs : Nat} {Fz : vFin} {pc : Nat} {ls : List (Option Value)} {st : List Value} {n : Nat} {h : AH} {cells slots : Nat} {index s a m : Nat} {S : Ln} {x : Nat} (c0 s0 : Nat) (hd : decode M.2.1 pc = .ok (.invokevirtual index, 3)) (hb : sbL G h s a m S) (hx : x < 2 ^ 28) (hw : cV M.1.cls index mJ4_append_bf812 1) (hR : mJ4_append_bf812.2.2.2.2.1 + 1 ≤ M.2.2.2.2.1 ∧ 8 + (mJ4_append_bf812.2.2.1 + 11) + mJ4_append_bf812.2.2.2.2.2 ≤ M.2.2.2.2.2) (hst : (st.map fun v => v.category).sum ≤ 8) (hk : S.2 ≤ 20000) (hc1 : cells ≤ c0 + m / 16) (hs1 : slots ≤ s0 + 2 * m) (hc2 : c0 + (2 * S.2 + 34) / 16 ≤ rc) (hs2 : s0 + 2 * (2 * S.2 + 34) ≤ rs) (kk : ∀ (a2 m2 n2 : Nat) (h2 : AH), n ≤ n2 → (a2 = a ∨ n ≤ a2) → a2 < n2 → s < n2 → sbL G h2 s a2 m2 (wi S x) → frP (fun z => z ≠ s ∧ z ≠ a ∧ z < n) h h2 → V l G M rc rs Fz (pc + 3) ls (.ref s :: st) n2 h2 (c0 + m2 / 16) (s0 + 2 * m2)) : V l G M rc rs Fz pc ls (.int (nI x) :: .ref s :: st) n h cells slots := by
  obtain ⟨⟨mb, hb⟩, h16, hmk⟩ := hb
  have hdg := dg9 hx
  have hg := grow_ok (q := S.2 + sb_dg x) h16
  have hcb := cap_bd (q := S.2 + sb_dg x) hmk (by omega)
  have hgm := sb_cap_gem (S.2 + sb_dg x) m
  have ⟨_, f, ha, _, _, _⟩ := hb
  refine v_widen hc1 hs1 ?_
  refine v_lt hb.1 (fun hsn => v_lt ha (fun han => ?_))
  refine v_callV (T := TJ4) (N := 4) (mc := sb_cap (S.2 + sb_dg x) m / 16 - m / 16) (ms := 2 * sb_cap (S.2 + sb_dg x) m - 2 * m) hd (tg_J4_append_bf812 hb hx (by omega) (by omega) (by omega) hg) hw hb.1 rfl rfl hR hst ⟨by omega, by omega⟩ (fun r n2 h2 hq => ?_)
  obtain ⟨rfl, a2, hg9, hb9, fr9⟩ := hq
  unfold sbG at hg9
  refine v_widen (k1 := c0 + sb_cap (S.2 + sb_dg x) m / 16) (k2 := s0 + 2 * sb_cap (S.2 + sb_dg x) m) (by omega) (by omega) ?_
  exact kk a2 (sb_cap (S.2 + sb_dg x) m) n2 h2 (by omega) (by omega) (by omega) (by omega) ⟨⟨mb, hb9⟩, by omega, hcb⟩ (fun z (hz : z ≠ s ∧ z ≠ a ∧ z < n) => fr9 z (by omega))
theorem v_appN {l : Launch} {G : vG} {M : vM} {rc rs : Nat} {Fz : vFin} {pc : Nat} {ls : List (Option Value)} {st : List Value} {n : Nat} {h : AH} {cells slots : Nat} {index s a m : Nat} {S : Ln}  (c0 s0 : Nat) (hd : decode M.2.1 pc = .ok (.invokevirtual index, 3)) (hb : sbL G h s a m S)  (hw : cV M.1.cls index mJ4_append_bf812 1) (hR : mJ4_append_bf812.2.2.2.2.1 + 1 ≤ M.2.2.2.2.1 ∧ 8 + (mJ4_append_bf812.2.2.1 + 11) + mJ4_append_bf812.2.2.2.2.2 ≤ M.2.2.2.2.2) (hst : (st.map fun v => v.category).sum ≤ 8) (hk : S.2 ≤ 20000) (hc1 : cells ≤ c0 + m / 16) (hs1 : slots ≤ s0 + 2 * m) (hc2 : c0 + (2 * S.2 + 26) / 16 ≤ rc) (hs2 : s0 + 2 * (2 * S.2 + 26) ≤ rs) (kk : ∀ (a2 m2 n2 : Nat) (h2 : AH), n ≤ n2 → (a2 = a ∨ n ≤ a2) → a2 < n2 → s < n2 → sbL G h2 s a2 m2 (wl S ngL) → frP (fun z => z ≠ s ∧ z ≠ a ∧ z < n) h h2 → V l G M rc rs Fz (pc + 3) ls (.ref s :: st) n2 h2 (c0 + m2 / 16) (s0 + 2 * m2)) : V l G M rc rs Fz pc ls (.int (-1015) :: .ref s :: st) n h cells slots := by
  obtain ⟨⟨mb, hb⟩, h16, hmk⟩ := hb
  have hg := grow_ok (q := S.2 + 5) h16
  have hcb := cap_bd (q := S.2 + 5) hmk (by omega)
  have hgm := sb_cap_gem (S.2 + 5) m
  have ⟨_, f, ha, _, _, _⟩ := hb
  refine v_widen hc1 hs1 ?_
  refine v_lt hb.1 (fun hsn => v_lt ha (fun han => ?_))
  refine v_callV (T := TJ4) (N := 4) (mc := sb_cap (S.2 + 5) m / 16 - m / 16) (ms := 2 * sb_cap (S.2 + 5) m - 2 * m) hd (tn_J4_append hb (by omega) (by omega) (by omega) hg) hw hb.1 rfl rfl hR hst ⟨by omega, by omega⟩ (fun r n2 h2 hq => ?_)
  obtain ⟨rfl, a2, hg9, hb9, fr9⟩ := hq
  unfold sbG at hg9
  refine v_widen (k1 := c0 + sb_cap (S.2 + 5) m / 16) (k2 := s0 + 2 * sb_cap (S.2 + 5) m) (by omega) (by omega) ?_
  exact kk a2 (sb_cap (S.2 + 5) m) n2 h2 (by omega) (by omega) (by omega) (by omega) ⟨⟨mb, hb9⟩, by omega, hcb⟩ (fun z (hz : z ≠ s ∧ z ≠ a ∧ z < n) => fr9 z (by omega))
theorem v_appS {l : Launch} {G : vG} {M : vM} {rc rs : Nat} {Fz : vFin} {pc : Nat} {ls : List (Option Value)} {st : List Value} {n : Nat} {h : AH} {cells slots : Nat} {index s a m : Nat} {S : Ln} {r ra : Nat} {L : Ln} (c0 s0 : Nat) (hd : decode M.2.1 pc = .ok (.invokevirtual index, 3)) (hb : sbL G h s a m S) (hv : strV G h r ra L) (hra : ra ≠ a) (hL : L.2 ≤ 5000) (hw : cV M.1.cls index mJ4_append_15ec4 1) (hR : mJ4_append_15ec4.2.2.2.2.1 + 1 ≤ M.2.2.2.2.1 ∧ 8 + (mJ4_append_15ec4.2.2.1 + 11) + mJ4_append_15ec4.2.2.2.2.2 ≤ M.2.2.2.2.2) (hst : (st.map fun v => v.category).sum ≤ 8) (hk : S.2 ≤ 20000) (hc1 : cells ≤ c0 + m / 16) (hs1 : slots ≤ s0 + 2 * m) (hc2 : c0 + (2 * S.2 + 2 * L.2 + 16) / 16 ≤ rc) (hs2 : s0 + 2 * (2 * S.2 + 2 * L.2 + 16) ≤ rs) (kk : ∀ (a2 m2 n2 : Nat) (h2 : AH), n ≤ n2 → (a2 = a ∨ n ≤ a2) → a2 < n2 → s < n2 → sbL G h2 s a2 m2 (wl S L) → frP (fun z => z ≠ s ∧ z ≠ a ∧ z < n) h h2 → V l G M rc rs Fz (pc + 3) ls (.ref s :: st) n2 h2 (c0 + m2 / 16) (s0 + 2 * m2)) : V l G M rc rs Fz pc ls (.ref r :: .ref s :: st) n h cells slots := by
  obtain ⟨⟨mb, hb⟩, h16, hmk⟩ := hb
  have hg := grow_ok (q := S.2 + L.2) h16
  have hcb := cap_bd (q := S.2 + L.2) hmk (by omega)
  have hgm := sb_cap_gem (S.2 + L.2) m
  have ⟨_, f, ha, _, _, _⟩ := hb
  refine v_widen hc1 hs1 ?_
  refine v_lt hb.1 (fun hsn => v_lt ha (fun han => ?_))
  refine v_callV (T := TJ4) (N := 4) (mc := sb_cap (S.2 + L.2) m / 16 - m / 16) (ms := 2 * sb_cap (S.2 + L.2) m - 2 * m) hd (tg_J4_append_15ec4 hb hv (by omega) (by omega) (by omega) hg hra) hw hb.1 rfl rfl hR hst ⟨by omega, by omega⟩ (fun r n2 h2 hq => ?_)
  obtain ⟨rfl, a2, hg9, hb9, fr9⟩ := hq
  unfold sbG at hg9
  refine v_widen (k1 := c0 + sb_cap (S.2 + L.2) m / 16) (k2 := s0 + 2 * sb_cap (S.2 + L.2) m) (by omega) (by omega) ?_
  exact kk a2 (sb_cap (S.2 + L.2) m) n2 h2 (by omega) (by omega) (by omega) (by omega) ⟨⟨mb, hb9⟩, by omega, hcb⟩ (fun z (hz : z ≠ s ∧ z ≠ a ∧ z < n) => fr9 z (by omega))
theorem v_newSB {l : Launch} {G : vG} {M : vM} {rc rs : Nat} {Fz : vFin} {pc : Nat} {ls : List (Option Value)} {st : List Value} {n : Nat} {h : AH} {cells slots : Nat} {i1 i2 : Nat} (hd0 : decode M.2.1 pc = .ok (.new i1, 3)) (hd1 : decode M.2.1 (pc + 3) = .ok (.dup, 1)) (hd2 : decode M.2.1 (pc + 4) = .ok (.invokespecial i2, 3)) (hcl : Cond.classLink M.1.cls i1 RJ4 ∈ gw) (hw : cI M.1.cls i2 mJ4_init_da8c8 0) (hR : mJ4_init_da8c8.2.2.2.2.1 + 1 ≤ M.2.2.2.2.1 ∧ 8 + (mJ4_init_da8c8.2.2.1 + 11) + mJ4_init_da8c8.2.2.2.2.2 ≤ M.2.2.2.2.2) (hst : ((.ref n :: st : List Value).map fun v => v.category).sum ≤ 8) (hc1 : cells + 2 ≤ rc) (hs1 : slots + 32 ≤ rs) (kk : ∀ h1 : AH, sbL G h1 n (n + 1) 16 zL → frP (fun z => z < n) h h1 → V l G M rc rs Fz (pc + 7) ls (.ref n :: st) (n + 2) h1 (cells + 1 + 16 / 16) (slots + 2 * 16)) : V l G M rc rs Fz pc ls (st) n h cells slots := by
  refine nnJ4 hd0 hcl (by omega) (by omega) (fun h1 f1 s1 => ?_)
  refine v_dup hd1 rfl ?_
  refine v_callI (st := .ref n :: st) hd2 (t_J4_init_da8c8 f1) hw rfl rfl hR hst ⟨by omega, by omega⟩ (fun r n2 h2 hq => ?_)
  obtain ⟨rfl, rfl, g1, g2, g3⟩ := hq
  refine v_widen (k1 := cells + 1 + 16 / 16) (k2 := slots + 2 * 16) (by omega) (by omega) ?_
  exact kk h2 ⟨⟨0, g1, _, g2, fun j hj => absurd hj (Nat.not_lt_zero j), sb_fit0, Nat.zero_le _⟩, by omega, by omega⟩ (fun z (hz : z < n) => (g3 z (by omega)).trans (s1 z (by omega)))
theorem v_toStr {l : Launch} {G : vG} {M : vM} {rc rs : Nat} {Fz : vFin} {pc : Nat} {ls : List (Option Value)} {st : List Value} {n : Nat} {h : AH} {cells slots : Nat} {index s a m : Nat} {S : Ln} (hd : decode M.2.1 pc = .ok (.invokevirtual index, 3)) (hb : sbL G h s a m S) (hw : cV M.1.cls index mJ4_toString_0e30d 0) (hR : mJ4_toString_0e30d.2.2.2.2.1 + 1 ≤ M.2.2.2.2.1 ∧ 8 + (mJ4_toString_0e30d.2.2.1 + 11) + mJ4_toString_0e30d.2.2.2.2.2 ≤ M.2.2.2.2.2) (hst : (st.map fun v => v.category).sum ≤ 8) (hk : S.2 ≤ 20000) (hc1 : cells + 2 ≤ rc) (hs1 : slots + (4 + S.2) ≤ rs) (kk : ∀ h1 : AH, strP G h1 n (n + 1) S → frP (fun z => z < n) h h1 → V l G M rc rs Fz (pc + 3) ls (.ref n :: st) (n + 2) h1 (cells + 2) (slots + (4 + S.2))) : V l G M rc rs Fz pc ls (.ref s :: st) n h cells slots := by
  obtain ⟨⟨mb, hb⟩, h16, hmk⟩ := hb
  refine v_callV (st := st) (T := TJ4) (N := 4) hd (t_J4_toString_0e30d hb (by omega)) hw hb.1 rfl rfl hR hst ⟨hc1, hs1⟩ (fun r n2 h2 hq => ?_)
  obtain ⟨rfl, rfl, g1, g2⟩ := hq
  exact kk h2 g1 g2
theorem v_eqS {l : Launch} {G : vG} {M : vM} {rc rs : Nat} {Fz : vFin} {pc : Nat} {ls : List (Option Value)} {st : List Value} {n : Nat} {h : AH} {cells slots : Nat} {index q p a b : Nat} {L : Ln} (hd : decode M.2.1 pc = .ok (.invokevirtual index, 3)) (hs : strP G h q a L) (hp : strP G h p b L) (hw : cV M.1.cls index mJ0_equals_9ea2d 1) (hR : mJ0_equals_9ea2d.2.2.2.2.1 + 1 ≤ M.2.2.2.2.1 ∧ 8 + (mJ0_equals_9ea2d.2.2.1 + 11) + mJ0_equals_9ea2d.2.2.2.2.2 ≤ M.2.2.2.2.2) (hst : (st.map fun v => v.category).sum ≤ 8) (hL : L.2 ≤ 20000) (hc1 : cells ≤ rc) (hs1 : slots ≤ rs) (kk : V l G M rc rs Fz (pc + 3) ls (.int (nI 1) :: st) n h cells slots) : V l G M rc rs Fz pc ls (.ref p :: .ref q :: st) n h cells slots := by
  refine v_callV (st := st) (T := TJ0) (N := 4) hd (t_J0_equals_9ea2d hs hp (by omega)) hw hs.1 rfl rfl hR hst ⟨hc1, hs1⟩ (fun r n2 h2 hq => ?_)
  obtain ⟨rfl, hn9, rfl⟩ := hq; replace hn9 := hn9.symm; subst hn9
  exact kk
/-- a loop over a heap that grows, its cost by a number that it carries -/
theorem loopX {l : Launch} {G : vG} {M : vM} {rc rs : Nat} {Fz : vFin} {pc : Nat} {ls : List (Option Value)} {st : List Value} {n : Nat} {h : AH} {cells slots : Nat} (Ls : Nat → List (Option Value)) (Inv : Nat → Nat → Nat → AH → Prop) (kc ks : Nat → Nat → Nat) {N : Nat} (i0 x0 : Nat) (h0 : i0 ≤ N) (he : ls = Ls i0) (hp : Inv i0 x0 n h) (hc : cells ≤ kc i0 x0) (hs0 : slots ≤ ks i0 x0) (hs : ∀ (i x n1 : Nat) (h1 : AH), i ≤ N → Inv i x n1 h1 → (i < N → ∀ (x2 n2 : Nat) (h2 : AH), Inv (i + 1) x2 n2 h2 → V l G M rc rs Fz pc (Ls (i + 1)) st n2 h2 (kc (i + 1) x2) (ks (i + 1) x2)) → V l G M rc rs Fz pc (Ls i) st n1 h1 (kc i x) (ks i x)) : V l G M rc rs Fz pc ls st n h cells slots := by
  rw [he]
  refine v_widen hc hs0 ?_
  exact loopN (P := fun i => ∀ (x n1 : Nat) (h1 : AH), Inv i x n1 h1 → V l G M rc rs Fz pc (Ls i) st n1 h1 (kc i x) (ks i x)) (fun i hi ih x n1 h1 hp => hs i x n1 h1 hi hp (fun hlt x2 n2 h2 hp2 => ih hlt x2 n2 h2 hp2)) i0 h0 x0 n h hp
/-- a call that asks: nothing changes -/
theorem v_ask {l : Launch} {G : vG} {M : vM} {rc rs : Nat} {Fz : vFin} {pc : Nat} {ls : List (Option Value)} {st : List Value} {n : Nat} {h : AH} {cells slots : Nat} {M2 : vM} {index : Nat} {As : List Value} {st0 : List Value} {b ci N : Nat} {fs : List Value} {T : u_T} {v v2 : Int32} (hd : decode M.2.1 pc = .ok (.invokevirtual index, 3)) (hM : Mt l G M2 (.ref b :: As) n h 0 0 (fun r n2 h2 => r = some (.int v) ∧ n2 = n ∧ h2 = h)) (hv : v = v2) (hw : cV M.1.cls index M2 As.length) (he : h b = some (.inr (ci, fs))) (hc : vwCl[ci]? = some (M2.1.cls, T, N)) (hs0 : st0 = As.reverse ++ .ref b :: st) (hR : M2.2.2.2.2.1 + 1 ≤ M.2.2.2.2.1 ∧ 8 + (M2.2.2.1 + 11) + M2.2.2.2.2.2 ≤ M.2.2.2.2.2) (hst : (st.map fun v => v.category).sum ≤ 8) (hf : cells ≤ rc ∧ slots ≤ rs) (kk : V l G M rc rs Fz (pc + 3) ls (.int v2 :: st) n h cells slots) : V l G M rc rs Fz pc ls (st0) n h cells slots := by
  refine v_callV (st := st) hd hM hw he hc hs0 hR hst hf (fun r n2 h2 hq => ?_)
  obtain ⟨rfl, hn9, rfl⟩ := hq; replace hn9 := hn9.symm; subst hn9
  rw [← hv] at kk
  exact kk
