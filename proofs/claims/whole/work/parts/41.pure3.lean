/-- what a change keeps -/
def gs (b : Nat) (R : Rz) : Prop := Iv R.2.1 ∧ bdk (b + 3000) R.2.1 ∧ (R.2.2 = none ∨ R.1 = -1014)
theorem gs_n {b : Nat} {C : Ct} {c : Int32} (h : Iv C) (hK : bdk b C) : gs b (ncz c C) := ⟨h, hK.up (by omega), Or.inl rfl⟩
theorem gs_r {b : Nat} {C : Ct} {c d : Int32} (h : Iv C) (hK : bdk b C) : gs b (rfz C c d) := ⟨h, hK.up (by omega), Or.inr rfl⟩
theorem gs_o {b : Nat} {C : Ct} {c : Int32} (h : Iv C) (hK : bdk (b + 3000) C) : gs b (c, C, none) := ⟨h, hK, Or.inl rfl⟩
theorem cl_rg {x : Int32} {a b : Nat} (h1 : ¬ x < nI a) (h2 : x ≤ nI b) (ha : a < 2 ^ 31) (hb : b < 2 ^ 31) : a ≤ x.toNatClampNeg ∧ x.toNatClampNeg ≤ b := by
  obtain ⟨k, e1, e2, rfl⟩ := rg_of h1 h2 ha hb
  rw [nI_clamp (by omega)]
  exact ⟨e1, e2⟩
theorem cl_ix {x : Int32} {k : Nat} (h : ixb x k = true) (hk : k < 2 ^ 31) : x.toNatClampNeg < k := by
  obtain ⟨f, e1, rfl⟩ := ix_of h hk
  rw [nI_clamp (by omega)]
  exact e1
theorem gs_dFool {b : Nat} {C : Ct} {s : Int32} (h : Iv C) (hK : bdk b C) : gs b (dFool C s) := by
  unfold dFool
  by_cases h1 : s < nI 1
  · rw [if_pos h1]; exact gs_n h hK
  rw [if_neg h1]
  by_cases h2 : s ≤ nI 9
  · rw [if_pos h2]
    by_cases h3 : C 0 0 < 6
    · rw [if_pos h3]
      have hs := cl_rg h1 h2 (by decide) (by decide)
      have b1 := hK 0 4
      have b2 := hK 0 0
      exact gs_o (Iv_dFool h h3 hs.2) (bdk_cu (b := b + 400) (bdk_cu (b := b + 300) (c := b + 400) (bdk_cu (b := b + 200) (c := b + 300) (bdk_cu (c := b + 200) hK (by omega) (by omega)) (by omega) (by omega)) (by omega) (by omega)) (by omega) (by omega))
    · rw [if_neg h3]; exact gs_r h hK
  · rw [if_neg h2]; exact gs_n h hK
theorem gs_dJoke {b : Nat} {C : Ct} {s : Int32} (h : Iv C) (hK : bdk b C) : gs b (dJoke C s) := by
  unfold dJoke
  by_cases h1 : s < nI 1
  · rw [if_pos h1]; exact gs_n h hK
  rw [if_neg h1]
  by_cases h2 : s ≤ nI 9
  · rw [if_pos h2]
    by_cases h3 : C 0 1 < 12
    · rw [if_pos h3]
      have hs := cl_rg h1 h2 (by decide) (by decide)
      have b2 := hK 0 1
      exact gs_o (Iv_dJoke h h3 hs.2 hs.1) (bdk_cu (b := b + 300) (bdk_cu (c := b + 300) hK (by omega) (by omega)) (by omega) (by omega))
    · rw [if_neg h3]; exact gs_r h hK
  · rw [if_neg h2]; exact gs_n h hK
theorem gs_dPat {b : Nat} {C : Ct} {f j x : Int32} (h : Iv C) (hK : bdk b C) : gs b (dPat C f j x) := by
  have hF := h.1.1
  have hJ := h.1.2.1
  unfold dPat
  by_cases i1 : ixb f (C 0 0) = true
  · rw [if_pos i1]
    by_cases i2 : ixb j (C 0 1) = true
    · rw [if_pos i2]
      by_cases h1 : x < nI 1
      · rw [if_pos h1]; exact gs_n h hK
      rw [if_neg h1]
      by_cases h2 : x ≤ nI 48
      · rw [if_pos h2]
        have hx := cl_rg h1 h2 (by decide) (by decide)
        have hf := cl_ix i1 (by omega)
        unfold dPatN
        split
        · exact gs_r h hK
        · split
          · have b3 := hK 0 3
            have hc := h.1.2.2.2.2.1 f.toNatClampNeg
            exact gs_o (Iv_dPat h hf hx.2) (bdk_cu (b := b + 200) (bdk_cu (b := b + 100) (c := b + 200) (bdk_payU hK (Nat.le_refl _) (Or.inr hc)) (by omega) (by omega)) (by omega) (by omega))
          · exact gs_r h hK
      · rw [if_neg h2]; exact gs_n h hK
    · rw [if_neg i2]; exact gs_n h hK
  · rw [if_neg i1]; exact gs_n h hK
theorem gs_dIns {b : Nat} {C : Ct} {f : Int32} (h : Iv C) (hK : bdk b C) : gs b (dIns C f) := by
  have hF := h.1.1
  unfold dIns
  by_cases i1 : ixb f (C 0 0) = true
  · rw [if_pos i1]
    have hf := cl_ix i1 (by omega)
    unfold dInsN
    by_cases h4 : C 4 f.toNatClampNeg < 3
    · rw [if_pos h4]
      split
      · have b4 := hK 4 f.toNatClampNeg
        exact gs_o (Iv_4 (Iv_payU h hf) (by omega)) (bdk_cu (b := b + 100) (bdk_payU hK (Nat.le_refl _) (Or.inl (by omega))) (by omega) (by omega))
      · exact gs_r h hK
    · rw [if_neg h4]; exact gs_r h hK
  · rw [if_neg i1]; exact gs_n h hK
theorem gs_dAud {b : Nat} {C : Ct} {f : Int32} (h : Iv C) (hK : bdk b C) : gs b (dAud C f) := by
  have hF := h.1.1
  unfold dAud
  by_cases i1 : ixb f (C 0 0) = true
  · rw [if_pos i1]
    have hf := cl_ix i1 (by omega)
    unfold dAudN
    split
    · split
      · exact gs_r h hK
      · have b4 := hK 3 f.toNatClampNeg
        have hc := h.1.2.2.2.2.1 f.toNatClampNeg
        exact gs_o (Iv_3 (Iv_payU h hf) hf) (bdk_cu (b := b + 100) (bdk_payU hK (Nat.le_refl _) (Or.inr hc)) (by omega) (by omega))
    · exact gs_r h hK
  · rw [if_neg i1]; exact gs_n h hK
theorem gs_dExe {b : Nat} {C : Ct} {t x : Int32} (h : Iv C) (hK : bdk b C) : gs b (dExe C t x) := by
  have key : ∀ e, e ≤ 1 → gs b (dExeN C t.toNatClampNeg e) := by
    intro e he
    unfold dExeN
    split
    · exact gs_r h hK
    · have := hK 0 0
      exact gs_o (Iv_15 h he) (bdk_cu hK (by omega) (by omega))
  unfold dExe
  split
  · split
    · exact key 0 (by decide)
    · split
      · exact key 1 (by decide)
      · exact gs_n h hK
  · exact gs_n h hK
theorem gs_dBook {b : Nat} {C : Ct} {f j t x : Int32} (h : Iv C) (hK : bdk b C) (hb1 : 200 ≤ b) : gs b (dBook C f j t x) := by
  have hF := h.1.1
  have hJ := h.1.2.1
  unfold dBook
  by_cases i1 : ixb f (C 0 0) = true
  · rw [if_pos i1]
    by_cases i2 : ixb j (C 0 1) = true
    · rw [if_pos i2]
      by_cases i3 : ixb t 4 = true
      · rw [if_pos i3]
        by_cases h1 : x < 0
        · rw [if_pos h1]; exact gs_n h hK
        rw [if_neg h1]
        by_cases h2 : x ≤ nI 99
        · rw [if_pos h2]
          have hx := cl_rg (a := 0) h1 h2 (by decide) (by decide)
          have hf := cl_ix i1 (by omega)
          have hj := cl_ix i2 (by omega)
          have ht := cl_ix i3 (by omega)
          unfold dBookN
          by_cases h3 : C 0 3 ≤ x.toNatClampNeg
          · rw [if_pos h3]
            split
            · exact gs_r h hK
            · split
              · exact gs_r h hK
              · cases hb : bkF C f.toNatClampNeg x.toNatClampNeg with
                | some p => exact gs_r h hK
                | none =>
                  show gs b (if C 0 2 < 10 then _ else _)
                  by_cases h5 : C 0 2 < 10
                  · rw [if_pos h5]
                    exact gs_o (Iv_insF h h5 hf hj ht hx.2 h3 hb) (bdk_insF hK (by omega) (by omega) (by omega) (by omega) (by omega))
                  · rw [if_neg h5]; exact gs_r h hK
          · rw [if_neg h3]; exact gs_r h hK
        · rw [if_neg h2]; exact gs_n h hK
      · rw [if_neg i3]; exact gs_n h hK
    · rw [if_neg i2]; exact gs_n h hK
  · rw [if_neg i1]; exact gs_n h hK
theorem gs_dNext {b : Nat} {C : Ct} (h : Iv C) (hK : bdk b C) : gs b (dNext C) := by
  unfold dNext
  by_cases h0 : C 0 2 = 0
  · rw [if_pos h0]; exact gs_r h hK
  · rw [if_neg h0]
    exact gs_o (Iv_crG h (by omega)) (bdk_crG hK (Nat.le_refl _) (h.1.2.2.2.2.2.2.1 _) (h.1.2.2.2.1 _))
theorem gs_dPass {b : Nat} {C : Ct} {x : Int32} (h : Iv C) (hK : bdk b C) : gs b (dPass C x) := by
  unfold dPass
  by_cases h1 : x < nI 1
  · rw [if_pos h1]; exact gs_n h hK
  rw [if_neg h1]
  by_cases h2 : x ≤ nI 24
  · rw [if_pos h2]
    have hx := cl_rg h1 h2 (by decide) (by decide)
    have b3 := hK 0 3
    have key : (C 0 2 = 0 ∨ C 0 3 + x.toNatClampNeg ≤ C 14 0) → gs b (dPs C x.toNatClampNeg) := fun z => gs_o (Iv_hour h z) (bdk_cu hK (by omega) (by omega))
    unfold dPassN
    by_cases h3 : 0 < C 0 2
    · rw [if_pos h3]
      by_cases h4 : C 0 3 + x.toNatClampNeg ≤ C 14 0
      · rw [if_pos h4]; exact key (Or.inr h4)
      · rw [if_neg h4]; exact gs_r h hK
    · rw [if_neg h3]; exact key (Or.inl (by omega))
  · rw [if_neg h2]; exact gs_n h hK
/-- an order that stands at p, done -/
def dO (T : Nat → Nat) (p : Nat) (C : Ct) : Rz := match shI (T p) with
  | 0 => dFool C (nI (oV T 0 p 0))
  | 1 => dJoke C (nI (oV T 1 p 0))
  | 2 => dPat C (nI (oV T 2 p 0)) (nI (oV T 2 p 1)) (nI (oV T 2 p 2))
  | 3 => dBook C (nI (oV T 3 p 0)) (nI (oV T 3 p 1)) (nI (oV T 3 p 2)) (nI (oV T 3 p 3))
  | 4 => dNext C
  | 5 => dIns C (nI (oV T 5 p 0))
  | 6 => dAud C (nI (oV T 6 p 0))
  | 7 => dExe C (nI (oV T 7 p 0)) (nI (oV T 7 p 1))
  | 8 => dPass C (nI (oV T 8 p 0))
  | _ => ncz (-1012) C
theorem gs_dO {T : Nat → Nat} {p b : Nat} {C : Ct} (h : Iv C) (hK : bdk b C) (hb1 : 200 ≤ b) : gs b (dO T p C) := by
  unfold dO
  split
  · exact gs_dFool h hK
  · exact gs_dJoke h hK
  · exact gs_dPat h hK
  · exact gs_dBook h hK hb1
  · exact gs_dNext h hK
  · exact gs_dIns h hK
  · exact gs_dAud h hK
  · exact gs_dExe h hK
  · exact gs_dPass h hK
  · exact gs_n h hK
theorem sN_ok {T : Nat → Nat} {m : Nat} {s : Bool × Nat} (h : (sN T m s).1 = true) : s.1 = true := by
  unfold sN at h
  by_cases q : s.1 = true
  · exact q
  · rw [if_neg q] at h; exact h
theorem sS_ok {T : Nat → Nat} {c : Nat} {s : Bool × Nat} (h : (sS T c s).1 = true) : s.1 = true := by
  unfold sS at h
  by_cases q : s.1 = true
  · exact q
  · rw [if_neg q] at h; exact h
theorem sPM_ok {T : Nat → Nat} {s : Bool × Nat} (h : (sPM T s).1 = true) : s.1 = true := by
  unfold sPM at h
  by_cases q : s.1 = true
  · exact q
  · rw [if_neg q] at h; exact h
theorem sN_2 {T : Nat → Nat} {m : Nat} {s : Bool × Nat} (h : s.1 = true) : (sN T m s).2 = s.2 + dc T m s.2 := by unfold sN; rw [if_pos h]
theorem sS_2 {T : Nat → Nat} {c : Nat} {s : Bool × Nat} (h : s.1 = true) : (sS T c s).2 = sgP T c s.2 := by unfold sS; rw [if_pos h]
theorem bhV_e {T : Nat → Nat} {c m : Nat} {s : Bool × Nat} (h : (sS T c s).1 = true) : bhV T c m s = dv T 0 m (sgP T c s.2) := by
  unfold bhV dvS
  rw [if_pos h, sS_2 (sS_ok h)]
theorem ov2 {T : Nat → Nat} {p : Nat} (h : (oS T 2 p).1 = true) : bhV T 58 2 (sN T 1 (true, p + 1)) = oV T 2 p 1 ∧ bhV T 42 2 (sN T 2 (sS T 58 (sN T 1 (true, p + 1)))) = oV T 2 p 2 := by
  have h1 : (sS T 42 (sN T 2 (sS T 58 (sN T 1 (true, p + 1))))).1 = true := sN_ok h
  have h2 := sS_ok h1
  have h3 := sN_ok h2
  have h4 := sS_ok h3
  rw [bhV_e h3, bhV_e h1, sN_2 h3, sS_2 h4]
  exact ⟨rfl, rfl⟩
theorem ov3 {T : Nat → Nat} {p : Nat} (h : (oS T 3 p).1 = true) : bhV T 58 2 (sN T 1 (true, p + 1)) = oV T 3 p 1 ∧ bhV T 64 1 (sN T 2 (sS T 58 (sN T 1 (true, p + 1)))) = oV T 3 p 2 ∧ bhV T 61 2 (sN T 1 (sS T 64 (sN T 2 (sS T 58 (sN T 1 (true, p + 1)))))) = oV T 3 p 3 := by
  have h1 : (sS T 61 (sN T 1 (sS T 64 (sN T 2 (sS T 58 (sN T 1 (true, p + 1))))))).1 = true := sN_ok h
  have h2 := sS_ok h1
  have h3 := sN_ok h2
  have h4 := sS_ok h3
  have h5 := sN_ok h4
  have h6 := sS_ok h5
  rw [bhV_e h5, bhV_e h3, bhV_e h1, sN_2 h3, sS_2 h4, sN_2 h5, sS_2 h6]
  exact ⟨rfl, rfl, rfl⟩
/-- after k orders: which one failed, the court then -/
def exA (T : Nat → Nat) (C : Ct) : Nat → Option Nat × Ct
  | 0 => (none, C)
  | k + 1 => match exA T C k with
    | (some j, D) => (some j, D)
    | (none, D) => if (dO T (op T k) D).1 < 0 then (some k, D) else (none, (dO T (op T k) D).2.1)
def exR (C : Ct) (K : Nat) : Option Nat × Ct → Rz
  | (some j, _) => rfz C 12 (nI j)
  | (none, D) => (nI K, D, none)
def dRun (T : Nat → Nat) (n : Nat) (C : Ct) : Rz := if (rdO T n 30 0).1 = true then exR C (rdO T n 30 0).2.1 (exA T C (rdO T n 30 0).2.1) else ncz ((-2000) - nI (rdO T n 30 0).2.2) C
theorem exA_f {T : Nat → Nat} {C D : Ct} {k : Nat} (h : exA T C k = (none, D)) (hn : (dO T (op T k) D).1 < 0) : exA T C (k + 1) = (some k, D) := by
  rw [exA, h]
  simp only
  rw [if_pos hn]
theorem exA_s {T : Nat → Nat} {C D : Ct} {k : Nat} (h : exA T C k = (none, D)) (hn : ¬ (dO T (op T k) D).1 < 0) : exA T C (k + 1) = (none, (dO T (op T k) D).2.1) := by
  rw [exA, h]
  simp only
  rw [if_neg hn]
theorem exA_st {T : Nat → Nat} {C D : Ct} {k j : Nat} (h : exA T C k = (some j, D)) : ∀ {K : Nat}, k ≤ K → exA T C K = (some j, D)
  | 0, hk => by rw [show k = 0 by omega] at h; exact h
  | K + 1, hk => by
    by_cases e : k = K + 1
    · rw [← e]; exact h
    · rw [exA, exA_st h (K := K) (by omega)]
/-- what a text that is right looks like -/
theorem rdO_all {T : Nat → Nat} {n : Nat} : ∀ (k p j0 : Nat), op T j0 = p → (rdO T n k p).1 = true → 0 < (rdO T n k p).2.1 ∧ ∀ j, j < (rdO T n k p).2.1 → (oS T (shI (T (op T (j0 + j)))) (op T (j0 + j))).1 = true ∧ (j + 1 < (rdO T n k p).2.1 → T (oS T (shI (T (op T (j0 + j)))) (op T (j0 + j))).2 = 59 ∧ (oS T (shI (T (op T (j0 + j)))) (op T (j0 + j))).2 ≠ n) ∧ (j + 1 = (rdO T n k p).2.1 → (oS T (shI (T (op T (j0 + j)))) (op T (j0 + j))).2 = n)
  | 0, p, j0, _, h => by cases h
  | k + 1, p, j0, hp, h => by
    obtain ⟨e, he⟩ : ∃ e : Bool × Nat, e = oS T (shI (T p)) p := ⟨_, rfl⟩
    have h0 : oS T (shI (T (op T (j0 + 0)))) (op T (j0 + 0)) = e := by rw [Nat.add_zero, hp, he]
    rw [rdO, ← he] at h ⊢
    by_cases c1 : e.1 = true
    · rw [if_pos c1] at h ⊢
      by_cases c2 : e.2 = n
      · rw [if_pos c2] at h ⊢
        refine ⟨Nat.one_pos, fun j hj => ?_⟩
        have hj : j < 1 := hj
        obtain rfl : j = 0 := by omega
        rw [h0]
        exact ⟨c1, fun z => absurd z (by show ¬ 0 + 1 < 1; decide), fun _ => c2⟩
      · rw [if_neg c2] at h ⊢
        by_cases c3 : T e.2 = 59
        · rw [if_pos c3] at h ⊢
          have hop : op T (j0 + 1) = e.2 + 1 := by rw [op, hp, ← he]
          obtain ⟨i1, i2⟩ := rdO_all k (e.2 + 1) (j0 + 1) hop h
          refine ⟨Nat.succ_pos _, fun j hj => ?_⟩
          cases j with
          | zero =>
            rw [h0]
            exact ⟨c1, fun _ => ⟨c3, c2⟩, fun z => absurd z (by show ¬ 0 + 1 = _ + 1; omega)⟩
          | succ j =>
            have hj : j + 1 < (rdO T n k (e.2 + 1)).2.1 + 1 := hj
            have h9 := i2 j (by omega)
            rw [show j0 + 1 + j = j0 + (j + 1) by omega] at h9
            refine ⟨h9.1, fun z => h9.2.1 ?_, fun z => h9.2.2 ?_⟩
            · have z : j + 1 + 1 < (rdO T n k (e.2 + 1)).2.1 + 1 := z
              omega
            · have z : j + 1 + 1 = (rdO T n k (e.2 + 1)).2.1 + 1 := z
              omega
        · rw [if_neg c3] at h; cases h
    · rw [if_neg c1] at h; cases h
theorem gs_exA {T : Nat → Nat} {b : Nat} {C : Ct} (h : Iv C) (hK : bdk b C) (hb1 : 200 ≤ b) : ∀ (k : Nat), Iv (exA T C k).2 ∧ bdk (b + 3000 * k) (exA T C k).2
  | 0 => ⟨h, hK⟩
  | k + 1 => by
    obtain ⟨h1, h2⟩ := gs_exA (T := T) h hK hb1 k
    cases he : exA T C k with
    | mk o D =>
      rw [he] at h1 h2
      cases o with
      | some j =>
        rw [exA_st (k := k) he (Nat.le_succ k)]
        exact ⟨h1, h2.up (by omega)⟩
      | none =>
        by_cases hn : (dO T (op T k) D).1 < 0
        · rw [exA_f he hn]; exact ⟨h1, h2.up (by omega)⟩
        · rw [exA_s he hn]
          have h9 := gs_dO (T := T) (p := op T k) h1 h2 (by omega)
          exact ⟨h9.1, h9.2.1.up (by omega)⟩
theorem m2k : ∀ p, p < 64 → ((-2000 : Int32) - nI p) < 0 := by decide
/-- a step of a run of calls keeps the court -/
def gsr (b : Nat) (R : Rz) : Prop := Iv R.2.1 ∧ bdk (b + 100000) R.2.1
theorem gsr_run {T : Nat → Nat} {n b : Nat} {C : Ct} (h : Iv C) (hK : bdk b C) (hb1 : 200 ≤ b) (hk : (rdO T n 30 0).2.1 ≤ 30) : gsr b (dRun T n C) := by
  unfold dRun
  split
  · obtain ⟨h1, h2⟩ := gs_exA (T := T) h hK hb1 (rdO T n 30 0).2.1
    cases he : exA T C (rdO T n 30 0).2.1 with
    | mk o D =>
      rw [he] at h1 h2
      cases o with
      | some j => exact ⟨h, hK.up (by omega)⟩
      | none => exact ⟨h1, h2.up (by omega)⟩
  · exact ⟨h, hK.up (by omega)⟩
