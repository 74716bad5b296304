/-- what a change keeps -/
def gs (b : Nat) (R : Rz) : Prop := Iv R.2.1 ∧ bdk (b + 3000) R.2.1 ∧ (R.2.2 = none ∨ R.1 = -1014)
theorem gs_n {b : Nat} {C : Ct} {c : Int32} (h : Iv C) (hK : bdk b C) : gs b (ncz c C) := ⟨h, hK.up (by omega), Or.inl rfl⟩
theorem gs_r {b : Nat} {C : Ct} {c d : Int32} (h : Iv C) (hK : bdk b C) : gs b (rfz C c d) := ⟨h, hK.up (by omega), Or.inr rfl⟩
theorem gs_o {b : Nat} {C : Ct} {c : Int32} (h : Iv C) (hK : bdk (b + 3000) C) : gs b (c, C, none) := ⟨h, hK, Or.inl rfl⟩
theorem cl_rg {x : Int32} {a b : Nat} (h1 : ¬ x < nI a) (h2 : x ≤ nI b) (ha : a < 2 ^ 31) (hb : b < 2 ^ 31) : a ≤ x.toNatClampNeg ∧ x.toNatClampNeg ≤ b := by
  obtain ⟨k, e1, e2, rfl⟩ := rg_of h1 h2 ha hb
  rw [nI_clamp (by omega)]
  exact ⟨e1, e2⟩
theorem cl_ix {x : Int32} {k : Nat} (h : ixb x k = true) (hk : k < 2 ^ 31) : x.toNatClampNeg < k := by
  obtain ⟨f, e1, rfl⟩ := ix_of h hk
  rw [nI_clamp (by omega)]
  exact e1
theorem gs_dFool {b : Nat} {C : Ct} {s : Int32} (h : Iv C) (hK : bdk b C) : gs b (dFool C s) := by
  unfold dFool
  by_cases h1 : s < nI 1
  · rw [if_pos h1]; exact gs_n h hK
  rw [if_neg h1]
  by_cases h2 : s ≤ nI 9
  · rw [if_pos h2]
    by_cases h3 : C 0 0 < 6
    · rw [if_pos h3]
      have hs := cl_rg h1 h2 (by decide) (by decide)
      have b1 := hK 0 4
      have b2 := hK 0 0
      exact gs_o (Iv_dFool h h3 hs.2) (bdk_cu (b := b + 400) (bdk_cu (b := b + 300) (c := b + 400) (bdk_cu (b := b + 200) (c := b + 300) (bdk_cu (c := b + 200) hK (by omega) (by omega)) (by omega) (by omega)) (by omega) (by omega)) (by omega) (by omega))
    · rw [if_neg h3]; exact gs_r h hK
  · rw [if_neg h2]; exact gs_n h hK
theorem gs_dJoke {b : Nat} {C : Ct} {s : Int32} (h : Iv C) (hK : bdk b C) : gs b (dJoke C s) := by
  unfold dJoke
  by_cases h1 : s < nI 1
  · rw [if_pos h1]; exact gs_n h hK
  rw [if_neg h1]
  by_cases h2 : s ≤ nI 9
  · rw [if_pos h2]
    by_cases h3 : C 0 1 < 12
    · rw [if_pos h3]
      have hs := cl_rg h1 h2 (by decide) (by decide)
      have b2 := hK 0 1
      exact gs_o (Iv_dJoke h h3 hs.2 hs.1) (bdk_cu (b := b + 300) (bdk_cu (c := b + 300) hK (by omega) (by omega)) (by omega) (by omega))
    · rw [if_neg h3]; exact gs_r h hK
  · rw [if_neg h2]; exact gs_n h hK
theorem gs_dPat {b : Nat} {C : Ct} {f j x : Int32} (h : Iv C) (hK : bdk b C) : gs b (dPat C f j x) := by
  have hF := h.1.1
  have hJ := h.1.2.1
  unfold dPat
  by_cases i1 : ixb f (C 0 0) = true
  · rw [if_pos i1]
    by_cases i2 : ixb j (C 0 1) = true
    · rw [if_pos i2]
      by_cases h1 : x < nI 1
      · rw [if_pos h1]; exact gs_n h hK
      rw [if_neg h1]
      by_cases h2 : x ≤ nI 48
      · rw [if_pos h2]
        have hx := cl_rg h1 h2 (by decide) (by decide)
        have hf := cl_ix i1 (by omega)
        unfold dPatN
        split
        · exact gs_r h hK
        · split
          · have b3 := hK 0 3
            have hc := h.1.2.2.2.2.1 f.toNatClampNeg
            exact gs_o (Iv_dPat h hf hx.2) (bdk_cu (b := b + 200) (bdk_cu (b := b + 100) (c := b + 200) (bdk_payU hK (Nat.le_refl _) (Or.inr hc)) (by omega) (by omega)) (by omega) (by omega))
          · exact gs_r h hK
      · rw [if_neg h2]; exact gs_n h hK
    · rw [if_neg i2]; exact gs_n h hK
  · rw [if_neg i1]; exact gs_n h hK
theorem gs_dIns {b : Nat} {C : Ct} {f : Int32} (h : Iv C) (hK : bdk b C) : gs b (dIns C f) := by
  have hF := h.1.1
  unfold dIns
  by_cases i1 : ixb f (C 0 0) = true
  · rw [if_pos i1]
    have hf := cl_ix i1 (by omega)
    unfold dInsN
    by_cases h4 : C 4 f.toNatClampNeg < 3
    · rw [if_pos h4]
      split
      · have b4 := hK 4 f.toNatClampNeg
        exact gs_o (Iv_4 (Iv_payU h hf) (by omega)) (bdk_cu (b := b + 100) (bdk_payU hK (Nat.le_refl _) (Or.inl (by omega))) (by omega) (by omega))
      · exact gs_r h hK
    · rw [if_neg h4]; exact gs_r h hK
  · rw [if_neg i1]; exact gs_n h hK
theorem gs_dAud {b : Nat} {C : Ct} {f : Int32} (h : Iv C) (hK : bdk b C) : gs b (dAud C f) := by
  have hF := h.1.1
  unfold dAud
  by_cases i1 : ixb f (C 0 0) = true
  · rw [if_pos i1]
    have hf := cl_ix i1 (by omega)
    unfold dAudN
    split
    · split
      · exact gs_r h hK
      · have b4 := hK 3 f.toNatClampNeg
        have hc := h.1.2.2.2.2.1 f.toNatClampNeg
        exact gs_o (Iv_3 (Iv_payU h hf) hf) (bdk_cu (b := b + 100) (bdk_payU hK (Nat.le_refl _) (Or.inr hc)) (by omega) (by omega))
    · exact gs_r h hK
  · rw [if_neg i1]; exact gs_n h hK
theorem gs_dExe {b : Nat} {C : Ct} {t x : Int32} (h : Iv C) (hK : bdk b C) : gs b (dExe C t x) := by
  have key : ∀ e, e ≤ 1 → gs b (dExeN C t.toNatClampNeg e) := by
    intro e he
    unfold dExeN
    split
    · exact gs_r h hK
    · have := hK 0 0
      exact gs_o (Iv_15 h he) (bdk_cu hK (by omega) (by omega))
  unfold dExe
  split
  · split
    · exact key 0 (by decide)
    · split
      · exact key 1 (by decide)
      · exact gs_n h hK
  · exact gs_n h hK
theorem gs_dBook {b : Nat} {C : Ct} {f j t x : Int32} (h : Iv C) (hK : bdk b C) (hb1 : 200 ≤ b) : gs b (dBook C f j t x) := by
  have hF := h.1.1
  have hJ := h.1.2.1
  unfold dBook
  by_cases i1 : ixb f (C 0 0) = true
  · rw [if_pos i1]
    by_cases i2 : ixb j (C 0 1) = true
    · rw [if_pos i2]
      by_cases i3 : ixb t 4 = true
      · rw [if_pos i3]
        by_cases h1 : x < 0
        · rw [if_pos h1]; exact gs_n h hK
        rw [if_neg h1]
        by_cases h2 : x ≤ nI 99
        · rw [if_pos h2]
          have hx := cl_rg (a := 0) h1 h2 (by decide) (by decide)
          have hf := cl_ix i1 (by omega)
          have hj := cl_ix i2 (by omega)
          have ht := cl_ix i3 (by omega)
          unfold dBookN
          by_cases h3 : C 0 3 ≤ x.toNatClampNeg
          · rw [if_pos h3]
            split
            · exact gs_r h hK
            · split
              · exact gs_r h hK
              · cases hb : bkF C f.toNatClampNeg x.toNatClampNeg with
                | some p => exact gs_r h hK
                | none =>
                  show gs b (if C 0 2 < 10 then _ else _)
                  by_cases h5 : C 0 2 < 10
                  · rw [if_pos h5]
                    exact gs_o (Iv_insF h h5 hf hj ht hx.2 h3 hb) (bdk_insF hK (by omega) (by omega) (by omega) (by omega) (by omega))
                  · rw [if_neg h5]; exact gs_r h hK
          · rw [if_neg h3]; exact gs_r h hK
        · rw [if_neg h2]; exact gs_n h hK
      · rw [if_neg i3]; exact gs_n h hK
    · rw [if_neg i2]; exact gs_n h hK
  · rw [if_neg i1]; exact gs_n h hK
theorem gs_dNext {b : Nat} {C : Ct} (h : Iv C) (hK : bdk b C) : gs b (dNext C) := by
  unfold dNext
  by_cases h0 : C 0 2 = 0
  · rw [if_pos h0]; exact gs_r h hK
  · rw [if_neg h0]
    exact gs_o (Iv_crG h (by omega)) (bdk_crG hK (Nat.le_refl _) (h.1.2.2.2.2.2.2.1 _) (h.1.2.2.2.1 _))
theorem gs_dPass {b : Nat} {C : Ct} {x : Int32} (h : Iv C) (hK : bdk b C) : gs b (dPass C x) := by
  unfold dPass
  by_cases h1 : x < nI 1
  · rw [if_pos h1]; exact gs_n h hK
  rw [if_neg h1]
  by_cases h2 : x ≤ nI 24
  · rw [if_pos h2]
    have hx := cl_rg h1 h2 (by decide) (by decide)
    have b3 := hK 0 3
    have key : (C 0 2 = 0 ∨ C 0 3 + x.toNatClampNeg ≤ C 14 0) → gs b (dPs C x.toNatClampNeg) := fun z => gs_o (Iv_hour h z) (bdk_cu hK (by omega) (by omega))
    unfold dPassN
    by_cases h3 : 0 < C 0 2
    · rw [if_pos h3]
      by_cases h4 : C 0 3 + x.toNatClampNeg ≤ C 14 0
      · rw [if_pos h4]; exact key (Or.inr h4)
      · rw [if_neg h4]; exact gs_r h hK
    · rw [if_neg h3]; exact key (Or.inl (by omega))
  · rw [if_neg h2]; exact gs_n h hK
