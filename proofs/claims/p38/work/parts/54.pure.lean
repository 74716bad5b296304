/-- coins that add up, slips, jokes told with k to spare, bookings apart -/
def jx (k : Nat) (C : Ct) : Prop := C 0 4 + sm (C 16) 4 = sm (C 2) 6 + C 0 5 + C 0 6 ∧ (∀ f, C 6 f ≤ C 5 f) ∧ sm (C 5) 6 + k ≤ C 0 7 ∧ ∀ p q, p < q → q < C 0 2 → ¬ (C 11 p = C 11 q ∧ C 14 p = C 14 q)
def Jv (C : Ct) : Prop := Iv C ∧ jx 0 C
theorem jx_Z0 : jx 0 Z0 := ⟨rfl, fun _ => Nat.le_refl _, Nat.le_refl _, fun _ q _ hq => absurd hq (Nat.not_lt_zero q)⟩
theorem jx_le {k m : Nat} {C : Ct} (h : jx k C) (hk : m ≤ k) : jx m C := ⟨h.1, h.2.1, by have := h.2.2.1; omega, h.2.2.2⟩
theorem jx_of {k : Nat} {C D : Ct} (h : jx k C) (e1 : D 0 4 + sm (D 16) 4 + sm (C 2) 6 + C 0 5 + C 0 6 = sm (D 2) 6 + D 0 5 + D 0 6 + C 0 4 + sm (C 16) 4) (e2 : D 6 = C 6) (e3 : D 5 = C 5) (e4 : D 0 7 = C 0 7) (e5 : D 0 2 = C 0 2) (e6 : D 11 = C 11) (e7 : D 14 = C 14) : jx k D := by
  obtain ⟨h1, h2, h3, h4⟩ := h
  refine ⟨by omega, by rw [e2, e3]; exact h2, by rw [e3, e4]; exact h3, by rw [e5, e6, e7]; exact h4⟩
theorem jx_payU {k m f : Nat} {C : Ct} (h : jx k C) (hf : f < 6) : jx k (payU C f m) := by
  refine jx_of h ?_ rfl rfl rfl rfl rfl rfl
  show C 0 4 + sm (C 16) 4 + sm (C 2) 6 + C 0 5 + C 0 6 = sm (va_up (C 2) f (C 2 f - pay C f m)) 6 + (C 0 5 + pay C f m) + C 0 6 + C 0 4 + sm (C 16) 4
  have h1 := sm_up (C 2) (C 2 f - pay C f m) hf
  have h2 : pay C f m ≤ C 2 f := Nat.min_le_right _ _
  omega
theorem sm_gain {C : Ct} {f m : Nat} (hf : f < 6) : sm (gain C f m 2) 6 + gain C f m 0 6 = sm (C 2) 6 + C 0 6 + m := by
  show sm (va_up (C 2) f (C 2 f + kept C f m)) 6 + (C 0 6 + (m - kept C f m)) = sm (C 2) 6 + C 0 6 + m
  have h1 := sm_up (C 2) (C 2 f + kept C f m) hf
  have h2 : kept C f m ≤ m := Nat.min_le_left _ _
  omega
theorem jx_payF {k f w : Nat} {C : Ct} (h : jx k C) (hf : f < 6) (hw : w < 6) : jx k (payF C f w) := by
  have h9 := sm_gain (C := cu C 2 f (C 2 f - pay C f 2)) (f := w) (m := pay C f 2) hw
  refine jx_of h ?_ rfl rfl rfl rfl rfl rfl
  show C 0 4 + sm (C 16) 4 + sm (C 2) 6 + C 0 5 + C 0 6 = sm (gain (cu C 2 f (C 2 f - pay C f 2)) w (pay C f 2) 2) 6 + C 0 5 + gain (cu C 2 f (C 2 f - pay C f 2)) w (pay C f 2) 0 6 + C 0 4 + sm (C 16) 4
  have e2 : sm ((cu C 2 f (C 2 f - pay C f 2)) 2) 6 = sm (va_up (C 2) f (C 2 f - pay C f 2)) 6 := rfl
  have e6 : (cu C 2 f (C 2 f - pay C f 2)) 0 6 = C 0 6 := rfl
  have h1 := sm_up (C 2) (C 2 f - pay C f 2) hf
  have h2 : pay C f 2 ≤ C 2 f := Nat.min_le_right _ _
  omega
theorem up_le {F E : Nat → Nat} {f : Nat} (h : ∀ g, F g ≤ E g) (g : Nat) : F g ≤ va_up E f (E f + 1) g := by
  unfold va_up
  by_cases e : g = f
  · subst e; rw [if_pos rfl]; have := h g; omega
  · rw [if_neg e]; exact h g
theorem up_le2 {F E : Nat → Nat} {f : Nat} (h : ∀ g, F g ≤ E g) (g : Nat) : va_up F f (F f + 1) g ≤ va_up E f (E f + 1) g := by
  unfold va_up
  by_cases e : g = f
  · subst e; rw [if_pos rfl, if_pos rfl]; have := h g; omega
  · rw [if_neg e, if_neg e]; exact h g
theorem jx_prG {C : Ct} {f j t : Nat} (h : jx 1 C) (hf : f < 6) (ht : t < 4) : jx 0 (prG C f j t) := by
  obtain ⟨h1, h2, h3, h4⟩ := h
  have s5 := sm_up (C 5) (C 5 f + 1) hf
  have c5 : sm (va_up (C 5) f (C 5 f + 1)) 6 + 0 ≤ C 0 7 := by omega
  unfold prG
  by_cases hl : lau C f j t < 5
  · rw [if_pos hl]
    unfold prf
    rw [if_pos hl]
    by_cases h0 : C 4 f = 0
    · rw [if_pos h0]
      refine ⟨?_, up_le2 h2, c5, h4⟩
      show C 0 4 + sm (C 16) 4 = sm (va_up (C 2) f (C 2 f - min 3 (C 2 f))) 6 + (C 0 5 + min 3 (C 2 f)) + C 0 6
      have s2 := sm_up (C 2) (C 2 f - min 3 (C 2 f)) hf
      omega
    · rw [if_neg h0]
      exact ⟨h1, up_le2 h2, c5, h4⟩
  · rw [if_neg hl]
    unfold prf
    rw [if_neg hl]
    refine ⟨?_, up_le h2, c5, h4⟩
    have h9 := sm_gain (C := cu (cu (addT C j t) 5 f (C 5 f + 1)) 16 t (C 16 t + lau C f j t)) (f := f) (m := lau C f j t) hf
    have s16 := sm_up (C 16) (C 16 t + lau C f j t) ht
    show C 0 4 + sm (va_up (C 16) t (C 16 t + lau C f j t)) 4 = sm (gain (cu (cu (addT C j t) 5 f (C 5 f + 1)) 16 t (C 16 t + lau C f j t)) f (lau C f j t) 2) 6 + C 0 5 + gain (cu (cu (addT C j t) 5 f (C 5 f + 1)) 16 t (C 16 t + lau C f j t)) f (lau C f j t) 0 6
    have e2 : sm ((cu (cu (addT C j t) 5 f (C 5 f + 1)) 16 t (C 16 t + lau C f j t)) 2) 6 = sm (C 2) 6 := rfl
    have e6 : (cu (cu (addT C j t) 5 f (C 5 f + 1)) 16 t (C 16 t + lau C f j t)) 0 6 = C 0 6 := rfl
    omega
theorem jx_crH {C : Ct} (h : jx 0 C) (h0 : 0 < C 0 2) : jx 1 (crH C) := by
  obtain ⟨h1, h2, h3, h4⟩ := h
  have sh : ∀ p, p < C 0 2 - 1 → crH C 11 p = C 11 (p + 1) ∧ crH C 14 p = C 14 (p + 1) := fun p hp => ⟨if_pos (show p + 1 < C 0 2 by omega), if_pos (show p + 1 < C 0 2 by omega)⟩
  refine ⟨h1, h2, by show sm (C 5) 6 + 1 ≤ C 0 7 + 1; omega, fun p q hp hq => ?_⟩
  have hq : q < C 0 2 - 1 := hq
  rw [(sh p (by omega)).1, (sh p (by omega)).2, (sh q hq).1, (sh q hq).2]
  exact h4 (p + 1) (q + 1) (by omega) (by omega)
theorem jx_crG {C : Ct} (h : Jv C) (h0 : 0 < C 0 2) : jx 0 (crG C) := by
  have k := jx_crH h.2 h0
  obtain ⟨b1, b2, b3, b4⟩ := h.1.1.2.2.2.2.2.2.2.2.2.1 0 h0
  have hn := h.1.1.1
  unfold crG
  split
  · exact jx_le k (by omega)
  · split
    · exact jx_payF (jx_le k (by omega)) (by omega) (h.1.1.2.2.2.2.2.2.2.1 _)
    · exact jx_prG k (by omega) b3
theorem jx_insF {C : Ct} {p0 f j t k m : Nat} (h : jx m C) (hp : p0 ≤ C 0 2) (hb : bkF C f k = none) : jx m (insF C p0 f j t k) := by
  obtain ⟨h1, h2, h3, h4⟩ := h
  have hno : ∀ x, x < C 0 2 → ¬ (C 11 x = f ∧ C 14 x = k) := fun x hx => by
    have := fs_no hb x (Nat.zero_le _) (by omega)
    exact of_decide_eq_false this
  refine ⟨h1, h2, h3, fun p q hpq hq => ?_⟩
  have hq : q < C 0 2 + 1 := hq
  rcases ins_row (f := f) (j := j) (t := t) (k := k) hp p (by omega) with ⟨z1, e1, -, -, e2⟩ | ⟨z1, e1, -, -, e2⟩ | ⟨z1, e1, -, -, e2⟩ <;> rcases ins_row (f := f) (j := j) (t := t) (k := k) hp q hq with ⟨y1, g1, -, -, g2⟩ | ⟨y1, g1, -, -, g2⟩ | ⟨y1, g1, -, -, g2⟩ <;> rw [e1, e2, g1, g2]
  · exact h4 p q hpq (by omega)
  · exact hno p (by omega)
  · exact h4 p (q - 1) (by omega) (by omega)
  · omega
  · omega
  · intro z; exact hno (q - 1) (by omega) ⟨z.1.symm, z.2.symm⟩
  · omega
  · omega
  · exact h4 (p - 1) (q - 1) (by omega) (by omega)
theorem jx_dFool {C : Ct} {s : Nat} (h : Jv C) (hc : C 0 0 < 6) : jx 0 (cu (cu (cu (cu C 0 4 (C 0 4 + 10)) 1 (C 0 0) s) 2 (C 0 0) 10) 0 0 (C 0 0 + 1)) := by
  refine jx_of h.2 ?_ rfl rfl rfl rfl rfl rfl
  show C 0 4 + 10 + sm (C 16) 4 + sm (C 2) 6 + C 0 5 + C 0 6 = sm (va_up (C 2) (C 0 0) 10) 6 + C 0 5 + C 0 6 + C 0 4 + sm (C 16) 4
  have h1 := sm_up (C 2) 10 hc
  obtain ⟨⟨-, -, -, -, -, -, -, -, -, z2, -⟩, -⟩ := h
  have h2 : C 2 (C 0 0) = 0 := z2 _ (Nat.le_refl _)
  omega
theorem jx_same {k : Nat} {C D : Ct} (h : jx k C) (a1 : D 0 4 = C 0 4) (a2 : D 16 = C 16) (a3 : D 2 = C 2) (a4 : D 0 5 = C 0 5) (a5 : D 0 6 = C 0 6) (e2 : D 6 = C 6) (e3 : D 5 = C 5) (e4 : D 0 7 = C 0 7) (e5 : D 0 2 = C 0 2) (e6 : D 11 = C 11) (e7 : D 14 = C 14) : jx k D := jx_of h (by rw [a1, a2, a3, a4, a5]; omega) e2 e3 e4 e5 e6 e7
theorem jx_pat {C : Ct} {f j k m y : Nat} (h : jx 0 C) (hf : f < 6) : jx 0 (cu (cu (payU C f m) 8 j y) 9 j k) := jx_same (jx_payU h hf) rfl rfl rfl rfl rfl rfl rfl rfl rfl rfl rfl
theorem pat_7 {C : Ct} {f j k m y : Nat} : (cu (cu (payU C f m) 8 j y) 9 j k) 0 7 ≤ C 0 7 + 1 := Nat.le_succ _
theorem crG_7 {C : Ct} : crG C 0 7 = C 0 7 + 1 := by
  unfold crG
  split
  · rfl
  · split
    · rfl
    · unfold prG prf
      split
      · split <;> rfl
      · rfl
theorem crR_le {C : Ct} (h : Iv C) : crR C ≤ 18 := by
  have h1 := h.1.2.2.2.1 (C 11 0)
  have h7 := h.1.2.2.2.2.2.2.1 (C 12 0)
  unfold crR
  split
  · omega
  · split
    · omega
    · unfold lau; omega
/-- what a change leaves, and what it answers -/
def gj (b : Nat) (C : Ct) (R : Rz) : Prop := Jv R.2.1 ∧ bdk (b + 3000) R.2.1 ∧ R.2.1 0 7 ≤ C 0 7 + 1 ∧ ((R.1 ≤ -1011 ∧ R.2.1 = C) ∨ ∃ k, k < 2 ^ 28 ∧ R.1 = nI k)
theorem gj_n {b : Nat} {C : Ct} {c : Int32} (h : Jv C) (hK : bdk b C) (hc : c ≤ -1011) : gj b C (ncz c C) := ⟨h, hK.up (by omega), Nat.le_succ _, Or.inl ⟨hc, rfl⟩⟩
theorem gj_r {b : Nat} {C : Ct} {c d : Int32} (h : Jv C) (hK : bdk b C) : gj b C (rfz C c d) := ⟨h, hK.up (by omega), Nat.le_succ _, Or.inl ⟨(by decide : (-1014 : Int32) ≤ -1011), rfl⟩⟩
theorem gj_o {b k : Nat} {C D : Ct} (h : Jv D) (hK : bdk (b + 3000) D) (h7 : D 0 7 ≤ C 0 7 + 1) (hk : k < 2 ^ 28) : gj b C (nI k, D, none) := ⟨h, hK, h7, Or.inr ⟨k, hk, rfl⟩⟩
set_option maxRecDepth 20000 in
theorem gj_dFool {b : Nat} {C : Ct} {s : Int32} (hj0 : Jv C) (hK : bdk b C) (hb2 : b + 5000 ≤ 2 ^ 28) : gj b C (dFool C s) := by
  have ⟨h, hx9⟩ := hj0
  unfold dFool
  by_cases h1 : s < nI 1
  · rw [if_pos h1]; exact gj_n hj0 hK (by decide)
  rw [if_neg h1]
  by_cases h2 : s ≤ nI 9
  · rw [if_pos h2]
    by_cases h3 : C 0 0 < 6
    · rw [if_pos h3]
      have hs := cl_rg h1 h2 (by decide) (by decide)
      have b1 := hK 0 4
      have b2 := hK 0 0
      exact gj_o ⟨Iv_dFool h h3 hs.2, jx_dFool hj0 h3⟩ (bdk_cu (b := b + 400) (bdk_cu (b := b + 300) (c := b + 400) (bdk_cu (b := b + 200) (c := b + 300) (bdk_cu (c := b + 200) hK (by omega) (by omega)) (by omega) (by omega)) (by omega) (by omega)) (by omega) (by omega)) (Nat.le_succ _) (by omega)
    · rw [if_neg h3]; exact gj_r hj0 hK
  · rw [if_neg h2]; exact gj_n hj0 hK (by decide)
set_option maxRecDepth 20000 in
theorem gj_dJoke {b : Nat} {C : Ct} {s : Int32} (hj0 : Jv C) (hK : bdk b C) (hb2 : b + 5000 ≤ 2 ^ 28) : gj b C (dJoke C s) := by
  have ⟨h, hx9⟩ := hj0
  unfold dJoke
  by_cases h1 : s < nI 1
  · rw [if_pos h1]; exact gj_n hj0 hK (by decide)
  rw [if_neg h1]
  by_cases h2 : s ≤ nI 9
  · rw [if_pos h2]
    by_cases h3 : C 0 1 < 12
    · rw [if_pos h3]
      have hs := cl_rg h1 h2 (by decide) (by decide)
      have b2 := hK 0 1
      exact gj_o ⟨Iv_dJoke h h3 hs.2 hs.1, jx_same hx9 rfl rfl rfl rfl rfl rfl rfl rfl rfl rfl rfl⟩ (bdk_cu (b := b + 300) (bdk_cu (c := b + 300) hK (by omega) (by omega)) (by omega) (by omega)) (Nat.le_succ _) (by omega)
    · rw [if_neg h3]; exact gj_r hj0 hK
  · rw [if_neg h2]; exact gj_n hj0 hK (by decide)
set_option maxRecDepth 20000 in
theorem gj_dPat {b : Nat} {C : Ct} {f j x : Int32} (hj0 : Jv C) (hK : bdk b C) (hb2 : b + 5000 ≤ 2 ^ 28) : gj b C (dPat C f j x) := by
  have ⟨h, hx9⟩ := hj0
  have hF := h.1.1
  have hJ := h.1.2.1
  unfold dPat
  by_cases i1 : ixb f (C 0 0) = true
  · rw [if_pos i1]
    by_cases i2 : ixb j (C 0 1) = true
    · rw [if_pos i2]
      by_cases h1 : x < nI 1
      · rw [if_pos h1]; exact gj_n hj0 hK (by decide)
      rw [if_neg h1]
      by_cases h2 : x ≤ nI 48
      · rw [if_pos h2]
        have hx := cl_rg h1 h2 (by decide) (by decide)
        have hf := cl_ix i1 (by omega)
        unfold dPatN
        split
        · exact gj_r hj0 hK
        · split
          · have b3 := hK 0 3
            have hc := h.1.2.2.2.2.1 f.toNatClampNeg
            have hf6 : f.toNatClampNeg < 6 := by omega
            have hk28 : C 0 3 + x.toNatClampNeg < 2 ^ 28 := by omega
            exact gj_o ⟨Iv_dPat h hf hx.2, jx_pat hx9 hf6⟩ (bdk_cu (b := b + 200) (bdk_cu (b := b + 100) (c := b + 200) (bdk_payU hK (Nat.le_refl _) (Or.inr hc)) (by omega) (by omega)) (by omega) (by omega)) pat_7 hk28
          · exact gj_r hj0 hK
      · rw [if_neg h2]; exact gj_n hj0 hK (by decide)
    · rw [if_neg i2]; exact gj_n hj0 hK (by decide)
  · rw [if_neg i1]; exact gj_n hj0 hK (by decide)
set_option maxRecDepth 20000 in
theorem gj_dIns {b : Nat} {C : Ct} {f : Int32} (hj0 : Jv C) (hK : bdk b C) (hb2 : b + 5000 ≤ 2 ^ 28) : gj b C (dIns C f) := by
  have ⟨h, hx9⟩ := hj0
  have hF := h.1.1
  unfold dIns
  by_cases i1 : ixb f (C 0 0) = true
  · rw [if_pos i1]
    have hf := cl_ix i1 (by omega)
    unfold dInsN
    by_cases h4 : C 4 f.toNatClampNeg < 3
    · rw [if_pos h4]
      split
      · have b4 := hK 4 f.toNatClampNeg
        exact gj_o ⟨Iv_4 (Iv_payU h hf) (by omega), jx_same (jx_payU hx9 (by omega)) rfl rfl rfl rfl rfl rfl rfl rfl rfl rfl rfl⟩ (bdk_cu (b := b + 100) (bdk_payU hK (Nat.le_refl _) (Or.inl (by omega))) (by omega) (by omega)) (Nat.le_succ _) (by omega)
      · exact gj_r hj0 hK
    · rw [if_neg h4]; exact gj_r hj0 hK
  · rw [if_neg i1]; exact gj_n hj0 hK (by decide)
set_option maxRecDepth 20000 in
theorem gj_dAud {b : Nat} {C : Ct} {f : Int32} (hj0 : Jv C) (hK : bdk b C) (hb2 : b + 5000 ≤ 2 ^ 28) : gj b C (dAud C f) := by
  have ⟨h, hx9⟩ := hj0
  have hF := h.1.1
  unfold dAud
  by_cases i1 : ixb f (C 0 0) = true
  · rw [if_pos i1]
    have hf := cl_ix i1 (by omega)
    unfold dAudN
    split
    · split
      · exact gj_r hj0 hK
      · have b4 := hK 3 f.toNatClampNeg
        have hc := h.1.2.2.2.2.1 f.toNatClampNeg
        exact gj_o ⟨Iv_3 (Iv_payU h hf) hf, jx_same (jx_payU hx9 (by omega)) rfl rfl rfl rfl rfl rfl rfl rfl rfl rfl rfl⟩ (bdk_cu (b := b + 100) (bdk_payU hK (Nat.le_refl _) (Or.inr hc)) (by omega) (by omega)) (Nat.le_succ _) (by have h9 : pay C f.toNatClampNeg (C 3 f.toNatClampNeg / 3) ≤ C 2 f.toNatClampNeg := Nat.min_le_right _ _; omega)
    · exact gj_r hj0 hK
  · rw [if_neg i1]; exact gj_n hj0 hK (by decide)
set_option maxRecDepth 20000 in
theorem gj_dExe {b : Nat} {C : Ct} {t x : Int32} (hj0 : Jv C) (hK : bdk b C) (hb2 : b + 5000 ≤ 2 ^ 28) : gj b C (dExe C t x) := by
  have ⟨h, hx9⟩ := hj0
  have key : ∀ e, e ≤ 1 → gj b C (dExeN C t.toNatClampNeg e) := by
    intro e he
    unfold dExeN
    split
    · exact gj_r hj0 hK
    · have := hK 0 0
      exact gj_o ⟨Iv_15 h he, jx_same hx9 rfl rfl rfl rfl rfl rfl rfl rfl rfl rfl rfl⟩ (bdk_cu hK (by omega) (by omega)) (Nat.le_succ _) (by have := sm_le (f := va_up (C 15) t.toNatClampNeg e) (b := 1) (n := 4) (fun i _ => vu (fun _ y => y ≤ 1) h.1.2.2.2.2.2.2.2.2.1 he i); omega)
  unfold dExe
  split
  · split
    · exact key 0 (by decide)
    · split
      · exact key 1 (by decide)
      · exact gj_n hj0 hK (by decide)
  · exact gj_n hj0 hK (by decide)
set_option maxRecDepth 20000 in
theorem gj_dBook {b : Nat} {C : Ct} {f j t x : Int32} (hj0 : Jv C) (hK : bdk b C) (hb2 : b + 5000 ≤ 2 ^ 28) (hb1 : 200 ≤ b) : gj b C (dBook C f j t x) := by
  have ⟨h, hx9⟩ := hj0
  have hF := h.1.1
  have hJ := h.1.2.1
  unfold dBook
  by_cases i1 : ixb f (C 0 0) = true
  · rw [if_pos i1]
    by_cases i2 : ixb j (C 0 1) = true
    · rw [if_pos i2]
      by_cases i3 : ixb t 4 = true
      · rw [if_pos i3]
        by_cases h1 : x < 0
        · rw [if_pos h1]; exact gj_n hj0 hK (by decide)
        rw [if_neg h1]
        by_cases h2 : x ≤ nI 99
        · rw [if_pos h2]
          have hx := cl_rg (a := 0) h1 h2 (by decide) (by decide)
          have hf := cl_ix i1 (by omega)
          have hj := cl_ix i2 (by omega)
          have ht := cl_ix i3 (by omega)
          unfold dBookN
          by_cases h3 : C 0 3 ≤ x.toNatClampNeg
          · rw [if_pos h3]
            split
            · exact gj_r hj0 hK
            · split
              · exact gj_r hj0 hK
              · cases hb : bkF C f.toNatClampNeg x.toNatClampNeg with
                | some p => exact gj_r hj0 hK
                | none =>
                  show gj b C (if C 0 2 < 10 then _ else _)
                  by_cases h5 : C 0 2 < 10
                  · rw [if_pos h5]
                    exact gj_o ⟨Iv_insF h h5 hf hj ht hx.2 h3 hb, jx_insF hx9 plc_le hb⟩ (bdk_insF hK (by omega) (by omega) (by omega) (by omega) (by omega)) (Nat.le_succ _) (by have := plc_le (C := C) (f := f.toNatClampNeg) (j := j.toNatClampNeg) (k := x.toNatClampNeg); omega)
                  · rw [if_neg h5]; exact gj_r hj0 hK
          · rw [if_neg h3]; exact gj_r hj0 hK
        · rw [if_neg h2]; exact gj_n hj0 hK (by decide)
      · rw [if_neg i3]; exact gj_n hj0 hK (by decide)
    · rw [if_neg i2]; exact gj_n hj0 hK (by decide)
  · rw [if_neg i1]; exact gj_n hj0 hK (by decide)
set_option maxRecDepth 20000 in
theorem gj_dNext {b : Nat} {C : Ct} (hj0 : Jv C) (hK : bdk b C) (hb2 : b + 5000 ≤ 2 ^ 28) : gj b C (dNext C) := by
  have ⟨h, hx9⟩ := hj0
  unfold dNext
  by_cases h0 : C 0 2 = 0
  · rw [if_pos h0]; exact gj_r hj0 hK
  · rw [if_neg h0]
    exact gj_o ⟨Iv_crG h (by omega), jx_crG hj0 (by omega)⟩ (bdk_crG hK (Nat.le_refl _) (h.1.2.2.2.2.2.2.1 _) (h.1.2.2.2.1 _)) (Nat.le_of_eq crG_7) (by have := crR_le h; omega)
set_option maxRecDepth 20000 in
theorem gj_dPass {b : Nat} {C : Ct} {x : Int32} (hj0 : Jv C) (hK : bdk b C) (hb2 : b + 5000 ≤ 2 ^ 28) : gj b C (dPass C x) := by
  have ⟨h, hx9⟩ := hj0
  unfold dPass
  by_cases h1 : x < nI 1
  · rw [if_pos h1]; exact gj_n hj0 hK (by decide)
  rw [if_neg h1]
  by_cases h2 : x ≤ nI 24
  · rw [if_pos h2]
    have hx := cl_rg h1 h2 (by decide) (by decide)
    have b3 := hK 0 3
    have key : (C 0 2 = 0 ∨ C 0 3 + x.toNatClampNeg ≤ C 14 0) → gj b C (dPs C x.toNatClampNeg) := fun z => gj_o ⟨Iv_hour h z, jx_same hx9 rfl rfl rfl rfl rfl rfl rfl rfl rfl rfl rfl⟩ (bdk_cu hK (by omega) (by omega)) (Nat.le_succ _) (by have h9 : pat C ≤ C 0 1 := cnt_le _ _; have := h.1.2.1; omega)
    unfold dPassN
    by_cases h3 : 0 < C 0 2
    · rw [if_pos h3]
      by_cases h4 : C 0 3 + x.toNatClampNeg ≤ C 14 0
      · rw [if_pos h4]; exact key (Or.inr h4)
      · rw [if_neg h4]; exact gj_r hj0 hK
    · rw [if_neg h3]; exact key (Or.inl (by omega))
  · rw [if_neg h2]; exact gj_n hj0 hK (by decide)
/-- places in a strict order -/
theorem pig {f : Nat → Nat} : ∀ {n : Nat}, (∀ i, i < n + 1 → f i < n) → (∀ i j, i < j → j < n + 1 → f i ≠ f j) → False := by
  intro n
  induction n generalizing f with
  | zero => intro h _; exact absurd (h 0 (by omega)) (Nat.not_lt_zero _)
  | succ n ih =>
    intro h1 h2
    have hl := h1 (n + 1) (by omega)
    refine ih (f := fun i => if f i = n then f (n + 1) else f i) (fun i hi => ?_) (fun i j hij hj => ?_)
    · have a := h1 i (by omega)
      have b := h2 i (n + 1) (by omega) (by omega)
      show (if f i = n then f (n + 1) else f i) < n
      split <;> omega
    · have a := h2 i (n + 1) (by omega) (by omega)
      have b := h2 j (n + 1) (by omega) (by omega)
      have c := h2 i j hij (by omega)
      show (if f i = n then f (n + 1) else f i) ≠ (if f j = n then f (n + 1) else f j)
      split <;> split <;> omega
theorem onto {f : Nat → Nat} {n : Nat} (h1 : ∀ i, i < n → f i < n) (h2 : ∀ i j, i < j → j < n → f i ≠ f j) (r : Nat) (hr : r < n) : ∃ i, i < n ∧ f i = r := by
  refine Classical.byContradiction fun hno => ?_
  have hno : ∀ i, i < n → f i ≠ r := fun i hi e => hno ⟨i, hi, e⟩
  obtain ⟨m, rfl⟩ : ∃ m, n = m + 1 := ⟨n - 1, by omega⟩
  refine pig (n := m) (f := fun i => if r < f i then f i - 1 else f i) (fun i hi => ?_) (fun i j hij hj => ?_)
  · have a := h1 i hi
    have b := hno i hi
    show (if r < f i then f i - 1 else f i) < m
    split <;> omega
  · have a := hno i (by omega)
    have b := hno j hj
    have c := h2 i j hij hj
    show (if r < f i then f i - 1 else f i) ≠ (if r < f j then f j - 1 else f j)
    split <;> split <;> omega
theorem cnt_lt {p : Nat → Bool} {i : Nat} : ∀ {n : Nat}, i < n → p i = false → cnt p n < n
  | 0, h, _ => absurd h (Nat.not_lt_zero _)
  | n + 1, h, hp => by
    by_cases e : i = n
    · subst e; rw [cnt_f hp]; have := cnt_le p i; omega
    · have := cnt_lt (n := n) (by omega) hp
      cases hq : p n
      · rw [cnt_f hq]; omega
      · rw [cnt_t hq]; omega
theorem cnt_ss {p q : Nat → Bool} {i : Nat} (h : ∀ k, p k = true → q k = true) (hp : p i = false) (hq : q i = true) : ∀ {n : Nat}, i < n → cnt p n < cnt q n
  | 0, hi => absurd hi (Nat.not_lt_zero _)
  | n + 1, hi => by
    by_cases e : i = n
    · subst e; rw [cnt_f hp, cnt_t hq]; have := cnt_imp h i; omega
    · have k := cnt_ss h hp hq (n := n) (by omega)
      cases hpn : p n
      · rw [cnt_f hpn]
        cases hqn : q n
        · rw [cnt_f hqn]; exact k
        · rw [cnt_t hqn]; omega
      · rw [cnt_t hpn, cnt_t (h n hpn)]; omega
/-- a strict order of the numbers below n, told by how many stand ahead -/
theorem rank_ok {R : Nat → Nat → Prop} [∀ a b, Decidable (R a b)] {n : Nat} (irr : ∀ a, ¬ R a a) (tr : ∀ a b c, R a b → R b c → R a c) (tot : ∀ a b, a ≠ b → R a b ∨ R b a) :
    (∀ x, x < n → cnt (fun z => decide (R z x)) n < n) ∧ (∀ x y, x < n → y < n → (cnt (fun z => decide (R z x)) n < cnt (fun z => decide (R z y)) n ↔ R x y)) ∧ ∀ r, r < n → ∃ x, x < n ∧ cnt (fun z => decide (R z x)) n = r := by
  have mono : ∀ x y, x < n → R x y → cnt (fun z => decide (R z x)) n < cnt (fun z => decide (R z y)) n := fun x y hx hr =>
    cnt_ss (i := x) (fun k hk => decide_eq_true (tr k x y (of_decide_eq_true hk) hr)) (decide_eq_false (irr x)) (decide_eq_true hr) hx
  have lt : ∀ x, x < n → cnt (fun z => decide (R z x)) n < n := fun x hx => cnt_lt (i := x) hx (decide_eq_false (irr x))
  refine ⟨lt, fun x y hx hy => ⟨fun hc => ?_, mono x y hx⟩, fun r hr => onto lt (fun i j hij hj he => ?_) r hr⟩
  · by_cases e : x = y
    · subst e; omega
    · rcases tot x y e with h | h
      · exact h
      · have := mono y x hy h; omega
  · rcases tot i j (by omega) with h | h
    · have := mono i j (by omega) h; omega
    · have := mono j i hj h; omega
theorem fs_some {p : Nat → Bool} {x : Nat} : ∀ {k i : Nat}, i ≤ x → x < i + k → p x = true → ∃ r, fs p i k = some r := by
  intro k
  induction k with
  | zero => intro i h1 h2; omega
  | succ k ih =>
    intro i h1 h2 hp
    unfold fs
    by_cases e : p i
    · exact ⟨i, by rw [if_pos e]⟩
    · rw [if_neg e]
      refine ih ?_ (by omega) hp
      rcases Nat.lt_or_ge i x with h | h
      · omega
      · exact absurd (by rw [show i = x by omega]; exact hp) e
theorem flA_irr {C : Ct} (a : Nat) : ¬ flA C a a := by unfold flA; rw [if_pos rfl, if_pos rfl]; omega
theorem flA_tr {C : Ct} (a b c : Nat) : flA C a b → flA C b c → flA C a c := by
  unfold flA
  intro h1 h2
  split at h1 <;> split at h2 <;> (try split at h1) <;> (try split at h2) <;> split <;> (try split) <;> omega
theorem flA_tot {C : Ct} (a b : Nat) (h : a ≠ b) : flA C a b ∨ flA C b a := by
  unfold flA
  by_cases h1 : C 3 a = C 3 b
  · rw [if_pos h1, if_pos h1.symm]
    by_cases h2 : C 2 a = C 2 b
    · rw [if_pos h2, if_pos h2.symm]; omega
    · rw [if_neg h2, if_neg (Ne.symm h2)]; omega
  · rw [if_neg h1, if_neg (Ne.symm h1)]; omega
theorem jkA_irr {C : Ct} (a : Nat) : ¬ jkA C a a := by unfold jkA; rw [if_pos rfl, if_pos rfl]; omega
theorem jkA_tr {C : Ct} (a b c : Nat) : jkA C a b → jkA C b c → jkA C a c := by
  unfold jkA
  intro h1 h2
  split at h1 <;> split at h2 <;> (try split at h1) <;> (try split at h2) <;> split <;> (try split) <;> omega
theorem jkA_tot {C : Ct} (a b : Nat) (h : a ≠ b) : jkA C a b ∨ jkA C b a := by
  unfold jkA
  by_cases h1 : tlS C a = tlS C b
  · rw [if_pos h1, if_pos h1.symm]
    by_cases h2 : C 7 a = C 7 b
    · rw [if_pos h2, if_pos h2.symm]; omega
    · rw [if_neg h2, if_neg (Ne.symm h2)]; omega
  · rw [if_neg h1, if_neg (Ne.symm h1)]; omega
/-- who stands at a place -/
def flR (C : Ct) (r : Nat) : Nat := (fs (fun z => decide (nI (flN C z) = nI r)) 0 (C 0 0)).getD 0
def jkR (C : Ct) (r : Nat) : Nat := (fs (fun z => decide (nI (jkN C z) = nI r)) 0 (C 0 1)).getD 0
theorem fl_at {C : Ct} {r : Nat} (hn : C 0 0 ≤ 6) (hr : r < C 0 0) : oN (-1011) (fs (fun z => decide (nI (flN C z) = nI r)) 0 (C 0 0)) = nI (flR C r) ∧ flR C r < C 0 0 ∧ flN C (flR C r) = r := by
  obtain ⟨x, hx, e⟩ := (rank_ok (n := C 0 0) (flA_irr (C := C)) flA_tr flA_tot).2.2 r hr
  have hb : ∀ z, z < C 0 0 → flN C z < C 0 0 := (rank_ok (n := C 0 0) (flA_irr (C := C)) flA_tr flA_tot).1
  obtain ⟨y, hy⟩ := fs_some (p := fun z => decide (nI (flN C z) = nI r)) (x := x) (k := C 0 0) (i := 0) (Nat.zero_le _) (by omega) (decide_eq_true (by rw [show flN C x = r from e]))
  obtain ⟨-, y2, y3⟩ := fs_lt hy
  have y4 : nI (flN C y) = nI r := of_decide_eq_true y3
  have hby : flN C y < C 0 0 := hb y (by omega)
  unfold flR
  rw [hy]
  exact ⟨rfl, by show y < C 0 0; omega, (nI_eq (a := flN C y) (b := r) (by omega) (by omega)).mp y4⟩
theorem jk_at {C : Ct} {r : Nat} (hn : C 0 1 ≤ 12) (hr : r < C 0 1) : oN (-1011) (fs (fun z => decide (nI (jkN C z) = nI r)) 0 (C 0 1)) = nI (jkR C r) ∧ jkR C r < C 0 1 ∧ jkN C (jkR C r) = r := by
  obtain ⟨x, hx, e⟩ := (rank_ok (n := C 0 1) (jkA_irr (C := C)) jkA_tr jkA_tot).2.2 r hr
  have hb : ∀ z, z < C 0 1 → jkN C z < C 0 1 := (rank_ok (n := C 0 1) (jkA_irr (C := C)) jkA_tr jkA_tot).1
  obtain ⟨y, hy⟩ := fs_some (p := fun z => decide (nI (jkN C z) = nI r)) (x := x) (k := C 0 1) (i := 0) (Nat.zero_le _) (by omega) (decide_eq_true (by rw [show jkN C x = r from e]))
  obtain ⟨-, y2, y3⟩ := fs_lt hy
  have y4 : nI (jkN C y) = nI r := of_decide_eq_true y3
  have hby : jkN C y < C 0 1 := hb y (by omega)
  unfold jkR
  rw [hy]
  exact ⟨rfl, by show y < C 0 1; omega, (nI_eq (a := jkN C y) (b := r) (by omega) (by omega)).mp y4⟩
theorem fl_no {C : Ct} (hn : C 0 0 ≤ 6) : oN (-1011) (fs (fun z => decide (nI (flN C z) = nI (C 0 0))) 0 (C 0 0)) = -1011 := by
  cases hy : fs (fun z => decide (nI (flN C z) = nI (C 0 0))) 0 (C 0 0) with
  | none => rfl
  | some y =>
    obtain ⟨-, y2, y3⟩ := fs_lt hy
    have y4 : nI (flN C y) = nI (C 0 0) := of_decide_eq_true y3
    have hb : flN C y < C 0 0 := (rank_ok (n := C 0 0) (flA_irr (C := C)) flA_tr flA_tot).1 y (by omega)
    have := (nI_eq (a := flN C y) (b := C 0 0) (by omega) (by omega)).mp y4
    omega
theorem jk_no {C : Ct} (hn : C 0 1 ≤ 12) : oN (-1011) (fs (fun z => decide (nI (jkN C z) = nI (C 0 1))) 0 (C 0 1)) = -1011 := by
  cases hy : fs (fun z => decide (nI (jkN C z) = nI (C 0 1))) 0 (C 0 1) with
  | none => rfl
  | some y =>
    obtain ⟨-, y2, y3⟩ := fs_lt hy
    have y4 : nI (jkN C y) = nI (C 0 1) := of_decide_eq_true y3
    have hb : jkN C y < C 0 1 := (rank_ok (n := C 0 1) (jkA_irr (C := C)) jkA_tr jkA_tot).1 y (by omega)
    have := (nI_eq (a := jkN C y) (b := C 0 1) (by omega) (by omega)).mp y4
    omega
theorem fl_lt {C : Ct} {r : Nat} (hn : C 0 0 ≤ 6) (hr : r + 1 < C 0 0) : flA C (flR C r) (flR C (r + 1)) := by
  obtain ⟨-, a1, a2⟩ := fl_at hn (show r < C 0 0 by omega)
  obtain ⟨-, b1, b2⟩ := fl_at hn hr
  exact ((rank_ok (n := C 0 0) (flA_irr (C := C)) flA_tr flA_tot).2.1 _ _ a1 b1).mp (by show flN C _ < flN C _; omega)
theorem jk_lt {C : Ct} {r : Nat} (hn : C 0 1 ≤ 12) (hr : r + 1 < C 0 1) : jkA C (jkR C r) (jkR C (r + 1)) := by
  obtain ⟨-, a1, a2⟩ := jk_at hn (show r < C 0 1 by omega)
  obtain ⟨-, b1, b2⟩ := jk_at hn hr
  exact ((rank_ok (n := C 0 1) (jkA_irr (C := C)) jkA_tr jkA_tot).2.1 _ _ a1 b1).mp (by show jkN C _ < jkN C _; omega)
