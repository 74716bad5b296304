/-- a joke told, with what only the other side keeps: laughs together (17 0), slips together (17 1), tellings at a throne (18) -/
def prG (C : Ct) (f j t : Nat) : Ct := if lau C f j t < 5 then cu (cu (prf C f j t) 18 t (C 18 t + 1)) 17 1 (C 17 1 + 1) else cu (cu (prf C f j t) 18 t (C 18 t + 1)) 17 0 (C 17 0 + lau C f j t)
def crG (C : Ct) : Ct := if exm C (C 13 0) then crH C else if barr (crH C) (C 11 0) (C 12 0) then payF (crH C) (C 11 0) (C 8 (C 12 0)) else prG (crH C) (C 11 0) (C 12 0) (C 13 0)
theorem ceqv_rf {C : Ct} : ceqv C C := ⟨fun _ _ => rfl, fun _ _ _ => rfl⟩
theorem ceqv_18 {C : Ct} {t x k y : Nat} : ceqv C (cu (cu C 18 t x) 17 k y) := ⟨j8 ⟨rfl, rfl, rfl, rfl, rfl, rfl, rfl, rfl⟩, f17 ⟨rfl, rfl, rfl, rfl, rfl, rfl, rfl, rfl, rfl, rfl, rfl, rfl, rfl, rfl, rfl, rfl⟩⟩
theorem ceqv_prG {C : Ct} {f j t : Nat} : ceqv (prf C f j t) (prG C f j t) := by
  unfold prG
  split <;> exact ceqv_18
theorem ceqv_crG {C : Ct} : ceqv (crC C) (crG C) := by
  unfold crC crG
  split
  · exact ceqv_rf
  · split
    · exact ceqv_rf
    · exact ceqv_prG
theorem bdk_crG {b c : Nat} {C : Ct} (h : bdk b C) (hc : b + 3000 ≤ c) (h7 : C 7 (C 12 0) ≤ 9) (h1 : C 1 (C 11 0) ≤ 9) : bdk c (crG C) := by
  have h2 := h 14 0
  have h3 := h 0 7
  have a1 : bdk (b + 100) (cu C 0 3 (C 14 0)) := bdk_cu h (by omega) (by omega)
  have a2 : bdk (b + 200) (rmF (cu C 0 3 (C 14 0))) := bdk_rmF a1 (Nat.le_refl _)
  have a3 : bdk (b + 300) (crH C) := bdk_cu a2 (by omega) (by omega)
  have hl : lau (crH C) (C 11 0) (C 12 0) (C 13 0) ≤ 100 := by show C 7 (C 12 0) + C 1 (C 11 0) - _ ≤ 100; omega
  unfold crG
  split
  · exact a3.up (by omega)
  · split
    · exact bdk_payF a3 (by omega)
    · have a4 : bdk (b + 1300) (prf (crH C) (C 11 0) (C 12 0) (C 13 0)) := bdk_prf a3 (by omega) hl
      have g1 := a3 18 (C 13 0)
      have g2 := a3 17 1
      have g3 := a3 17 0
      have a5 : bdk (b + 1400) (cu (prf (crH C) (C 11 0) (C 12 0) (C 13 0)) 18 (C 13 0) (crH C 18 (C 13 0) + 1)) := bdk_cu a4 (by omega) (by omega)
      unfold prG
      split
      · exact bdk_cu a5 (by omega) (by omega)
      · exact bdk_cu a5 (by omega) (by omega)
