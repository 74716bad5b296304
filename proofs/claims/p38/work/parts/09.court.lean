abbrev Ct : Type := Nat → Nat → Nat
abbrev ar (G : vG) (k : Nat) (f : Nat → Nat) : va_E := .inl (gC G 0, k, .inl (fun i => nI (f i)))
def ctc (G : vG) (q : Nat) (C : Ct) (i : Nat) : va_E := match i with
  | 0 => .inr (2, [.ref (q + 1), .ref (q + 8), .ref (q + 13), .ref (q + 18), .ref (q + 19), .int (nI (C 0 3)), .int (nI (C 0 4)), .int (nI (C 0 5)), .int (nI (C 0 6)), .int (nI (C 0 7))])
  | 1 => .inr (3, [.int (nI (C 0 0)), .ref (q + 2), .ref (q + 3), .ref (q + 4), .ref (q + 5), .ref (q + 6), .ref (q + 7)])
  | 2 => ar G 6 (C 1)
  | 3 => ar G 6 (C 2)
  | 4 => ar G 6 (C 3)
  | 5 => ar G 6 (C 4)
  | 6 => ar G 6 (C 5)
  | 7 => ar G 6 (C 6)
  | 8 => .inr (5, [.int (nI (C 0 1)), .ref (q + 9), .ref (q + 10), .ref (q + 11), .ref (q + 12)])
  | 9 => ar G 12 (C 7)
  | 10 => ar G 12 (C 8)
  | 11 => ar G 12 (C 9)
  | 12 => ar G 48 (C 10)
  | 13 => .inr (1, [.int (nI (C 0 2)), .ref (q + 14), .ref (q + 15), .ref (q + 16), .ref (q + 17)])
  | 14 => ar G 10 (C 11)
  | 15 => ar G 10 (C 12)
  | 16 => ar G 10 (C 13)
  | 17 => ar G 10 (C 14)
  | 18 => ar G 4 (C 15)
  | _ => ar G 4 (C 16)
def ct (G : vG) (h : AH) (q : Nat) (C : Ct) : Prop := ∀ i : Nat, i < 20 → h (q + i) = some (ctc G q C i)
theorem ck0 {G : vG} {h : AH} {q : Nat} {C : Ct} (hc : ct G h q C) : h (q) = some (.inr (2, [.ref (q + 1), .ref (q + 8), .ref (q + 13), .ref (q + 18), .ref (q + 19), .int (nI (C 0 3)), .int (nI (C 0 4)), .int (nI (C 0 5)), .int (nI (C 0 6)), .int (nI (C 0 7))])) := hc 0 (by decide)
theorem ck1 {G : vG} {h : AH} {q : Nat} {C : Ct} (hc : ct G h q C) : h (q + 1) = some (.inr (3, [.int (nI (C 0 0)), .ref (q + 2), .ref (q + 3), .ref (q + 4), .ref (q + 5), .ref (q + 6), .ref (q + 7)])) := hc 1 (by decide)
theorem ck2 {G : vG} {h : AH} {q : Nat} {C : Ct} (hc : ct G h q C) : h (q + 2) = some (ar G 6 (C 1)) := hc 2 (by decide)
theorem ck3 {G : vG} {h : AH} {q : Nat} {C : Ct} (hc : ct G h q C) : h (q + 3) = some (ar G 6 (C 2)) := hc 3 (by decide)
theorem ck4 {G : vG} {h : AH} {q : Nat} {C : Ct} (hc : ct G h q C) : h (q + 4) = some (ar G 6 (C 3)) := hc 4 (by decide)
theorem ck5 {G : vG} {h : AH} {q : Nat} {C : Ct} (hc : ct G h q C) : h (q + 5) = some (ar G 6 (C 4)) := hc 5 (by decide)
theorem ck6 {G : vG} {h : AH} {q : Nat} {C : Ct} (hc : ct G h q C) : h (q + 6) = some (ar G 6 (C 5)) := hc 6 (by decide)
theorem ck7 {G : vG} {h : AH} {q : Nat} {C : Ct} (hc : ct G h q C) : h (q + 7) = some (ar G 6 (C 6)) := hc 7 (by decide)
theorem ck8 {G : vG} {h : AH} {q : Nat} {C : Ct} (hc : ct G h q C) : h (q + 8) = some (.inr (5, [.int (nI (C 0 1)), .ref (q + 9), .ref (q + 10), .ref (q + 11), .ref (q + 12)])) := hc 8 (by decide)
theorem ck9 {G : vG} {h : AH} {q : Nat} {C : Ct} (hc : ct G h q C) : h (q + 9) = some (ar G 12 (C 7)) := hc 9 (by decide)
theorem ck10 {G : vG} {h : AH} {q : Nat} {C : Ct} (hc : ct G h q C) : h (q + 10) = some (ar G 12 (C 8)) := hc 10 (by decide)
theorem ck11 {G : vG} {h : AH} {q : Nat} {C : Ct} (hc : ct G h q C) : h (q + 11) = some (ar G 12 (C 9)) := hc 11 (by decide)
theorem ck12 {G : vG} {h : AH} {q : Nat} {C : Ct} (hc : ct G h q C) : h (q + 12) = some (ar G 48 (C 10)) := hc 12 (by decide)
theorem ck13 {G : vG} {h : AH} {q : Nat} {C : Ct} (hc : ct G h q C) : h (q + 13) = some (.inr (1, [.int (nI (C 0 2)), .ref (q + 14), .ref (q + 15), .ref (q + 16), .ref (q + 17)])) := hc 13 (by decide)
theorem ck14 {G : vG} {h : AH} {q : Nat} {C : Ct} (hc : ct G h q C) : h (q + 14) = some (ar G 10 (C 11)) := hc 14 (by decide)
theorem ck15 {G : vG} {h : AH} {q : Nat} {C : Ct} (hc : ct G h q C) : h (q + 15) = some (ar G 10 (C 12)) := hc 15 (by decide)
theorem ck16 {G : vG} {h : AH} {q : Nat} {C : Ct} (hc : ct G h q C) : h (q + 16) = some (ar G 10 (C 13)) := hc 16 (by decide)
theorem ck17 {G : vG} {h : AH} {q : Nat} {C : Ct} (hc : ct G h q C) : h (q + 17) = some (ar G 10 (C 14)) := hc 17 (by decide)
theorem ck18 {G : vG} {h : AH} {q : Nat} {C : Ct} (hc : ct G h q C) : h (q + 18) = some (ar G 4 (C 15)) := hc 18 (by decide)
theorem ck19 {G : vG} {h : AH} {q : Nat} {C : Ct} (hc : ct G h q C) : h (q + 19) = some (ar G 4 (C 16)) := hc 19 (by decide)
abbrev cu (C : Ct) (f j x : Nat) : Ct := fun g => if g = f then va_up (C f) j x else C g
theorem cu_s {C : Ct} {f j x : Nat} : cu C f j x f = va_up (C f) j x := if_pos rfl
theorem cu_n {C : Ct} {f g j x : Nat} (h : g ≠ f) : cu C f j x g = C g := if_neg h
def bd (C : Ct) : Prop := ∀ f j : Nat, C f j < 2 ^ 28
def off (q : Nat) (h h2 : AH) : Prop := ∀ a : Nat, (a < q ∨ q + 20 ≤ a) → h2 a = h a
theorem off_rf {q : Nat} {h : AH} : off q h h := fun _ _ => rfl
theorem off_tr {q : Nat} {h h1 h2 : AH} (a : off q h h1) (b : off q h1 h2) : off q h h2 := fun x z => (b x z).trans (a x z)
theorem off_up {q a : Nat} {h h1 : AH} {e : Option va_E} (o : off q h h1) (ha : q ≤ a ∧ a < q + 20) : off q h (va_up h1 a e) := fun x z => by
  unfold va_up
  rw [if_neg (by omega)]
  exact o x z
theorem ct_off {G : vG} {h h2 : AH} {q p : Nat} {C : Ct} (hc : ct G h p C) (ho : off q h h2) (hd : p + 20 ≤ q ∨ q + 20 ≤ p) : ct G h2 p C := fun i hi => by rw [ho (p + i) (by omega)]; exact hc i hi
theorem ct_up {G : vG} {h : AH} {q i : Nat} {C C2 : Ct} {e : va_E} (hc : ct G h q C) (hi : i < 20) (he : ctc G q C2 i = e) (ho : ∀ j, j < 20 → j ≠ i → ctc G q C2 j = ctc G q C j) : ct G (va_up h (q + i) (some e)) q C2 := by
  intro j hj
  unfold va_up
  by_cases hji : j = i
  · subst hji
    rw [if_pos rfl, he]
  · rw [if_neg (by omega), hc j hj, ho j hj hji]
theorem l20 {P : Nat → Prop} (h : P 0 ∧ P 1 ∧ P 2 ∧ P 3 ∧ P 4 ∧ P 5 ∧ P 6 ∧ P 7 ∧ P 8 ∧ P 9 ∧ P 10 ∧ P 11 ∧ P 12 ∧ P 13 ∧ P 14 ∧ P 15 ∧ P 16 ∧ P 17 ∧ P 18 ∧ P 19) : ∀ j, j < 20 → P j := by
  obtain ⟨h0, h1, h2, h3, h4, h5, h6, h7, h8, h9, h10, h11, h12, h13, h14, h15, h16, h17, h18, h19⟩ := h
  intro j hj
  obtain rfl | rfl | rfl | rfl | rfl | rfl | rfl | rfl | rfl | rfl | rfl | rfl | rfl | rfl | rfl | rfl | rfl | rfl | rfl | rfl := (by omega : j = 0 ∨ j = 1 ∨ j = 2 ∨ j = 3 ∨ j = 4 ∨ j = 5 ∨ j = 6 ∨ j = 7 ∨ j = 8 ∨ j = 9 ∨ j = 10 ∨ j = 11 ∨ j = 12 ∨ j = 13 ∨ j = 14 ∨ j = 15 ∨ j = 16 ∨ j = 17 ∨ j = 18 ∨ j = 19) <;> assumption
theorem cp1 {G : vG} {h : AH} {q j x : Nat} {C : Ct} (hc : ct G h q C) : ct G (va_up h (q + 2) (some (ar G 6 (va_up (C 1) j x)))) q (cu C 1 j x) := ct_up hc (by decide) rfl (l20 (P := fun j => j ≠ 2 → _) ⟨fun _ => rfl, fun _ => rfl, fun z => absurd rfl z, fun _ => rfl, fun _ => rfl, fun _ => rfl, fun _ => rfl, fun _ => rfl, fun _ => rfl, fun _ => rfl, fun _ => rfl, fun _ => rfl, fun _ => rfl, fun _ => rfl, fun _ => rfl, fun _ => rfl, fun _ => rfl, fun _ => rfl, fun _ => rfl, fun _ => rfl⟩)
theorem cp2 {G : vG} {h : AH} {q j x : Nat} {C : Ct} (hc : ct G h q C) : ct G (va_up h (q + 3) (some (ar G 6 (va_up (C 2) j x)))) q (cu C 2 j x) := ct_up hc (by decide) rfl (l20 (P := fun j => j ≠ 3 → _) ⟨fun _ => rfl, fun _ => rfl, fun _ => rfl, fun z => absurd rfl z, fun _ => rfl, fun _ => rfl, fun _ => rfl, fun _ => rfl, fun _ => rfl, fun _ => rfl, fun _ => rfl, fun _ => rfl, fun _ => rfl, fun _ => rfl, fun _ => rfl, fun _ => rfl, fun _ => rfl, fun _ => rfl, fun _ => rfl, fun _ => rfl⟩)
theorem cp3 {G : vG} {h : AH} {q j x : Nat} {C : Ct} (hc : ct G h q C) : ct G (va_up h (q + 4) (some (ar G 6 (va_up (C 3) j x)))) q (cu C 3 j x) := ct_up hc (by decide) rfl (l20 (P := fun j => j ≠ 4 → _) ⟨fun _ => rfl, fun _ => rfl, fun _ => rfl, fun _ => rfl, fun z => absurd rfl z, fun _ => rfl, fun _ => rfl, fun _ => rfl, fun _ => rfl, fun _ => rfl, fun _ => rfl, fun _ => rfl, fun _ => rfl, fun _ => rfl, fun _ => rfl, fun _ => rfl, fun _ => rfl, fun _ => rfl, fun _ => rfl, fun _ => rfl⟩)
theorem cp4 {G : vG} {h : AH} {q j x : Nat} {C : Ct} (hc : ct G h q C) : ct G (va_up h (q + 5) (some (ar G 6 (va_up (C 4) j x)))) q (cu C 4 j x) := ct_up hc (by decide) rfl (l20 (P := fun j => j ≠ 5 → _) ⟨fun _ => rfl, fun _ => rfl, fun _ => rfl, fun _ => rfl, fun _ => rfl, fun z => absurd rfl z, fun _ => rfl, fun _ => rfl, fun _ => rfl, fun _ => rfl, fun _ => rfl, fun _ => rfl, fun _ => rfl, fun _ => rfl, fun _ => rfl, fun _ => rfl, fun _ => rfl, fun _ => rfl, fun _ => rfl, fun _ => rfl⟩)
theorem cp5 {G : vG} {h : AH} {q j x : Nat} {C : Ct} (hc : ct G h q C) : ct G (va_up h (q + 6) (some (ar G 6 (va_up (C 5) j x)))) q (cu C 5 j x) := ct_up hc (by decide) rfl (l20 (P := fun j => j ≠ 6 → _) ⟨fun _ => rfl, fun _ => rfl, fun _ => rfl, fun _ => rfl, fun _ => rfl, fun _ => rfl, fun z => absurd rfl z, fun _ => rfl, fun _ => rfl, fun _ => rfl, fun _ => rfl, fun _ => rfl, fun _ => rfl, fun _ => rfl, fun _ => rfl, fun _ => rfl, fun _ => rfl, fun _ => rfl, fun _ => rfl, fun _ => rfl⟩)
theorem cp6 {G : vG} {h : AH} {q j x : Nat} {C : Ct} (hc : ct G h q C) : ct G (va_up h (q + 7) (some (ar G 6 (va_up (C 6) j x)))) q (cu C 6 j x) := ct_up hc (by decide) rfl (l20 (P := fun j => j ≠ 7 → _) ⟨fun _ => rfl, fun _ => rfl, fun _ => rfl, fun _ => rfl, fun _ => rfl, fun _ => rfl, fun _ => rfl, fun z => absurd rfl z, fun _ => rfl, fun _ => rfl, fun _ => rfl, fun _ => rfl, fun _ => rfl, fun _ => rfl, fun _ => rfl, fun _ => rfl, fun _ => rfl, fun _ => rfl, fun _ => rfl, fun _ => rfl⟩)
theorem cp7 {G : vG} {h : AH} {q j x : Nat} {C : Ct} (hc : ct G h q C) : ct G (va_up h (q + 9) (some (ar G 12 (va_up (C 7) j x)))) q (cu C 7 j x) := ct_up hc (by decide) rfl (l20 (P := fun j => j ≠ 9 → _) ⟨fun _ => rfl, fun _ => rfl, fun _ => rfl, fun _ => rfl, fun _ => rfl, fun _ => rfl, fun _ => rfl, fun _ => rfl, fun _ => rfl, fun z => absurd rfl z, fun _ => rfl, fun _ => rfl, fun _ => rfl, fun _ => rfl, fun _ => rfl, fun _ => rfl, fun _ => rfl, fun _ => rfl, fun _ => rfl, fun _ => rfl⟩)
theorem cp8 {G : vG} {h : AH} {q j x : Nat} {C : Ct} (hc : ct G h q C) : ct G (va_up h (q + 10) (some (ar G 12 (va_up (C 8) j x)))) q (cu C 8 j x) := ct_up hc (by decide) rfl (l20 (P := fun j => j ≠ 10 → _) ⟨fun _ => rfl, fun _ => rfl, fun _ => rfl, fun _ => rfl, fun _ => rfl, fun _ => rfl, fun _ => rfl, fun _ => rfl, fun _ => rfl, fun _ => rfl, fun z => absurd rfl z, fun _ => rfl, fun _ => rfl, fun _ => rfl, fun _ => rfl, fun _ => rfl, fun _ => rfl, fun _ => rfl, fun _ => rfl, fun _ => rfl⟩)
theorem cp9 {G : vG} {h : AH} {q j x : Nat} {C : Ct} (hc : ct G h q C) : ct G (va_up h (q + 11) (some (ar G 12 (va_up (C 9) j x)))) q (cu C 9 j x) := ct_up hc (by decide) rfl (l20 (P := fun j => j ≠ 11 → _) ⟨fun _ => rfl, fun _ => rfl, fun _ => rfl, fun _ => rfl, fun _ => rfl, fun _ => rfl, fun _ => rfl, fun _ => rfl, fun _ => rfl, fun _ => rfl, fun _ => rfl, fun z => absurd rfl z, fun _ => rfl, fun _ => rfl, fun _ => rfl, fun _ => rfl, fun _ => rfl, fun _ => rfl, fun _ => rfl, fun _ => rfl⟩)
theorem cp10 {G : vG} {h : AH} {q j x : Nat} {C : Ct} (hc : ct G h q C) : ct G (va_up h (q + 12) (some (ar G 48 (va_up (C 10) j x)))) q (cu C 10 j x) := ct_up hc (by decide) rfl (l20 (P := fun j => j ≠ 12 → _) ⟨fun _ => rfl, fun _ => rfl, fun _ => rfl, fun _ => rfl, fun _ => rfl, fun _ => rfl, fun _ => rfl, fun _ => rfl, fun _ => rfl, fun _ => rfl, fun _ => rfl, fun _ => rfl, fun z => absurd rfl z, fun _ => rfl, fun _ => rfl, fun _ => rfl, fun _ => rfl, fun _ => rfl, fun _ => rfl, fun _ => rfl⟩)
theorem cp11 {G : vG} {h : AH} {q j x : Nat} {C : Ct} (hc : ct G h q C) : ct G (va_up h (q + 14) (some (ar G 10 (va_up (C 11) j x)))) q (cu C 11 j x) := ct_up hc (by decide) rfl (l20 (P := fun j => j ≠ 14 → _) ⟨fun _ => rfl, fun _ => rfl, fun _ => rfl, fun _ => rfl, fun _ => rfl, fun _ => rfl, fun _ => rfl, fun _ => rfl, fun _ => rfl, fun _ => rfl, fun _ => rfl, fun _ => rfl, fun _ => rfl, fun _ => rfl, fun z => absurd rfl z, fun _ => rfl, fun _ => rfl, fun _ => rfl, fun _ => rfl, fun _ => rfl⟩)
theorem cp12 {G : vG} {h : AH} {q j x : Nat} {C : Ct} (hc : ct G h q C) : ct G (va_up h (q + 15) (some (ar G 10 (va_up (C 12) j x)))) q (cu C 12 j x) := ct_up hc (by decide) rfl (l20 (P := fun j => j ≠ 15 → _) ⟨fun _ => rfl, fun _ => rfl, fun _ => rfl, fun _ => rfl, fun _ => rfl, fun _ => rfl, fun _ => rfl, fun _ => rfl, fun _ => rfl, fun _ => rfl, fun _ => rfl, fun _ => rfl, fun _ => rfl, fun _ => rfl, fun _ => rfl, fun z => absurd rfl z, fun _ => rfl, fun _ => rfl, fun _ => rfl, fun _ => rfl⟩)
theorem cp13 {G : vG} {h : AH} {q j x : Nat} {C : Ct} (hc : ct G h q C) : ct G (va_up h (q + 16) (some (ar G 10 (va_up (C 13) j x)))) q (cu C 13 j x) := ct_up hc (by decide) rfl (l20 (P := fun j => j ≠ 16 → _) ⟨fun _ => rfl, fun _ => rfl, fun _ => rfl, fun _ => rfl, fun _ => rfl, fun _ => rfl, fun _ => rfl, fun _ => rfl, fun _ => rfl, fun _ => rfl, fun _ => rfl, fun _ => rfl, fun _ => rfl, fun _ => rfl, fun _ => rfl, fun _ => rfl, fun z => absurd rfl z, fun _ => rfl, fun _ => rfl, fun _ => rfl⟩)
theorem cp14 {G : vG} {h : AH} {q j x : Nat} {C : Ct} (hc : ct G h q C) : ct G (va_up h (q + 17) (some (ar G 10 (va_up (C 14) j x)))) q (cu C 14 j x) := ct_up hc (by decide) rfl (l20 (P := fun j => j ≠ 17 → _) ⟨fun _ => rfl, fun _ => rfl, fun _ => rfl, fun _ => rfl, fun _ => rfl, fun _ => rfl, fun _ => rfl, fun _ => rfl, fun _ => rfl, fun _ => rfl, fun _ => rfl, fun _ => rfl, fun _ => rfl, fun _ => rfl, fun _ => rfl, fun _ => rfl, fun _ => rfl, fun z => absurd rfl z, fun _ => rfl, fun _ => rfl⟩)
theorem cp15 {G : vG} {h : AH} {q j x : Nat} {C : Ct} (hc : ct G h q C) : ct G (va_up h (q + 18) (some (ar G 4 (va_up (C 15) j x)))) q (cu C 15 j x) := ct_up hc (by decide) rfl (l20 (P := fun j => j ≠ 18 → _) ⟨fun _ => rfl, fun _ => rfl, fun _ => rfl, fun _ => rfl, fun _ => rfl, fun _ => rfl, fun _ => rfl, fun _ => rfl, fun _ => rfl, fun _ => rfl, fun _ => rfl, fun _ => rfl, fun _ => rfl, fun _ => rfl, fun _ => rfl, fun _ => rfl, fun _ => rfl, fun _ => rfl, fun z => absurd rfl z, fun _ => rfl⟩)
theorem cp16 {G : vG} {h : AH} {q j x : Nat} {C : Ct} (hc : ct G h q C) : ct G (va_up h (q + 19) (some (ar G 4 (va_up (C 16) j x)))) q (cu C 16 j x) := ct_up hc (by decide) rfl (l20 (P := fun j => j ≠ 19 → _) ⟨fun _ => rfl, fun _ => rfl, fun _ => rfl, fun _ => rfl, fun _ => rfl, fun _ => rfl, fun _ => rfl, fun _ => rfl, fun _ => rfl, fun _ => rfl, fun _ => rfl, fun _ => rfl, fun _ => rfl, fun _ => rfl, fun _ => rfl, fun _ => rfl, fun _ => rfl, fun _ => rfl, fun _ => rfl, fun z => absurd rfl z⟩)
theorem cs0 {G : vG} {h : AH} {q x : Nat} {C : Ct} (hc : ct G h q C) : ct G (va_up h (q + 1) (some (.inr (3, ([.int (nI (C 0 0)), .ref (q + 2), .ref (q + 3), .ref (q + 4), .ref (q + 5), .ref (q + 6), .ref (q + 7)] : List Value).set 0 (.int (nI x)))))) q (cu C 0 0 x) := ct_up (i := 1) hc (by decide) rfl (l20 (P := fun j => j ≠ 1 → _) ⟨fun _ => rfl, fun z => absurd rfl z, fun _ => rfl, fun _ => rfl, fun _ => rfl, fun _ => rfl, fun _ => rfl, fun _ => rfl, fun _ => rfl, fun _ => rfl, fun _ => rfl, fun _ => rfl, fun _ => rfl, fun _ => rfl, fun _ => rfl, fun _ => rfl, fun _ => rfl, fun _ => rfl, fun _ => rfl, fun _ => rfl⟩)
theorem cs1 {G : vG} {h : AH} {q x : Nat} {C : Ct} (hc : ct G h q C) : ct G (va_up h (q + 8) (some (.inr (5, ([.int (nI (C 0 1)), .ref (q + 9), .ref (q + 10), .ref (q + 11), .ref (q + 12)] : List Value).set 0 (.int (nI x)))))) q (cu C 0 1 x) := ct_up (i := 8) hc (by decide) rfl (l20 (P := fun j => j ≠ 8 → _) ⟨fun _ => rfl, fun _ => rfl, fun _ => rfl, fun _ => rfl, fun _ => rfl, fun _ => rfl, fun _ => rfl, fun _ => rfl, fun z => absurd rfl z, fun _ => rfl, fun _ => rfl, fun _ => rfl, fun _ => rfl, fun _ => rfl, fun _ => rfl, fun _ => rfl, fun _ => rfl, fun _ => rfl, fun _ => rfl, fun _ => rfl⟩)
theorem cs2 {G : vG} {h : AH} {q x : Nat} {C : Ct} (hc : ct G h q C) : ct G (va_up h (q + 13) (some (.inr (1, ([.int (nI (C 0 2)), .ref (q + 14), .ref (q + 15), .ref (q + 16), .ref (q + 17)] : List Value).set 0 (.int (nI x)))))) q (cu C 0 2 x) := ct_up (i := 13) hc (by decide) rfl (l20 (P := fun j => j ≠ 13 → _) ⟨fun _ => rfl, fun _ => rfl, fun _ => rfl, fun _ => rfl, fun _ => rfl, fun _ => rfl, fun _ => rfl, fun _ => rfl, fun _ => rfl, fun _ => rfl, fun _ => rfl, fun _ => rfl, fun _ => rfl, fun z => absurd rfl z, fun _ => rfl, fun _ => rfl, fun _ => rfl, fun _ => rfl, fun _ => rfl, fun _ => rfl⟩)
theorem cs3 {G : vG} {h : AH} {q x : Nat} {C : Ct} (hc : ct G h q C) : ct G (va_up h (q) (some (.inr (2, ([.ref (q + 1), .ref (q + 8), .ref (q + 13), .ref (q + 18), .ref (q + 19), .int (nI (C 0 3)), .int (nI (C 0 4)), .int (nI (C 0 5)), .int (nI (C 0 6)), .int (nI (C 0 7))] : List Value).set 5 (.int (nI x)))))) q (cu C 0 3 x) := ct_up (i := 0) hc (by decide) rfl (l20 (P := fun j => j ≠ 0 → _) ⟨fun z => absurd rfl z, fun _ => rfl, fun _ => rfl, fun _ => rfl, fun _ => rfl, fun _ => rfl, fun _ => rfl, fun _ => rfl, fun _ => rfl, fun _ => rfl, fun _ => rfl, fun _ => rfl, fun _ => rfl, fun _ => rfl, fun _ => rfl, fun _ => rfl, fun _ => rfl, fun _ => rfl, fun _ => rfl, fun _ => rfl⟩)
theorem cs4 {G : vG} {h : AH} {q x : Nat} {C : Ct} (hc : ct G h q C) : ct G (va_up h (q) (some (.inr (2, ([.ref (q + 1), .ref (q + 8), .ref (q + 13), .ref (q + 18), .ref (q + 19), .int (nI (C 0 3)), .int (nI (C 0 4)), .int (nI (C 0 5)), .int (nI (C 0 6)), .int (nI (C 0 7))] : List Value).set 6 (.int (nI x)))))) q (cu C 0 4 x) := ct_up (i := 0) hc (by decide) rfl (l20 (P := fun j => j ≠ 0 → _) ⟨fun z => absurd rfl z, fun _ => rfl, fun _ => rfl, fun _ => rfl, fun _ => rfl, fun _ => rfl, fun _ => rfl, fun _ => rfl, fun _ => rfl, fun _ => rfl, fun _ => rfl, fun _ => rfl, fun _ => rfl, fun _ => rfl, fun _ => rfl, fun _ => rfl, fun _ => rfl, fun _ => rfl, fun _ => rfl, fun _ => rfl⟩)
theorem cs5 {G : vG} {h : AH} {q x : Nat} {C : Ct} (hc : ct G h q C) : ct G (va_up h (q) (some (.inr (2, ([.ref (q + 1), .ref (q + 8), .ref (q + 13), .ref (q + 18), .ref (q + 19), .int (nI (C 0 3)), .int (nI (C 0 4)), .int (nI (C 0 5)), .int (nI (C 0 6)), .int (nI (C 0 7))] : List Value).set 7 (.int (nI x)))))) q (cu C 0 5 x) := ct_up (i := 0) hc (by decide) rfl (l20 (P := fun j => j ≠ 0 → _) ⟨fun z => absurd rfl z, fun _ => rfl, fun _ => rfl, fun _ => rfl, fun _ => rfl, fun _ => rfl, fun _ => rfl, fun _ => rfl, fun _ => rfl, fun _ => rfl, fun _ => rfl, fun _ => rfl, fun _ => rfl, fun _ => rfl, fun _ => rfl, fun _ => rfl, fun _ => rfl, fun _ => rfl, fun _ => rfl, fun _ => rfl⟩)
theorem cs6 {G : vG} {h : AH} {q x : Nat} {C : Ct} (hc : ct G h q C) : ct G (va_up h (q) (some (.inr (2, ([.ref (q + 1), .ref (q + 8), .ref (q + 13), .ref (q + 18), .ref (q + 19), .int (nI (C 0 3)), .int (nI (C 0 4)), .int (nI (C 0 5)), .int (nI (C 0 6)), .int (nI (C 0 7))] : List Value).set 8 (.int (nI x)))))) q (cu C 0 6 x) := ct_up (i := 0) hc (by decide) rfl (l20 (P := fun j => j ≠ 0 → _) ⟨fun z => absurd rfl z, fun _ => rfl, fun _ => rfl, fun _ => rfl, fun _ => rfl, fun _ => rfl, fun _ => rfl, fun _ => rfl, fun _ => rfl, fun _ => rfl, fun _ => rfl, fun _ => rfl, fun _ => rfl, fun _ => rfl, fun _ => rfl, fun _ => rfl, fun _ => rfl, fun _ => rfl, fun _ => rfl, fun _ => rfl⟩)
theorem cs7 {G : vG} {h : AH} {q x : Nat} {C : Ct} (hc : ct G h q C) : ct G (va_up h (q) (some (.inr (2, ([.ref (q + 1), .ref (q + 8), .ref (q + 13), .ref (q + 18), .ref (q + 19), .int (nI (C 0 3)), .int (nI (C 0 4)), .int (nI (C 0 5)), .int (nI (C 0 6)), .int (nI (C 0 7))] : List Value).set 9 (.int (nI x)))))) q (cu C 0 7 x) := ct_up (i := 0) hc (by decide) rfl (l20 (P := fun j => j ≠ 0 → _) ⟨fun z => absurd rfl z, fun _ => rfl, fun _ => rfl, fun _ => rfl, fun _ => rfl, fun _ => rfl, fun _ => rfl, fun _ => rfl, fun _ => rfl, fun _ => rfl, fun _ => rfl, fun _ => rfl, fun _ => rfl, fun _ => rfl, fun _ => rfl, fun _ => rfl, fun _ => rfl, fun _ => rfl, fun _ => rfl, fun _ => rfl⟩)
theorem wr {l : Launch} {G : vG} {M : vM} {rc rs : Nat} {Fz : vFin} {pc : Nat} {ls : List (Option Value)} {st : List Value} {n : Nat} {h h0 : AH} {cells slots q a : Nat} {e : Option va_E} {C : Ct} (hc : ct G (va_up h a e) q C) (ho : off q h0 h) (ha : q ≤ a ∧ a < q + 20) (kk : ∀ h1 : AH, ct G h1 q C → off q h0 h1 → V l G M rc rs Fz pc ls st n h1 cells slots) : V l G M rc rs Fz pc ls st n (va_up h a e) cells slots := kk _ hc (off_up ho ha)
theorem v_ls {l : Launch} {G : vG} {M : vM} {rc rs : Nat} {Fz : vFin} {pc : Nat} {ls ls2 : List (Option Value)} {st : List Value} {n : Nat} {h : AH} {cells slots : Nat} (he : ls = ls2) (kk : V l G M rc rs Fz pc ls2 st n h cells slots) : V l G M rc rs Fz pc ls st n h cells slots := he ▸ kk
theorem loopN {P : Nat → Prop} {N : Nat} (hs : ∀ i, i ≤ N → (i < N → P (i + 1)) → P i) : ∀ i, i ≤ N → P i := by
  have key : ∀ k i, i + k = N → P i := by
    intro k
    induction k with
    | zero => intro i hi; exact hs i (by omega) (fun z => by omega)
    | succ k ih => intro i hi; exact hs i (by omega) (fun _ => ih (i + 1) (by omega))
  intro i hi
  exact key (N - i) i (by omega)
def cnt (p : Nat → Bool) : Nat → Nat
  | 0 => 0
  | n + 1 => cnt p n + if p n then 1 else 0
theorem cnt_le (p : Nat → Bool) : ∀ n, cnt p n ≤ n
  | 0 => Nat.le_refl 0
  | n + 1 => by
    have := cnt_le p n
    unfold cnt
    split <;> omega
theorem cnt_t {p : Nat → Bool} {n : Nat} (h : p n = true) : cnt p (n + 1) = cnt p n + 1 := by rw [cnt, if_pos h]
theorem cnt_f {p : Nat → Bool} {n : Nat} (h : p n = false) : cnt p (n + 1) = cnt p n := by rw [cnt, h]; rfl
theorem cnt_cong {p q : Nat → Bool} : ∀ {n : Nat}, (∀ k, k < n → p k = q k) → cnt p n = cnt q n
  | 0, _ => rfl
  | n + 1, h => by rw [cnt, cnt, cnt_cong (fun k hk => h k (Nat.lt_succ_of_lt hk)), h n (Nat.lt_succ_self n)]
def sm (f : Nat → Nat) : Nat → Nat
  | 0 => 0
  | n + 1 => sm f n + f n
theorem sm_cong {f g : Nat → Nat} : ∀ {n : Nat}, (∀ k, k < n → f k = g k) → sm f n = sm g n
  | 0, _ => rfl
  | n + 1, h => by rw [sm, sm, sm_cong (fun k hk => h k (Nat.lt_succ_of_lt hk)), h n (Nat.lt_succ_self n)]
theorem sm_up (f : Nat → Nat) (x : Nat) {i : Nat} : ∀ {n : Nat}, i < n → sm (va_up f i x) n + f i = sm f n + x
  | 0, h => absurd h (Nat.not_lt_zero i)
  | n + 1, h => by
    rw [sm, sm]
    rcases Nat.lt_or_ge i n with q | q
    · have h1 := sm_up f x q
      have : va_up f i x n = f n := if_neg (by omega)
      omega
    · have e : i = n := by omega
      subst e
      have h2 : sm (va_up f i x) i = sm f i := sm_cong (fun k hk => if_neg (by omega))
      have : va_up f i x i = x := if_pos rfl
      omega
theorem sm_le {f : Nat → Nat} {b : Nat} : ∀ {n : Nat}, (∀ k, k < n → f k ≤ b) → sm f n ≤ n * b
  | 0, _ => by rw [sm]; omega
  | n + 1, h => by
    have h1 := sm_le (n := n) (fun k hk => h k (by omega))
    have h2 := h n (by omega)
    rw [sm, Nat.succ_mul]
    omega
