def aB (W : Nat → Nat) (h1 j1 f1 h2 j2 f2 : Nat) : Prop := h1 < h2 ∨ (h1 = h2 ∧ (W j2 < W j1 ∨ (W j1 = W j2 ∧ f1 < f2)))
theorem bkA_aB {C : Ct} {p f j k : Nat} : bkA C p f j k ↔ aB (C 7) (C 14 p) (C 12 p) (C 11 p) k j f := by
  unfold bkA aB
  split
  · split <;> omega
  · omega
theorem aB_tr {W : Nat → Nat} {a b c d e f g h i : Nat} (h1 : aB W a b c d e f) (h2 : aB W d e f g h i) : aB W a b c g h i := by
  unfold aB at *
  omega
theorem aB_tot {W : Nat → Nat} {a b c d e f : Nat} (h1 : ¬ aB W a b c d e f) (h2 : ¬ (a = d ∧ c = f)) : aB W d e f a b c := by
  unfold aB at *
  omega
theorem aB_h {W : Nat → Nat} {a b c d e f : Nat} (h1 : aB W a b c d e f) : a ≤ d := by
  unfold aB at h1
  omega
theorem vu {F : Nat → Nat} {j x : Nat} (P : Nat → Nat → Prop) (h : ∀ i, P i (F i)) (hx : P j x) : ∀ i, P i (va_up F j x i) := by
  intro i
  unfold va_up
  by_cases e : i = j
  · subst e; rw [if_pos rfl]; exact hx
  · rw [if_neg e]; exact h i
/-- what else holds of every court -/
def ivb (C : Ct) : Prop := (∀ j, j < C 0 1 → 1 ≤ C 7 j) ∧ sm (C 5) 6 = sm (C 18) 4 ∧ (∀ t, t < 4 → C 18 t = sm (fun j => C 10 (j * 4 + t)) (C 0 1)) ∧ C 17 0 = sm (C 16) 4 ∧ C 17 1 = sm (C 6) 6 ∧ C 0 4 = 10 * C 0 0 ∧ (∀ p, p < C 0 2 → C 0 3 ≤ C 14 p) ∧ (∀ p q, p < q → q < C 0 2 → aB (C 7) (C 14 p) (C 12 p) (C 11 p) (C 14 q) (C 12 q) (C 11 q)) ∧ (∀ i, C 0 0 ≤ i → C 2 i = 0) ∧ (∀ i, C 0 0 ≤ i → C 3 i = 0) ∧ (∀ i, C 0 0 ≤ i → C 5 i = 0) ∧ (∀ i, C 0 0 ≤ i → C 6 i = 0) ∧ (∀ j, C 0 1 ≤ j → C 7 j = 0) ∧ (∀ k, 4 * C 0 1 ≤ k → C 10 k = 0) ∧ (∀ j, C 9 j = 0 ∨ C 8 j < C 0 0)
def Iv (C : Ct) : Prop := iv C ∧ ivb C
theorem Iv_Z0 : Iv Z0 := ⟨⟨Nat.zero_le _, Nat.zero_le _, Nat.zero_le _, fun _ => Nat.zero_le _, fun _ => Nat.zero_le _, fun _ => Nat.zero_le _, fun _ => Nat.zero_le _, fun _ => (by decide : 0 < 6), fun _ => Nat.zero_le _, fun p hp => absurd hp (Nat.not_lt_zero p), fun _ => Nat.zero_le _⟩, fun j hj => absurd hj (Nat.not_lt_zero j), rfl, fun _ _ => rfl, rfl, rfl, rfl, fun p hp => absurd hp (Nat.not_lt_zero p), fun p q _ hq => absurd hq (Nat.not_lt_zero q), fun _ _ => rfl, fun _ _ => rfl, fun _ _ => rfl, fun _ _ => rfl, fun _ _ => rfl, fun _ _ => rfl, fun _ => Or.inl rfl⟩
theorem Iv_payU {C : Ct} {f k : Nat} (h : Iv C) (hf : f < C 0 0) : Iv (payU C f k) := by
  obtain ⟨⟨a1, a2, a3, a4, a5, a6, a7, a8, a9, a10, a11⟩, w1, te, he, pa, sl, br, lo, so, z2, z3, z5, z6, zj, zt, ow⟩ := h
  exact ⟨⟨a1, a2, a3, a4, vu (fun _ y => y ≤ 99) a5 (by have := a5 f; omega), a6, a7, a8, a9, a10, a11⟩, w1, te, he, pa, sl, br, lo, so, vu (fun i y => C 0 0 ≤ i → y = 0) z2 (fun q => by omega), z3, z5, z6, zj, zt, ow⟩
theorem Iv_gain {C : Ct} {f k : Nat} (h : Iv C) (hf : f < C 0 0) : Iv (gain C f k) := by
  obtain ⟨⟨a1, a2, a3, a4, a5, a6, a7, a8, a9, a10, a11⟩, w1, te, he, pa, sl, br, lo, so, z2, z3, z5, z6, zj, zt, ow⟩ := h
  exact ⟨⟨a1, a2, a3, a4, vu (fun _ y => y ≤ 99) a5 (by have := a5 f; unfold kept; omega), a6, a7, a8, a9, a10, a11⟩, w1, te, he, pa, sl, br, lo, so, vu (fun i y => C 0 0 ≤ i → y = 0) z2 (fun q => by omega), z3, z5, z6, zj, zt, ow⟩
theorem Iv_2 {C : Ct} {f x : Nat} (h : Iv C) (hf : f < C 0 0) (hx : x ≤ 99) : Iv (cu C 2 f x) := by
  obtain ⟨⟨a1, a2, a3, a4, a5, a6, a7, a8, a9, a10, a11⟩, w1, te, he, pa, sl, br, lo, so, z2, z3, z5, z6, zj, zt, ow⟩ := h
  exact ⟨⟨a1, a2, a3, a4, vu (fun _ y => y ≤ 99) a5 hx, a6, a7, a8, a9, a10, a11⟩, w1, te, he, pa, sl, br, lo, so, vu (fun i y => C 0 0 ≤ i → y = 0) z2 (fun q => by omega), z3, z5, z6, zj, zt, ow⟩
theorem Iv_3 {C : Ct} {f x : Nat} (h : Iv C) (hf : f < C 0 0) : Iv (cu C 3 f x) := by
  obtain ⟨⟨a1, a2, a3, a4, a5, a6, a7, a8, a9, a10, a11⟩, w1, te, he, pa, sl, br, lo, so, z2, z3, z5, z6, zj, zt, ow⟩ := h
  exact ⟨⟨a1, a2, a3, a4, a5, a6, a7, a8, a9, a10, a11⟩, w1, te, he, pa, sl, br, lo, so, z2, vu (fun i y => C 0 0 ≤ i → y = 0) z3 (fun q => by omega), z5, z6, zj, zt, ow⟩
theorem Iv_4 {C : Ct} {f x : Nat} (h : Iv C) (hx : x ≤ 3) : Iv (cu C 4 f x) := by
  obtain ⟨⟨a1, a2, a3, a4, a5, a6, a7, a8, a9, a10, a11⟩, w1, te, he, pa, sl, br, lo, so, z2, z3, z5, z6, zj, zt, ow⟩ := h
  exact ⟨⟨a1, a2, a3, a4, a5, vu (fun _ y => y ≤ 3) a6 hx, a7, a8, a9, a10, a11⟩, w1, te, he, pa, sl, br, lo, so, z2, z3, z5, z6, zj, zt, ow⟩
theorem Iv_0 {C : Ct} {f x : Nat} (h : Iv C) (hf : 5 ≤ f) : Iv (cu C 0 f x) := by
  obtain ⟨⟨a1, a2, a3, a4, a5, a6, a7, a8, a9, a10, a11⟩, w1, te, he, pa, sl, br, lo, so, z2, z3, z5, z6, zj, zt, ow⟩ := h
  have e0 : (cu C 0 f x) 0 0 = C 0 0 := if_neg (by omega)
  have e1 : (cu C 0 f x) 0 1 = C 0 1 := if_neg (by omega)
  have e2 : (cu C 0 f x) 0 2 = C 0 2 := if_neg (by omega)
  have e3 : (cu C 0 f x) 0 3 = C 0 3 := if_neg (by omega)
  have e4 : (cu C 0 f x) 0 4 = C 0 4 := if_neg (by omega)
  unfold Iv iv ivb
  rw [e0, e1, e2, e3, e4]
  exact ⟨⟨a1, a2, a3, a4, a5, a6, a7, a8, a9, a10, a11⟩, w1, te, he, pa, sl, br, lo, so, z2, z3, z5, z6, zj, zt, ow⟩
theorem Iv_dFool {C : Ct} {s : Nat} (h : Iv C) (hc : C 0 0 < 6) (hs : s ≤ 9) : Iv (cu (cu (cu (cu C 0 4 (C 0 4 + 10)) 1 (C 0 0) s) 2 (C 0 0) 10) 0 0 (C 0 0 + 1)) := by
  obtain ⟨⟨a1, a2, a3, a4, a5, a6, a7, a8, a9, a10, a11⟩, w1, te, he, pa, sl, br, lo, so, z2, z3, z5, z6, zj, zt, ow⟩ := h
  exact ⟨⟨by show C 0 0 + 1 ≤ 6; omega, a2, a3, vu (fun _ y => y ≤ 9) a4 hs, vu (fun _ y => y ≤ 99) a5 (by omega), a6, a7, a8, a9, fun p hp => ⟨Nat.lt_succ_of_lt (a10 p hp).1, (a10 p hp).2⟩, a11⟩, w1, te, he, pa, sl, by show C 0 4 + 10 = 10 * (C 0 0 + 1); omega, lo, so,
    vu (fun i y => C 0 0 + 1 ≤ i → y = 0) (fun i q => z2 i (by omega)) (fun q => by omega), fun i (q : C 0 0 + 1 ≤ i) => z3 i (by omega), fun i (q : C 0 0 + 1 ≤ i) => z5 i (by omega), fun i (q : C 0 0 + 1 ≤ i) => z6 i (by omega), zj, zt, fun j => (ow j).imp id Nat.lt_succ_of_lt⟩
theorem Iv_dJoke {C : Ct} {s : Nat} (h : Iv C) (hc : C 0 1 < 12) (hs : s ≤ 9) (hs1 : 1 ≤ s) : Iv (cu (cu C 7 (C 0 1) s) 0 1 (C 0 1 + 1)) := by
  obtain ⟨⟨a1, a2, a3, a4, a5, a6, a7, a8, a9, a10, a11⟩, w1, te, he, pa, sl, br, lo, so, z2, z3, z5, z6, zj, zt, ow⟩ := h
  have e7 : ∀ p, p < C 0 2 → va_up (C 7) (C 0 1) s (C 12 p) = C 7 (C 12 p) := fun p hp => if_neg (by have := (a10 p hp).2.1; omega)
  refine ⟨⟨a1, by show C 0 1 + 1 ≤ 12; omega, a3, a4, a5, a6, vu (fun _ y => y ≤ 9) a7 hs, a8, a9, fun p hp => ⟨(a10 p hp).1, Nat.lt_succ_of_lt (a10 p hp).2.1, (a10 p hp).2.2⟩, a11⟩,
    fun i (q : i < C 0 1 + 1) => ?_, te, fun t ht => ?_, pa, sl, br, lo, fun p q hp hq => ?_, z2, z3, z5, z6, vu (fun i y => C 0 1 + 1 ≤ i → y = 0) (fun i q => zj i (by omega)) (fun q => by omega), fun k (q : 4 * (C 0 1 + 1) ≤ k) => zt k (by omega), ow⟩
  · show 1 ≤ va_up (C 7) (C 0 1) s i
    unfold va_up
    by_cases e : i = C 0 1
    · rw [if_pos e]; exact hs1
    · rw [if_neg e]; exact w1 i (by omega)
  · show C 18 t = sm (fun j => C 10 (j * 4 + t)) (C 0 1) + C 10 (C 0 1 * 4 + t)
    rw [zt (C 0 1 * 4 + t) (by omega)]
    exact he t ht
  · have hq : q < C 0 2 := hq
    have := so p q hp hq
    unfold aB at this ⊢
    show C 14 p < C 14 q ∨ (C 14 p = C 14 q ∧ (va_up (C 7) (C 0 1) s (C 12 q) < va_up (C 7) (C 0 1) s (C 12 p) ∨ (va_up (C 7) (C 0 1) s (C 12 p) = va_up (C 7) (C 0 1) s (C 12 q) ∧ C 11 p < C 11 q)))
    rw [e7 p (by omega), e7 q hq]
    exact this
theorem Iv_dPat {C : Ct} {f j k : Nat} (h : Iv C) (hf : f < C 0 0) (hk : k ≤ 48) {m : Nat} : Iv (cu (cu (payU C f m) 8 j f) 9 j (C 0 3 + k)) := by
  obtain ⟨⟨a1, a2, a3, a4, a5, a6, a7, a8, a9, a10, a11⟩, w1, te, he, pa, sl, br, lo, so, z2, z3, z5, z6, zj, zt, ow⟩ := Iv_payU (k := m) h hf
  have b1 : C 0 0 ≤ 6 := a1
  refine ⟨⟨a1, a2, a3, a4, a5, a6, a7, vu (fun _ y => y < 6) a8 (by omega), a9, a10, vu (fun _ y => y ≤ C 0 3 + 48) a11 (by omega)⟩, w1, te, he, pa, sl, br, lo, so, z2, z3, z5, z6, zj, zt, fun i => ?_⟩
  show va_up (C 9) j (C 0 3 + k) i = 0 ∨ va_up (C 8) j f i < C 0 0
  unfold va_up
  by_cases e : i = j
  · rw [if_pos e, if_pos e]; exact Or.inr hf
  · rw [if_neg e, if_neg e]; exact ow i
theorem Iv_15 {C : Ct} {t e : Nat} (h : Iv C) (hx : e ≤ 1) : Iv (cu C 15 t e) := by
  obtain ⟨⟨a1, a2, a3, a4, a5, a6, a7, a8, a9, a10, a11⟩, w1, te, he, pa, sl, br, lo, so, z2, z3, z5, z6, zj, zt, ow⟩ := h
  exact ⟨⟨a1, a2, a3, a4, a5, a6, a7, a8, vu (fun _ y => y ≤ 1) a9 hx, a10, a11⟩, w1, te, he, pa, sl, br, lo, so, z2, z3, z5, z6, zj, zt, ow⟩
theorem Iv_hour {C : Ct} {k : Nat} (h : Iv C) (hk : C 0 2 = 0 ∨ C 0 3 + k ≤ C 14 0) : Iv (cu C 0 3 (C 0 3 + k)) := by
  obtain ⟨⟨a1, a2, a3, a4, a5, a6, a7, a8, a9, a10, a11⟩, w1, te, he, pa, sl, br, lo, so, z2, z3, z5, z6, zj, zt, ow⟩ := h
  refine ⟨⟨a1, a2, a3, a4, a5, a6, a7, a8, a9, a10, fun j => ?_⟩, w1, te, he, pa, sl, br, fun p hp => ?_, so, z2, z3, z5, z6, zj, zt, ow⟩
  · show C 9 j ≤ C 0 3 + k + 48
    have := a11 j
    omega
  · show C 0 3 + k ≤ C 14 p
    have hp : p < C 0 2 := hp
    rcases hk with hk | hk
    · omega
    · by_cases e : p = 0
      · subst e; exact hk
      · have := aB_h (so 0 p (by omega) hp)
        omega
theorem Iv_crH {C : Ct} (h : Iv C) (h0 : 0 < C 0 2) : Iv (crH C) := by
  obtain ⟨⟨a1, a2, a3, a4, a5, a6, a7, a8, a9, a10, a11⟩, w1, te, he, pa, sl, br, lo, so, z2, z3, z5, z6, zj, zt, ow⟩ := h
  have e2 : crH C 0 2 = C 0 2 - 1 := rfl
  have e3 : crH C 0 3 = C 14 0 := rfl
  have sh : ∀ p, p < C 0 2 - 1 → crH C 11 p = C 11 (p + 1) ∧ crH C 12 p = C 12 (p + 1) ∧ crH C 13 p = C 13 (p + 1) ∧ crH C 14 p = C 14 (p + 1) := fun p hp => ⟨if_pos (show p + 1 < C 0 2 by omega), if_pos (show p + 1 < C 0 2 by omega), if_pos (show p + 1 < C 0 2 by omega), if_pos (show p + 1 < C 0 2 by omega)⟩
  have l0 := lo 0 h0
  refine ⟨⟨a1, a2, by rw [e2]; omega, a4, a5, a6, a7, a8, a9, fun p hp => ?_, fun j => ?_⟩, w1, te, he, pa, sl, br, fun p hp => ?_, fun p q hp hq => ?_, z2, z3, z5, z6, zj, zt, ow⟩
  · rw [e2] at hp
    obtain ⟨s1, s2, s3, s4⟩ := sh p hp
    rw [s1, s2, s3, s4]
    exact a10 (p + 1) (by omega)
  · rw [e3]
    show C 9 j ≤ _
    have := a11 j
    omega
  · rw [e2] at hp
    rw [e3, (sh p hp).2.2.2]
    exact aB_h (so 0 (p + 1) (by omega) (by omega))
  · rw [e2] at hq
    obtain ⟨s1, s2, s3, s4⟩ := sh p (by omega)
    obtain ⟨r1, r2, r3, r4⟩ := sh q hq
    rw [s1, s2, s4, r1, r2, r4]
    exact so (p + 1) (q + 1) (by omega) (by omega)
theorem Iv_payF {C : Ct} {f w : Nat} (h : Iv C) (hf : f < C 0 0) (hw : w < C 0 0) : Iv (payF C f w) :=
  Iv_gain (Iv_2 h hf (by have := h.1.2.2.2.2.1 f; omega)) hw
theorem sm_sq {F : Nat → Nat} {j0 t0 x n : Nat} (hj : j0 < n) (ht : t0 < 4) : ∀ t, t < 4 → sm (fun j => va_up F (j0 * 4 + t0) (F (j0 * 4 + t0) + x) (j * 4 + t)) n = va_up (fun t => sm (fun j => F (j * 4 + t)) n) t0 (sm (fun j => F (j * 4 + t0)) n + x) t := by
  intro t ht2
  by_cases e : t = t0
  · subst e
    show _ = (if t = t then _ else _)
    rw [if_pos rfl]
    have e1 : (fun j => va_up F (j0 * 4 + t) (F (j0 * 4 + t) + x) (j * 4 + t)) = va_up (fun j => F (j * 4 + t)) j0 (F (j0 * 4 + t) + x) := by
      funext j
      unfold va_up
      by_cases e : j = j0
      · subst e; rw [if_pos rfl, if_pos rfl]
      · rw [if_neg (by omega), if_neg e]
    have h1 := sm_up (fun j => F (j * 4 + t)) (F (j0 * 4 + t) + x) hj
    rw [e1]
    omega
  · show _ = (if t = t0 then _ else _)
    rw [if_neg e]
    exact sm_cong (fun j _ => if_neg (by omega))
theorem Iv_prG {C : Ct} {f j t : Nat} (h : Iv C) (hf : f < C 0 0) (hj : j < C 0 1) (ht : t < 4) : Iv (prG C f j t) := by
  have key : ∀ D : Ct, Iv C → (D = cu (cu (cu C 10 (j * 4 + t) (C 10 (j * 4 + t) + 1)) 5 f (C 5 f + 1)) 18 t (C 18 t + 1)) → Iv D := by
    intro D h e
    subst e
    obtain ⟨⟨a1, a2, a3, a4, a5, a6, a7, a8, a9, a10, a11⟩, w1, te, he, pa, sl, br, lo, so, z2, z3, z5, z6, zj, zt, ow⟩ := h
    refine ⟨⟨a1, a2, a3, a4, a5, a6, a7, a8, a9, a10, a11⟩, w1, ?_, fun t2 ht2 => ?_, pa, sl, br, lo, so, z2, z3, vu (fun i y => C 0 0 ≤ i → y = 0) z5 (fun q => by omega), z6, zj, vu (fun k y => 4 * C 0 1 ≤ k → y = 0) zt (fun q => by omega), ow⟩
    · show sm (va_up (C 5) f (C 5 f + 1)) 6 = sm (va_up (C 18) t (C 18 t + 1)) 4
      have h1 := sm_up (C 5) (C 5 f + 1) (show f < 6 by omega)
      have h2 := sm_up (C 18) (C 18 t + 1) ht
      omega
    · show va_up (C 18) t (C 18 t + 1) t2 = sm (fun j2 => va_up (C 10) (j * 4 + t) (C 10 (j * 4 + t) + 1) (j2 * 4 + t2)) (C 0 1)
      rw [sm_sq hj ht t2 ht2]
      unfold va_up
      by_cases e : t2 = t
      · subst e; rw [if_pos rfl, if_pos rfl, he t2 ht2]
      · rw [if_neg e, if_neg e, he t2 ht2]
  have k1 := key _ h rfl
  unfold prG
  by_cases hl : lau C f j t < 5
  · rw [if_pos hl]
    unfold prf
    rw [if_pos hl]
    have sc : ∀ D : Ct, Iv D → f < D 0 0 → Iv (cu (cu D 6 f (D 6 f + 1)) 17 1 (D 17 1 + 1)) := by
      intro D h hf
      obtain ⟨⟨a1, a2, a3, a4, a5, a6, a7, a8, a9, a10, a11⟩, w1, te, he, pa, sl, br, lo, so, z2, z3, z5, z6, zj, zt, ow⟩ := h
      refine ⟨⟨a1, a2, a3, a4, a5, a6, a7, a8, a9, a10, a11⟩, w1, te, he, pa, ?_, br, lo, so, z2, z3, z5, vu (fun i y => D 0 0 ≤ i → y = 0) z6 (fun q => by omega), zj, zt, ow⟩
      show D 17 1 + 1 = sm (va_up (D 6) f (D 6 f + 1)) 6
      have h1 := sm_up (D 6) (D 6 f + 1) (show f < 6 by omega)
      omega
    have k2 := sc _ k1 hf
    by_cases h4 : C 4 f = 0
    · rw [if_pos h4]
      have k3 := Iv_payU (k := 3) k2 (show f < C 0 0 from hf)
      refine cast (congrArg Iv ?_) k3
      funext g
      by_cases g5 : g = 0
      · subst g5; rfl
      by_cases g5 : g = 2
      · subst g5; rfl
      by_cases g5 : g = 5
      · subst g5; rfl
      by_cases g5 : g = 6
      · subst g5; rfl
      by_cases g5 : g = 10
      · subst g5; rfl
      by_cases g5 : g = 17
      · subst g5; rfl
      by_cases g5 : g = 18
      · subst g5; rfl
      simp only [payU, addT, cu, if_neg, *, not_false_eq_true]
    · rw [if_neg h4]
      have k3 := Iv_4 (f := f) (x := C 4 f - 1) k2 (by have := h.1.2.2.2.2.2.1 f; omega)
      refine cast (congrArg Iv ?_) k3
      funext g
      by_cases g5 : g = 4
      · subst g5; rfl
      by_cases g5 : g = 5
      · subst g5; rfl
      by_cases g5 : g = 6
      · subst g5; rfl
      by_cases g5 : g = 10
      · subst g5; rfl
      by_cases g5 : g = 17
      · subst g5; rfl
      by_cases g5 : g = 18
      · subst g5; rfl
      simp only [addT, cu, if_neg, *, not_false_eq_true]
  · rw [if_neg hl]
    unfold prf
    rw [if_neg hl]
    have sc : ∀ (D : Ct) (x : Nat), Iv D → t < 4 → Iv (cu (cu D 16 t (D 16 t + x)) 17 0 (D 17 0 + x)) := by
      intro D x h ht
      obtain ⟨⟨a1, a2, a3, a4, a5, a6, a7, a8, a9, a10, a11⟩, w1, te, he, pa, sl, br, lo, so, z2, z3, z5, z6, zj, zt, ow⟩ := h
      refine ⟨⟨a1, a2, a3, a4, a5, a6, a7, a8, a9, a10, a11⟩, w1, te, he, ?_, sl, br, lo, so, z2, z3, z5, z6, zj, zt, ow⟩
      show D 17 0 + x = sm (va_up (D 16) t (D 16 t + x)) 4
      have h1 := sm_up (D 16) (D 16 t + x) ht
      omega
    have k2 := sc _ (lau C f j t) k1 ht
    have k3 := Iv_gain (k := lau C f j t) k2 (show f < C 0 0 from hf)
    have k4 := Iv_3 (f := f) (x := C 3 f + (lau C f j t - 11)) k3 (show f < C 0 0 from hf)
    refine cast (congrArg Iv ?_) k4
    funext g
    by_cases g5 : g = 0
    · subst g5; rfl
    by_cases g5 : g = 2
    · subst g5; rfl
    by_cases g5 : g = 3
    · subst g5; rfl
    by_cases g5 : g = 5
    · subst g5; rfl
    by_cases g5 : g = 10
    · subst g5; rfl
    by_cases g5 : g = 16
    · subst g5; rfl
    by_cases g5 : g = 17
    · subst g5; rfl
    by_cases g5 : g = 18
    · subst g5; rfl
    simp only [gain, addT, cu, if_neg, *, not_false_eq_true]
theorem Iv_crG {C : Ct} (h : Iv C) (h0 : 0 < C 0 2) : Iv (crG C) := by
  have k := Iv_crH h h0
  obtain ⟨b1, b2, b3, b4⟩ := h.1.2.2.2.2.2.2.2.2.2.1 0 h0
  unfold crG
  split
  · exact k
  · split
    · rename_i hb
      exact Iv_payF k b1 ((h.2.2.2.2.2.2.2.2.2.2.2.2.2.2.2 (C 12 0)).resolve_left (fun z => by have h1 : crH C 0 3 < C 9 (C 12 0) := hb.1; omega))
    · exact Iv_prG k b1 b2 b3
theorem ins_row {C : Ct} {p0 f j t k : Nat} (hp : p0 ≤ C 0 2) (i : Nat) (hi : i < C 0 2 + 1) : (i < p0 ∧ insF C p0 f j t k 11 i = C 11 i ∧ insF C p0 f j t k 12 i = C 12 i ∧ insF C p0 f j t k 13 i = C 13 i ∧ insF C p0 f j t k 14 i = C 14 i) ∨ (i = p0 ∧ insF C p0 f j t k 11 i = f ∧ insF C p0 f j t k 12 i = j ∧ insF C p0 f j t k 13 i = t ∧ insF C p0 f j t k 14 i = k) ∨ (p0 < i ∧ insF C p0 f j t k 11 i = C 11 (i - 1) ∧ insF C p0 f j t k 12 i = C 12 (i - 1) ∧ insF C p0 f j t k 13 i = C 13 (i - 1) ∧ insF C p0 f j t k 14 i = C 14 (i - 1)) := by
  have sh : ∀ F x, va_up (shr F p0 (C 0 2)) p0 x i = if i = p0 then x else if p0 < i ∧ i ≤ C 0 2 then F (i - 1) else F i := fun F x => rfl
  have e11 : insF C p0 f j t k 11 i = va_up (shr (C 11) p0 (C 0 2)) p0 f i := rfl
  have e12 : insF C p0 f j t k 12 i = va_up (shr (C 12) p0 (C 0 2)) p0 j i := rfl
  have e13 : insF C p0 f j t k 13 i = va_up (shr (C 13) p0 (C 0 2)) p0 t i := rfl
  have e14 : insF C p0 f j t k 14 i = va_up (shr (C 14) p0 (C 0 2)) p0 k i := rfl
  rw [e11, e12, e13, e14, sh, sh, sh, sh]
  rcases Nat.lt_trichotomy i p0 with q | q | q
  · rw [if_neg (by omega), if_neg (by omega), if_neg (by omega), if_neg (by omega), if_neg (by omega), if_neg (by omega), if_neg (by omega), if_neg (by omega)]
    exact Or.inl ⟨q, rfl, rfl, rfl, rfl⟩
  · rw [if_pos q, if_pos q, if_pos q, if_pos q]
    exact Or.inr (Or.inl ⟨q, rfl, rfl, rfl, rfl⟩)
  · rw [if_neg (by omega), if_pos (by omega), if_neg (by omega), if_pos (by omega), if_neg (by omega), if_pos (by omega), if_neg (by omega), if_pos (by omega)]
    exact Or.inr (Or.inr ⟨q, rfl, rfl, rfl, rfl⟩)
/-- where a booking goes: those ahead of it stand before, it is ahead of the others -/
theorem plc_ok {C : Ct} {f j k : Nat} (h : Iv C) (hb : bkF C f k = none) : (∀ p, p < plc C f j k → aB (C 7) (C 14 p) (C 12 p) (C 11 p) k j f) ∧ (∀ p, plc C f j k ≤ p → p < C 0 2 → aB (C 7) k j f (C 14 p) (C 12 p) (C 11 p)) := by
  have so := h.2.2.2.2.2.2.2.2.1
  unfold plc
  cases hq : fs (fun p => !decide (bkA C p f j k)) 0 (C 0 2) with
  | none =>
    refine ⟨fun p hp => ?_, fun p h1 h2 => ?_⟩
    · have hp : p < C 0 2 := hp
      have := fs_no hq p (by omega) (by omega)
      exact bkA_aB.mp (of_decide_eq_true (by simpa using this))
    · have h1 : C 0 2 ≤ p := h1
      omega
  | some r =>
    obtain ⟨r1, r2, r3⟩ := fs_lt hq
    have hr : ¬ aB (C 7) (C 14 r) (C 12 r) (C 11 r) k j f := fun z => by
      have := bkA_aB.mpr z
      simp [this] at r3
    have hne : ∀ p, p < C 0 2 → ¬ (C 14 p = k ∧ C 11 p = f) := fun p hp => by
      have := fs_no hb p (by omega) (by omega)
      rw [decide_eq_false_iff_not] at this
      exact fun z => this ⟨z.2, z.1⟩
    refine ⟨fun p hp => ?_, fun p h1 h2 => ?_⟩
    · have hp : p < r := hp
      have := fs_least hq p (by omega) hp
      exact bkA_aB.mp (of_decide_eq_true (by simpa using this))
    · have h1 : r ≤ p := h1
      have k1 := aB_tot hr (hne r (by omega))
      by_cases e : p = r
      · rw [e]; exact k1
      · exact aB_tr k1 (so r p (by omega) h2)
theorem Iv_insF {C : Ct} {f j t k : Nat} (h : Iv C) (hn : C 0 2 < 10) (hf : f < C 0 0) (hj : j < C 0 1) (ht : t < 4) (hk : k ≤ 99) (hh : C 0 3 ≤ k) (hb : bkF C f k = none) : Iv (insF C (plc C f j k) f j t k) := by
  obtain ⟨q1, q2⟩ := plc_ok (j := j) h hb
  have hp := plc_le (C := C) (f := f) (j := j) (k := k)
  generalize plc C f j k = p0 at q1 q2 hp
  have rw_ := ins_row (C := C) (f := f) (j := j) (t := t) (k := k) hp
  have e2 : insF C p0 f j t k 0 2 = C 0 2 + 1 := rfl
  obtain ⟨⟨a1, a2, a3, a4, a5, a6, a7, a8, a9, a10, a11⟩, w1, te, he, pa, sl, br, lo, so, z2, z3, z5, z6, zj, zt, ow⟩ := h
  refine ⟨⟨a1, a2, by rw [e2]; omega, a4, a5, a6, a7, a8, a9, fun p hp2 => ?_, a11⟩, w1, te, he, pa, sl, br, fun p hp2 => ?_, fun p q hpq hq => ?_, z2, z3, z5, z6, zj, zt, ow⟩
  · rw [e2] at hp2
    show _ < C 0 0 ∧ _ < C 0 1 ∧ _
    rcases rw_ p hp2 with ⟨q, r1, r2, r3, r4⟩ | ⟨q, r1, r2, r3, r4⟩ | ⟨q, r1, r2, r3, r4⟩ <;> rw [r1, r2, r3, r4]
    · exact a10 p (by omega)
    · exact ⟨hf, hj, ht, hk⟩
    · exact a10 (p - 1) (by omega)
  · rw [e2] at hp2
    show C 0 3 ≤ _
    rcases rw_ p hp2 with ⟨q, r1, r2, r3, r4⟩ | ⟨q, r1, r2, r3, r4⟩ | ⟨q, r1, r2, r3, r4⟩ <;> rw [r4]
    · exact lo p (by omega)
    · exact hh
    · exact lo (p - 1) (by omega)
  · rw [e2] at hq
    show aB (C 7) _ _ _ _ _ _
    rcases rw_ p (by omega) with ⟨q9, r1, r2, r3, r4⟩ | ⟨q9, r1, r2, r3, r4⟩ | ⟨q9, r1, r2, r3, r4⟩ <;> rcases rw_ q hq with ⟨q8, s1, s2, s3, s4⟩ | ⟨q8, s1, s2, s3, s4⟩ | ⟨q8, s1, s2, s3, s4⟩ <;> rw [r1, r2, r4, s1, s2, s4]
    · exact so p q hpq (by omega)
    · exact q1 p q9
    · exact so p (q - 1) (by omega) (by omega)
    · omega
    · omega
    · exact q2 (q - 1) (by omega) (by omega)
    · omega
    · omega
    · exact so (p - 1) (q - 1) (by omega) (by omega)
