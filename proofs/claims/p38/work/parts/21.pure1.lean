theorem fs_least {p : Nat → Bool} : ∀ {k i r : Nat}, fs p i k = some r → ∀ x, i ≤ x → x < r → p x = false
  | 0, i, r, h, x, _, _ => by cases h
  | k + 1, i, r, h, x, h1, h2 => by
    rw [fs] at h
    by_cases hp : p i = true
    · rw [if_pos hp] at h
      cases h
      omega
    · rw [if_neg hp] at h
      by_cases hx : x = i
      · subst hx
        exact Bool.not_eq_true _ ▸ hp
      · exact fs_least h x (by omega) h2
theorem fs_no {p : Nat → Bool} : ∀ {k i : Nat}, fs p i k = none → ∀ x, i ≤ x → x < i + k → p x = false
  | 0, i, h, x, h1, h2 => by omega
  | k + 1, i, h, x, h1, h2 => by
    rw [fs] at h
    by_cases hp : p i = true
    · rw [if_pos hp] at h
      cases h
    · rw [if_neg hp] at h
      by_cases hx : x = i
      · subst hx
        exact Bool.not_eq_true _ ▸ hp
      · exact fs_no h x (by omega) (by omega)
theorem cnt_pos {p : Nat → Bool} : ∀ {n : Nat}, 0 < cnt p n → ∃ j, j < n ∧ p j = true
  | 0, h => by rw [cnt] at h; omega
  | n + 1, h => by
    rw [cnt] at h
    by_cases hp : p n = true
    · exact ⟨n, by omega, hp⟩
    · rw [if_neg hp] at h
      obtain ⟨j, h1, h2⟩ := cnt_pos (n := n) (by omega)
      exact ⟨j, by omega, h2⟩
theorem cnt_pos' {p : Nat → Bool} {n j : Nat} (h : j < n) (hp : p j = true) : 0 < cnt p n := by
  have h1 := cnt_mono (p := p) (show j + 1 ≤ n by omega)
  rw [cnt_t hp] at h1
  omega
theorem endF_none {C : Ct} : ∀ {n : Nat}, endF C n = none → ∀ j, j < n → ¬ hold C j
  | 0, _, j, hj => by omega
  | n + 1, h, j, hj => by
    rw [endF] at h
    cases h9 : endF C n with
    | none =>
      rw [h9] at h
      simp only at h
      by_cases hh : hold C n
      · rw [if_pos hh] at h; cases h
      · by_cases e : j = n
        · subst e; exact hh
        · exact endF_none h9 j (by omega)
    | some e =>
      rw [h9] at h
      simp only at h
      split at h <;> cases h
theorem endF_some {C : Ct} : ∀ {n e : Nat}, endF C n = some e → (∃ j, j < n ∧ hold C j ∧ C 9 j = e) ∧ ∀ j, j < n → hold C j → e ≤ C 9 j
  | 0, e, h => by cases h
  | n + 1, e, h => by
    rw [endF] at h
    cases h9 : endF C n with
    | none =>
      rw [h9] at h
      simp only at h
      by_cases hh : hold C n
      · rw [if_pos hh] at h
        cases h
        refine ⟨⟨n, by omega, hh, rfl⟩, fun j hj hj2 => ?_⟩
        by_cases e : j = n
        · subst e; exact Nat.le_refl _
        · exact absurd hj2 (endF_none h9 j (by omega))
      · rw [if_neg hh] at h; cases h
    | some e2 =>
      rw [h9] at h
      simp only at h
      obtain ⟨⟨j2, a1, a2, a3⟩, a4⟩ := endF_some h9
      by_cases hh : hold C n ∧ C 9 n < e2
      · rw [if_pos hh] at h
        cases h
        refine ⟨⟨n, by omega, hh.1, rfl⟩, fun j hj hj2 => ?_⟩
        by_cases e : j = n
        · subst e; exact Nat.le_refl _
        · have := a4 j (by omega) hj2; omega
      · rw [if_neg hh] at h
        have h8 : e2 = e := Option.some.inj h
        refine ⟨⟨j2, by omega, a2, by omega⟩, fun j hj hj2 => ?_⟩
        by_cases q9 : j = n
        · rcases Nat.lt_or_ge (C 9 j) e2 with q | q
          · exact absurd ⟨q9 ▸ hj2, q9 ▸ q⟩ hh
          · omega
        · have := a4 j (by omega) hj2
          omega
/-- both ways of the soonest end -/
theorem ends_eq {C : Ct} (h9 : ∀ j, C 9 j ≤ C 0 3 + 48) : (fs (fun a => decide (0 < cnt (fun z => decide (C 9 z = C 0 3 + a)) (C 0 1))) 1 48).map (fun a => C 0 3 + a) = endF C (C 0 1) := by
  cases hf : fs (fun a => decide (0 < cnt (fun z => decide (C 9 z = C 0 3 + a)) (C 0 1))) 1 48 with
  | none =>
    cases he : endF C (C 0 1) with
    | none => rfl
    | some e =>
      obtain ⟨⟨j, a1, a2, a3⟩, -⟩ := endF_some he
      have h1 : C 0 3 < C 9 j := a2
      have := h9 j
      have h2 := fs_no hf (C 9 j - C 0 3) (by omega) (by omega)
      rw [decide_eq_false_iff_not] at h2
      exact absurd (cnt_pos' a1 (by rw [decide_eq_true_eq]; omega)) h2
  | some r =>
    obtain ⟨r1, r2, r3⟩ := fs_lt hf
    rw [decide_eq_true_eq] at r3
    obtain ⟨j, j1, j2⟩ := cnt_pos r3
    rw [decide_eq_true_eq] at j2
    cases he : endF C (C 0 1) with
    | none => exact absurd (show hold C j by show C 0 3 < C 9 j; omega) (endF_none he j j1)
    | some e =>
      obtain ⟨⟨i, a1, a2, a3⟩, a4⟩ := endF_some he
      have h1 : C 0 3 < C 9 i := a2
      have h2 := a4 j j1 (show C 0 3 < C 9 j by omega)
      rcases Nat.lt_or_ge (C 9 i - C 0 3) r with q | q
      · have h3 := fs_least hf (C 9 i - C 0 3) (by omega) q
        rw [decide_eq_false_iff_not] at h3
        exact absurd (cnt_pos' a1 (by rw [decide_eq_true_eq]; omega)) h3
      · show some (C 0 3 + r) = some e
        congr 1
        omega
/-- s is the best of those with P: the most laughs, of several the lowest joke -/
def opt (C : Ct) (f t : Nat) (P : Nat → Prop) (s : Option Nat × Nat) : Prop := (∀ j, P j → lauN C f j t ≤ s.2) ∧ (s.1 = none → s.2 = 0) ∧ ∀ b, s.1 = some b → P b ∧ lauN C f b t = s.2 ∧ 0 < s.2 ∧ ∀ j, P j → lauN C f j t = s.2 → b ≤ j
theorem opt_eq {C : Ct} {f t : Nat} {P : Nat → Prop} {s r : Option Nat × Nat} (h1 : opt C f t P s) (h2 : opt C f t P r) : s.1 = r.1 := by
  obtain ⟨a1, a2, a3⟩ := h1
  obtain ⟨b1, b2, b3⟩ := h2
  cases hs : s.1 with
  | none =>
    cases hr : r.1 with
    | none => rfl
    | some c =>
      obtain ⟨c1, c2, c3, c4⟩ := b3 c hr
      have := a1 c c1
      have := a2 hs
      omega
  | some b =>
    obtain ⟨d1, d2, d3, d4⟩ := a3 b hs
    cases hr : r.1 with
    | none =>
      have := b1 b d1
      have := b2 hr
      omega
    | some c =>
      obtain ⟨c1, c2, c3, c4⟩ := b3 c hr
      have e1 := a1 c c1
      have e2 := b1 b d1
      have e3 := d4 c c1 (by omega)
      have e4 := c4 b d1 (by omega)
      congr 1
      omega
theorem opt_bJ {C : Ct} {f t : Nat} : ∀ i, opt C f t (fun j => j < i) (bJ C f t i)
  | 0 => ⟨fun j hj => by omega, fun _ => rfl, fun b hb => by cases hb⟩
  | i + 1 => by
    obtain ⟨a1, a2, a3⟩ := opt_bJ (C := C) (f := f) (t := t) i
    rw [bJ]
    by_cases h : (bJ C f t i).2 < lauN C f i t
    · rw [if_pos h]
      refine ⟨fun j hj => ?_, fun z => (by cases z), fun b hb => ?_⟩
      · show lauN C f j t ≤ lauN C f i t
        by_cases e : j = i
        · subst e; exact Nat.le_refl _
        · have := a1 j (by omega); omega
      · cases hb
        refine ⟨Nat.lt_succ_self _, rfl, by show 0 < lauN C f i t; omega, fun j hj hj2 => ?_⟩
        have hj2 : lauN C f j t = lauN C f i t := hj2
        rcases Nat.lt_or_ge j i with q | q
        · have := a1 j q; omega
        · exact q
    · rw [if_neg h]
      refine ⟨fun j hj => ?_, a2, fun b hb => ?_⟩
      · by_cases e : j = i
        · subst e; omega
        · exact a1 j (by omega)
      · obtain ⟨b1, b2, b3, b4⟩ := a3 b hb
        refine ⟨Nat.lt_succ_of_lt b1, b2, b3, fun j hj hj2 => ?_⟩
        by_cases e : j = i
        · subst e; omega
        · exact b4 j (by omega) hj2
theorem opt_bwI {C : Ct} {f t w : Nat} {s : Option Nat × Nat} {n : Nat} (hs : opt C f t (fun j => j < n ∧ w < C 7 j) s) : ∀ i, i ≤ n → opt C f t (fun j => j < n ∧ (w < C 7 j ∨ (C 7 j = w ∧ j < i))) (bwI C f t w i s)
  | 0, _ => ⟨fun j hj => hs.1 j ⟨hj.1, by omega⟩, hs.2.1, fun b hb => ⟨⟨(hs.2.2 b hb).1.1, Or.inl (hs.2.2 b hb).1.2⟩, (hs.2.2 b hb).2.1, (hs.2.2 b hb).2.2.1, fun j hj => (hs.2.2 b hb).2.2.2 j ⟨hj.1, by omega⟩⟩⟩
  | i + 1, hi => by
    obtain ⟨a1, a2, a3⟩ := opt_bwI hs i (by omega)
    rw [bwI]
    generalize hr : bwI C f t w i s = r at a1 a2 a3
    by_cases hw : C 7 i = w
    · by_cases h : r.2 < lauN C f i t ∨ (lauN C f i t = r.2 ∧ ltB i r.1 = true)
      · rw [stp_t (L := lauN C f i t) (if_pos hw) h]
        have hge : r.2 ≤ lauN C f i t := by omega
        refine ⟨fun j hj => ?_, fun z => (by cases z), fun b hb => ?_⟩
        · show lauN C f j t ≤ lauN C f i t
          by_cases e : j = i
          · subst e; exact Nat.le_refl _
          · have := a1 j ⟨hj.1, by omega⟩; omega
        · cases hb
          have hpos : 0 < lauN C f i t := by
            rcases h with h | ⟨h1, h2⟩
            · omega
            · cases hr1 : r.1 with
              | none => rw [hr1] at h2; cases h2
              | some b => have := (a3 b hr1).2.2.1; omega
          refine ⟨⟨by omega, Or.inr ⟨hw, by omega⟩⟩, rfl, hpos, fun j hj hj2 => ?_⟩
          have hj2 : lauN C f j t = lauN C f i t := hj2
          by_cases e : j = i
          · subst e; exact Nat.le_refl _
          · have h3 := a1 j ⟨hj.1, by omega⟩
            rcases h with h | ⟨h1, h2⟩
            · omega
            · cases hr1 : r.1 with
              | none => rw [hr1] at h2; cases h2
              | some b =>
                have h4 := (a3 b hr1).2.2.2 j ⟨hj.1, by omega⟩ (by omega)
                rw [hr1] at h2
                have h5 : i < b := of_decide_eq_true h2
                omega
      · have h1 : lauN C f i t ≤ r.2 := by omega
        rw [stp_f (L := lauN C f i t) (if_pos hw) h1 (fun e => by cases hb : ltB i r.1 with | false => rfl | true => exact absurd (Or.inr ⟨e, hb⟩) h)]
        refine ⟨fun j hj => ?_, a2, fun b hb => ?_⟩
        · by_cases e : j = i
          · subst e; exact h1
          · exact a1 j ⟨hj.1, by omega⟩
        · obtain ⟨b1, b2, b3, b4⟩ := a3 b hb
          refine ⟨⟨b1.1, by omega⟩, b2, b3, fun j hj hj2 => ?_⟩
          by_cases e : j = i
          · subst e
            rcases Nat.lt_or_ge j b with q | q
            · exact absurd (Or.inr ⟨hj2, by rw [hb]; exact decide_eq_true q⟩) h
            · exact q
          · exact b4 j ⟨hj.1, by omega⟩ hj2
    · have h0 : (if C 7 i = w then lauN C f i t else 0) = 0 := if_neg hw
      have e9 : stp C f t w i r = r := stp_f (L := 0) h0 (Nat.zero_le _) (fun e => by
        cases hr1 : r.1 with
        | none => rfl
        | some b => have := (a3 b hr1).2.2.1; omega)
      rw [e9]
      have hx : ∀ j, (w < C 7 j ∨ (C 7 j = w ∧ j < i + 1)) → (w < C 7 j ∨ (C 7 j = w ∧ j < i)) := fun j hj => by
        by_cases q9 : j = i
        · subst q9
          omega
        · omega
      exact ⟨fun j hj => a1 j ⟨hj.1, hx j hj.2⟩, a2, fun b hb => ⟨⟨(a3 b hb).1.1, by have := (a3 b hb).1.2; omega⟩, (a3 b hb).2.1, (a3 b hb).2.2.1, fun j hj => (a3 b hb).2.2.2 j ⟨hj.1, hx j hj.2⟩⟩⟩
theorem lauN_le (C : Ct) (f j t : Nat) : lauN C f j t ≤ C 7 j + C 1 f := by
  unfold lauN lau
  split <;> omega
theorem opt_bwO {C : Ct} {f t : Nat} (h1 : ∀ j, j < C 0 1 → 1 ≤ C 7 j) : ∀ (w : Nat) (s : Option Nat × Nat), opt C f t (fun j => j < C 0 1 ∧ w < C 7 j) s → opt C f t (fun j => j < C 0 1) (bwO C f t w s)
  | 0, s, h => ⟨fun j hj => h.1 j ⟨hj, by have := h1 j hj; omega⟩, h.2.1, fun b hb => ⟨(h.2.2 b hb).1.1, (h.2.2 b hb).2.1, (h.2.2 b hb).2.2.1, fun j hj => (h.2.2 b hb).2.2.2 j ⟨hj, by have := h1 j hj; omega⟩⟩⟩
  | w + 1, s, h => by
    rw [bwO]
    by_cases hc : s.2 ≤ w + 1 + C 1 f
    · rw [if_pos hc]
      refine opt_bwO h1 w _ ?_
      obtain ⟨a1, a2, a3⟩ := opt_bwI h (C 0 1) (Nat.le_refl _)
      exact ⟨fun j hj => a1 j ⟨hj.1, by omega⟩, a2, fun b hb => ⟨⟨(a3 b hb).1.1, by have := (a3 b hb).1.2; omega⟩, (a3 b hb).2.1, (a3 b hb).2.2.1, fun j hj => (a3 b hb).2.2.2 j ⟨hj.1, by omega⟩⟩⟩
    · rw [if_neg hc]
      obtain ⟨a1, a2, a3⟩ := h
      have key : ∀ j, j < C 0 1 → ¬ w + 1 < C 7 j → lauN C f j t < s.2 := fun j _ h2 => by have := lauN_le C f j t; omega
      refine ⟨fun j hj => ?_, a2, fun b hb => ⟨(a3 b hb).1.1, (a3 b hb).2.1, (a3 b hb).2.2.1, fun j hj hj2 => ?_⟩⟩
      · by_cases q : w + 1 < C 7 j
        · exact a1 j ⟨hj, q⟩
        · exact Nat.le_of_lt (key j hj q)
      · by_cases q : w + 1 < C 7 j
        · exact (a3 b hb).2.2.2 j ⟨hj, q⟩ hj2
        · have := key j hj q; omega
/-- both ways of the best joke -/
theorem best_eq {C : Ct} {f t : Nat} (h1 : ∀ j, j < C 0 1 → 1 ≤ C 7 j) (h7 : ∀ j, C 7 j ≤ 9) : (bwO C f t 9 (none, 0)).1 = (bJ C f t (C 0 1)).1 :=
  opt_eq (opt_bwO h1 9 (none, 0) ⟨fun j hj => by have := h7 j; omega, fun _ => rfl, fun b hb => by cases hb⟩) (opt_bJ (C 0 1))
