/-- a line on its way: its signs, how many -/
abbrev Ln : Type := (Nat → Nat) × Nat
def wc (S : Ln) (c : Nat) : Ln := (sb_cat S.1 S.2 (fun _ => c), S.2 + 1)
def wi (S : Ln) (x : Nat) : Ln := (sb_cat S.1 S.2 (sb_dec x), S.2 + sb_dg x)
def lrel (Y : Nat → Nat) (S : Ln) : Prop := ∀ i, i < S.2 → Y i = S.1 i
theorem lrel_c {Y : Nat → Nat} {S : Ln} {c : Nat} (h : lrel Y S) : lrel (va_up Y S.2 c) (wc S c) := by
  intro i hi
  have hi : i < S.2 + 1 := hi
  show va_up Y S.2 c i = (if i < S.2 then S.1 i else c)
  unfold va_up
  by_cases e : i = S.2
  · rw [if_pos e, if_neg (by omega)]
  · rw [if_neg e, if_pos (by omega)]
    exact h i (by omega)
theorem dg_of {x i : Nat} (hx : x < 2 ^ 28) (hi : i ≤ 9) (h1 : i = 0 ∨ 10 ^ i ≤ x) (h2 : x / 10 ^ i < 10) : sb_dg x = i + 1 := by
  unfold sb_dg
  obtain rfl | rfl | rfl | rfl | rfl | rfl | rfl | rfl | rfl | rfl := (by omega : i = 0 ∨ i = 1 ∨ i = 2 ∨ i = 3 ∨ i = 4 ∨ i = 5 ∨ i = 6 ∨ i = 7 ∨ i = 8 ∨ i = 9) <;> ((repeat (first | rw [if_pos (by omega)] | rw [if_neg (by omega)])); try omega)
theorem dg1 {x : Nat} (h : x < 10) : sb_dg x = 1 := by
  unfold sb_dg
  rw [if_pos h]
theorem dg2 {x : Nat} (h : x < 100) : sb_dg x ≤ 2 := by
  unfold sb_dg
  by_cases q : x < 10
  · rw [if_pos q]; decide
  · rw [if_neg q, if_pos h]; first | done | decide
def tpw (d i : Nat) : Nat := if i < d then 10 ^ (d - 1 - i) else 0
theorem tpw_s {d i : Nat} (h : i < d) : tpw d i / 10 = tpw d (i + 1) := by
  unfold tpw
  rw [if_pos h]
  by_cases q : i + 1 < d
  · rw [if_pos q, show d - 1 - i = (d - 1 - (i + 1)) + 1 by omega, Nat.pow_succ, Nat.mul_div_cancel _ (by decide)]
  · rw [if_neg q, show d - 1 - i = 0 by omega]
theorem tpw_p {d i : Nat} (h : i < d) : 0 < tpw d i := by
  unfold tpw
  rw [if_pos h]
  exact Nat.pow_pos (by decide)
theorem tpw_b {d i : Nat} (h : d ≤ 10) : tpw d i < 2 ^ 31 := by
  unfold tpw
  split
  · exact Nat.lt_of_le_of_lt (Nat.pow_le_pow_right (by decide) (show d - 1 - i ≤ 9 by omega)) (by decide)
  · decide
theorem wi_at {S : Ln} {x i : Nat} (hi : i < sb_dg x) : (wi S x).1 (S.2 + i) = 48 + x / tpw (sb_dg x) i % 10 := by
  show sb_cat S.1 S.2 (sb_dec x) (S.2 + i) = _
  rw [sb_cat_hi]
  unfold tpw
  rw [if_pos hi]
  rfl
def plS : Nat → Ln → Ln
  | 0, S => S
  | k + 1, S => wc (plS k S) 43
def tellL (C : Ct) (f : Nat) (S : Ln) : Ln := plS (C 4 f) (if 0 < C 3 f then wi (wc (wi (wc (wi (wc (wi S f) 115) (C 1 f)) 36) (C 2 f)) 126) (C 3 f) else wi (wc (wi (wc (wi S f) 115) (C 1 f)) 36) (C 2 f))
def bkL (C : Ct) (S : Ln) : Nat → Ln
  | 0 => S
  | i + 1 => wi (wc (wi (wc (wi (wc (wi (if 0 < i then wc (bkL C S i) 32 else bkL C S i) (C 11 i)) 58) (C 12 i)) 64) (C 13 i)) 61) (C 14 i)
theorem plS_2 : ∀ (k : Nat) (S : Ln), (plS k S).2 = S.2 + k
  | 0, _ => rfl
  | k + 1, S => by
    show (plS k S).2 + 1 = _
    rw [plS_2 k S]
    omega
