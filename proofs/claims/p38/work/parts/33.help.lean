theorem cu_at {C : Ct} {g j x a b : Nat} : cu C g j x a b = if a = g ∧ b = j then x else C a b := by
  show (if a = g then va_up (C g) j x else C a) b = _
  by_cases h : a = g
  · subst h
    rw [if_pos rfl]
    unfold va_up
    by_cases h2 : b = j
    · rw [if_pos h2, if_pos ⟨rfl, h2⟩]
    · rw [if_neg h2, if_neg (fun z => h2 z.2)]
  · rw [if_neg h, if_neg (fun z => h z.1)]
theorem ct_ext {C D : Ct} (h : ∀ a b, C a b = D a b) : C = D := funext fun a => funext fun b => h a b
theorem yes_rg {x a b : Int32} (h : ¬ x < a ∧ ¬ b < x) : ¬ x < a ∧ x ≤ b := ⟨h.1, Int32.not_lt.mp h.2⟩
theorem not_rg {x a b : Int32} (h : ¬ (¬ x < a ∧ ¬ b < x)) : x < a ∨ (¬ x < a ∧ ¬ x ≤ b) := by
  by_cases q : x < a
  · exact Or.inl q
  · exact Or.inr ⟨q, fun z => h ⟨q, Int32.not_lt.mpr z⟩⟩
theorem sub_eq0 {x y : Nat} (hx : x < 2 ^ 30) (hy : y < 2 ^ 30) : nI x - nI y = 0 ↔ x = y := by
  have h1 := pk_sub_toInt hx hy
  rw [← Int32.toInt_inj, h1]
  show (x : Int) - y = 0 ↔ _
  omega
theorem sub_gt0 {x y : Nat} (hx : x < 2 ^ 30) (hy : y < 2 ^ 30) : 0 < nI x - nI y ↔ y < x := by
  have h1 := pk_sub_toInt hx hy
  rw [Int32.lt_iff_toInt_lt, h1]
  show (0 : Int) < (x : Int) - y ↔ _
  omega
theorem sub_lt0 {x y : Nat} (hx : x < 2 ^ 30) (hy : y < 2 ^ 30) : nI x - nI y < 0 ↔ x < y := by
  have h1 := pk_sub_toInt hx hy
  rw [Int32.lt_iff_toInt_lt, h1]
  show (x : Int) - y < 0 ↔ _
  omega
theorem sub_ge0 {x y : Nat} (hx : x < 2 ^ 30) (hy : y < 2 ^ 30) : 0 ≤ nI x - nI y ↔ y ≤ x := by
  have h1 := pk_sub_toInt hx hy
  rw [Int32.le_iff_toInt_le, h1]
  show (0 : Int) ≤ (x : Int) - y ↔ _
  omega
theorem sub_le0 {x y : Nat} (hx : x < 2 ^ 30) (hy : y < 2 ^ 30) : nI x - nI y ≤ 0 ↔ x ≤ y := by
  have h1 := pk_sub_toInt hx hy
  rw [Int32.le_iff_toInt_le, h1]
  show (x : Int) - y ≤ 0 ↔ _
  omega
theorem gain_le {C : Ct} {f k : Nat} (h : C 2 f + k ≤ 99) : gain C f k = cu C 2 f (C 2 f + k) := by
  have e : kept C f k = k := Nat.min_eq_left (by omega)
  refine ct_ext fun a b => ?_
  unfold gain
  rw [e, cu_at]
  by_cases h1 : a = 0 ∧ b = 6
  · obtain ⟨rfl, rfl⟩ := h1
    rw [if_pos ⟨rfl, rfl⟩, cu_at, if_neg (by omega)]
    omega
  · rw [if_neg h1]
theorem gain_gt {C : Ct} {f k : Nat} (h : 99 < C 2 f + k) (h9 : C 2 f ≤ 99) : gain C f k = cu (cu (cu C 2 f (C 2 f + k)) 2 f 99) 0 6 (C 0 6 + (C 2 f + k - 99)) := by
  have e : kept C f k = 99 - C 2 f := Nat.min_eq_right (by omega)
  refine ct_ext fun a b => ?_
  unfold gain
  rw [e, cu_at, cu_at, cu_at, cu_at, cu_at]
  by_cases h1 : a = 0 ∧ b = 6
  · rw [if_pos h1, if_pos h1]; omega
  · rw [if_neg h1, if_neg h1]
    by_cases h2 : a = 2 ∧ b = f
    · rw [if_pos h2, if_pos h2]; omega
    · rw [if_neg h2, if_neg h2, if_neg h2]
theorem bdk_crH {b : Nat} {C : Ct} (h : bdk b C) : bdk (b + 300) (crH C) := by
  have h2 := h 14 0
  have h3 := h 0 7
  have a1 : bdk (b + 100) (cu C 0 3 (C 14 0)) := bdk_cu h (by omega) (by omega)
  have a2 : bdk (b + 200) (rmF (cu C 0 3 (C 14 0))) := bdk_rmF a1 (Nat.le_refl _)
  exact bdk_cu a2 (by omega) (by omega)
theorem bdk_prG {b c f j t : Nat} {C : Ct} (h : bdk b C) (hc : b + 2000 ≤ c) (hl : lau C f j t ≤ 100) : bdk c (prG C f j t) := by
  have g1 := h 18 t
  have g2 := h 17 1
  have g3 := h 17 0
  have a4 : bdk (b + 1300) (prf C f j t) := bdk_prf h (by omega) hl
  have a5 : bdk (b + 1400) (cu (prf C f j t) 18 t (C 18 t + 1)) := bdk_cu a4 (by omega) (by omega)
  unfold prG
  split
  · exact bdk_cu a5 (by omega) (by omega)
  · exact bdk_cu a5 (by omega) (by omega)
def cpL (f g : Nat → Nat) (k i : Nat) : Nat := if i < k then f i else g i
theorem cpL_0 {f g : Nat → Nat} (i : Nat) : g i = cpL f g 0 i := (if_neg (by omega)).symm
theorem cpL_s {f g : Nat → Nat} {k : Nat} (i : Nat) : va_up (cpL f g k) k (f k) i = cpL f g (k + 1) i := by
  unfold va_up cpL
  by_cases h : i = k
  · subst h; rw [if_pos rfl, if_pos (show i < i + 1 by omega)]
  · rw [if_neg h]
    by_cases h2 : i < k
    · rw [if_pos h2, if_pos (show i < k + 1 by omega)]
    · rw [if_neg h2, if_neg (by omega)]
theorem cpL_e {f g : Nat → Nat} {k i : Nat} (h : i < k) : cpL f g k i = f i := if_pos h
theorem bI_iff {p q : Prop} [Decidable p] [Decidable q] (h : p ↔ q) : bI p = bI q := by
  unfold bI
  by_cases z : p
  · rw [if_pos z, if_pos (h.mp z)]
  · rw [if_neg z, if_neg (fun y => z (h.mpr y))]
theorem rg_ixb {x : Int32} {c : Nat} (hc : c < 2 ^ 30) : (¬ x < nI 0 ∧ ¬ (nI c - nI 1) < x) ↔ ixb x c = true := by
  have h1 : (nI c - nI 1).toInt = ((c : Nat) : Int) - ((1 : Nat) : Int) := pk_sub_toInt hc (by decide)
  rw [ixb_iff]
  unfold ix
  rw [i_ltN (by decide), Int32.lt_iff_toInt_lt, h1]
  omega
theorem out_rg {x : Int32} {k b : Nat} (h : ¬ ixb x k = true) (hb : b < k) (hk : k < 2 ^ 30) : ¬ (¬ x < nI 0 ∧ ¬ nI b < x) := fun z => h (by
  rw [ixb_iff]
  unfold ix
  rw [i_ltN (by decide), i_gtN (by omega)] at z
  omega)
theorem out_ne {x : Int32} {k j : Nat} (h : ¬ ixb x k = true) (hj : j < k) (hk : k < 2 ^ 30) : x ≠ nI j := fun z => h (by
  rw [z, ixb_iff]
  unfold ix
  rw [nI_toInt (by omega)]
  omega)
theorem sm_tail {F : Nat → Nat} {n : Nat} (h : ∀ i, n ≤ i → F i = 0) : ∀ {N : Nat}, n ≤ N → sm F N = sm F n
  | 0, hN => by rw [show n = 0 by omega]
  | N + 1, hN => by
    by_cases e : n = N + 1
    · rw [e]
    · rw [sm, sm_tail h (N := N) (by omega), h N (by omega)]
      rfl
theorem crR_bd {X : Ct} (hB : bd X) : crR X < 2 ^ 31 := by
  unfold crR
  split
  · decide
  · split
    · decide
    · exact lau_bd hB _ _ _
def fcit : Nat → Ct → Ct
  | 0, C => C
  | k + 1, C => crG (fcit k C)
theorem fcit_c : ∀ (k : Nat) (C : Ct), fcit k (crG C) = crG (fcit k C)
  | 0, _ => rfl
  | k + 1, C => congrArg crG (fcit_c k C)
theorem fcast_it : ∀ (k : Nat) (C : Ct), fcast k C = fcit k C
  | 0, _ => rfl
  | k + 1, C => (fcast_it k (crG C)).trans (fcit_c k C)
def qAccN (C : Ct) (tn cc : Nat) : Nat → Int32
  | 0 => nI (C 0 0)
  | 1 => nI (C 0 1)
  | 2 => nI (C 0 2)
  | 3 => nI (C 0 3)
  | 4 => nI (sm (C 2) 6)
  | 5 => nI (C 0 4)
  | 6 => nI (sm (C 16) 4)
  | 7 => nI (C 0 5)
  | 8 => nI (C 0 6)
  | 9 => nI (sm (C 3) 6)
  | 10 => nI (C 0 7)
  | 11 => nI (sm (C 6) 6)
  | 12 => nI (pat C)
  | 13 => nI tn
  | _ => nI cc
def qAcc (C : Ct) (tn cc : Nat) (w : Int32) : Int32 := if ixb w 15 = true then qAccN C tn cc w.toNatClampNeg else -1012
theorem tlS_bd30 {C : Ct} (hB : bd C) (j : Nat) : tlS C j < 2 ^ 30 + 1 := by
  have := sm_le (f := fun t => C 10 (j * 4 + t)) (b := 2 ^ 28) (n := 4) (fun k _ => Nat.le_of_lt (hB 10 _))
  unfold tlS
  omega
theorem tlS_b {b : Nat} {C : Ct} (hK : bdk b C) (hb : b ≤ 2 ^ 27) (j : Nat) : tlS C j < 2 ^ 30 := by
  have := sm_le (f := fun t => C 10 (j * 4 + t)) (b := 2 ^ 27) (n := 4) (fun k _ => Nat.le_of_lt (Nat.lt_of_lt_of_le (hK 10 _) hb))
  unfold tlS
  omega
