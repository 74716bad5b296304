theorem ixb_t {x k : Nat} (h : x < k) (hk : k < 2 ^ 31) : ixb (nI x) k = true := by rw [ix_nI (by omega)]; exact decide_eq_true h
theorem ixb_f {x k : Nat} (h : k ≤ x) (hx : x < 2 ^ 31) : ¬ ixb (nI x) k = true := by
  rw [ix_nI hx]
  intro z
  have := of_decide_eq_true z
  omega
theorem cl_n {x : Nat} (h : x < 2 ^ 31) : (nI x).toNatClampNeg = x := nI_clamp h
theorem qFool_at {C : Ct} {f w : Nat} (hf : f < C 0 0) (hn : C 0 0 ≤ 6) (hw : w < 8) : qFool C (nI f) (nI w) = qFoolN C f w := by
  unfold qFool
  rw [if_pos (ixb_t hf (by omega)), if_pos (ixb_t hw (by decide)), cl_n (by omega), cl_n (by omega)]
theorem qJoke_at {C : Ct} {j w : Nat} (hj : j < C 0 1) (hn : C 0 1 ≤ 12) (hw : w < 5) : qJoke C (nI j) (nI w) = qJokeN C j w := by
  unfold qJoke
  rw [if_pos (ixb_t hj (by omega)), if_pos (ixb_t hw (by decide)), cl_n (by omega), cl_n (by omega)]
theorem qJoke_no {C : Ct} {x : Int32} (hn : C 0 1 ≤ 12) : qJoke C (nI (C 0 1)) x = -1011 := if_neg (ixb_f (Nat.le_refl _) (by omega))
theorem qThr_at {C : Ct} {t w : Nat} (ht : t < 4) (hw : w < 4) : qThr C (nI t) (nI w) = qThrN C t w := by
  unfold qThr
  rw [if_pos (ixb_t ht (by decide)), if_pos (ixb_t hw (by decide)), cl_n (by omega), cl_n (by omega)]
theorem qThr_no {C : Ct} {x : Int32} : qThr C (nI 4) x = -1011 := if_neg (ixb_f (Nat.le_refl _) (by decide))
theorem qTold_at {C : Ct} {j t : Nat} (hj : j < C 0 1) (hn : C 0 1 ≤ 12) (ht : t < 4) : qTold C (nI j) (nI t) = nI (C 10 (j * 4 + t)) := by
  unfold qTold
  rw [if_pos (ixb_t hj (by omega)), if_pos (ixb_t ht (by decide)), cl_n (by omega), cl_n (by omega)]
theorem qBk_at {C : Ct} {p w : Nat} (hp : p < C 0 2) (hn : C 0 2 ≤ 10) (hw : w < 4) : qBk C (nI p) (nI w) = qBkN C p w := by
  unfold qBk
  rw [if_pos (ixb_t hp (by omega)), if_pos (ixb_t hw (by decide)), cl_n (by omega), cl_n (by omega)]
theorem qBk_no {C : Ct} {x : Int32} (hn : C 0 2 ≤ 10) : qBk C (nI (C 0 2)) x = -1011 := if_neg (ixb_f (Nat.le_refl _) (by omega))
theorem qWould_at {C : Ct} {f j t : Nat} (hf : f < C 0 0) (hn : C 0 0 ≤ 6) (hj : j < C 0 1) (hm : C 0 1 ≤ 12) (ht : t < 4) : qWould C (nI f) (nI j) (nI t) = nI (lauN C f j t) := by
  unfold qWould
  rw [if_pos (ixb_t hf (by omega)), if_pos (ixb_t hj (by omega)), if_pos (ixb_t ht (by decide)), cl_n (by omega), cl_n (by omega), cl_n (by omega)]
theorem qWould_no {C : Ct} {x y : Int32} (hm : C 0 1 ≤ 12) : qWould C x (nI (C 0 1)) y = -1011 := by
  unfold qWould
  split
  · exact if_neg (ixb_f (Nat.le_refl _) (by omega))
  · rfl
theorem qBest_at {C : Ct} {f t : Nat} (hf : f < C 0 0) (hn : C 0 0 ≤ 6) (ht : t < 4) : qBest C (nI f) (nI t) = oN (-1015) (bJ C f t (C 0 1)).1 := by
  unfold qBest
  rw [if_pos (ixb_t hf (by omega)), if_pos (ixb_t ht (by decide)), cl_n (by omega), cl_n (by omega)]
theorem qBest_no {C : Ct} {x : Int32} (hn : C 0 0 ≤ 6) : qBest C (nI (C 0 0)) x = -1011 := if_neg (ixb_f (Nat.le_refl _) (by omega))
theorem qBest2_at {C : Ct} {f t : Nat} (hI : Iv C) (hf : f < C 0 0) (hn : C 0 0 ≤ 6) (ht : t < 4) : qBest2 C (nI f) (nI t) = oN (-1015) (bJ C f t (C 0 1)).1 := by
  unfold qBest2
  rw [if_pos (ixb_t hf (by omega)), if_pos (ixb_t ht (by decide)), cl_n (by omega), cl_n (by omega), best_eq hI.2.1 hI.1.2.2.2.2.2.2.1]
/-- accounts -/
def acN (C : Ct) (T : Hs) : Nat → Nat
  | 0 => C 0 0
  | 1 => C 0 1
  | 2 => C 0 2
  | 3 => C 0 3
  | 4 => sm (C 2) 6
  | 5 => C 0 4
  | 6 => sm (C 16) 4
  | 7 => C 0 5
  | 8 => C 0 6
  | 9 => sm (C 3) 6
  | 10 => C 0 7
  | 11 => sm (C 6) 6
  | 12 => pat C
  | 13 => 0
  | _ => T.1
theorem qAcc_at {C : Ct} {T : Hs} {w : Nat} (hw : w < 15) : qAcc C 0 T.1 (nI w) = nI (acN C T w) := by
  unfold qAcc
  rw [if_pos (ixb_t hw (by decide)), cl_n (by omega)]
  obtain rfl | rfl | rfl | rfl | rfl | rfl | rfl | rfl | rfl | rfl | rfl | rfl | rfl | rfl | rfl := (by omega : w = 0 ∨ w = 1 ∨ w = 2 ∨ w = 3 ∨ w = 4 ∨ w = 5 ∨ w = 6 ∨ w = 7 ∨ w = 8 ∨ w = 9 ∨ w = 10 ∨ w = 11 ∨ w = 12 ∨ w = 13 ∨ w = 14) <;> rfl
theorem qAcc_no {C : Ct} {T : Hs} : qAcc C 0 T.1 (nI 15) = -1012 := if_neg (ixb_f (Nat.le_refl _) (by decide))
theorem sm_b {b n : Nat} {F : Nat → Nat} (h : ∀ i, F i < b) (hb : b + 100000 ≤ 2 ^ 24) (hn : n ≤ 12) : sm F n < 2 ^ 28 := by
  have h1 := sm_le (f := F) (b := b) (n := n) (fun k _ => Nat.le_of_lt (h k))
  have h2 : n * b ≤ 12 * b := Nat.mul_le_mul_right b hn
  omega
theorem acN_b {b w : Nat} {C : Ct} {T : Hs} (g : gd b C) (hT : T.1 ≤ 8) : acN C T w < 2 ^ 28 := by
  have k := g.2.1
  have hb := g.2.2.2
  have hp : pat C ≤ C 0 1 := cnt_le _ _
  have k1 := k 0 1
  unfold acN
  split
  · have := k 0 0; omega
  · omega
  · have := k 0 2; omega
  · have := k 0 3; omega
  · exact sm_b (k 2) hb (by decide)
  · have := k 0 4; omega
  · exact sm_b (k 16) hb (by decide)
  · have := k 0 5; omega
  · have := k 0 6; omega
  · exact sm_b (k 3) hb (by decide)
  · have := k 0 7; omega
  · exact sm_b (k 6) hb (by decide)
  · omega
  · omega
  · omega
/-- thrones' numbers, as a told court writes them -/
def thN (C : Ct) (t w : Nat) : Nat := if w = 0 then C 15 t else if w = 1 then sm (fun j => C 10 (j * 4 + t)) (C 0 1) else C 16 t
theorem thN_at {C : Ct} {t w : Nat} (ht : t < 4) (hw : w < 3) : qThr C (nI t) (nI w) = nI (thN C t w) := by
  rw [qThr_at ht (by omega)]
  obtain rfl | rfl | rfl := (by omega : w = 0 ∨ w = 1 ∨ w = 2) <;> rfl
theorem thN_b {b t w : Nat} {C : Ct} (g : gd b C) : thN C t w < 2 ^ 28 := by
  have k := g.2.1
  have hb := g.2.2.2
  unfold thN
  split
  · have := k 15 t; omega
  · split
    · exact sm_b (fun i => k 10 _) hb g.1.1.1.2.1
    · have := k 16 t; omega
theorem C_b {b x y : Nat} {C : Ct} (g : gd b C) : C x y < 2 ^ 28 := by
  have := g.2.1 x y
  have := g.2.2.2
  omega
theorem tlS_bb {b j : Nat} {C : Ct} (g : gd b C) : tlS C j < 2 ^ 28 := sm_b (fun i => g.2.1 10 _) g.2.2.2 (by decide)
