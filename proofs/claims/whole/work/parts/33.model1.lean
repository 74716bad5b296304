/-- where the model's row keeps a court's numbers -/
def lg (i : Nat) : Nat := if i < 10 then (if i = 4 then 17 else if i = 8 then 17 else 0) else if i < 46 then 1 + (i - 10) % 6 else if i < 82 then 7 + (i - 46) % 3 else if i < 94 then (if (i - 82) % 3 = 0 then 15 else if (i - 82) % 3 = 1 then 18 else 16) else if i < 142 then 10 else 11 + (i - 142) % 4
def lj (i : Nat) : Nat := if i < 10 then (if i = 4 then 0 else if i = 8 then 1 else i) else if i < 46 then (i - 10) / 6 else if i < 82 then (i - 46) / 3 else if i < 94 then (i - 82) / 3 else if i < 142 then i - 94 else (i - 142) / 4
def vO (C : Ct) (i : Nat) : Nat := if i < 142 ∨ (i - 142) / 4 < C 0 2 then C (lg i) (lj i) else 0
theorem lgj (i : Nat) : ((i < 10 ∧ i ≠ 4 ∧ i ≠ 8) ∧ lg i = 0 ∧ lj i = i) ∨ ((i = 4) ∧ lg i = 17 ∧ lj i = 0) ∨ ((i = 8) ∧ lg i = 17 ∧ lj i = 1) ∨ ((10 ≤ i ∧ i < 46) ∧ lg i = 1 + (i - 10) % 6 ∧ lj i = (i - 10) / 6) ∨ ((46 ≤ i ∧ i < 82) ∧ lg i = 7 + (i - 46) % 3 ∧ lj i = (i - 46) / 3) ∨ ((82 ≤ i ∧ i < 94 ∧ (i - 82) % 3 = 0) ∧ lg i = 15 ∧ lj i = (i - 82) / 3) ∨ ((82 ≤ i ∧ i < 94 ∧ (i - 82) % 3 = 1) ∧ lg i = 18 ∧ lj i = (i - 82) / 3) ∨ ((82 ≤ i ∧ i < 94 ∧ (i - 82) % 3 = 2) ∧ lg i = 16 ∧ lj i = (i - 82) / 3) ∨ ((94 ≤ i ∧ i < 142) ∧ lg i = 10 ∧ lj i = i - 94) ∨ ((142 ≤ i) ∧ lg i = 11 + (i - 142) % 4 ∧ lj i = (i - 142) / 4) := by
  rcases (by omega : (i < 10 ∧ i ≠ 4 ∧ i ≠ 8) ∨ (i = 4) ∨ (i = 8) ∨ (10 ≤ i ∧ i < 46) ∨ (46 ≤ i ∧ i < 82) ∨ (82 ≤ i ∧ i < 94 ∧ (i - 82) % 3 = 0) ∨ (82 ≤ i ∧ i < 94 ∧ (i - 82) % 3 = 1) ∨ (82 ≤ i ∧ i < 94 ∧ (i - 82) % 3 = 2) ∨ (94 ≤ i ∧ i < 142) ∨ (142 ≤ i)) with h | h | h | h | h | h | h | h | h | h
  · have e1 : lg i = 0 := by unfold lg; (repeat (first | rw [if_pos (by omega)] | rw [if_neg (by omega)]))
    have e2 : lj i = i := by unfold lj; (repeat (first | rw [if_pos (by omega)] | rw [if_neg (by omega)]))
    exact Or.inl ⟨h, e1, e2⟩
  · have e1 : lg i = 17 := by unfold lg; (repeat (first | rw [if_pos (by omega)] | rw [if_neg (by omega)]))
    have e2 : lj i = 0 := by unfold lj; (repeat (first | rw [if_pos (by omega)] | rw [if_neg (by omega)])); all_goals omega
    exact Or.inr (Or.inl ⟨h, e1, e2⟩)
  · have e1 : lg i = 17 := by unfold lg; (repeat (first | rw [if_pos (by omega)] | rw [if_neg (by omega)]))
    have e2 : lj i = 1 := by unfold lj; (repeat (first | rw [if_pos (by omega)] | rw [if_neg (by omega)])); all_goals omega
    exact Or.inr (Or.inr (Or.inl ⟨h, e1, e2⟩))
  · have e1 : lg i = 1 + (i - 10) % 6 := by unfold lg; (repeat (first | rw [if_pos (by omega)] | rw [if_neg (by omega)]))
    have e2 : lj i = (i - 10) / 6 := by unfold lj; (repeat (first | rw [if_pos (by omega)] | rw [if_neg (by omega)]))
    exact Or.inr (Or.inr (Or.inr (Or.inl ⟨h, e1, e2⟩)))
  · have e1 : lg i = 7 + (i - 46) % 3 := by unfold lg; (repeat (first | rw [if_pos (by omega)] | rw [if_neg (by omega)]))
    have e2 : lj i = (i - 46) / 3 := by unfold lj; (repeat (first | rw [if_pos (by omega)] | rw [if_neg (by omega)]))
    exact Or.inr (Or.inr (Or.inr (Or.inr (Or.inl ⟨h, e1, e2⟩))))
  · have e1 : lg i = 15 := by unfold lg; (repeat (first | rw [if_pos (by omega)] | rw [if_neg (by omega)]))
    have e2 : lj i = (i - 82) / 3 := by unfold lj; (repeat (first | rw [if_pos (by omega)] | rw [if_neg (by omega)]))
    exact Or.inr (Or.inr (Or.inr (Or.inr (Or.inr (Or.inl ⟨h, e1, e2⟩)))))
  · have e1 : lg i = 18 := by unfold lg; (repeat (first | rw [if_pos (by omega)] | rw [if_neg (by omega)]))
    have e2 : lj i = (i - 82) / 3 := by unfold lj; (repeat (first | rw [if_pos (by omega)] | rw [if_neg (by omega)]))
    exact Or.inr (Or.inr (Or.inr (Or.inr (Or.inr (Or.inr (Or.inl ⟨h, e1, e2⟩))))))
  · have e1 : lg i = 16 := by unfold lg; (repeat (first | rw [if_pos (by omega)] | rw [if_neg (by omega)]))
    have e2 : lj i = (i - 82) / 3 := by unfold lj; (repeat (first | rw [if_pos (by omega)] | rw [if_neg (by omega)]))
    exact Or.inr (Or.inr (Or.inr (Or.inr (Or.inr (Or.inr (Or.inr (Or.inl ⟨h, e1, e2⟩)))))))
  · have e1 : lg i = 10 := by unfold lg; (repeat (first | rw [if_pos (by omega)] | rw [if_neg (by omega)]))
    have e2 : lj i = i - 94 := by unfold lj; (repeat (first | rw [if_pos (by omega)] | rw [if_neg (by omega)]))
    exact Or.inr (Or.inr (Or.inr (Or.inr (Or.inr (Or.inr (Or.inr (Or.inr (Or.inl ⟨h, e1, e2⟩))))))))
  · have e1 : lg i = 11 + (i - 142) % 4 := by unfold lg; (repeat (first | rw [if_pos (by omega)] | rw [if_neg (by omega)]))
    have e2 : lj i = (i - 142) / 4 := by unfold lj; (repeat (first | rw [if_pos (by omega)] | rw [if_neg (by omega)]))
    exact Or.inr (Or.inr (Or.inr (Or.inr (Or.inr (Or.inr (Or.inr (Or.inr (Or.inr (⟨h, e1, e2⟩)))))))))
def linv (g j : Nat) : Nat := if g = 0 then j else if g = 17 then (if j = 0 then 4 else 8) else if g < 7 then 10 + 6 * j + (g - 1) else if g < 10 then 46 + 3 * j + (g - 7) else if g = 15 then 82 + 3 * j else if g = 18 then 83 + 3 * j else if g = 16 then 84 + 3 * j else if g = 10 then 94 + j else 142 + 4 * j + (g - 11)
theorem linv_lg (i : Nat) : linv (lg i) (lj i) = i := by
  rcases lgj i with ⟨h, e1, e2⟩ | ⟨h, e1, e2⟩ | ⟨h, e1, e2⟩ | ⟨h, e1, e2⟩ | ⟨h, e1, e2⟩ | ⟨h, e1, e2⟩ | ⟨h, e1, e2⟩ | ⟨h, e1, e2⟩ | ⟨h, e1, e2⟩ | ⟨h, e1, e2⟩ <;> rw [e1, e2] <;> unfold linv
  · (repeat (first | rw [if_pos (by omega)] | rw [if_neg (by omega)])); all_goals omega
  · (repeat (first | rw [if_pos (by omega)] | rw [if_neg (by omega)])); all_goals omega
  · (repeat (first | rw [if_pos (by omega)] | rw [if_neg (by omega)])); all_goals omega
  · (repeat (first | rw [if_pos (by omega)] | rw [if_neg (by omega)])); all_goals omega
  · (repeat (first | rw [if_pos (by omega)] | rw [if_neg (by omega)])); all_goals omega
  · (repeat (first | rw [if_pos (by omega)] | rw [if_neg (by omega)])); all_goals omega
  · (repeat (first | rw [if_pos (by omega)] | rw [if_neg (by omega)])); all_goals omega
  · (repeat (first | rw [if_pos (by omega)] | rw [if_neg (by omega)])); all_goals omega
  · (repeat (first | rw [if_pos (by omega)] | rw [if_neg (by omega)])); all_goals omega
  · (repeat (first | rw [if_pos (by omega)] | rw [if_neg (by omega)])); all_goals omega
theorem lgF {f w : Nat} (hf : f < 6) (hw : w < 6) : lg (10 + 6 * f + w) = 1 + w ∧ lj (10 + 6 * f + w) = f := by
  unfold lg lj
  (repeat (first | rw [if_pos (by omega)] | rw [if_neg (by omega)]))
  omega
theorem lgJ {f w : Nat} (hf : f < 12) (hw : w < 3) : lg (46 + 3 * f + w) = 7 + w ∧ lj (46 + 3 * f + w) = f := by
  unfold lg lj
  (repeat (first | rw [if_pos (by omega)] | rw [if_neg (by omega)]))
  omega
theorem lgT0 {f : Nat} (hf : f < 4) : lg (82 + 3 * f + 0) = 15 ∧ lj (82 + 3 * f + 0) = f := by
  unfold lg lj
  (repeat (first | rw [if_pos (by omega)] | rw [if_neg (by omega)]))
  omega
theorem lgT1 {f : Nat} (hf : f < 4) : lg (82 + 3 * f + 1) = 18 ∧ lj (82 + 3 * f + 1) = f := by
  unfold lg lj
  (repeat (first | rw [if_pos (by omega)] | rw [if_neg (by omega)]))
  omega
theorem lgT2 {f : Nat} (hf : f < 4) : lg (82 + 3 * f + 2) = 16 ∧ lj (82 + 3 * f + 2) = f := by
  unfold lg lj
  (repeat (first | rw [if_pos (by omega)] | rw [if_neg (by omega)]))
  omega
theorem lgC {j t : Nat} (hf : j * 4 + t < 48) : lg (94 + 4 * j + t) = 10 ∧ lj (94 + 4 * j + t) = j * 4 + t := by
  unfold lg lj
  (repeat (first | rw [if_pos (by omega)] | rw [if_neg (by omega)]))
  omega
theorem lgB {p w : Nat} (hw : w < 4) : lg (142 + 4 * p + w) = 11 + w ∧ lj (142 + 4 * p + w) = p := by
  unfold lg lj
  (repeat (first | rw [if_pos (by omega)] | rw [if_neg (by omega)]))
  omega
theorem cu_at {C : Ct} {g j x a b : Nat} : cu C g j x a b = if a = g ∧ b = j then x else C a b := by
  show (if a = g then va_up (C g) j x else C a) b = _
  by_cases h : a = g
  · subst h
    rw [if_pos rfl]
    unfold va_up
    by_cases h2 : b = j
    · rw [if_pos h2, if_pos ⟨rfl, h2⟩]
    · rw [if_neg h2, if_neg (fun z => h2 z.2)]
  · rw [if_neg h, if_neg (fun z => h z.1)]
theorem ct_ext {C D : Ct} (h : ∀ a b, C a b = D a b) : C = D := funext fun a => funext fun b => h a b
theorem vrd {C : Ct} {i g j : Nat} (hg : lg i = g ∧ lj i = j) (hv : i < 142 ∨ (i - 142) / 4 < C 0 2) : vO C i = C g j := by
  unfold vO
  rw [if_pos hv, hg.1, hg.2]
theorem vup {C : Ct} {g j x i0 : Nat} (hl : lg i0 = g ∧ lj i0 = j) (hv : i0 < 142 ∨ (i0 - 142) / 4 < C 0 2) (hB : g ≠ 0 ∨ j ≠ 2) : va_up (vO C) i0 x = vO (cu C g j x) := by
  funext i
  have e02 : cu C g j x 0 2 = C 0 2 := by rw [cu_at, if_neg (by omega)]
  unfold va_up
  by_cases e : i = i0
  · subst e
    rw [if_pos rfl, vrd hl (by rw [e02]; exact hv), cu_at, if_pos ⟨rfl, rfl⟩]
  · rw [if_neg e]
    unfold vO
    rw [e02, cu_at, if_neg (show ¬ (lg i = g ∧ lj i = j) from fun z => e (by rw [← linv_lg i, ← linv_lg i0, z.1, z.2, hl.1, hl.2]))]
/-- courts that the row can't tell apart -/
theorem vO_q {C D : Ct} (h : ∀ a b, ¬ (a = 0 ∧ b = 4) → C a b = D a b) : vO C = vO D := by
  funext i
  unfold vO
  rw [h 0 2 (by omega), h (lg i) (lj i) (fun z => by rcases lgj i with ⟨h9, e1, e2⟩ | ⟨h9, e1, e2⟩ | ⟨h9, e1, e2⟩ | ⟨h9, e1, e2⟩ | ⟨h9, e1, e2⟩ | ⟨h9, e1, e2⟩ | ⟨h9, e1, e2⟩ | ⟨h9, e1, e2⟩ | ⟨h9, e1, e2⟩ | ⟨h9, e1, e2⟩ <;> omega)]
theorem vO_Z0 : vO Z0 = fun _ => 0 := by
  funext i
  unfold vO
  split <;> rfl
def mf (y fl : Int32) : Int32 := if y < 0 then y else fl
theorem mf_n {y fl : Int32} (h : y < 0) : mf y fl = y := if_pos h
theorem mf_p {y fl : Int32} (h : ¬ y < 0) : mf y fl = fl := if_neg h
abbrev mo (m ch sv tn hr en ln wg dg : Nat) (fl wy dt : Int32) : va_E := .inr (8, [.int fl, .int (nI ch), .int wy, .int dt, .int (nI sv), .ref (m + 1), .ref (m + 2), .ref (m + 3), .ref (m + 4), .ref (m + 5), .ref (m + 6), .ref (m + 7), .int (nI tn), .int (nI hr), .int (nI en), .int (nI ln), .int (nI wg), .int (nI dg)])
/-- what a change of the model does -/
def pm (G : vG) (m ch sv tn hr en ln wg dg : Nat) (fl wy dt : Int32) (C : Ct) (h : AH) (n : Nat) (R : Rz) : Option Value → Nat → AH → Prop := fun r n2 h2 => r = some (.int R.1) ∧ n2 = n ∧ h2 m = some (mo m ch sv tn hr en ln wg dg (mf R.1 fl) (rf1 R.2.2 wy) (rf2 R.2.2 dt)) ∧ h2 (m + 1) = some (ar G 182 (vO R.2.1)) ∧ offn 2 m h h2 ∧ (R.1 < 0 → R.2.1 = C)
theorem pm_of {G : vG} {m ch sv tn hr en ln wg dg : Nat} {fl wy dt a : Int32} {h : AH} {n : Nat} {R : Rz} {C D : Ct} {oo : Option (Int32 × Int32)} {r : Option Value} {n2 : Nat} {h2 : AH} (e : R = (a, D, oo)) (hh : r = some (.int a) ∧ n2 = n ∧ h2 m = some (mo m ch sv tn hr en ln wg dg (mf a fl) (rf1 oo wy) (rf2 oo dt)) ∧ h2 (m + 1) = some (ar G 182 (vO D)) ∧ offn 2 m h h2 ∧ (a < 0 → D = C)) : pm G m ch sv tn hr en ln wg dg fl wy dt C h n R r n2 h2 := by
  subst e
  exact hh
theorem yes_rg {x a b : Int32} (h : ¬ x < a ∧ ¬ b < x) : ¬ x < a ∧ x ≤ b := ⟨h.1, Int32.not_lt.mp h.2⟩
theorem not_rg {x a b : Int32} (h : ¬ (¬ x < a ∧ ¬ b < x)) : x < a ∨ (¬ x < a ∧ ¬ x ≤ b) := by
  by_cases q : x < a
  · exact Or.inl q
  · exact Or.inr ⟨q, fun z => h ⟨q, Int32.not_lt.mpr z⟩⟩
theorem sub_eq0 {x y : Nat} (hx : x < 2 ^ 30) (hy : y < 2 ^ 30) : nI x - nI y = 0 ↔ x = y := by
  have h1 := pk_sub_toInt hx hy
  rw [← Int32.toInt_inj, h1]
  show (x : Int) - y = 0 ↔ _
  omega
theorem sub_gt0 {x y : Nat} (hx : x < 2 ^ 30) (hy : y < 2 ^ 30) : 0 < nI x - nI y ↔ y < x := by
  have h1 := pk_sub_toInt hx hy
  rw [Int32.lt_iff_toInt_lt, h1]
  show (0 : Int) < (x : Int) - y ↔ _
  omega
theorem sub_lt0 {x y : Nat} (hx : x < 2 ^ 30) (hy : y < 2 ^ 30) : nI x - nI y < 0 ↔ x < y := by
  have h1 := pk_sub_toInt hx hy
  rw [Int32.lt_iff_toInt_lt, h1]
  show (x : Int) - y < 0 ↔ _
  omega
theorem sub_ge0 {x y : Nat} (hx : x < 2 ^ 30) (hy : y < 2 ^ 30) : 0 ≤ nI x - nI y ↔ y ≤ x := by
  have h1 := pk_sub_toInt hx hy
  rw [Int32.le_iff_toInt_le, h1]
  show (0 : Int) ≤ (x : Int) - y ↔ _
  omega
theorem sub_le0 {x y : Nat} (hx : x < 2 ^ 30) (hy : y < 2 ^ 30) : nI x - nI y ≤ 0 ↔ x ≤ y := by
  have h1 := pk_sub_toInt hx hy
  rw [Int32.le_iff_toInt_le, h1]
  show (x : Int) - y ≤ 0 ↔ _
  omega
def ow (C : Ct) (j : Nat) : Int32 := if hold C j then nI (C 8 j) else -1
theorem ow_t {C : Ct} {j : Nat} (h : hold C j) : ow C j = nI (C 8 j) := if_pos h
theorem ow_f {C : Ct} {j : Nat} (h : ¬ hold C j) : ow C j = -1 := if_neg h
theorem gain_le {C : Ct} {f k : Nat} (h : C 2 f + k ≤ 99) : gain C f k = cu C 2 f (C 2 f + k) := by
  have e : kept C f k = k := Nat.min_eq_left (by omega)
  refine ct_ext fun a b => ?_
  unfold gain
  rw [e, cu_at]
  by_cases h1 : a = 0 ∧ b = 6
  · obtain ⟨rfl, rfl⟩ := h1
    rw [if_pos ⟨rfl, rfl⟩, cu_at, if_neg (by omega)]
    omega
  · rw [if_neg h1]
theorem gain_gt {C : Ct} {f k : Nat} (h : 99 < C 2 f + k) (h9 : C 2 f ≤ 99) : gain C f k = cu (cu (cu C 2 f (C 2 f + k)) 2 f 99) 0 6 (C 0 6 + (C 2 f + k - 99)) := by
  have e : kept C f k = 99 - C 2 f := Nat.min_eq_right (by omega)
  refine ct_ext fun a b => ?_
  unfold gain
  rw [e, cu_at, cu_at, cu_at, cu_at, cu_at]
  by_cases h1 : a = 0 ∧ b = 6
  · rw [if_pos h1, if_pos h1]; omega
  · rw [if_neg h1, if_neg h1]
    by_cases h2 : a = 2 ∧ b = f
    · rw [if_pos h2, if_pos h2]; omega
    · rw [if_neg h2, if_neg h2, if_neg h2]
theorem lgn0 : lg 0 = 0 ∧ lj 0 = 0 := ⟨rfl, rfl⟩
theorem lgn1 : lg 1 = 0 ∧ lj 1 = 1 := ⟨rfl, rfl⟩
theorem lgn2 : lg 2 = 0 ∧ lj 2 = 2 := ⟨rfl, rfl⟩
theorem lgn3 : lg 3 = 0 ∧ lj 3 = 3 := ⟨rfl, rfl⟩
theorem lgn4 : lg 4 = 17 ∧ lj 4 = 0 := ⟨rfl, rfl⟩
theorem lgn5 : lg 5 = 0 ∧ lj 5 = 5 := ⟨rfl, rfl⟩
theorem lgn6 : lg 6 = 0 ∧ lj 6 = 6 := ⟨rfl, rfl⟩
theorem lgn7 : lg 7 = 0 ∧ lj 7 = 7 := ⟨rfl, rfl⟩
theorem lgn8 : lg 8 = 17 ∧ lj 8 = 1 := ⟨rfl, rfl⟩
set_option maxRecDepth 20000 in
set_option maxHeartbeats 4000000 in
theorem t_X7_isIn {l : Launch} {G : vG} {h : AH} {n : Nat} {x a z : Int32}  : Mt l G mX7_isIn [.int x, .int a, .int z] (n) h 0 0 (fun r n2 h2 => r = some (.int (nI (bI (¬ x < a ∧ ¬ z < x)))) ∧ n2 = n ∧ h2 = h) := by
  refine Mt.of (by decide) (Nat.le_of_ble_eq_true rfl) rfl ?_
  refine v_ls (ls2 := [some (.int x), some (.int a), some (.int z)]) rfl ?_
  refine v_iload_n dX7_isIn_0 rfl ?_
  refine v_iload_n dX7_isIn_1 rfl ?_
  refine v_icmp_lt (tgt := 14) dX7_isIn_2 (by decide) (fun c21 => ?_) (fun c21 => ?_)
  · refine v_iconst (v := nI 0) dX7_isIn_14 (by decide) ?_
    refine v_zret (ty := .boolean) dX7_isIn_15 rfl (by decide) ?_ (Nat.le_of_ble_eq_true rfl) (Nat.le_of_ble_eq_true rfl)
    exact ⟨by rw [bI_f (fun q => q.1 c21)], rfl, rfl⟩
  · refine v_iload_n dX7_isIn_5 rfl ?_
    refine v_iload_n dX7_isIn_6 rfl ?_
    refine v_icmp_gt (tgt := 14) dX7_isIn_7 (by decide) (fun c22 => ?_) (fun c22 => ?_)
    · refine v_iconst (v := nI 0) dX7_isIn_14 (by decide) ?_
      refine v_zret (ty := .boolean) dX7_isIn_15 rfl (by decide) ?_ (Nat.le_of_ble_eq_true rfl) (Nat.le_of_ble_eq_true rfl)
      exact ⟨by rw [bI_f (fun q => q.2 c22)], rfl, rfl⟩
    · refine v_iconst (v := nI 1) dX7_isIn_10 (by decide) ?_
      refine v_goto (tgt := 15) dX7_isIn_11 (by decide) ?_
      refine v_zret (ty := .boolean) dX7_isIn_15 rfl (by decide) ?_ (Nat.le_of_ble_eq_true rfl) (Nat.le_of_ble_eq_true rfl)
      exact ⟨by rw [bI_t ⟨c21, c22⟩], rfl, rfl⟩
set_option maxRecDepth 20000 in
set_option maxHeartbeats 4000000 in
theorem t_X7_at {l : Launch} {G : vG} {h : AH} {n : Nat} {f w : Nat}  : Mt l G mX7_at [.int (nI f), .int (nI w)] (n) h 0 0 (fun r n2 h2 => r = some (.int (nI (10 + 6 * f + w))) ∧ n2 = n ∧ h2 = h) := by
  refine Mt.of (by decide) (Nat.le_of_ble_eq_true rfl) rfl ?_
  refine v_ls (ls2 := [some (.int (nI f)), some (.int (nI w))]) rfl ?_
  refine v_bipush (v := nI 10) dX7_at_0 (by decide) ?_
  refine v_bipush (v := nI 6) dX7_at_2 (by decide) ?_
  refine v_iload_n dX7_at_4 rfl ?_
  refine n_imul (x := 6) (y := f) dX7_at_5 ?_
  refine n_iadd (x := 10) (y := 6 * f) dX7_at_6 ?_
  refine v_iload_n dX7_at_7 rfl ?_
  refine n_iadd (x := 10 + (6 * f)) (y := w) dX7_at_8 ?_
  refine v_iret dX7_at_9 rfl ?_ (Nat.le_of_ble_eq_true rfl) (Nat.le_of_ble_eq_true rfl)
  exact ⟨rfl, rfl, rfl⟩
set_option maxRecDepth 20000 in
set_option maxHeartbeats 4000000 in
theorem t_X7_in {l : Launch} {G : vG} {h : AH} {n : Nat} {f w : Nat}  : Mt l G mX7_in [.int (nI f), .int (nI w)] (n) h 0 0 (fun r n2 h2 => r = some (.int (nI (46 + 3 * f + w))) ∧ n2 = n ∧ h2 = h) := by
  refine Mt.of (by decide) (Nat.le_of_ble_eq_true rfl) rfl ?_
  refine v_ls (ls2 := [some (.int (nI f)), some (.int (nI w))]) rfl ?_
  refine v_bipush (v := nI 46) dX7_in_0 (by decide) ?_
  refine v_iconst (v := nI 3) dX7_in_2 (by decide) ?_
  refine v_iload_n dX7_in_3 rfl ?_
  refine n_imul (x := 3) (y := f) dX7_in_4 ?_
  refine n_iadd (x := 46) (y := 3 * f) dX7_in_5 ?_
  refine v_iload_n dX7_in_6 rfl ?_
  refine n_iadd (x := 46 + (3 * f)) (y := w) dX7_in_7 ?_
  refine v_iret dX7_in_8 rfl ?_ (Nat.le_of_ble_eq_true rfl) (Nat.le_of_ble_eq_true rfl)
  exact ⟨rfl, rfl, rfl⟩
set_option maxRecDepth 20000 in
set_option maxHeartbeats 4000000 in
theorem t_X7_of {l : Launch} {G : vG} {h : AH} {n : Nat} {f w : Nat}  : Mt l G mX7_of [.int (nI f), .int (nI w)] (n) h 0 0 (fun r n2 h2 => r = some (.int (nI (82 + 3 * f + w))) ∧ n2 = n ∧ h2 = h) := by
  refine Mt.of (by decide) (Nat.le_of_ble_eq_true rfl) rfl ?_
  refine v_ls (ls2 := [some (.int (nI f)), some (.int (nI w))]) rfl ?_
  refine v_bipush (v := nI 82) dX7_of_0 (by decide) ?_
  refine v_iconst (v := nI 3) dX7_of_2 (by decide) ?_
  refine v_iload_n dX7_of_3 rfl ?_
  refine n_imul (x := 3) (y := f) dX7_of_4 ?_
  refine n_iadd (x := 82) (y := 3 * f) dX7_of_5 ?_
  refine v_iload_n dX7_of_6 rfl ?_
  refine n_iadd (x := 82 + (3 * f)) (y := w) dX7_of_7 ?_
  refine v_iret dX7_of_8 rfl ?_ (Nat.le_of_ble_eq_true rfl) (Nat.le_of_ble_eq_true rfl)
  exact ⟨rfl, rfl, rfl⟩
set_option maxRecDepth 20000 in
set_option maxHeartbeats 4000000 in
theorem t_X7_fail {l : Launch} {G : vG} {h : AH} {n : Nat} {m ch sv tn hr en ln wg dg : Nat} {fl wy dt : Int32} {x : Int32} (ho : h m = some (mo m ch sv tn hr en ln wg dg fl wy dt)) : Mt l G mX7_fail [.ref m, .int x] (n) h 0 0 (fun r n2 h2 => r = some (.int x) ∧ n2 = n ∧ h2 m = some (mo m ch sv tn hr en ln wg dg x wy dt) ∧ offn 1 m h h2) := by
  refine Mt.of (by decide) (Nat.le_of_ble_eq_true rfl) rfl ?_
  refine v_ls (ls2 := [some (.ref m), some (.int x)]) rfl ?_
  refine v_aload_n dX7_fail_0 rfl ?_
  refine v_iload_n dX7_fail_1 rfl ?_
  refine pX7_31 rfl dX7_fail_2 ho (Nat.le_of_ble_eq_true rfl) ?_
  refine nw (fun h1 f1 s1 => ?_)
  have fa21 : h1 (m) = some (.inr (8, [.int x, .int (nI ch), .int wy, .int dt, .int (nI sv), .ref (m + 1), .ref (m + 2), .ref (m + 3), .ref (m + 4), .ref (m + 5), .ref (m + 6), .ref (m + 7), .int (nI tn), .int (nI hr), .int (nI en), .int (nI ln), .int (nI wg), .int (nI dg)])) := f1
  have sa21 := s1
  clear f1 s1
  have fr22 := offn_in (k := 1) (q := m) offn_rf sa21 (by omega)
  refine v_iload_n dX7_fail_5 rfl ?_
  refine v_iret dX7_fail_6 rfl ?_ (Nat.le_of_ble_eq_true rfl) (Nat.le_of_ble_eq_true rfl)
  exact ⟨rfl, rfl, fa21, fr22⟩
set_option maxRecDepth 20000 in
set_option maxHeartbeats 4000000 in
theorem t_X7_refuses {l : Launch} {G : vG} {h : AH} {n : Nat} {m ch sv tn hr en ln wg dg : Nat} {fl wy dt : Int32} {x y : Int32} (ho : h m = some (mo m ch sv tn hr en ln wg dg fl wy dt)) : Mt l G mX7_refuses [.ref m, .int x, .int y] (n) h 0 0 (fun r n2 h2 => r = some (.int (-1014)) ∧ n2 = n ∧ h2 m = some (mo m ch sv tn hr en ln wg dg (-1014) x y) ∧ offn 1 m h h2) := by
  refine Mt.of (by decide) (Nat.le_of_ble_eq_true rfl) rfl ?_
  refine v_ls (ls2 := [some (.ref m), some (.int x), some (.int y)]) rfl ?_
  refine v_aload_n dX7_refuses_0 rfl ?_
  refine v_iload_n dX7_refuses_1 rfl ?_
  refine pX7_35 rfl dX7_refuses_2 ho (Nat.le_of_ble_eq_true rfl) ?_
  refine nw (fun h1 f1 s1 => ?_)
  have fa21 : h1 (m) = some (.inr (8, [.int fl, .int (nI ch), .int x, .int dt, .int (nI sv), .ref (m + 1), .ref (m + 2), .ref (m + 3), .ref (m + 4), .ref (m + 5), .ref (m + 6), .ref (m + 7), .int (nI tn), .int (nI hr), .int (nI en), .int (nI ln), .int (nI wg), .int (nI dg)])) := f1
  have sa21 := s1
  clear f1 s1
  have fr22 := offn_in (k := 1) (q := m) offn_rf sa21 (by omega)
  refine v_aload_n dX7_refuses_5 rfl ?_
  refine v_iload_n dX7_refuses_6 rfl ?_
  refine pX7_38 rfl dX7_refuses_7 fa21 (Nat.le_of_ble_eq_true rfl) ?_
  refine nw (fun h1 f1 s1 => ?_)
  have fa23 : h1 (m) = some (.inr (8, [.int fl, .int (nI ch), .int x, .int y, .int (nI sv), .ref (m + 1), .ref (m + 2), .ref (m + 3), .ref (m + 4), .ref (m + 5), .ref (m + 6), .ref (m + 7), .int (nI tn), .int (nI hr), .int (nI en), .int (nI ln), .int (nI wg), .int (nI dg)])) := f1
  have sa23 := s1
  clear f1 s1
  have fr24 := offn_in (k := 1) (q := m) fr22 sa23 (by omega)
  refine v_aload_n dX7_refuses_10 rfl ?_
  refine v_sipush (v := (-1014)) dX7_refuses_11 (by decide) ?_
  refine v_callV (st := []) dX7_refuses_14 (t_X7_fail (x := (-1014)) fa23) wX7_41 fa23 rfl rfl ⟨Nat.le_of_ble_eq_true rfl, Nat.le_of_ble_eq_true rfl⟩ (Nat.le_of_ble_eq_true rfl) ⟨Nat.le_of_ble_eq_true rfl, Nat.le_of_ble_eq_true rfl⟩ (fun r n2 h2 hq => ?_)
  obtain ⟨rfl, rfl, fa25, sa26⟩ := hq
  refine v_st (st2 := [.int ((-1014))]) rfl ?_
  have fr27 := offn_in (k := 1) (q := m) fr24 sa26 (by omega)
  refine v_iret dX7_refuses_17 rfl ?_ (Nat.le_of_ble_eq_true rfl) (Nat.le_of_ble_eq_true rfl)
  exact ⟨rfl, rfl, fa25, fr27⟩
set_option maxRecDepth 20000 in
set_option maxHeartbeats 4000000 in
theorem t_X7_isFool {l : Launch} {G : vG} {h : AH} {n : Nat} {x : Int32} {m ch sv tn hr en ln wg dg : Nat} {fl wy dt : Int32} {b : Nat} {C : Ct} (ho : h m = some (mo m ch sv tn hr en ln wg dg fl wy dt)) (hv : h (m + 1) = some (ar G 182 (vO C))) (hK : bdk b C) (hb2 : b + 1000 ≤ 2 ^ 28) : Mt l G mX7_isFool [.ref m, .int x] (n) h 0 0 (fun r n2 h2 => r = some (.int (nI (bI (ixb x (C 0 0) = true)))) ∧ n2 = n ∧ h2 = h) := by
  refine Mt.of (by decide) (Nat.le_of_ble_eq_true rfl) rfl ?_
  refine v_ls (ls2 := [some (.ref m), some (.int x)]) rfl ?_
  have hB := hK.bd (by omega)
  have b00 := hB 0 0
  have b01 := hB 0 1
  refine v_iload_n dX7_isFool_0 rfl ?_
  refine v_iconst (v := nI 0) dX7_isFool_1 (by decide) ?_
  refine v_aload_n dX7_isFool_2 rfl ?_
  refine fX7_7 (v := .ref (m + 1)) rfl dX7_isFool_3 ho rfl ?_
  refine v_iconst (v := nI 0) dX7_isFool_6 (by decide) ?_
  refine n_ialdv (f := vO C) (j := 0) (y := C 0 0) dX7_isFool_7 hv (by omega) (by decide) ((vrd (C := C) lgn0 (Or.inl (by decide))).trans rfl) ?_
  have b21 := hK 0 0
  refine v_iconst (v := nI 1) dX7_isFool_8 (by decide) ?_
  refine v_isub dX7_isFool_9 ?_
  refine v_callS (st := []) dX7_isFool_10 (t_X7_isIn (x := x) (a := nI 0) (z := (nI (C 0 0) - nI 1))) wX7_52 rfl ⟨Nat.le_of_ble_eq_true rfl, Nat.le_of_ble_eq_true rfl⟩ (Nat.le_of_ble_eq_true rfl) ⟨Nat.le_of_ble_eq_true rfl, Nat.le_of_ble_eq_true rfl⟩ (fun r n2 h2 hq => ?_)
  obtain ⟨rfl, hn9, rfl⟩ := hq; replace hn9 := hn9.symm; subst hn9
  refine v_st (st2 := [.int (nI (bI (¬ x < nI 0 ∧ ¬ (nI (C 0 0) - nI 1) < x)))]) rfl ?_
  refine v_zret (ty := .boolean) dX7_isFool_13 rfl (nI_z _ bI_lt) ?_ (Nat.le_of_ble_eq_true rfl) (Nat.le_of_ble_eq_true rfl)
  have e9 : (¬ x < nI 0 ∧ ¬ (nI (C 0 0) - nI 1) < x) ↔ ixb x (C 0 0) = true := by
    rw [ixb_iff]; unfold ix
    have h1 : (nI (C 0 0) - nI 1).toInt = ((C 0 0 : Nat) : Int) - ((1 : Nat) : Int) := pk_sub_toInt (by omega) (by decide)
    rw [i_ltN (by decide), Int32.lt_iff_toInt_lt, h1]
    omega
  exact ⟨by rw [show bI (¬ x < nI 0 ∧ ¬ (nI (C 0 0) - nI 1) < x) = bI (ixb x (C 0 0) = true) from by by_cases q : ixb x (C 0 0) = true <;> simp only [bI, e9, q]], rfl, rfl⟩
set_option maxRecDepth 20000 in
set_option maxHeartbeats 4000000 in
theorem t_X7_isJoke {l : Launch} {G : vG} {h : AH} {n : Nat} {x : Int32} {m ch sv tn hr en ln wg dg : Nat} {fl wy dt : Int32} {b : Nat} {C : Ct} (ho : h m = some (mo m ch sv tn hr en ln wg dg fl wy dt)) (hv : h (m + 1) = some (ar G 182 (vO C))) (hK : bdk b C) (hb2 : b + 1000 ≤ 2 ^ 28) : Mt l G mX7_isJoke [.ref m, .int x] (n) h 0 0 (fun r n2 h2 => r = some (.int (nI (bI (ixb x (C 0 1) = true)))) ∧ n2 = n ∧ h2 = h) := by
  refine Mt.of (by decide) (Nat.le_of_ble_eq_true rfl) rfl ?_
  refine v_ls (ls2 := [some (.ref m), some (.int x)]) rfl ?_
  have hB := hK.bd (by omega)
  have b00 := hB 0 0
  have b01 := hB 0 1
  refine v_iload_n dX7_isJoke_0 rfl ?_
  refine v_iconst (v := nI 0) dX7_isJoke_1 (by decide) ?_
  refine v_aload_n dX7_isJoke_2 rfl ?_
  refine fX7_7 (v := .ref (m + 1)) rfl dX7_isJoke_3 ho rfl ?_
  refine v_iconst (v := nI 1) dX7_isJoke_6 (by decide) ?_
  refine n_ialdv (f := vO C) (j := 1) (y := C 0 1) dX7_isJoke_7 hv (by omega) (by decide) ((vrd (C := C) lgn1 (Or.inl (by decide))).trans rfl) ?_
  have b21 := hK 0 1
  refine v_iconst (v := nI 1) dX7_isJoke_8 (by decide) ?_
  refine v_isub dX7_isJoke_9 ?_
  refine v_callS (st := []) dX7_isJoke_10 (t_X7_isIn (x := x) (a := nI 0) (z := (nI (C 0 1) - nI 1))) wX7_52 rfl ⟨Nat.le_of_ble_eq_true rfl, Nat.le_of_ble_eq_true rfl⟩ (Nat.le_of_ble_eq_true rfl) ⟨Nat.le_of_ble_eq_true rfl, Nat.le_of_ble_eq_true rfl⟩ (fun r n2 h2 hq => ?_)
  obtain ⟨rfl, hn9, rfl⟩ := hq; replace hn9 := hn9.symm; subst hn9
  refine v_st (st2 := [.int (nI (bI (¬ x < nI 0 ∧ ¬ (nI (C 0 1) - nI 1) < x)))]) rfl ?_
  refine v_zret (ty := .boolean) dX7_isJoke_13 rfl (nI_z _ bI_lt) ?_ (Nat.le_of_ble_eq_true rfl) (Nat.le_of_ble_eq_true rfl)
  have e9 : (¬ x < nI 0 ∧ ¬ (nI (C 0 1) - nI 1) < x) ↔ ixb x (C 0 1) = true := by
    rw [ixb_iff]; unfold ix
    have h1 : (nI (C 0 1) - nI 1).toInt = ((C 0 1 : Nat) : Int) - ((1 : Nat) : Int) := pk_sub_toInt (by omega) (by decide)
    rw [i_ltN (by decide), Int32.lt_iff_toInt_lt, h1]
    omega
  exact ⟨by rw [show bI (¬ x < nI 0 ∧ ¬ (nI (C 0 1) - nI 1) < x) = bI (ixb x (C 0 1) = true) from by by_cases q : ixb x (C 0 1) = true <;> simp only [bI, e9, q]], rfl, rfl⟩
set_option maxRecDepth 20000 in
set_option maxHeartbeats 4000000 in
theorem t_X7_isThrone {l : Launch} {G : vG} {h : AH} {n : Nat} {x : Int32}  : Mt l G mX7_isThrone [.int x] (n) h 0 0 (fun r n2 h2 => r = some (.int (nI (bI (ixb x 4 = true)))) ∧ n2 = n ∧ h2 = h) := by
  refine Mt.of (by decide) (Nat.le_of_ble_eq_true rfl) rfl ?_
  refine v_ls (ls2 := [some (.int x)]) rfl ?_
  refine v_iload_n dX7_isThrone_0 rfl ?_
  refine v_iconst (v := nI 0) dX7_isThrone_1 (by decide) ?_
  refine v_iconst (v := nI 3) dX7_isThrone_2 (by decide) ?_
  refine v_callS (st := []) dX7_isThrone_3 (t_X7_isIn (x := x) (a := nI 0) (z := nI 3)) wX7_52 rfl ⟨Nat.le_of_ble_eq_true rfl, Nat.le_of_ble_eq_true rfl⟩ (Nat.le_of_ble_eq_true rfl) ⟨Nat.le_of_ble_eq_true rfl, Nat.le_of_ble_eq_true rfl⟩ (fun r n2 h2 hq => ?_)
  obtain ⟨rfl, hn9, rfl⟩ := hq; replace hn9 := hn9.symm; subst hn9
  refine v_st (st2 := [.int (nI (bI (¬ x < nI 0 ∧ ¬ nI 3 < x)))]) rfl ?_
  refine v_zret (ty := .boolean) dX7_isThrone_6 rfl (nI_z _ bI_lt) ?_ (Nat.le_of_ble_eq_true rfl) (Nat.le_of_ble_eq_true rfl)
  have e9 : (¬ x < nI 0 ∧ ¬ nI 3 < x) ↔ ixb x 4 = true := by
    rw [ixb_iff]; unfold ix
    rw [i_ltN (by decide), i_gtN (by decide)]
    omega
  exact ⟨by rw [show bI (¬ x < nI 0 ∧ ¬ nI 3 < x) = bI (ixb x 4 = true) from by by_cases q : ixb x 4 = true <;> simp only [bI, e9, q]], rfl, rfl⟩
set_option maxRecDepth 20000 in
set_option maxHeartbeats 4000000 in
theorem t_X7_booked {l : Launch} {G : vG} {h : AH} {n : Nat} {p w : Nat} {m ch sv tn hr en ln wg dg : Nat} {fl wy dt : Int32} {b : Nat} {C : Ct} (ho : h m = some (mo m ch sv tn hr en ln wg dg fl wy dt)) (hv : h (m + 1) = some (ar G 182 (vO C))) (hK : bdk b C) (hb2 : b + 1000 ≤ 2 ^ 28) (hp : p < C 0 2) (hp2 : C 0 2 ≤ 10) (hw : w < 4) : Mt l G mX7_booked [.ref m, .int (nI p), .int (nI w)] (n) h 0 0 (fun r n2 h2 => r = some (.int (nI (C (11 + w) p))) ∧ n2 = n ∧ h2 = h) := by
  refine Mt.of (by decide) (Nat.le_of_ble_eq_true rfl) rfl ?_
  refine v_ls (ls2 := [some (.ref m), some (.int (nI p)), some (.int (nI w))]) rfl ?_
  have hB := hK.bd (by omega)
  refine v_aload_n dX7_booked_0 rfl ?_
  refine fX7_7 (v := .ref (m + 1)) rfl dX7_booked_1 ho rfl ?_
  refine v_sipush (v := nI 142) dX7_booked_4 (by decide) ?_
  refine v_iconst (v := nI 4) dX7_booked_7 (by decide) ?_
  refine v_iload_n dX7_booked_8 rfl ?_
  refine n_imul (x := 4) (y := p) dX7_booked_9 ?_
  refine n_iadd (x := 142) (y := 4 * p) dX7_booked_10 ?_
  refine v_iload_n dX7_booked_11 rfl ?_
  refine n_iadd (x := 142 + (4 * p)) (y := w) dX7_booked_12 ?_
  refine n_ialdv (f := vO C) (j := (142 + (4 * p)) + w) (y := C (11 + w) p) dX7_booked_13 hv (by omega) (by decide) ((vrd (C := C) (i := 142 + 4 * p + w) (lgB hw) (Or.inr (by omega))).trans rfl) ?_
  refine v_iret dX7_booked_14 rfl ?_ (Nat.le_of_ble_eq_true rfl) (Nat.le_of_ble_eq_true rfl)
  exact ⟨rfl, rfl, rfl⟩
set_option maxRecDepth 20000 in
set_option maxHeartbeats 4000000 in
theorem t_X7_owner {l : Launch} {G : vG} {h : AH} {n : Nat} {j : Nat} {m ch sv tn hr en ln wg dg : Nat} {fl wy dt : Int32} {b : Nat} {C : Ct} (ho : h m = some (mo m ch sv tn hr en ln wg dg fl wy dt)) (hv : h (m + 1) = some (ar G 182 (vO C))) (hK : bdk b C) (hb2 : b + 1000 ≤ 2 ^ 28) (hj : j < 12) : Mt l G mX7_owner [.ref m, .int (nI j)] (n) h 0 0 (fun r n2 h2 => r = some (.int (ow C j)) ∧ n2 = n ∧ h2 = h) := by
  refine Mt.of (by decide) (Nat.le_of_ble_eq_true rfl) rfl ?_
  refine v_ls (ls2 := [some (.ref m), some (.int (nI j))]) rfl ?_
  have hB := hK.bd (by omega)
  refine v_aload_n dX7_owner_0 rfl ?_
  refine fX7_7 (v := .ref (m + 1)) rfl dX7_owner_1 ho rfl ?_
  refine v_iload_n dX7_owner_4 rfl ?_
  refine v_iconst (v := nI 2) dX7_owner_5 (by decide) ?_
  refine v_callS (st := [.ref (m + 1)]) dX7_owner_6 (t_X7_in (f := j) (w := 2)) wX7_56 rfl ⟨Nat.le_of_ble_eq_true rfl, Nat.le_of_ble_eq_true rfl⟩ (Nat.le_of_ble_eq_true rfl) ⟨Nat.le_of_ble_eq_true rfl, Nat.le_of_ble_eq_true rfl⟩ (fun r n2 h2 hq => ?_)
  obtain ⟨rfl, hn9, rfl⟩ := hq; replace hn9 := hn9.symm; subst hn9
  refine v_st (st2 := [.int (nI (46 + 3 * j + 2)), .ref (m + 1)]) rfl ?_
  refine n_ialdv (f := vO C) (j := 46 + 3 * j + 2) (y := C 9 j) dX7_owner_9 hv (by omega) (by decide) ((vrd (C := C) (lgJ (f := j) (w := 2) (by omega) (by decide)) (Or.inl (by omega))).trans rfl) ?_
  have b21 := hK 9 j
  refine v_aload_n dX7_owner_10 rfl ?_
  refine fX7_7 (v := .ref (m + 1)) rfl dX7_owner_11 ho rfl ?_
  refine v_iconst (v := nI 3) dX7_owner_14 (by decide) ?_
  refine n_ialdv (f := vO C) (j := 3) (y := C 0 3) dX7_owner_15 hv (by omega) (by decide) ((vrd (C := C) lgn3 (Or.inl (by decide))).trans rfl) ?_
  have b22 := hK 0 3
  refine n_icmp_le (tgt := 32) (x := C 9 j) (y := C 0 3) dX7_owner_16 (by decide) (by omega) (by omega) (fun c23 => ?_) (fun c23 => ?_)
  · refine v_iconst (v := (-1)) dX7_owner_32 (by decide) ?_
    refine v_iret dX7_owner_33 rfl ?_ (Nat.le_of_ble_eq_true rfl) (Nat.le_of_ble_eq_true rfl)
    exact ⟨by rw [ow_f (by show ¬ C 0 3 < C 9 j; omega)], rfl, rfl⟩
  · refine v_aload_n dX7_owner_19 rfl ?_
    refine fX7_7 (v := .ref (m + 1)) rfl dX7_owner_20 ho rfl ?_
    refine v_iload_n dX7_owner_23 rfl ?_
    refine v_iconst (v := nI 1) dX7_owner_24 (by decide) ?_
    refine v_callS (st := [.ref (m + 1)]) dX7_owner_25 (t_X7_in (f := j) (w := 1)) wX7_56 rfl ⟨Nat.le_of_ble_eq_true rfl, Nat.le_of_ble_eq_true rfl⟩ (Nat.le_of_ble_eq_true rfl) ⟨Nat.le_of_ble_eq_true rfl, Nat.le_of_ble_eq_true rfl⟩ (fun r n2 h2 hq => ?_)
    obtain ⟨rfl, hn9, rfl⟩ := hq; replace hn9 := hn9.symm; subst hn9
    refine v_st (st2 := [.int (nI (46 + 3 * j + 1)), .ref (m + 1)]) rfl ?_
    refine n_ialdv (f := vO C) (j := 46 + 3 * j + 1) (y := C 8 j) dX7_owner_28 hv (by omega) (by decide) ((vrd (C := C) (lgJ (f := j) (w := 1) (by omega) (by decide)) (Or.inl (by omega))).trans rfl) ?_
    have b24 := hK 8 j
    refine v_goto (tgt := 33) dX7_owner_29 (by decide) ?_
    refine v_iret dX7_owner_33 rfl ?_ (Nat.le_of_ble_eq_true rfl) (Nat.le_of_ble_eq_true rfl)
    exact ⟨by rw [ow_t (by show C 0 3 < C 9 j; omega)], rfl, rfl⟩
set_option maxRecDepth 20000 in
set_option maxHeartbeats 4000000 in
theorem t_X7_isBarred {l : Launch} {G : vG} {h : AH} {n : Nat} {f j : Nat} {m ch sv tn hr en ln wg dg : Nat} {fl wy dt : Int32} {b : Nat} {C : Ct} (ho : h m = some (mo m ch sv tn hr en ln wg dg fl wy dt)) (hv : h (m + 1) = some (ar G 182 (vO C))) (hK : bdk b C) (hb2 : b + 1000 ≤ 2 ^ 28) (hj : j < 12) (hf : f < 6) : Mt l G mX7_isBarred [.ref m, .int (nI f), .int (nI j)] (n) h 0 0 (fun r n2 h2 => r = some (.int (nI (bI (barr C f j)))) ∧ n2 = n ∧ h2 = h) := by
  refine Mt.of (by decide) (Nat.le_of_ble_eq_true rfl) rfl ?_
  refine v_ls (ls2 := [some (.ref m), some (.int (nI f)), some (.int (nI j)), none]) rfl ?_
  have hB := hK.bd (by omega)
  refine v_aload_n dX7_isBarred_0 rfl ?_
  refine v_iload_n dX7_isBarred_1 rfl ?_
  refine v_callV (st := []) dX7_isBarred_2 (t_X7_owner (j := j) ho hv hK (by omega) (by omega)) wX7_60 ho rfl rfl ⟨Nat.le_of_ble_eq_true rfl, Nat.le_of_ble_eq_true rfl⟩ (Nat.le_of_ble_eq_true rfl) ⟨Nat.le_of_ble_eq_true rfl, Nat.le_of_ble_eq_true rfl⟩ (fun r n2 h2 hq => ?_)
  obtain ⟨rfl, hn9, rfl⟩ := hq; replace hn9 := hn9.symm; subst hn9
  refine v_st (st2 := [.int (ow C j)]) rfl ?_
  by_cases ho21 : hold C j
  have b22 := hK 8 j
  · refine v_st (st2 := [.int (nI (C 8 j))]) (by rw [ow_t ho21]; try rfl) ?_
    refine v_istore_n dX7_isBarred_5 rfl (by decide) ?_
    refine v_ls (ls2 := [some (.ref m), some (.int (nI f)), some (.int (nI j)), some (.int (nI (C 8 j)))]) rfl ?_
    refine v_iload_n dX7_isBarred_6 rfl ?_
    refine n_if_lt (tgt := 19) (x := C 8 j) dX7_isBarred_7 (by decide) (by omega) ?_
    refine v_iload_n dX7_isBarred_10 rfl ?_
    refine v_iload_n dX7_isBarred_11 rfl ?_
    refine n_icmp_eq (tgt := 19) (x := C 8 j) (y := f) dX7_isBarred_12 (by decide) (by omega) (by omega) (fun c23 => ?_) (fun c23 => ?_)
    · refine v_iconst (v := nI 0) dX7_isBarred_19 (by decide) ?_
      refine v_zret (ty := .boolean) dX7_isBarred_20 rfl (by decide) ?_ (Nat.le_of_ble_eq_true rfl) (Nat.le_of_ble_eq_true rfl)
      exact ⟨by first | rfl | rw [bI_t (by omega)] | rw [bI_f (by omega)], rfl, rfl⟩
    · refine v_iconst (v := nI 1) dX7_isBarred_15 (by decide) ?_
      refine v_goto (tgt := 20) dX7_isBarred_16 (by decide) ?_
      refine v_zret (ty := .boolean) dX7_isBarred_20 rfl (by decide) ?_ (Nat.le_of_ble_eq_true rfl) (Nat.le_of_ble_eq_true rfl)
      exact ⟨by first | rfl | rw [bI_t (by omega)] | rw [bI_f (by omega)], rfl, rfl⟩
  · refine v_st (st2 := [.int ((-1))]) (by rw [ow_f ho21]; try rfl) ?_
    refine v_istore_n dX7_isBarred_5 rfl (by decide) ?_
    refine v_ls (ls2 := [some (.ref m), some (.int (nI f)), some (.int (nI j)), some (.int ((-1)))]) rfl ?_
    refine v_iload_n dX7_isBarred_6 rfl ?_
    refine v_if_lt (tgt := 19) dX7_isBarred_7 (by decide) (fun _ => ?_) (fun c => absurd (by decide) c)
    refine v_iconst (v := nI 0) dX7_isBarred_19 (by decide) ?_
    refine v_zret (ty := .boolean) dX7_isBarred_20 rfl (by decide) ?_ (Nat.le_of_ble_eq_true rfl) (Nat.le_of_ble_eq_true rfl)
    exact ⟨by first | rfl | rw [bI_t (by omega)] | rw [bI_f (by omega)], rfl, rfl⟩
set_option maxRecDepth 20000 in
set_option maxHeartbeats 4000000 in
theorem t_X7_pays {l : Launch} {G : vG} {h : AH} {n : Nat} {f k : Nat} {m ch sv tn hr en ln wg dg : Nat} {fl wy dt : Int32} {b : Nat} {C : Ct} (ho : h m = some (mo m ch sv tn hr en ln wg dg fl wy dt)) (hv : h (m + 1) = some (ar G 182 (vO C))) (hK : bdk b C) (hb2 : b + 1000 ≤ 2 ^ 28) (hf : f < 6) (hk : k < 2 ^ 28) : Mt l G mX7_pays [.ref m, .int (nI f), .int (nI k)] (n) h 0 0 (fun r n2 h2 => r = some (.int (nI (pay C f k))) ∧ n2 = n ∧ h2 (m + 1) = some (ar G 182 (vO (cu C 2 f (C 2 f - pay C f k)))) ∧ offn 1 (m + 1) h h2) := by
  refine Mt.of (by decide) (Nat.le_of_ble_eq_true rfl) rfl ?_
  refine v_ls (ls2 := [some (.ref m), some (.int (nI f)), some (.int (nI k)), none]) rfl ?_
  have hB := hK.bd (by omega)
  have bK9 := hK 2 f
  refine v_aload_n dX7_pays_0 rfl ?_
  refine fX7_7 (v := .ref (m + 1)) rfl dX7_pays_1 ho rfl ?_
  refine v_iload_n dX7_pays_4 rfl ?_
  refine v_iconst (v := nI 1) dX7_pays_5 (by decide) ?_
  refine v_callS (st := [.ref (m + 1)]) dX7_pays_6 (t_X7_at (f := f) (w := 1)) wX7_63 rfl ⟨Nat.le_of_ble_eq_true rfl, Nat.le_of_ble_eq_true rfl⟩ (Nat.le_of_ble_eq_true rfl) ⟨Nat.le_of_ble_eq_true rfl, Nat.le_of_ble_eq_true rfl⟩ (fun r n2 h2 hq => ?_)
  obtain ⟨rfl, hn9, rfl⟩ := hq; replace hn9 := hn9.symm; subst hn9
  refine v_st (st2 := [.int (nI (10 + 6 * f + 1)), .ref (m + 1)]) rfl ?_
  refine n_ialdv (f := vO C) (j := 10 + 6 * f + 1) (y := C 2 f) dX7_pays_9 hv (by omega) (by decide) ((vrd (C := C) (lgF (f := f) (w := 1) (by omega) (by decide)) (Or.inl (by omega))).trans rfl) ?_
  have b21 := hK 2 f
  refine v_iload_n dX7_pays_10 rfl ?_
  refine n_icmp_ge (tgt := 27) (x := C 2 f) (y := k) dX7_pays_11 (by decide) (by omega) (by omega) (fun c22 => ?_) (fun c22 => ?_)
  · refine v_iload_n dX7_pays_27 rfl ?_
    refine v_st (st2 := [.int (nI (pay C f k))]) (by rw [show pay C f k = k from Nat.min_eq_left (by omega)]) ?_
    have hpl : pay C f k ≤ C 2 f := Nat.min_le_right _ _
    have hpk : pay C f k ≤ k := Nat.min_le_left _ _
    refine v_istore_n dX7_pays_28 rfl (by decide) ?_
    refine v_ls (ls2 := [some (.ref m), some (.int (nI f)), some (.int (nI k)), some (.int (nI (pay C f k)))]) rfl ?_
    refine v_aload_n dX7_pays_29 rfl ?_
    refine fX7_7 (v := .ref (m + 1)) rfl dX7_pays_30 ho rfl ?_
    refine v_iload_n dX7_pays_33 rfl ?_
    refine v_iconst (v := nI 1) dX7_pays_34 (by decide) ?_
    refine v_callS (st := [.ref (m + 1)]) dX7_pays_35 (t_X7_at (f := f) (w := 1)) wX7_63 rfl ⟨Nat.le_of_ble_eq_true rfl, Nat.le_of_ble_eq_true rfl⟩ (Nat.le_of_ble_eq_true rfl) ⟨Nat.le_of_ble_eq_true rfl, Nat.le_of_ble_eq_true rfl⟩ (fun r n2 h2 hq => ?_)
    obtain ⟨rfl, hn9, rfl⟩ := hq; replace hn9 := hn9.symm; subst hn9
    refine v_st (st2 := [.int (nI (10 + 6 * f + 1)), .ref (m + 1)]) rfl ?_
    refine v_dup2 dX7_pays_38 rfl rfl ?_
    refine n_ialdv (f := vO C) (j := 10 + 6 * f + 1) (y := C 2 f) dX7_pays_39 hv (by omega) (by decide) ((vrd (C := C) (lgF (f := f) (w := 1) (by omega) (by decide)) (Or.inl (by omega))).trans rfl) ?_
    refine v_iload_n dX7_pays_40 rfl ?_
    refine n_isub (x := C 2 f) (y := pay C f k) dX7_pays_41 (by omega) ?_
    refine n_iast (f := vO C) (j := 10 + 6 * f + 1) (x := C 2 f - pay C f k) dX7_pays_42 hv (by omega) (by decide) ?_
    refine nw (fun h1 f1 s1 => ?_)
    have hv23 : h1 (m + 1) = some (ar G 182 (vO (cu C 2 f (C 2 f - pay C f k)))) := Eq.mp (congrArg (fun F => h1 (m + 1) = some (ar G 182 F)) (vup (C := C) (lgF (f := f) (w := 1) (by omega) (by decide)) (Or.inl (by omega)) (by omega))) f1
    have sa23 := s1
    clear f1 s1
    have hK23 : bdk (b + 100) (cu C 2 f (C 2 f - pay C f k)) := bdk_cu hK (by omega) (by omega)
    have hD23 := hK23.bd (by omega)
    have fa24 := (sa23 (m) (by omega)).trans ho
    have fr25 := offn_in (k := 1) (q := (m + 1)) offn_rf sa23 (by omega)
    refine v_iload_n dX7_pays_43 rfl ?_
    refine v_iret dX7_pays_44 rfl ?_ (Nat.le_of_ble_eq_true rfl) (Nat.le_of_ble_eq_true rfl)
    exact ⟨rfl, rfl, hv23, fr25⟩
  · refine v_aload_n dX7_pays_14 rfl ?_
    refine fX7_7 (v := .ref (m + 1)) rfl dX7_pays_15 ho rfl ?_
    refine v_iload_n dX7_pays_18 rfl ?_
    refine v_iconst (v := nI 1) dX7_pays_19 (by decide) ?_
    refine v_callS (st := [.ref (m + 1)]) dX7_pays_20 (t_X7_at (f := f) (w := 1)) wX7_63 rfl ⟨Nat.le_of_ble_eq_true rfl, Nat.le_of_ble_eq_true rfl⟩ (Nat.le_of_ble_eq_true rfl) ⟨Nat.le_of_ble_eq_true rfl, Nat.le_of_ble_eq_true rfl⟩ (fun r n2 h2 hq => ?_)
    obtain ⟨rfl, hn9, rfl⟩ := hq; replace hn9 := hn9.symm; subst hn9
    refine v_st (st2 := [.int (nI (10 + 6 * f + 1)), .ref (m + 1)]) rfl ?_
    refine n_ialdv (f := vO C) (j := 10 + 6 * f + 1) (y := C 2 f) dX7_pays_23 hv (by omega) (by decide) ((vrd (C := C) (lgF (f := f) (w := 1) (by omega) (by decide)) (Or.inl (by omega))).trans rfl) ?_
    refine v_goto (tgt := 28) dX7_pays_24 (by decide) ?_
    refine v_st (st2 := [.int (nI (pay C f k))]) (by rw [show pay C f k = C 2 f from Nat.min_eq_right (by omega)]) ?_
    have hpl : pay C f k ≤ C 2 f := Nat.min_le_right _ _
    have hpk : pay C f k ≤ k := Nat.min_le_left _ _
    refine v_istore_n dX7_pays_28 rfl (by decide) ?_
    refine v_ls (ls2 := [some (.ref m), some (.int (nI f)), some (.int (nI k)), some (.int (nI (pay C f k)))]) rfl ?_
    refine v_aload_n dX7_pays_29 rfl ?_
    refine fX7_7 (v := .ref (m + 1)) rfl dX7_pays_30 ho rfl ?_
    refine v_iload_n dX7_pays_33 rfl ?_
    refine v_iconst (v := nI 1) dX7_pays_34 (by decide) ?_
    refine v_callS (st := [.ref (m + 1)]) dX7_pays_35 (t_X7_at (f := f) (w := 1)) wX7_63 rfl ⟨Nat.le_of_ble_eq_true rfl, Nat.le_of_ble_eq_true rfl⟩ (Nat.le_of_ble_eq_true rfl) ⟨Nat.le_of_ble_eq_true rfl, Nat.le_of_ble_eq_true rfl⟩ (fun r n2 h2 hq => ?_)
    obtain ⟨rfl, hn9, rfl⟩ := hq; replace hn9 := hn9.symm; subst hn9
    refine v_st (st2 := [.int (nI (10 + 6 * f + 1)), .ref (m + 1)]) rfl ?_
    refine v_dup2 dX7_pays_38 rfl rfl ?_
    refine n_ialdv (f := vO C) (j := 10 + 6 * f + 1) (y := C 2 f) dX7_pays_39 hv (by omega) (by decide) ((vrd (C := C) (lgF (f := f) (w := 1) (by omega) (by decide)) (Or.inl (by omega))).trans rfl) ?_
    refine v_iload_n dX7_pays_40 rfl ?_
    refine n_isub (x := C 2 f) (y := pay C f k) dX7_pays_41 (by omega) ?_
    refine n_iast (f := vO C) (j := 10 + 6 * f + 1) (x := C 2 f - pay C f k) dX7_pays_42 hv (by omega) (by decide) ?_
    refine nw (fun h1 f1 s1 => ?_)
    have hv26 : h1 (m + 1) = some (ar G 182 (vO (cu C 2 f (C 2 f - pay C f k)))) := Eq.mp (congrArg (fun F => h1 (m + 1) = some (ar G 182 F)) (vup (C := C) (lgF (f := f) (w := 1) (by omega) (by decide)) (Or.inl (by omega)) (by omega))) f1
    have sa26 := s1
    clear f1 s1
    have hK26 : bdk (b + 100) (cu C 2 f (C 2 f - pay C f k)) := bdk_cu hK (by omega) (by omega)
    have hD26 := hK26.bd (by omega)
    have fa27 := (sa26 (m) (by omega)).trans ho
    have fr28 := offn_in (k := 1) (q := (m + 1)) offn_rf sa26 (by omega)
    refine v_iload_n dX7_pays_43 rfl ?_
    refine v_iret dX7_pays_44 rfl ?_ (Nat.le_of_ble_eq_true rfl) (Nat.le_of_ble_eq_true rfl)
    exact ⟨rfl, rfl, hv26, fr28⟩
set_option maxRecDepth 20000 in
set_option maxHeartbeats 4000000 in
theorem t_X7_earns {l : Launch} {G : vG} {h : AH} {n : Nat} {f k : Nat} {m ch sv tn hr en ln wg dg : Nat} {fl wy dt : Int32} {b : Nat} {C : Ct} (ho : h m = some (mo m ch sv tn hr en ln wg dg fl wy dt)) (hv : h (m + 1) = some (ar G 182 (vO C))) (hK : bdk b C) (hb2 : b + 1000 ≤ 2 ^ 28) (hf : f < 6) (hk : k ≤ 100) (h99 : C 2 f ≤ 99) : Mt l G mX7_earns [.ref m, .int (nI f), .int (nI k)] (n) h 0 0 (fun r n2 h2 => r = none ∧ n2 = n ∧ h2 (m + 1) = some (ar G 182 (vO (gain C f k))) ∧ offn 1 (m + 1) h h2) := by
  refine Mt.of (by decide) (Nat.le_of_ble_eq_true rfl) rfl ?_
  refine v_ls (ls2 := [some (.ref m), some (.int (nI f)), some (.int (nI k)), none]) rfl ?_
  have hB := hK.bd (by omega)
  have bK9 := hK 2 f
  have bK06 := hK 0 6
  refine v_aload_n dX7_earns_0 rfl ?_
  refine fX7_7 (v := .ref (m + 1)) rfl dX7_earns_1 ho rfl ?_
  refine v_iload_n dX7_earns_4 rfl ?_
  refine v_iconst (v := nI 1) dX7_earns_5 (by decide) ?_
  refine v_callS (st := [.ref (m + 1)]) dX7_earns_6 (t_X7_at (f := f) (w := 1)) wX7_63 rfl ⟨Nat.le_of_ble_eq_true rfl, Nat.le_of_ble_eq_true rfl⟩ (Nat.le_of_ble_eq_true rfl) ⟨Nat.le_of_ble_eq_true rfl, Nat.le_of_ble_eq_true rfl⟩ (fun r n2 h2 hq => ?_)
  obtain ⟨rfl, hn9, rfl⟩ := hq; replace hn9 := hn9.symm; subst hn9
  refine v_st (st2 := [.int (nI (10 + 6 * f + 1)), .ref (m + 1)]) rfl ?_
  refine v_dup2 dX7_earns_9 rfl rfl ?_
  refine n_ialdv (f := vO C) (j := 10 + 6 * f + 1) (y := C 2 f) dX7_earns_10 hv (by omega) (by decide) ((vrd (C := C) (lgF (f := f) (w := 1) (by omega) (by decide)) (Or.inl (by omega))).trans rfl) ?_
  have b21 := hK 2 f
  refine v_iload_n dX7_earns_11 rfl ?_
  refine n_iadd (x := C 2 f) (y := k) dX7_earns_12 ?_
  refine n_iast (f := vO C) (j := 10 + 6 * f + 1) (x := C 2 f + k) dX7_earns_13 hv (by omega) (by decide) ?_
  refine nw (fun h1 f1 s1 => ?_)
  have hv22 : h1 (m + 1) = some (ar G 182 (vO (cu C 2 f (C 2 f + k)))) := Eq.mp (congrArg (fun F => h1 (m + 1) = some (ar G 182 F)) (vup (C := C) (lgF (f := f) (w := 1) (by omega) (by decide)) (Or.inl (by omega)) (by omega))) f1
  have sa22 := s1
  clear f1 s1
  have hK22 : bdk (b + 100) (cu C 2 f (C 2 f + k)) := bdk_cu hK (by omega) (by omega)
  have hD22 := hK22.bd (by omega)
  have fa23 := (sa22 (m) (by omega)).trans ho
  have fr24 := offn_in (k := 1) (q := (m + 1)) offn_rf sa22 (by omega)
  refine v_aload_n dX7_earns_14 rfl ?_
  refine fX7_7 (v := .ref (m + 1)) rfl dX7_earns_15 fa23 rfl ?_
  refine v_iload_n dX7_earns_18 rfl ?_
  refine v_iconst (v := nI 1) dX7_earns_19 (by decide) ?_
  refine v_callS (st := [.ref (m + 1)]) dX7_earns_20 (t_X7_at (f := f) (w := 1)) wX7_63 rfl ⟨Nat.le_of_ble_eq_true rfl, Nat.le_of_ble_eq_true rfl⟩ (Nat.le_of_ble_eq_true rfl) ⟨Nat.le_of_ble_eq_true rfl, Nat.le_of_ble_eq_true rfl⟩ (fun r n2 h2 hq => ?_)
  obtain ⟨rfl, hn9, rfl⟩ := hq; replace hn9 := hn9.symm; subst hn9
  refine v_st (st2 := [.int (nI (10 + 6 * f + 1)), .ref (m + 1)]) rfl ?_
  refine n_ialdv (f := vO (cu C 2 f (C 2 f + k))) (j := 10 + 6 * f + 1) (y := C 2 f + k) dX7_earns_23 hv22 (by omega) (by decide) ((vrd (C := cu C 2 f (C 2 f + k)) (lgF (f := f) (w := 1) (by omega) (by decide)) (Or.inl (by omega))).trans (show va_up (C 2) f (C 2 f + k) f = (C 2 f + k) from nI_up)) ?_
  refine v_bipush (v := nI 99) dX7_earns_24 (by decide) ?_
  refine v_isub dX7_earns_26 ?_
  refine v_istore_n dX7_earns_27 rfl (by decide) ?_
  refine v_ls (ls2 := [some (.ref m), some (.int (nI f)), some (.int (nI k)), some (.int (nI (C 2 f + k) - nI 99))]) rfl ?_
  refine v_iload_n dX7_earns_28 rfl ?_
  refine v_if_gt (tgt := 33) dX7_earns_29 (by decide) (fun c25 => ?_) (fun c25 => ?_)
  · rw [sub_gt0 (by omega) (by omega)] at c25
    refine v_ls (ls2 := [some (.ref m), some (.int (nI f)), some (.int (nI k)), some (.int (nI (C 2 f + k - 99)))]) (by rw [pk_sub (by omega)]) ?_
    refine v_aload_n dX7_earns_33 rfl ?_
    refine fX7_7 (v := .ref (m + 1)) rfl dX7_earns_34 fa23 rfl ?_
    refine v_iload_n dX7_earns_37 rfl ?_
    refine v_iconst (v := nI 1) dX7_earns_38 (by decide) ?_
    refine v_callS (st := [.ref (m + 1)]) dX7_earns_39 (t_X7_at (f := f) (w := 1)) wX7_63 rfl ⟨Nat.le_of_ble_eq_true rfl, Nat.le_of_ble_eq_true rfl⟩ (Nat.le_of_ble_eq_true rfl) ⟨Nat.le_of_ble_eq_true rfl, Nat.le_of_ble_eq_true rfl⟩ (fun r n2 h2 hq => ?_)
    obtain ⟨rfl, hn9, rfl⟩ := hq; replace hn9 := hn9.symm; subst hn9
    refine v_st (st2 := [.int (nI (10 + 6 * f + 1)), .ref (m + 1)]) rfl ?_
    refine v_bipush (v := nI 99) dX7_earns_42 (by decide) ?_
    refine n_iast (f := vO (cu C 2 f (C 2 f + k))) (j := 10 + 6 * f + 1) (x := 99) dX7_earns_44 hv22 (by omega) (by decide) ?_
    refine nw (fun h1 f1 s1 => ?_)
    have hv26 : h1 (m + 1) = some (ar G 182 (vO (cu (cu C 2 f (C 2 f + k)) 2 f 99))) := Eq.mp (congrArg (fun F => h1 (m + 1) = some (ar G 182 F)) (vup (C := cu C 2 f (C 2 f + k)) (lgF (f := f) (w := 1) (by omega) (by decide)) (Or.inl (by omega)) (by omega))) f1
    have sa26 := s1
    clear f1 s1
    have hK26 : bdk (b + 200) (cu (cu C 2 f (C 2 f + k)) 2 f 99) := bdk_cu hK22 (by omega) (by omega)
    have hD26 := hK26.bd (by omega)
    have fa27 := (sa26 (m) (by omega)).trans fa23
    have fr28 := offn_in (k := 1) (q := (m + 1)) fr24 sa26 (by omega)
    refine v_aload_n dX7_earns_45 rfl ?_
    refine fX7_7 (v := .ref (m + 1)) rfl dX7_earns_46 fa27 rfl ?_
    refine v_bipush (v := nI 6) dX7_earns_49 (by decide) ?_
    refine v_dup2 dX7_earns_51 rfl rfl ?_
    refine n_ialdv (f := vO (cu (cu C 2 f (C 2 f + k)) 2 f 99)) (j := 6) (y := C 0 6) dX7_earns_52 hv26 (by omega) (by decide) ((vrd (C := cu (cu C 2 f (C 2 f + k)) 2 f 99) lgn6 (Or.inl (by decide))).trans rfl) ?_
    have b29 := hK 0 6
    refine v_iload_n dX7_earns_53 rfl ?_
    refine n_iadd (x := C 0 6) (y := C 2 f + k - 99) dX7_earns_54 ?_
    refine n_iast (f := vO (cu (cu C 2 f (C 2 f + k)) 2 f 99)) (j := 6) (x := C 0 6 + (C 2 f + k - 99)) dX7_earns_55 hv26 (by omega) (by decide) ?_
    refine nw (fun h1 f1 s1 => ?_)
    have hv30 : h1 (m + 1) = some (ar G 182 (vO (cu (cu (cu C 2 f (C 2 f + k)) 2 f 99) 0 6 (C 0 6 + (C 2 f + k - 99))))) := Eq.mp (congrArg (fun F => h1 (m + 1) = some (ar G 182 F)) (vup (C := cu (cu C 2 f (C 2 f + k)) 2 f 99) lgn6 (Or.inl (by decide)) (by omega))) f1
    have sa30 := s1
    clear f1 s1
    have hK30 : bdk (b + 300) (cu (cu (cu C 2 f (C 2 f + k)) 2 f 99) 0 6 (C 0 6 + (C 2 f + k - 99))) := bdk_cu hK26 (by omega) (by omega)
    have hD30 := hK30.bd (by omega)
    have fa31 := (sa30 (m) (by omega)).trans fa27
    have fr32 := offn_in (k := 1) (q := (m + 1)) fr28 sa30 (by omega)
    refine v_vret dX7_earns_56 rfl ?_ (Nat.le_of_ble_eq_true rfl) (Nat.le_of_ble_eq_true rfl)
    exact ⟨rfl, rfl, by rw [gain_gt (by omega) h99]; exact hv30, fr32⟩
  · rw [sub_gt0 (by omega) (by omega)] at c25
    refine v_vret dX7_earns_32 rfl ?_ (Nat.le_of_ble_eq_true rfl) (Nat.le_of_ble_eq_true rfl)
    exact ⟨rfl, rfl, by rw [gain_le (by omega)]; exact hv22, fr24⟩
