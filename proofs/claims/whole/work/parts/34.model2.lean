theorem v_arr {l : Launch} {G : vG} {M : vM} {rc rs : Nat} {Fz : vFin} {pc : Nat} {ls : List (Option Value)} {st : List Value} {n : Nat} {h : AH} {cells slots : Nat} {a k : Nat} {f g : Nat → Nat} (he : h a = some (ar G k g)) (hfg : ∀ i, i < k → g i = f i) (kk : ∀ h1 : AH, h1 a = some (ar G k f) → offn 1 a h h1 → V l G M rc rs Fz pc ls st n h1 cells slots) : V l G M rc rs Fz pc ls st n h cells slots := by
  refine v_same (h2 := va_up h a (some (ar G k f))) (fun x e he2 => ?_) (kk _ (if_pos rfl) (fun x hx => if_neg (by omega)))
  unfold va_up at he2
  by_cases hx : x = a
  · rw [if_pos hx] at he2
    cases he2
    subst hx
    exact ⟨_, he, Or.inr ⟨_, k, _, _, rfl, rfl, fun j hj => congrArg nI (hfg j hj)⟩⟩
  · rw [if_neg hx] at he2
    exact ⟨e, he2, Or.inl rfl⟩
def slG (C : Ct) (f : Nat) : Ct := if C 4 f = 0 then payU (cu (cu C 17 1 (C 17 1 + 1)) 6 f (C 6 f + 1)) f 3 else cu (cu (cu C 17 1 (C 17 1 + 1)) 6 f (C 6 f + 1)) 4 f (C 4 f - 1)
theorem bdk_slG {b c f : Nat} {C : Ct} (h : bdk b C) (hc : b + 400 ≤ c) : bdk c (slG C f) := by
  have h1 := h 17 1
  have h2 := h 6 f
  have h4 := h 4 f
  have a1 : bdk (b + 100) (cu C 17 1 (C 17 1 + 1)) := bdk_cu h (by omega) (by omega)
  have a2 : bdk (b + 200) (cu (cu C 17 1 (C 17 1 + 1)) 6 f (C 6 f + 1)) := bdk_cu a1 (by omega) (by omega)
  unfold slG
  split
  · exact bdk_payU a2 (by omega) (by omega)
  · exact bdk_cu a2 (by omega) (by omega)
theorem prG_s {C : Ct} {f j t : Nat} (hl : lau C f j t < 5) : slG (cu (cu (cu C 10 (j * 4 + t) (C 10 (j * 4 + t) + 1)) 5 f (C 5 f + 1)) 18 t (C 18 t + 1)) f = prG C f j t := by
  unfold prG
  rw [if_pos hl]
  unfold prf slG
  rw [if_pos hl]
  by_cases h4 : C 4 f = 0
  · rw [if_pos (show cu (cu (cu C 10 (j * 4 + t) (C 10 (j * 4 + t) + 1)) 5 f (C 5 f + 1)) 18 t (C 18 t + 1) 4 f = 0 from h4), if_pos h4]
    funext g
    by_cases g5 : g = 0
    · subst g5; rfl
    by_cases g5 : g = 2
    · subst g5; rfl
    by_cases g5 : g = 5
    · subst g5; rfl
    by_cases g5 : g = 6
    · subst g5; rfl
    by_cases g5 : g = 10
    · subst g5; rfl
    by_cases g5 : g = 17
    · subst g5; rfl
    by_cases g5 : g = 18
    · subst g5; rfl
    simp only [payU, addT, cu, if_neg, *, not_false_eq_true]
  · rw [if_neg (show ¬ cu (cu (cu C 10 (j * 4 + t) (C 10 (j * 4 + t) + 1)) 5 f (C 5 f + 1)) 18 t (C 18 t + 1) 4 f = 0 from h4), if_neg h4]
    funext g
    by_cases g5 : g = 4
    · subst g5; rfl
    by_cases g5 : g = 5
    · subst g5; rfl
    by_cases g5 : g = 6
    · subst g5; rfl
    by_cases g5 : g = 10
    · subst g5; rfl
    by_cases g5 : g = 17
    · subst g5; rfl
    by_cases g5 : g = 18
    · subst g5; rfl
    simp only [addT, cu, if_neg, *, not_false_eq_true]
theorem prG_l {C : Ct} {f j t : Nat} (hl : ¬ lau C f j t < 5) : cu (gain (cu (cu (cu (cu (cu C 10 (j * 4 + t) (C 10 (j * 4 + t) + 1)) 5 f (C 5 f + 1)) 18 t (C 18 t + 1)) 17 0 (C 17 0 + lau C f j t)) 16 t (C 16 t + lau C f j t)) f (lau C f j t)) 3 f (C 3 f + (lau C f j t - 11)) = prG C f j t := by
  unfold prG
  rw [if_neg hl]
  unfold prf
  rw [if_neg hl]
  funext g
  by_cases g5 : g = 0
  · subst g5; rfl
  by_cases g5 : g = 2
  · subst g5; rfl
  by_cases g5 : g = 3
  · subst g5; rfl
  by_cases g5 : g = 5
  · subst g5; rfl
  by_cases g5 : g = 10
  · subst g5; rfl
  by_cases g5 : g = 16
  · subst g5; rfl
  by_cases g5 : g = 17
  · subst g5; rfl
  by_cases g5 : g = 18
  · subst g5; rfl
  simp only [gain, addT, cu, if_neg, *, not_false_eq_true]
def shT (F : Nat → Nat) (k i : Nat) : Nat := if 142 ≤ i ∧ i < k then (if i + 4 < 182 then F (i + 4) else 0) else F i
theorem shT_s {F : Nat → Nat} {k : Nat} (h1 : 142 ≤ k) (i : Nat) : va_up (shT F k) k (if k + 4 < 182 then F (k + 4) else 0) i = shT F (k + 1) i := by
  unfold va_up shT
  by_cases h : i = k
  · subst h; rw [if_pos rfl, if_pos (show 142 ≤ i ∧ i < i + 1 by omega)]
  · rw [if_neg h]
    by_cases h2 : 142 ≤ i ∧ i < k
    · rw [if_pos h2, if_pos (show 142 ≤ i ∧ i < k + 1 by omega)]
    · rw [if_neg h2, if_neg (by omega)]
theorem crH_raw {C : Ct} (h0 : 0 < C 0 2) (hn : C 0 2 ≤ 10) (i : Nat) : va_up (va_up (shT (vO (cu C 0 3 (C 14 0))) 182) 2 (C 0 2 - 1)) 7 (C 0 7 + 1) i = vO (crH C) i := by
  obtain ⟨D, hD⟩ : ∃ D : Ct, D = cu C 0 3 (C 14 0) := ⟨_, rfl⟩
  have d02 : D 0 2 = C 0 2 := by rw [hD]; rfl
  have e : ∀ a b, crH C a b = if a = 0 ∧ b = 7 then C 0 7 + 1 else if a = 0 ∧ b = 2 then C 0 2 - 1 else shC D (C 0 2) a b := by
    intro a b
    unfold crH rmF
    rw [← hD, d02, cu_at, cu_at]
  have e02 : crH C 0 2 = C 0 2 - 1 := rfl
  rw [← hD]
  unfold va_up
  by_cases h7 : i = 7
  · subst h7; rw [if_pos rfl, vrd lgn7 (Or.inl (by decide)), e, if_pos ⟨rfl, rfl⟩]
  rw [if_neg h7]
  by_cases h2 : i = 2
  · subst h2; rw [if_pos rfl, vrd lgn2 (Or.inl (by decide)), e02]
  rw [if_neg h2]
  have u7 : ¬ (lg i = 0 ∧ lj i = 7) := fun z => h7 (by rw [← linv_lg i, z.1, z.2]; rfl)
  have u2 : ¬ (lg i = 0 ∧ lj i = 2) := fun z => h2 (by rw [← linv_lg i, z.1, z.2]; rfl)
  by_cases hi : i < 142
  · have hg : ¬ (11 ≤ lg i ∧ lg i ≤ 14) := by rcases lgj i with ⟨h9, e1, e2⟩ | ⟨h9, e1, e2⟩ | ⟨h9, e1, e2⟩ | ⟨h9, e1, e2⟩ | ⟨h9, e1, e2⟩ | ⟨h9, e1, e2⟩ | ⟨h9, e1, e2⟩ | ⟨h9, e1, e2⟩ | ⟨h9, e1, e2⟩ | ⟨h9, e1, e2⟩ <;> omega
    unfold shT
    rw [if_neg (by omega)]
    unfold vO
    rw [if_pos (Or.inl hi), if_pos (Or.inl hi), e, if_neg u7, if_neg u2]
    unfold shC
    rw [if_neg hg]
  · have hl := lgB (p := (i - 142) / 4) (w := (i - 142) % 4) (by omega)
    have hl4 := lgB (p := (i - 142) / 4 + 1) (w := (i - 142) % 4) (by omega)
    rw [show 142 + 4 * ((i - 142) / 4) + (i - 142) % 4 = i by omega] at hl
    rw [show 142 + 4 * ((i - 142) / 4 + 1) + (i - 142) % 4 = i + 4 by omega] at hl4
    unfold shT
    by_cases h8 : i < 182
    · rw [if_pos ⟨by omega, h8⟩]
      by_cases h3 : i + 4 < 182
      · rw [if_pos h3]
        unfold vO
        rw [d02, e02]
        by_cases h4 : (i - 142) / 4 + 1 < C 0 2
        · rw [if_pos (Or.inr (by omega)), if_pos (Or.inr (by omega)), e, if_neg u7, if_neg u2]
          unfold shC
          rw [if_pos (by omega)]
          unfold shl
          rw [hl.2, if_pos h4, hl4.1, hl4.2, hl.1]
        · rw [if_neg (by omega), if_neg (by omega)]
      · rw [if_neg h3]
        unfold vO
        rw [e02, if_neg (by omega)]
    · rw [if_neg (by omega)]
      unfold vO
      rw [d02, e02, if_neg (by omega), if_neg (by omega)]
def insT (F : Nat → Nat) (n p i : Nat) : Nat := if 142 + 4 * (p + 1) ≤ i ∧ i < 142 + 4 * (n + 1) then F (i - 4) else F i
def innT (F : Nat → Nat) (n p k i : Nat) : Nat := if 142 + 4 * p ≤ i ∧ i < 142 + 4 * p + k then F (i - 4) else insT F n p i
theorem insT_0 {F : Nat → Nat} {n : Nat} (i : Nat) : F i = insT F n n i := by unfold insT; rw [if_neg (by omega)]
theorem innT_0 {F : Nat → Nat} {n p : Nat} (i : Nat) : insT F n p i = innT F n p 0 i := by unfold innT; rw [if_neg (by omega)]
theorem innT_s {F : Nat → Nat} {n p k : Nat} (i : Nat) : va_up (innT F n p k) (142 + 4 * p + k) (F (142 + 4 * p + k - 4)) i = innT F n p (k + 1) i := by
  unfold va_up innT
  by_cases h : i = 142 + 4 * p + k
  · subst h; rw [if_pos rfl, if_pos (by omega)]
  · rw [if_neg h]
    by_cases h2 : 142 + 4 * p ≤ i ∧ i < 142 + 4 * p + k
    · rw [if_pos h2, if_pos (by omega)]
    · rw [if_neg h2, if_neg (by omega)]
theorem innT_4 {F : Nat → Nat} {n p : Nat} (hp : p + 1 ≤ n) (i : Nat) : innT F n (p + 1) 4 i = insT F n p i := by
  unfold innT insT
  by_cases h : 142 + 4 * (p + 1) ≤ i ∧ i < 142 + 4 * (p + 1) + 4
  · rw [if_pos h, if_pos (by omega)]
  · rw [if_neg h]
    by_cases h2 : 142 + 4 * (p + 1 + 1) ≤ i ∧ i < 142 + 4 * (n + 1)
    · rw [if_pos h2, if_pos (by omega)]
    · rw [if_neg h2, if_neg (by omega)]
theorem ins_raw {C : Ct} {p f j t hr : Nat} (hp : p ≤ C 0 2) (i : Nat) : va_up (va_up (va_up (va_up (va_up (insT (vO C) (C 0 2) p) (142 + 4 * p) f) (142 + 4 * p + 1) j) (142 + 4 * p + 2) t) (142 + 4 * p + 3) hr) 2 (C 0 2 + 1) i = vO (insF C p f j t hr) i := by
  have e02 : insF C p f j t hr 0 2 = C 0 2 + 1 := rfl
  have e : ∀ a b, insF C p f j t hr a b = if a = 0 ∧ b = 2 then C 0 2 + 1 else if a = 14 ∧ b = p then hr else if a = 13 ∧ b = p then t else if a = 12 ∧ b = p then j else if a = 11 ∧ b = p then f else shR C p a b := by
    intro a b
    unfold insF
    rw [cu_at, cu_at, cu_at, cu_at, cu_at]
  by_cases h2 : i = 2
  · subst h2
    unfold va_up
    rw [if_pos rfl, vrd lgn2 (Or.inl (by decide)), e02]
  by_cases hi : i < 142
  · have u2 : ¬ (lg i = 0 ∧ lj i = 2) := fun z => h2 (by rw [← linv_lg i, z.1, z.2]; rfl)
    have hg : ¬ (11 ≤ lg i ∧ lg i ≤ 14) := by rcases lgj i with ⟨h9, e1, e2⟩ | ⟨h9, e1, e2⟩ | ⟨h9, e1, e2⟩ | ⟨h9, e1, e2⟩ | ⟨h9, e1, e2⟩ | ⟨h9, e1, e2⟩ | ⟨h9, e1, e2⟩ | ⟨h9, e1, e2⟩ | ⟨h9, e1, e2⟩ | ⟨h9, e1, e2⟩ <;> omega
    unfold va_up insT
    rw [if_neg h2, if_neg (by omega), if_neg (by omega), if_neg (by omega), if_neg (by omega), if_neg (by omega)]
    unfold vO
    rw [if_pos (Or.inl hi), if_pos (Or.inl hi), e, if_neg u2, if_neg (by omega), if_neg (by omega), if_neg (by omega), if_neg (by omega)]
    unfold shR
    rw [if_neg hg]
  · obtain ⟨q, hq⟩ : ∃ q, q = (i - 142) / 4 := ⟨_, rfl⟩
    obtain ⟨w, hw⟩ : ∃ w, w = (i - 142) % 4 := ⟨_, rfl⟩
    have hl := lgB (p := q) (w := w) (by omega)
    rw [show 142 + 4 * q + w = i by omega] at hl
    unfold va_up
    rw [if_neg h2]
    have R : vO (insF C p f j t hr) i = if q < C 0 2 + 1 then insF C p f j t hr (11 + w) q else 0 := by
      unfold vO
      rw [e02, hl.1, hl.2]
      by_cases z : q < C 0 2 + 1
      · rw [if_pos z, if_pos (Or.inr (by omega))]
      · rw [if_neg z, if_neg (by omega)]
    rw [R, e, if_neg (show ¬ (11 + w = 0 ∧ q = 2) by omega)]
    rcases Nat.lt_trichotomy q p with z | z | z
    · rw [if_neg (by omega), if_neg (by omega), if_neg (by omega), if_neg (by omega), if_pos (by omega), if_neg (by omega), if_neg (by omega), if_neg (by omega), if_neg (by omega)]
      unfold insT shR shr
      rw [if_neg (by omega), if_pos (by omega), if_neg (by omega), vrd hl (Or.inr (by omega))]
    · subst z
      rw [if_pos (show q < C 0 2 + 1 by omega)]
      rcases (by omega : w = 0 ∨ w = 1 ∨ w = 2 ∨ w = 3) with y | y | y | y
      · rw [if_neg (by omega), if_neg (by omega), if_neg (by omega), if_pos (by omega), if_neg (by omega), if_neg (by omega), if_neg (by omega), if_pos (by omega)]
      · rw [if_neg (by omega), if_neg (by omega), if_pos (by omega), if_neg (by omega), if_neg (by omega), if_pos (by omega)]
      · rw [if_neg (by omega), if_pos (by omega), if_neg (by omega), if_pos (by omega)]
      · rw [if_pos (by omega), if_pos (by omega)]
    · rw [if_neg (by omega), if_neg (by omega), if_neg (by omega), if_neg (by omega)]
      have hl4 := lgB (p := q - 1) (w := w) (by omega)
      rw [show 142 + 4 * (q - 1) + w = i - 4 by omega] at hl4
      unfold insT
      by_cases y : q < C 0 2 + 1
      · rw [if_pos (by omega), if_pos y, if_neg (by omega), if_neg (by omega), if_neg (by omega), if_neg (by omega)]
        unfold shR shr
        rw [if_pos (by omega), if_pos (by omega), vrd hl4 (Or.inr (by omega))]
      · rw [if_neg (by omega), if_neg y]
        unfold vO
        rw [if_neg (by omega)]
theorem plc_w {C : Ct} {f j k w : Nat} (h : Iv C) (hb : bkF C f k = none) (hw : w ≤ C 0 2) (h1 : ∀ s, w ≤ s → s < C 0 2 → ¬ bkA C s f j k) (h2 : w = 0 ∨ bkA C (w - 1) f j k) : plc C f j k = w := by
  obtain ⟨q1, q2⟩ := plc_ok (j := j) h hb
  have hp := plc_le (C := C) (f := f) (j := j) (k := k)
  rcases Nat.lt_trichotomy (plc C f j k) w with z | z | z
  · have h3 := h2.resolve_left (by omega)
    have h4 := q2 (w - 1) (by omega) (by omega)
    rw [bkA_aB] at h3
    unfold aB at h3 h4
    omega
  · exact z
  · exact absurd (bkA_aB.mpr (q1 w z)) (h1 w (Nat.le_refl _) (by omega))
set_option maxRecDepth 20000 in
set_option maxHeartbeats 4000000 in
theorem t_X7_comes {l : Launch} {G : vG} {h : AH} {n : Nat} {s : Int32} {m ch sv tn hr en ln wg dg : Nat} {fl wy dt : Int32} {b : Nat} {C : Ct} (ho : h m = some (mo m ch sv tn hr en ln wg dg fl wy dt)) (hv : h (m + 1) = some (ar G 182 (vO C))) (hK : bdk b C) (hb1 : 200 ≤ b) (hb2 : b + 5000 ≤ 2 ^ 28) (hI : Iv C) : Mt l G mX7_comes [.ref m, .int s] (n) h 0 0 (pm G m ch sv tn hr en ln wg dg fl wy dt C h n (dFool C s)) := by
  refine Mt.of (by decide) (Nat.le_of_ble_eq_true rfl) rfl ?_
  refine v_ls (ls2 := [some (.ref m), some (.int s), none]) rfl ?_
  have hB := hK.bd (by omega)
  obtain ⟨hF, hJ, hn, hs1, hc99, hs4, hs7, hs8, hs15, hbk9, hs9⟩ := hI.1
  have b00 := hB 0 0
  have b01 := hB 0 1
  have b02 := hB 0 2
  have b03 := hB 0 3
  refine v_iload_n dX7_comes_0 rfl ?_
  refine v_iconst (v := nI 1) dX7_comes_1 (by decide) ?_
  refine v_bipush (v := nI 9) dX7_comes_2 (by decide) ?_
  refine v_callS (st := []) dX7_comes_4 (t_X7_isIn (x := s) (a := nI 1) (z := nI 9)) wX7_52 rfl ⟨Nat.le_of_ble_eq_true rfl, Nat.le_of_ble_eq_true rfl⟩ (Nat.le_of_ble_eq_true rfl) ⟨Nat.le_of_ble_eq_true rfl, Nat.le_of_ble_eq_true rfl⟩ (fun r n2 h2 hq => ?_)
  obtain ⟨rfl, hn9, rfl⟩ := hq; replace hn9 := hn9.symm; subst hn9
  refine v_st (st2 := [.int (nI (bI (¬ s < nI 1 ∧ ¬ nI 9 < s)))]) rfl ?_
  refine n_ifb_ne (tgt := 18) (p := ¬ s < nI 1 ∧ ¬ nI 9 < s) dX7_comes_7 (by decide) (fun c21 => ?_) (fun c21 => ?_)
  · have c21a : ¬ s < nI 1 := (yes_rg c21).1
    have c21b : s ≤ nI 9 := (yes_rg c21).2
    clear c21
    obtain ⟨k, hk1, hk2, rfl⟩ := rg_of (a := 1) (b := 9) c21a c21b (by decide) (by decide)
    have ek : (nI k).toNatClampNeg = k := nI_clamp (by omega)
    refine v_aload_n dX7_comes_18 rfl ?_
    refine fX7_7 (v := .ref (m + 1)) rfl dX7_comes_19 ho rfl ?_
    refine v_iconst (v := nI 0) dX7_comes_22 (by decide) ?_
    refine n_ialdv (f := vO C) (j := 0) (y := C 0 0) dX7_comes_23 hv (by omega) (by decide) ((vrd (C := C) lgn0 (Or.inl (by decide))).trans rfl) ?_
    have b22 := hK 0 0
    refine v_istore_n dX7_comes_24 rfl (by decide) ?_
    refine v_ls (ls2 := [some (.ref m), some (.int (nI k)), some (.int (nI (C 0 0)))]) rfl ?_
    refine v_iload_n dX7_comes_25 rfl ?_
    refine v_bipush (v := nI 6) dX7_comes_26 (by decide) ?_
    refine n_icmp_ne (tgt := 39) (x := C 0 0) (y := 6) dX7_comes_28 (by decide) (by omega) (by omega) (fun c23 => ?_) (fun c23 => ?_)
    · refine v_aload_n dX7_comes_39 rfl ?_
      refine fX7_7 (v := .ref (m + 1)) rfl dX7_comes_40 ho rfl ?_
      refine v_iload_n dX7_comes_43 rfl ?_
      refine v_iconst (v := nI 0) dX7_comes_44 (by decide) ?_
      refine v_callS (st := [.ref (m + 1)]) dX7_comes_45 (t_X7_at (f := C 0 0) (w := 0)) wX7_63 rfl ⟨Nat.le_of_ble_eq_true rfl, Nat.le_of_ble_eq_true rfl⟩ (Nat.le_of_ble_eq_true rfl) ⟨Nat.le_of_ble_eq_true rfl, Nat.le_of_ble_eq_true rfl⟩ (fun r n2 h2 hq => ?_)
      obtain ⟨rfl, hn9, rfl⟩ := hq; replace hn9 := hn9.symm; subst hn9
      refine v_st (st2 := [.int (nI (10 + 6 * (C 0 0) + 0)), .ref (m + 1)]) rfl ?_
      refine v_iload_n dX7_comes_48 rfl ?_
      refine n_iast (f := vO C) (j := 10 + 6 * (C 0 0) + 0) (x := k) dX7_comes_49 hv (by omega) (by decide) ?_
      refine nw (fun h1 f1 s1 => ?_)
      have hv24 : h1 (m + 1) = some (ar G 182 (vO (cu C 1 (C 0 0) k))) := Eq.mp (congrArg (fun F => h1 (m + 1) = some (ar G 182 F)) (vup (C := C) (lgF (f := (C 0 0)) (w := 0) (by omega) (by decide)) (Or.inl (by omega)) (by omega))) f1
      have sa24 := s1
      clear f1 s1
      have hK24 : bdk (b + 100) (cu C 1 (C 0 0) k) := bdk_cu hK (by omega) (by omega)
      have hD24 := hK24.bd (by omega)
      have fa25 := (sa24 (m) (by omega)).trans ho
      have fr26 := offn_in (k := 2) (q := m) offn_rf sa24 (by omega)
      refine v_aload_n dX7_comes_50 rfl ?_
      refine fX7_7 (v := .ref (m + 1)) rfl dX7_comes_51 fa25 rfl ?_
      refine v_iload_n dX7_comes_54 rfl ?_
      refine v_iconst (v := nI 1) dX7_comes_55 (by decide) ?_
      refine v_callS (st := [.ref (m + 1)]) dX7_comes_56 (t_X7_at (f := C 0 0) (w := 1)) wX7_63 rfl ⟨Nat.le_of_ble_eq_true rfl, Nat.le_of_ble_eq_true rfl⟩ (Nat.le_of_ble_eq_true rfl) ⟨Nat.le_of_ble_eq_true rfl, Nat.le_of_ble_eq_true rfl⟩ (fun r n2 h2 hq => ?_)
      obtain ⟨rfl, hn9, rfl⟩ := hq; replace hn9 := hn9.symm; subst hn9
      refine v_st (st2 := [.int (nI (10 + 6 * (C 0 0) + 1)), .ref (m + 1)]) rfl ?_
      refine v_bipush (v := nI 10) dX7_comes_59 (by decide) ?_
      refine n_iast (f := vO (cu C 1 (C 0 0) k)) (j := 10 + 6 * (C 0 0) + 1) (x := 10) dX7_comes_61 hv24 (by omega) (by decide) ?_
      refine nw (fun h1 f1 s1 => ?_)
      have hv27 : h1 (m + 1) = some (ar G 182 (vO (cu (cu C 1 (C 0 0) k) 2 (C 0 0) 10))) := Eq.mp (congrArg (fun F => h1 (m + 1) = some (ar G 182 F)) (vup (C := cu C 1 (C 0 0) k) (lgF (f := (C 0 0)) (w := 1) (by omega) (by decide)) (Or.inl (by omega)) (by omega))) f1
      have sa27 := s1
      clear f1 s1
      have hK27 : bdk (b + 200) (cu (cu C 1 (C 0 0) k) 2 (C 0 0) 10) := bdk_cu hK24 (by omega) (by omega)
      have hD27 := hK27.bd (by omega)
      have fa28 := (sa27 (m) (by omega)).trans fa25
      have fr29 := offn_in (k := 2) (q := m) fr26 sa27 (by omega)
      refine v_aload_n dX7_comes_62 rfl ?_
      refine fX7_7 (v := .ref (m + 1)) rfl dX7_comes_63 fa28 rfl ?_
      refine v_iconst (v := nI 0) dX7_comes_66 (by decide) ?_
      refine v_dup2 dX7_comes_67 rfl rfl ?_
      refine n_ialdv (f := vO (cu (cu C 1 (C 0 0) k) 2 (C 0 0) 10)) (j := 0) (y := C 0 0) dX7_comes_68 hv27 (by omega) (by decide) ((vrd (C := cu (cu C 1 (C 0 0) k) 2 (C 0 0) 10) lgn0 (Or.inl (by decide))).trans rfl) ?_
      refine v_iconst (v := nI 1) dX7_comes_69 (by decide) ?_
      refine n_iadd (x := C 0 0) (y := 1) dX7_comes_70 ?_
      refine n_iast (f := vO (cu (cu C 1 (C 0 0) k) 2 (C 0 0) 10)) (j := 0) (x := C 0 0 + 1) dX7_comes_71 hv27 (by omega) (by decide) ?_
      refine nw (fun h1 f1 s1 => ?_)
      have hv30 : h1 (m + 1) = some (ar G 182 (vO (cu (cu (cu C 1 (C 0 0) k) 2 (C 0 0) 10) 0 0 (C 0 0 + 1)))) := Eq.mp (congrArg (fun F => h1 (m + 1) = some (ar G 182 F)) (vup (C := cu (cu C 1 (C 0 0) k) 2 (C 0 0) 10) lgn0 (Or.inl (by decide)) (by omega))) f1
      have sa30 := s1
      clear f1 s1
      have hK30 : bdk (b + 300) (cu (cu (cu C 1 (C 0 0) k) 2 (C 0 0) 10) 0 0 (C 0 0 + 1)) := bdk_cu hK27 (by omega) (by omega)
      have hD30 := hK30.bd (by omega)
      have fa31 := (sa30 (m) (by omega)).trans fa28
      have fr32 := offn_in (k := 2) (q := m) fr29 sa30 (by omega)
      refine v_iload_n dX7_comes_72 rfl ?_
      refine v_iret dX7_comes_73 rfl ?_ (Nat.le_of_ble_eq_true rfl) (Nat.le_of_ble_eq_true rfl)
      have e9 : dFool C (nI k) = ((nI (C 0 0) : Int32), (cu (cu (cu (cu C 0 4 (C 0 4 + 10)) 1 (C 0 0) k) 2 (C 0 0) 10) 0 0 (C 0 0 + 1) : Ct), (none : Option (Int32 × Int32))) := by unfold dFool; all_goals (repeat (first | rw [if_pos (by first | assumption | omega | rfl | trivial)] | rw [if_neg (by first | assumption | omega)])); all_goals (try simp only [ek]); all_goals rfl
      have hv9 := hv30
      rw [(vO_q (C := cu (cu (cu C 1 (C 0 0) k) 2 (C 0 0) 10) 0 0 (C 0 0 + 1)) (D := cu (cu (cu (cu C 0 4 (C 0 4 + 10)) 1 (C 0 0) k) 2 (C 0 0) 10) 0 0 (C 0 0 + 1)) (fun a b h9 => by rw [cu_at, cu_at, cu_at, cu_at, cu_at, cu_at, cu_at, if_neg h9]))] at hv9
      exact pm_of e9 ⟨rfl, rfl, by rw [mf_p (nI_pos (by omega))]; exact fa31, hv9, fr32, fun z => absurd z (nI_pos (by omega))⟩
    · refine v_aload_n dX7_comes_31 rfl ?_
      refine v_iconst (v := nI 1) dX7_comes_32 (by decide) ?_
      refine v_bipush (v := nI 6) dX7_comes_33 (by decide) ?_
      refine v_callV (st := []) dX7_comes_35 (t_X7_refuses (x := nI 1) (y := nI 6) ho) wX7_66 ho rfl rfl ⟨Nat.le_of_ble_eq_true rfl, Nat.le_of_ble_eq_true rfl⟩ (Nat.le_of_ble_eq_true rfl) ⟨Nat.le_of_ble_eq_true rfl, Nat.le_of_ble_eq_true rfl⟩ (fun r n2 h2 hq => ?_)
      obtain ⟨rfl, rfl, fa33, sa34⟩ := hq
      refine v_st (st2 := [.int ((-1014))]) rfl ?_
      have hv35 := (sa34 (m + 1) (by omega)).trans hv
      have fr36 := offn_in (k := 2) (q := m) offn_rf sa34 (by omega)
      refine v_iret dX7_comes_38 rfl ?_ (Nat.le_of_ble_eq_true rfl) (Nat.le_of_ble_eq_true rfl)
      have e9 : dFool C (nI k) = (((-1014) : Int32), (C : Ct), (some (nI 1, nI 6) : Option (Int32 × Int32))) := by unfold dFool; all_goals (repeat (first | rw [if_pos (by first | assumption | omega | rfl | trivial)] | rw [if_neg (by first | assumption | omega)])); all_goals (try simp only [ek]); all_goals rfl
      exact pm_of e9 ⟨rfl, rfl, by rw [mf_n (by decide)]; exact fa33, hv35, fr36, fun _ => rfl⟩
  · have c21z : s < nI 1 ∨ (¬ s < nI 1 ∧ ¬ s ≤ nI 9) := not_rg c21
    rcases c21z with c21a | ⟨c21b, c21d⟩
    · refine v_aload_n dX7_comes_10 rfl ?_
      refine v_sipush (v := (-1012)) dX7_comes_11 (by decide) ?_
      refine v_callV (st := []) dX7_comes_14 (t_X7_fail (x := (-1012)) ho) wX7_41 ho rfl rfl ⟨Nat.le_of_ble_eq_true rfl, Nat.le_of_ble_eq_true rfl⟩ (Nat.le_of_ble_eq_true rfl) ⟨Nat.le_of_ble_eq_true rfl, Nat.le_of_ble_eq_true rfl⟩ (fun r n2 h2 hq => ?_)
      obtain ⟨rfl, rfl, fa37, sa38⟩ := hq
      refine v_st (st2 := [.int ((-1012))]) rfl ?_
      have hv39 := (sa38 (m + 1) (by omega)).trans hv
      have fr40 := offn_in (k := 2) (q := m) offn_rf sa38 (by omega)
      refine v_iret dX7_comes_17 rfl ?_ (Nat.le_of_ble_eq_true rfl) (Nat.le_of_ble_eq_true rfl)
      have e9 : dFool C s = (((-1012) : Int32), (C : Ct), (none : Option (Int32 × Int32))) := by unfold dFool; all_goals (repeat (first | rw [if_pos (by first | assumption | omega | rfl | trivial)] | rw [if_neg (by first | assumption | omega)])); all_goals rfl
      exact pm_of e9 ⟨rfl, rfl, by rw [mf_n (by decide)]; exact fa37, hv39, fr40, fun _ => rfl⟩
    · refine v_aload_n dX7_comes_10 rfl ?_
      refine v_sipush (v := (-1012)) dX7_comes_11 (by decide) ?_
      refine v_callV (st := []) dX7_comes_14 (t_X7_fail (x := (-1012)) ho) wX7_41 ho rfl rfl ⟨Nat.le_of_ble_eq_true rfl, Nat.le_of_ble_eq_true rfl⟩ (Nat.le_of_ble_eq_true rfl) ⟨Nat.le_of_ble_eq_true rfl, Nat.le_of_ble_eq_true rfl⟩ (fun r n2 h2 hq => ?_)
      obtain ⟨rfl, rfl, fa41, sa42⟩ := hq
      refine v_st (st2 := [.int ((-1012))]) rfl ?_
      have hv43 := (sa42 (m + 1) (by omega)).trans hv
      have fr44 := offn_in (k := 2) (q := m) offn_rf sa42 (by omega)
      refine v_iret dX7_comes_17 rfl ?_ (Nat.le_of_ble_eq_true rfl) (Nat.le_of_ble_eq_true rfl)
      have e9 : dFool C s = (((-1012) : Int32), (C : Ct), (none : Option (Int32 × Int32))) := by unfold dFool; all_goals (repeat (first | rw [if_pos (by first | assumption | omega | rfl | trivial)] | rw [if_neg (by first | assumption | omega)])); all_goals rfl
      exact pm_of e9 ⟨rfl, rfl, by rw [mf_n (by decide)]; exact fa41, hv43, fr44, fun _ => rfl⟩
set_option maxRecDepth 20000 in
set_option maxHeartbeats 4000000 in
theorem t_X7_jokes {l : Launch} {G : vG} {h : AH} {n : Nat} {s : Int32} {m ch sv tn hr en ln wg dg : Nat} {fl wy dt : Int32} {b : Nat} {C : Ct} (ho : h m = some (mo m ch sv tn hr en ln wg dg fl wy dt)) (hv : h (m + 1) = some (ar G 182 (vO C))) (hK : bdk b C) (hb1 : 200 ≤ b) (hb2 : b + 5000 ≤ 2 ^ 28) (hI : Iv C) : Mt l G mX7_jokes [.ref m, .int s] (n) h 0 0 (pm G m ch sv tn hr en ln wg dg fl wy dt C h n (dJoke C s)) := by
  refine Mt.of (by decide) (Nat.le_of_ble_eq_true rfl) rfl ?_
  refine v_ls (ls2 := [some (.ref m), some (.int s), none]) rfl ?_
  have hB := hK.bd (by omega)
  obtain ⟨hF, hJ, hn, hs1, hc99, hs4, hs7, hs8, hs15, hbk9, hs9⟩ := hI.1
  have b00 := hB 0 0
  have b01 := hB 0 1
  have b02 := hB 0 2
  have b03 := hB 0 3
  refine v_iload_n dX7_jokes_0 rfl ?_
  refine v_iconst (v := nI 1) dX7_jokes_1 (by decide) ?_
  refine v_bipush (v := nI 9) dX7_jokes_2 (by decide) ?_
  refine v_callS (st := []) dX7_jokes_4 (t_X7_isIn (x := s) (a := nI 1) (z := nI 9)) wX7_52 rfl ⟨Nat.le_of_ble_eq_true rfl, Nat.le_of_ble_eq_true rfl⟩ (Nat.le_of_ble_eq_true rfl) ⟨Nat.le_of_ble_eq_true rfl, Nat.le_of_ble_eq_true rfl⟩ (fun r n2 h2 hq => ?_)
  obtain ⟨rfl, hn9, rfl⟩ := hq; replace hn9 := hn9.symm; subst hn9
  refine v_st (st2 := [.int (nI (bI (¬ s < nI 1 ∧ ¬ nI 9 < s)))]) rfl ?_
  refine n_ifb_ne (tgt := 18) (p := ¬ s < nI 1 ∧ ¬ nI 9 < s) dX7_jokes_7 (by decide) (fun c21 => ?_) (fun c21 => ?_)
  · have c21a : ¬ s < nI 1 := (yes_rg c21).1
    have c21b : s ≤ nI 9 := (yes_rg c21).2
    clear c21
    obtain ⟨k, hk1, hk2, rfl⟩ := rg_of (a := 1) (b := 9) c21a c21b (by decide) (by decide)
    have ek : (nI k).toNatClampNeg = k := nI_clamp (by omega)
    refine v_aload_n dX7_jokes_18 rfl ?_
    refine fX7_7 (v := .ref (m + 1)) rfl dX7_jokes_19 ho rfl ?_
    refine v_iconst (v := nI 1) dX7_jokes_22 (by decide) ?_
    refine n_ialdv (f := vO C) (j := 1) (y := C 0 1) dX7_jokes_23 hv (by omega) (by decide) ((vrd (C := C) lgn1 (Or.inl (by decide))).trans rfl) ?_
    have b22 := hK 0 1
    refine v_istore_n dX7_jokes_24 rfl (by decide) ?_
    refine v_ls (ls2 := [some (.ref m), some (.int (nI k)), some (.int (nI (C 0 1)))]) rfl ?_
    refine v_iload_n dX7_jokes_25 rfl ?_
    refine v_bipush (v := nI 12) dX7_jokes_26 (by decide) ?_
    refine n_icmp_ne (tgt := 39) (x := C 0 1) (y := 12) dX7_jokes_28 (by decide) (by omega) (by omega) (fun c23 => ?_) (fun c23 => ?_)
    · refine v_aload_n dX7_jokes_39 rfl ?_
      refine fX7_7 (v := .ref (m + 1)) rfl dX7_jokes_40 ho rfl ?_
      refine v_iload_n dX7_jokes_43 rfl ?_
      refine v_iconst (v := nI 0) dX7_jokes_44 (by decide) ?_
      refine v_callS (st := [.ref (m + 1)]) dX7_jokes_45 (t_X7_in (f := C 0 1) (w := 0)) wX7_56 rfl ⟨Nat.le_of_ble_eq_true rfl, Nat.le_of_ble_eq_true rfl⟩ (Nat.le_of_ble_eq_true rfl) ⟨Nat.le_of_ble_eq_true rfl, Nat.le_of_ble_eq_true rfl⟩ (fun r n2 h2 hq => ?_)
      obtain ⟨rfl, hn9, rfl⟩ := hq; replace hn9 := hn9.symm; subst hn9
      refine v_st (st2 := [.int (nI (46 + 3 * (C 0 1) + 0)), .ref (m + 1)]) rfl ?_
      refine v_iload_n dX7_jokes_48 rfl ?_
      refine n_iast (f := vO C) (j := 46 + 3 * (C 0 1) + 0) (x := k) dX7_jokes_49 hv (by omega) (by decide) ?_
      refine nw (fun h1 f1 s1 => ?_)
      have hv24 : h1 (m + 1) = some (ar G 182 (vO (cu C 7 (C 0 1) k))) := Eq.mp (congrArg (fun F => h1 (m + 1) = some (ar G 182 F)) (vup (C := C) (lgJ (f := (C 0 1)) (w := 0) (by omega) (by decide)) (Or.inl (by omega)) (by omega))) f1
      have sa24 := s1
      clear f1 s1
      have hK24 : bdk (b + 100) (cu C 7 (C 0 1) k) := bdk_cu hK (by omega) (by omega)
      have hD24 := hK24.bd (by omega)
      have fa25 := (sa24 (m) (by omega)).trans ho
      have fr26 := offn_in (k := 2) (q := m) offn_rf sa24 (by omega)
      refine v_aload_n dX7_jokes_50 rfl ?_
      refine fX7_7 (v := .ref (m + 1)) rfl dX7_jokes_51 fa25 rfl ?_
      refine v_iconst (v := nI 1) dX7_jokes_54 (by decide) ?_
      refine v_dup2 dX7_jokes_55 rfl rfl ?_
      refine n_ialdv (f := vO (cu C 7 (C 0 1) k)) (j := 1) (y := C 0 1) dX7_jokes_56 hv24 (by omega) (by decide) ((vrd (C := cu C 7 (C 0 1) k) lgn1 (Or.inl (by decide))).trans rfl) ?_
      refine v_iconst (v := nI 1) dX7_jokes_57 (by decide) ?_
      refine n_iadd (x := C 0 1) (y := 1) dX7_jokes_58 ?_
      refine n_iast (f := vO (cu C 7 (C 0 1) k)) (j := 1) (x := C 0 1 + 1) dX7_jokes_59 hv24 (by omega) (by decide) ?_
      refine nw (fun h1 f1 s1 => ?_)
      have hv27 : h1 (m + 1) = some (ar G 182 (vO (cu (cu C 7 (C 0 1) k) 0 1 (C 0 1 + 1)))) := Eq.mp (congrArg (fun F => h1 (m + 1) = some (ar G 182 F)) (vup (C := cu C 7 (C 0 1) k) lgn1 (Or.inl (by decide)) (by omega))) f1
      have sa27 := s1
      clear f1 s1
      have hK27 : bdk (b + 200) (cu (cu C 7 (C 0 1) k) 0 1 (C 0 1 + 1)) := bdk_cu hK24 (by omega) (by omega)
      have hD27 := hK27.bd (by omega)
      have fa28 := (sa27 (m) (by omega)).trans fa25
      have fr29 := offn_in (k := 2) (q := m) fr26 sa27 (by omega)
      refine v_iload_n dX7_jokes_60 rfl ?_
      refine v_iret dX7_jokes_61 rfl ?_ (Nat.le_of_ble_eq_true rfl) (Nat.le_of_ble_eq_true rfl)
      have e9 : dJoke C (nI k) = ((nI (C 0 1) : Int32), (cu (cu C 7 (C 0 1) k) 0 1 (C 0 1 + 1) : Ct), (none : Option (Int32 × Int32))) := by unfold dJoke; all_goals (repeat (first | rw [if_pos (by first | assumption | omega | rfl | trivial)] | rw [if_neg (by first | assumption | omega)])); all_goals (try simp only [ek]); all_goals rfl
      exact pm_of e9 ⟨rfl, rfl, by rw [mf_p (nI_pos (by omega))]; exact fa28, hv27, fr29, fun z => absurd z (nI_pos (by omega))⟩
    · refine v_aload_n dX7_jokes_31 rfl ?_
      refine v_iconst (v := nI 1) dX7_jokes_32 (by decide) ?_
      refine v_bipush (v := nI 12) dX7_jokes_33 (by decide) ?_
      refine v_callV (st := []) dX7_jokes_35 (t_X7_refuses (x := nI 1) (y := nI 12) ho) wX7_66 ho rfl rfl ⟨Nat.le_of_ble_eq_true rfl, Nat.le_of_ble_eq_true rfl⟩ (Nat.le_of_ble_eq_true rfl) ⟨Nat.le_of_ble_eq_true rfl, Nat.le_of_ble_eq_true rfl⟩ (fun r n2 h2 hq => ?_)
      obtain ⟨rfl, rfl, fa30, sa31⟩ := hq
      refine v_st (st2 := [.int ((-1014))]) rfl ?_
      have hv32 := (sa31 (m + 1) (by omega)).trans hv
      have fr33 := offn_in (k := 2) (q := m) offn_rf sa31 (by omega)
      refine v_iret dX7_jokes_38 rfl ?_ (Nat.le_of_ble_eq_true rfl) (Nat.le_of_ble_eq_true rfl)
      have e9 : dJoke C (nI k) = (((-1014) : Int32), (C : Ct), (some (nI 1, nI 12) : Option (Int32 × Int32))) := by unfold dJoke; all_goals (repeat (first | rw [if_pos (by first | assumption | omega | rfl | trivial)] | rw [if_neg (by first | assumption | omega)])); all_goals (try simp only [ek]); all_goals rfl
      exact pm_of e9 ⟨rfl, rfl, by rw [mf_n (by decide)]; exact fa30, hv32, fr33, fun _ => rfl⟩
  · have c21z : s < nI 1 ∨ (¬ s < nI 1 ∧ ¬ s ≤ nI 9) := not_rg c21
    rcases c21z with c21a | ⟨c21b, c21d⟩
    · refine v_aload_n dX7_jokes_10 rfl ?_
      refine v_sipush (v := (-1012)) dX7_jokes_11 (by decide) ?_
      refine v_callV (st := []) dX7_jokes_14 (t_X7_fail (x := (-1012)) ho) wX7_41 ho rfl rfl ⟨Nat.le_of_ble_eq_true rfl, Nat.le_of_ble_eq_true rfl⟩ (Nat.le_of_ble_eq_true rfl) ⟨Nat.le_of_ble_eq_true rfl, Nat.le_of_ble_eq_true rfl⟩ (fun r n2 h2 hq => ?_)
      obtain ⟨rfl, rfl, fa34, sa35⟩ := hq
      refine v_st (st2 := [.int ((-1012))]) rfl ?_
      have hv36 := (sa35 (m + 1) (by omega)).trans hv
      have fr37 := offn_in (k := 2) (q := m) offn_rf sa35 (by omega)
      refine v_iret dX7_jokes_17 rfl ?_ (Nat.le_of_ble_eq_true rfl) (Nat.le_of_ble_eq_true rfl)
      have e9 : dJoke C s = (((-1012) : Int32), (C : Ct), (none : Option (Int32 × Int32))) := by unfold dJoke; all_goals (repeat (first | rw [if_pos (by first | assumption | omega | rfl | trivial)] | rw [if_neg (by first | assumption | omega)])); all_goals rfl
      exact pm_of e9 ⟨rfl, rfl, by rw [mf_n (by decide)]; exact fa34, hv36, fr37, fun _ => rfl⟩
    · refine v_aload_n dX7_jokes_10 rfl ?_
      refine v_sipush (v := (-1012)) dX7_jokes_11 (by decide) ?_
      refine v_callV (st := []) dX7_jokes_14 (t_X7_fail (x := (-1012)) ho) wX7_41 ho rfl rfl ⟨Nat.le_of_ble_eq_true rfl, Nat.le_of_ble_eq_true rfl⟩ (Nat.le_of_ble_eq_true rfl) ⟨Nat.le_of_ble_eq_true rfl, Nat.le_of_ble_eq_true rfl⟩ (fun r n2 h2 hq => ?_)
      obtain ⟨rfl, rfl, fa38, sa39⟩ := hq
      refine v_st (st2 := [.int ((-1012))]) rfl ?_
      have hv40 := (sa39 (m + 1) (by omega)).trans hv
      have fr41 := offn_in (k := 2) (q := m) offn_rf sa39 (by omega)
      refine v_iret dX7_jokes_17 rfl ?_ (Nat.le_of_ble_eq_true rfl) (Nat.le_of_ble_eq_true rfl)
      have e9 : dJoke C s = (((-1012) : Int32), (C : Ct), (none : Option (Int32 × Int32))) := by unfold dJoke; all_goals (repeat (first | rw [if_pos (by first | assumption | omega | rfl | trivial)] | rw [if_neg (by first | assumption | omega)])); all_goals rfl
      exact pm_of e9 ⟨rfl, rfl, by rw [mf_n (by decide)]; exact fa38, hv40, fr41, fun _ => rfl⟩
set_option maxRecDepth 20000 in
set_option maxHeartbeats 4000000 in
theorem t_X7_patents {l : Launch} {G : vG} {h : AH} {n : Nat} {f j x : Int32} {m ch sv tn hr en ln wg dg : Nat} {fl wy dt : Int32} {b : Nat} {C : Ct} (ho : h m = some (mo m ch sv tn hr en ln wg dg fl wy dt)) (hv : h (m + 1) = some (ar G 182 (vO C))) (hK : bdk b C) (hb1 : 200 ≤ b) (hb2 : b + 5000 ≤ 2 ^ 28) (hI : Iv C) : Mt l G mX7_patents [.ref m, .int f, .int j, .int x] (n) h 0 0 (pm G m ch sv tn hr en ln wg dg fl wy dt C h n (dPat C f j x)) := by
  refine Mt.of (by decide) (Nat.le_of_ble_eq_true rfl) rfl ?_
  refine v_ls (ls2 := [some (.ref m), some (.int f), some (.int j), some (.int x), none]) rfl ?_
  have hB := hK.bd (by omega)
  obtain ⟨hF, hJ, hn, hs1, hc99, hs4, hs7, hs8, hs15, hbk9, hs9⟩ := hI.1
  have b00 := hB 0 0
  have b01 := hB 0 1
  have b02 := hB 0 2
  have b03 := hB 0 3
  refine v_aload_n dX7_patents_0 rfl ?_
  refine v_iload_n dX7_patents_1 rfl ?_
  refine v_callV (st := []) dX7_patents_2 (t_X7_isFool (x := f) ho hv hK (by omega)) wX7_81 ho rfl rfl ⟨Nat.le_of_ble_eq_true rfl, Nat.le_of_ble_eq_true rfl⟩ (Nat.le_of_ble_eq_true rfl) ⟨Nat.le_of_ble_eq_true rfl, Nat.le_of_ble_eq_true rfl⟩ (fun r n2 h2 hq => ?_)
  obtain ⟨rfl, hn9, rfl⟩ := hq; replace hn9 := hn9.symm; subst hn9
  refine v_st (st2 := [.int (nI (bI (ixb f (C 0 0) = true)))]) rfl ?_
  refine n_ifb_eq (tgt := 16) (p := ixb f (C 0 0) = true) dX7_patents_5 (by decide) (fun c21 => ?_) (fun c21 => ?_)
  · refine v_aload_n dX7_patents_16 rfl ?_
    refine v_sipush (v := (-1011)) dX7_patents_17 (by decide) ?_
    refine v_callV (st := []) dX7_patents_20 (t_X7_fail (x := (-1011)) ho) wX7_41 ho rfl rfl ⟨Nat.le_of_ble_eq_true rfl, Nat.le_of_ble_eq_true rfl⟩ (Nat.le_of_ble_eq_true rfl) ⟨Nat.le_of_ble_eq_true rfl, Nat.le_of_ble_eq_true rfl⟩ (fun r n2 h2 hq => ?_)
    obtain ⟨rfl, rfl, fa22, sa23⟩ := hq
    refine v_st (st2 := [.int ((-1011))]) rfl ?_
    have hv24 := (sa23 (m + 1) (by omega)).trans hv
    have fr25 := offn_in (k := 2) (q := m) offn_rf sa23 (by omega)
    refine v_iret dX7_patents_23 rfl ?_ (Nat.le_of_ble_eq_true rfl) (Nat.le_of_ble_eq_true rfl)
    have e9 : dPat C f j x = (((-1011) : Int32), (C : Ct), (none : Option (Int32 × Int32))) := by unfold dPat; all_goals (repeat (first | rw [if_pos (by first | assumption | omega | rfl | trivial)] | rw [if_neg (by first | assumption | omega)])); all_goals (try unfold dPatN); all_goals (repeat (first | rw [if_pos (by first | assumption | omega | rfl | trivial)] | rw [if_neg (by first | assumption | omega)])); all_goals rfl
    exact pm_of e9 ⟨rfl, rfl, by rw [mf_n (by decide)]; exact fa22, hv24, fr25, fun _ => rfl⟩
  · obtain ⟨F, hF1, rfl⟩ := ix_of c21 (by omega)
    have eF : (nI F).toNatClampNeg = F := nI_clamp (by omega)
    refine v_aload_n dX7_patents_8 rfl ?_
    refine v_iload_n dX7_patents_9 rfl ?_
    refine v_callV (st := []) dX7_patents_10 (t_X7_isJoke (x := j) ho hv hK (by omega)) wX7_85 ho rfl rfl ⟨Nat.le_of_ble_eq_true rfl, Nat.le_of_ble_eq_true rfl⟩ (Nat.le_of_ble_eq_true rfl) ⟨Nat.le_of_ble_eq_true rfl, Nat.le_of_ble_eq_true rfl⟩ (fun r n2 h2 hq => ?_)
    obtain ⟨rfl, hn9, rfl⟩ := hq; replace hn9 := hn9.symm; subst hn9
    refine v_st (st2 := [.int (nI (bI (ixb j (C 0 1) = true)))]) rfl ?_
    refine n_ifb_ne (tgt := 24) (p := ixb j (C 0 1) = true) dX7_patents_13 (by decide) (fun c26 => ?_) (fun c26 => ?_)
    · obtain ⟨J, hJ1, rfl⟩ := ix_of c26 (by omega)
      have eJ : (nI J).toNatClampNeg = J := nI_clamp (by omega)
      refine v_iload_n dX7_patents_24 rfl ?_
      refine v_iconst (v := nI 1) dX7_patents_25 (by decide) ?_
      refine v_bipush (v := nI 48) dX7_patents_26 (by decide) ?_
      refine v_callS (st := []) dX7_patents_28 (t_X7_isIn (x := x) (a := nI 1) (z := nI 48)) wX7_52 rfl ⟨Nat.le_of_ble_eq_true rfl, Nat.le_of_ble_eq_true rfl⟩ (Nat.le_of_ble_eq_true rfl) ⟨Nat.le_of_ble_eq_true rfl, Nat.le_of_ble_eq_true rfl⟩ (fun r n2 h2 hq => ?_)
      obtain ⟨rfl, hn9, rfl⟩ := hq; replace hn9 := hn9.symm; subst hn9
      refine v_st (st2 := [.int (nI (bI (¬ x < nI 1 ∧ ¬ nI 48 < x)))]) rfl ?_
      refine n_ifb_ne (tgt := 42) (p := ¬ x < nI 1 ∧ ¬ nI 48 < x) dX7_patents_31 (by decide) (fun c27 => ?_) (fun c27 => ?_)
      · have c27a : ¬ x < nI 1 := (yes_rg c27).1
        have c27b : x ≤ nI 48 := (yes_rg c27).2
        clear c27
        obtain ⟨k, hk1, hk2, rfl⟩ := rg_of (a := 1) (b := 48) c27a c27b (by decide) (by decide)
        have ek : (nI k).toNatClampNeg = k := nI_clamp (by omega)
        refine v_iload_n dX7_patents_42 rfl ?_
        refine v_iconst (v := nI 1) dX7_patents_43 (by decide) ?_
        refine n_iadd (x := k) (y := 1) dX7_patents_44 ?_
        refine v_iconst (v := nI 2) dX7_patents_45 (by decide) ?_
        refine n_idiv (x := k + 1) (y := 2) dX7_patents_46 (by omega) (by omega) (by omega) ?_
        refine v_istore dX7_patents_47 rfl (by decide) ?_
        refine v_ls (ls2 := [some (.ref m), some (.int (nI F)), some (.int (nI J)), some (.int (nI k)), some (.int (nI ((k + 1) / 2)))]) rfl ?_
        refine v_aload_n dX7_patents_49 rfl ?_
        refine v_iload_n dX7_patents_50 rfl ?_
        refine v_callV (st := []) dX7_patents_51 (t_X7_owner (j := J) ho hv hK (by omega) (by omega)) wX7_60 ho rfl rfl ⟨Nat.le_of_ble_eq_true rfl, Nat.le_of_ble_eq_true rfl⟩ (Nat.le_of_ble_eq_true rfl) ⟨Nat.le_of_ble_eq_true rfl, Nat.le_of_ble_eq_true rfl⟩ (fun r n2 h2 hq => ?_)
        obtain ⟨rfl, hn9, rfl⟩ := hq; replace hn9 := hn9.symm; subst hn9
        refine v_st (st2 := [.int (ow C J)]) rfl ?_
        by_cases ho28 : hold C J
        have b29 := hK 8 J
        · refine v_st (st2 := [.int (nI (C 8 J))]) (by rw [ow_t ho28]; try rfl) ?_
          refine n_if_lt (tgt := 69) (x := C 8 J) dX7_patents_54 (by decide) (by omega) ?_
          refine v_aload_n dX7_patents_57 rfl ?_
          refine v_bipush (v := nI 6) dX7_patents_58 (by decide) ?_
          refine v_aload_n dX7_patents_60 rfl ?_
          refine v_iload_n dX7_patents_61 rfl ?_
          refine v_callV (st := [.int (nI 6), .ref m]) dX7_patents_62 (t_X7_owner (j := J) ho hv hK (by omega) (by omega)) wX7_60 ho rfl rfl ⟨Nat.le_of_ble_eq_true rfl, Nat.le_of_ble_eq_true rfl⟩ (Nat.le_of_ble_eq_true rfl) ⟨Nat.le_of_ble_eq_true rfl, Nat.le_of_ble_eq_true rfl⟩ (fun r n2 h2 hq => ?_)
          obtain ⟨rfl, hn9, rfl⟩ := hq; replace hn9 := hn9.symm; subst hn9
          refine v_st (st2 := [.int (nI (C 8 J)), .int (nI 6), .ref m]) (by rw [ow_t ho28]; try rfl) ?_
          refine v_callV (st := []) dX7_patents_65 (t_X7_refuses (x := nI 6) (y := nI (C 8 J)) ho) wX7_66 ho rfl rfl ⟨Nat.le_of_ble_eq_true rfl, Nat.le_of_ble_eq_true rfl⟩ (Nat.le_of_ble_eq_true rfl) ⟨Nat.le_of_ble_eq_true rfl, Nat.le_of_ble_eq_true rfl⟩ (fun r n2 h2 hq => ?_)
          obtain ⟨rfl, rfl, fa30, sa31⟩ := hq
          refine v_st (st2 := [.int ((-1014))]) rfl ?_
          have hv32 := (sa31 (m + 1) (by omega)).trans hv
          have fr33 := offn_in (k := 2) (q := m) offn_rf sa31 (by omega)
          refine v_iret dX7_patents_68 rfl ?_ (Nat.le_of_ble_eq_true rfl) (Nat.le_of_ble_eq_true rfl)
          have e9 : dPat C (nI F) (nI J) (nI k) = (((-1014) : Int32), (C : Ct), (some (nI 6, nI (C 8 J)) : Option (Int32 × Int32))) := by unfold dPat; all_goals (repeat (first | rw [if_pos (by first | assumption | omega | rfl | trivial)] | rw [if_neg (by first | assumption | omega)])); all_goals (try simp only [eF, eJ, ek]); all_goals (try unfold dPatN); all_goals (repeat (first | rw [if_pos (by first | assumption | omega | rfl | trivial)] | rw [if_neg (by first | assumption | omega)])); all_goals rfl
          exact pm_of e9 ⟨rfl, rfl, by rw [mf_n (by decide)]; exact fa30, hv32, fr33, fun _ => rfl⟩
        · refine v_st (st2 := [.int ((-1))]) (by rw [ow_f ho28]; try rfl) ?_
          refine v_if_lt (tgt := 69) dX7_patents_54 (by decide) (fun _ => ?_) (fun c => absurd (by decide) c)
          refine v_aload_n dX7_patents_69 rfl ?_
          refine fX7_7 (v := .ref (m + 1)) rfl dX7_patents_70 ho rfl ?_
          refine v_iload_n dX7_patents_73 rfl ?_
          refine v_iconst (v := nI 1) dX7_patents_74 (by decide) ?_
          refine v_callS (st := [.ref (m + 1)]) dX7_patents_75 (t_X7_at (f := F) (w := 1)) wX7_63 rfl ⟨Nat.le_of_ble_eq_true rfl, Nat.le_of_ble_eq_true rfl⟩ (Nat.le_of_ble_eq_true rfl) ⟨Nat.le_of_ble_eq_true rfl, Nat.le_of_ble_eq_true rfl⟩ (fun r n2 h2 hq => ?_)
          obtain ⟨rfl, hn9, rfl⟩ := hq; replace hn9 := hn9.symm; subst hn9
          refine v_st (st2 := [.int (nI (10 + 6 * F + 1)), .ref (m + 1)]) rfl ?_
          refine n_ialdv (f := vO C) (j := 10 + 6 * F + 1) (y := C 2 F) dX7_patents_78 hv (by omega) (by decide) ((vrd (C := C) (lgF (f := F) (w := 1) (by omega) (by decide)) (Or.inl (by omega))).trans rfl) ?_
          have b34 := hK 2 F
          refine v_iload dX7_patents_79 rfl ?_
          refine n_icmp_ge (tgt := 101) (x := C 2 F) (y := (k + 1) / 2) dX7_patents_81 (by decide) (by omega) (by omega) (fun c35 => ?_) (fun c35 => ?_)
          · refine v_aload_n dX7_patents_101 rfl ?_
            refine fX7_7 (v := .ref (m + 1)) rfl dX7_patents_102 ho rfl ?_
            refine v_iconst (v := nI 5) dX7_patents_105 (by decide) ?_
            refine v_dup2 dX7_patents_106 rfl rfl ?_
            refine n_ialdv (f := vO C) (j := 5) (y := C 0 5) dX7_patents_107 hv (by omega) (by decide) ((vrd (C := C) lgn5 (Or.inl (by decide))).trans rfl) ?_
            have b36 := hK 0 5
            refine v_aload_n dX7_patents_108 rfl ?_
            refine v_iload_n dX7_patents_109 rfl ?_
            refine v_iload dX7_patents_110 rfl ?_
            refine v_callV (st := [.int (nI (C 0 5)), .int (nI 5), .ref (m + 1)]) dX7_patents_112 (t_X7_pays (f := F) (k := (k + 1) / 2) ho hv hK (by omega) (by omega) (by omega)) wX7_88 ho rfl rfl ⟨Nat.le_of_ble_eq_true rfl, Nat.le_of_ble_eq_true rfl⟩ (Nat.le_of_ble_eq_true rfl) ⟨Nat.le_of_ble_eq_true rfl, Nat.le_of_ble_eq_true rfl⟩ (fun r n2 h2 hq => ?_)
            obtain ⟨rfl, rfl, hv37, sa37⟩ := hq
            refine v_st (st2 := [.int (nI (pay C F ((k + 1) / 2))), .int (nI (C 0 5)), .int (nI 5), .ref (m + 1)]) rfl ?_
            have hpl37 : pay C F ((k + 1) / 2) ≤ C 2 F := Nat.min_le_right _ _
            have hpk37 : pay C F ((k + 1) / 2) ≤ (k + 1) / 2 := Nat.min_le_left _ _
            have hbk37 := hK 2 F
            have hbl37 : C 2 F < b := hbk37
            have hK37 : bdk (b + 100) (cu C 2 F (C 2 F - pay C F ((k + 1) / 2))) := bdk_cu hK (by omega) (by omega)
            have hD37 := hK37.bd (by omega)
            have fa38 := (sa37 (m) (by omega)).trans ho
            have fr39 := offn_in (k := 2) (q := m) offn_rf sa37 (by omega)
            refine n_iadd (x := C 0 5) (y := pay C F ((k + 1) / 2)) dX7_patents_115 ?_
            refine n_iast (f := vO (cu C 2 F (C 2 F - pay C F ((k + 1) / 2)))) (j := 5) (x := C 0 5 + (pay C F ((k + 1) / 2))) dX7_patents_116 hv37 (by omega) (by decide) ?_
            refine nw (fun h1 f1 s1 => ?_)
            have hv40 : h1 (m + 1) = some (ar G 182 (vO (cu (cu C 2 F (C 2 F - pay C F ((k + 1) / 2))) 0 5 (C 0 5 + (pay C F ((k + 1) / 2)))))) := Eq.mp (congrArg (fun F => h1 (m + 1) = some (ar G 182 F)) (vup (C := cu C 2 F (C 2 F - pay C F ((k + 1) / 2))) lgn5 (Or.inl (by decide)) (by omega))) f1
            have sa40 := s1
            clear f1 s1
            have hK40 : bdk (b + 200) (cu (cu C 2 F (C 2 F - pay C F ((k + 1) / 2))) 0 5 (C 0 5 + (pay C F ((k + 1) / 2)))) := bdk_cu hK37 (by omega) (by omega)
            have hD40 := hK40.bd (by omega)
            have fa41 := (sa40 (m) (by omega)).trans fa38
            have fr42 := offn_in (k := 2) (q := m) fr39 sa40 (by omega)
            refine v_aload_n dX7_patents_117 rfl ?_
            refine fX7_7 (v := .ref (m + 1)) rfl dX7_patents_118 fa41 rfl ?_
            refine v_iload_n dX7_patents_121 rfl ?_
            refine v_iconst (v := nI 1) dX7_patents_122 (by decide) ?_
            refine v_callS (st := [.ref (m + 1)]) dX7_patents_123 (t_X7_in (f := J) (w := 1)) wX7_56 rfl ⟨Nat.le_of_ble_eq_true rfl, Nat.le_of_ble_eq_true rfl⟩ (Nat.le_of_ble_eq_true rfl) ⟨Nat.le_of_ble_eq_true rfl, Nat.le_of_ble_eq_true rfl⟩ (fun r n2 h2 hq => ?_)
            obtain ⟨rfl, hn9, rfl⟩ := hq; replace hn9 := hn9.symm; subst hn9
            refine v_st (st2 := [.int (nI (46 + 3 * J + 1)), .ref (m + 1)]) rfl ?_
            refine v_iload_n dX7_patents_126 rfl ?_
            refine n_iast (f := vO (cu (cu C 2 F (C 2 F - pay C F ((k + 1) / 2))) 0 5 (C 0 5 + (pay C F ((k + 1) / 2))))) (j := 46 + 3 * J + 1) (x := F) dX7_patents_127 hv40 (by omega) (by decide) ?_
            refine nw (fun h1 f1 s1 => ?_)
            have hv43 : h1 (m + 1) = some (ar G 182 (vO (cu (cu (cu C 2 F (C 2 F - pay C F ((k + 1) / 2))) 0 5 (C 0 5 + (pay C F ((k + 1) / 2)))) 8 J F))) := Eq.mp (congrArg (fun F => h1 (m + 1) = some (ar G 182 F)) (vup (C := cu (cu C 2 F (C 2 F - pay C F ((k + 1) / 2))) 0 5 (C 0 5 + (pay C F ((k + 1) / 2)))) (lgJ (f := J) (w := 1) (by omega) (by decide)) (Or.inl (by omega)) (by omega))) f1
            have sa43 := s1
            clear f1 s1
            have hK43 : bdk (b + 300) (cu (cu (cu C 2 F (C 2 F - pay C F ((k + 1) / 2))) 0 5 (C 0 5 + (pay C F ((k + 1) / 2)))) 8 J F) := bdk_cu hK40 (by omega) (by omega)
            have hD43 := hK43.bd (by omega)
            have fa44 := (sa43 (m) (by omega)).trans fa41
            have fr45 := offn_in (k := 2) (q := m) fr42 sa43 (by omega)
            refine v_aload_n dX7_patents_128 rfl ?_
            refine fX7_7 (v := .ref (m + 1)) rfl dX7_patents_129 fa44 rfl ?_
            refine v_iload_n dX7_patents_132 rfl ?_
            refine v_iconst (v := nI 2) dX7_patents_133 (by decide) ?_
            refine v_callS (st := [.ref (m + 1)]) dX7_patents_134 (t_X7_in (f := J) (w := 2)) wX7_56 rfl ⟨Nat.le_of_ble_eq_true rfl, Nat.le_of_ble_eq_true rfl⟩ (Nat.le_of_ble_eq_true rfl) ⟨Nat.le_of_ble_eq_true rfl, Nat.le_of_ble_eq_true rfl⟩ (fun r n2 h2 hq => ?_)
            obtain ⟨rfl, hn9, rfl⟩ := hq; replace hn9 := hn9.symm; subst hn9
            refine v_st (st2 := [.int (nI (46 + 3 * J + 2)), .ref (m + 1)]) rfl ?_
            refine v_aload_n dX7_patents_137 rfl ?_
            refine fX7_7 (v := .ref (m + 1)) rfl dX7_patents_138 fa44 rfl ?_
            refine v_iconst (v := nI 3) dX7_patents_141 (by decide) ?_
            refine n_ialdv (f := vO (cu (cu (cu C 2 F (C 2 F - pay C F ((k + 1) / 2))) 0 5 (C 0 5 + (pay C F ((k + 1) / 2)))) 8 J F)) (j := 3) (y := C 0 3) dX7_patents_142 hv43 (by omega) (by decide) ((vrd (C := cu (cu (cu C 2 F (C 2 F - pay C F ((k + 1) / 2))) 0 5 (C 0 5 + (pay C F ((k + 1) / 2)))) 8 J F) lgn3 (Or.inl (by decide))).trans rfl) ?_
            have b46 := hK 0 3
            refine v_iload_n dX7_patents_143 rfl ?_
            refine n_iadd (x := C 0 3) (y := k) dX7_patents_144 ?_
            refine n_iast (f := vO (cu (cu (cu C 2 F (C 2 F - pay C F ((k + 1) / 2))) 0 5 (C 0 5 + (pay C F ((k + 1) / 2)))) 8 J F)) (j := 46 + 3 * J + 2) (x := C 0 3 + k) dX7_patents_145 hv43 (by omega) (by decide) ?_
            refine nw (fun h1 f1 s1 => ?_)
            have hv47 : h1 (m + 1) = some (ar G 182 (vO (cu (cu (cu (cu C 2 F (C 2 F - pay C F ((k + 1) / 2))) 0 5 (C 0 5 + (pay C F ((k + 1) / 2)))) 8 J F) 9 J (C 0 3 + k)))) := Eq.mp (congrArg (fun F => h1 (m + 1) = some (ar G 182 F)) (vup (C := cu (cu (cu C 2 F (C 2 F - pay C F ((k + 1) / 2))) 0 5 (C 0 5 + (pay C F ((k + 1) / 2)))) 8 J F) (lgJ (f := J) (w := 2) (by omega) (by decide)) (Or.inl (by omega)) (by omega))) f1
            have sa47 := s1
            clear f1 s1
            have hK47 : bdk (b + 400) (cu (cu (cu (cu C 2 F (C 2 F - pay C F ((k + 1) / 2))) 0 5 (C 0 5 + (pay C F ((k + 1) / 2)))) 8 J F) 9 J (C 0 3 + k)) := bdk_cu hK43 (by omega) (by omega)
            have hD47 := hK47.bd (by omega)
            have fa48 := (sa47 (m) (by omega)).trans fa44
            have fr49 := offn_in (k := 2) (q := m) fr45 sa47 (by omega)
            refine v_aload_n dX7_patents_146 rfl ?_
            refine fX7_7 (v := .ref (m + 1)) rfl dX7_patents_147 fa48 rfl ?_
            refine v_iload_n dX7_patents_150 rfl ?_
            refine v_iconst (v := nI 2) dX7_patents_151 (by decide) ?_
            refine v_callS (st := [.ref (m + 1)]) dX7_patents_152 (t_X7_in (f := J) (w := 2)) wX7_56 rfl ⟨Nat.le_of_ble_eq_true rfl, Nat.le_of_ble_eq_true rfl⟩ (Nat.le_of_ble_eq_true rfl) ⟨Nat.le_of_ble_eq_true rfl, Nat.le_of_ble_eq_true rfl⟩ (fun r n2 h2 hq => ?_)
            obtain ⟨rfl, hn9, rfl⟩ := hq; replace hn9 := hn9.symm; subst hn9
            refine v_st (st2 := [.int (nI (46 + 3 * J + 2)), .ref (m + 1)]) rfl ?_
            refine n_ialdv (f := vO (cu (cu (cu (cu C 2 F (C 2 F - pay C F ((k + 1) / 2))) 0 5 (C 0 5 + (pay C F ((k + 1) / 2)))) 8 J F) 9 J (C 0 3 + k))) (j := 46 + 3 * J + 2) (y := C 0 3 + k) dX7_patents_155 hv47 (by omega) (by decide) ((vrd (C := cu (cu (cu (cu C 2 F (C 2 F - pay C F ((k + 1) / 2))) 0 5 (C 0 5 + (pay C F ((k + 1) / 2)))) 8 J F) 9 J (C 0 3 + k)) (lgJ (f := J) (w := 2) (by omega) (by decide)) (Or.inl (by omega))).trans (show va_up (C 9) J (C 0 3 + k) J = (C 0 3 + k) from nI_up)) ?_
            refine v_iret dX7_patents_156 rfl ?_ (Nat.le_of_ble_eq_true rfl) (Nat.le_of_ble_eq_true rfl)
            have e9 : dPat C (nI F) (nI J) (nI k) = ((nI (C 0 3 + k) : Int32), (cu (cu (cu (cu C 2 F (C 2 F - pay C F ((k + 1) / 2))) 0 5 (C 0 5 + (pay C F ((k + 1) / 2)))) 8 J F) 9 J (C 0 3 + k) : Ct), (none : Option (Int32 × Int32))) := by unfold dPat; all_goals (repeat (first | rw [if_pos (by first | assumption | omega | rfl | trivial)] | rw [if_neg (by first | assumption | omega)])); all_goals (try simp only [eF, eJ, ek]); all_goals (try unfold dPatN); all_goals (repeat (first | rw [if_pos (by first | assumption | omega | rfl | trivial)] | rw [if_neg (by first | assumption | omega)])); all_goals rfl
            exact pm_of e9 ⟨rfl, rfl, by rw [mf_p (nI_pos (by omega))]; exact fa48, hv47, fr49, fun z => absurd z (nI_pos (by omega))⟩
          · refine v_aload_n dX7_patents_84 rfl ?_
            refine v_bipush (v := nI 7) dX7_patents_85 (by decide) ?_
            refine v_aload_n dX7_patents_87 rfl ?_
            refine fX7_7 (v := .ref (m + 1)) rfl dX7_patents_88 ho rfl ?_
            refine v_iload_n dX7_patents_91 rfl ?_
            refine v_iconst (v := nI 1) dX7_patents_92 (by decide) ?_
            refine v_callS (st := [.ref (m + 1), .int (nI 7), .ref m]) dX7_patents_93 (t_X7_at (f := F) (w := 1)) wX7_63 rfl ⟨Nat.le_of_ble_eq_true rfl, Nat.le_of_ble_eq_true rfl⟩ (Nat.le_of_ble_eq_true rfl) ⟨Nat.le_of_ble_eq_true rfl, Nat.le_of_ble_eq_true rfl⟩ (fun r n2 h2 hq => ?_)
            obtain ⟨rfl, hn9, rfl⟩ := hq; replace hn9 := hn9.symm; subst hn9
            refine v_st (st2 := [.int (nI (10 + 6 * F + 1)), .ref (m + 1), .int (nI 7), .ref m]) rfl ?_
            refine n_ialdv (f := vO C) (j := 10 + 6 * F + 1) (y := C 2 F) dX7_patents_96 hv (by omega) (by decide) ((vrd (C := C) (lgF (f := F) (w := 1) (by omega) (by decide)) (Or.inl (by omega))).trans rfl) ?_
            refine v_callV (st := []) dX7_patents_97 (t_X7_refuses (x := nI 7) (y := nI (C 2 F)) ho) wX7_66 ho rfl rfl ⟨Nat.le_of_ble_eq_true rfl, Nat.le_of_ble_eq_true rfl⟩ (Nat.le_of_ble_eq_true rfl) ⟨Nat.le_of_ble_eq_true rfl, Nat.le_of_ble_eq_true rfl⟩ (fun r n2 h2 hq => ?_)
            obtain ⟨rfl, rfl, fa50, sa51⟩ := hq
            refine v_st (st2 := [.int ((-1014))]) rfl ?_
            have hv52 := (sa51 (m + 1) (by omega)).trans hv
            have fr53 := offn_in (k := 2) (q := m) offn_rf sa51 (by omega)
            refine v_iret dX7_patents_100 rfl ?_ (Nat.le_of_ble_eq_true rfl) (Nat.le_of_ble_eq_true rfl)
            have e9 : dPat C (nI F) (nI J) (nI k) = (((-1014) : Int32), (C : Ct), (some (nI 7, nI (C 2 F)) : Option (Int32 × Int32))) := by unfold dPat; all_goals (repeat (first | rw [if_pos (by first | assumption | omega | rfl | trivial)] | rw [if_neg (by first | assumption | omega)])); all_goals (try simp only [eF, eJ, ek]); all_goals (try unfold dPatN); all_goals (repeat (first | rw [if_pos (by first | assumption | omega | rfl | trivial)] | rw [if_neg (by first | assumption | omega)])); all_goals rfl
            exact pm_of e9 ⟨rfl, rfl, by rw [mf_n (by decide)]; exact fa50, hv52, fr53, fun _ => rfl⟩
      · have c27z : x < nI 1 ∨ (¬ x < nI 1 ∧ ¬ x ≤ nI 48) := not_rg c27
        rcases c27z with c27a | ⟨c27b, c27d⟩
        · refine v_aload_n dX7_patents_34 rfl ?_
          refine v_sipush (v := (-1012)) dX7_patents_35 (by decide) ?_
          refine v_callV (st := []) dX7_patents_38 (t_X7_fail (x := (-1012)) ho) wX7_41 ho rfl rfl ⟨Nat.le_of_ble_eq_true rfl, Nat.le_of_ble_eq_true rfl⟩ (Nat.le_of_ble_eq_true rfl) ⟨Nat.le_of_ble_eq_true rfl, Nat.le_of_ble_eq_true rfl⟩ (fun r n2 h2 hq => ?_)
          obtain ⟨rfl, rfl, fa54, sa55⟩ := hq
          refine v_st (st2 := [.int ((-1012))]) rfl ?_
          have hv56 := (sa55 (m + 1) (by omega)).trans hv
          have fr57 := offn_in (k := 2) (q := m) offn_rf sa55 (by omega)
          refine v_iret dX7_patents_41 rfl ?_ (Nat.le_of_ble_eq_true rfl) (Nat.le_of_ble_eq_true rfl)
          have e9 : dPat C (nI F) (nI J) x = (((-1012) : Int32), (C : Ct), (none : Option (Int32 × Int32))) := by unfold dPat; all_goals (repeat (first | rw [if_pos (by first | assumption | omega | rfl | trivial)] | rw [if_neg (by first | assumption | omega)])); all_goals (try simp only [eF, eJ]); all_goals (try unfold dPatN); all_goals (repeat (first | rw [if_pos (by first | assumption | omega | rfl | trivial)] | rw [if_neg (by first | assumption | omega)])); all_goals rfl
          exact pm_of e9 ⟨rfl, rfl, by rw [mf_n (by decide)]; exact fa54, hv56, fr57, fun _ => rfl⟩
        · refine v_aload_n dX7_patents_34 rfl ?_
          refine v_sipush (v := (-1012)) dX7_patents_35 (by decide) ?_
          refine v_callV (st := []) dX7_patents_38 (t_X7_fail (x := (-1012)) ho) wX7_41 ho rfl rfl ⟨Nat.le_of_ble_eq_true rfl, Nat.le_of_ble_eq_true rfl⟩ (Nat.le_of_ble_eq_true rfl) ⟨Nat.le_of_ble_eq_true rfl, Nat.le_of_ble_eq_true rfl⟩ (fun r n2 h2 hq => ?_)
          obtain ⟨rfl, rfl, fa58, sa59⟩ := hq
          refine v_st (st2 := [.int ((-1012))]) rfl ?_
          have hv60 := (sa59 (m + 1) (by omega)).trans hv
          have fr61 := offn_in (k := 2) (q := m) offn_rf sa59 (by omega)
          refine v_iret dX7_patents_41 rfl ?_ (Nat.le_of_ble_eq_true rfl) (Nat.le_of_ble_eq_true rfl)
          have e9 : dPat C (nI F) (nI J) x = (((-1012) : Int32), (C : Ct), (none : Option (Int32 × Int32))) := by unfold dPat; all_goals (repeat (first | rw [if_pos (by first | assumption | omega | rfl | trivial)] | rw [if_neg (by first | assumption | omega)])); all_goals (try simp only [eF, eJ]); all_goals (try unfold dPatN); all_goals (repeat (first | rw [if_pos (by first | assumption | omega | rfl | trivial)] | rw [if_neg (by first | assumption | omega)])); all_goals rfl
          exact pm_of e9 ⟨rfl, rfl, by rw [mf_n (by decide)]; exact fa58, hv60, fr61, fun _ => rfl⟩
    · refine v_aload_n dX7_patents_16 rfl ?_
      refine v_sipush (v := (-1011)) dX7_patents_17 (by decide) ?_
      refine v_callV (st := []) dX7_patents_20 (t_X7_fail (x := (-1011)) ho) wX7_41 ho rfl rfl ⟨Nat.le_of_ble_eq_true rfl, Nat.le_of_ble_eq_true rfl⟩ (Nat.le_of_ble_eq_true rfl) ⟨Nat.le_of_ble_eq_true rfl, Nat.le_of_ble_eq_true rfl⟩ (fun r n2 h2 hq => ?_)
      obtain ⟨rfl, rfl, fa62, sa63⟩ := hq
      refine v_st (st2 := [.int ((-1011))]) rfl ?_
      have hv64 := (sa63 (m + 1) (by omega)).trans hv
      have fr65 := offn_in (k := 2) (q := m) offn_rf sa63 (by omega)
      refine v_iret dX7_patents_23 rfl ?_ (Nat.le_of_ble_eq_true rfl) (Nat.le_of_ble_eq_true rfl)
      have e9 : dPat C (nI F) j x = (((-1011) : Int32), (C : Ct), (none : Option (Int32 × Int32))) := by unfold dPat; all_goals (repeat (first | rw [if_pos (by first | assumption | omega | rfl | trivial)] | rw [if_neg (by first | assumption | omega)])); all_goals (try simp only [eF]); all_goals (try unfold dPatN); all_goals (repeat (first | rw [if_pos (by first | assumption | omega | rfl | trivial)] | rw [if_neg (by first | assumption | omega)])); all_goals rfl
      exact pm_of e9 ⟨rfl, rfl, by rw [mf_n (by decide)]; exact fa62, hv64, fr65, fun _ => rfl⟩
set_option maxRecDepth 20000 in
set_option maxHeartbeats 4000000 in
theorem t_X7_insures {l : Launch} {G : vG} {h : AH} {n : Nat} {f : Int32} {m ch sv tn hr en ln wg dg : Nat} {fl wy dt : Int32} {b : Nat} {C : Ct} (ho : h m = some (mo m ch sv tn hr en ln wg dg fl wy dt)) (hv : h (m + 1) = some (ar G 182 (vO C))) (hK : bdk b C) (hb1 : 200 ≤ b) (hb2 : b + 5000 ≤ 2 ^ 28) (hI : Iv C) : Mt l G mX7_insures [.ref m, .int f] (n) h 0 0 (pm G m ch sv tn hr en ln wg dg fl wy dt C h n (dIns C f)) := by
  refine Mt.of (by decide) (Nat.le_of_ble_eq_true rfl) rfl ?_
  refine v_ls (ls2 := [some (.ref m), some (.int f)]) rfl ?_
  have hB := hK.bd (by omega)
  obtain ⟨hF, hJ, hn, hs1, hc99, hs4, hs7, hs8, hs15, hbk9, hs9⟩ := hI.1
  have b00 := hB 0 0
  have b01 := hB 0 1
  have b02 := hB 0 2
  have b03 := hB 0 3
  refine v_aload_n dX7_insures_0 rfl ?_
  refine v_iload_n dX7_insures_1 rfl ?_
  refine v_callV (st := []) dX7_insures_2 (t_X7_isFool (x := f) ho hv hK (by omega)) wX7_81 ho rfl rfl ⟨Nat.le_of_ble_eq_true rfl, Nat.le_of_ble_eq_true rfl⟩ (Nat.le_of_ble_eq_true rfl) ⟨Nat.le_of_ble_eq_true rfl, Nat.le_of_ble_eq_true rfl⟩ (fun r n2 h2 hq => ?_)
  obtain ⟨rfl, hn9, rfl⟩ := hq; replace hn9 := hn9.symm; subst hn9
  refine v_st (st2 := [.int (nI (bI (ixb f (C 0 0) = true)))]) rfl ?_
  refine n_ifb_ne (tgt := 16) (p := ixb f (C 0 0) = true) dX7_insures_5 (by decide) (fun c21 => ?_) (fun c21 => ?_)
  · obtain ⟨F, hF1, rfl⟩ := ix_of c21 (by omega)
    have eF : (nI F).toNatClampNeg = F := nI_clamp (by omega)
    have h4F := hs4 F
    refine v_aload_n dX7_insures_16 rfl ?_
    refine fX7_7 (v := .ref (m + 1)) rfl dX7_insures_17 ho rfl ?_
    refine v_iload_n dX7_insures_20 rfl ?_
    refine v_iconst (v := nI 3) dX7_insures_21 (by decide) ?_
    refine v_callS (st := [.ref (m + 1)]) dX7_insures_22 (t_X7_at (f := F) (w := 3)) wX7_63 rfl ⟨Nat.le_of_ble_eq_true rfl, Nat.le_of_ble_eq_true rfl⟩ (Nat.le_of_ble_eq_true rfl) ⟨Nat.le_of_ble_eq_true rfl, Nat.le_of_ble_eq_true rfl⟩ (fun r n2 h2 hq => ?_)
    obtain ⟨rfl, hn9, rfl⟩ := hq; replace hn9 := hn9.symm; subst hn9
    refine v_st (st2 := [.int (nI (10 + 6 * F + 3)), .ref (m + 1)]) rfl ?_
    refine n_ialdv (f := vO C) (j := 10 + 6 * F + 3) (y := C 4 F) dX7_insures_25 hv (by omega) (by decide) ((vrd (C := C) (lgF (f := F) (w := 3) (by omega) (by decide)) (Or.inl (by omega))).trans rfl) ?_
    have b22 := hK 4 F
    refine v_iconst (v := nI 3) dX7_insures_26 (by decide) ?_
    refine n_icmp_ne (tgt := 38) (x := C 4 F) (y := 3) dX7_insures_27 (by decide) (by omega) (by omega) (fun c23 => ?_) (fun c23 => ?_)
    · refine v_aload_n dX7_insures_38 rfl ?_
      refine fX7_7 (v := .ref (m + 1)) rfl dX7_insures_39 ho rfl ?_
      refine v_iload_n dX7_insures_42 rfl ?_
      refine v_iconst (v := nI 1) dX7_insures_43 (by decide) ?_
      refine v_callS (st := [.ref (m + 1)]) dX7_insures_44 (t_X7_at (f := F) (w := 1)) wX7_63 rfl ⟨Nat.le_of_ble_eq_true rfl, Nat.le_of_ble_eq_true rfl⟩ (Nat.le_of_ble_eq_true rfl) ⟨Nat.le_of_ble_eq_true rfl, Nat.le_of_ble_eq_true rfl⟩ (fun r n2 h2 hq => ?_)
      obtain ⟨rfl, hn9, rfl⟩ := hq; replace hn9 := hn9.symm; subst hn9
      refine v_st (st2 := [.int (nI (10 + 6 * F + 1)), .ref (m + 1)]) rfl ?_
      refine n_ialdv (f := vO C) (j := 10 + 6 * F + 1) (y := C 2 F) dX7_insures_47 hv (by omega) (by decide) ((vrd (C := C) (lgF (f := F) (w := 1) (by omega) (by decide)) (Or.inl (by omega))).trans rfl) ?_
      have b24 := hK 2 F
      refine v_iconst (v := nI 2) dX7_insures_48 (by decide) ?_
      refine n_icmp_ge (tgt := 69) (x := C 2 F) (y := 2) dX7_insures_49 (by decide) (by omega) (by omega) (fun c25 => ?_) (fun c25 => ?_)
      · refine v_aload_n dX7_insures_69 rfl ?_
        refine fX7_7 (v := .ref (m + 1)) rfl dX7_insures_70 ho rfl ?_
        refine v_iconst (v := nI 5) dX7_insures_73 (by decide) ?_
        refine v_dup2 dX7_insures_74 rfl rfl ?_
        refine n_ialdv (f := vO C) (j := 5) (y := C 0 5) dX7_insures_75 hv (by omega) (by decide) ((vrd (C := C) lgn5 (Or.inl (by decide))).trans rfl) ?_
        have b26 := hK 0 5
        refine v_aload_n dX7_insures_76 rfl ?_
        refine v_iload_n dX7_insures_77 rfl ?_
        refine v_iconst (v := nI 2) dX7_insures_78 (by decide) ?_
        refine v_callV (st := [.int (nI (C 0 5)), .int (nI 5), .ref (m + 1)]) dX7_insures_79 (t_X7_pays (f := F) (k := 2) ho hv hK (by omega) (by omega) (by omega)) wX7_88 ho rfl rfl ⟨Nat.le_of_ble_eq_true rfl, Nat.le_of_ble_eq_true rfl⟩ (Nat.le_of_ble_eq_true rfl) ⟨Nat.le_of_ble_eq_true rfl, Nat.le_of_ble_eq_true rfl⟩ (fun r n2 h2 hq => ?_)
        obtain ⟨rfl, rfl, hv27, sa27⟩ := hq
        refine v_st (st2 := [.int (nI (pay C F 2)), .int (nI (C 0 5)), .int (nI 5), .ref (m + 1)]) rfl ?_
        have hpl27 : pay C F 2 ≤ C 2 F := Nat.min_le_right _ _
        have hpk27 : pay C F 2 ≤ 2 := Nat.min_le_left _ _
        have hbk27 := hK 2 F
        have hbl27 : C 2 F < b := hbk27
        have hK27 : bdk (b + 100) (cu C 2 F (C 2 F - pay C F 2)) := bdk_cu hK (by omega) (by omega)
        have hD27 := hK27.bd (by omega)
        have fa28 := (sa27 (m) (by omega)).trans ho
        have fr29 := offn_in (k := 2) (q := m) offn_rf sa27 (by omega)
        refine n_iadd (x := C 0 5) (y := pay C F 2) dX7_insures_82 ?_
        refine n_iast (f := vO (cu C 2 F (C 2 F - pay C F 2))) (j := 5) (x := C 0 5 + pay C F 2) dX7_insures_83 hv27 (by omega) (by decide) ?_
        refine nw (fun h1 f1 s1 => ?_)
        have hv30 : h1 (m + 1) = some (ar G 182 (vO (cu (cu C 2 F (C 2 F - pay C F 2)) 0 5 (C 0 5 + pay C F 2)))) := Eq.mp (congrArg (fun F => h1 (m + 1) = some (ar G 182 F)) (vup (C := cu C 2 F (C 2 F - pay C F 2)) lgn5 (Or.inl (by decide)) (by omega))) f1
        have sa30 := s1
        clear f1 s1
        have hK30 : bdk (b + 200) (cu (cu C 2 F (C 2 F - pay C F 2)) 0 5 (C 0 5 + pay C F 2)) := bdk_cu hK27 (by omega) (by omega)
        have hD30 := hK30.bd (by omega)
        have fa31 := (sa30 (m) (by omega)).trans fa28
        have fr32 := offn_in (k := 2) (q := m) fr29 sa30 (by omega)
        refine v_aload_n dX7_insures_84 rfl ?_
        refine fX7_7 (v := .ref (m + 1)) rfl dX7_insures_85 fa31 rfl ?_
        refine v_iload_n dX7_insures_88 rfl ?_
        refine v_iconst (v := nI 3) dX7_insures_89 (by decide) ?_
        refine v_callS (st := [.ref (m + 1)]) dX7_insures_90 (t_X7_at (f := F) (w := 3)) wX7_63 rfl ⟨Nat.le_of_ble_eq_true rfl, Nat.le_of_ble_eq_true rfl⟩ (Nat.le_of_ble_eq_true rfl) ⟨Nat.le_of_ble_eq_true rfl, Nat.le_of_ble_eq_true rfl⟩ (fun r n2 h2 hq => ?_)
        obtain ⟨rfl, hn9, rfl⟩ := hq; replace hn9 := hn9.symm; subst hn9
        refine v_st (st2 := [.int (nI (10 + 6 * F + 3)), .ref (m + 1)]) rfl ?_
        refine v_dup2 dX7_insures_93 rfl rfl ?_
        refine n_ialdv (f := vO (cu (cu C 2 F (C 2 F - pay C F 2)) 0 5 (C 0 5 + pay C F 2))) (j := 10 + 6 * F + 3) (y := C 4 F) dX7_insures_94 hv30 (by omega) (by decide) ((vrd (C := cu (cu C 2 F (C 2 F - pay C F 2)) 0 5 (C 0 5 + pay C F 2)) (lgF (f := F) (w := 3) (by omega) (by decide)) (Or.inl (by omega))).trans rfl) ?_
        refine v_iconst (v := nI 1) dX7_insures_95 (by decide) ?_
        refine n_iadd (x := C 4 F) (y := 1) dX7_insures_96 ?_
        refine n_iast (f := vO (cu (cu C 2 F (C 2 F - pay C F 2)) 0 5 (C 0 5 + pay C F 2))) (j := 10 + 6 * F + 3) (x := C 4 F + 1) dX7_insures_97 hv30 (by omega) (by decide) ?_
        refine nw (fun h1 f1 s1 => ?_)
        have hv33 : h1 (m + 1) = some (ar G 182 (vO (cu (cu (cu C 2 F (C 2 F - pay C F 2)) 0 5 (C 0 5 + pay C F 2)) 4 F (C 4 F + 1)))) := Eq.mp (congrArg (fun F => h1 (m + 1) = some (ar G 182 F)) (vup (C := cu (cu C 2 F (C 2 F - pay C F 2)) 0 5 (C 0 5 + pay C F 2)) (lgF (f := F) (w := 3) (by omega) (by decide)) (Or.inl (by omega)) (by omega))) f1
        have sa33 := s1
        clear f1 s1
        have hK33 : bdk (b + 300) (cu (cu (cu C 2 F (C 2 F - pay C F 2)) 0 5 (C 0 5 + pay C F 2)) 4 F (C 4 F + 1)) := bdk_cu hK30 (by omega) (by omega)
        have hD33 := hK33.bd (by omega)
        have fa34 := (sa33 (m) (by omega)).trans fa31
        have fr35 := offn_in (k := 2) (q := m) fr32 sa33 (by omega)
        refine v_aload_n dX7_insures_98 rfl ?_
        refine fX7_7 (v := .ref (m + 1)) rfl dX7_insures_99 fa34 rfl ?_
        refine v_iload_n dX7_insures_102 rfl ?_
        refine v_iconst (v := nI 3) dX7_insures_103 (by decide) ?_
        refine v_callS (st := [.ref (m + 1)]) dX7_insures_104 (t_X7_at (f := F) (w := 3)) wX7_63 rfl ⟨Nat.le_of_ble_eq_true rfl, Nat.le_of_ble_eq_true rfl⟩ (Nat.le_of_ble_eq_true rfl) ⟨Nat.le_of_ble_eq_true rfl, Nat.le_of_ble_eq_true rfl⟩ (fun r n2 h2 hq => ?_)
        obtain ⟨rfl, hn9, rfl⟩ := hq; replace hn9 := hn9.symm; subst hn9
        refine v_st (st2 := [.int (nI (10 + 6 * F + 3)), .ref (m + 1)]) rfl ?_
        refine n_ialdv (f := vO (cu (cu (cu C 2 F (C 2 F - pay C F 2)) 0 5 (C 0 5 + pay C F 2)) 4 F (C 4 F + 1))) (j := 10 + 6 * F + 3) (y := C 4 F + 1) dX7_insures_107 hv33 (by omega) (by decide) ((vrd (C := cu (cu (cu C 2 F (C 2 F - pay C F 2)) 0 5 (C 0 5 + pay C F 2)) 4 F (C 4 F + 1)) (lgF (f := F) (w := 3) (by omega) (by decide)) (Or.inl (by omega))).trans (show va_up (C 4) F (C 4 F + 1) F = (C 4 F + 1) from nI_up)) ?_
        refine v_iret dX7_insures_108 rfl ?_ (Nat.le_of_ble_eq_true rfl) (Nat.le_of_ble_eq_true rfl)
        have e9 : dIns C (nI F) = ((nI (C 4 F + 1) : Int32), (cu (cu (cu C 2 F (C 2 F - pay C F 2)) 0 5 (C 0 5 + pay C F 2)) 4 F (C 4 F + 1) : Ct), (none : Option (Int32 × Int32))) := by unfold dIns; all_goals (repeat (first | rw [if_pos (by first | assumption | omega | rfl | trivial)] | rw [if_neg (by first | assumption | omega)])); all_goals (try simp only [eF]); all_goals (try unfold dInsN); all_goals (repeat (first | rw [if_pos (by first | assumption | omega | rfl | trivial)] | rw [if_neg (by first | assumption | omega)])); all_goals rfl
        exact pm_of e9 ⟨rfl, rfl, by rw [mf_p (nI_pos (by omega))]; exact fa34, hv33, fr35, fun z => absurd z (nI_pos (by omega))⟩
      · refine v_aload_n dX7_insures_52 rfl ?_
        refine v_bipush (v := nI 7) dX7_insures_53 (by decide) ?_
        refine v_aload_n dX7_insures_55 rfl ?_
        refine fX7_7 (v := .ref (m + 1)) rfl dX7_insures_56 ho rfl ?_
        refine v_iload_n dX7_insures_59 rfl ?_
        refine v_iconst (v := nI 1) dX7_insures_60 (by decide) ?_
        refine v_callS (st := [.ref (m + 1), .int (nI 7), .ref m]) dX7_insures_61 (t_X7_at (f := F) (w := 1)) wX7_63 rfl ⟨Nat.le_of_ble_eq_true rfl, Nat.le_of_ble_eq_true rfl⟩ (Nat.le_of_ble_eq_true rfl) ⟨Nat.le_of_ble_eq_true rfl, Nat.le_of_ble_eq_true rfl⟩ (fun r n2 h2 hq => ?_)
        obtain ⟨rfl, hn9, rfl⟩ := hq; replace hn9 := hn9.symm; subst hn9
        refine v_st (st2 := [.int (nI (10 + 6 * F + 1)), .ref (m + 1), .int (nI 7), .ref m]) rfl ?_
        refine n_ialdv (f := vO C) (j := 10 + 6 * F + 1) (y := C 2 F) dX7_insures_64 hv (by omega) (by decide) ((vrd (C := C) (lgF (f := F) (w := 1) (by omega) (by decide)) (Or.inl (by omega))).trans rfl) ?_
        refine v_callV (st := []) dX7_insures_65 (t_X7_refuses (x := nI 7) (y := nI (C 2 F)) ho) wX7_66 ho rfl rfl ⟨Nat.le_of_ble_eq_true rfl, Nat.le_of_ble_eq_true rfl⟩ (Nat.le_of_ble_eq_true rfl) ⟨Nat.le_of_ble_eq_true rfl, Nat.le_of_ble_eq_true rfl⟩ (fun r n2 h2 hq => ?_)
        obtain ⟨rfl, rfl, fa36, sa37⟩ := hq
        refine v_st (st2 := [.int ((-1014))]) rfl ?_
        have hv38 := (sa37 (m + 1) (by omega)).trans hv
        have fr39 := offn_in (k := 2) (q := m) offn_rf sa37 (by omega)
        refine v_iret dX7_insures_68 rfl ?_ (Nat.le_of_ble_eq_true rfl) (Nat.le_of_ble_eq_true rfl)
        have e9 : dIns C (nI F) = (((-1014) : Int32), (C : Ct), (some (nI 7, nI (C 2 F)) : Option (Int32 × Int32))) := by unfold dIns; all_goals (repeat (first | rw [if_pos (by first | assumption | omega | rfl | trivial)] | rw [if_neg (by first | assumption | omega)])); all_goals (try simp only [eF]); all_goals (try unfold dInsN); all_goals (repeat (first | rw [if_pos (by first | assumption | omega | rfl | trivial)] | rw [if_neg (by first | assumption | omega)])); all_goals rfl
        exact pm_of e9 ⟨rfl, rfl, by rw [mf_n (by decide)]; exact fa36, hv38, fr39, fun _ => rfl⟩
    · refine v_aload_n dX7_insures_30 rfl ?_
      refine v_bipush (v := nI 8) dX7_insures_31 (by decide) ?_
      refine v_iconst (v := nI 3) dX7_insures_33 (by decide) ?_
      refine v_callV (st := []) dX7_insures_34 (t_X7_refuses (x := nI 8) (y := nI 3) ho) wX7_66 ho rfl rfl ⟨Nat.le_of_ble_eq_true rfl, Nat.le_of_ble_eq_true rfl⟩ (Nat.le_of_ble_eq_true rfl) ⟨Nat.le_of_ble_eq_true rfl, Nat.le_of_ble_eq_true rfl⟩ (fun r n2 h2 hq => ?_)
      obtain ⟨rfl, rfl, fa40, sa41⟩ := hq
      refine v_st (st2 := [.int ((-1014))]) rfl ?_
      have hv42 := (sa41 (m + 1) (by omega)).trans hv
      have fr43 := offn_in (k := 2) (q := m) offn_rf sa41 (by omega)
      refine v_iret dX7_insures_37 rfl ?_ (Nat.le_of_ble_eq_true rfl) (Nat.le_of_ble_eq_true rfl)
      have e9 : dIns C (nI F) = (((-1014) : Int32), (C : Ct), (some (nI 8, nI 3) : Option (Int32 × Int32))) := by unfold dIns; all_goals (repeat (first | rw [if_pos (by first | assumption | omega | rfl | trivial)] | rw [if_neg (by first | assumption | omega)])); all_goals (try simp only [eF]); all_goals (try unfold dInsN); all_goals (repeat (first | rw [if_pos (by first | assumption | omega | rfl | trivial)] | rw [if_neg (by first | assumption | omega)])); all_goals rfl
      exact pm_of e9 ⟨rfl, rfl, by rw [mf_n (by decide)]; exact fa40, hv42, fr43, fun _ => rfl⟩
  · refine v_aload_n dX7_insures_8 rfl ?_
    refine v_sipush (v := (-1011)) dX7_insures_9 (by decide) ?_
    refine v_callV (st := []) dX7_insures_12 (t_X7_fail (x := (-1011)) ho) wX7_41 ho rfl rfl ⟨Nat.le_of_ble_eq_true rfl, Nat.le_of_ble_eq_true rfl⟩ (Nat.le_of_ble_eq_true rfl) ⟨Nat.le_of_ble_eq_true rfl, Nat.le_of_ble_eq_true rfl⟩ (fun r n2 h2 hq => ?_)
    obtain ⟨rfl, rfl, fa44, sa45⟩ := hq
    refine v_st (st2 := [.int ((-1011))]) rfl ?_
    have hv46 := (sa45 (m + 1) (by omega)).trans hv
    have fr47 := offn_in (k := 2) (q := m) offn_rf sa45 (by omega)
    refine v_iret dX7_insures_15 rfl ?_ (Nat.le_of_ble_eq_true rfl) (Nat.le_of_ble_eq_true rfl)
    have e9 : dIns C f = (((-1011) : Int32), (C : Ct), (none : Option (Int32 × Int32))) := by unfold dIns; all_goals (repeat (first | rw [if_pos (by first | assumption | omega | rfl | trivial)] | rw [if_neg (by first | assumption | omega)])); all_goals (try unfold dInsN); all_goals (repeat (first | rw [if_pos (by first | assumption | omega | rfl | trivial)] | rw [if_neg (by first | assumption | omega)])); all_goals rfl
    exact pm_of e9 ⟨rfl, rfl, by rw [mf_n (by decide)]; exact fa44, hv46, fr47, fun _ => rfl⟩
set_option maxRecDepth 20000 in
set_option maxHeartbeats 4000000 in
theorem t_X7_audits {l : Launch} {G : vG} {h : AH} {n : Nat} {f : Int32} {m ch sv tn hr en ln wg dg : Nat} {fl wy dt : Int32} {b : Nat} {C : Ct} (ho : h m = some (mo m ch sv tn hr en ln wg dg fl wy dt)) (hv : h (m + 1) = some (ar G 182 (vO C))) (hK : bdk b C) (hb1 : 200 ≤ b) (hb2 : b + 5000 ≤ 2 ^ 28) (hI : Iv C) : Mt l G mX7_audits [.ref m, .int f] (n) h 0 0 (pm G m ch sv tn hr en ln wg dg fl wy dt C h n (dAud C f)) := by
  refine Mt.of (by decide) (Nat.le_of_ble_eq_true rfl) rfl ?_
  refine v_ls (ls2 := [some (.ref m), some (.int f), none, none]) rfl ?_
  have hB := hK.bd (by omega)
  obtain ⟨hF, hJ, hn, hs1, hc99, hs4, hs7, hs8, hs15, hbk9, hs9⟩ := hI.1
  have b00 := hB 0 0
  have b01 := hB 0 1
  have b02 := hB 0 2
  have b03 := hB 0 3
  refine v_aload_n dX7_audits_0 rfl ?_
  refine v_iload_n dX7_audits_1 rfl ?_
  refine v_callV (st := []) dX7_audits_2 (t_X7_isFool (x := f) ho hv hK (by omega)) wX7_81 ho rfl rfl ⟨Nat.le_of_ble_eq_true rfl, Nat.le_of_ble_eq_true rfl⟩ (Nat.le_of_ble_eq_true rfl) ⟨Nat.le_of_ble_eq_true rfl, Nat.le_of_ble_eq_true rfl⟩ (fun r n2 h2 hq => ?_)
  obtain ⟨rfl, hn9, rfl⟩ := hq; replace hn9 := hn9.symm; subst hn9
  refine v_st (st2 := [.int (nI (bI (ixb f (C 0 0) = true)))]) rfl ?_
  refine n_ifb_ne (tgt := 16) (p := ixb f (C 0 0) = true) dX7_audits_5 (by decide) (fun c21 => ?_) (fun c21 => ?_)
  · obtain ⟨F, hF1, rfl⟩ := ix_of c21 (by omega)
    have eF : (nI F).toNatClampNeg = F := nI_clamp (by omega)
    have h9F := hc99 F
    refine v_aload_n dX7_audits_16 rfl ?_
    refine fX7_7 (v := .ref (m + 1)) rfl dX7_audits_17 ho rfl ?_
    refine v_iload_n dX7_audits_20 rfl ?_
    refine v_iconst (v := nI 2) dX7_audits_21 (by decide) ?_
    refine v_callS (st := [.ref (m + 1)]) dX7_audits_22 (t_X7_at (f := F) (w := 2)) wX7_63 rfl ⟨Nat.le_of_ble_eq_true rfl, Nat.le_of_ble_eq_true rfl⟩ (Nat.le_of_ble_eq_true rfl) ⟨Nat.le_of_ble_eq_true rfl, Nat.le_of_ble_eq_true rfl⟩ (fun r n2 h2 hq => ?_)
    obtain ⟨rfl, hn9, rfl⟩ := hq; replace hn9 := hn9.symm; subst hn9
    refine v_st (st2 := [.int (nI (10 + 6 * F + 2)), .ref (m + 1)]) rfl ?_
    refine n_ialdv (f := vO C) (j := 10 + 6 * F + 2) (y := C 3 F) dX7_audits_25 hv (by omega) (by decide) ((vrd (C := C) (lgF (f := F) (w := 2) (by omega) (by decide)) (Or.inl (by omega))).trans rfl) ?_
    have b22 := hK 3 F
    refine v_istore_n dX7_audits_26 rfl (by decide) ?_
    refine v_ls (ls2 := [some (.ref m), some (.int (nI F)), some (.int (nI (C 3 F))), none]) rfl ?_
    refine v_iload_n dX7_audits_27 rfl ?_
    refine v_iconst (v := nI 3) dX7_audits_28 (by decide) ?_
    refine n_icmp_ge (tgt := 40) (x := C 3 F) (y := 3) dX7_audits_29 (by decide) (by omega) (by omega) (fun c23 => ?_) (fun c23 => ?_)
    · refine v_aload_n dX7_audits_40 rfl ?_
      refine fX7_7 (v := .ref (m + 1)) rfl dX7_audits_41 ho rfl ?_
      refine v_iload_n dX7_audits_44 rfl ?_
      refine v_iconst (v := nI 1) dX7_audits_45 (by decide) ?_
      refine v_callS (st := [.ref (m + 1)]) dX7_audits_46 (t_X7_at (f := F) (w := 1)) wX7_63 rfl ⟨Nat.le_of_ble_eq_true rfl, Nat.le_of_ble_eq_true rfl⟩ (Nat.le_of_ble_eq_true rfl) ⟨Nat.le_of_ble_eq_true rfl, Nat.le_of_ble_eq_true rfl⟩ (fun r n2 h2 hq => ?_)
      obtain ⟨rfl, hn9, rfl⟩ := hq; replace hn9 := hn9.symm; subst hn9
      refine v_st (st2 := [.int (nI (10 + 6 * F + 1)), .ref (m + 1)]) rfl ?_
      refine n_ialdv (f := vO C) (j := 10 + 6 * F + 1) (y := C 2 F) dX7_audits_49 hv (by omega) (by decide) ((vrd (C := C) (lgF (f := F) (w := 1) (by omega) (by decide)) (Or.inl (by omega))).trans rfl) ?_
      have b24 := hK 2 F
      refine n_if_ne (tgt := 61) (x := C 2 F) dX7_audits_50 (by decide) (by omega) (fun c25 => ?_) (fun c25 => ?_)
      · refine v_aload_n dX7_audits_61 rfl ?_
        refine v_iload_n dX7_audits_62 rfl ?_
        refine v_iload_n dX7_audits_63 rfl ?_
        refine v_iconst (v := nI 3) dX7_audits_64 (by decide) ?_
        refine n_idiv (x := C 3 F) (y := 3) dX7_audits_65 (by omega) (by omega) (by omega) ?_
        refine v_callV (st := []) dX7_audits_66 (t_X7_pays (f := F) (k := C 3 F / 3) ho hv hK (by omega) (by omega) (by omega)) wX7_88 ho rfl rfl ⟨Nat.le_of_ble_eq_true rfl, Nat.le_of_ble_eq_true rfl⟩ (Nat.le_of_ble_eq_true rfl) ⟨Nat.le_of_ble_eq_true rfl, Nat.le_of_ble_eq_true rfl⟩ (fun r n2 h2 hq => ?_)
        obtain ⟨rfl, rfl, hv26, sa26⟩ := hq
        refine v_st (st2 := [.int (nI (pay C F (C 3 F / 3)))]) rfl ?_
        have hpl26 : pay C F (C 3 F / 3) ≤ C 2 F := Nat.min_le_right _ _
        have hpk26 : pay C F (C 3 F / 3) ≤ C 3 F / 3 := Nat.min_le_left _ _
        have hbk26 := hK 2 F
        have hbl26 : C 2 F < b := hbk26
        have hK26 : bdk (b + 100) (cu C 2 F (C 2 F - pay C F (C 3 F / 3))) := bdk_cu hK (by omega) (by omega)
        have hD26 := hK26.bd (by omega)
        have fa27 := (sa26 (m) (by omega)).trans ho
        have fr28 := offn_in (k := 2) (q := m) offn_rf sa26 (by omega)
        refine v_istore_n dX7_audits_69 rfl (by decide) ?_
        refine v_ls (ls2 := [some (.ref m), some (.int (nI F)), some (.int (nI (C 3 F))), some (.int (nI (pay C F (C 3 F / 3))))]) rfl ?_
        have hp3 : pay C F (C 3 F / 3) ≤ C 3 F / 3 := Nat.min_le_left _ _
        refine v_aload_n dX7_audits_70 rfl ?_
        refine fX7_7 (v := .ref (m + 1)) rfl dX7_audits_71 fa27 rfl ?_
        refine v_iconst (v := nI 5) dX7_audits_74 (by decide) ?_
        refine v_dup2 dX7_audits_75 rfl rfl ?_
        refine n_ialdv (f := vO (cu C 2 F (C 2 F - pay C F (C 3 F / 3)))) (j := 5) (y := C 0 5) dX7_audits_76 hv26 (by omega) (by decide) ((vrd (C := cu C 2 F (C 2 F - pay C F (C 3 F / 3))) lgn5 (Or.inl (by decide))).trans rfl) ?_
        have b29 := hK 0 5
        refine v_iload_n dX7_audits_77 rfl ?_
        refine n_iadd (x := C 0 5) (y := pay C F (C 3 F / 3)) dX7_audits_78 ?_
        refine n_iast (f := vO (cu C 2 F (C 2 F - pay C F (C 3 F / 3)))) (j := 5) (x := C 0 5 + (pay C F (C 3 F / 3))) dX7_audits_79 hv26 (by omega) (by decide) ?_
        refine nw (fun h1 f1 s1 => ?_)
        have hv30 : h1 (m + 1) = some (ar G 182 (vO (cu (cu C 2 F (C 2 F - pay C F (C 3 F / 3))) 0 5 (C 0 5 + (pay C F (C 3 F / 3)))))) := Eq.mp (congrArg (fun F => h1 (m + 1) = some (ar G 182 F)) (vup (C := cu C 2 F (C 2 F - pay C F (C 3 F / 3))) lgn5 (Or.inl (by decide)) (by omega))) f1
        have sa30 := s1
        clear f1 s1
        have hK30 : bdk (b + 200) (cu (cu C 2 F (C 2 F - pay C F (C 3 F / 3))) 0 5 (C 0 5 + (pay C F (C 3 F / 3)))) := bdk_cu hK26 (by omega) (by omega)
        have hD30 := hK30.bd (by omega)
        have fa31 := (sa30 (m) (by omega)).trans fa27
        have fr32 := offn_in (k := 2) (q := m) fr28 sa30 (by omega)
        refine v_aload_n dX7_audits_80 rfl ?_
        refine fX7_7 (v := .ref (m + 1)) rfl dX7_audits_81 fa31 rfl ?_
        refine v_iload_n dX7_audits_84 rfl ?_
        refine v_iconst (v := nI 2) dX7_audits_85 (by decide) ?_
        refine v_callS (st := [.ref (m + 1)]) dX7_audits_86 (t_X7_at (f := F) (w := 2)) wX7_63 rfl ⟨Nat.le_of_ble_eq_true rfl, Nat.le_of_ble_eq_true rfl⟩ (Nat.le_of_ble_eq_true rfl) ⟨Nat.le_of_ble_eq_true rfl, Nat.le_of_ble_eq_true rfl⟩ (fun r n2 h2 hq => ?_)
        obtain ⟨rfl, hn9, rfl⟩ := hq; replace hn9 := hn9.symm; subst hn9
        refine v_st (st2 := [.int (nI (10 + 6 * F + 2)), .ref (m + 1)]) rfl ?_
        refine v_dup2 dX7_audits_89 rfl rfl ?_
        refine n_ialdv (f := vO (cu (cu C 2 F (C 2 F - pay C F (C 3 F / 3))) 0 5 (C 0 5 + (pay C F (C 3 F / 3))))) (j := 10 + 6 * F + 2) (y := C 3 F) dX7_audits_90 hv30 (by omega) (by decide) ((vrd (C := cu (cu C 2 F (C 2 F - pay C F (C 3 F / 3))) 0 5 (C 0 5 + (pay C F (C 3 F / 3)))) (lgF (f := F) (w := 2) (by omega) (by decide)) (Or.inl (by omega))).trans rfl) ?_
        refine v_iconst (v := nI 3) dX7_audits_91 (by decide) ?_
        refine v_iload_n dX7_audits_92 rfl ?_
        refine n_imul (x := 3) (y := pay C F (C 3 F / 3)) dX7_audits_93 ?_
        refine n_isub (x := C 3 F) (y := 3 * (pay C F (C 3 F / 3))) dX7_audits_94 (by omega) ?_
        refine n_iast (f := vO (cu (cu C 2 F (C 2 F - pay C F (C 3 F / 3))) 0 5 (C 0 5 + (pay C F (C 3 F / 3))))) (j := 10 + 6 * F + 2) (x := C 3 F - (3 * (pay C F (C 3 F / 3)))) dX7_audits_95 hv30 (by omega) (by decide) ?_
        refine nw (fun h1 f1 s1 => ?_)
        have hv33 : h1 (m + 1) = some (ar G 182 (vO (cu (cu (cu C 2 F (C 2 F - pay C F (C 3 F / 3))) 0 5 (C 0 5 + (pay C F (C 3 F / 3)))) 3 F (C 3 F - (3 * (pay C F (C 3 F / 3))))))) := Eq.mp (congrArg (fun F => h1 (m + 1) = some (ar G 182 F)) (vup (C := cu (cu C 2 F (C 2 F - pay C F (C 3 F / 3))) 0 5 (C 0 5 + (pay C F (C 3 F / 3)))) (lgF (f := F) (w := 2) (by omega) (by decide)) (Or.inl (by omega)) (by omega))) f1
        have sa33 := s1
        clear f1 s1
        have hK33 : bdk (b + 300) (cu (cu (cu C 2 F (C 2 F - pay C F (C 3 F / 3))) 0 5 (C 0 5 + (pay C F (C 3 F / 3)))) 3 F (C 3 F - (3 * (pay C F (C 3 F / 3))))) := bdk_cu hK30 (by omega) (by omega)
        have hD33 := hK33.bd (by omega)
        have fa34 := (sa33 (m) (by omega)).trans fa31
        have fr35 := offn_in (k := 2) (q := m) fr32 sa33 (by omega)
        refine v_iload_n dX7_audits_96 rfl ?_
        refine v_iret dX7_audits_97 rfl ?_ (Nat.le_of_ble_eq_true rfl) (Nat.le_of_ble_eq_true rfl)
        have e9 : dAud C (nI F) = ((nI (pay C F (C 3 F / 3)) : Int32), (cu (cu (cu C 2 F (C 2 F - pay C F (C 3 F / 3))) 0 5 (C 0 5 + (pay C F (C 3 F / 3)))) 3 F (C 3 F - (3 * (pay C F (C 3 F / 3)))) : Ct), (none : Option (Int32 × Int32))) := by unfold dAud; all_goals (repeat (first | rw [if_pos (by first | assumption | omega | rfl | trivial)] | rw [if_neg (by first | assumption | omega)])); all_goals (try simp only [eF]); all_goals (try unfold dAudN); all_goals (repeat (first | rw [if_pos (by first | assumption | omega | rfl | trivial)] | rw [if_neg (by first | assumption | omega)])); all_goals rfl
        exact pm_of e9 ⟨rfl, rfl, by rw [mf_p (nI_pos (by omega))]; exact fa34, hv33, fr35, fun z => absurd z (nI_pos (by omega))⟩
      · refine v_aload_n dX7_audits_53 rfl ?_
        refine v_bipush (v := nI 7) dX7_audits_54 (by decide) ?_
        refine v_iconst (v := nI 0) dX7_audits_56 (by decide) ?_
        refine v_callV (st := []) dX7_audits_57 (t_X7_refuses (x := nI 7) (y := nI 0) ho) wX7_66 ho rfl rfl ⟨Nat.le_of_ble_eq_true rfl, Nat.le_of_ble_eq_true rfl⟩ (Nat.le_of_ble_eq_true rfl) ⟨Nat.le_of_ble_eq_true rfl, Nat.le_of_ble_eq_true rfl⟩ (fun r n2 h2 hq => ?_)
        obtain ⟨rfl, rfl, fa36, sa37⟩ := hq
        refine v_st (st2 := [.int ((-1014))]) rfl ?_
        have hv38 := (sa37 (m + 1) (by omega)).trans hv
        have fr39 := offn_in (k := 2) (q := m) offn_rf sa37 (by omega)
        refine v_iret dX7_audits_60 rfl ?_ (Nat.le_of_ble_eq_true rfl) (Nat.le_of_ble_eq_true rfl)
        have e9 : dAud C (nI F) = (((-1014) : Int32), (C : Ct), (some (nI 7, nI 0) : Option (Int32 × Int32))) := by unfold dAud; all_goals (repeat (first | rw [if_pos (by first | assumption | omega | rfl | trivial)] | rw [if_neg (by first | assumption | omega)])); all_goals (try simp only [eF]); all_goals (try unfold dAudN); all_goals (repeat (first | rw [if_pos (by first | assumption | omega | rfl | trivial)] | rw [if_neg (by first | assumption | omega)])); all_goals rfl
        exact pm_of e9 ⟨rfl, rfl, by rw [mf_n (by decide)]; exact fa36, hv38, fr39, fun _ => rfl⟩
    · refine v_aload_n dX7_audits_32 rfl ?_
      refine v_bipush (v := nI 10) dX7_audits_33 (by decide) ?_
      refine v_iload_n dX7_audits_35 rfl ?_
      refine v_callV (st := []) dX7_audits_36 (t_X7_refuses (x := nI 10) (y := nI (C 3 F)) ho) wX7_66 ho rfl rfl ⟨Nat.le_of_ble_eq_true rfl, Nat.le_of_ble_eq_true rfl⟩ (Nat.le_of_ble_eq_true rfl) ⟨Nat.le_of_ble_eq_true rfl, Nat.le_of_ble_eq_true rfl⟩ (fun r n2 h2 hq => ?_)
      obtain ⟨rfl, rfl, fa40, sa41⟩ := hq
      refine v_st (st2 := [.int ((-1014))]) rfl ?_
      have hv42 := (sa41 (m + 1) (by omega)).trans hv
      have fr43 := offn_in (k := 2) (q := m) offn_rf sa41 (by omega)
      refine v_iret dX7_audits_39 rfl ?_ (Nat.le_of_ble_eq_true rfl) (Nat.le_of_ble_eq_true rfl)
      have e9 : dAud C (nI F) = (((-1014) : Int32), (C : Ct), (some (nI 10, nI (C 3 F)) : Option (Int32 × Int32))) := by unfold dAud; all_goals (repeat (first | rw [if_pos (by first | assumption | omega | rfl | trivial)] | rw [if_neg (by first | assumption | omega)])); all_goals (try simp only [eF]); all_goals (try unfold dAudN); all_goals (repeat (first | rw [if_pos (by first | assumption | omega | rfl | trivial)] | rw [if_neg (by first | assumption | omega)])); all_goals rfl
      exact pm_of e9 ⟨rfl, rfl, by rw [mf_n (by decide)]; exact fa40, hv42, fr43, fun _ => rfl⟩
  · refine v_aload_n dX7_audits_8 rfl ?_
    refine v_sipush (v := (-1011)) dX7_audits_9 (by decide) ?_
    refine v_callV (st := []) dX7_audits_12 (t_X7_fail (x := (-1011)) ho) wX7_41 ho rfl rfl ⟨Nat.le_of_ble_eq_true rfl, Nat.le_of_ble_eq_true rfl⟩ (Nat.le_of_ble_eq_true rfl) ⟨Nat.le_of_ble_eq_true rfl, Nat.le_of_ble_eq_true rfl⟩ (fun r n2 h2 hq => ?_)
    obtain ⟨rfl, rfl, fa44, sa45⟩ := hq
    refine v_st (st2 := [.int ((-1011))]) rfl ?_
    have hv46 := (sa45 (m + 1) (by omega)).trans hv
    have fr47 := offn_in (k := 2) (q := m) offn_rf sa45 (by omega)
    refine v_iret dX7_audits_15 rfl ?_ (Nat.le_of_ble_eq_true rfl) (Nat.le_of_ble_eq_true rfl)
    have e9 : dAud C f = (((-1011) : Int32), (C : Ct), (none : Option (Int32 × Int32))) := by unfold dAud; all_goals (repeat (first | rw [if_pos (by first | assumption | omega | rfl | trivial)] | rw [if_neg (by first | assumption | omega)])); all_goals (try unfold dAudN); all_goals (repeat (first | rw [if_pos (by first | assumption | omega | rfl | trivial)] | rw [if_neg (by first | assumption | omega)])); all_goals rfl
    exact pm_of e9 ⟨rfl, rfl, by rw [mf_n (by decide)]; exact fa44, hv46, fr47, fun _ => rfl⟩
set_option maxRecDepth 20000 in
set_option maxHeartbeats 4000000 in
theorem t_X7_exempts {l : Launch} {G : vG} {h : AH} {n : Nat} {t x : Int32} {m ch sv tn hr en ln wg dg : Nat} {fl wy dt : Int32} {b : Nat} {C : Ct} (ho : h m = some (mo m ch sv tn hr en ln wg dg fl wy dt)) (hv : h (m + 1) = some (ar G 182 (vO C))) (hK : bdk b C) (hb1 : 200 ≤ b) (hb2 : b + 5000 ≤ 2 ^ 28) (hI : Iv C) : Mt l G mX7_exempts [.ref m, .int t, .int x] (n) h 0 0 (pm G m ch sv tn hr en ln wg dg fl wy dt C h n (dExe C t x)) := by
  refine Mt.of (by decide) (Nat.le_of_ble_eq_true rfl) rfl ?_
  refine v_ls (ls2 := [some (.ref m), some (.int t), some (.int x), none, none]) rfl ?_
  have hB := hK.bd (by omega)
  obtain ⟨hF, hJ, hn, hs1, hc99, hs4, hs7, hs8, hs15, hbk9, hs9⟩ := hI.1
  have b00 := hB 0 0
  have b01 := hB 0 1
  have b02 := hB 0 2
  have b03 := hB 0 3
  have n10 : ¬ nI 1 = 0 := by decide
  refine v_iload_n dX7_exempts_0 rfl ?_
  refine v_callS (st := []) dX7_exempts_1 (t_X7_isThrone (x := t)) wX7_113 rfl ⟨Nat.le_of_ble_eq_true rfl, Nat.le_of_ble_eq_true rfl⟩ (Nat.le_of_ble_eq_true rfl) ⟨Nat.le_of_ble_eq_true rfl, Nat.le_of_ble_eq_true rfl⟩ (fun r n2 h2 hq => ?_)
  obtain ⟨rfl, hn9, rfl⟩ := hq; replace hn9 := hn9.symm; subst hn9
  refine v_st (st2 := [.int (nI (bI (ixb t 4 = true)))]) rfl ?_
  refine n_ifb_ne (tgt := 15) (p := ixb t 4 = true) dX7_exempts_4 (by decide) (fun c21 => ?_) (fun c21 => ?_)
  · obtain ⟨T, hT1, rfl⟩ := ix_of c21 (by omega)
    have eT : (nI T).toNatClampNeg = T := nI_clamp (by omega)
    refine v_iload_n dX7_exempts_15 rfl ?_
    refine v_iconst (v := nI 0) dX7_exempts_16 (by decide) ?_
    refine v_iconst (v := nI 1) dX7_exempts_17 (by decide) ?_
    refine v_callS (st := []) dX7_exempts_18 (t_X7_isIn (x := x) (a := nI 0) (z := nI 1)) wX7_52 rfl ⟨Nat.le_of_ble_eq_true rfl, Nat.le_of_ble_eq_true rfl⟩ (Nat.le_of_ble_eq_true rfl) ⟨Nat.le_of_ble_eq_true rfl, Nat.le_of_ble_eq_true rfl⟩ (fun r n2 h2 hq => ?_)
    obtain ⟨rfl, hn9, rfl⟩ := hq; replace hn9 := hn9.symm; subst hn9
    refine v_st (st2 := [.int (nI (bI (¬ x < nI 0 ∧ ¬ nI 1 < x)))]) rfl ?_
    refine n_ifb_ne (tgt := 32) (p := ¬ x < nI 0 ∧ ¬ nI 1 < x) dX7_exempts_21 (by decide) (fun c22 => ?_) (fun c22 => ?_)
    · have c22a : ¬ x < 0 := (yes_rg c22).1
      have c22b : x ≤ nI 1 := (yes_rg c22).2
      clear c22
      obtain ⟨E, hE1, hE2, rfl⟩ := rg_of (a := 0) (b := 1) c22a c22b (by decide) (by decide)
      have eE : (nI E).toNatClampNeg = E := nI_clamp (by omega)
      obtain rfl | rfl := (by omega : E = 0 ∨ E = 1)
      · refine v_aload_n dX7_exempts_32 rfl ?_
        refine fX7_7 (v := .ref (m + 1)) rfl dX7_exempts_33 ho rfl ?_
        refine v_iload_n dX7_exempts_36 rfl ?_
        refine v_iconst (v := nI 0) dX7_exempts_37 (by decide) ?_
        refine v_callS (st := [.ref (m + 1)]) dX7_exempts_38 (t_X7_of (f := T) (w := 0)) wX7_116 rfl ⟨Nat.le_of_ble_eq_true rfl, Nat.le_of_ble_eq_true rfl⟩ (Nat.le_of_ble_eq_true rfl) ⟨Nat.le_of_ble_eq_true rfl, Nat.le_of_ble_eq_true rfl⟩ (fun r n2 h2 hq => ?_)
        obtain ⟨rfl, hn9, rfl⟩ := hq; replace hn9 := hn9.symm; subst hn9
        refine v_st (st2 := [.int (nI (82 + 3 * T + 0)), .ref (m + 1)]) rfl ?_
        refine n_ialdv (f := vO C) (j := 82 + 3 * T + 0) (y := C 15 T) dX7_exempts_41 hv (by omega) (by decide) ((vrd (C := C) (lgT0 (f := T) (by omega)) (Or.inl (by omega))).trans rfl) ?_
        have b23 := hK 15 T
        refine v_iload_n dX7_exempts_42 rfl ?_
        refine n_icmp_ne (tgt := 54) (x := C 15 T) (y := 0) dX7_exempts_43 (by decide) (by omega) (by omega) (fun c24 => ?_) (fun c24 => ?_)
        · refine v_aload_n dX7_exempts_54 rfl ?_
          refine fX7_7 (v := .ref (m + 1)) rfl dX7_exempts_55 ho rfl ?_
          refine v_iload_n dX7_exempts_58 rfl ?_
          refine v_iconst (v := nI 0) dX7_exempts_59 (by decide) ?_
          refine v_callS (st := [.ref (m + 1)]) dX7_exempts_60 (t_X7_of (f := T) (w := 0)) wX7_116 rfl ⟨Nat.le_of_ble_eq_true rfl, Nat.le_of_ble_eq_true rfl⟩ (Nat.le_of_ble_eq_true rfl) ⟨Nat.le_of_ble_eq_true rfl, Nat.le_of_ble_eq_true rfl⟩ (fun r n2 h2 hq => ?_)
          obtain ⟨rfl, hn9, rfl⟩ := hq; replace hn9 := hn9.symm; subst hn9
          refine v_st (st2 := [.int (nI (82 + 3 * T + 0)), .ref (m + 1)]) rfl ?_
          refine v_iload_n dX7_exempts_63 rfl ?_
          refine n_iast (f := vO C) (j := 82 + 3 * T + 0) (x := 0) dX7_exempts_64 hv (by omega) (by decide) ?_
          refine nw (fun h1 f1 s1 => ?_)
          have hv25 : h1 (m + 1) = some (ar G 182 (vO (cu C 15 T 0))) := Eq.mp (congrArg (fun F => h1 (m + 1) = some (ar G 182 F)) (vup (C := C) (lgT0 (f := T) (by omega)) (Or.inl (by omega)) (by omega))) f1
          have sa25 := s1
          clear f1 s1
          have hK25 : bdk (b + 100) (cu C 15 T 0) := bdk_cu hK (by omega) (by omega)
          have hD25 := hK25.bd (by omega)
          have fa26 := (sa25 (m) (by omega)).trans ho
          have fr27 := offn_in (k := 2) (q := m) offn_rf sa25 (by omega)
          refine v_iconst (v := nI 0) dX7_exempts_65 (by decide) ?_
          refine v_istore_n dX7_exempts_66 rfl (by decide) ?_
          refine v_ls (ls2 := [some (.ref m), some (.int (nI T)), some (.int (nI 0)), some (.int (nI 0)), none]) rfl ?_
          refine v_iconst (v := nI 0) dX7_exempts_67 (by decide) ?_
          refine v_istore dX7_exempts_68 rfl (by decide) ?_
          refine v_ls (ls2 := [some (.ref m), some (.int (nI T)), some (.int (nI 0)), some (.int (nI 0)), some (.int (nI 0))]) rfl ?_
          refine loopV (fun i70 => [some (.ref m), some (.int (nI T)), some (.int (nI 0)), some (.int (nI (sm (va_up (C 15) T 0) i70))), some (.int (nI i70))]) (fun i70 => True) (N := 4) 0 (by omega) rfl trivial (fun i70 hi70 hp70 ih70 => ?_)
          have bsm : sm (va_up (C 15) T 0) i70 ≤ i70 * 2 ^ 8 := sm_le (fun k hk => Nat.le_of_lt (by unfold va_up; split <;> first | decide | (have := hs15 k; omega)))
          refine v_iload dX7_exempts_70 rfl ?_
          refine v_iconst (v := nI 4) dX7_exempts_72 (by decide) ?_
          refine n_icmp_ge (tgt := 96) (x := i70) (y := 4) dX7_exempts_73 (by decide) (by omega) (by omega) (fun c28 => ?_) (fun c28 => ?_)
          · have e4 : i70 = 4 := by omega
            subst e4
            refine v_iload_n dX7_exempts_96 rfl ?_
            refine v_iret dX7_exempts_97 rfl ?_ (Nat.le_of_ble_eq_true rfl) (Nat.le_of_ble_eq_true rfl)
            have e9 : dExe C (nI T) (nI 0) = ((nI (sm (va_up (C 15) T 0) 4) : Int32), (cu C 15 T 0 : Ct), (none : Option (Int32 × Int32))) := by unfold dExe; all_goals (repeat (first | rw [if_pos (by first | assumption | omega | rfl | trivial)] | rw [if_neg (by first | assumption | omega)])); all_goals (try simp only [eT]); all_goals (try unfold dExeN); all_goals (repeat (first | rw [if_pos (by first | assumption | omega | rfl | trivial)] | rw [if_neg (by first | assumption | omega)])); all_goals rfl
            exact pm_of e9 ⟨rfl, rfl, by rw [mf_p (nI_pos (by omega))]; exact fa26, hv25, fr27, fun z => absurd z (nI_pos (by omega))⟩
          · refine v_iload_n dX7_exempts_76 rfl ?_
            refine v_aload_n dX7_exempts_77 rfl ?_
            refine fX7_7 (v := .ref (m + 1)) rfl dX7_exempts_78 fa26 rfl ?_
            refine v_iload dX7_exempts_81 rfl ?_
            refine v_iconst (v := nI 0) dX7_exempts_83 (by decide) ?_
            refine v_callS (st := [.ref (m + 1), .int (nI (sm (va_up (C 15) T 0) i70))]) dX7_exempts_84 (t_X7_of (f := i70) (w := 0)) wX7_116 rfl ⟨Nat.le_of_ble_eq_true rfl, Nat.le_of_ble_eq_true rfl⟩ (Nat.le_of_ble_eq_true rfl) ⟨Nat.le_of_ble_eq_true rfl, Nat.le_of_ble_eq_true rfl⟩ (fun r n2 h2 hq => ?_)
            obtain ⟨rfl, hn9, rfl⟩ := hq; replace hn9 := hn9.symm; subst hn9
            refine v_st (st2 := [.int (nI (82 + 3 * i70 + 0)), .ref (m + 1), .int (nI (sm (va_up (C 15) T 0) i70))]) rfl ?_
            refine n_ialdv (f := vO (cu C 15 T 0)) (j := 82 + 3 * i70 + 0) (y := (va_up (C 15) T 0) i70) dX7_exempts_87 hv25 (by omega) (by decide) ((vrd (C := cu C 15 T 0) (lgT0 (f := i70) (by omega)) (Or.inl (by omega))).trans rfl) ?_
            refine n_iadd (x := sm (va_up (C 15) T 0) i70) (y := (va_up (C 15) T 0) i70) dX7_exempts_88 ?_
            refine v_istore_n dX7_exempts_89 rfl (by decide) ?_
            refine v_ls (ls2 := [some (.ref m), some (.int (nI T)), some (.int (nI 0)), some (.int (nI (sm (va_up (C 15) T 0) i70 + (va_up (C 15) T 0) i70))), some (.int (nI i70))]) rfl ?_
            refine n_iinc (k := 1) (x := i70) dX7_exempts_90 (by decide) rfl rfl (by decide) ?_
            refine v_ls (ls2 := [some (.ref m), some (.int (nI T)), some (.int (nI 0)), some (.int (nI (sm (va_up (C 15) T 0) i70 + (va_up (C 15) T 0) i70))), some (.int (nI (i70 + 1)))]) rfl ?_
            refine v_goto (tgt := 70) dX7_exempts_93 (by decide) ?_
            exact ih70 (by omega) trivial
        · refine v_aload_n dX7_exempts_46 rfl ?_
          refine v_bipush (v := nI 9) dX7_exempts_47 (by decide) ?_
          refine v_iload_n dX7_exempts_49 rfl ?_
          refine v_callV (st := []) dX7_exempts_50 (t_X7_refuses (x := nI 9) (y := nI 0) ho) wX7_66 ho rfl rfl ⟨Nat.le_of_ble_eq_true rfl, Nat.le_of_ble_eq_true rfl⟩ (Nat.le_of_ble_eq_true rfl) ⟨Nat.le_of_ble_eq_true rfl, Nat.le_of_ble_eq_true rfl⟩ (fun r n2 h2 hq => ?_)
          obtain ⟨rfl, rfl, fa29, sa30⟩ := hq
          refine v_st (st2 := [.int ((-1014))]) rfl ?_
          have hv31 := (sa30 (m + 1) (by omega)).trans hv
          have fr32 := offn_in (k := 2) (q := m) offn_rf sa30 (by omega)
          refine v_iret dX7_exempts_53 rfl ?_ (Nat.le_of_ble_eq_true rfl) (Nat.le_of_ble_eq_true rfl)
          have e9 : dExe C (nI T) (nI 0) = (((-1014) : Int32), (C : Ct), (some (nI 9, nI 0) : Option (Int32 × Int32))) := by unfold dExe; all_goals (repeat (first | rw [if_pos (by first | assumption | omega | rfl | trivial)] | rw [if_neg (by first | assumption | omega)])); all_goals (try simp only [eT]); all_goals (try unfold dExeN); all_goals (repeat (first | rw [if_pos (by first | assumption | omega | rfl | trivial)] | rw [if_neg (by first | assumption | omega)])); all_goals rfl
          exact pm_of e9 ⟨rfl, rfl, by rw [mf_n (by decide)]; exact fa29, hv31, fr32, fun _ => rfl⟩
      · refine v_aload_n dX7_exempts_32 rfl ?_
        refine fX7_7 (v := .ref (m + 1)) rfl dX7_exempts_33 ho rfl ?_
        refine v_iload_n dX7_exempts_36 rfl ?_
        refine v_iconst (v := nI 0) dX7_exempts_37 (by decide) ?_
        refine v_callS (st := [.ref (m + 1)]) dX7_exempts_38 (t_X7_of (f := T) (w := 0)) wX7_116 rfl ⟨Nat.le_of_ble_eq_true rfl, Nat.le_of_ble_eq_true rfl⟩ (Nat.le_of_ble_eq_true rfl) ⟨Nat.le_of_ble_eq_true rfl, Nat.le_of_ble_eq_true rfl⟩ (fun r n2 h2 hq => ?_)
        obtain ⟨rfl, hn9, rfl⟩ := hq; replace hn9 := hn9.symm; subst hn9
        refine v_st (st2 := [.int (nI (82 + 3 * T + 0)), .ref (m + 1)]) rfl ?_
        refine n_ialdv (f := vO C) (j := 82 + 3 * T + 0) (y := C 15 T) dX7_exempts_41 hv (by omega) (by decide) ((vrd (C := C) (lgT0 (f := T) (by omega)) (Or.inl (by omega))).trans rfl) ?_
        have b33 := hK 15 T
        refine v_iload_n dX7_exempts_42 rfl ?_
        refine n_icmp_ne (tgt := 54) (x := C 15 T) (y := 1) dX7_exempts_43 (by decide) (by omega) (by omega) (fun c34 => ?_) (fun c34 => ?_)
        · refine v_aload_n dX7_exempts_54 rfl ?_
          refine fX7_7 (v := .ref (m + 1)) rfl dX7_exempts_55 ho rfl ?_
          refine v_iload_n dX7_exempts_58 rfl ?_
          refine v_iconst (v := nI 0) dX7_exempts_59 (by decide) ?_
          refine v_callS (st := [.ref (m + 1)]) dX7_exempts_60 (t_X7_of (f := T) (w := 0)) wX7_116 rfl ⟨Nat.le_of_ble_eq_true rfl, Nat.le_of_ble_eq_true rfl⟩ (Nat.le_of_ble_eq_true rfl) ⟨Nat.le_of_ble_eq_true rfl, Nat.le_of_ble_eq_true rfl⟩ (fun r n2 h2 hq => ?_)
          obtain ⟨rfl, hn9, rfl⟩ := hq; replace hn9 := hn9.symm; subst hn9
          refine v_st (st2 := [.int (nI (82 + 3 * T + 0)), .ref (m + 1)]) rfl ?_
          refine v_iload_n dX7_exempts_63 rfl ?_
          refine n_iast (f := vO C) (j := 82 + 3 * T + 0) (x := 1) dX7_exempts_64 hv (by omega) (by decide) ?_
          refine nw (fun h1 f1 s1 => ?_)
          have hv35 : h1 (m + 1) = some (ar G 182 (vO (cu C 15 T 1))) := Eq.mp (congrArg (fun F => h1 (m + 1) = some (ar G 182 F)) (vup (C := C) (lgT0 (f := T) (by omega)) (Or.inl (by omega)) (by omega))) f1
          have sa35 := s1
          clear f1 s1
          have hK35 : bdk (b + 100) (cu C 15 T 1) := bdk_cu hK (by omega) (by omega)
          have hD35 := hK35.bd (by omega)
          have fa36 := (sa35 (m) (by omega)).trans ho
          have fr37 := offn_in (k := 2) (q := m) offn_rf sa35 (by omega)
          refine v_iconst (v := nI 0) dX7_exempts_65 (by decide) ?_
          refine v_istore_n dX7_exempts_66 rfl (by decide) ?_
          refine v_ls (ls2 := [some (.ref m), some (.int (nI T)), some (.int (nI 1)), some (.int (nI 0)), none]) rfl ?_
          refine v_iconst (v := nI 0) dX7_exempts_67 (by decide) ?_
          refine v_istore dX7_exempts_68 rfl (by decide) ?_
          refine v_ls (ls2 := [some (.ref m), some (.int (nI T)), some (.int (nI 1)), some (.int (nI 0)), some (.int (nI 0))]) rfl ?_
          refine loopV (fun i70 => [some (.ref m), some (.int (nI T)), some (.int (nI 1)), some (.int (nI (sm (va_up (C 15) T 1) i70))), some (.int (nI i70))]) (fun i70 => True) (N := 4) 0 (by omega) rfl trivial (fun i70 hi70 hp70 ih70 => ?_)
          have bsm : sm (va_up (C 15) T 1) i70 ≤ i70 * 2 ^ 8 := sm_le (fun k hk => Nat.le_of_lt (by unfold va_up; split <;> first | decide | (have := hs15 k; omega)))
          refine v_iload dX7_exempts_70 rfl ?_
          refine v_iconst (v := nI 4) dX7_exempts_72 (by decide) ?_
          refine n_icmp_ge (tgt := 96) (x := i70) (y := 4) dX7_exempts_73 (by decide) (by omega) (by omega) (fun c38 => ?_) (fun c38 => ?_)
          · have e4 : i70 = 4 := by omega
            subst e4
            refine v_iload_n dX7_exempts_96 rfl ?_
            refine v_iret dX7_exempts_97 rfl ?_ (Nat.le_of_ble_eq_true rfl) (Nat.le_of_ble_eq_true rfl)
            have e9 : dExe C (nI T) (nI 1) = ((nI (sm (va_up (C 15) T 1) 4) : Int32), (cu C 15 T 1 : Ct), (none : Option (Int32 × Int32))) := by unfold dExe; all_goals (repeat (first | rw [if_pos (by first | assumption | omega | rfl | trivial)] | rw [if_neg (by first | assumption | omega)])); all_goals (try simp only [eT]); all_goals (try unfold dExeN); all_goals (repeat (first | rw [if_pos (by first | assumption | omega | rfl | trivial)] | rw [if_neg (by first | assumption | omega)])); all_goals rfl
            exact pm_of e9 ⟨rfl, rfl, by rw [mf_p (nI_pos (by omega))]; exact fa36, hv35, fr37, fun z => absurd z (nI_pos (by omega))⟩
          · refine v_iload_n dX7_exempts_76 rfl ?_
            refine v_aload_n dX7_exempts_77 rfl ?_
            refine fX7_7 (v := .ref (m + 1)) rfl dX7_exempts_78 fa36 rfl ?_
            refine v_iload dX7_exempts_81 rfl ?_
            refine v_iconst (v := nI 0) dX7_exempts_83 (by decide) ?_
            refine v_callS (st := [.ref (m + 1), .int (nI (sm (va_up (C 15) T 1) i70))]) dX7_exempts_84 (t_X7_of (f := i70) (w := 0)) wX7_116 rfl ⟨Nat.le_of_ble_eq_true rfl, Nat.le_of_ble_eq_true rfl⟩ (Nat.le_of_ble_eq_true rfl) ⟨Nat.le_of_ble_eq_true rfl, Nat.le_of_ble_eq_true rfl⟩ (fun r n2 h2 hq => ?_)
            obtain ⟨rfl, hn9, rfl⟩ := hq; replace hn9 := hn9.symm; subst hn9
            refine v_st (st2 := [.int (nI (82 + 3 * i70 + 0)), .ref (m + 1), .int (nI (sm (va_up (C 15) T 1) i70))]) rfl ?_
            refine n_ialdv (f := vO (cu C 15 T 1)) (j := 82 + 3 * i70 + 0) (y := (va_up (C 15) T 1) i70) dX7_exempts_87 hv35 (by omega) (by decide) ((vrd (C := cu C 15 T 1) (lgT0 (f := i70) (by omega)) (Or.inl (by omega))).trans rfl) ?_
            refine n_iadd (x := sm (va_up (C 15) T 1) i70) (y := (va_up (C 15) T 1) i70) dX7_exempts_88 ?_
            refine v_istore_n dX7_exempts_89 rfl (by decide) ?_
            refine v_ls (ls2 := [some (.ref m), some (.int (nI T)), some (.int (nI 1)), some (.int (nI (sm (va_up (C 15) T 1) i70 + (va_up (C 15) T 1) i70))), some (.int (nI i70))]) rfl ?_
            refine n_iinc (k := 1) (x := i70) dX7_exempts_90 (by decide) rfl rfl (by decide) ?_
            refine v_ls (ls2 := [some (.ref m), some (.int (nI T)), some (.int (nI 1)), some (.int (nI (sm (va_up (C 15) T 1) i70 + (va_up (C 15) T 1) i70))), some (.int (nI (i70 + 1)))]) rfl ?_
            refine v_goto (tgt := 70) dX7_exempts_93 (by decide) ?_
            exact ih70 (by omega) trivial
        · refine v_aload_n dX7_exempts_46 rfl ?_
          refine v_bipush (v := nI 9) dX7_exempts_47 (by decide) ?_
          refine v_iload_n dX7_exempts_49 rfl ?_
          refine v_callV (st := []) dX7_exempts_50 (t_X7_refuses (x := nI 9) (y := nI 1) ho) wX7_66 ho rfl rfl ⟨Nat.le_of_ble_eq_true rfl, Nat.le_of_ble_eq_true rfl⟩ (Nat.le_of_ble_eq_true rfl) ⟨Nat.le_of_ble_eq_true rfl, Nat.le_of_ble_eq_true rfl⟩ (fun r n2 h2 hq => ?_)
          obtain ⟨rfl, rfl, fa39, sa40⟩ := hq
          refine v_st (st2 := [.int ((-1014))]) rfl ?_
          have hv41 := (sa40 (m + 1) (by omega)).trans hv
          have fr42 := offn_in (k := 2) (q := m) offn_rf sa40 (by omega)
          refine v_iret dX7_exempts_53 rfl ?_ (Nat.le_of_ble_eq_true rfl) (Nat.le_of_ble_eq_true rfl)
          have e9 : dExe C (nI T) (nI 1) = (((-1014) : Int32), (C : Ct), (some (nI 9, nI 1) : Option (Int32 × Int32))) := by unfold dExe; all_goals (repeat (first | rw [if_pos (by first | assumption | omega | rfl | trivial)] | rw [if_neg (by first | assumption | omega)])); all_goals (try simp only [eT]); all_goals (try unfold dExeN); all_goals (repeat (first | rw [if_pos (by first | assumption | omega | rfl | trivial)] | rw [if_neg (by first | assumption | omega)])); all_goals rfl
          exact pm_of e9 ⟨rfl, rfl, by rw [mf_n (by decide)]; exact fa39, hv41, fr42, fun _ => rfl⟩
    · have c22z : x < 0 ∨ (¬ x < 0 ∧ ¬ x ≤ nI 1) := not_rg c22
      rcases c22z with c22a | ⟨c22b, c22d⟩
      · have y0 : ¬ x = 0 := fun z => by rw [z] at c22a; exact absurd c22a (by decide)
        have y1 : ¬ x = nI 1 := fun z => by rw [z] at c22a; exact absurd c22a (by decide)
        refine v_aload_n dX7_exempts_24 rfl ?_
        refine v_sipush (v := (-1012)) dX7_exempts_25 (by decide) ?_
        refine v_callV (st := []) dX7_exempts_28 (t_X7_fail (x := (-1012)) ho) wX7_41 ho rfl rfl ⟨Nat.le_of_ble_eq_true rfl, Nat.le_of_ble_eq_true rfl⟩ (Nat.le_of_ble_eq_true rfl) ⟨Nat.le_of_ble_eq_true rfl, Nat.le_of_ble_eq_true rfl⟩ (fun r n2 h2 hq => ?_)
        obtain ⟨rfl, rfl, fa43, sa44⟩ := hq
        refine v_st (st2 := [.int ((-1012))]) rfl ?_
        have hv45 := (sa44 (m + 1) (by omega)).trans hv
        have fr46 := offn_in (k := 2) (q := m) offn_rf sa44 (by omega)
        refine v_iret dX7_exempts_31 rfl ?_ (Nat.le_of_ble_eq_true rfl) (Nat.le_of_ble_eq_true rfl)
        have e9 : dExe C (nI T) x = (((-1012) : Int32), (C : Ct), (none : Option (Int32 × Int32))) := by unfold dExe; all_goals (repeat (first | rw [if_pos (by first | assumption | omega | rfl | trivial)] | rw [if_neg (by first | assumption | omega)])); all_goals (try simp only [eT]); all_goals (try unfold dExeN); all_goals (repeat (first | rw [if_pos (by first | assumption | omega | rfl | trivial)] | rw [if_neg (by first | assumption | omega)])); all_goals rfl
        exact pm_of e9 ⟨rfl, rfl, by rw [mf_n (by decide)]; exact fa43, hv45, fr46, fun _ => rfl⟩
      · have y0 : ¬ x = 0 := fun z => by rw [z] at c22d; exact c22d (by decide)
        have y1 : ¬ x = nI 1 := fun z => by rw [z] at c22d; exact c22d (by decide)
        refine v_aload_n dX7_exempts_24 rfl ?_
        refine v_sipush (v := (-1012)) dX7_exempts_25 (by decide) ?_
        refine v_callV (st := []) dX7_exempts_28 (t_X7_fail (x := (-1012)) ho) wX7_41 ho rfl rfl ⟨Nat.le_of_ble_eq_true rfl, Nat.le_of_ble_eq_true rfl⟩ (Nat.le_of_ble_eq_true rfl) ⟨Nat.le_of_ble_eq_true rfl, Nat.le_of_ble_eq_true rfl⟩ (fun r n2 h2 hq => ?_)
        obtain ⟨rfl, rfl, fa47, sa48⟩ := hq
        refine v_st (st2 := [.int ((-1012))]) rfl ?_
        have hv49 := (sa48 (m + 1) (by omega)).trans hv
        have fr50 := offn_in (k := 2) (q := m) offn_rf sa48 (by omega)
        refine v_iret dX7_exempts_31 rfl ?_ (Nat.le_of_ble_eq_true rfl) (Nat.le_of_ble_eq_true rfl)
        have e9 : dExe C (nI T) x = (((-1012) : Int32), (C : Ct), (none : Option (Int32 × Int32))) := by unfold dExe; all_goals (repeat (first | rw [if_pos (by first | assumption | omega | rfl | trivial)] | rw [if_neg (by first | assumption | omega)])); all_goals (try simp only [eT]); all_goals (try unfold dExeN); all_goals (repeat (first | rw [if_pos (by first | assumption | omega | rfl | trivial)] | rw [if_neg (by first | assumption | omega)])); all_goals rfl
        exact pm_of e9 ⟨rfl, rfl, by rw [mf_n (by decide)]; exact fa47, hv49, fr50, fun _ => rfl⟩
  · refine v_aload_n dX7_exempts_7 rfl ?_
    refine v_sipush (v := (-1011)) dX7_exempts_8 (by decide) ?_
    refine v_callV (st := []) dX7_exempts_11 (t_X7_fail (x := (-1011)) ho) wX7_41 ho rfl rfl ⟨Nat.le_of_ble_eq_true rfl, Nat.le_of_ble_eq_true rfl⟩ (Nat.le_of_ble_eq_true rfl) ⟨Nat.le_of_ble_eq_true rfl, Nat.le_of_ble_eq_true rfl⟩ (fun r n2 h2 hq => ?_)
    obtain ⟨rfl, rfl, fa51, sa52⟩ := hq
    refine v_st (st2 := [.int ((-1011))]) rfl ?_
    have hv53 := (sa52 (m + 1) (by omega)).trans hv
    have fr54 := offn_in (k := 2) (q := m) offn_rf sa52 (by omega)
    refine v_iret dX7_exempts_14 rfl ?_ (Nat.le_of_ble_eq_true rfl) (Nat.le_of_ble_eq_true rfl)
    have e9 : dExe C t x = (((-1011) : Int32), (C : Ct), (none : Option (Int32 × Int32))) := by unfold dExe; all_goals (repeat (first | rw [if_pos (by first | assumption | omega | rfl | trivial)] | rw [if_neg (by first | assumption | omega)])); all_goals (try unfold dExeN); all_goals (repeat (first | rw [if_pos (by first | assumption | omega | rfl | trivial)] | rw [if_neg (by first | assumption | omega)])); all_goals rfl
    exact pm_of e9 ⟨rfl, rfl, by rw [mf_n (by decide)]; exact fa51, hv53, fr54, fun _ => rfl⟩
