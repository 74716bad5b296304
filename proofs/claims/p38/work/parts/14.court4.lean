def bdk (b : Nat) (C : Ct) : Prop := ∀ f j : Nat, C f j < b
theorem bdk.bd {b : Nat} {C : Ct} (h : bdk b C) (hb : b ≤ 2 ^ 28) : bd C := fun f j => Nat.lt_of_lt_of_le (h f j) hb
theorem bdk.up {b c : Nat} {C : Ct} (h : bdk b C) (hb : b ≤ c) : bdk c C := fun f j => Nat.lt_of_lt_of_le (h f j) hb
theorem bdk_cu {b c : Nat} {C : Ct} {f j x : Nat} (h : bdk b C) (hb : b ≤ c) (hx : x < c) : bdk c (cu C f j x) := by
  intro g i
  show (if g = f then va_up (C f) j x else C g) i < c
  split
  · unfold va_up
    split
    · exact hx
    · exact Nat.lt_of_lt_of_le (h _ _) hb
  · exact Nat.lt_of_lt_of_le (h _ _) hb
theorem loopWH {l : Launch} {G : vG} {M : vM} {rc rs : Nat} {Fz : vFin} {pc : Nat} {ls : List (Option Value)} {st : List Value} {n : Nat} {h : AH} {cells slots : Nat} (Ls : Nat → List (Option Value)) (Inv : Nat → AH → Prop) (w0 : Nat) (he : ls = Ls w0) (hp : Inv w0 h) (hs : ∀ (w : Nat) (h1 : AH), Inv w h1 → (∀ (w2 : Nat) (h2 : AH), w = w2 + 1 → Inv w2 h2 → V l G M rc rs Fz pc (Ls w2) st n h2 cells slots) → V l G M rc rs Fz pc (Ls w) st n h1 cells slots) : V l G M rc rs Fz pc ls st n h cells slots := by
  rw [he]
  have key : ∀ (w : Nat) (h1 : AH), Inv w h1 → V l G M rc rs Fz pc (Ls w) st n h1 cells slots := by
    intro w
    induction w with
    | zero => intro h1 hp; exact hs 0 h1 hp (fun w2 h2 e => by omega)
    | succ k ih => intro h1 hp; exact hs (k + 1) h1 hp (fun w2 h2 e hp2 => by rw [show w2 = k by omega] at hp2 ⊢; exact ih h2 hp2)
  exact key w0 h hp
abbrev mv (C : Ct) (a b : Nat) : Ct := cu (cu (cu (cu C 11 b (C 11 a)) 12 b (C 12 a)) 13 b (C 13 a)) 14 b (C 14 a)
def shl (F : Nat → Nat) (n : Nat) : Nat → Nat := fun p => if p + 1 < n then F (p + 1) else F p
def shC (C : Ct) (n : Nat) : Ct := fun g => if 11 ≤ g ∧ g ≤ 14 then shl (C g) n else C g
def shr (F : Nat → Nat) (m n : Nat) : Nat → Nat := fun p => if m < p ∧ p ≤ n then F (p - 1) else F p
def shR (C : Ct) (m : Nat) : Ct := fun g => if 11 ≤ g ∧ g ≤ 14 then shr (C g) m (C 0 2) else C g
def rmF (C : Ct) : Ct := cu (shC C (C 0 2)) 0 2 (C 0 2 - 1)
def insF (C : Ct) (p f j t hr : Nat) : Ct := cu (cu (cu (cu (cu (shR C p) 11 p f) 12 p j) 13 p t) 14 p hr) 0 2 (C 0 2 + 1)
theorem f17 {P : Nat → Prop} (h : P 1 ∧ P 2 ∧ P 3 ∧ P 4 ∧ P 5 ∧ P 6 ∧ P 7 ∧ P 8 ∧ P 9 ∧ P 10 ∧ P 11 ∧ P 12 ∧ P 13 ∧ P 14 ∧ P 15 ∧ P 16) : ∀ f, 0 < f → f < 17 → P f := by
  obtain ⟨h1, h2, h3, h4, h5, h6, h7, h8, h9, h10, h11, h12, h13, h14, h15, h16⟩ := h
  intro f h0 hf
  obtain rfl | rfl | rfl | rfl | rfl | rfl | rfl | rfl | rfl | rfl | rfl | rfl | rfl | rfl | rfl | rfl := (by omega : f = 1 ∨ f = 2 ∨ f = 3 ∨ f = 4 ∨ f = 5 ∨ f = 6 ∨ f = 7 ∨ f = 8 ∨ f = 9 ∨ f = 10 ∨ f = 11 ∨ f = 12 ∨ f = 13 ∨ f = 14 ∨ f = 15 ∨ f = 16) <;> assumption
theorem j8 {P : Nat → Prop} (h : P 0 ∧ P 1 ∧ P 2 ∧ P 3 ∧ P 4 ∧ P 5 ∧ P 6 ∧ P 7) : ∀ j, j < 8 → P j := by
  obtain ⟨h0, h1, h2, h3, h4, h5, h6, h7⟩ := h
  intro j hj
  obtain rfl | rfl | rfl | rfl | rfl | rfl | rfl | rfl := (by omega : j = 0 ∨ j = 1 ∨ j = 2 ∨ j = 3 ∨ j = 4 ∨ j = 5 ∨ j = 6 ∨ j = 7) <;> assumption
theorem shC_1 {C : Ct} : ceqv C (shC C 1) := ⟨fun j _ => rfl, f17 (by
  have key : ∀ F : Nat → Nat, F = shl F 1 := by
    intro F
    funext p
    unfold shl
    rw [if_neg (by omega)]
  exact ⟨rfl, rfl, rfl, rfl, rfl, rfl, rfl, rfl, rfl, rfl, key _, key _, key _, key _, rfl, rfl⟩)⟩
theorem shC_s {C : Ct} {i : Nat} (hi : 1 ≤ i) : ceqv (mv (shC C i) i (i - 1)) (shC C (i + 1)) := ⟨fun j _ => rfl, f17 (by
  have key : ∀ F : Nat → Nat, va_up (shl F i) (i - 1) (shl F i i) = shl F (i + 1) := by
    intro F
    funext p
    unfold va_up shl
    by_cases h : p = i - 1
    · rw [if_pos h, if_neg (by omega), if_pos (by omega), show p + 1 = i by omega]
    · rw [if_neg h]
      by_cases h2 : p + 1 < i
      · rw [if_pos h2, if_pos (by omega)]
      · rw [if_neg h2, if_neg (by omega)]
  exact ⟨rfl, rfl, rfl, rfl, rfl, rfl, rfl, rfl, rfl, rfl, key _, key _, key _, key _, rfl, rfl⟩)⟩
theorem shR_n {C : Ct} : ceqv C (shR C (C 0 2)) := ⟨fun j _ => rfl, f17 (by
  have key : ∀ F : Nat → Nat, F = shr F (C 0 2) (C 0 2) := by
    intro F
    funext p
    unfold shr
    rw [if_neg (by omega)]
  exact ⟨rfl, rfl, rfl, rfl, rfl, rfl, rfl, rfl, rfl, rfl, key _, key _, key _, key _, rfl, rfl⟩)⟩
theorem shR_s {C : Ct} {m : Nat} (hm : m + 1 ≤ C 0 2) : ceqv (mv (shR C (m + 1)) m (m + 1)) (shR C m) := ⟨fun j _ => rfl, f17 (by
  have key : ∀ F : Nat → Nat, va_up (shr F (m + 1) (C 0 2)) (m + 1) (shr F (m + 1) (C 0 2) m) = shr F m (C 0 2) := by
    intro F
    funext p
    unfold va_up shr
    by_cases h : p = m + 1
    · rw [if_pos h, if_neg (by omega), if_pos (by omega), show p - 1 = m by omega]
    · rw [if_neg h]
      by_cases h2 : m + 1 < p ∧ p ≤ C 0 2
      · rw [if_pos h2, if_pos (by omega)]
      · rw [if_neg h2, if_neg (by omega)]
  exact ⟨rfl, rfl, rfl, rfl, rfl, rfl, rfl, rfl, rfl, rfl, key _, key _, key _, key _, rfl, rfl⟩)⟩
theorem bdk_shC {b n : Nat} {C : Ct} (h : bdk b C) : bdk b (shC C n) := by
  intro g p
  unfold shC shl
  split
  · show (if p + 1 < n then C g (p + 1) else C g p) < b
    split <;> exact h _ _
  · exact h _ _
theorem bdk_shR {b n : Nat} {C : Ct} (h : bdk b C) : bdk b (shR C n) := by
  intro g p
  unfold shR shr
  split
  · show (if n < p ∧ p ≤ C 0 2 then C g (p - 1) else C g p) < b
    split <;> exact h _ _
  · exact h _ _
abbrev pay (C : Ct) (f k : Nat) : Nat := min k (C 2 f)
def payU (C : Ct) (f k : Nat) : Ct := cu (cu C 2 f (C 2 f - pay C f k)) 0 5 (C 0 5 + pay C f k)
abbrev kept (C : Ct) (f k : Nat) : Nat := min k (99 - C 2 f)
def gain (C : Ct) (f k : Nat) : Ct := cu (cu C 2 f (C 2 f + kept C f k)) 0 6 (C 0 6 + (k - kept C f k))
def payF (C : Ct) (f w : Nat) : Ct := gain (cu C 2 f (C 2 f - pay C f 2)) w (pay C f 2)
def addT (C : Ct) (j t : Nat) : Ct := cu C 10 (j * 4 + t) (C 10 (j * 4 + t) + 1)
theorem bdk_payU {b c f k : Nat} {C : Ct} (h : bdk b C) (hc : b + 100 ≤ c) (hk : k ≤ 100 ∨ C 2 f ≤ 99) : bdk c (payU C f k) := by
  have h1 := h 2 f
  have h2 := h 0 5
  have h3 : pay C f k ≤ k := Nat.min_le_left _ _
  have h4 : pay C f k ≤ C 2 f := Nat.min_le_right _ _
  exact bdk_cu (bdk_cu h (by omega) (by omega)) (Nat.le_refl _) (by omega)
theorem bdk_gain {b c f k : Nat} {C : Ct} (h : bdk b C) (hc : b + 100 ≤ c) (hk : k ≤ 100) : bdk c (gain C f k) := by
  have h1 := h 2 f
  have h2 := h 0 6
  have h3 : kept C f k ≤ k := Nat.min_le_left _ _
  exact bdk_cu (bdk_cu h (by omega) (by omega)) (Nat.le_refl _) (by omega)
theorem bdk_addT {b c j t : Nat} {C : Ct} (h : bdk b C) (hc : b + 100 ≤ c) : bdk c (addT C j t) := by
  have h1 := h 10 (j * 4 + t)
  exact bdk_cu h (by omega) (by omega)
/-- a joke that is told: the laughs L are known -/
def prf (C : Ct) (f j t : Nat) : Ct :=
  if lau C f j t < 5 then
    (if C 4 f = 0 then payU (cu (cu (addT C j t) 5 f (C 5 f + 1)) 6 f (C 6 f + 1)) f 3
     else cu (cu (cu (addT C j t) 5 f (C 5 f + 1)) 6 f (C 6 f + 1)) 4 f (C 4 f - 1))
  else cu (gain (cu (cu (addT C j t) 5 f (C 5 f + 1)) 16 t (C 16 t + lau C f j t)) f (lau C f j t)) 3 f (C 3 f + (lau C f j t - 11))
def crH (C : Ct) : Ct := cu (rmF (cu C 0 3 (C 14 0))) 0 7 (C 0 7 + 1)
def crC (C : Ct) : Ct := if exm C (C 13 0) then crH C else if barr (crH C) (C 11 0) (C 12 0) then payF (crH C) (C 11 0) (C 8 (C 12 0)) else prf (crH C) (C 11 0) (C 12 0) (C 13 0)
def crR (C : Ct) : Nat := if exm C (C 13 0) then 0 else if barr (crH C) (C 11 0) (C 12 0) then 0 else lau C (C 11 0) (C 12 0) (C 13 0)
set_option maxRecDepth 20000 in
set_option maxHeartbeats 4000000 in
theorem t_X0_move {l : Launch} {G : vG} {n : Nat} {h : AH} {a z : Nat} {q b : Nat} {C : Ct} (hc : ct G h q C) (hK : bdk b C) (hb2 : b + 500 ≤ 2 ^ 28) (ha : a < 10) (hz : z < 10) : Mt l G mX0_move [.ref (q + 13), .int (nI a), .int (nI z)] n h 0 0 (fun r n2 h2 => r = none ∧ n2 = n ∧ ct G h2 q (mv C a z) ∧ off q h h2) := by
  refine Mt.of (by decide) (Nat.le_of_ble_eq_true rfl) rfl ?_
  refine v_ls (ls2 := [some (.ref (q + 13)), some (.int (nI a)), some (.int (nI z))]) rfl ?_
  have hB := hK.bd (by omega)
  refine v_aload_n dX0_move_0 rfl ?_
  refine fX0_15 (v := .ref (q + 14)) rfl dX0_move_1 (ck13 hc) rfl ?_
  refine v_iload_n dX0_move_4 rfl ?_
  refine v_aload_n dX0_move_5 rfl ?_
  refine fX0_15 (v := .ref (q + 14)) rfl dX0_move_6 (ck13 hc) rfl ?_
  refine v_iload_n dX0_move_9 rfl ?_
  refine n_ialdv (f := C 11) (j := a) (y := C 11 a) dX0_move_10 (ck14 hc) (by omega) (by decide) rfl ?_
  have b21 := hK 11 a
  refine n_iast (f := C 11) (j := z) (x := C 11 a) dX0_move_11 (ck14 hc) (by omega) (by decide) ?_
  refine wr (cp11 (j := z) (x := C 11 a) hc) off_rf (by omega) (fun h1 hc1 ho1 => ?_)
  have hc22 := hc1
  have ho22 := ho1
  clear hc1 ho1
  have hK22 : bdk (b + 100) (cu C 11 z (C 11 a)) := bdk_cu hK (by omega) (by omega)
  have hD22 := hK22.bd (by omega)
  refine v_aload_n dX0_move_12 rfl ?_
  refine fX0_19 (v := .ref (q + 15)) rfl dX0_move_13 (ck13 (C := cu C 11 z (C 11 a)) hc22) rfl ?_
  refine v_iload_n dX0_move_16 rfl ?_
  refine v_aload_n dX0_move_17 rfl ?_
  refine fX0_19 (v := .ref (q + 15)) rfl dX0_move_18 (ck13 (C := cu C 11 z (C 11 a)) hc22) rfl ?_
  refine v_iload_n dX0_move_21 rfl ?_
  refine n_ialdv (f := C 12) (j := a) (y := C 12 a) dX0_move_22 (ck15 (C := cu C 11 z (C 11 a)) hc22) (by omega) (by decide) rfl ?_
  have b23 := hK 12 a
  refine n_iast (f := C 12) (j := z) (x := C 12 a) dX0_move_23 (ck15 (C := cu C 11 z (C 11 a)) hc22) (by omega) (by decide) ?_
  refine wr (cp12 (j := z) (x := C 12 a) (C := cu C 11 z (C 11 a)) hc22) ho22 (by omega) (fun h1 hc1 ho1 => ?_)
  have hc24 := hc1
  have ho24 := ho1
  clear hc1 ho1
  have hK24 : bdk (b + 200) (cu (cu C 11 z (C 11 a)) 12 z (C 12 a)) := bdk_cu hK22 (by omega) (by omega)
  have hD24 := hK24.bd (by omega)
  refine v_aload_n dX0_move_24 rfl ?_
  refine fX0_22 (v := .ref (q + 16)) rfl dX0_move_25 (ck13 (C := cu (cu C 11 z (C 11 a)) 12 z (C 12 a)) hc24) rfl ?_
  refine v_iload_n dX0_move_28 rfl ?_
  refine v_aload_n dX0_move_29 rfl ?_
  refine fX0_22 (v := .ref (q + 16)) rfl dX0_move_30 (ck13 (C := cu (cu C 11 z (C 11 a)) 12 z (C 12 a)) hc24) rfl ?_
  refine v_iload_n dX0_move_33 rfl ?_
  refine n_ialdv (f := C 13) (j := a) (y := C 13 a) dX0_move_34 (ck16 (C := cu (cu C 11 z (C 11 a)) 12 z (C 12 a)) hc24) (by omega) (by decide) rfl ?_
  have b25 := hK 13 a
  refine n_iast (f := C 13) (j := z) (x := C 13 a) dX0_move_35 (ck16 (C := cu (cu C 11 z (C 11 a)) 12 z (C 12 a)) hc24) (by omega) (by decide) ?_
  refine wr (cp13 (j := z) (x := C 13 a) (C := cu (cu C 11 z (C 11 a)) 12 z (C 12 a)) hc24) ho24 (by omega) (fun h1 hc1 ho1 => ?_)
  have hc26 := hc1
  have ho26 := ho1
  clear hc1 ho1
  have hK26 : bdk (b + 300) (cu (cu (cu C 11 z (C 11 a)) 12 z (C 12 a)) 13 z (C 13 a)) := bdk_cu hK24 (by omega) (by omega)
  have hD26 := hK26.bd (by omega)
  refine v_aload_n dX0_move_36 rfl ?_
  refine fX0_25 (v := .ref (q + 17)) rfl dX0_move_37 (ck13 (C := cu (cu (cu C 11 z (C 11 a)) 12 z (C 12 a)) 13 z (C 13 a)) hc26) rfl ?_
  refine v_iload_n dX0_move_40 rfl ?_
  refine v_aload_n dX0_move_41 rfl ?_
  refine fX0_25 (v := .ref (q + 17)) rfl dX0_move_42 (ck13 (C := cu (cu (cu C 11 z (C 11 a)) 12 z (C 12 a)) 13 z (C 13 a)) hc26) rfl ?_
  refine v_iload_n dX0_move_45 rfl ?_
  refine n_ialdv (f := C 14) (j := a) (y := C 14 a) dX0_move_46 (ck17 (C := cu (cu (cu C 11 z (C 11 a)) 12 z (C 12 a)) 13 z (C 13 a)) hc26) (by omega) (by decide) rfl ?_
  have b27 := hK 14 a
  refine n_iast (f := C 14) (j := z) (x := C 14 a) dX0_move_47 (ck17 (C := cu (cu (cu C 11 z (C 11 a)) 12 z (C 12 a)) 13 z (C 13 a)) hc26) (by omega) (by decide) ?_
  refine wr (cp14 (j := z) (x := C 14 a) (C := cu (cu (cu C 11 z (C 11 a)) 12 z (C 12 a)) 13 z (C 13 a)) hc26) ho26 (by omega) (fun h1 hc1 ho1 => ?_)
  have hc28 := hc1
  have ho28 := ho1
  clear hc1 ho1
  have hK28 : bdk (b + 400) (cu (cu (cu (cu C 11 z (C 11 a)) 12 z (C 12 a)) 13 z (C 13 a)) 14 z (C 14 a)) := bdk_cu hK26 (by omega) (by omega)
  have hD28 := hK28.bd (by omega)
  refine v_vret dX0_move_48 rfl ?_ (Nat.le_refl _) (Nat.le_refl _)
  exact ⟨rfl, rfl, hc28, ho28⟩
set_option maxRecDepth 20000 in
set_option maxHeartbeats 4000000 in
theorem t_X0_removeFirst {l : Launch} {G : vG} {n : Nat} {h : AH}  {q b : Nat} {C : Ct} (hc : ct G h q C) (hK : bdk b C) (hb2 : b + 600 ≤ 2 ^ 28) (hn : C 0 2 ≤ 10) (hn1 : 1 ≤ C 0 2) : Mt l G mX0_removeFirst [.ref (q + 13)] n h 0 0 (fun r n2 h2 => r = none ∧ n2 = n ∧ ct G h2 q (rmF C) ∧ off q h h2) := by
  refine Mt.of (by decide) (Nat.le_of_ble_eq_true rfl) rfl ?_
  refine v_ls (ls2 := [some (.ref (q + 13)), none]) rfl ?_
  have hB := hK.bd (by omega)
  refine v_iconst (v := nI 1) dX0_removeFirst_0 (by decide) ?_
  refine v_istore_n dX0_removeFirst_1 rfl (by decide) ?_
  refine v_ls (ls2 := [some (.ref (q + 13)), some (.int (nI 1))]) rfl ?_
  refine loopH (fun i2 => [some (.ref (q + 13)), some (.int (nI i2))]) (fun i2 h1 => 1 ≤ i2 ∧ ct G h1 q (shC C i2) ∧ off q h h1) (N := C 0 2) 1 (by omega) rfl ⟨Nat.le_refl _, ct_cong hc shC_1, off_rf⟩ (fun i2 h1 hi2 hp2 ih2 => ?_)
  obtain ⟨hi1, hc2, ho2⟩ := hp2
  obtain ⟨D, hD⟩ : ∃ D : Ct, D = shC C i2 := ⟨_, rfl⟩
  rw [← hD] at hc2
  have hDK : bdk b D := by rw [hD]; exact bdk_shC hK
  have hDB := hDK.bd (by omega)
  have e02 : D 0 2 = C 0 2 := by rw [hD]; rfl
  have b02 := hB 0 2
  refine v_iload_n dX0_removeFirst_2 rfl ?_
  refine v_aload_n dX0_removeFirst_3 rfl ?_
  refine fX0_9 (v := .int (nI (D 0 2))) rfl dX0_removeFirst_4 (ck13 hc2) rfl ?_
  have b21 := hDK 0 2
  refine n_icmp_ge (tgt := 24) (x := i2) (y := D 0 2) dX0_removeFirst_7 (by decide) (by omega) (by omega) (fun c22 => ?_) (fun c22 => ?_)
  · refine v_aload_n dX0_removeFirst_24 rfl ?_
    refine v_dup dX0_removeFirst_25 rfl ?_
    refine fX0_9 (v := .int (nI (D 0 2))) rfl dX0_removeFirst_26 (ck13 hc2) rfl ?_
    refine v_iconst (v := nI 1) dX0_removeFirst_29 (by decide) ?_
    refine n_isub (x := D 0 2) (y := 1) dX0_removeFirst_30 (by omega) ?_
    refine pX0_9 rfl dX0_removeFirst_31 (ck13 hc2) (Nat.le_of_ble_eq_true rfl) ?_
    refine wr (cs2 (x := D 0 2 - 1) hc2) ho2 (by omega) (fun h1 hc1 ho1 => ?_)
    have hc23 := hc1
    have ho23 := ho1
    clear hc1 ho1
    have hK23 : bdk (b + 100) (cu D 0 2 (D 0 2 - 1)) := bdk_cu hDK (by omega) (by omega)
    have hD23 := hK23.bd (by omega)
    refine v_vret dX0_removeFirst_34 rfl ?_ (Nat.le_refl _) (Nat.le_refl _)
    have e9 : i2 = C 0 2 := by omega
    subst e9
    rw [hD, show shC C (C 0 2) 0 2 = C 0 2 from rfl] at hc23
    exact ⟨rfl, rfl, hc23, ho23⟩
  · refine v_aload_n dX0_removeFirst_10 rfl ?_
    refine v_iload_n dX0_removeFirst_11 rfl ?_
    refine v_iload_n dX0_removeFirst_12 rfl ?_
    refine v_iconst (v := nI 1) dX0_removeFirst_13 (by decide) ?_
    refine n_isub (x := i2) (y := 1) dX0_removeFirst_14 (by omega) ?_
    refine v_callV (st := []) dX0_removeFirst_15 (t_X0_move (a := i2) (z := i2 - 1) hc2 hDK (by omega) (by omega) (by omega)) wX0_32 (ck13 hc2) rfl rfl ⟨Nat.le_of_ble_eq_true rfl, Nat.le_of_ble_eq_true rfl⟩ (Nat.le_of_ble_eq_true rfl) ⟨Nat.le_refl _, Nat.le_refl _⟩ (fun r n2 h2 hq => ?_)
    obtain ⟨rfl, rfl, hc9, ho9⟩ := hq
    refine v_st (st2 := []) rfl ?_
    refine n_iinc (k := 1) (x := i2) dX0_removeFirst_18 (by decide) rfl rfl (by decide) ?_
    refine v_ls (ls2 := [some (.ref (q + 13)), some (.int (nI (i2 + 1)))]) rfl ?_
    refine v_goto (tgt := 2) dX0_removeFirst_21 (by decide) ?_
    exact ih2 (by omega) _ ⟨by omega, ct_cong (hD ▸ hc9) (shC_s hi1), off_tr ho2 ho9⟩
set_option maxRecDepth 20000 in
set_option maxHeartbeats 4000000 in
theorem t_X0_insert {l : Launch} {G : vG} {n : Nat} {h : AH} {p f j t hr : Nat} {q b : Nat} {C : Ct} (hc : ct G h q C) (hK : bdk b C) (hb2 : b + 500 ≤ 2 ^ 28) (hn : C 0 2 < 10) (hp : p ≤ C 0 2) (hf : f < b) (hj : j < b) (ht : t < b) (hhr : hr < b) : Mt l G mX0_insert [.ref (q + 13), .int (nI p), .int (nI f), .int (nI j), .int (nI t), .int (nI hr)] n h 0 0 (fun r n2 h2 => r = none ∧ n2 = n ∧ ct G h2 q (insF C p f j t hr) ∧ off q h h2) := by
  refine Mt.of (by decide) (Nat.le_of_ble_eq_true rfl) rfl ?_
  refine v_ls (ls2 := [some (.ref (q + 13)), some (.int (nI p)), some (.int (nI f)), some (.int (nI j)), some (.int (nI t)), some (.int (nI hr)), none]) rfl ?_
  have hB := hK.bd (by omega)
  refine v_aload_n dX0_insert_0 rfl ?_
  refine fX0_9 (v := .int (nI (C 0 2))) rfl dX0_insert_1 (ck13 hc) rfl ?_
  have b21 := hK 0 2
  refine v_istore dX0_insert_4 rfl (by decide) ?_
  refine v_ls (ls2 := [some (.ref (q + 13)), some (.int (nI p)), some (.int (nI f)), some (.int (nI j)), some (.int (nI t)), some (.int (nI hr)), some (.int (nI (C 0 2)))]) rfl ?_
  refine loopWH (fun w => [some (.ref (q + 13)), some (.int (nI p)), some (.int (nI f)), some (.int (nI j)), some (.int (nI t)), some (.int (nI hr)), some (.int (nI (p + w)))]) (fun w h1 => p + w ≤ C 0 2 ∧ ct G h1 q (shR C (p + w)) ∧ off q h h1) (C 0 2 - p) (by rw [show p + (C 0 2 - p) = C 0 2 by omega]) ⟨by omega, by rw [show p + (C 0 2 - p) = C 0 2 by omega]; exact ct_cong hc shR_n, off_rf⟩ (fun w h1 hp6 ih6 => ?_)
  obtain ⟨hw, hc2, ho2⟩ := hp6
  obtain ⟨D, hD⟩ : ∃ D : Ct, D = shR C (p + w) := ⟨_, rfl⟩
  rw [← hD] at hc2
  have hDK : bdk b D := by rw [hD]; exact bdk_shR hK
  have hDB := hDK.bd (by omega)
  have e02 : D 0 2 = C 0 2 := by rw [hD]; rfl
  have b02 := hB 0 2
  refine v_iload dX0_insert_6 rfl ?_
  refine v_iload_n dX0_insert_8 rfl ?_
  refine n_icmp_le (tgt := 28) (x := p + w) (y := p) dX0_insert_9 (by decide) (by omega) (by omega) (fun c22 => ?_) (fun c22 => ?_)
  · refine v_aload_n dX0_insert_28 rfl ?_
    refine fX0_15 (v := .ref (q + 14)) rfl dX0_insert_29 (ck13 hc2) rfl ?_
    refine v_iload_n dX0_insert_32 rfl ?_
    refine v_iload_n dX0_insert_33 rfl ?_
    refine n_iast (f := D 11) (j := p) (x := f) dX0_insert_34 (ck14 hc2) (by omega) (by decide) ?_
    refine wr (cp11 (j := p) (x := f) hc2) ho2 (by omega) (fun h1 hc1 ho1 => ?_)
    have hc23 := hc1
    have ho23 := ho1
    clear hc1 ho1
    have hK23 : bdk (b + 100) (cu D 11 p f) := bdk_cu hDK (by omega) (by omega)
    have hD23 := hK23.bd (by omega)
    refine v_aload_n dX0_insert_35 rfl ?_
    refine fX0_19 (v := .ref (q + 15)) rfl dX0_insert_36 (ck13 (C := cu D 11 p f) hc23) rfl ?_
    refine v_iload_n dX0_insert_39 rfl ?_
    refine v_iload_n dX0_insert_40 rfl ?_
    refine n_iast (f := D 12) (j := p) (x := j) dX0_insert_41 (ck15 (C := cu D 11 p f) hc23) (by omega) (by decide) ?_
    refine wr (cp12 (j := p) (x := j) (C := cu D 11 p f) hc23) ho23 (by omega) (fun h1 hc1 ho1 => ?_)
    have hc24 := hc1
    have ho24 := ho1
    clear hc1 ho1
    have hK24 : bdk (b + 200) (cu (cu D 11 p f) 12 p j) := bdk_cu hK23 (by omega) (by omega)
    have hD24 := hK24.bd (by omega)
    refine v_aload_n dX0_insert_42 rfl ?_
    refine fX0_22 (v := .ref (q + 16)) rfl dX0_insert_43 (ck13 (C := cu (cu D 11 p f) 12 p j) hc24) rfl ?_
    refine v_iload_n dX0_insert_46 rfl ?_
    refine v_iload dX0_insert_47 rfl ?_
    refine n_iast (f := D 13) (j := p) (x := t) dX0_insert_49 (ck16 (C := cu (cu D 11 p f) 12 p j) hc24) (by omega) (by decide) ?_
    refine wr (cp13 (j := p) (x := t) (C := cu (cu D 11 p f) 12 p j) hc24) ho24 (by omega) (fun h1 hc1 ho1 => ?_)
    have hc25 := hc1
    have ho25 := ho1
    clear hc1 ho1
    have hK25 : bdk (b + 300) (cu (cu (cu D 11 p f) 12 p j) 13 p t) := bdk_cu hK24 (by omega) (by omega)
    have hD25 := hK25.bd (by omega)
    refine v_aload_n dX0_insert_50 rfl ?_
    refine fX0_25 (v := .ref (q + 17)) rfl dX0_insert_51 (ck13 (C := cu (cu (cu D 11 p f) 12 p j) 13 p t) hc25) rfl ?_
    refine v_iload_n dX0_insert_54 rfl ?_
    refine v_iload dX0_insert_55 rfl ?_
    refine n_iast (f := D 14) (j := p) (x := hr) dX0_insert_57 (ck17 (C := cu (cu (cu D 11 p f) 12 p j) 13 p t) hc25) (by omega) (by decide) ?_
    refine wr (cp14 (j := p) (x := hr) (C := cu (cu (cu D 11 p f) 12 p j) 13 p t) hc25) ho25 (by omega) (fun h1 hc1 ho1 => ?_)
    have hc26 := hc1
    have ho26 := ho1
    clear hc1 ho1
    have hK26 : bdk (b + 400) (cu (cu (cu (cu D 11 p f) 12 p j) 13 p t) 14 p hr) := bdk_cu hK25 (by omega) (by omega)
    have hD26 := hK26.bd (by omega)
    refine v_aload_n dX0_insert_58 rfl ?_
    refine v_dup dX0_insert_59 rfl ?_
    refine fX0_9 (v := .int (nI (D 0 2))) rfl dX0_insert_60 (ck13 (C := cu (cu (cu (cu D 11 p f) 12 p j) 13 p t) 14 p hr) hc26) rfl ?_
    have b27 := hDK 0 2
    refine v_iconst (v := nI 1) dX0_insert_63 (by decide) ?_
    refine n_iadd (x := D 0 2) (y := 1) dX0_insert_64 ?_
    refine pX0_9 rfl dX0_insert_65 (ck13 (C := cu (cu (cu (cu D 11 p f) 12 p j) 13 p t) 14 p hr) hc26) (Nat.le_of_ble_eq_true rfl) ?_
    refine wr (cs2 (x := D 0 2 + 1) (C := cu (cu (cu (cu D 11 p f) 12 p j) 13 p t) 14 p hr) hc26) ho26 (by omega) (fun h1 hc1 ho1 => ?_)
    have hc28 := hc1
    have ho28 := ho1
    clear hc1 ho1
    have hK28 : bdk (b + 500) (cu (cu (cu (cu (cu D 11 p f) 12 p j) 13 p t) 14 p hr) 0 2 (D 0 2 + 1)) := bdk_cu hK26 (by omega) (by omega)
    have hD28 := hK28.bd (by omega)
    refine v_vret dX0_insert_68 rfl ?_ (Nat.le_refl _) (Nat.le_refl _)
    have e9 : w = 0 := by omega
    subst e9
    have e10 : C 0 2 = D 0 2 := e02.symm
    rw [e02, hD] at hc28
    exact ⟨rfl, rfl, hc28, ho28⟩
  · obtain ⟨w2, rfl⟩ : ∃ w2, w = w2 + 1 := ⟨w - 1, by omega⟩
    refine v_ls (ls2 := [some (.ref (q + 13)), some (.int (nI p)), some (.int (nI f)), some (.int (nI j)), some (.int (nI t)), some (.int (nI hr)), some (.int (nI ((p + w2) + 1)))]) rfl ?_
    refine v_aload_n dX0_insert_12 rfl ?_
    refine v_iload dX0_insert_13 rfl ?_
    refine v_iconst (v := nI 1) dX0_insert_15 (by decide) ?_
    refine n_isub (x := (p + w2) + 1) (y := 1) dX0_insert_16 (by omega) ?_
    refine v_st (st2 := [.int (nI (p + w2)), .ref (q + 13)]) (by rw [show p + w2 + 1 - 1 = p + w2 by omega]) ?_
    refine v_iload dX0_insert_17 rfl ?_
    refine v_callV (st := []) dX0_insert_19 (t_X0_move (a := p + w2) (z := (p + w2) + 1) hc2 hDK (by omega) (by omega) (by omega)) wX0_32 (ck13 hc2) rfl rfl ⟨Nat.le_of_ble_eq_true rfl, Nat.le_of_ble_eq_true rfl⟩ (Nat.le_of_ble_eq_true rfl) ⟨Nat.le_refl _, Nat.le_refl _⟩ (fun r n2 h2 hq => ?_)
    obtain ⟨rfl, rfl, hc9, ho9⟩ := hq
    refine v_st (st2 := []) rfl ?_
    refine n_idec (x := (p + w2)) dX0_insert_22 (by decide) rfl rfl (by decide) ?_
    refine v_ls (ls2 := [some (.ref (q + 13)), some (.int (nI p)), some (.int (nI f)), some (.int (nI j)), some (.int (nI t)), some (.int (nI hr)), some (.int (nI ((p + w2))))]) rfl ?_
    refine v_goto (tgt := 6) dX0_insert_25 (by decide) ?_
    exact ih6 w2 _ rfl ⟨by omega, ct_cong (hD ▸ hc9) (shR_s (by omega)), off_tr ho2 ho9⟩
set_option maxRecDepth 20000 in
set_option maxHeartbeats 4000000 in
theorem t_X1_payUnion {l : Launch} {G : vG} {n : Nat} {h : AH} {f k : Nat} {q b : Nat} {C : Ct} (hc : ct G h q C) (hK : bdk b C) (hb2 : b + 500 ≤ 2 ^ 28) (hf : f < 6) (hk : k < 2 ^ 28) (hk2 : k ≤ 100 ∨ C 2 f ≤ 99) : Mt l G mX1_payUnion [.ref q, .int (nI f), .int (nI k)] n h 0 0 (fun r n2 h2 => r = some (.int (nI (pay C f k))) ∧ n2 = n ∧ ct G h2 q (payU C f k) ∧ off q h h2) := by
  refine Mt.of (by decide) (Nat.le_of_ble_eq_true rfl) rfl ?_
  refine v_ls (ls2 := [some (.ref q), some (.int (nI f)), some (.int (nI k)), none]) rfl ?_
  have hB := hK.bd (by omega)
  refine v_iload_n dX1_payUnion_0 rfl ?_
  refine v_aload_n dX1_payUnion_1 rfl ?_
  refine fX1_12 (v := .ref (q + 1)) rfl dX1_payUnion_2 (ck0 hc) rfl ?_
  refine fX1_158 (v := .ref (q + 3)) rfl dX1_payUnion_5 (ck1 hc) rfl ?_
  refine v_iload_n dX1_payUnion_8 rfl ?_
  refine n_ialdv (f := C 2) (j := f) (y := C 2 f) dX1_payUnion_9 (ck3 hc) (by omega) (by decide) rfl ?_
  have b21 := hK 2 f
  refine n_min (x := k) (y := C 2 f) dX1_payUnion_10 q2_144 q2_70 q1_12 q2_71 (Nat.le_of_ble_eq_true rfl) (Nat.le_of_ble_eq_true rfl) (Nat.zero_le _) (Nat.zero_le _) (by omega) (by omega) ?_
  refine v_istore_n dX1_payUnion_13 rfl (by decide) ?_
  refine v_ls (ls2 := [some (.ref q), some (.int (nI f)), some (.int (nI k)), some (.int (nI (min k (C 2 f))))]) rfl ?_
  refine v_aload_n dX1_payUnion_14 rfl ?_
  refine fX1_12 (v := .ref (q + 1)) rfl dX1_payUnion_15 (ck0 hc) rfl ?_
  refine fX1_158 (v := .ref (q + 3)) rfl dX1_payUnion_18 (ck1 hc) rfl ?_
  refine v_iload_n dX1_payUnion_21 rfl ?_
  refine v_dup2 dX1_payUnion_22 rfl rfl ?_
  refine n_ialdv (f := C 2) (j := f) (y := C 2 f) dX1_payUnion_23 (ck3 hc) (by omega) (by decide) rfl ?_
  refine v_iload_n dX1_payUnion_24 rfl ?_
  refine n_isub (x := C 2 f) (y := min k (C 2 f)) dX1_payUnion_25 (by omega) ?_
  refine n_iast (f := C 2) (j := f) (x := C 2 f - min k (C 2 f)) dX1_payUnion_26 (ck3 hc) (by omega) (by decide) ?_
  refine wr (cp2 (j := f) (x := C 2 f - min k (C 2 f)) hc) off_rf (by omega) (fun h1 hc1 ho1 => ?_)
  have hc22 := hc1
  have ho22 := ho1
  clear hc1 ho1
  have hK22 : bdk (b + 100) (cu C 2 f (C 2 f - min k (C 2 f))) := bdk_cu hK (by omega) (by omega)
  have hD22 := hK22.bd (by omega)
  refine v_aload_n dX1_payUnion_27 rfl ?_
  refine v_dup dX1_payUnion_28 rfl ?_
  refine fX1_46 (v := .int (nI (C 0 5))) rfl dX1_payUnion_29 (ck0 (C := cu C 2 f (C 2 f - min k (C 2 f))) hc22) rfl ?_
  have b23 := hK 0 5
  refine v_iload_n dX1_payUnion_32 rfl ?_
  refine n_iadd (x := C 0 5) (y := min k (C 2 f)) dX1_payUnion_33 ?_
  refine pX1_46 rfl dX1_payUnion_34 (ck0 (C := cu C 2 f (C 2 f - min k (C 2 f))) hc22) (Nat.le_of_ble_eq_true rfl) ?_
  refine wr (cs5 (x := C 0 5 + min k (C 2 f)) (C := cu C 2 f (C 2 f - min k (C 2 f))) hc22) ho22 (by omega) (fun h1 hc1 ho1 => ?_)
  have hc24 := hc1
  have ho24 := ho1
  clear hc1 ho1
  have hK24 : bdk (b + 200) (cu (cu C 2 f (C 2 f - min k (C 2 f))) 0 5 (C 0 5 + min k (C 2 f))) := bdk_cu hK22 (by omega) (by omega)
  have hD24 := hK24.bd (by omega)
  refine v_iload_n dX1_payUnion_37 rfl ?_
  refine v_iret dX1_payUnion_38 rfl ?_ (Nat.le_refl _) (Nat.le_refl _)
  exact ⟨rfl, rfl, hc24, ho24⟩
set_option maxRecDepth 20000 in
set_option maxHeartbeats 4000000 in
theorem t_X1_gain {l : Launch} {G : vG} {n : Nat} {h : AH} {f k : Nat} {q b : Nat} {C : Ct} (hc : ct G h q C) (hK : bdk b C) (hb2 : b + 500 ≤ 2 ^ 28) (hf : f < 6) (hk : k ≤ 100) (h99 : C 2 f ≤ 99) : Mt l G mX1_gain [.ref q, .int (nI f), .int (nI k)] n h 0 0 (fun r n2 h2 => r = none ∧ n2 = n ∧ ct G h2 q (gain C f k) ∧ off q h h2) := by
  refine Mt.of (by decide) (Nat.le_of_ble_eq_true rfl) rfl ?_
  refine v_ls (ls2 := [some (.ref q), some (.int (nI f)), some (.int (nI k)), none]) rfl ?_
  have hB := hK.bd (by omega)
  refine v_iload_n dX1_gain_0 rfl ?_
  refine v_bipush (v := nI 99) dX1_gain_1 (by decide) ?_
  refine v_aload_n dX1_gain_3 rfl ?_
  refine fX1_12 (v := .ref (q + 1)) rfl dX1_gain_4 (ck0 hc) rfl ?_
  refine fX1_158 (v := .ref (q + 3)) rfl dX1_gain_7 (ck1 hc) rfl ?_
  refine v_iload_n dX1_gain_10 rfl ?_
  refine n_ialdv (f := C 2) (j := f) (y := C 2 f) dX1_gain_11 (ck3 hc) (by omega) (by decide) rfl ?_
  have b21 := hK 2 f
  refine n_isub (x := 99) (y := C 2 f) dX1_gain_12 (by omega) ?_
  refine n_min (x := k) (y := 99 - C 2 f) dX1_gain_13 q2_144 q2_70 q1_12 q2_71 (Nat.le_of_ble_eq_true rfl) (Nat.le_of_ble_eq_true rfl) (Nat.zero_le _) (Nat.zero_le _) (by omega) (by omega) ?_
  refine v_istore_n dX1_gain_16 rfl (by decide) ?_
  refine v_ls (ls2 := [some (.ref q), some (.int (nI f)), some (.int (nI k)), some (.int (nI (min k (99 - C 2 f))))]) rfl ?_
  refine v_aload_n dX1_gain_17 rfl ?_
  refine fX1_12 (v := .ref (q + 1)) rfl dX1_gain_18 (ck0 hc) rfl ?_
  refine fX1_158 (v := .ref (q + 3)) rfl dX1_gain_21 (ck1 hc) rfl ?_
  refine v_iload_n dX1_gain_24 rfl ?_
  refine v_dup2 dX1_gain_25 rfl rfl ?_
  refine n_ialdv (f := C 2) (j := f) (y := C 2 f) dX1_gain_26 (ck3 hc) (by omega) (by decide) rfl ?_
  refine v_iload_n dX1_gain_27 rfl ?_
  refine n_iadd (x := C 2 f) (y := min k (99 - C 2 f)) dX1_gain_28 ?_
  refine n_iast (f := C 2) (j := f) (x := C 2 f + (min k (99 - C 2 f))) dX1_gain_29 (ck3 hc) (by omega) (by decide) ?_
  refine wr (cp2 (j := f) (x := C 2 f + (min k (99 - C 2 f))) hc) off_rf (by omega) (fun h1 hc1 ho1 => ?_)
  have hc22 := hc1
  have ho22 := ho1
  clear hc1 ho1
  have hK22 : bdk (b + 100) (cu C 2 f (C 2 f + (min k (99 - C 2 f)))) := bdk_cu hK (by omega) (by omega)
  have hD22 := hK22.bd (by omega)
  refine v_aload_n dX1_gain_30 rfl ?_
  refine v_dup dX1_gain_31 rfl ?_
  refine fX1_49 (v := .int (nI (C 0 6))) rfl dX1_gain_32 (ck0 (C := cu C 2 f (C 2 f + (min k (99 - C 2 f)))) hc22) rfl ?_
  have b23 := hK 0 6
  refine v_iload_n dX1_gain_35 rfl ?_
  refine v_iload_n dX1_gain_36 rfl ?_
  refine n_isub (x := k) (y := min k (99 - C 2 f)) dX1_gain_37 (by omega) ?_
  refine n_iadd (x := C 0 6) (y := k - (min k (99 - C 2 f))) dX1_gain_38 ?_
  refine pX1_49 rfl dX1_gain_39 (ck0 (C := cu C 2 f (C 2 f + (min k (99 - C 2 f)))) hc22) (Nat.le_of_ble_eq_true rfl) ?_
  refine wr (cs6 (x := C 0 6 + (k - (min k (99 - C 2 f)))) (C := cu C 2 f (C 2 f + (min k (99 - C 2 f)))) hc22) ho22 (by omega) (fun h1 hc1 ho1 => ?_)
  have hc24 := hc1
  have ho24 := ho1
  clear hc1 ho1
  have hK24 : bdk (b + 200) (cu (cu C 2 f (C 2 f + (min k (99 - C 2 f)))) 0 6 (C 0 6 + (k - (min k (99 - C 2 f))))) := bdk_cu hK22 (by omega) (by omega)
  have hD24 := hK24.bd (by omega)
  refine v_vret dX1_gain_42 rfl ?_ (Nat.le_refl _) (Nat.le_refl _)
  exact ⟨rfl, rfl, hc24, ho24⟩
set_option maxRecDepth 20000 in
set_option maxHeartbeats 4000000 in
theorem t_X1_payFine {l : Launch} {G : vG} {n : Nat} {h : AH} {f w : Nat} {q b : Nat} {C : Ct} (hc : ct G h q C) (hK : bdk b C) (hb2 : b + 1000 ≤ 2 ^ 28) (hf : f < 6) (hw : w < 6) (hc99 : ∀ i, C 2 i ≤ 99) : Mt l G mX1_payFine [.ref q, .int (nI f), .int (nI w)] n h 0 0 (fun r n2 h2 => r = none ∧ n2 = n ∧ ct G h2 q (payF C f w) ∧ off q h h2) := by
  refine Mt.of (by decide) (Nat.le_of_ble_eq_true rfl) rfl ?_
  refine v_ls (ls2 := [some (.ref q), some (.int (nI f)), some (.int (nI w)), none]) rfl ?_
  have hB := hK.bd (by omega)
  refine v_iconst (v := nI 2) dX1_payFine_0 (by decide) ?_
  refine v_aload_n dX1_payFine_1 rfl ?_
  refine fX1_12 (v := .ref (q + 1)) rfl dX1_payFine_2 (ck0 hc) rfl ?_
  refine fX1_158 (v := .ref (q + 3)) rfl dX1_payFine_5 (ck1 hc) rfl ?_
  refine v_iload_n dX1_payFine_8 rfl ?_
  refine n_ialdv (f := C 2) (j := f) (y := C 2 f) dX1_payFine_9 (ck3 hc) (by omega) (by decide) rfl ?_
  have b21 := hK 2 f
  refine n_min (x := 2) (y := C 2 f) dX1_payFine_10 q2_144 q2_70 q1_12 q2_71 (Nat.le_of_ble_eq_true rfl) (Nat.le_of_ble_eq_true rfl) (Nat.zero_le _) (Nat.zero_le _) (by omega) (by omega) ?_
  refine v_istore_n dX1_payFine_13 rfl (by decide) ?_
  refine v_ls (ls2 := [some (.ref q), some (.int (nI f)), some (.int (nI w)), some (.int (nI (min 2 (C 2 f))))]) rfl ?_
  refine v_aload_n dX1_payFine_14 rfl ?_
  refine fX1_12 (v := .ref (q + 1)) rfl dX1_payFine_15 (ck0 hc) rfl ?_
  refine fX1_158 (v := .ref (q + 3)) rfl dX1_payFine_18 (ck1 hc) rfl ?_
  refine v_iload_n dX1_payFine_21 rfl ?_
  refine v_dup2 dX1_payFine_22 rfl rfl ?_
  refine n_ialdv (f := C 2) (j := f) (y := C 2 f) dX1_payFine_23 (ck3 hc) (by omega) (by decide) rfl ?_
  refine v_iload_n dX1_payFine_24 rfl ?_
  refine n_isub (x := C 2 f) (y := min 2 (C 2 f)) dX1_payFine_25 (by omega) ?_
  refine n_iast (f := C 2) (j := f) (x := C 2 f - min 2 (C 2 f)) dX1_payFine_26 (ck3 hc) (by omega) (by decide) ?_
  refine wr (cp2 (j := f) (x := C 2 f - min 2 (C 2 f)) hc) off_rf (by omega) (fun h1 hc1 ho1 => ?_)
  have hc22 := hc1
  have ho22 := ho1
  clear hc1 ho1
  have hK22 : bdk (b + 100) (cu C 2 f (C 2 f - min 2 (C 2 f))) := bdk_cu hK (by omega) (by omega)
  have hD22 := hK22.bd (by omega)
  refine v_aload_n dX1_payFine_27 rfl ?_
  refine v_iload_n dX1_payFine_28 rfl ?_
  refine v_iload_n dX1_payFine_29 rfl ?_
  have h99 : cu C 2 f (C 2 f - min 2 (C 2 f)) 2 w ≤ 99 := by
    show va_up (C 2) f (C 2 f - min 2 (C 2 f)) w ≤ 99
    unfold va_up
    split
    · have := hc99 f; omega
    · exact hc99 w
  refine v_callV (st := []) dX1_payFine_30 (t_X1_gain (f := w) (k := min 2 (C 2 f)) hc22 hK22 (by omega) (by omega) (by omega) h99) wX1_143 (ck0 (C := cu C 2 f (C 2 f - min 2 (C 2 f))) hc22) rfl rfl ⟨Nat.le_of_ble_eq_true rfl, Nat.le_of_ble_eq_true rfl⟩ (Nat.le_of_ble_eq_true rfl) ⟨Nat.le_refl _, Nat.le_refl _⟩ (fun r n2 h2 hq => ?_)
  obtain ⟨rfl, rfl, hc9, ho9⟩ := hq
  refine v_st (st2 := []) rfl ?_
  obtain ⟨C23, hC23⟩ : ∃ C9 : Ct, C9 = gain (cu C 2 f (C 2 f - min 2 (C 2 f))) w (min 2 (C 2 f)) := ⟨_, rfl⟩
  rw [← hC23] at hc9
  have hc23 := hc9
  have ho23 := off_tr ho22 ho9
  clear hc9 ho9
  have hK23 : bdk (b + 200) C23 := by rw [hC23]; exact bdk_gain hK22 (by omega) (by omega)
  have hD23 := hK23.bd (by omega)
  refine v_vret dX1_payFine_33 rfl ?_ (Nat.le_refl _) (Nat.le_refl _)
  rw [hC23] at hc23
  exact ⟨rfl, rfl, hc23, ho23⟩
set_option maxRecDepth 20000 in
set_option maxHeartbeats 4000000 in
theorem t_X4_addTelling {l : Launch} {G : vG} {n : Nat} {h : AH} {j t : Nat} {q b : Nat} {C : Ct} (hc : ct G h q C) (hK : bdk b C) (hb2 : b + 500 ≤ 2 ^ 28) (hj : j < 12) (ht : t < 4) : Mt l G mX4_addTelling [.ref (q + 8), .int (nI j), .int (nI t)] n h 0 0 (fun r n2 h2 => r = none ∧ n2 = n ∧ ct G h2 q (addT C j t) ∧ off q h h2) := by
  refine Mt.of (by decide) (Nat.le_of_ble_eq_true rfl) rfl ?_
  refine v_ls (ls2 := [some (.ref (q + 8)), some (.int (nI j)), some (.int (nI t))]) rfl ?_
  have hB := hK.bd (by omega)
  refine v_aload_n dX4_addTelling_0 rfl ?_
  refine fX4_25 (v := .ref (q + 12)) rfl dX4_addTelling_1 (ck8 hc) rfl ?_
  refine v_iload_n dX4_addTelling_4 rfl ?_
  refine v_iconst (v := nI 4) dX4_addTelling_5 (by decide) ?_
  refine n_imul (x := j) (y := 4) dX4_addTelling_6 ?_
  refine v_iload_n dX4_addTelling_7 rfl ?_
  refine n_iadd (x := j * 4) (y := t) dX4_addTelling_8 ?_
  refine v_dup2 dX4_addTelling_9 rfl rfl ?_
  refine n_ialdv (f := C 10) (j := (j * 4) + t) (y := C 10 ((j * 4) + t)) dX4_addTelling_10 (ck12 hc) (by omega) (by decide) rfl ?_
  have b21 := hK 10 ((j * 4) + t)
  refine v_iconst (v := nI 1) dX4_addTelling_11 (by decide) ?_
  refine n_iadd (x := C 10 ((j * 4) + t)) (y := 1) dX4_addTelling_12 ?_
  refine n_iast (f := C 10) (j := (j * 4) + t) (x := (C 10 ((j * 4) + t)) + 1) dX4_addTelling_13 (ck12 hc) (by omega) (by decide) ?_
  refine wr (cp10 (j := (j * 4) + t) (x := (C 10 ((j * 4) + t)) + 1) hc) off_rf (by omega) (fun h1 hc1 ho1 => ?_)
  have hc22 := hc1
  have ho22 := ho1
  clear hc1 ho1
  have hK22 : bdk (b + 100) (cu C 10 ((j * 4) + t) ((C 10 ((j * 4) + t)) + 1)) := bdk_cu hK (by omega) (by omega)
  have hD22 := hK22.bd (by omega)
  refine v_vret dX4_addTelling_14 rfl ?_ (Nat.le_refl _) (Nat.le_refl _)
  exact ⟨rfl, rfl, hc22, ho22⟩
