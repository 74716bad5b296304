def shI (c : Nat) : Nat := if c = 102 then 0 else if c = 106 then 1 else if c = 112 then 2 else if c = 98 then 3 else if c = 110 then 4 else if c = 105 then 5 else if c = 97 then 6 else if c = 120 then 7 else if c = 119 then 8 else 9
theorem shI_cs (c : Nat) : (c = 102 ∧ shI c = 0) ∨ (c = 106 ∧ shI c = 1) ∨ (c = 112 ∧ shI c = 2) ∨ (c = 98 ∧ shI c = 3) ∨ (c = 110 ∧ shI c = 4) ∨ (c = 105 ∧ shI c = 5) ∨ (c = 97 ∧ shI c = 6) ∨ (c = 120 ∧ shI c = 7) ∨ (c = 119 ∧ shI c = 8) ∨ shI c = 9 := by
  unfold shI
  (repeat' split) <;> omega
theorem shI_lt (c : Nat) : shI c < 10 := by
  unfold shI
  (repeat' split) <;> omega
def sS (T : Nat → Nat) (c : Nat) (s : Bool × Nat) : Bool × Nat := if s.1 = true then (decide (T s.2 = c), sgP T c s.2) else s
def sN (T : Nat → Nat) (m : Nat) (s : Bool × Nat) : Bool × Nat := if s.1 = true then (decide (0 < dc T m s.2), s.2 + dc T m s.2) else s
def sPM (T : Nat → Nat) (s : Bool × Nat) : Bool × Nat := if s.1 = true then (decide (T s.2 = 43 ∨ T s.2 = 45), pmP T s.2) else s
/-- reading the order whose shape is the i-th, from p: whether it is right, where reading ends -/
def oS (T : Nat → Nat) : Nat → Nat → Bool × Nat
  | 0, p => sN T 1 (true, p + 1)
  | 1, p => sN T 1 (true, p + 1)
  | 2, p => sN T 2 (sS T 42 (sN T 2 (sS T 58 (sN T 1 (true, p + 1)))))
  | 3, p => sN T 2 (sS T 61 (sN T 1 (sS T 64 (sN T 2 (sS T 58 (sN T 1 (true, p + 1)))))))
  | 4, p => (true, p + 1)
  | 5, p => sN T 1 (true, p + 1)
  | 6, p => sN T 1 (true, p + 1)
  | 7, p => sPM T (sN T 1 (true, p + 1))
  | 8, p => sN T 2 (true, p + 1)
  | _, p => (false, p)
def oAr : Nat → Nat
  | 0 => 1
  | 1 => 1
  | 2 => 3
  | 3 => 4
  | 4 => 0
  | 5 => 1
  | 6 => 1
  | 7 => 2
  | 8 => 1
  | _ => 0
def n1 (T : Nat → Nat) (p : Nat) : Nat := p + dc T 1 p
def n2_ (T : Nat → Nat) (p : Nat) : Nat := p + dc T 2 p
/-- its numbers -/
def oV (T : Nat → Nat) : Nat → Nat → Nat → Nat
  | 2, p, 0 => dv T 0 1 (p + 1)
  | 2, p, 1 => dv T 0 2 (sgP T 58 (p + 1 + dc T 1 (p + 1)))
  | 2, p, 2 => dv T 0 2 (sgP T 42 (sgP T 58 (p + 1 + dc T 1 (p + 1)) + dc T 2 (sgP T 58 (p + 1 + dc T 1 (p + 1)))))
  | 3, p, 0 => dv T 0 1 (p + 1)
  | 3, p, 1 => dv T 0 2 (sgP T 58 (p + 1 + dc T 1 (p + 1)))
  | 3, p, 2 => dv T 0 1 (sgP T 64 (sgP T 58 (p + 1 + dc T 1 (p + 1)) + dc T 2 (sgP T 58 (p + 1 + dc T 1 (p + 1)))))
  | 3, p, 3 => dv T 0 2 (sgP T 61 (sgP T 64 (sgP T 58 (p + 1 + dc T 1 (p + 1)) + dc T 2 (sgP T 58 (p + 1 + dc T 1 (p + 1)))) + dc T 1 (sgP T 64 (sgP T 58 (p + 1 + dc T 1 (p + 1)) + dc T 2 (sgP T 58 (p + 1 + dc T 1 (p + 1)))))))
  | 7, p, 0 => dv T 0 1 (p + 1)
  | 7, p, 1 => bI (T (p + 1 + dc T 1 (p + 1)) = 43)
  | 8, p, _ => dv T 0 2 (p + 1)
  | _, p, _ => dv T 0 1 (p + 1)
theorem lk_sign : ∀ c, c < 128 → c ≠ 49 → c ≠ 50 → c ≠ 63 → Op.lookupswitch.offset [(49, 35), (50, 41), (63, 47)] 52 (nI c).toInt = 52 := by decide +kernel
theorem pm_le {t : Nat → Nat} {n p : Nat} (hp : p ≤ n) : pmP (txt t n) p ≤ n := by
  unfold pmP
  split
  · have := txt_le (t := t) (n := n) (p := p) (by omega)
    omega
  · exact hp
set_option maxRecDepth 20000 in
set_option maxHeartbeats 4000000 in
theorem t_X5_letter {l : Launch} {G : vG} {h : AH} {n : Nat} {q a m tn mb c p r i : Nat} {t L N : Nat → Nat} (ho : h q = some (.inr (6, [.ref (q + 1), .int (nI c), .int (nI p), .int (nI r), .ref (q + 3), .ref (q + 4)]))) (hb : sbP G h (q + 1) a m t tn mb) (hL : h (q + 3) = some (.inl (gC G 1, 30, .inl (fun i => nI (L i))))) (hN : h (q + 4) = some (ar G 120 N)) (haq : a ≠ q ∧ a ≠ q + 3 ∧ a ≠ q + 4) (hm : m ≤ 142) (htn : tn ≤ 60) (ht : ∀ i, i < tn → 32 ≤ t i ∧ t i ≤ 126) (hi : i < 30) (hLi : L i < 256) : Mt l G mX5_letter [.ref q, .int (nI i)] (n) h 0 0 (fun r n2 h2 => r = some (.int (nI (L i))) ∧ n2 = n ∧ h2 = h) := by
  refine Mt.of (by decide) (Nat.le_of_ble_eq_true rfl) rfl ?_
  refine v_ls (ls2 := [some (.ref q), some (.int (nI i))]) rfl ?_
  refine v_aload_n dX5_letter_0 rfl ?_
  refine fX5_28 (v := .ref (q + 3)) rfl dX5_letter_1 ho rfl ?_
  refine v_iload_n dX5_letter_4 rfl ?_
  refine n_caldN (f := L) (j := i) dX5_letter_5 hL (by omega) (by decide) ?_
  refine v_zret (ty := .char) dX5_letter_6 rfl (nI_ch _ (by omega)) ?_ (Nat.le_of_ble_eq_true rfl) (Nat.le_of_ble_eq_true rfl)
  exact ⟨rfl, rfl, rfl⟩
set_option maxRecDepth 20000 in
set_option maxHeartbeats 4000000 in
theorem t_X5_number {l : Launch} {G : vG} {h : AH} {n : Nat} {q a m tn mb c p r i j : Nat} {t L N : Nat → Nat} (ho : h q = some (.inr (6, [.ref (q + 1), .int (nI c), .int (nI p), .int (nI r), .ref (q + 3), .ref (q + 4)]))) (hb : sbP G h (q + 1) a m t tn mb) (hL : h (q + 3) = some (.inl (gC G 1, 30, .inl (fun i => nI (L i))))) (hN : h (q + 4) = some (ar G 120 N)) (haq : a ≠ q ∧ a ≠ q + 3 ∧ a ≠ q + 4) (hm : m ≤ 142) (htn : tn ≤ 60) (ht : ∀ i, i < tn → 32 ≤ t i ∧ t i ≤ 126) (hi : i < 30) (hj : j < 4) : Mt l G mX5_number [.ref q, .int (nI i), .int (nI j)] (n) h 0 0 (fun r n2 h2 => r = some (.int (nI (N (i * 4 + j)))) ∧ n2 = n ∧ h2 = h) := by
  refine Mt.of (by decide) (Nat.le_of_ble_eq_true rfl) rfl ?_
  refine v_ls (ls2 := [some (.ref q), some (.int (nI i)), some (.int (nI j))]) rfl ?_
  refine v_aload_n dX5_number_0 rfl ?_
  refine fX5_32 (v := .ref (q + 4)) rfl dX5_number_1 ho rfl ?_
  refine v_iload_n dX5_number_4 rfl ?_
  refine v_iconst (v := nI 4) dX5_number_5 (by decide) ?_
  refine n_imul (x := i) (y := 4) dX5_number_6 ?_
  refine v_iload_n dX5_number_7 rfl ?_
  refine n_iadd (x := i * 4) (y := j) dX5_number_8 ?_
  refine n_ialdv (f := N) (j := (i * 4) + j) (y := N ((i * 4) + j)) dX5_number_9 hN (by omega) (by decide) rfl ?_
  refine v_iret dX5_number_10 rfl ?_ (Nat.le_of_ble_eq_true rfl) (Nat.le_of_ble_eq_true rfl)
  exact ⟨rfl, rfl, rfl⟩
set_option maxRecDepth 20000 in
set_option maxHeartbeats 4000000 in
theorem t_X5_shapeOf {l : Launch} {G : vG} {h : AH} {n : Nat} {c : Nat} (hc : c < 128) : Mt l G mX5_shapeOf [.int (nI c)] (n) h 0 0 (fun r n2 h2 => r = some (.ref (gA G 0 (shI c))) ∧ n2 = n ∧ h2 = h) := by
  refine Mt.of (by decide) (Nat.le_of_ble_eq_true rfl) rfl ?_
  refine v_ls (ls2 := [some (.int (nI c))]) rfl ?_
  refine v_iload_n dX5_shapeOf_0 rfl ?_
  by_cases hr9 : 97 ≤ c ∧ c ≤ 120
  · obtain rfl | rfl | rfl | rfl | rfl | rfl | rfl | rfl | rfl | rfl | rfl | rfl | rfl | rfl | rfl | rfl | rfl | rfl | rfl | rfl | rfl | rfl | rfl | rfl := (by omega : c = 97 ∨ c = 98 ∨ c = 99 ∨ c = 100 ∨ c = 101 ∨ c = 102 ∨ c = 103 ∨ c = 104 ∨ c = 105 ∨ c = 106 ∨ c = 107 ∨ c = 108 ∨ c = 109 ∨ c = 110 ∨ c = 111 ∨ c = 112 ∨ c = 113 ∨ c = 114 ∨ c = 115 ∨ c = 116 ∨ c = 117 ∨ c = 118 ∨ c = 119 ∨ c = 120)
    · refine v_tsIn (off := 129) (tgt := 130) dX5_shapeOf_1 (by decide) (by decide) (by decide) (by decide) ?_
      refine v_ldcs (i := 6) dX5_shapeOf_130 (by decide) rfl rfl ?_
      refine v_aret dX5_shapeOf_132 rfl (Or.inl ⟨_, rfl⟩) ?_ (Nat.le_of_ble_eq_true rfl) (Nat.le_of_ble_eq_true rfl)
      exact ⟨rfl, rfl, rfl⟩
    · refine v_tsIn (off := 120) (tgt := 121) dX5_shapeOf_1 (by decide) (by decide) (by decide) (by decide) ?_
      refine v_ldcs (i := 3) dX5_shapeOf_121 (by decide) rfl rfl ?_
      refine v_aret dX5_shapeOf_123 rfl (Or.inl ⟨_, rfl⟩) ?_ (Nat.le_of_ble_eq_true rfl) (Nat.le_of_ble_eq_true rfl)
      exact ⟨rfl, rfl, rfl⟩
    · refine v_tsIn (off := 138) (tgt := 139) dX5_shapeOf_1 (by decide) (by decide) (by decide) (by decide) ?_
      refine v_ldcs (i := 9) dX5_shapeOf_139 (by decide) rfl rfl ?_
      refine v_aret dX5_shapeOf_141 rfl (Or.inl ⟨_, rfl⟩) ?_ (Nat.le_of_ble_eq_true rfl) (Nat.le_of_ble_eq_true rfl)
      exact ⟨rfl, rfl, rfl⟩
    · refine v_tsIn (off := 138) (tgt := 139) dX5_shapeOf_1 (by decide) (by decide) (by decide) (by decide) ?_
      refine v_ldcs (i := 9) dX5_shapeOf_139 (by decide) rfl rfl ?_
      refine v_aret dX5_shapeOf_141 rfl (Or.inl ⟨_, rfl⟩) ?_ (Nat.le_of_ble_eq_true rfl) (Nat.le_of_ble_eq_true rfl)
      exact ⟨rfl, rfl, rfl⟩
    · refine v_tsIn (off := 138) (tgt := 139) dX5_shapeOf_1 (by decide) (by decide) (by decide) (by decide) ?_
      refine v_ldcs (i := 9) dX5_shapeOf_139 (by decide) rfl rfl ?_
      refine v_aret dX5_shapeOf_141 rfl (Or.inl ⟨_, rfl⟩) ?_ (Nat.le_of_ble_eq_true rfl) (Nat.le_of_ble_eq_true rfl)
      exact ⟨rfl, rfl, rfl⟩
    · refine v_tsIn (off := 111) (tgt := 112) dX5_shapeOf_1 (by decide) (by decide) (by decide) (by decide) ?_
      refine v_ldcs (i := 0) dX5_shapeOf_112 (by decide) rfl rfl ?_
      refine v_aret dX5_shapeOf_114 rfl (Or.inl ⟨_, rfl⟩) ?_ (Nat.le_of_ble_eq_true rfl) (Nat.le_of_ble_eq_true rfl)
      exact ⟨rfl, rfl, rfl⟩
    · refine v_tsIn (off := 138) (tgt := 139) dX5_shapeOf_1 (by decide) (by decide) (by decide) (by decide) ?_
      refine v_ldcs (i := 9) dX5_shapeOf_139 (by decide) rfl rfl ?_
      refine v_aret dX5_shapeOf_141 rfl (Or.inl ⟨_, rfl⟩) ?_ (Nat.le_of_ble_eq_true rfl) (Nat.le_of_ble_eq_true rfl)
      exact ⟨rfl, rfl, rfl⟩
    · refine v_tsIn (off := 138) (tgt := 139) dX5_shapeOf_1 (by decide) (by decide) (by decide) (by decide) ?_
      refine v_ldcs (i := 9) dX5_shapeOf_139 (by decide) rfl rfl ?_
      refine v_aret dX5_shapeOf_141 rfl (Or.inl ⟨_, rfl⟩) ?_ (Nat.le_of_ble_eq_true rfl) (Nat.le_of_ble_eq_true rfl)
      exact ⟨rfl, rfl, rfl⟩
    · refine v_tsIn (off := 126) (tgt := 127) dX5_shapeOf_1 (by decide) (by decide) (by decide) (by decide) ?_
      refine v_ldcs (i := 5) dX5_shapeOf_127 (by decide) rfl rfl ?_
      refine v_aret dX5_shapeOf_129 rfl (Or.inl ⟨_, rfl⟩) ?_ (Nat.le_of_ble_eq_true rfl) (Nat.le_of_ble_eq_true rfl)
      exact ⟨rfl, rfl, rfl⟩
    · refine v_tsIn (off := 114) (tgt := 115) dX5_shapeOf_1 (by decide) (by decide) (by decide) (by decide) ?_
      refine v_ldcs (i := 1) dX5_shapeOf_115 (by decide) rfl rfl ?_
      refine v_aret dX5_shapeOf_117 rfl (Or.inl ⟨_, rfl⟩) ?_ (Nat.le_of_ble_eq_true rfl) (Nat.le_of_ble_eq_true rfl)
      exact ⟨rfl, rfl, rfl⟩
    · refine v_tsIn (off := 138) (tgt := 139) dX5_shapeOf_1 (by decide) (by decide) (by decide) (by decide) ?_
      refine v_ldcs (i := 9) dX5_shapeOf_139 (by decide) rfl rfl ?_
      refine v_aret dX5_shapeOf_141 rfl (Or.inl ⟨_, rfl⟩) ?_ (Nat.le_of_ble_eq_true rfl) (Nat.le_of_ble_eq_true rfl)
      exact ⟨rfl, rfl, rfl⟩
    · refine v_tsIn (off := 138) (tgt := 139) dX5_shapeOf_1 (by decide) (by decide) (by decide) (by decide) ?_
      refine v_ldcs (i := 9) dX5_shapeOf_139 (by decide) rfl rfl ?_
      refine v_aret dX5_shapeOf_141 rfl (Or.inl ⟨_, rfl⟩) ?_ (Nat.le_of_ble_eq_true rfl) (Nat.le_of_ble_eq_true rfl)
      exact ⟨rfl, rfl, rfl⟩
    · refine v_tsIn (off := 138) (tgt := 139) dX5_shapeOf_1 (by decide) (by decide) (by decide) (by decide) ?_
      refine v_ldcs (i := 9) dX5_shapeOf_139 (by decide) rfl rfl ?_
      refine v_aret dX5_shapeOf_141 rfl (Or.inl ⟨_, rfl⟩) ?_ (Nat.le_of_ble_eq_true rfl) (Nat.le_of_ble_eq_true rfl)
      exact ⟨rfl, rfl, rfl⟩
    · refine v_tsIn (off := 123) (tgt := 124) dX5_shapeOf_1 (by decide) (by decide) (by decide) (by decide) ?_
      refine v_ldcs (i := 4) dX5_shapeOf_124 (by decide) rfl rfl ?_
      refine v_aret dX5_shapeOf_126 rfl (Or.inl ⟨_, rfl⟩) ?_ (Nat.le_of_ble_eq_true rfl) (Nat.le_of_ble_eq_true rfl)
      exact ⟨rfl, rfl, rfl⟩
    · refine v_tsIn (off := 138) (tgt := 139) dX5_shapeOf_1 (by decide) (by decide) (by decide) (by decide) ?_
      refine v_ldcs (i := 9) dX5_shapeOf_139 (by decide) rfl rfl ?_
      refine v_aret dX5_shapeOf_141 rfl (Or.inl ⟨_, rfl⟩) ?_ (Nat.le_of_ble_eq_true rfl) (Nat.le_of_ble_eq_true rfl)
      exact ⟨rfl, rfl, rfl⟩
    · refine v_tsIn (off := 117) (tgt := 118) dX5_shapeOf_1 (by decide) (by decide) (by decide) (by decide) ?_
      refine v_ldcs (i := 2) dX5_shapeOf_118 (by decide) rfl rfl ?_
      refine v_aret dX5_shapeOf_120 rfl (Or.inl ⟨_, rfl⟩) ?_ (Nat.le_of_ble_eq_true rfl) (Nat.le_of_ble_eq_true rfl)
      exact ⟨rfl, rfl, rfl⟩
    · refine v_tsIn (off := 138) (tgt := 139) dX5_shapeOf_1 (by decide) (by decide) (by decide) (by decide) ?_
      refine v_ldcs (i := 9) dX5_shapeOf_139 (by decide) rfl rfl ?_
      refine v_aret dX5_shapeOf_141 rfl (Or.inl ⟨_, rfl⟩) ?_ (Nat.le_of_ble_eq_true rfl) (Nat.le_of_ble_eq_true rfl)
      exact ⟨rfl, rfl, rfl⟩
    · refine v_tsIn (off := 138) (tgt := 139) dX5_shapeOf_1 (by decide) (by decide) (by decide) (by decide) ?_
      refine v_ldcs (i := 9) dX5_shapeOf_139 (by decide) rfl rfl ?_
      refine v_aret dX5_shapeOf_141 rfl (Or.inl ⟨_, rfl⟩) ?_ (Nat.le_of_ble_eq_true rfl) (Nat.le_of_ble_eq_true rfl)
      exact ⟨rfl, rfl, rfl⟩
    · refine v_tsIn (off := 138) (tgt := 139) dX5_shapeOf_1 (by decide) (by decide) (by decide) (by decide) ?_
      refine v_ldcs (i := 9) dX5_shapeOf_139 (by decide) rfl rfl ?_
      refine v_aret dX5_shapeOf_141 rfl (Or.inl ⟨_, rfl⟩) ?_ (Nat.le_of_ble_eq_true rfl) (Nat.le_of_ble_eq_true rfl)
      exact ⟨rfl, rfl, rfl⟩
    · refine v_tsIn (off := 138) (tgt := 139) dX5_shapeOf_1 (by decide) (by decide) (by decide) (by decide) ?_
      refine v_ldcs (i := 9) dX5_shapeOf_139 (by decide) rfl rfl ?_
      refine v_aret dX5_shapeOf_141 rfl (Or.inl ⟨_, rfl⟩) ?_ (Nat.le_of_ble_eq_true rfl) (Nat.le_of_ble_eq_true rfl)
      exact ⟨rfl, rfl, rfl⟩
    · refine v_tsIn (off := 138) (tgt := 139) dX5_shapeOf_1 (by decide) (by decide) (by decide) (by decide) ?_
      refine v_ldcs (i := 9) dX5_shapeOf_139 (by decide) rfl rfl ?_
      refine v_aret dX5_shapeOf_141 rfl (Or.inl ⟨_, rfl⟩) ?_ (Nat.le_of_ble_eq_true rfl) (Nat.le_of_ble_eq_true rfl)
      exact ⟨rfl, rfl, rfl⟩
    · refine v_tsIn (off := 138) (tgt := 139) dX5_shapeOf_1 (by decide) (by decide) (by decide) (by decide) ?_
      refine v_ldcs (i := 9) dX5_shapeOf_139 (by decide) rfl rfl ?_
      refine v_aret dX5_shapeOf_141 rfl (Or.inl ⟨_, rfl⟩) ?_ (Nat.le_of_ble_eq_true rfl) (Nat.le_of_ble_eq_true rfl)
      exact ⟨rfl, rfl, rfl⟩
    · refine v_tsIn (off := 135) (tgt := 136) dX5_shapeOf_1 (by decide) (by decide) (by decide) (by decide) ?_
      refine v_ldcs (i := 8) dX5_shapeOf_136 (by decide) rfl rfl ?_
      refine v_aret dX5_shapeOf_138 rfl (Or.inl ⟨_, rfl⟩) ?_ (Nat.le_of_ble_eq_true rfl) (Nat.le_of_ble_eq_true rfl)
      exact ⟨rfl, rfl, rfl⟩
    · refine v_tsIn (off := 132) (tgt := 133) dX5_shapeOf_1 (by decide) (by decide) (by decide) (by decide) ?_
      refine v_ldcs (i := 7) dX5_shapeOf_133 (by decide) rfl rfl ?_
      refine v_aret dX5_shapeOf_135 rfl (Or.inl ⟨_, rfl⟩) ?_ (Nat.le_of_ble_eq_true rfl) (Nat.le_of_ble_eq_true rfl)
      exact ⟨rfl, rfl, rfl⟩
  · refine v_tsOut (tgt := 139) dX5_shapeOf_1 (by rw [nI_toInt (by omega)]; omega) (by decide) ?_
    refine v_ldcs (i := 9) dX5_shapeOf_139 (by decide) rfl rfl ?_
    refine v_aret dX5_shapeOf_141 rfl (Or.inl ⟨_, rfl⟩) ?_ (Nat.le_of_ble_eq_true rfl) (Nat.le_of_ble_eq_true rfl)
    exact ⟨by rw [show shI c = 9 from by unfold shI; all_goals (repeat (first | rw [if_pos (by first | assumption | omega | rfl | trivial)] | rw [if_neg (by first | assumption | omega)]))], rfl, rfl⟩
set_option maxRecDepth 20000 in
set_option maxHeartbeats 4000000 in
theorem t_X5_readPart49 {l : Launch} {G : vG} {h : AH} {n : Nat} {q a m tn mb c p r : Nat} {t L N : Nat → Nat} (ho : h q = some (.inr (6, [.ref (q + 1), .int (nI c), .int (nI p), .int (nI r), .ref (q + 3), .ref (q + 4)]))) (hb : sbP G h (q + 1) a m t tn mb) (hL : h (q + 3) = some (.inl (gC G 1, 30, .inl (fun i => nI (L i))))) (hN : h (q + 4) = some (ar G 120 N)) (haq : a ≠ q ∧ a ≠ q + 3 ∧ a ≠ q + 4) (hm : m ≤ 142) (htn : tn ≤ 60) (ht : ∀ i, i < tn → 32 ≤ t i ∧ t i ≤ 126) (hp : p ≤ tn) (hr : r < 4) (hc30 : c < 30) : Mt l G mX5_readPart [.ref q, .int (nI 49)] (n) h 0 0 (fun r9 n2 h2 => r9 = some (.int (nI (bI (0 < dc (txt t tn) 1 p)))) ∧ n2 = n ∧ h2 q = some (.inr (6, [.ref (q + 1), .int (nI c), .int (nI (p + dc (txt t tn) 1 p)), .int (nI (r + 1)), .ref (q + 3), .ref (q + 4)])) ∧ h2 (q + 4) = some (ar G 120 (va_up N (c * 4 + r) (dv (txt t tn) 0 1 p))) ∧ frP (fun z => z ≠ q ∧ z ≠ q + 4) h h2) := by
  refine Mt.of (by decide) (Nat.le_of_ble_eq_true rfl) rfl ?_
  refine v_ls (ls2 := [some (.ref q), some (.int (nI 49))]) rfl ?_
  refine v_iload_n dX5_readPart_0 rfl ?_
  refine v_lookup (off := 35) (tgt := 36) dX5_readPart_1 (by decide) (by decide) (by decide) ?_
  refine v_aload_n dX5_readPart_36 rfl ?_
  refine v_iconst (v := nI 1) dX5_readPart_37 (by decide) ?_
  refine v_callV (st := []) dX5_readPart_38 (t_X5_readNumber1 ho hb hL hN haq hm htn ht (by omega) (by omega) (by omega)) wX5_86 ho rfl rfl ⟨Nat.le_of_ble_eq_true rfl, Nat.le_of_ble_eq_true rfl⟩ (Nat.le_of_ble_eq_true rfl) ⟨Nat.le_of_ble_eq_true rfl, Nat.le_of_ble_eq_true rfl⟩ (fun r n2 h2 hq => ?_)
  obtain ⟨rfl, hn9, fa21, fa22, sa23⟩ := hq; replace hn9 := hn9.symm; subst hn9
  refine v_st (st2 := [.int (nI (bI (0 < dc (txt t tn) 1 p)))]) rfl ?_
  have hb24 := sbP_fr hb (sa23 (q + 1) (by omega)) (sa23 (a) (by omega))
  have fa25 := (sa23 (q + 3) (by omega)).trans hL
  have fr26 : frP (fun z => z ≠ q ∧ z ≠ q + 4) _ _ := fun z (hz : z ≠ q ∧ z ≠ q + 4) => sa23 z (by omega)
  have bs27 : p + dc (txt t tn) 1 p ≤ tn := dc_le (by omega)
  refine v_zret (ty := .boolean) dX5_readPart_41 rfl (nI_z _ bI_lt) ?_ (Nat.le_of_ble_eq_true rfl) (Nat.le_of_ble_eq_true rfl)
  exact ⟨rfl, rfl, fa21, fa22, fr26⟩
set_option maxRecDepth 20000 in
set_option maxHeartbeats 4000000 in
theorem t_X5_readPart50 {l : Launch} {G : vG} {h : AH} {n : Nat} {q a m tn mb c p r : Nat} {t L N : Nat → Nat} (ho : h q = some (.inr (6, [.ref (q + 1), .int (nI c), .int (nI p), .int (nI r), .ref (q + 3), .ref (q + 4)]))) (hb : sbP G h (q + 1) a m t tn mb) (hL : h (q + 3) = some (.inl (gC G 1, 30, .inl (fun i => nI (L i))))) (hN : h (q + 4) = some (ar G 120 N)) (haq : a ≠ q ∧ a ≠ q + 3 ∧ a ≠ q + 4) (hm : m ≤ 142) (htn : tn ≤ 60) (ht : ∀ i, i < tn → 32 ≤ t i ∧ t i ≤ 126) (hp : p ≤ tn) (hr : r < 4) (hc30 : c < 30) : Mt l G mX5_readPart [.ref q, .int (nI 50)] (n) h 0 0 (fun r9 n2 h2 => r9 = some (.int (nI (bI (0 < dc (txt t tn) 2 p)))) ∧ n2 = n ∧ h2 q = some (.inr (6, [.ref (q + 1), .int (nI c), .int (nI (p + dc (txt t tn) 2 p)), .int (nI (r + 1)), .ref (q + 3), .ref (q + 4)])) ∧ h2 (q + 4) = some (ar G 120 (va_up N (c * 4 + r) (dv (txt t tn) 0 2 p))) ∧ frP (fun z => z ≠ q ∧ z ≠ q + 4) h h2) := by
  refine Mt.of (by decide) (Nat.le_of_ble_eq_true rfl) rfl ?_
  refine v_ls (ls2 := [some (.ref q), some (.int (nI 50))]) rfl ?_
  refine v_iload_n dX5_readPart_0 rfl ?_
  refine v_lookup (off := 41) (tgt := 42) dX5_readPart_1 (by decide) (by decide) (by decide) ?_
  refine v_aload_n dX5_readPart_42 rfl ?_
  refine v_iconst (v := nI 2) dX5_readPart_43 (by decide) ?_
  refine v_callV (st := []) dX5_readPart_44 (t_X5_readNumber2 ho hb hL hN haq hm htn ht (by omega) (by omega) (by omega)) wX5_86 ho rfl rfl ⟨Nat.le_of_ble_eq_true rfl, Nat.le_of_ble_eq_true rfl⟩ (Nat.le_of_ble_eq_true rfl) ⟨Nat.le_of_ble_eq_true rfl, Nat.le_of_ble_eq_true rfl⟩ (fun r n2 h2 hq => ?_)
  obtain ⟨rfl, hn9, fa21, fa22, sa23⟩ := hq; replace hn9 := hn9.symm; subst hn9
  refine v_st (st2 := [.int (nI (bI (0 < dc (txt t tn) 2 p)))]) rfl ?_
  have hb24 := sbP_fr hb (sa23 (q + 1) (by omega)) (sa23 (a) (by omega))
  have fa25 := (sa23 (q + 3) (by omega)).trans hL
  have fr26 : frP (fun z => z ≠ q ∧ z ≠ q + 4) _ _ := fun z (hz : z ≠ q ∧ z ≠ q + 4) => sa23 z (by omega)
  have bs27 : p + dc (txt t tn) 2 p ≤ tn := dc_le (by omega)
  refine v_zret (ty := .boolean) dX5_readPart_47 rfl (nI_z _ bI_lt) ?_ (Nat.le_of_ble_eq_true rfl) (Nat.le_of_ble_eq_true rfl)
  exact ⟨rfl, rfl, fa21, fa22, fr26⟩
set_option maxRecDepth 20000 in
set_option maxHeartbeats 4000000 in
theorem t_X5_readPart63 {l : Launch} {G : vG} {h : AH} {n : Nat} {q a m tn mb c p r : Nat} {t L N : Nat → Nat} (ho : h q = some (.inr (6, [.ref (q + 1), .int (nI c), .int (nI p), .int (nI r), .ref (q + 3), .ref (q + 4)]))) (hb : sbP G h (q + 1) a m t tn mb) (hL : h (q + 3) = some (.inl (gC G 1, 30, .inl (fun i => nI (L i))))) (hN : h (q + 4) = some (ar G 120 N)) (haq : a ≠ q ∧ a ≠ q + 3 ∧ a ≠ q + 4) (hm : m ≤ 142) (htn : tn ≤ 60) (ht : ∀ i, i < tn → 32 ≤ t i ∧ t i ≤ 126) (hp : p ≤ tn) (hr : r < 4) (hc30 : c < 30) : Mt l G mX5_readPart [.ref q, .int (nI 63)] (n) h 0 0 (fun r9 n2 h2 => r9 = some (.int (nI (bI ((txt t tn) p = 43 ∨ (txt t tn) p = 45)))) ∧ n2 = n ∧ h2 q = some (.inr (6, [.ref (q + 1), .int (nI c), .int (nI (pmP (txt t tn) p)), .int (nI (r + 1)), .ref (q + 3), .ref (q + 4)])) ∧ h2 (q + 4) = some (ar G 120 (va_up N (c * 4 + r) (bI ((txt t tn) p = 43)))) ∧ frP (fun z => z ≠ q ∧ z ≠ q + 4) h h2) := by
  refine Mt.of (by decide) (Nat.le_of_ble_eq_true rfl) rfl ?_
  refine v_ls (ls2 := [some (.ref q), some (.int (nI 63))]) rfl ?_
  refine v_iload_n dX5_readPart_0 rfl ?_
  refine v_lookup (off := 47) (tgt := 48) dX5_readPart_1 (by decide) (by decide) (by decide) ?_
  refine v_aload_n dX5_readPart_48 rfl ?_
  refine v_callV (st := []) dX5_readPart_49 (t_X5_readPlusOrMinus ho hb hL hN haq hm htn ht (by omega) (by omega) (by omega)) wX5_90 ho rfl rfl ⟨Nat.le_of_ble_eq_true rfl, Nat.le_of_ble_eq_true rfl⟩ (Nat.le_of_ble_eq_true rfl) ⟨Nat.le_of_ble_eq_true rfl, Nat.le_of_ble_eq_true rfl⟩ (fun r n2 h2 hq => ?_)
  obtain ⟨rfl, hn9, fa21, fa22, sa23⟩ := hq; replace hn9 := hn9.symm; subst hn9
  refine v_st (st2 := [.int (nI (bI ((txt t tn) p = 43 ∨ (txt t tn) p = 45)))]) rfl ?_
  have hb24 := sbP_fr hb (sa23 (q + 1) (by omega)) (sa23 (a) (by omega))
  have fa25 := (sa23 (q + 3) (by omega)).trans hL
  have fr26 : frP (fun z => z ≠ q ∧ z ≠ q + 4) _ _ := fun z (hz : z ≠ q ∧ z ≠ q + 4) => sa23 z (by omega)
  have bs27 : pmP (txt t tn) p ≤ tn := pm_le (by omega)
  refine v_zret (ty := .boolean) dX5_readPart_52 rfl (nI_z _ bI_lt) ?_ (Nat.le_of_ble_eq_true rfl) (Nat.le_of_ble_eq_true rfl)
  exact ⟨rfl, rfl, fa21, fa22, fr26⟩
set_option maxRecDepth 20000 in
set_option maxHeartbeats 4000000 in
theorem t_X5_readPartS {l : Launch} {G : vG} {h : AH} {n : Nat} {q a m tn mb c p r cc : Nat} {t L N : Nat → Nat} (ho : h q = some (.inr (6, [.ref (q + 1), .int (nI c), .int (nI p), .int (nI r), .ref (q + 3), .ref (q + 4)]))) (hb : sbP G h (q + 1) a m t tn mb) (hL : h (q + 3) = some (.inl (gC G 1, 30, .inl (fun i => nI (L i))))) (hN : h (q + 4) = some (ar G 120 N)) (haq : a ≠ q ∧ a ≠ q + 3 ∧ a ≠ q + 4) (hm : m ≤ 142) (htn : tn ≤ 60) (ht : ∀ i, i < tn → 32 ≤ t i ∧ t i ≤ 126) (hp : p ≤ tn) (hcc : 0 < cc) (hc2 : cc < 128) (hc3 : cc ≠ 49 ∧ cc ≠ 50 ∧ cc ≠ 63) : Mt l G mX5_readPart [.ref q, .int (nI cc)] (n) h 0 0 (fun r9 n2 h2 => r9 = some (.int (nI (bI ((txt t tn) p = cc)))) ∧ n2 = n ∧ h2 q = some (.inr (6, [.ref (q + 1), .int (nI c), .int (nI (sgP (txt t tn) cc p)), .int (nI r), .ref (q + 3), .ref (q + 4)])) ∧ offn 1 q h h2) := by
  refine Mt.of (by decide) (Nat.le_of_ble_eq_true rfl) rfl ?_
  refine v_ls (ls2 := [some (.ref q), some (.int (nI cc))]) rfl ?_
  refine v_iload_n dX5_readPart_0 rfl ?_
  refine v_lookup (off := 52) (tgt := 53) dX5_readPart_1 (by decide) (lk_sign _ (by omega) (by omega) (by omega) (by omega)) (by decide) ?_
  refine v_aload_n dX5_readPart_53 rfl ?_
  refine v_iload_n dX5_readPart_54 rfl ?_
  refine v_callV (st := []) dX5_readPart_55 (t_X5_readSign (cc := cc) ho hb hL hN haq hm htn ht (by omega) (by omega) (by omega)) wX5_44 ho rfl rfl ⟨Nat.le_of_ble_eq_true rfl, Nat.le_of_ble_eq_true rfl⟩ (Nat.le_of_ble_eq_true rfl) ⟨Nat.le_of_ble_eq_true rfl, Nat.le_of_ble_eq_true rfl⟩ (fun r n2 h2 hq => ?_)
  obtain ⟨rfl, hn9, fa21, sa22⟩ := hq; replace hn9 := hn9.symm; subst hn9
  refine v_st (st2 := [.int (nI (bI ((txt t tn) p = cc)))]) rfl ?_
  have hb23 := sbP_fr hb (sa22 (q + 1) (by omega)) (sa22 (a) (by omega))
  have fa24 := (sa22 (q + 3) (by omega)).trans hL
  have fa25 := (sa22 (q + 4) (by omega)).trans hN
  have fr26 := offn_in (k := 1) (q := q) offn_rf sa22 (by omega)
  have bs27 : sgP (txt t tn) cc p ≤ tn := by first | omega | exact sg_le (by omega) (by omega)
  refine v_zret (ty := .boolean) dX5_readPart_58 rfl (nI_z _ bI_lt) ?_ (Nat.le_of_ble_eq_true rfl) (Nat.le_of_ble_eq_true rfl)
  exact ⟨rfl, rfl, fa21, fr26⟩
theorem va_us {f : Nat → Nat} {j x : Nat} : va_up f j x j = x := if_pos rfl
theorem va_un {f : Nat → Nat} {j i x : Nat} (h : i ≠ j) : va_up f j x i = f i := if_neg h
set_option maxRecDepth 20000 in
set_option maxHeartbeats 4000000 in
theorem t_X5_readOrder {l : Launch} {G : vG} {h : AH} {n : Nat} {q a m tn mb c p r : Nat} {t L N : Nat → Nat} (ho : h q = some (.inr (6, [.ref (q + 1), .int (nI c), .int (nI p), .int (nI r), .ref (q + 3), .ref (q + 4)]))) (hb : sbP G h (q + 1) a m t tn mb) (hL : h (q + 3) = some (.inl (gC G 1, 30, .inl (fun i => nI (L i))))) (hN : h (q + 4) = some (ar G 120 N)) (haq : a ≠ q ∧ a ≠ q + 3 ∧ a ≠ q + 4) (hm : m ≤ 142) (htn : tn ≤ 60) (ht : ∀ i, i < tn → 32 ≤ t i ∧ t i ≤ 126) (hp : p ≤ tn) (hc30 : c < 30) : Mt l G mX5_readOrder [.ref q] (n) h 0 0 (fun r9 n2 h2 => ∃ (r2 : Nat) (N2 L2 : Nat → Nat), r9 = some (.int (nI (bI ((oS (txt t tn) (shI ((txt t tn) p)) p).1 = true)))) ∧ n2 = n ∧ h2 q = some (.inr (6, [.ref (q + 1), .int (nI c), .int (nI ((oS (txt t tn) (shI (txt t tn p)) p).2)), .int (nI r2), .ref (q + 3), .ref (q + 4)])) ∧ h2 (q + 3) = some (.inl (gC G 1, 30, .inl (fun i => nI (L2 i)))) ∧ h2 (q + 4) = some (ar G 120 N2) ∧ (∀ k, k < c → L2 k = L k) ∧ (∀ k, k < c * 4 → N2 k = N k) ∧ ((oS (txt t tn) (shI ((txt t tn) p)) p).1 = true → L2 c = (txt t tn) p ∧ ∀ j, j < oAr (shI ((txt t tn) p)) → N2 (c * 4 + j) = oV (txt t tn) (shI ((txt t tn) p)) p j) ∧ frP (fun z => z ≠ q ∧ z ≠ q + 3 ∧ z ≠ q + 4) h h2) := by
  refine Mt.of (by decide) (Nat.le_of_ble_eq_true rfl) rfl ?_
  refine v_ls (ls2 := [some (.ref q), none, none, none]) rfl ?_
  have hshl := shI_lt (t p)
  refine v_aload_n dX5_readOrder_0 rfl ?_
  refine fX5_22 (v := .int (nI p)) rfl dX5_readOrder_1 ho rfl ?_
  refine v_aload_n dX5_readOrder_4 rfl ?_
  refine fX5_12 (v := .ref (q + 1)) rfl dX5_readOrder_5 ho rfl ?_
  refine v_callV (st := [.int (nI p)]) dX5_readOrder_8 (t_SBlen hb) wX5_40 hb.1 rfl rfl ⟨Nat.le_of_ble_eq_true rfl, Nat.le_of_ble_eq_true rfl⟩ (Nat.le_of_ble_eq_true rfl) ⟨Nat.le_of_ble_eq_true rfl, Nat.le_of_ble_eq_true rfl⟩ (fun r n2 h2 hq => ?_)
  obtain ⟨rfl, hn9, rfl⟩ := hq; replace hn9 := hn9.symm; subst hn9
  refine v_st (st2 := [.int (nI tn), .int (nI p)]) rfl ?_
  refine n_icmp_lt (tgt := 16) (x := p) (y := tn) dX5_readOrder_11 (by decide) (by omega) (by omega) (fun c21 => ?_) (fun c21 => ?_)
  · refine v_aload_n dX5_readOrder_16 rfl ?_
    refine fX5_12 (v := .ref (q + 1)) rfl dX5_readOrder_17 ho rfl ?_
    refine v_aload_n dX5_readOrder_20 rfl ?_
    refine fX5_22 (v := .int (nI p)) rfl dX5_readOrder_21 ho rfl ?_
    refine v_callV (st := []) dX5_readOrder_24 (t_J4_charAt_5068e (i := p) hb (by omega) (by omega) (by have h9 := ht p (by omega); omega)) wX5_48 hb.1 rfl rfl ⟨Nat.le_of_ble_eq_true rfl, Nat.le_of_ble_eq_true rfl⟩ (Nat.le_of_ble_eq_true rfl) ⟨Nat.le_of_ble_eq_true rfl, Nat.le_of_ble_eq_true rfl⟩ (fun r n2 h2 hq => ?_)
    obtain ⟨rfl, hn9, rfl⟩ := hq; replace hn9 := hn9.symm; subst hn9
    have b22 := ht p (by omega)
    refine v_st (st2 := [.int (nI (t p))]) rfl ?_
    refine v_istore_n dX5_readOrder_27 rfl (by decide) ?_
    refine v_ls (ls2 := [some (.ref q), some (.int (nI (t p))), none, none]) rfl ?_
    refine v_iload_n dX5_readOrder_28 rfl ?_
    refine v_callS (st := []) dX5_readOrder_29 (t_X5_shapeOf (c := t p) (by omega)) wX5_52 rfl ⟨Nat.le_of_ble_eq_true rfl, Nat.le_of_ble_eq_true rfl⟩ (Nat.le_of_ble_eq_true rfl) ⟨Nat.le_of_ble_eq_true rfl, Nat.le_of_ble_eq_true rfl⟩ (fun r n2 h2 hq => ?_)
    obtain ⟨rfl, hn9, rfl⟩ := hq; replace hn9 := hn9.symm; subst hn9
    refine v_st (st2 := [.ref (gA G 0 (shI (t p)))]) rfl ?_
    refine v_astore_n dX5_readOrder_32 rfl (by decide) ?_
    refine v_ls (ls2 := [some (.ref q), some (.int (nI (t p))), some (.ref (gA G 0 (shI (t p)))), none]) rfl ?_
    have hTp : txt t tn p = t p := if_pos (by omega)
    rcases shI_cs (t p) with ⟨hk, hsh⟩ | ⟨hk, hsh⟩ | ⟨hk, hsh⟩ | ⟨hk, hsh⟩ | ⟨hk, hsh⟩ | ⟨hk, hsh⟩ | ⟨hk, hsh⟩ | ⟨hk, hsh⟩ | ⟨hk, hsh⟩ | hsh
    · have hT : txt t tn p = 102 := by rw [hTp]; exact hk
      refine v_ls (ls2 := [some (.ref q), some (.int (nI (t p))), some (.ref (gA G 0 0)), none]) (by rw [hsh]) ?_
      refine v_aload_n dX5_readOrder_33 rfl ?_
      refine v_callT (st := []) (i := 0) dX5_readOrder_34 (t_J0_isEmpty_aae02 (i := 0) (by omega)) wX5_56 (by omega) rfl rfl ⟨Nat.le_of_ble_eq_true rfl, Nat.le_of_ble_eq_true rfl⟩ (Nat.le_of_ble_eq_true rfl) ⟨Nat.le_of_ble_eq_true rfl, Nat.le_of_ble_eq_true rfl⟩ (fun r n2 h2 hq => ?_)
      obtain ⟨rfl, hn9, rfl⟩ := hq; replace hn9 := hn9.symm; subst hn9
      refine v_st (st2 := [.int (nI 0)]) rfl ?_
      refine n_if_eq (tgt := 42) (x := 0) dX5_readOrder_37 (by decide) (by decide) (fun _ => ?_) (fun c => absurd c (by decide))
      refine v_aload_n dX5_readOrder_42 rfl ?_
      refine fX5_28 (v := .ref (q + 3)) rfl dX5_readOrder_43 ho rfl ?_
      refine v_aload_n dX5_readOrder_46 rfl ?_
      refine fX5_18 (v := .int (nI c)) rfl dX5_readOrder_47 ho rfl ?_
      refine v_iload_n dX5_readOrder_50 rfl ?_
      refine n_castN (f := L) (j := c) (v := t p) dX5_readOrder_51 hL (by omega) (by decide) (by omega) ?_
      refine nw (fun h1 f1 s1 => ?_)
      have fa23 : h1 (q + 3) = some (.inl (gC G 1, 30, .inl (fun i => nI (va_up L c (t p) i)))) := f1
      have sa23 := s1
      clear f1 s1
      have fa24 := (sa23 (q) (by omega)).trans ho
      have hb25 := sbP_fr hb (sa23 (q + 1) (by omega)) (sa23 (a) (by omega))
      have fa26 := (sa23 (q + 4) (by omega)).trans hN
      have fr27 : frP (fun z => z ≠ q ∧ z ≠ q + 3 ∧ z ≠ q + 4) _ _ := fun z (hz : z ≠ q ∧ z ≠ q + 3 ∧ z ≠ q + 4) => sa23 z (by omega)
      refine v_aload_n dX5_readOrder_52 rfl ?_
      refine v_iconst (v := nI 0) dX5_readOrder_53 (by decide) ?_
      refine pX5_25 rfl dX5_readOrder_54 fa24 (Nat.le_of_ble_eq_true rfl) ?_
      refine nw (fun h1 f1 s1 => ?_)
      have fa28 : h1 (q) = some (.inr (6, [.ref (q + 1), .int (nI c), .int (nI p), .int (nI 0), .ref (q + 3), .ref (q + 4)])) := f1
      have sa28 := s1
      clear f1 s1
      have hb29 := sbP_fr hb25 (sa28 (q + 1) (by omega)) (sa28 (a) (by omega))
      have fa30 := (sa28 (q + 3) (by omega)).trans fa23
      have fa31 := (sa28 (q + 4) (by omega)).trans fa26
      have fr32 : frP (fun z => z ≠ q ∧ z ≠ q + 3 ∧ z ≠ q + 4) _ _ := fun z (hz : z ≠ q ∧ z ≠ q + 3 ∧ z ≠ q + 4) => (sa28 z (by omega)).trans (fr27 z hz)
      refine v_iconst (v := nI 0) dX5_readOrder_57 (by decide) ?_
      refine v_istore_n dX5_readOrder_58 rfl (by decide) ?_
      refine v_ls (ls2 := [some (.ref q), some (.int (nI (t p))), some (.ref (gA G 0 0)), some (.int (nI 0))]) rfl ?_
      refine v_iload_n dX5_readOrder_59 rfl ?_
      refine v_aload_n dX5_readOrder_60 rfl ?_
      refine v_callT (st := [.int (nI 0)]) (i := 0) dX5_readOrder_61 (t_J0_length_8abf5 (i := 0) (by omega)) wX5_61 (by omega) rfl rfl ⟨Nat.le_of_ble_eq_true rfl, Nat.le_of_ble_eq_true rfl⟩ (Nat.le_of_ble_eq_true rfl) ⟨Nat.le_of_ble_eq_true rfl, Nat.le_of_ble_eq_true rfl⟩ (fun r n2 h2 hq => ?_)
      obtain ⟨rfl, hn9, rfl⟩ := hq; replace hn9 := hn9.symm; subst hn9
      refine v_st (st2 := [.int (nI 2), .int (nI 0)]) rfl ?_
      refine n_icmp_ge (tgt := 87) (x := 0) (y := 2) dX5_readOrder_64 (by decide) (by decide) (by decide) (fun c => absurd c (by decide)) (fun _ => ?_)
      refine v_aload_n dX5_readOrder_67 rfl ?_
      refine v_aload_n dX5_readOrder_68 rfl ?_
      refine v_iload_n dX5_readOrder_69 rfl ?_
      refine v_callT (st := [.ref q]) (i := 0) dX5_readOrder_70 (t_J0_charAt_5068e (i := 0) (j := 0) (by decide) (by decide)) wX5_62 (by omega) rfl rfl ⟨Nat.le_of_ble_eq_true rfl, Nat.le_of_ble_eq_true rfl⟩ (Nat.le_of_ble_eq_true rfl) ⟨Nat.le_of_ble_eq_true rfl, Nat.le_of_ble_eq_true rfl⟩ (fun r n2 h2 hq => ?_)
      obtain ⟨rfl, hn9, rfl⟩ := hq; replace hn9 := hn9.symm; subst hn9
      refine v_st (st2 := [.int (nI 102), .ref q]) rfl ?_
      refine v_callV (st := []) dX5_readOrder_73 (t_X5_readPartS (cc := 102) fa28 hb29 fa30 fa31 haq hm htn ht (by omega) (by omega) (by omega) (by omega)) wX5_63 fa28 rfl rfl ⟨Nat.le_of_ble_eq_true rfl, Nat.le_of_ble_eq_true rfl⟩ (Nat.le_of_ble_eq_true rfl) ⟨Nat.le_of_ble_eq_true rfl, Nat.le_of_ble_eq_true rfl⟩ (fun r n2 h2 hq => ?_)
      obtain ⟨rfl, hn9, fa33, sa34⟩ := hq; replace hn9 := hn9.symm; subst hn9
      refine v_st (st2 := [.int (nI 1)]) (by rw [bI_t hT]; rfl) ?_
      rw [show sgP (txt t tn) 102 p = p + 1 from if_pos hT] at fa33
      have hb35 := sbP_fr hb29 (sa34 (q + 1) (by omega)) (sa34 (a) (by omega))
      have fa36 := (sa34 (q + 3) (by omega)).trans fa30
      have fa37 := (sa34 (q + 4) (by omega)).trans fa31
      have fr38 : frP (fun z => z ≠ q ∧ z ≠ q + 3 ∧ z ≠ q + 4) _ _ := fun z (hz : z ≠ q ∧ z ≠ q + 3 ∧ z ≠ q + 4) => (sa34 z (by omega)).trans (fr32 z hz)
      have bs39 : p + 1 ≤ tn := by first | omega | exact sg_le (by omega) (by omega)
      refine n_if_ne (tgt := 81) (x := 1) dX5_readOrder_76 (by decide) (by decide) (fun _ => ?_) (fun c => absurd c (by decide))
      refine n_iinc (k := 1) (x := 0) dX5_readOrder_81 (by decide) rfl rfl (by decide) ?_
      refine v_ls (ls2 := [some (.ref q), some (.int (nI (t p))), some (.ref (gA G 0 0)), some (.int (nI 1))]) rfl ?_
      refine v_goto (tgt := 59) dX5_readOrder_84 (by decide) ?_
      refine v_iload_n dX5_readOrder_59 rfl ?_
      refine v_aload_n dX5_readOrder_60 rfl ?_
      refine v_callT (st := [.int (nI 1)]) (i := 0) dX5_readOrder_61 (t_J0_length_8abf5 (i := 0) (by omega)) wX5_61 (by omega) rfl rfl ⟨Nat.le_of_ble_eq_true rfl, Nat.le_of_ble_eq_true rfl⟩ (Nat.le_of_ble_eq_true rfl) ⟨Nat.le_of_ble_eq_true rfl, Nat.le_of_ble_eq_true rfl⟩ (fun r n2 h2 hq => ?_)
      obtain ⟨rfl, hn9, rfl⟩ := hq; replace hn9 := hn9.symm; subst hn9
      refine v_st (st2 := [.int (nI 2), .int (nI 1)]) rfl ?_
      refine n_icmp_ge (tgt := 87) (x := 1) (y := 2) dX5_readOrder_64 (by decide) (by decide) (by decide) (fun c => absurd c (by decide)) (fun _ => ?_)
      refine v_aload_n dX5_readOrder_67 rfl ?_
      refine v_aload_n dX5_readOrder_68 rfl ?_
      refine v_iload_n dX5_readOrder_69 rfl ?_
      refine v_callT (st := [.ref q]) (i := 0) dX5_readOrder_70 (t_J0_charAt_5068e (i := 0) (j := 1) (by decide) (by decide)) wX5_62 (by omega) rfl rfl ⟨Nat.le_of_ble_eq_true rfl, Nat.le_of_ble_eq_true rfl⟩ (Nat.le_of_ble_eq_true rfl) ⟨Nat.le_of_ble_eq_true rfl, Nat.le_of_ble_eq_true rfl⟩ (fun r n2 h2 hq => ?_)
      obtain ⟨rfl, hn9, rfl⟩ := hq; replace hn9 := hn9.symm; subst hn9
      refine v_st (st2 := [.int (nI 49), .ref q]) rfl ?_
      refine v_callV (st := []) dX5_readOrder_73 (t_X5_readPart49 fa33 hb35 fa36 fa37 haq hm htn ht (by omega) (by omega) (by omega)) wX5_63 fa33 rfl rfl ⟨Nat.le_of_ble_eq_true rfl, Nat.le_of_ble_eq_true rfl⟩ (Nat.le_of_ble_eq_true rfl) ⟨Nat.le_of_ble_eq_true rfl, Nat.le_of_ble_eq_true rfl⟩ (fun r n2 h2 hq => ?_)
      obtain ⟨rfl, hn9, fa40, fa41, sa42⟩ := hq; replace hn9 := hn9.symm; subst hn9
      refine v_st (st2 := [.int (nI (bI (0 < dc (txt t tn) 1 (p + 1))))]) rfl ?_
      have hb43 := sbP_fr hb35 (sa42 (q + 1) (by omega)) (sa42 (a) (by omega))
      have fa44 := (sa42 (q + 3) (by omega)).trans fa36
      have fr45 : frP (fun z => z ≠ q ∧ z ≠ q + 3 ∧ z ≠ q + 4) _ _ := fun z (hz : z ≠ q ∧ z ≠ q + 3 ∧ z ≠ q + 4) => (sa42 z (by omega)).trans (fr38 z hz)
      have bs46 : p + 1 + dc (txt t tn) 1 (p + 1) ≤ tn := dc_le (by omega)
      refine n_ifb_ne (tgt := 81) (p := 0 < dc (txt t tn) 1 (p + 1)) dX5_readOrder_76 (by decide) (fun c47 => ?_) (fun c47 => ?_)
      · refine n_iinc (k := 1) (x := 1) dX5_readOrder_81 (by decide) rfl rfl (by decide) ?_
        refine v_ls (ls2 := [some (.ref q), some (.int (nI (t p))), some (.ref (gA G 0 0)), some (.int (nI 2))]) rfl ?_
        refine v_goto (tgt := 59) dX5_readOrder_84 (by decide) ?_
        refine v_iload_n dX5_readOrder_59 rfl ?_
        refine v_aload_n dX5_readOrder_60 rfl ?_
        refine v_callT (st := [.int (nI 2)]) (i := 0) dX5_readOrder_61 (t_J0_length_8abf5 (i := 0) (by omega)) wX5_61 (by omega) rfl rfl ⟨Nat.le_of_ble_eq_true rfl, Nat.le_of_ble_eq_true rfl⟩ (Nat.le_of_ble_eq_true rfl) ⟨Nat.le_of_ble_eq_true rfl, Nat.le_of_ble_eq_true rfl⟩ (fun r n2 h2 hq => ?_)
        obtain ⟨rfl, hn9, rfl⟩ := hq; replace hn9 := hn9.symm; subst hn9
        refine v_st (st2 := [.int (nI 2), .int (nI 2)]) rfl ?_
        refine n_icmp_ge (tgt := 87) (x := 2) (y := 2) dX5_readOrder_64 (by decide) (by decide) (by decide) (fun _ => ?_) (fun c => absurd c (by decide))
        refine v_iconst (v := nI 1) dX5_readOrder_87 (by decide) ?_
        refine v_zret (ty := .boolean) dX5_readOrder_88 rfl (by decide) ?_ (Nat.le_of_ble_eq_true rfl) (Nat.le_of_ble_eq_true rfl)
        have e8 : shI (txt t tn p) = 0 := by rw [hTp]; exact hsh
        have e9 : oS (txt t tn) 0 p = (true, p + 1 + dc (txt t tn) 1 (p + 1)) := by simp only [oS, sN, sS, sPM, decide_eq_true c47, if_true, if_false, reduceIte, Bool.false_eq_true]
        refine ⟨0 + 1, va_up N (c * 4 + 0) (dv (txt t tn) 0 1 (p + 1)), va_up L c (t p), by rw [e8, e9]; rfl, rfl, by rw [e8, e9]; exact fa40, fa44, fa41, fun k hk9 => va_un (by omega), fun k hk9 => ?_, fun z => ?_, fr45⟩
        · rw [va_un (by omega)]
        · rw [e8]; refine ⟨by rw [hTp]; exact va_us, fun j hj => ?_⟩
          obtain rfl := (show j = 0 by have : j < 1 := hj; omega)
          · exact va_us
      · refine v_iconst (v := nI 0) dX5_readOrder_79 (by decide) ?_
        refine v_zret (ty := .boolean) dX5_readOrder_80 rfl (by decide) ?_ (Nat.le_of_ble_eq_true rfl) (Nat.le_of_ble_eq_true rfl)
        have e8 : shI (txt t tn p) = 0 := by rw [hTp]; exact hsh
        have e9 : oS (txt t tn) 0 p = (false, p + 1 + dc (txt t tn) 1 (p + 1)) := by simp only [oS, sN, sS, sPM, decide_eq_false c47, if_true, if_false, reduceIte, Bool.false_eq_true]
        refine ⟨0 + 1, va_up N (c * 4 + 0) (dv (txt t tn) 0 1 (p + 1)), va_up L c (t p), by rw [e8, e9]; rfl, rfl, by rw [e8, e9]; exact fa40, fa44, fa41, fun k hk9 => va_un (by omega), fun k hk9 => ?_, fun z => ?_, fr45⟩
        · rw [va_un (by omega)]
        · rw [e8, e9] at z; exact absurd z Bool.false_ne_true
    · have hT : txt t tn p = 106 := by rw [hTp]; exact hk
      refine v_ls (ls2 := [some (.ref q), some (.int (nI (t p))), some (.ref (gA G 0 1)), none]) (by rw [hsh]) ?_
      refine v_aload_n dX5_readOrder_33 rfl ?_
      refine v_callT (st := []) (i := 1) dX5_readOrder_34 (t_J0_isEmpty_aae02 (i := 1) (by omega)) wX5_56 (by omega) rfl rfl ⟨Nat.le_of_ble_eq_true rfl, Nat.le_of_ble_eq_true rfl⟩ (Nat.le_of_ble_eq_true rfl) ⟨Nat.le_of_ble_eq_true rfl, Nat.le_of_ble_eq_true rfl⟩ (fun r n2 h2 hq => ?_)
      obtain ⟨rfl, hn9, rfl⟩ := hq; replace hn9 := hn9.symm; subst hn9
      refine v_st (st2 := [.int (nI 0)]) rfl ?_
      refine n_if_eq (tgt := 42) (x := 0) dX5_readOrder_37 (by decide) (by decide) (fun _ => ?_) (fun c => absurd c (by decide))
      refine v_aload_n dX5_readOrder_42 rfl ?_
      refine fX5_28 (v := .ref (q + 3)) rfl dX5_readOrder_43 ho rfl ?_
      refine v_aload_n dX5_readOrder_46 rfl ?_
      refine fX5_18 (v := .int (nI c)) rfl dX5_readOrder_47 ho rfl ?_
      refine v_iload_n dX5_readOrder_50 rfl ?_
      refine n_castN (f := L) (j := c) (v := t p) dX5_readOrder_51 hL (by omega) (by decide) (by omega) ?_
      refine nw (fun h1 f1 s1 => ?_)
      have fa48 : h1 (q + 3) = some (.inl (gC G 1, 30, .inl (fun i => nI (va_up L c (t p) i)))) := f1
      have sa48 := s1
      clear f1 s1
      have fa49 := (sa48 (q) (by omega)).trans ho
      have hb50 := sbP_fr hb (sa48 (q + 1) (by omega)) (sa48 (a) (by omega))
      have fa51 := (sa48 (q + 4) (by omega)).trans hN
      have fr52 : frP (fun z => z ≠ q ∧ z ≠ q + 3 ∧ z ≠ q + 4) _ _ := fun z (hz : z ≠ q ∧ z ≠ q + 3 ∧ z ≠ q + 4) => sa48 z (by omega)
      refine v_aload_n dX5_readOrder_52 rfl ?_
      refine v_iconst (v := nI 0) dX5_readOrder_53 (by decide) ?_
      refine pX5_25 rfl dX5_readOrder_54 fa49 (Nat.le_of_ble_eq_true rfl) ?_
      refine nw (fun h1 f1 s1 => ?_)
      have fa53 : h1 (q) = some (.inr (6, [.ref (q + 1), .int (nI c), .int (nI p), .int (nI 0), .ref (q + 3), .ref (q + 4)])) := f1
      have sa53 := s1
      clear f1 s1
      have hb54 := sbP_fr hb50 (sa53 (q + 1) (by omega)) (sa53 (a) (by omega))
      have fa55 := (sa53 (q + 3) (by omega)).trans fa48
      have fa56 := (sa53 (q + 4) (by omega)).trans fa51
      have fr57 : frP (fun z => z ≠ q ∧ z ≠ q + 3 ∧ z ≠ q + 4) _ _ := fun z (hz : z ≠ q ∧ z ≠ q + 3 ∧ z ≠ q + 4) => (sa53 z (by omega)).trans (fr52 z hz)
      refine v_iconst (v := nI 0) dX5_readOrder_57 (by decide) ?_
      refine v_istore_n dX5_readOrder_58 rfl (by decide) ?_
      refine v_ls (ls2 := [some (.ref q), some (.int (nI (t p))), some (.ref (gA G 0 1)), some (.int (nI 0))]) rfl ?_
      refine v_iload_n dX5_readOrder_59 rfl ?_
      refine v_aload_n dX5_readOrder_60 rfl ?_
      refine v_callT (st := [.int (nI 0)]) (i := 1) dX5_readOrder_61 (t_J0_length_8abf5 (i := 1) (by omega)) wX5_61 (by omega) rfl rfl ⟨Nat.le_of_ble_eq_true rfl, Nat.le_of_ble_eq_true rfl⟩ (Nat.le_of_ble_eq_true rfl) ⟨Nat.le_of_ble_eq_true rfl, Nat.le_of_ble_eq_true rfl⟩ (fun r n2 h2 hq => ?_)
      obtain ⟨rfl, hn9, rfl⟩ := hq; replace hn9 := hn9.symm; subst hn9
      refine v_st (st2 := [.int (nI 2), .int (nI 0)]) rfl ?_
      refine n_icmp_ge (tgt := 87) (x := 0) (y := 2) dX5_readOrder_64 (by decide) (by decide) (by decide) (fun c => absurd c (by decide)) (fun _ => ?_)
      refine v_aload_n dX5_readOrder_67 rfl ?_
      refine v_aload_n dX5_readOrder_68 rfl ?_
      refine v_iload_n dX5_readOrder_69 rfl ?_
      refine v_callT (st := [.ref q]) (i := 1) dX5_readOrder_70 (t_J0_charAt_5068e (i := 1) (j := 0) (by decide) (by decide)) wX5_62 (by omega) rfl rfl ⟨Nat.le_of_ble_eq_true rfl, Nat.le_of_ble_eq_true rfl⟩ (Nat.le_of_ble_eq_true rfl) ⟨Nat.le_of_ble_eq_true rfl, Nat.le_of_ble_eq_true rfl⟩ (fun r n2 h2 hq => ?_)
      obtain ⟨rfl, hn9, rfl⟩ := hq; replace hn9 := hn9.symm; subst hn9
      refine v_st (st2 := [.int (nI 106), .ref q]) rfl ?_
      refine v_callV (st := []) dX5_readOrder_73 (t_X5_readPartS (cc := 106) fa53 hb54 fa55 fa56 haq hm htn ht (by omega) (by omega) (by omega) (by omega)) wX5_63 fa53 rfl rfl ⟨Nat.le_of_ble_eq_true rfl, Nat.le_of_ble_eq_true rfl⟩ (Nat.le_of_ble_eq_true rfl) ⟨Nat.le_of_ble_eq_true rfl, Nat.le_of_ble_eq_true rfl⟩ (fun r n2 h2 hq => ?_)
      obtain ⟨rfl, hn9, fa58, sa59⟩ := hq; replace hn9 := hn9.symm; subst hn9
      refine v_st (st2 := [.int (nI 1)]) (by rw [bI_t hT]; rfl) ?_
      rw [show sgP (txt t tn) 106 p = p + 1 from if_pos hT] at fa58
      have hb60 := sbP_fr hb54 (sa59 (q + 1) (by omega)) (sa59 (a) (by omega))
      have fa61 := (sa59 (q + 3) (by omega)).trans fa55
      have fa62 := (sa59 (q + 4) (by omega)).trans fa56
      have fr63 : frP (fun z => z ≠ q ∧ z ≠ q + 3 ∧ z ≠ q + 4) _ _ := fun z (hz : z ≠ q ∧ z ≠ q + 3 ∧ z ≠ q + 4) => (sa59 z (by omega)).trans (fr57 z hz)
      have bs64 : p + 1 ≤ tn := by first | omega | exact sg_le (by omega) (by omega)
      refine n_if_ne (tgt := 81) (x := 1) dX5_readOrder_76 (by decide) (by decide) (fun _ => ?_) (fun c => absurd c (by decide))
      refine n_iinc (k := 1) (x := 0) dX5_readOrder_81 (by decide) rfl rfl (by decide) ?_
      refine v_ls (ls2 := [some (.ref q), some (.int (nI (t p))), some (.ref (gA G 0 1)), some (.int (nI 1))]) rfl ?_
      refine v_goto (tgt := 59) dX5_readOrder_84 (by decide) ?_
      refine v_iload_n dX5_readOrder_59 rfl ?_
      refine v_aload_n dX5_readOrder_60 rfl ?_
      refine v_callT (st := [.int (nI 1)]) (i := 1) dX5_readOrder_61 (t_J0_length_8abf5 (i := 1) (by omega)) wX5_61 (by omega) rfl rfl ⟨Nat.le_of_ble_eq_true rfl, Nat.le_of_ble_eq_true rfl⟩ (Nat.le_of_ble_eq_true rfl) ⟨Nat.le_of_ble_eq_true rfl, Nat.le_of_ble_eq_true rfl⟩ (fun r n2 h2 hq => ?_)
      obtain ⟨rfl, hn9, rfl⟩ := hq; replace hn9 := hn9.symm; subst hn9
      refine v_st (st2 := [.int (nI 2), .int (nI 1)]) rfl ?_
      refine n_icmp_ge (tgt := 87) (x := 1) (y := 2) dX5_readOrder_64 (by decide) (by decide) (by decide) (fun c => absurd c (by decide)) (fun _ => ?_)
      refine v_aload_n dX5_readOrder_67 rfl ?_
      refine v_aload_n dX5_readOrder_68 rfl ?_
      refine v_iload_n dX5_readOrder_69 rfl ?_
      refine v_callT (st := [.ref q]) (i := 1) dX5_readOrder_70 (t_J0_charAt_5068e (i := 1) (j := 1) (by decide) (by decide)) wX5_62 (by omega) rfl rfl ⟨Nat.le_of_ble_eq_true rfl, Nat.le_of_ble_eq_true rfl⟩ (Nat.le_of_ble_eq_true rfl) ⟨Nat.le_of_ble_eq_true rfl, Nat.le_of_ble_eq_true rfl⟩ (fun r n2 h2 hq => ?_)
      obtain ⟨rfl, hn9, rfl⟩ := hq; replace hn9 := hn9.symm; subst hn9
      refine v_st (st2 := [.int (nI 49), .ref q]) rfl ?_
      refine v_callV (st := []) dX5_readOrder_73 (t_X5_readPart49 fa58 hb60 fa61 fa62 haq hm htn ht (by omega) (by omega) (by omega)) wX5_63 fa58 rfl rfl ⟨Nat.le_of_ble_eq_true rfl, Nat.le_of_ble_eq_true rfl⟩ (Nat.le_of_ble_eq_true rfl) ⟨Nat.le_of_ble_eq_true rfl, Nat.le_of_ble_eq_true rfl⟩ (fun r n2 h2 hq => ?_)
      obtain ⟨rfl, hn9, fa65, fa66, sa67⟩ := hq; replace hn9 := hn9.symm; subst hn9
      refine v_st (st2 := [.int (nI (bI (0 < dc (txt t tn) 1 (p + 1))))]) rfl ?_
      have hb68 := sbP_fr hb60 (sa67 (q + 1) (by omega)) (sa67 (a) (by omega))
      have fa69 := (sa67 (q + 3) (by omega)).trans fa61
      have fr70 : frP (fun z => z ≠ q ∧ z ≠ q + 3 ∧ z ≠ q + 4) _ _ := fun z (hz : z ≠ q ∧ z ≠ q + 3 ∧ z ≠ q + 4) => (sa67 z (by omega)).trans (fr63 z hz)
      have bs71 : p + 1 + dc (txt t tn) 1 (p + 1) ≤ tn := dc_le (by omega)
      refine n_ifb_ne (tgt := 81) (p := 0 < dc (txt t tn) 1 (p + 1)) dX5_readOrder_76 (by decide) (fun c72 => ?_) (fun c72 => ?_)
      · refine n_iinc (k := 1) (x := 1) dX5_readOrder_81 (by decide) rfl rfl (by decide) ?_
        refine v_ls (ls2 := [some (.ref q), some (.int (nI (t p))), some (.ref (gA G 0 1)), some (.int (nI 2))]) rfl ?_
        refine v_goto (tgt := 59) dX5_readOrder_84 (by decide) ?_
        refine v_iload_n dX5_readOrder_59 rfl ?_
        refine v_aload_n dX5_readOrder_60 rfl ?_
        refine v_callT (st := [.int (nI 2)]) (i := 1) dX5_readOrder_61 (t_J0_length_8abf5 (i := 1) (by omega)) wX5_61 (by omega) rfl rfl ⟨Nat.le_of_ble_eq_true rfl, Nat.le_of_ble_eq_true rfl⟩ (Nat.le_of_ble_eq_true rfl) ⟨Nat.le_of_ble_eq_true rfl, Nat.le_of_ble_eq_true rfl⟩ (fun r n2 h2 hq => ?_)
        obtain ⟨rfl, hn9, rfl⟩ := hq; replace hn9 := hn9.symm; subst hn9
        refine v_st (st2 := [.int (nI 2), .int (nI 2)]) rfl ?_
        refine n_icmp_ge (tgt := 87) (x := 2) (y := 2) dX5_readOrder_64 (by decide) (by decide) (by decide) (fun _ => ?_) (fun c => absurd c (by decide))
        refine v_iconst (v := nI 1) dX5_readOrder_87 (by decide) ?_
        refine v_zret (ty := .boolean) dX5_readOrder_88 rfl (by decide) ?_ (Nat.le_of_ble_eq_true rfl) (Nat.le_of_ble_eq_true rfl)
        have e8 : shI (txt t tn p) = 1 := by rw [hTp]; exact hsh
        have e9 : oS (txt t tn) 1 p = (true, p + 1 + dc (txt t tn) 1 (p + 1)) := by simp only [oS, sN, sS, sPM, decide_eq_true c72, if_true, if_false, reduceIte, Bool.false_eq_true]
        refine ⟨0 + 1, va_up N (c * 4 + 0) (dv (txt t tn) 0 1 (p + 1)), va_up L c (t p), by rw [e8, e9]; rfl, rfl, by rw [e8, e9]; exact fa65, fa69, fa66, fun k hk9 => va_un (by omega), fun k hk9 => ?_, fun z => ?_, fr70⟩
        · rw [va_un (by omega)]
        · rw [e8]; refine ⟨by rw [hTp]; exact va_us, fun j hj => ?_⟩
          obtain rfl := (show j = 0 by have : j < 1 := hj; omega)
          · exact va_us
      · refine v_iconst (v := nI 0) dX5_readOrder_79 (by decide) ?_
        refine v_zret (ty := .boolean) dX5_readOrder_80 rfl (by decide) ?_ (Nat.le_of_ble_eq_true rfl) (Nat.le_of_ble_eq_true rfl)
        have e8 : shI (txt t tn p) = 1 := by rw [hTp]; exact hsh
        have e9 : oS (txt t tn) 1 p = (false, p + 1 + dc (txt t tn) 1 (p + 1)) := by simp only [oS, sN, sS, sPM, decide_eq_false c72, if_true, if_false, reduceIte, Bool.false_eq_true]
        refine ⟨0 + 1, va_up N (c * 4 + 0) (dv (txt t tn) 0 1 (p + 1)), va_up L c (t p), by rw [e8, e9]; rfl, rfl, by rw [e8, e9]; exact fa65, fa69, fa66, fun k hk9 => va_un (by omega), fun k hk9 => ?_, fun z => ?_, fr70⟩
        · rw [va_un (by omega)]
        · rw [e8, e9] at z; exact absurd z Bool.false_ne_true
    · have hT : txt t tn p = 112 := by rw [hTp]; exact hk
      refine v_ls (ls2 := [some (.ref q), some (.int (nI (t p))), some (.ref (gA G 0 2)), none]) (by rw [hsh]) ?_
      refine v_aload_n dX5_readOrder_33 rfl ?_
      refine v_callT (st := []) (i := 2) dX5_readOrder_34 (t_J0_isEmpty_aae02 (i := 2) (by omega)) wX5_56 (by omega) rfl rfl ⟨Nat.le_of_ble_eq_true rfl, Nat.le_of_ble_eq_true rfl⟩ (Nat.le_of_ble_eq_true rfl) ⟨Nat.le_of_ble_eq_true rfl, Nat.le_of_ble_eq_true rfl⟩ (fun r n2 h2 hq => ?_)
      obtain ⟨rfl, hn9, rfl⟩ := hq; replace hn9 := hn9.symm; subst hn9
      refine v_st (st2 := [.int (nI 0)]) rfl ?_
      refine n_if_eq (tgt := 42) (x := 0) dX5_readOrder_37 (by decide) (by decide) (fun _ => ?_) (fun c => absurd c (by decide))
      refine v_aload_n dX5_readOrder_42 rfl ?_
      refine fX5_28 (v := .ref (q + 3)) rfl dX5_readOrder_43 ho rfl ?_
      refine v_aload_n dX5_readOrder_46 rfl ?_
      refine fX5_18 (v := .int (nI c)) rfl dX5_readOrder_47 ho rfl ?_
      refine v_iload_n dX5_readOrder_50 rfl ?_
      refine n_castN (f := L) (j := c) (v := t p) dX5_readOrder_51 hL (by omega) (by decide) (by omega) ?_
      refine nw (fun h1 f1 s1 => ?_)
      have fa73 : h1 (q + 3) = some (.inl (gC G 1, 30, .inl (fun i => nI (va_up L c (t p) i)))) := f1
      have sa73 := s1
      clear f1 s1
      have fa74 := (sa73 (q) (by omega)).trans ho
      have hb75 := sbP_fr hb (sa73 (q + 1) (by omega)) (sa73 (a) (by omega))
      have fa76 := (sa73 (q + 4) (by omega)).trans hN
      have fr77 : frP (fun z => z ≠ q ∧ z ≠ q + 3 ∧ z ≠ q + 4) _ _ := fun z (hz : z ≠ q ∧ z ≠ q + 3 ∧ z ≠ q + 4) => sa73 z (by omega)
      refine v_aload_n dX5_readOrder_52 rfl ?_
      refine v_iconst (v := nI 0) dX5_readOrder_53 (by decide) ?_
      refine pX5_25 rfl dX5_readOrder_54 fa74 (Nat.le_of_ble_eq_true rfl) ?_
      refine nw (fun h1 f1 s1 => ?_)
      have fa78 : h1 (q) = some (.inr (6, [.ref (q + 1), .int (nI c), .int (nI p), .int (nI 0), .ref (q + 3), .ref (q + 4)])) := f1
      have sa78 := s1
      clear f1 s1
      have hb79 := sbP_fr hb75 (sa78 (q + 1) (by omega)) (sa78 (a) (by omega))
      have fa80 := (sa78 (q + 3) (by omega)).trans fa73
      have fa81 := (sa78 (q + 4) (by omega)).trans fa76
      have fr82 : frP (fun z => z ≠ q ∧ z ≠ q + 3 ∧ z ≠ q + 4) _ _ := fun z (hz : z ≠ q ∧ z ≠ q + 3 ∧ z ≠ q + 4) => (sa78 z (by omega)).trans (fr77 z hz)
      refine v_iconst (v := nI 0) dX5_readOrder_57 (by decide) ?_
      refine v_istore_n dX5_readOrder_58 rfl (by decide) ?_
      refine v_ls (ls2 := [some (.ref q), some (.int (nI (t p))), some (.ref (gA G 0 2)), some (.int (nI 0))]) rfl ?_
      refine v_iload_n dX5_readOrder_59 rfl ?_
      refine v_aload_n dX5_readOrder_60 rfl ?_
      refine v_callT (st := [.int (nI 0)]) (i := 2) dX5_readOrder_61 (t_J0_length_8abf5 (i := 2) (by omega)) wX5_61 (by omega) rfl rfl ⟨Nat.le_of_ble_eq_true rfl, Nat.le_of_ble_eq_true rfl⟩ (Nat.le_of_ble_eq_true rfl) ⟨Nat.le_of_ble_eq_true rfl, Nat.le_of_ble_eq_true rfl⟩ (fun r n2 h2 hq => ?_)
      obtain ⟨rfl, hn9, rfl⟩ := hq; replace hn9 := hn9.symm; subst hn9
      refine v_st (st2 := [.int (nI 6), .int (nI 0)]) rfl ?_
      refine n_icmp_ge (tgt := 87) (x := 0) (y := 6) dX5_readOrder_64 (by decide) (by decide) (by decide) (fun c => absurd c (by decide)) (fun _ => ?_)
      refine v_aload_n dX5_readOrder_67 rfl ?_
      refine v_aload_n dX5_readOrder_68 rfl ?_
      refine v_iload_n dX5_readOrder_69 rfl ?_
      refine v_callT (st := [.ref q]) (i := 2) dX5_readOrder_70 (t_J0_charAt_5068e (i := 2) (j := 0) (by decide) (by decide)) wX5_62 (by omega) rfl rfl ⟨Nat.le_of_ble_eq_true rfl, Nat.le_of_ble_eq_true rfl⟩ (Nat.le_of_ble_eq_true rfl) ⟨Nat.le_of_ble_eq_true rfl, Nat.le_of_ble_eq_true rfl⟩ (fun r n2 h2 hq => ?_)
      obtain ⟨rfl, hn9, rfl⟩ := hq; replace hn9 := hn9.symm; subst hn9
      refine v_st (st2 := [.int (nI 112), .ref q]) rfl ?_
      refine v_callV (st := []) dX5_readOrder_73 (t_X5_readPartS (cc := 112) fa78 hb79 fa80 fa81 haq hm htn ht (by omega) (by omega) (by omega) (by omega)) wX5_63 fa78 rfl rfl ⟨Nat.le_of_ble_eq_true rfl, Nat.le_of_ble_eq_true rfl⟩ (Nat.le_of_ble_eq_true rfl) ⟨Nat.le_of_ble_eq_true rfl, Nat.le_of_ble_eq_true rfl⟩ (fun r n2 h2 hq => ?_)
      obtain ⟨rfl, hn9, fa83, sa84⟩ := hq; replace hn9 := hn9.symm; subst hn9
      refine v_st (st2 := [.int (nI 1)]) (by rw [bI_t hT]; rfl) ?_
      rw [show sgP (txt t tn) 112 p = p + 1 from if_pos hT] at fa83
      have hb85 := sbP_fr hb79 (sa84 (q + 1) (by omega)) (sa84 (a) (by omega))
      have fa86 := (sa84 (q + 3) (by omega)).trans fa80
      have fa87 := (sa84 (q + 4) (by omega)).trans fa81
      have fr88 : frP (fun z => z ≠ q ∧ z ≠ q + 3 ∧ z ≠ q + 4) _ _ := fun z (hz : z ≠ q ∧ z ≠ q + 3 ∧ z ≠ q + 4) => (sa84 z (by omega)).trans (fr82 z hz)
      have bs89 : p + 1 ≤ tn := by first | omega | exact sg_le (by omega) (by omega)
      refine n_if_ne (tgt := 81) (x := 1) dX5_readOrder_76 (by decide) (by decide) (fun _ => ?_) (fun c => absurd c (by decide))
      refine n_iinc (k := 1) (x := 0) dX5_readOrder_81 (by decide) rfl rfl (by decide) ?_
      refine v_ls (ls2 := [some (.ref q), some (.int (nI (t p))), some (.ref (gA G 0 2)), some (.int (nI 1))]) rfl ?_
      refine v_goto (tgt := 59) dX5_readOrder_84 (by decide) ?_
      refine v_iload_n dX5_readOrder_59 rfl ?_
      refine v_aload_n dX5_readOrder_60 rfl ?_
      refine v_callT (st := [.int (nI 1)]) (i := 2) dX5_readOrder_61 (t_J0_length_8abf5 (i := 2) (by omega)) wX5_61 (by omega) rfl rfl ⟨Nat.le_of_ble_eq_true rfl, Nat.le_of_ble_eq_true rfl⟩ (Nat.le_of_ble_eq_true rfl) ⟨Nat.le_of_ble_eq_true rfl, Nat.le_of_ble_eq_true rfl⟩ (fun r n2 h2 hq => ?_)
      obtain ⟨rfl, hn9, rfl⟩ := hq; replace hn9 := hn9.symm; subst hn9
      refine v_st (st2 := [.int (nI 6), .int (nI 1)]) rfl ?_
      refine n_icmp_ge (tgt := 87) (x := 1) (y := 6) dX5_readOrder_64 (by decide) (by decide) (by decide) (fun c => absurd c (by decide)) (fun _ => ?_)
      refine v_aload_n dX5_readOrder_67 rfl ?_
      refine v_aload_n dX5_readOrder_68 rfl ?_
      refine v_iload_n dX5_readOrder_69 rfl ?_
      refine v_callT (st := [.ref q]) (i := 2) dX5_readOrder_70 (t_J0_charAt_5068e (i := 2) (j := 1) (by decide) (by decide)) wX5_62 (by omega) rfl rfl ⟨Nat.le_of_ble_eq_true rfl, Nat.le_of_ble_eq_true rfl⟩ (Nat.le_of_ble_eq_true rfl) ⟨Nat.le_of_ble_eq_true rfl, Nat.le_of_ble_eq_true rfl⟩ (fun r n2 h2 hq => ?_)
      obtain ⟨rfl, hn9, rfl⟩ := hq; replace hn9 := hn9.symm; subst hn9
      refine v_st (st2 := [.int (nI 49), .ref q]) rfl ?_
      refine v_callV (st := []) dX5_readOrder_73 (t_X5_readPart49 fa83 hb85 fa86 fa87 haq hm htn ht (by omega) (by omega) (by omega)) wX5_63 fa83 rfl rfl ⟨Nat.le_of_ble_eq_true rfl, Nat.le_of_ble_eq_true rfl⟩ (Nat.le_of_ble_eq_true rfl) ⟨Nat.le_of_ble_eq_true rfl, Nat.le_of_ble_eq_true rfl⟩ (fun r n2 h2 hq => ?_)
      obtain ⟨rfl, hn9, fa90, fa91, sa92⟩ := hq; replace hn9 := hn9.symm; subst hn9
      refine v_st (st2 := [.int (nI (bI (0 < dc (txt t tn) 1 (p + 1))))]) rfl ?_
      have hb93 := sbP_fr hb85 (sa92 (q + 1) (by omega)) (sa92 (a) (by omega))
      have fa94 := (sa92 (q + 3) (by omega)).trans fa86
      have fr95 : frP (fun z => z ≠ q ∧ z ≠ q + 3 ∧ z ≠ q + 4) _ _ := fun z (hz : z ≠ q ∧ z ≠ q + 3 ∧ z ≠ q + 4) => (sa92 z (by omega)).trans (fr88 z hz)
      have bs96 : p + 1 + dc (txt t tn) 1 (p + 1) ≤ tn := dc_le (by omega)
      refine n_ifb_ne (tgt := 81) (p := 0 < dc (txt t tn) 1 (p + 1)) dX5_readOrder_76 (by decide) (fun c97 => ?_) (fun c97 => ?_)
      · refine n_iinc (k := 1) (x := 1) dX5_readOrder_81 (by decide) rfl rfl (by decide) ?_
        refine v_ls (ls2 := [some (.ref q), some (.int (nI (t p))), some (.ref (gA G 0 2)), some (.int (nI 2))]) rfl ?_
        refine v_goto (tgt := 59) dX5_readOrder_84 (by decide) ?_
        refine v_iload_n dX5_readOrder_59 rfl ?_
        refine v_aload_n dX5_readOrder_60 rfl ?_
        refine v_callT (st := [.int (nI 2)]) (i := 2) dX5_readOrder_61 (t_J0_length_8abf5 (i := 2) (by omega)) wX5_61 (by omega) rfl rfl ⟨Nat.le_of_ble_eq_true rfl, Nat.le_of_ble_eq_true rfl⟩ (Nat.le_of_ble_eq_true rfl) ⟨Nat.le_of_ble_eq_true rfl, Nat.le_of_ble_eq_true rfl⟩ (fun r n2 h2 hq => ?_)
        obtain ⟨rfl, hn9, rfl⟩ := hq; replace hn9 := hn9.symm; subst hn9
        refine v_st (st2 := [.int (nI 6), .int (nI 2)]) rfl ?_
        refine n_icmp_ge (tgt := 87) (x := 2) (y := 6) dX5_readOrder_64 (by decide) (by decide) (by decide) (fun c => absurd c (by decide)) (fun _ => ?_)
        refine v_aload_n dX5_readOrder_67 rfl ?_
        refine v_aload_n dX5_readOrder_68 rfl ?_
        refine v_iload_n dX5_readOrder_69 rfl ?_
        refine v_callT (st := [.ref q]) (i := 2) dX5_readOrder_70 (t_J0_charAt_5068e (i := 2) (j := 2) (by decide) (by decide)) wX5_62 (by omega) rfl rfl ⟨Nat.le_of_ble_eq_true rfl, Nat.le_of_ble_eq_true rfl⟩ (Nat.le_of_ble_eq_true rfl) ⟨Nat.le_of_ble_eq_true rfl, Nat.le_of_ble_eq_true rfl⟩ (fun r n2 h2 hq => ?_)
        obtain ⟨rfl, hn9, rfl⟩ := hq; replace hn9 := hn9.symm; subst hn9
        refine v_st (st2 := [.int (nI 58), .ref q]) rfl ?_
        refine v_callV (st := []) dX5_readOrder_73 (t_X5_readPartS (cc := 58) fa90 hb93 fa94 fa91 haq hm htn ht (by omega) (by omega) (by omega) (by omega)) wX5_63 fa90 rfl rfl ⟨Nat.le_of_ble_eq_true rfl, Nat.le_of_ble_eq_true rfl⟩ (Nat.le_of_ble_eq_true rfl) ⟨Nat.le_of_ble_eq_true rfl, Nat.le_of_ble_eq_true rfl⟩ (fun r n2 h2 hq => ?_)
        obtain ⟨rfl, hn9, fa98, sa99⟩ := hq; replace hn9 := hn9.symm; subst hn9
        refine v_st (st2 := [.int (nI (bI ((txt t tn) (p + 1 + dc (txt t tn) 1 (p + 1)) = 58)))]) rfl ?_
        have hb100 := sbP_fr hb93 (sa99 (q + 1) (by omega)) (sa99 (a) (by omega))
        have fa101 := (sa99 (q + 3) (by omega)).trans fa94
        have fa102 := (sa99 (q + 4) (by omega)).trans fa91
        have fr103 : frP (fun z => z ≠ q ∧ z ≠ q + 3 ∧ z ≠ q + 4) _ _ := fun z (hz : z ≠ q ∧ z ≠ q + 3 ∧ z ≠ q + 4) => (sa99 z (by omega)).trans (fr95 z hz)
        have bs104 : sgP (txt t tn) 58 (p + 1 + dc (txt t tn) 1 (p + 1)) ≤ tn := by first | omega | exact sg_le (by omega) (by omega)
        refine n_ifb_ne (tgt := 81) (p := (txt t tn) (p + 1 + dc (txt t tn) 1 (p + 1)) = 58) dX5_readOrder_76 (by decide) (fun c105 => ?_) (fun c105 => ?_)
        · refine n_iinc (k := 1) (x := 2) dX5_readOrder_81 (by decide) rfl rfl (by decide) ?_
          refine v_ls (ls2 := [some (.ref q), some (.int (nI (t p))), some (.ref (gA G 0 2)), some (.int (nI 3))]) rfl ?_
          refine v_goto (tgt := 59) dX5_readOrder_84 (by decide) ?_
          refine v_iload_n dX5_readOrder_59 rfl ?_
          refine v_aload_n dX5_readOrder_60 rfl ?_
          refine v_callT (st := [.int (nI 3)]) (i := 2) dX5_readOrder_61 (t_J0_length_8abf5 (i := 2) (by omega)) wX5_61 (by omega) rfl rfl ⟨Nat.le_of_ble_eq_true rfl, Nat.le_of_ble_eq_true rfl⟩ (Nat.le_of_ble_eq_true rfl) ⟨Nat.le_of_ble_eq_true rfl, Nat.le_of_ble_eq_true rfl⟩ (fun r n2 h2 hq => ?_)
          obtain ⟨rfl, hn9, rfl⟩ := hq; replace hn9 := hn9.symm; subst hn9
          refine v_st (st2 := [.int (nI 6), .int (nI 3)]) rfl ?_
          refine n_icmp_ge (tgt := 87) (x := 3) (y := 6) dX5_readOrder_64 (by decide) (by decide) (by decide) (fun c => absurd c (by decide)) (fun _ => ?_)
          refine v_aload_n dX5_readOrder_67 rfl ?_
          refine v_aload_n dX5_readOrder_68 rfl ?_
          refine v_iload_n dX5_readOrder_69 rfl ?_
          refine v_callT (st := [.ref q]) (i := 2) dX5_readOrder_70 (t_J0_charAt_5068e (i := 2) (j := 3) (by decide) (by decide)) wX5_62 (by omega) rfl rfl ⟨Nat.le_of_ble_eq_true rfl, Nat.le_of_ble_eq_true rfl⟩ (Nat.le_of_ble_eq_true rfl) ⟨Nat.le_of_ble_eq_true rfl, Nat.le_of_ble_eq_true rfl⟩ (fun r n2 h2 hq => ?_)
          obtain ⟨rfl, hn9, rfl⟩ := hq; replace hn9 := hn9.symm; subst hn9
          refine v_st (st2 := [.int (nI 50), .ref q]) rfl ?_
          refine v_callV (st := []) dX5_readOrder_73 (t_X5_readPart50 fa98 hb100 fa101 fa102 haq hm htn ht (by omega) (by omega) (by omega)) wX5_63 fa98 rfl rfl ⟨Nat.le_of_ble_eq_true rfl, Nat.le_of_ble_eq_true rfl⟩ (Nat.le_of_ble_eq_true rfl) ⟨Nat.le_of_ble_eq_true rfl, Nat.le_of_ble_eq_true rfl⟩ (fun r n2 h2 hq => ?_)
          obtain ⟨rfl, hn9, fa106, fa107, sa108⟩ := hq; replace hn9 := hn9.symm; subst hn9
          refine v_st (st2 := [.int (nI (bI (0 < dc (txt t tn) 2 (sgP (txt t tn) 58 (p + 1 + dc (txt t tn) 1 (p + 1))))))]) rfl ?_
          have hb109 := sbP_fr hb100 (sa108 (q + 1) (by omega)) (sa108 (a) (by omega))
          have fa110 := (sa108 (q + 3) (by omega)).trans fa101
          have fr111 : frP (fun z => z ≠ q ∧ z ≠ q + 3 ∧ z ≠ q + 4) _ _ := fun z (hz : z ≠ q ∧ z ≠ q + 3 ∧ z ≠ q + 4) => (sa108 z (by omega)).trans (fr103 z hz)
          have bs112 : sgP (txt t tn) 58 (p + 1 + dc (txt t tn) 1 (p + 1)) + dc (txt t tn) 2 (sgP (txt t tn) 58 (p + 1 + dc (txt t tn) 1 (p + 1))) ≤ tn := dc_le (by omega)
          refine n_ifb_ne (tgt := 81) (p := 0 < dc (txt t tn) 2 (sgP (txt t tn) 58 (p + 1 + dc (txt t tn) 1 (p + 1)))) dX5_readOrder_76 (by decide) (fun c113 => ?_) (fun c113 => ?_)
          · refine n_iinc (k := 1) (x := 3) dX5_readOrder_81 (by decide) rfl rfl (by decide) ?_
            refine v_ls (ls2 := [some (.ref q), some (.int (nI (t p))), some (.ref (gA G 0 2)), some (.int (nI 4))]) rfl ?_
            refine v_goto (tgt := 59) dX5_readOrder_84 (by decide) ?_
            refine v_iload_n dX5_readOrder_59 rfl ?_
            refine v_aload_n dX5_readOrder_60 rfl ?_
            refine v_callT (st := [.int (nI 4)]) (i := 2) dX5_readOrder_61 (t_J0_length_8abf5 (i := 2) (by omega)) wX5_61 (by omega) rfl rfl ⟨Nat.le_of_ble_eq_true rfl, Nat.le_of_ble_eq_true rfl⟩ (Nat.le_of_ble_eq_true rfl) ⟨Nat.le_of_ble_eq_true rfl, Nat.le_of_ble_eq_true rfl⟩ (fun r n2 h2 hq => ?_)
            obtain ⟨rfl, hn9, rfl⟩ := hq; replace hn9 := hn9.symm; subst hn9
            refine v_st (st2 := [.int (nI 6), .int (nI 4)]) rfl ?_
            refine n_icmp_ge (tgt := 87) (x := 4) (y := 6) dX5_readOrder_64 (by decide) (by decide) (by decide) (fun c => absurd c (by decide)) (fun _ => ?_)
            refine v_aload_n dX5_readOrder_67 rfl ?_
            refine v_aload_n dX5_readOrder_68 rfl ?_
            refine v_iload_n dX5_readOrder_69 rfl ?_
            refine v_callT (st := [.ref q]) (i := 2) dX5_readOrder_70 (t_J0_charAt_5068e (i := 2) (j := 4) (by decide) (by decide)) wX5_62 (by omega) rfl rfl ⟨Nat.le_of_ble_eq_true rfl, Nat.le_of_ble_eq_true rfl⟩ (Nat.le_of_ble_eq_true rfl) ⟨Nat.le_of_ble_eq_true rfl, Nat.le_of_ble_eq_true rfl⟩ (fun r n2 h2 hq => ?_)
            obtain ⟨rfl, hn9, rfl⟩ := hq; replace hn9 := hn9.symm; subst hn9
            refine v_st (st2 := [.int (nI 42), .ref q]) rfl ?_
            refine v_callV (st := []) dX5_readOrder_73 (t_X5_readPartS (cc := 42) fa106 hb109 fa110 fa107 haq hm htn ht (by omega) (by omega) (by omega) (by omega)) wX5_63 fa106 rfl rfl ⟨Nat.le_of_ble_eq_true rfl, Nat.le_of_ble_eq_true rfl⟩ (Nat.le_of_ble_eq_true rfl) ⟨Nat.le_of_ble_eq_true rfl, Nat.le_of_ble_eq_true rfl⟩ (fun r n2 h2 hq => ?_)
            obtain ⟨rfl, hn9, fa114, sa115⟩ := hq; replace hn9 := hn9.symm; subst hn9
            refine v_st (st2 := [.int (nI (bI ((txt t tn) (sgP (txt t tn) 58 (p + 1 + dc (txt t tn) 1 (p + 1)) + dc (txt t tn) 2 (sgP (txt t tn) 58 (p + 1 + dc (txt t tn) 1 (p + 1)))) = 42)))]) rfl ?_
            have hb116 := sbP_fr hb109 (sa115 (q + 1) (by omega)) (sa115 (a) (by omega))
            have fa117 := (sa115 (q + 3) (by omega)).trans fa110
            have fa118 := (sa115 (q + 4) (by omega)).trans fa107
            have fr119 : frP (fun z => z ≠ q ∧ z ≠ q + 3 ∧ z ≠ q + 4) _ _ := fun z (hz : z ≠ q ∧ z ≠ q + 3 ∧ z ≠ q + 4) => (sa115 z (by omega)).trans (fr111 z hz)
            have bs120 : sgP (txt t tn) 42 (sgP (txt t tn) 58 (p + 1 + dc (txt t tn) 1 (p + 1)) + dc (txt t tn) 2 (sgP (txt t tn) 58 (p + 1 + dc (txt t tn) 1 (p + 1)))) ≤ tn := by first | omega | exact sg_le (by omega) (by omega)
            refine n_ifb_ne (tgt := 81) (p := (txt t tn) (sgP (txt t tn) 58 (p + 1 + dc (txt t tn) 1 (p + 1)) + dc (txt t tn) 2 (sgP (txt t tn) 58 (p + 1 + dc (txt t tn) 1 (p + 1)))) = 42) dX5_readOrder_76 (by decide) (fun c121 => ?_) (fun c121 => ?_)
            · refine n_iinc (k := 1) (x := 4) dX5_readOrder_81 (by decide) rfl rfl (by decide) ?_
              refine v_ls (ls2 := [some (.ref q), some (.int (nI (t p))), some (.ref (gA G 0 2)), some (.int (nI 5))]) rfl ?_
              refine v_goto (tgt := 59) dX5_readOrder_84 (by decide) ?_
              refine v_iload_n dX5_readOrder_59 rfl ?_
              refine v_aload_n dX5_readOrder_60 rfl ?_
              refine v_callT (st := [.int (nI 5)]) (i := 2) dX5_readOrder_61 (t_J0_length_8abf5 (i := 2) (by omega)) wX5_61 (by omega) rfl rfl ⟨Nat.le_of_ble_eq_true rfl, Nat.le_of_ble_eq_true rfl⟩ (Nat.le_of_ble_eq_true rfl) ⟨Nat.le_of_ble_eq_true rfl, Nat.le_of_ble_eq_true rfl⟩ (fun r n2 h2 hq => ?_)
              obtain ⟨rfl, hn9, rfl⟩ := hq; replace hn9 := hn9.symm; subst hn9
              refine v_st (st2 := [.int (nI 6), .int (nI 5)]) rfl ?_
              refine n_icmp_ge (tgt := 87) (x := 5) (y := 6) dX5_readOrder_64 (by decide) (by decide) (by decide) (fun c => absurd c (by decide)) (fun _ => ?_)
              refine v_aload_n dX5_readOrder_67 rfl ?_
              refine v_aload_n dX5_readOrder_68 rfl ?_
              refine v_iload_n dX5_readOrder_69 rfl ?_
              refine v_callT (st := [.ref q]) (i := 2) dX5_readOrder_70 (t_J0_charAt_5068e (i := 2) (j := 5) (by decide) (by decide)) wX5_62 (by omega) rfl rfl ⟨Nat.le_of_ble_eq_true rfl, Nat.le_of_ble_eq_true rfl⟩ (Nat.le_of_ble_eq_true rfl) ⟨Nat.le_of_ble_eq_true rfl, Nat.le_of_ble_eq_true rfl⟩ (fun r n2 h2 hq => ?_)
              obtain ⟨rfl, hn9, rfl⟩ := hq; replace hn9 := hn9.symm; subst hn9
              refine v_st (st2 := [.int (nI 50), .ref q]) rfl ?_
              refine v_callV (st := []) dX5_readOrder_73 (t_X5_readPart50 fa114 hb116 fa117 fa118 haq hm htn ht (by omega) (by omega) (by omega)) wX5_63 fa114 rfl rfl ⟨Nat.le_of_ble_eq_true rfl, Nat.le_of_ble_eq_true rfl⟩ (Nat.le_of_ble_eq_true rfl) ⟨Nat.le_of_ble_eq_true rfl, Nat.le_of_ble_eq_true rfl⟩ (fun r n2 h2 hq => ?_)
              obtain ⟨rfl, hn9, fa122, fa123, sa124⟩ := hq; replace hn9 := hn9.symm; subst hn9
              refine v_st (st2 := [.int (nI (bI (0 < dc (txt t tn) 2 (sgP (txt t tn) 42 (sgP (txt t tn) 58 (p + 1 + dc (txt t tn) 1 (p + 1)) + dc (txt t tn) 2 (sgP (txt t tn) 58 (p + 1 + dc (txt t tn) 1 (p + 1))))))))]) rfl ?_
              have hb125 := sbP_fr hb116 (sa124 (q + 1) (by omega)) (sa124 (a) (by omega))
              have fa126 := (sa124 (q + 3) (by omega)).trans fa117
              have fr127 : frP (fun z => z ≠ q ∧ z ≠ q + 3 ∧ z ≠ q + 4) _ _ := fun z (hz : z ≠ q ∧ z ≠ q + 3 ∧ z ≠ q + 4) => (sa124 z (by omega)).trans (fr119 z hz)
              have bs128 : sgP (txt t tn) 42 (sgP (txt t tn) 58 (p + 1 + dc (txt t tn) 1 (p + 1)) + dc (txt t tn) 2 (sgP (txt t tn) 58 (p + 1 + dc (txt t tn) 1 (p + 1)))) + dc (txt t tn) 2 (sgP (txt t tn) 42 (sgP (txt t tn) 58 (p + 1 + dc (txt t tn) 1 (p + 1)) + dc (txt t tn) 2 (sgP (txt t tn) 58 (p + 1 + dc (txt t tn) 1 (p + 1))))) ≤ tn := dc_le (by omega)
              refine n_ifb_ne (tgt := 81) (p := 0 < dc (txt t tn) 2 (sgP (txt t tn) 42 (sgP (txt t tn) 58 (p + 1 + dc (txt t tn) 1 (p + 1)) + dc (txt t tn) 2 (sgP (txt t tn) 58 (p + 1 + dc (txt t tn) 1 (p + 1)))))) dX5_readOrder_76 (by decide) (fun c129 => ?_) (fun c129 => ?_)
              · refine n_iinc (k := 1) (x := 5) dX5_readOrder_81 (by decide) rfl rfl (by decide) ?_
                refine v_ls (ls2 := [some (.ref q), some (.int (nI (t p))), some (.ref (gA G 0 2)), some (.int (nI 6))]) rfl ?_
                refine v_goto (tgt := 59) dX5_readOrder_84 (by decide) ?_
                refine v_iload_n dX5_readOrder_59 rfl ?_
                refine v_aload_n dX5_readOrder_60 rfl ?_
                refine v_callT (st := [.int (nI 6)]) (i := 2) dX5_readOrder_61 (t_J0_length_8abf5 (i := 2) (by omega)) wX5_61 (by omega) rfl rfl ⟨Nat.le_of_ble_eq_true rfl, Nat.le_of_ble_eq_true rfl⟩ (Nat.le_of_ble_eq_true rfl) ⟨Nat.le_of_ble_eq_true rfl, Nat.le_of_ble_eq_true rfl⟩ (fun r n2 h2 hq => ?_)
                obtain ⟨rfl, hn9, rfl⟩ := hq; replace hn9 := hn9.symm; subst hn9
                refine v_st (st2 := [.int (nI 6), .int (nI 6)]) rfl ?_
                refine n_icmp_ge (tgt := 87) (x := 6) (y := 6) dX5_readOrder_64 (by decide) (by decide) (by decide) (fun _ => ?_) (fun c => absurd c (by decide))
                refine v_iconst (v := nI 1) dX5_readOrder_87 (by decide) ?_
                refine v_zret (ty := .boolean) dX5_readOrder_88 rfl (by decide) ?_ (Nat.le_of_ble_eq_true rfl) (Nat.le_of_ble_eq_true rfl)
                have e8 : shI (txt t tn p) = 2 := by rw [hTp]; exact hsh
                have e9 : oS (txt t tn) 2 p = (true, sgP (txt t tn) 42 (sgP (txt t tn) 58 (p + 1 + dc (txt t tn) 1 (p + 1)) + dc (txt t tn) 2 (sgP (txt t tn) 58 (p + 1 + dc (txt t tn) 1 (p + 1)))) + dc (txt t tn) 2 (sgP (txt t tn) 42 (sgP (txt t tn) 58 (p + 1 + dc (txt t tn) 1 (p + 1)) + dc (txt t tn) 2 (sgP (txt t tn) 58 (p + 1 + dc (txt t tn) 1 (p + 1)))))) := by simp only [oS, sN, sS, sPM, decide_eq_true c97, decide_eq_true c105, decide_eq_true c113, decide_eq_true c121, decide_eq_true c129, if_true, if_false, reduceIte, Bool.false_eq_true]
                refine ⟨0 + 1 + 1 + 1, va_up (va_up (va_up N (c * 4 + 0) (dv (txt t tn) 0 1 (p + 1))) (c * 4 + (0 + 1)) (dv (txt t tn) 0 2 (sgP (txt t tn) 58 (p + 1 + dc (txt t tn) 1 (p + 1))))) (c * 4 + (0 + 1 + 1)) (dv (txt t tn) 0 2 (sgP (txt t tn) 42 (sgP (txt t tn) 58 (p + 1 + dc (txt t tn) 1 (p + 1)) + dc (txt t tn) 2 (sgP (txt t tn) 58 (p + 1 + dc (txt t tn) 1 (p + 1)))))), va_up L c (t p), by rw [e8, e9]; rfl, rfl, by rw [e8, e9]; exact fa122, fa126, fa123, fun k hk9 => va_un (by omega), fun k hk9 => ?_, fun z => ?_, fr127⟩
                · rw [va_un (by omega), va_un (by omega), va_un (by omega)]
                · rw [e8]; refine ⟨by rw [hTp]; exact va_us, fun j hj => ?_⟩
                  obtain rfl | rfl | rfl := (show j = 0 ∨ j = 1 ∨ j = 2 by have : j < 3 := hj; omega)
                  · rw [va_un (by omega), va_un (by omega), va_us]; rfl
                  · rw [va_un (by omega), va_us]; rfl
                  · exact va_us
              · refine v_iconst (v := nI 0) dX5_readOrder_79 (by decide) ?_
                refine v_zret (ty := .boolean) dX5_readOrder_80 rfl (by decide) ?_ (Nat.le_of_ble_eq_true rfl) (Nat.le_of_ble_eq_true rfl)
                have e8 : shI (txt t tn p) = 2 := by rw [hTp]; exact hsh
                have e9 : oS (txt t tn) 2 p = (false, sgP (txt t tn) 42 (sgP (txt t tn) 58 (p + 1 + dc (txt t tn) 1 (p + 1)) + dc (txt t tn) 2 (sgP (txt t tn) 58 (p + 1 + dc (txt t tn) 1 (p + 1)))) + dc (txt t tn) 2 (sgP (txt t tn) 42 (sgP (txt t tn) 58 (p + 1 + dc (txt t tn) 1 (p + 1)) + dc (txt t tn) 2 (sgP (txt t tn) 58 (p + 1 + dc (txt t tn) 1 (p + 1)))))) := by simp only [oS, sN, sS, sPM, decide_eq_true c97, decide_eq_true c105, decide_eq_true c113, decide_eq_true c121, decide_eq_false c129, if_true, if_false, reduceIte, Bool.false_eq_true]
                refine ⟨0 + 1 + 1 + 1, va_up (va_up (va_up N (c * 4 + 0) (dv (txt t tn) 0 1 (p + 1))) (c * 4 + (0 + 1)) (dv (txt t tn) 0 2 (sgP (txt t tn) 58 (p + 1 + dc (txt t tn) 1 (p + 1))))) (c * 4 + (0 + 1 + 1)) (dv (txt t tn) 0 2 (sgP (txt t tn) 42 (sgP (txt t tn) 58 (p + 1 + dc (txt t tn) 1 (p + 1)) + dc (txt t tn) 2 (sgP (txt t tn) 58 (p + 1 + dc (txt t tn) 1 (p + 1)))))), va_up L c (t p), by rw [e8, e9]; rfl, rfl, by rw [e8, e9]; exact fa122, fa126, fa123, fun k hk9 => va_un (by omega), fun k hk9 => ?_, fun z => ?_, fr127⟩
                · rw [va_un (by omega), va_un (by omega), va_un (by omega)]
                · rw [e8, e9] at z; exact absurd z Bool.false_ne_true
            · refine v_iconst (v := nI 0) dX5_readOrder_79 (by decide) ?_
              refine v_zret (ty := .boolean) dX5_readOrder_80 rfl (by decide) ?_ (Nat.le_of_ble_eq_true rfl) (Nat.le_of_ble_eq_true rfl)
              have e8 : shI (txt t tn p) = 2 := by rw [hTp]; exact hsh
              have e9 : oS (txt t tn) 2 p = (false, sgP (txt t tn) 42 (sgP (txt t tn) 58 (p + 1 + dc (txt t tn) 1 (p + 1)) + dc (txt t tn) 2 (sgP (txt t tn) 58 (p + 1 + dc (txt t tn) 1 (p + 1))))) := by simp only [oS, sN, sS, sPM, decide_eq_true c97, decide_eq_true c105, decide_eq_true c113, decide_eq_false c121, if_true, if_false, reduceIte, Bool.false_eq_true]
              refine ⟨0 + 1 + 1, va_up (va_up N (c * 4 + 0) (dv (txt t tn) 0 1 (p + 1))) (c * 4 + (0 + 1)) (dv (txt t tn) 0 2 (sgP (txt t tn) 58 (p + 1 + dc (txt t tn) 1 (p + 1)))), va_up L c (t p), by rw [e8, e9]; rfl, rfl, by rw [e8, e9]; exact fa114, fa117, fa118, fun k hk9 => va_un (by omega), fun k hk9 => ?_, fun z => ?_, fr119⟩
              · rw [va_un (by omega), va_un (by omega)]
              · rw [e8, e9] at z; exact absurd z Bool.false_ne_true
          · refine v_iconst (v := nI 0) dX5_readOrder_79 (by decide) ?_
            refine v_zret (ty := .boolean) dX5_readOrder_80 rfl (by decide) ?_ (Nat.le_of_ble_eq_true rfl) (Nat.le_of_ble_eq_true rfl)
            have e8 : shI (txt t tn p) = 2 := by rw [hTp]; exact hsh
            have e9 : oS (txt t tn) 2 p = (false, sgP (txt t tn) 58 (p + 1 + dc (txt t tn) 1 (p + 1)) + dc (txt t tn) 2 (sgP (txt t tn) 58 (p + 1 + dc (txt t tn) 1 (p + 1)))) := by simp only [oS, sN, sS, sPM, decide_eq_true c97, decide_eq_true c105, decide_eq_false c113, if_true, if_false, reduceIte, Bool.false_eq_true]
            refine ⟨0 + 1 + 1, va_up (va_up N (c * 4 + 0) (dv (txt t tn) 0 1 (p + 1))) (c * 4 + (0 + 1)) (dv (txt t tn) 0 2 (sgP (txt t tn) 58 (p + 1 + dc (txt t tn) 1 (p + 1)))), va_up L c (t p), by rw [e8, e9]; rfl, rfl, by rw [e8, e9]; exact fa106, fa110, fa107, fun k hk9 => va_un (by omega), fun k hk9 => ?_, fun z => ?_, fr111⟩
            · rw [va_un (by omega), va_un (by omega)]
            · rw [e8, e9] at z; exact absurd z Bool.false_ne_true
        · refine v_iconst (v := nI 0) dX5_readOrder_79 (by decide) ?_
          refine v_zret (ty := .boolean) dX5_readOrder_80 rfl (by decide) ?_ (Nat.le_of_ble_eq_true rfl) (Nat.le_of_ble_eq_true rfl)
          have e8 : shI (txt t tn p) = 2 := by rw [hTp]; exact hsh
          have e9 : oS (txt t tn) 2 p = (false, sgP (txt t tn) 58 (p + 1 + dc (txt t tn) 1 (p + 1))) := by simp only [oS, sN, sS, sPM, decide_eq_true c97, decide_eq_false c105, if_true, if_false, reduceIte, Bool.false_eq_true]
          refine ⟨0 + 1, va_up N (c * 4 + 0) (dv (txt t tn) 0 1 (p + 1)), va_up L c (t p), by rw [e8, e9]; rfl, rfl, by rw [e8, e9]; exact fa98, fa101, fa102, fun k hk9 => va_un (by omega), fun k hk9 => ?_, fun z => ?_, fr103⟩
          · rw [va_un (by omega)]
          · rw [e8, e9] at z; exact absurd z Bool.false_ne_true
      · refine v_iconst (v := nI 0) dX5_readOrder_79 (by decide) ?_
        refine v_zret (ty := .boolean) dX5_readOrder_80 rfl (by decide) ?_ (Nat.le_of_ble_eq_true rfl) (Nat.le_of_ble_eq_true rfl)
        have e8 : shI (txt t tn p) = 2 := by rw [hTp]; exact hsh
        have e9 : oS (txt t tn) 2 p = (false, p + 1 + dc (txt t tn) 1 (p + 1)) := by simp only [oS, sN, sS, sPM, decide_eq_false c97, if_true, if_false, reduceIte, Bool.false_eq_true]
        refine ⟨0 + 1, va_up N (c * 4 + 0) (dv (txt t tn) 0 1 (p + 1)), va_up L c (t p), by rw [e8, e9]; rfl, rfl, by rw [e8, e9]; exact fa90, fa94, fa91, fun k hk9 => va_un (by omega), fun k hk9 => ?_, fun z => ?_, fr95⟩
        · rw [va_un (by omega)]
        · rw [e8, e9] at z; exact absurd z Bool.false_ne_true
    · have hT : txt t tn p = 98 := by rw [hTp]; exact hk
      refine v_ls (ls2 := [some (.ref q), some (.int (nI (t p))), some (.ref (gA G 0 3)), none]) (by rw [hsh]) ?_
      refine v_aload_n dX5_readOrder_33 rfl ?_
      refine v_callT (st := []) (i := 3) dX5_readOrder_34 (t_J0_isEmpty_aae02 (i := 3) (by omega)) wX5_56 (by omega) rfl rfl ⟨Nat.le_of_ble_eq_true rfl, Nat.le_of_ble_eq_true rfl⟩ (Nat.le_of_ble_eq_true rfl) ⟨Nat.le_of_ble_eq_true rfl, Nat.le_of_ble_eq_true rfl⟩ (fun r n2 h2 hq => ?_)
      obtain ⟨rfl, hn9, rfl⟩ := hq; replace hn9 := hn9.symm; subst hn9
      refine v_st (st2 := [.int (nI 0)]) rfl ?_
      refine n_if_eq (tgt := 42) (x := 0) dX5_readOrder_37 (by decide) (by decide) (fun _ => ?_) (fun c => absurd c (by decide))
      refine v_aload_n dX5_readOrder_42 rfl ?_
      refine fX5_28 (v := .ref (q + 3)) rfl dX5_readOrder_43 ho rfl ?_
      refine v_aload_n dX5_readOrder_46 rfl ?_
      refine fX5_18 (v := .int (nI c)) rfl dX5_readOrder_47 ho rfl ?_
      refine v_iload_n dX5_readOrder_50 rfl ?_
      refine n_castN (f := L) (j := c) (v := t p) dX5_readOrder_51 hL (by omega) (by decide) (by omega) ?_
      refine nw (fun h1 f1 s1 => ?_)
      have fa130 : h1 (q + 3) = some (.inl (gC G 1, 30, .inl (fun i => nI (va_up L c (t p) i)))) := f1
      have sa130 := s1
      clear f1 s1
      have fa131 := (sa130 (q) (by omega)).trans ho
      have hb132 := sbP_fr hb (sa130 (q + 1) (by omega)) (sa130 (a) (by omega))
      have fa133 := (sa130 (q + 4) (by omega)).trans hN
      have fr134 : frP (fun z => z ≠ q ∧ z ≠ q + 3 ∧ z ≠ q + 4) _ _ := fun z (hz : z ≠ q ∧ z ≠ q + 3 ∧ z ≠ q + 4) => sa130 z (by omega)
      refine v_aload_n dX5_readOrder_52 rfl ?_
      refine v_iconst (v := nI 0) dX5_readOrder_53 (by decide) ?_
      refine pX5_25 rfl dX5_readOrder_54 fa131 (Nat.le_of_ble_eq_true rfl) ?_
      refine nw (fun h1 f1 s1 => ?_)
      have fa135 : h1 (q) = some (.inr (6, [.ref (q + 1), .int (nI c), .int (nI p), .int (nI 0), .ref (q + 3), .ref (q + 4)])) := f1
      have sa135 := s1
      clear f1 s1
      have hb136 := sbP_fr hb132 (sa135 (q + 1) (by omega)) (sa135 (a) (by omega))
      have fa137 := (sa135 (q + 3) (by omega)).trans fa130
      have fa138 := (sa135 (q + 4) (by omega)).trans fa133
      have fr139 : frP (fun z => z ≠ q ∧ z ≠ q + 3 ∧ z ≠ q + 4) _ _ := fun z (hz : z ≠ q ∧ z ≠ q + 3 ∧ z ≠ q + 4) => (sa135 z (by omega)).trans (fr134 z hz)
      refine v_iconst (v := nI 0) dX5_readOrder_57 (by decide) ?_
      refine v_istore_n dX5_readOrder_58 rfl (by decide) ?_
      refine v_ls (ls2 := [some (.ref q), some (.int (nI (t p))), some (.ref (gA G 0 3)), some (.int (nI 0))]) rfl ?_
      refine v_iload_n dX5_readOrder_59 rfl ?_
      refine v_aload_n dX5_readOrder_60 rfl ?_
      refine v_callT (st := [.int (nI 0)]) (i := 3) dX5_readOrder_61 (t_J0_length_8abf5 (i := 3) (by omega)) wX5_61 (by omega) rfl rfl ⟨Nat.le_of_ble_eq_true rfl, Nat.le_of_ble_eq_true rfl⟩ (Nat.le_of_ble_eq_true rfl) ⟨Nat.le_of_ble_eq_true rfl, Nat.le_of_ble_eq_true rfl⟩ (fun r n2 h2 hq => ?_)
      obtain ⟨rfl, hn9, rfl⟩ := hq; replace hn9 := hn9.symm; subst hn9
      refine v_st (st2 := [.int (nI 8), .int (nI 0)]) rfl ?_
      refine n_icmp_ge (tgt := 87) (x := 0) (y := 8) dX5_readOrder_64 (by decide) (by decide) (by decide) (fun c => absurd c (by decide)) (fun _ => ?_)
      refine v_aload_n dX5_readOrder_67 rfl ?_
      refine v_aload_n dX5_readOrder_68 rfl ?_
      refine v_iload_n dX5_readOrder_69 rfl ?_
      refine v_callT (st := [.ref q]) (i := 3) dX5_readOrder_70 (t_J0_charAt_5068e (i := 3) (j := 0) (by decide) (by decide)) wX5_62 (by omega) rfl rfl ⟨Nat.le_of_ble_eq_true rfl, Nat.le_of_ble_eq_true rfl⟩ (Nat.le_of_ble_eq_true rfl) ⟨Nat.le_of_ble_eq_true rfl, Nat.le_of_ble_eq_true rfl⟩ (fun r n2 h2 hq => ?_)
      obtain ⟨rfl, hn9, rfl⟩ := hq; replace hn9 := hn9.symm; subst hn9
      refine v_st (st2 := [.int (nI 98), .ref q]) rfl ?_
      refine v_callV (st := []) dX5_readOrder_73 (t_X5_readPartS (cc := 98) fa135 hb136 fa137 fa138 haq hm htn ht (by omega) (by omega) (by omega) (by omega)) wX5_63 fa135 rfl rfl ⟨Nat.le_of_ble_eq_true rfl, Nat.le_of_ble_eq_true rfl⟩ (Nat.le_of_ble_eq_true rfl) ⟨Nat.le_of_ble_eq_true rfl, Nat.le_of_ble_eq_true rfl⟩ (fun r n2 h2 hq => ?_)
      obtain ⟨rfl, hn9, fa140, sa141⟩ := hq; replace hn9 := hn9.symm; subst hn9
      refine v_st (st2 := [.int (nI 1)]) (by rw [bI_t hT]; rfl) ?_
      rw [show sgP (txt t tn) 98 p = p + 1 from if_pos hT] at fa140
      have hb142 := sbP_fr hb136 (sa141 (q + 1) (by omega)) (sa141 (a) (by omega))
      have fa143 := (sa141 (q + 3) (by omega)).trans fa137
      have fa144 := (sa141 (q + 4) (by omega)).trans fa138
      have fr145 : frP (fun z => z ≠ q ∧ z ≠ q + 3 ∧ z ≠ q + 4) _ _ := fun z (hz : z ≠ q ∧ z ≠ q + 3 ∧ z ≠ q + 4) => (sa141 z (by omega)).trans (fr139 z hz)
      have bs146 : p + 1 ≤ tn := by first | omega | exact sg_le (by omega) (by omega)
      refine n_if_ne (tgt := 81) (x := 1) dX5_readOrder_76 (by decide) (by decide) (fun _ => ?_) (fun c => absurd c (by decide))
      refine n_iinc (k := 1) (x := 0) dX5_readOrder_81 (by decide) rfl rfl (by decide) ?_
      refine v_ls (ls2 := [some (.ref q), some (.int (nI (t p))), some (.ref (gA G 0 3)), some (.int (nI 1))]) rfl ?_
      refine v_goto (tgt := 59) dX5_readOrder_84 (by decide) ?_
      refine v_iload_n dX5_readOrder_59 rfl ?_
      refine v_aload_n dX5_readOrder_60 rfl ?_
      refine v_callT (st := [.int (nI 1)]) (i := 3) dX5_readOrder_61 (t_J0_length_8abf5 (i := 3) (by omega)) wX5_61 (by omega) rfl rfl ⟨Nat.le_of_ble_eq_true rfl, Nat.le_of_ble_eq_true rfl⟩ (Nat.le_of_ble_eq_true rfl) ⟨Nat.le_of_ble_eq_true rfl, Nat.le_of_ble_eq_true rfl⟩ (fun r n2 h2 hq => ?_)
      obtain ⟨rfl, hn9, rfl⟩ := hq; replace hn9 := hn9.symm; subst hn9
      refine v_st (st2 := [.int (nI 8), .int (nI 1)]) rfl ?_
      refine n_icmp_ge (tgt := 87) (x := 1) (y := 8) dX5_readOrder_64 (by decide) (by decide) (by decide) (fun c => absurd c (by decide)) (fun _ => ?_)
      refine v_aload_n dX5_readOrder_67 rfl ?_
      refine v_aload_n dX5_readOrder_68 rfl ?_
      refine v_iload_n dX5_readOrder_69 rfl ?_
      refine v_callT (st := [.ref q]) (i := 3) dX5_readOrder_70 (t_J0_charAt_5068e (i := 3) (j := 1) (by decide) (by decide)) wX5_62 (by omega) rfl rfl ⟨Nat.le_of_ble_eq_true rfl, Nat.le_of_ble_eq_true rfl⟩ (Nat.le_of_ble_eq_true rfl) ⟨Nat.le_of_ble_eq_true rfl, Nat.le_of_ble_eq_true rfl⟩ (fun r n2 h2 hq => ?_)
      obtain ⟨rfl, hn9, rfl⟩ := hq; replace hn9 := hn9.symm; subst hn9
      refine v_st (st2 := [.int (nI 49), .ref q]) rfl ?_
      refine v_callV (st := []) dX5_readOrder_73 (t_X5_readPart49 fa140 hb142 fa143 fa144 haq hm htn ht (by omega) (by omega) (by omega)) wX5_63 fa140 rfl rfl ⟨Nat.le_of_ble_eq_true rfl, Nat.le_of_ble_eq_true rfl⟩ (Nat.le_of_ble_eq_true rfl) ⟨Nat.le_of_ble_eq_true rfl, Nat.le_of_ble_eq_true rfl⟩ (fun r n2 h2 hq => ?_)
      obtain ⟨rfl, hn9, fa147, fa148, sa149⟩ := hq; replace hn9 := hn9.symm; subst hn9
      refine v_st (st2 := [.int (nI (bI (0 < dc (txt t tn) 1 (p + 1))))]) rfl ?_
      have hb150 := sbP_fr hb142 (sa149 (q + 1) (by omega)) (sa149 (a) (by omega))
      have fa151 := (sa149 (q + 3) (by omega)).trans fa143
      have fr152 : frP (fun z => z ≠ q ∧ z ≠ q + 3 ∧ z ≠ q + 4) _ _ := fun z (hz : z ≠ q ∧ z ≠ q + 3 ∧ z ≠ q + 4) => (sa149 z (by omega)).trans (fr145 z hz)
      have bs153 : p + 1 + dc (txt t tn) 1 (p + 1) ≤ tn := dc_le (by omega)
      refine n_ifb_ne (tgt := 81) (p := 0 < dc (txt t tn) 1 (p + 1)) dX5_readOrder_76 (by decide) (fun c154 => ?_) (fun c154 => ?_)
      · refine n_iinc (k := 1) (x := 1) dX5_readOrder_81 (by decide) rfl rfl (by decide) ?_
        refine v_ls (ls2 := [some (.ref q), some (.int (nI (t p))), some (.ref (gA G 0 3)), some (.int (nI 2))]) rfl ?_
        refine v_goto (tgt := 59) dX5_readOrder_84 (by decide) ?_
        refine v_iload_n dX5_readOrder_59 rfl ?_
        refine v_aload_n dX5_readOrder_60 rfl ?_
        refine v_callT (st := [.int (nI 2)]) (i := 3) dX5_readOrder_61 (t_J0_length_8abf5 (i := 3) (by omega)) wX5_61 (by omega) rfl rfl ⟨Nat.le_of_ble_eq_true rfl, Nat.le_of_ble_eq_true rfl⟩ (Nat.le_of_ble_eq_true rfl) ⟨Nat.le_of_ble_eq_true rfl, Nat.le_of_ble_eq_true rfl⟩ (fun r n2 h2 hq => ?_)
        obtain ⟨rfl, hn9, rfl⟩ := hq; replace hn9 := hn9.symm; subst hn9
        refine v_st (st2 := [.int (nI 8), .int (nI 2)]) rfl ?_
        refine n_icmp_ge (tgt := 87) (x := 2) (y := 8) dX5_readOrder_64 (by decide) (by decide) (by decide) (fun c => absurd c (by decide)) (fun _ => ?_)
        refine v_aload_n dX5_readOrder_67 rfl ?_
        refine v_aload_n dX5_readOrder_68 rfl ?_
        refine v_iload_n dX5_readOrder_69 rfl ?_
        refine v_callT (st := [.ref q]) (i := 3) dX5_readOrder_70 (t_J0_charAt_5068e (i := 3) (j := 2) (by decide) (by decide)) wX5_62 (by omega) rfl rfl ⟨Nat.le_of_ble_eq_true rfl, Nat.le_of_ble_eq_true rfl⟩ (Nat.le_of_ble_eq_true rfl) ⟨Nat.le_of_ble_eq_true rfl, Nat.le_of_ble_eq_true rfl⟩ (fun r n2 h2 hq => ?_)
        obtain ⟨rfl, hn9, rfl⟩ := hq; replace hn9 := hn9.symm; subst hn9
        refine v_st (st2 := [.int (nI 58), .ref q]) rfl ?_
        refine v_callV (st := []) dX5_readOrder_73 (t_X5_readPartS (cc := 58) fa147 hb150 fa151 fa148 haq hm htn ht (by omega) (by omega) (by omega) (by omega)) wX5_63 fa147 rfl rfl ⟨Nat.le_of_ble_eq_true rfl, Nat.le_of_ble_eq_true rfl⟩ (Nat.le_of_ble_eq_true rfl) ⟨Nat.le_of_ble_eq_true rfl, Nat.le_of_ble_eq_true rfl⟩ (fun r n2 h2 hq => ?_)
        obtain ⟨rfl, hn9, fa155, sa156⟩ := hq; replace hn9 := hn9.symm; subst hn9
        refine v_st (st2 := [.int (nI (bI ((txt t tn) (p + 1 + dc (txt t tn) 1 (p + 1)) = 58)))]) rfl ?_
        have hb157 := sbP_fr hb150 (sa156 (q + 1) (by omega)) (sa156 (a) (by omega))
        have fa158 := (sa156 (q + 3) (by omega)).trans fa151
        have fa159 := (sa156 (q + 4) (by omega)).trans fa148
        have fr160 : frP (fun z => z ≠ q ∧ z ≠ q + 3 ∧ z ≠ q + 4) _ _ := fun z (hz : z ≠ q ∧ z ≠ q + 3 ∧ z ≠ q + 4) => (sa156 z (by omega)).trans (fr152 z hz)
        have bs161 : sgP (txt t tn) 58 (p + 1 + dc (txt t tn) 1 (p + 1)) ≤ tn := by first | omega | exact sg_le (by omega) (by omega)
        refine n_ifb_ne (tgt := 81) (p := (txt t tn) (p + 1 + dc (txt t tn) 1 (p + 1)) = 58) dX5_readOrder_76 (by decide) (fun c162 => ?_) (fun c162 => ?_)
        · refine n_iinc (k := 1) (x := 2) dX5_readOrder_81 (by decide) rfl rfl (by decide) ?_
          refine v_ls (ls2 := [some (.ref q), some (.int (nI (t p))), some (.ref (gA G 0 3)), some (.int (nI 3))]) rfl ?_
          refine v_goto (tgt := 59) dX5_readOrder_84 (by decide) ?_
          refine v_iload_n dX5_readOrder_59 rfl ?_
          refine v_aload_n dX5_readOrder_60 rfl ?_
          refine v_callT (st := [.int (nI 3)]) (i := 3) dX5_readOrder_61 (t_J0_length_8abf5 (i := 3) (by omega)) wX5_61 (by omega) rfl rfl ⟨Nat.le_of_ble_eq_true rfl, Nat.le_of_ble_eq_true rfl⟩ (Nat.le_of_ble_eq_true rfl) ⟨Nat.le_of_ble_eq_true rfl, Nat.le_of_ble_eq_true rfl⟩ (fun r n2 h2 hq => ?_)
          obtain ⟨rfl, hn9, rfl⟩ := hq; replace hn9 := hn9.symm; subst hn9
          refine v_st (st2 := [.int (nI 8), .int (nI 3)]) rfl ?_
          refine n_icmp_ge (tgt := 87) (x := 3) (y := 8) dX5_readOrder_64 (by decide) (by decide) (by decide) (fun c => absurd c (by decide)) (fun _ => ?_)
          refine v_aload_n dX5_readOrder_67 rfl ?_
          refine v_aload_n dX5_readOrder_68 rfl ?_
          refine v_iload_n dX5_readOrder_69 rfl ?_
          refine v_callT (st := [.ref q]) (i := 3) dX5_readOrder_70 (t_J0_charAt_5068e (i := 3) (j := 3) (by decide) (by decide)) wX5_62 (by omega) rfl rfl ⟨Nat.le_of_ble_eq_true rfl, Nat.le_of_ble_eq_true rfl⟩ (Nat.le_of_ble_eq_true rfl) ⟨Nat.le_of_ble_eq_true rfl, Nat.le_of_ble_eq_true rfl⟩ (fun r n2 h2 hq => ?_)
          obtain ⟨rfl, hn9, rfl⟩ := hq; replace hn9 := hn9.symm; subst hn9
          refine v_st (st2 := [.int (nI 50), .ref q]) rfl ?_
          refine v_callV (st := []) dX5_readOrder_73 (t_X5_readPart50 fa155 hb157 fa158 fa159 haq hm htn ht (by omega) (by omega) (by omega)) wX5_63 fa155 rfl rfl ⟨Nat.le_of_ble_eq_true rfl, Nat.le_of_ble_eq_true rfl⟩ (Nat.le_of_ble_eq_true rfl) ⟨Nat.le_of_ble_eq_true rfl, Nat.le_of_ble_eq_true rfl⟩ (fun r n2 h2 hq => ?_)
          obtain ⟨rfl, hn9, fa163, fa164, sa165⟩ := hq; replace hn9 := hn9.symm; subst hn9
          refine v_st (st2 := [.int (nI (bI (0 < dc (txt t tn) 2 (sgP (txt t tn) 58 (p + 1 + dc (txt t tn) 1 (p + 1))))))]) rfl ?_
          have hb166 := sbP_fr hb157 (sa165 (q + 1) (by omega)) (sa165 (a) (by omega))
          have fa167 := (sa165 (q + 3) (by omega)).trans fa158
          have fr168 : frP (fun z => z ≠ q ∧ z ≠ q + 3 ∧ z ≠ q + 4) _ _ := fun z (hz : z ≠ q ∧ z ≠ q + 3 ∧ z ≠ q + 4) => (sa165 z (by omega)).trans (fr160 z hz)
          have bs169 : sgP (txt t tn) 58 (p + 1 + dc (txt t tn) 1 (p + 1)) + dc (txt t tn) 2 (sgP (txt t tn) 58 (p + 1 + dc (txt t tn) 1 (p + 1))) ≤ tn := dc_le (by omega)
          refine n_ifb_ne (tgt := 81) (p := 0 < dc (txt t tn) 2 (sgP (txt t tn) 58 (p + 1 + dc (txt t tn) 1 (p + 1)))) dX5_readOrder_76 (by decide) (fun c170 => ?_) (fun c170 => ?_)
          · refine n_iinc (k := 1) (x := 3) dX5_readOrder_81 (by decide) rfl rfl (by decide) ?_
            refine v_ls (ls2 := [some (.ref q), some (.int (nI (t p))), some (.ref (gA G 0 3)), some (.int (nI 4))]) rfl ?_
            refine v_goto (tgt := 59) dX5_readOrder_84 (by decide) ?_
            refine v_iload_n dX5_readOrder_59 rfl ?_
            refine v_aload_n dX5_readOrder_60 rfl ?_
            refine v_callT (st := [.int (nI 4)]) (i := 3) dX5_readOrder_61 (t_J0_length_8abf5 (i := 3) (by omega)) wX5_61 (by omega) rfl rfl ⟨Nat.le_of_ble_eq_true rfl, Nat.le_of_ble_eq_true rfl⟩ (Nat.le_of_ble_eq_true rfl) ⟨Nat.le_of_ble_eq_true rfl, Nat.le_of_ble_eq_true rfl⟩ (fun r n2 h2 hq => ?_)
            obtain ⟨rfl, hn9, rfl⟩ := hq; replace hn9 := hn9.symm; subst hn9
            refine v_st (st2 := [.int (nI 8), .int (nI 4)]) rfl ?_
            refine n_icmp_ge (tgt := 87) (x := 4) (y := 8) dX5_readOrder_64 (by decide) (by decide) (by decide) (fun c => absurd c (by decide)) (fun _ => ?_)
            refine v_aload_n dX5_readOrder_67 rfl ?_
            refine v_aload_n dX5_readOrder_68 rfl ?_
            refine v_iload_n dX5_readOrder_69 rfl ?_
            refine v_callT (st := [.ref q]) (i := 3) dX5_readOrder_70 (t_J0_charAt_5068e (i := 3) (j := 4) (by decide) (by decide)) wX5_62 (by omega) rfl rfl ⟨Nat.le_of_ble_eq_true rfl, Nat.le_of_ble_eq_true rfl⟩ (Nat.le_of_ble_eq_true rfl) ⟨Nat.le_of_ble_eq_true rfl, Nat.le_of_ble_eq_true rfl⟩ (fun r n2 h2 hq => ?_)
            obtain ⟨rfl, hn9, rfl⟩ := hq; replace hn9 := hn9.symm; subst hn9
            refine v_st (st2 := [.int (nI 64), .ref q]) rfl ?_
            refine v_callV (st := []) dX5_readOrder_73 (t_X5_readPartS (cc := 64) fa163 hb166 fa167 fa164 haq hm htn ht (by omega) (by omega) (by omega) (by omega)) wX5_63 fa163 rfl rfl ⟨Nat.le_of_ble_eq_true rfl, Nat.le_of_ble_eq_true rfl⟩ (Nat.le_of_ble_eq_true rfl) ⟨Nat.le_of_ble_eq_true rfl, Nat.le_of_ble_eq_true rfl⟩ (fun r n2 h2 hq => ?_)
            obtain ⟨rfl, hn9, fa171, sa172⟩ := hq; replace hn9 := hn9.symm; subst hn9
            refine v_st (st2 := [.int (nI (bI ((txt t tn) (sgP (txt t tn) 58 (p + 1 + dc (txt t tn) 1 (p + 1)) + dc (txt t tn) 2 (sgP (txt t tn) 58 (p + 1 + dc (txt t tn) 1 (p + 1)))) = 64)))]) rfl ?_
            have hb173 := sbP_fr hb166 (sa172 (q + 1) (by omega)) (sa172 (a) (by omega))
            have fa174 := (sa172 (q + 3) (by omega)).trans fa167
            have fa175 := (sa172 (q + 4) (by omega)).trans fa164
            have fr176 : frP (fun z => z ≠ q ∧ z ≠ q + 3 ∧ z ≠ q + 4) _ _ := fun z (hz : z ≠ q ∧ z ≠ q + 3 ∧ z ≠ q + 4) => (sa172 z (by omega)).trans (fr168 z hz)
            have bs177 : sgP (txt t tn) 64 (sgP (txt t tn) 58 (p + 1 + dc (txt t tn) 1 (p + 1)) + dc (txt t tn) 2 (sgP (txt t tn) 58 (p + 1 + dc (txt t tn) 1 (p + 1)))) ≤ tn := by first | omega | exact sg_le (by omega) (by omega)
            refine n_ifb_ne (tgt := 81) (p := (txt t tn) (sgP (txt t tn) 58 (p + 1 + dc (txt t tn) 1 (p + 1)) + dc (txt t tn) 2 (sgP (txt t tn) 58 (p + 1 + dc (txt t tn) 1 (p + 1)))) = 64) dX5_readOrder_76 (by decide) (fun c178 => ?_) (fun c178 => ?_)
            · refine n_iinc (k := 1) (x := 4) dX5_readOrder_81 (by decide) rfl rfl (by decide) ?_
              refine v_ls (ls2 := [some (.ref q), some (.int (nI (t p))), some (.ref (gA G 0 3)), some (.int (nI 5))]) rfl ?_
              refine v_goto (tgt := 59) dX5_readOrder_84 (by decide) ?_
              refine v_iload_n dX5_readOrder_59 rfl ?_
              refine v_aload_n dX5_readOrder_60 rfl ?_
              refine v_callT (st := [.int (nI 5)]) (i := 3) dX5_readOrder_61 (t_J0_length_8abf5 (i := 3) (by omega)) wX5_61 (by omega) rfl rfl ⟨Nat.le_of_ble_eq_true rfl, Nat.le_of_ble_eq_true rfl⟩ (Nat.le_of_ble_eq_true rfl) ⟨Nat.le_of_ble_eq_true rfl, Nat.le_of_ble_eq_true rfl⟩ (fun r n2 h2 hq => ?_)
              obtain ⟨rfl, hn9, rfl⟩ := hq; replace hn9 := hn9.symm; subst hn9
              refine v_st (st2 := [.int (nI 8), .int (nI 5)]) rfl ?_
              refine n_icmp_ge (tgt := 87) (x := 5) (y := 8) dX5_readOrder_64 (by decide) (by decide) (by decide) (fun c => absurd c (by decide)) (fun _ => ?_)
              refine v_aload_n dX5_readOrder_67 rfl ?_
              refine v_aload_n dX5_readOrder_68 rfl ?_
              refine v_iload_n dX5_readOrder_69 rfl ?_
              refine v_callT (st := [.ref q]) (i := 3) dX5_readOrder_70 (t_J0_charAt_5068e (i := 3) (j := 5) (by decide) (by decide)) wX5_62 (by omega) rfl rfl ⟨Nat.le_of_ble_eq_true rfl, Nat.le_of_ble_eq_true rfl⟩ (Nat.le_of_ble_eq_true rfl) ⟨Nat.le_of_ble_eq_true rfl, Nat.le_of_ble_eq_true rfl⟩ (fun r n2 h2 hq => ?_)
              obtain ⟨rfl, hn9, rfl⟩ := hq; replace hn9 := hn9.symm; subst hn9
              refine v_st (st2 := [.int (nI 49), .ref q]) rfl ?_
              refine v_callV (st := []) dX5_readOrder_73 (t_X5_readPart49 fa171 hb173 fa174 fa175 haq hm htn ht (by omega) (by omega) (by omega)) wX5_63 fa171 rfl rfl ⟨Nat.le_of_ble_eq_true rfl, Nat.le_of_ble_eq_true rfl⟩ (Nat.le_of_ble_eq_true rfl) ⟨Nat.le_of_ble_eq_true rfl, Nat.le_of_ble_eq_true rfl⟩ (fun r n2 h2 hq => ?_)
              obtain ⟨rfl, hn9, fa179, fa180, sa181⟩ := hq; replace hn9 := hn9.symm; subst hn9
              refine v_st (st2 := [.int (nI (bI (0 < dc (txt t tn) 1 (sgP (txt t tn) 64 (sgP (txt t tn) 58 (p + 1 + dc (txt t tn) 1 (p + 1)) + dc (txt t tn) 2 (sgP (txt t tn) 58 (p + 1 + dc (txt t tn) 1 (p + 1))))))))]) rfl ?_
              have hb182 := sbP_fr hb173 (sa181 (q + 1) (by omega)) (sa181 (a) (by omega))
              have fa183 := (sa181 (q + 3) (by omega)).trans fa174
              have fr184 : frP (fun z => z ≠ q ∧ z ≠ q + 3 ∧ z ≠ q + 4) _ _ := fun z (hz : z ≠ q ∧ z ≠ q + 3 ∧ z ≠ q + 4) => (sa181 z (by omega)).trans (fr176 z hz)
              have bs185 : sgP (txt t tn) 64 (sgP (txt t tn) 58 (p + 1 + dc (txt t tn) 1 (p + 1)) + dc (txt t tn) 2 (sgP (txt t tn) 58 (p + 1 + dc (txt t tn) 1 (p + 1)))) + dc (txt t tn) 1 (sgP (txt t tn) 64 (sgP (txt t tn) 58 (p + 1 + dc (txt t tn) 1 (p + 1)) + dc (txt t tn) 2 (sgP (txt t tn) 58 (p + 1 + dc (txt t tn) 1 (p + 1))))) ≤ tn := dc_le (by omega)
              refine n_ifb_ne (tgt := 81) (p := 0 < dc (txt t tn) 1 (sgP (txt t tn) 64 (sgP (txt t tn) 58 (p + 1 + dc (txt t tn) 1 (p + 1)) + dc (txt t tn) 2 (sgP (txt t tn) 58 (p + 1 + dc (txt t tn) 1 (p + 1)))))) dX5_readOrder_76 (by decide) (fun c186 => ?_) (fun c186 => ?_)
              · refine n_iinc (k := 1) (x := 5) dX5_readOrder_81 (by decide) rfl rfl (by decide) ?_
                refine v_ls (ls2 := [some (.ref q), some (.int (nI (t p))), some (.ref (gA G 0 3)), some (.int (nI 6))]) rfl ?_
                refine v_goto (tgt := 59) dX5_readOrder_84 (by decide) ?_
                refine v_iload_n dX5_readOrder_59 rfl ?_
                refine v_aload_n dX5_readOrder_60 rfl ?_
                refine v_callT (st := [.int (nI 6)]) (i := 3) dX5_readOrder_61 (t_J0_length_8abf5 (i := 3) (by omega)) wX5_61 (by omega) rfl rfl ⟨Nat.le_of_ble_eq_true rfl, Nat.le_of_ble_eq_true rfl⟩ (Nat.le_of_ble_eq_true rfl) ⟨Nat.le_of_ble_eq_true rfl, Nat.le_of_ble_eq_true rfl⟩ (fun r n2 h2 hq => ?_)
                obtain ⟨rfl, hn9, rfl⟩ := hq; replace hn9 := hn9.symm; subst hn9
                refine v_st (st2 := [.int (nI 8), .int (nI 6)]) rfl ?_
                refine n_icmp_ge (tgt := 87) (x := 6) (y := 8) dX5_readOrder_64 (by decide) (by decide) (by decide) (fun c => absurd c (by decide)) (fun _ => ?_)
                refine v_aload_n dX5_readOrder_67 rfl ?_
                refine v_aload_n dX5_readOrder_68 rfl ?_
                refine v_iload_n dX5_readOrder_69 rfl ?_
                refine v_callT (st := [.ref q]) (i := 3) dX5_readOrder_70 (t_J0_charAt_5068e (i := 3) (j := 6) (by decide) (by decide)) wX5_62 (by omega) rfl rfl ⟨Nat.le_of_ble_eq_true rfl, Nat.le_of_ble_eq_true rfl⟩ (Nat.le_of_ble_eq_true rfl) ⟨Nat.le_of_ble_eq_true rfl, Nat.le_of_ble_eq_true rfl⟩ (fun r n2 h2 hq => ?_)
                obtain ⟨rfl, hn9, rfl⟩ := hq; replace hn9 := hn9.symm; subst hn9
                refine v_st (st2 := [.int (nI 61), .ref q]) rfl ?_
                refine v_callV (st := []) dX5_readOrder_73 (t_X5_readPartS (cc := 61) fa179 hb182 fa183 fa180 haq hm htn ht (by omega) (by omega) (by omega) (by omega)) wX5_63 fa179 rfl rfl ⟨Nat.le_of_ble_eq_true rfl, Nat.le_of_ble_eq_true rfl⟩ (Nat.le_of_ble_eq_true rfl) ⟨Nat.le_of_ble_eq_true rfl, Nat.le_of_ble_eq_true rfl⟩ (fun r n2 h2 hq => ?_)
                obtain ⟨rfl, hn9, fa187, sa188⟩ := hq; replace hn9 := hn9.symm; subst hn9
                refine v_st (st2 := [.int (nI (bI ((txt t tn) (sgP (txt t tn) 64 (sgP (txt t tn) 58 (p + 1 + dc (txt t tn) 1 (p + 1)) + dc (txt t tn) 2 (sgP (txt t tn) 58 (p + 1 + dc (txt t tn) 1 (p + 1)))) + dc (txt t tn) 1 (sgP (txt t tn) 64 (sgP (txt t tn) 58 (p + 1 + dc (txt t tn) 1 (p + 1)) + dc (txt t tn) 2 (sgP (txt t tn) 58 (p + 1 + dc (txt t tn) 1 (p + 1)))))) = 61)))]) rfl ?_
                have hb189 := sbP_fr hb182 (sa188 (q + 1) (by omega)) (sa188 (a) (by omega))
                have fa190 := (sa188 (q + 3) (by omega)).trans fa183
                have fa191 := (sa188 (q + 4) (by omega)).trans fa180
                have fr192 : frP (fun z => z ≠ q ∧ z ≠ q + 3 ∧ z ≠ q + 4) _ _ := fun z (hz : z ≠ q ∧ z ≠ q + 3 ∧ z ≠ q + 4) => (sa188 z (by omega)).trans (fr184 z hz)
                have bs193 : sgP (txt t tn) 61 (sgP (txt t tn) 64 (sgP (txt t tn) 58 (p + 1 + dc (txt t tn) 1 (p + 1)) + dc (txt t tn) 2 (sgP (txt t tn) 58 (p + 1 + dc (txt t tn) 1 (p + 1)))) + dc (txt t tn) 1 (sgP (txt t tn) 64 (sgP (txt t tn) 58 (p + 1 + dc (txt t tn) 1 (p + 1)) + dc (txt t tn) 2 (sgP (txt t tn) 58 (p + 1 + dc (txt t tn) 1 (p + 1)))))) ≤ tn := by first | omega | exact sg_le (by omega) (by omega)
                refine n_ifb_ne (tgt := 81) (p := (txt t tn) (sgP (txt t tn) 64 (sgP (txt t tn) 58 (p + 1 + dc (txt t tn) 1 (p + 1)) + dc (txt t tn) 2 (sgP (txt t tn) 58 (p + 1 + dc (txt t tn) 1 (p + 1)))) + dc (txt t tn) 1 (sgP (txt t tn) 64 (sgP (txt t tn) 58 (p + 1 + dc (txt t tn) 1 (p + 1)) + dc (txt t tn) 2 (sgP (txt t tn) 58 (p + 1 + dc (txt t tn) 1 (p + 1)))))) = 61) dX5_readOrder_76 (by decide) (fun c194 => ?_) (fun c194 => ?_)
                · refine n_iinc (k := 1) (x := 6) dX5_readOrder_81 (by decide) rfl rfl (by decide) ?_
                  refine v_ls (ls2 := [some (.ref q), some (.int (nI (t p))), some (.ref (gA G 0 3)), some (.int (nI 7))]) rfl ?_
                  refine v_goto (tgt := 59) dX5_readOrder_84 (by decide) ?_
                  refine v_iload_n dX5_readOrder_59 rfl ?_
                  refine v_aload_n dX5_readOrder_60 rfl ?_
                  refine v_callT (st := [.int (nI 7)]) (i := 3) dX5_readOrder_61 (t_J0_length_8abf5 (i := 3) (by omega)) wX5_61 (by omega) rfl rfl ⟨Nat.le_of_ble_eq_true rfl, Nat.le_of_ble_eq_true rfl⟩ (Nat.le_of_ble_eq_true rfl) ⟨Nat.le_of_ble_eq_true rfl, Nat.le_of_ble_eq_true rfl⟩ (fun r n2 h2 hq => ?_)
                  obtain ⟨rfl, hn9, rfl⟩ := hq; replace hn9 := hn9.symm; subst hn9
                  refine v_st (st2 := [.int (nI 8), .int (nI 7)]) rfl ?_
                  refine n_icmp_ge (tgt := 87) (x := 7) (y := 8) dX5_readOrder_64 (by decide) (by decide) (by decide) (fun c => absurd c (by decide)) (fun _ => ?_)
                  refine v_aload_n dX5_readOrder_67 rfl ?_
                  refine v_aload_n dX5_readOrder_68 rfl ?_
                  refine v_iload_n dX5_readOrder_69 rfl ?_
                  refine v_callT (st := [.ref q]) (i := 3) dX5_readOrder_70 (t_J0_charAt_5068e (i := 3) (j := 7) (by decide) (by decide)) wX5_62 (by omega) rfl rfl ⟨Nat.le_of_ble_eq_true rfl, Nat.le_of_ble_eq_true rfl⟩ (Nat.le_of_ble_eq_true rfl) ⟨Nat.le_of_ble_eq_true rfl, Nat.le_of_ble_eq_true rfl⟩ (fun r n2 h2 hq => ?_)
                  obtain ⟨rfl, hn9, rfl⟩ := hq; replace hn9 := hn9.symm; subst hn9
                  refine v_st (st2 := [.int (nI 50), .ref q]) rfl ?_
                  refine v_callV (st := []) dX5_readOrder_73 (t_X5_readPart50 fa187 hb189 fa190 fa191 haq hm htn ht (by omega) (by omega) (by omega)) wX5_63 fa187 rfl rfl ⟨Nat.le_of_ble_eq_true rfl, Nat.le_of_ble_eq_true rfl⟩ (Nat.le_of_ble_eq_true rfl) ⟨Nat.le_of_ble_eq_true rfl, Nat.le_of_ble_eq_true rfl⟩ (fun r n2 h2 hq => ?_)
                  obtain ⟨rfl, hn9, fa195, fa196, sa197⟩ := hq; replace hn9 := hn9.symm; subst hn9
                  refine v_st (st2 := [.int (nI (bI (0 < dc (txt t tn) 2 (sgP (txt t tn) 61 (sgP (txt t tn) 64 (sgP (txt t tn) 58 (p + 1 + dc (txt t tn) 1 (p + 1)) + dc (txt t tn) 2 (sgP (txt t tn) 58 (p + 1 + dc (txt t tn) 1 (p + 1)))) + dc (txt t tn) 1 (sgP (txt t tn) 64 (sgP (txt t tn) 58 (p + 1 + dc (txt t tn) 1 (p + 1)) + dc (txt t tn) 2 (sgP (txt t tn) 58 (p + 1 + dc (txt t tn) 1 (p + 1))))))))))]) rfl ?_
                  have hb198 := sbP_fr hb189 (sa197 (q + 1) (by omega)) (sa197 (a) (by omega))
                  have fa199 := (sa197 (q + 3) (by omega)).trans fa190
                  have fr200 : frP (fun z => z ≠ q ∧ z ≠ q + 3 ∧ z ≠ q + 4) _ _ := fun z (hz : z ≠ q ∧ z ≠ q + 3 ∧ z ≠ q + 4) => (sa197 z (by omega)).trans (fr192 z hz)
                  have bs201 : sgP (txt t tn) 61 (sgP (txt t tn) 64 (sgP (txt t tn) 58 (p + 1 + dc (txt t tn) 1 (p + 1)) + dc (txt t tn) 2 (sgP (txt t tn) 58 (p + 1 + dc (txt t tn) 1 (p + 1)))) + dc (txt t tn) 1 (sgP (txt t tn) 64 (sgP (txt t tn) 58 (p + 1 + dc (txt t tn) 1 (p + 1)) + dc (txt t tn) 2 (sgP (txt t tn) 58 (p + 1 + dc (txt t tn) 1 (p + 1)))))) + dc (txt t tn) 2 (sgP (txt t tn) 61 (sgP (txt t tn) 64 (sgP (txt t tn) 58 (p + 1 + dc (txt t tn) 1 (p + 1)) + dc (txt t tn) 2 (sgP (txt t tn) 58 (p + 1 + dc (txt t tn) 1 (p + 1)))) + dc (txt t tn) 1 (sgP (txt t tn) 64 (sgP (txt t tn) 58 (p + 1 + dc (txt t tn) 1 (p + 1)) + dc (txt t tn) 2 (sgP (txt t tn) 58 (p + 1 + dc (txt t tn) 1 (p + 1))))))) ≤ tn := dc_le (by omega)
                  refine n_ifb_ne (tgt := 81) (p := 0 < dc (txt t tn) 2 (sgP (txt t tn) 61 (sgP (txt t tn) 64 (sgP (txt t tn) 58 (p + 1 + dc (txt t tn) 1 (p + 1)) + dc (txt t tn) 2 (sgP (txt t tn) 58 (p + 1 + dc (txt t tn) 1 (p + 1)))) + dc (txt t tn) 1 (sgP (txt t tn) 64 (sgP (txt t tn) 58 (p + 1 + dc (txt t tn) 1 (p + 1)) + dc (txt t tn) 2 (sgP (txt t tn) 58 (p + 1 + dc (txt t tn) 1 (p + 1)))))))) dX5_readOrder_76 (by decide) (fun c202 => ?_) (fun c202 => ?_)
                  · refine n_iinc (k := 1) (x := 7) dX5_readOrder_81 (by decide) rfl rfl (by decide) ?_
                    refine v_ls (ls2 := [some (.ref q), some (.int (nI (t p))), some (.ref (gA G 0 3)), some (.int (nI 8))]) rfl ?_
                    refine v_goto (tgt := 59) dX5_readOrder_84 (by decide) ?_
                    refine v_iload_n dX5_readOrder_59 rfl ?_
                    refine v_aload_n dX5_readOrder_60 rfl ?_
                    refine v_callT (st := [.int (nI 8)]) (i := 3) dX5_readOrder_61 (t_J0_length_8abf5 (i := 3) (by omega)) wX5_61 (by omega) rfl rfl ⟨Nat.le_of_ble_eq_true rfl, Nat.le_of_ble_eq_true rfl⟩ (Nat.le_of_ble_eq_true rfl) ⟨Nat.le_of_ble_eq_true rfl, Nat.le_of_ble_eq_true rfl⟩ (fun r n2 h2 hq => ?_)
                    obtain ⟨rfl, hn9, rfl⟩ := hq; replace hn9 := hn9.symm; subst hn9
                    refine v_st (st2 := [.int (nI 8), .int (nI 8)]) rfl ?_
                    refine n_icmp_ge (tgt := 87) (x := 8) (y := 8) dX5_readOrder_64 (by decide) (by decide) (by decide) (fun _ => ?_) (fun c => absurd c (by decide))
                    refine v_iconst (v := nI 1) dX5_readOrder_87 (by decide) ?_
                    refine v_zret (ty := .boolean) dX5_readOrder_88 rfl (by decide) ?_ (Nat.le_of_ble_eq_true rfl) (Nat.le_of_ble_eq_true rfl)
                    have e8 : shI (txt t tn p) = 3 := by rw [hTp]; exact hsh
                    have e9 : oS (txt t tn) 3 p = (true, sgP (txt t tn) 61 (sgP (txt t tn) 64 (sgP (txt t tn) 58 (p + 1 + dc (txt t tn) 1 (p + 1)) + dc (txt t tn) 2 (sgP (txt t tn) 58 (p + 1 + dc (txt t tn) 1 (p + 1)))) + dc (txt t tn) 1 (sgP (txt t tn) 64 (sgP (txt t tn) 58 (p + 1 + dc (txt t tn) 1 (p + 1)) + dc (txt t tn) 2 (sgP (txt t tn) 58 (p + 1 + dc (txt t tn) 1 (p + 1)))))) + dc (txt t tn) 2 (sgP (txt t tn) 61 (sgP (txt t tn) 64 (sgP (txt t tn) 58 (p + 1 + dc (txt t tn) 1 (p + 1)) + dc (txt t tn) 2 (sgP (txt t tn) 58 (p + 1 + dc (txt t tn) 1 (p + 1)))) + dc (txt t tn) 1 (sgP (txt t tn) 64 (sgP (txt t tn) 58 (p + 1 + dc (txt t tn) 1 (p + 1)) + dc (txt t tn) 2 (sgP (txt t tn) 58 (p + 1 + dc (txt t tn) 1 (p + 1)))))))) := by simp only [oS, sN, sS, sPM, decide_eq_true c154, decide_eq_true c162, decide_eq_true c170, decide_eq_true c178, decide_eq_true c186, decide_eq_true c194, decide_eq_true c202, if_true, if_false, reduceIte, Bool.false_eq_true]
                    refine ⟨0 + 1 + 1 + 1 + 1, va_up (va_up (va_up (va_up N (c * 4 + 0) (dv (txt t tn) 0 1 (p + 1))) (c * 4 + (0 + 1)) (dv (txt t tn) 0 2 (sgP (txt t tn) 58 (p + 1 + dc (txt t tn) 1 (p + 1))))) (c * 4 + (0 + 1 + 1)) (dv (txt t tn) 0 1 (sgP (txt t tn) 64 (sgP (txt t tn) 58 (p + 1 + dc (txt t tn) 1 (p + 1)) + dc (txt t tn) 2 (sgP (txt t tn) 58 (p + 1 + dc (txt t tn) 1 (p + 1))))))) (c * 4 + (0 + 1 + 1 + 1)) (dv (txt t tn) 0 2 (sgP (txt t tn) 61 (sgP (txt t tn) 64 (sgP (txt t tn) 58 (p + 1 + dc (txt t tn) 1 (p + 1)) + dc (txt t tn) 2 (sgP (txt t tn) 58 (p + 1 + dc (txt t tn) 1 (p + 1)))) + dc (txt t tn) 1 (sgP (txt t tn) 64 (sgP (txt t tn) 58 (p + 1 + dc (txt t tn) 1 (p + 1)) + dc (txt t tn) 2 (sgP (txt t tn) 58 (p + 1 + dc (txt t tn) 1 (p + 1)))))))), va_up L c (t p), by rw [e8, e9]; rfl, rfl, by rw [e8, e9]; exact fa195, fa199, fa196, fun k hk9 => va_un (by omega), fun k hk9 => ?_, fun z => ?_, fr200⟩
                    · rw [va_un (by omega), va_un (by omega), va_un (by omega), va_un (by omega)]
                    · rw [e8]; refine ⟨by rw [hTp]; exact va_us, fun j hj => ?_⟩
                      obtain rfl | rfl | rfl | rfl := (show j = 0 ∨ j = 1 ∨ j = 2 ∨ j = 3 by have : j < 4 := hj; omega)
                      · rw [va_un (by omega), va_un (by omega), va_un (by omega), va_us]; rfl
                      · rw [va_un (by omega), va_un (by omega), va_us]; rfl
                      · rw [va_un (by omega), va_us]; rfl
                      · exact va_us
                  · refine v_iconst (v := nI 0) dX5_readOrder_79 (by decide) ?_
                    refine v_zret (ty := .boolean) dX5_readOrder_80 rfl (by decide) ?_ (Nat.le_of_ble_eq_true rfl) (Nat.le_of_ble_eq_true rfl)
                    have e8 : shI (txt t tn p) = 3 := by rw [hTp]; exact hsh
                    have e9 : oS (txt t tn) 3 p = (false, sgP (txt t tn) 61 (sgP (txt t tn) 64 (sgP (txt t tn) 58 (p + 1 + dc (txt t tn) 1 (p + 1)) + dc (txt t tn) 2 (sgP (txt t tn) 58 (p + 1 + dc (txt t tn) 1 (p + 1)))) + dc (txt t tn) 1 (sgP (txt t tn) 64 (sgP (txt t tn) 58 (p + 1 + dc (txt t tn) 1 (p + 1)) + dc (txt t tn) 2 (sgP (txt t tn) 58 (p + 1 + dc (txt t tn) 1 (p + 1)))))) + dc (txt t tn) 2 (sgP (txt t tn) 61 (sgP (txt t tn) 64 (sgP (txt t tn) 58 (p + 1 + dc (txt t tn) 1 (p + 1)) + dc (txt t tn) 2 (sgP (txt t tn) 58 (p + 1 + dc (txt t tn) 1 (p + 1)))) + dc (txt t tn) 1 (sgP (txt t tn) 64 (sgP (txt t tn) 58 (p + 1 + dc (txt t tn) 1 (p + 1)) + dc (txt t tn) 2 (sgP (txt t tn) 58 (p + 1 + dc (txt t tn) 1 (p + 1)))))))) := by simp only [oS, sN, sS, sPM, decide_eq_true c154, decide_eq_true c162, decide_eq_true c170, decide_eq_true c178, decide_eq_true c186, decide_eq_true c194, decide_eq_false c202, if_true, if_false, reduceIte, Bool.false_eq_true]
                    refine ⟨0 + 1 + 1 + 1 + 1, va_up (va_up (va_up (va_up N (c * 4 + 0) (dv (txt t tn) 0 1 (p + 1))) (c * 4 + (0 + 1)) (dv (txt t tn) 0 2 (sgP (txt t tn) 58 (p + 1 + dc (txt t tn) 1 (p + 1))))) (c * 4 + (0 + 1 + 1)) (dv (txt t tn) 0 1 (sgP (txt t tn) 64 (sgP (txt t tn) 58 (p + 1 + dc (txt t tn) 1 (p + 1)) + dc (txt t tn) 2 (sgP (txt t tn) 58 (p + 1 + dc (txt t tn) 1 (p + 1))))))) (c * 4 + (0 + 1 + 1 + 1)) (dv (txt t tn) 0 2 (sgP (txt t tn) 61 (sgP (txt t tn) 64 (sgP (txt t tn) 58 (p + 1 + dc (txt t tn) 1 (p + 1)) + dc (txt t tn) 2 (sgP (txt t tn) 58 (p + 1 + dc (txt t tn) 1 (p + 1)))) + dc (txt t tn) 1 (sgP (txt t tn) 64 (sgP (txt t tn) 58 (p + 1 + dc (txt t tn) 1 (p + 1)) + dc (txt t tn) 2 (sgP (txt t tn) 58 (p + 1 + dc (txt t tn) 1 (p + 1)))))))), va_up L c (t p), by rw [e8, e9]; rfl, rfl, by rw [e8, e9]; exact fa195, fa199, fa196, fun k hk9 => va_un (by omega), fun k hk9 => ?_, fun z => ?_, fr200⟩
                    · rw [va_un (by omega), va_un (by omega), va_un (by omega), va_un (by omega)]
                    · rw [e8, e9] at z; exact absurd z Bool.false_ne_true
                · refine v_iconst (v := nI 0) dX5_readOrder_79 (by decide) ?_
                  refine v_zret (ty := .boolean) dX5_readOrder_80 rfl (by decide) ?_ (Nat.le_of_ble_eq_true rfl) (Nat.le_of_ble_eq_true rfl)
                  have e8 : shI (txt t tn p) = 3 := by rw [hTp]; exact hsh
                  have e9 : oS (txt t tn) 3 p = (false, sgP (txt t tn) 61 (sgP (txt t tn) 64 (sgP (txt t tn) 58 (p + 1 + dc (txt t tn) 1 (p + 1)) + dc (txt t tn) 2 (sgP (txt t tn) 58 (p + 1 + dc (txt t tn) 1 (p + 1)))) + dc (txt t tn) 1 (sgP (txt t tn) 64 (sgP (txt t tn) 58 (p + 1 + dc (txt t tn) 1 (p + 1)) + dc (txt t tn) 2 (sgP (txt t tn) 58 (p + 1 + dc (txt t tn) 1 (p + 1))))))) := by simp only [oS, sN, sS, sPM, decide_eq_true c154, decide_eq_true c162, decide_eq_true c170, decide_eq_true c178, decide_eq_true c186, decide_eq_false c194, if_true, if_false, reduceIte, Bool.false_eq_true]
                  refine ⟨0 + 1 + 1 + 1, va_up (va_up (va_up N (c * 4 + 0) (dv (txt t tn) 0 1 (p + 1))) (c * 4 + (0 + 1)) (dv (txt t tn) 0 2 (sgP (txt t tn) 58 (p + 1 + dc (txt t tn) 1 (p + 1))))) (c * 4 + (0 + 1 + 1)) (dv (txt t tn) 0 1 (sgP (txt t tn) 64 (sgP (txt t tn) 58 (p + 1 + dc (txt t tn) 1 (p + 1)) + dc (txt t tn) 2 (sgP (txt t tn) 58 (p + 1 + dc (txt t tn) 1 (p + 1)))))), va_up L c (t p), by rw [e8, e9]; rfl, rfl, by rw [e8, e9]; exact fa187, fa190, fa191, fun k hk9 => va_un (by omega), fun k hk9 => ?_, fun z => ?_, fr192⟩
                  · rw [va_un (by omega), va_un (by omega), va_un (by omega)]
                  · rw [e8, e9] at z; exact absurd z Bool.false_ne_true
              · refine v_iconst (v := nI 0) dX5_readOrder_79 (by decide) ?_
                refine v_zret (ty := .boolean) dX5_readOrder_80 rfl (by decide) ?_ (Nat.le_of_ble_eq_true rfl) (Nat.le_of_ble_eq_true rfl)
                have e8 : shI (txt t tn p) = 3 := by rw [hTp]; exact hsh
                have e9 : oS (txt t tn) 3 p = (false, sgP (txt t tn) 64 (sgP (txt t tn) 58 (p + 1 + dc (txt t tn) 1 (p + 1)) + dc (txt t tn) 2 (sgP (txt t tn) 58 (p + 1 + dc (txt t tn) 1 (p + 1)))) + dc (txt t tn) 1 (sgP (txt t tn) 64 (sgP (txt t tn) 58 (p + 1 + dc (txt t tn) 1 (p + 1)) + dc (txt t tn) 2 (sgP (txt t tn) 58 (p + 1 + dc (txt t tn) 1 (p + 1)))))) := by simp only [oS, sN, sS, sPM, decide_eq_true c154, decide_eq_true c162, decide_eq_true c170, decide_eq_true c178, decide_eq_false c186, if_true, if_false, reduceIte, Bool.false_eq_true]
                refine ⟨0 + 1 + 1 + 1, va_up (va_up (va_up N (c * 4 + 0) (dv (txt t tn) 0 1 (p + 1))) (c * 4 + (0 + 1)) (dv (txt t tn) 0 2 (sgP (txt t tn) 58 (p + 1 + dc (txt t tn) 1 (p + 1))))) (c * 4 + (0 + 1 + 1)) (dv (txt t tn) 0 1 (sgP (txt t tn) 64 (sgP (txt t tn) 58 (p + 1 + dc (txt t tn) 1 (p + 1)) + dc (txt t tn) 2 (sgP (txt t tn) 58 (p + 1 + dc (txt t tn) 1 (p + 1)))))), va_up L c (t p), by rw [e8, e9]; rfl, rfl, by rw [e8, e9]; exact fa179, fa183, fa180, fun k hk9 => va_un (by omega), fun k hk9 => ?_, fun z => ?_, fr184⟩
                · rw [va_un (by omega), va_un (by omega), va_un (by omega)]
                · rw [e8, e9] at z; exact absurd z Bool.false_ne_true
            · refine v_iconst (v := nI 0) dX5_readOrder_79 (by decide) ?_
              refine v_zret (ty := .boolean) dX5_readOrder_80 rfl (by decide) ?_ (Nat.le_of_ble_eq_true rfl) (Nat.le_of_ble_eq_true rfl)
              have e8 : shI (txt t tn p) = 3 := by rw [hTp]; exact hsh
              have e9 : oS (txt t tn) 3 p = (false, sgP (txt t tn) 64 (sgP (txt t tn) 58 (p + 1 + dc (txt t tn) 1 (p + 1)) + dc (txt t tn) 2 (sgP (txt t tn) 58 (p + 1 + dc (txt t tn) 1 (p + 1))))) := by simp only [oS, sN, sS, sPM, decide_eq_true c154, decide_eq_true c162, decide_eq_true c170, decide_eq_false c178, if_true, if_false, reduceIte, Bool.false_eq_true]
              refine ⟨0 + 1 + 1, va_up (va_up N (c * 4 + 0) (dv (txt t tn) 0 1 (p + 1))) (c * 4 + (0 + 1)) (dv (txt t tn) 0 2 (sgP (txt t tn) 58 (p + 1 + dc (txt t tn) 1 (p + 1)))), va_up L c (t p), by rw [e8, e9]; rfl, rfl, by rw [e8, e9]; exact fa171, fa174, fa175, fun k hk9 => va_un (by omega), fun k hk9 => ?_, fun z => ?_, fr176⟩
              · rw [va_un (by omega), va_un (by omega)]
              · rw [e8, e9] at z; exact absurd z Bool.false_ne_true
          · refine v_iconst (v := nI 0) dX5_readOrder_79 (by decide) ?_
            refine v_zret (ty := .boolean) dX5_readOrder_80 rfl (by decide) ?_ (Nat.le_of_ble_eq_true rfl) (Nat.le_of_ble_eq_true rfl)
            have e8 : shI (txt t tn p) = 3 := by rw [hTp]; exact hsh
            have e9 : oS (txt t tn) 3 p = (false, sgP (txt t tn) 58 (p + 1 + dc (txt t tn) 1 (p + 1)) + dc (txt t tn) 2 (sgP (txt t tn) 58 (p + 1 + dc (txt t tn) 1 (p + 1)))) := by simp only [oS, sN, sS, sPM, decide_eq_true c154, decide_eq_true c162, decide_eq_false c170, if_true, if_false, reduceIte, Bool.false_eq_true]
            refine ⟨0 + 1 + 1, va_up (va_up N (c * 4 + 0) (dv (txt t tn) 0 1 (p + 1))) (c * 4 + (0 + 1)) (dv (txt t tn) 0 2 (sgP (txt t tn) 58 (p + 1 + dc (txt t tn) 1 (p + 1)))), va_up L c (t p), by rw [e8, e9]; rfl, rfl, by rw [e8, e9]; exact fa163, fa167, fa164, fun k hk9 => va_un (by omega), fun k hk9 => ?_, fun z => ?_, fr168⟩
            · rw [va_un (by omega), va_un (by omega)]
            · rw [e8, e9] at z; exact absurd z Bool.false_ne_true
        · refine v_iconst (v := nI 0) dX5_readOrder_79 (by decide) ?_
          refine v_zret (ty := .boolean) dX5_readOrder_80 rfl (by decide) ?_ (Nat.le_of_ble_eq_true rfl) (Nat.le_of_ble_eq_true rfl)
          have e8 : shI (txt t tn p) = 3 := by rw [hTp]; exact hsh
          have e9 : oS (txt t tn) 3 p = (false, sgP (txt t tn) 58 (p + 1 + dc (txt t tn) 1 (p + 1))) := by simp only [oS, sN, sS, sPM, decide_eq_true c154, decide_eq_false c162, if_true, if_false, reduceIte, Bool.false_eq_true]
          refine ⟨0 + 1, va_up N (c * 4 + 0) (dv (txt t tn) 0 1 (p + 1)), va_up L c (t p), by rw [e8, e9]; rfl, rfl, by rw [e8, e9]; exact fa155, fa158, fa159, fun k hk9 => va_un (by omega), fun k hk9 => ?_, fun z => ?_, fr160⟩
          · rw [va_un (by omega)]
          · rw [e8, e9] at z; exact absurd z Bool.false_ne_true
      · refine v_iconst (v := nI 0) dX5_readOrder_79 (by decide) ?_
        refine v_zret (ty := .boolean) dX5_readOrder_80 rfl (by decide) ?_ (Nat.le_of_ble_eq_true rfl) (Nat.le_of_ble_eq_true rfl)
        have e8 : shI (txt t tn p) = 3 := by rw [hTp]; exact hsh
        have e9 : oS (txt t tn) 3 p = (false, p + 1 + dc (txt t tn) 1 (p + 1)) := by simp only [oS, sN, sS, sPM, decide_eq_false c154, if_true, if_false, reduceIte, Bool.false_eq_true]
        refine ⟨0 + 1, va_up N (c * 4 + 0) (dv (txt t tn) 0 1 (p + 1)), va_up L c (t p), by rw [e8, e9]; rfl, rfl, by rw [e8, e9]; exact fa147, fa151, fa148, fun k hk9 => va_un (by omega), fun k hk9 => ?_, fun z => ?_, fr152⟩
        · rw [va_un (by omega)]
        · rw [e8, e9] at z; exact absurd z Bool.false_ne_true
    · have hT : txt t tn p = 110 := by rw [hTp]; exact hk
      refine v_ls (ls2 := [some (.ref q), some (.int (nI (t p))), some (.ref (gA G 0 4)), none]) (by rw [hsh]) ?_
      refine v_aload_n dX5_readOrder_33 rfl ?_
      refine v_callT (st := []) (i := 4) dX5_readOrder_34 (t_J0_isEmpty_aae02 (i := 4) (by omega)) wX5_56 (by omega) rfl rfl ⟨Nat.le_of_ble_eq_true rfl, Nat.le_of_ble_eq_true rfl⟩ (Nat.le_of_ble_eq_true rfl) ⟨Nat.le_of_ble_eq_true rfl, Nat.le_of_ble_eq_true rfl⟩ (fun r n2 h2 hq => ?_)
      obtain ⟨rfl, hn9, rfl⟩ := hq; replace hn9 := hn9.symm; subst hn9
      refine v_st (st2 := [.int (nI 0)]) rfl ?_
      refine n_if_eq (tgt := 42) (x := 0) dX5_readOrder_37 (by decide) (by decide) (fun _ => ?_) (fun c => absurd c (by decide))
      refine v_aload_n dX5_readOrder_42 rfl ?_
      refine fX5_28 (v := .ref (q + 3)) rfl dX5_readOrder_43 ho rfl ?_
      refine v_aload_n dX5_readOrder_46 rfl ?_
      refine fX5_18 (v := .int (nI c)) rfl dX5_readOrder_47 ho rfl ?_
      refine v_iload_n dX5_readOrder_50 rfl ?_
      refine n_castN (f := L) (j := c) (v := t p) dX5_readOrder_51 hL (by omega) (by decide) (by omega) ?_
      refine nw (fun h1 f1 s1 => ?_)
      have fa203 : h1 (q + 3) = some (.inl (gC G 1, 30, .inl (fun i => nI (va_up L c (t p) i)))) := f1
      have sa203 := s1
      clear f1 s1
      have fa204 := (sa203 (q) (by omega)).trans ho
      have hb205 := sbP_fr hb (sa203 (q + 1) (by omega)) (sa203 (a) (by omega))
      have fa206 := (sa203 (q + 4) (by omega)).trans hN
      have fr207 : frP (fun z => z ≠ q ∧ z ≠ q + 3 ∧ z ≠ q + 4) _ _ := fun z (hz : z ≠ q ∧ z ≠ q + 3 ∧ z ≠ q + 4) => sa203 z (by omega)
      refine v_aload_n dX5_readOrder_52 rfl ?_
      refine v_iconst (v := nI 0) dX5_readOrder_53 (by decide) ?_
      refine pX5_25 rfl dX5_readOrder_54 fa204 (Nat.le_of_ble_eq_true rfl) ?_
      refine nw (fun h1 f1 s1 => ?_)
      have fa208 : h1 (q) = some (.inr (6, [.ref (q + 1), .int (nI c), .int (nI p), .int (nI 0), .ref (q + 3), .ref (q + 4)])) := f1
      have sa208 := s1
      clear f1 s1
      have hb209 := sbP_fr hb205 (sa208 (q + 1) (by omega)) (sa208 (a) (by omega))
      have fa210 := (sa208 (q + 3) (by omega)).trans fa203
      have fa211 := (sa208 (q + 4) (by omega)).trans fa206
      have fr212 : frP (fun z => z ≠ q ∧ z ≠ q + 3 ∧ z ≠ q + 4) _ _ := fun z (hz : z ≠ q ∧ z ≠ q + 3 ∧ z ≠ q + 4) => (sa208 z (by omega)).trans (fr207 z hz)
      refine v_iconst (v := nI 0) dX5_readOrder_57 (by decide) ?_
      refine v_istore_n dX5_readOrder_58 rfl (by decide) ?_
      refine v_ls (ls2 := [some (.ref q), some (.int (nI (t p))), some (.ref (gA G 0 4)), some (.int (nI 0))]) rfl ?_
      refine v_iload_n dX5_readOrder_59 rfl ?_
      refine v_aload_n dX5_readOrder_60 rfl ?_
      refine v_callT (st := [.int (nI 0)]) (i := 4) dX5_readOrder_61 (t_J0_length_8abf5 (i := 4) (by omega)) wX5_61 (by omega) rfl rfl ⟨Nat.le_of_ble_eq_true rfl, Nat.le_of_ble_eq_true rfl⟩ (Nat.le_of_ble_eq_true rfl) ⟨Nat.le_of_ble_eq_true rfl, Nat.le_of_ble_eq_true rfl⟩ (fun r n2 h2 hq => ?_)
      obtain ⟨rfl, hn9, rfl⟩ := hq; replace hn9 := hn9.symm; subst hn9
      refine v_st (st2 := [.int (nI 1), .int (nI 0)]) rfl ?_
      refine n_icmp_ge (tgt := 87) (x := 0) (y := 1) dX5_readOrder_64 (by decide) (by decide) (by decide) (fun c => absurd c (by decide)) (fun _ => ?_)
      refine v_aload_n dX5_readOrder_67 rfl ?_
      refine v_aload_n dX5_readOrder_68 rfl ?_
      refine v_iload_n dX5_readOrder_69 rfl ?_
      refine v_callT (st := [.ref q]) (i := 4) dX5_readOrder_70 (t_J0_charAt_5068e (i := 4) (j := 0) (by decide) (by decide)) wX5_62 (by omega) rfl rfl ⟨Nat.le_of_ble_eq_true rfl, Nat.le_of_ble_eq_true rfl⟩ (Nat.le_of_ble_eq_true rfl) ⟨Nat.le_of_ble_eq_true rfl, Nat.le_of_ble_eq_true rfl⟩ (fun r n2 h2 hq => ?_)
      obtain ⟨rfl, hn9, rfl⟩ := hq; replace hn9 := hn9.symm; subst hn9
      refine v_st (st2 := [.int (nI 110), .ref q]) rfl ?_
      refine v_callV (st := []) dX5_readOrder_73 (t_X5_readPartS (cc := 110) fa208 hb209 fa210 fa211 haq hm htn ht (by omega) (by omega) (by omega) (by omega)) wX5_63 fa208 rfl rfl ⟨Nat.le_of_ble_eq_true rfl, Nat.le_of_ble_eq_true rfl⟩ (Nat.le_of_ble_eq_true rfl) ⟨Nat.le_of_ble_eq_true rfl, Nat.le_of_ble_eq_true rfl⟩ (fun r n2 h2 hq => ?_)
      obtain ⟨rfl, hn9, fa213, sa214⟩ := hq; replace hn9 := hn9.symm; subst hn9
      refine v_st (st2 := [.int (nI 1)]) (by rw [bI_t hT]; rfl) ?_
      rw [show sgP (txt t tn) 110 p = p + 1 from if_pos hT] at fa213
      have hb215 := sbP_fr hb209 (sa214 (q + 1) (by omega)) (sa214 (a) (by omega))
      have fa216 := (sa214 (q + 3) (by omega)).trans fa210
      have fa217 := (sa214 (q + 4) (by omega)).trans fa211
      have fr218 : frP (fun z => z ≠ q ∧ z ≠ q + 3 ∧ z ≠ q + 4) _ _ := fun z (hz : z ≠ q ∧ z ≠ q + 3 ∧ z ≠ q + 4) => (sa214 z (by omega)).trans (fr212 z hz)
      have bs219 : p + 1 ≤ tn := by first | omega | exact sg_le (by omega) (by omega)
      refine n_if_ne (tgt := 81) (x := 1) dX5_readOrder_76 (by decide) (by decide) (fun _ => ?_) (fun c => absurd c (by decide))
      refine n_iinc (k := 1) (x := 0) dX5_readOrder_81 (by decide) rfl rfl (by decide) ?_
      refine v_ls (ls2 := [some (.ref q), some (.int (nI (t p))), some (.ref (gA G 0 4)), some (.int (nI 1))]) rfl ?_
      refine v_goto (tgt := 59) dX5_readOrder_84 (by decide) ?_
      refine v_iload_n dX5_readOrder_59 rfl ?_
      refine v_aload_n dX5_readOrder_60 rfl ?_
      refine v_callT (st := [.int (nI 1)]) (i := 4) dX5_readOrder_61 (t_J0_length_8abf5 (i := 4) (by omega)) wX5_61 (by omega) rfl rfl ⟨Nat.le_of_ble_eq_true rfl, Nat.le_of_ble_eq_true rfl⟩ (Nat.le_of_ble_eq_true rfl) ⟨Nat.le_of_ble_eq_true rfl, Nat.le_of_ble_eq_true rfl⟩ (fun r n2 h2 hq => ?_)
      obtain ⟨rfl, hn9, rfl⟩ := hq; replace hn9 := hn9.symm; subst hn9
      refine v_st (st2 := [.int (nI 1), .int (nI 1)]) rfl ?_
      refine n_icmp_ge (tgt := 87) (x := 1) (y := 1) dX5_readOrder_64 (by decide) (by decide) (by decide) (fun _ => ?_) (fun c => absurd c (by decide))
      refine v_iconst (v := nI 1) dX5_readOrder_87 (by decide) ?_
      refine v_zret (ty := .boolean) dX5_readOrder_88 rfl (by decide) ?_ (Nat.le_of_ble_eq_true rfl) (Nat.le_of_ble_eq_true rfl)
      have e8 : shI (txt t tn p) = 4 := by rw [hTp]; exact hsh
      have e9 : oS (txt t tn) 4 p = (true, p + 1) := rfl
      refine ⟨0, N, va_up L c (t p), by rw [e8, e9]; rfl, rfl, by rw [e8, e9]; exact fa213, fa216, fa217, fun k hk9 => va_un (by omega), fun k hk9 => ?_, fun z => ?_, fr218⟩
      · rfl
      · rw [e8]; refine ⟨by rw [hTp]; exact va_us, fun j hj => ?_⟩
        exact absurd hj (Nat.not_lt_zero j)
    · have hT : txt t tn p = 105 := by rw [hTp]; exact hk
      refine v_ls (ls2 := [some (.ref q), some (.int (nI (t p))), some (.ref (gA G 0 5)), none]) (by rw [hsh]) ?_
      refine v_aload_n dX5_readOrder_33 rfl ?_
      refine v_callT (st := []) (i := 5) dX5_readOrder_34 (t_J0_isEmpty_aae02 (i := 5) (by omega)) wX5_56 (by omega) rfl rfl ⟨Nat.le_of_ble_eq_true rfl, Nat.le_of_ble_eq_true rfl⟩ (Nat.le_of_ble_eq_true rfl) ⟨Nat.le_of_ble_eq_true rfl, Nat.le_of_ble_eq_true rfl⟩ (fun r n2 h2 hq => ?_)
      obtain ⟨rfl, hn9, rfl⟩ := hq; replace hn9 := hn9.symm; subst hn9
      refine v_st (st2 := [.int (nI 0)]) rfl ?_
      refine n_if_eq (tgt := 42) (x := 0) dX5_readOrder_37 (by decide) (by decide) (fun _ => ?_) (fun c => absurd c (by decide))
      refine v_aload_n dX5_readOrder_42 rfl ?_
      refine fX5_28 (v := .ref (q + 3)) rfl dX5_readOrder_43 ho rfl ?_
      refine v_aload_n dX5_readOrder_46 rfl ?_
      refine fX5_18 (v := .int (nI c)) rfl dX5_readOrder_47 ho rfl ?_
      refine v_iload_n dX5_readOrder_50 rfl ?_
      refine n_castN (f := L) (j := c) (v := t p) dX5_readOrder_51 hL (by omega) (by decide) (by omega) ?_
      refine nw (fun h1 f1 s1 => ?_)
      have fa220 : h1 (q + 3) = some (.inl (gC G 1, 30, .inl (fun i => nI (va_up L c (t p) i)))) := f1
      have sa220 := s1
      clear f1 s1
      have fa221 := (sa220 (q) (by omega)).trans ho
      have hb222 := sbP_fr hb (sa220 (q + 1) (by omega)) (sa220 (a) (by omega))
      have fa223 := (sa220 (q + 4) (by omega)).trans hN
      have fr224 : frP (fun z => z ≠ q ∧ z ≠ q + 3 ∧ z ≠ q + 4) _ _ := fun z (hz : z ≠ q ∧ z ≠ q + 3 ∧ z ≠ q + 4) => sa220 z (by omega)
      refine v_aload_n dX5_readOrder_52 rfl ?_
      refine v_iconst (v := nI 0) dX5_readOrder_53 (by decide) ?_
      refine pX5_25 rfl dX5_readOrder_54 fa221 (Nat.le_of_ble_eq_true rfl) ?_
      refine nw (fun h1 f1 s1 => ?_)
      have fa225 : h1 (q) = some (.inr (6, [.ref (q + 1), .int (nI c), .int (nI p), .int (nI 0), .ref (q + 3), .ref (q + 4)])) := f1
      have sa225 := s1
      clear f1 s1
      have hb226 := sbP_fr hb222 (sa225 (q + 1) (by omega)) (sa225 (a) (by omega))
      have fa227 := (sa225 (q + 3) (by omega)).trans fa220
      have fa228 := (sa225 (q + 4) (by omega)).trans fa223
      have fr229 : frP (fun z => z ≠ q ∧ z ≠ q + 3 ∧ z ≠ q + 4) _ _ := fun z (hz : z ≠ q ∧ z ≠ q + 3 ∧ z ≠ q + 4) => (sa225 z (by omega)).trans (fr224 z hz)
      refine v_iconst (v := nI 0) dX5_readOrder_57 (by decide) ?_
      refine v_istore_n dX5_readOrder_58 rfl (by decide) ?_
      refine v_ls (ls2 := [some (.ref q), some (.int (nI (t p))), some (.ref (gA G 0 5)), some (.int (nI 0))]) rfl ?_
      refine v_iload_n dX5_readOrder_59 rfl ?_
      refine v_aload_n dX5_readOrder_60 rfl ?_
      refine v_callT (st := [.int (nI 0)]) (i := 5) dX5_readOrder_61 (t_J0_length_8abf5 (i := 5) (by omega)) wX5_61 (by omega) rfl rfl ⟨Nat.le_of_ble_eq_true rfl, Nat.le_of_ble_eq_true rfl⟩ (Nat.le_of_ble_eq_true rfl) ⟨Nat.le_of_ble_eq_true rfl, Nat.le_of_ble_eq_true rfl⟩ (fun r n2 h2 hq => ?_)
      obtain ⟨rfl, hn9, rfl⟩ := hq; replace hn9 := hn9.symm; subst hn9
      refine v_st (st2 := [.int (nI 2), .int (nI 0)]) rfl ?_
      refine n_icmp_ge (tgt := 87) (x := 0) (y := 2) dX5_readOrder_64 (by decide) (by decide) (by decide) (fun c => absurd c (by decide)) (fun _ => ?_)
      refine v_aload_n dX5_readOrder_67 rfl ?_
      refine v_aload_n dX5_readOrder_68 rfl ?_
      refine v_iload_n dX5_readOrder_69 rfl ?_
      refine v_callT (st := [.ref q]) (i := 5) dX5_readOrder_70 (t_J0_charAt_5068e (i := 5) (j := 0) (by decide) (by decide)) wX5_62 (by omega) rfl rfl ⟨Nat.le_of_ble_eq_true rfl, Nat.le_of_ble_eq_true rfl⟩ (Nat.le_of_ble_eq_true rfl) ⟨Nat.le_of_ble_eq_true rfl, Nat.le_of_ble_eq_true rfl⟩ (fun r n2 h2 hq => ?_)
      obtain ⟨rfl, hn9, rfl⟩ := hq; replace hn9 := hn9.symm; subst hn9
      refine v_st (st2 := [.int (nI 105), .ref q]) rfl ?_
      refine v_callV (st := []) dX5_readOrder_73 (t_X5_readPartS (cc := 105) fa225 hb226 fa227 fa228 haq hm htn ht (by omega) (by omega) (by omega) (by omega)) wX5_63 fa225 rfl rfl ⟨Nat.le_of_ble_eq_true rfl, Nat.le_of_ble_eq_true rfl⟩ (Nat.le_of_ble_eq_true rfl) ⟨Nat.le_of_ble_eq_true rfl, Nat.le_of_ble_eq_true rfl⟩ (fun r n2 h2 hq => ?_)
      obtain ⟨rfl, hn9, fa230, sa231⟩ := hq; replace hn9 := hn9.symm; subst hn9
      refine v_st (st2 := [.int (nI 1)]) (by rw [bI_t hT]; rfl) ?_
      rw [show sgP (txt t tn) 105 p = p + 1 from if_pos hT] at fa230
      have hb232 := sbP_fr hb226 (sa231 (q + 1) (by omega)) (sa231 (a) (by omega))
      have fa233 := (sa231 (q + 3) (by omega)).trans fa227
      have fa234 := (sa231 (q + 4) (by omega)).trans fa228
      have fr235 : frP (fun z => z ≠ q ∧ z ≠ q + 3 ∧ z ≠ q + 4) _ _ := fun z (hz : z ≠ q ∧ z ≠ q + 3 ∧ z ≠ q + 4) => (sa231 z (by omega)).trans (fr229 z hz)
      have bs236 : p + 1 ≤ tn := by first | omega | exact sg_le (by omega) (by omega)
      refine n_if_ne (tgt := 81) (x := 1) dX5_readOrder_76 (by decide) (by decide) (fun _ => ?_) (fun c => absurd c (by decide))
      refine n_iinc (k := 1) (x := 0) dX5_readOrder_81 (by decide) rfl rfl (by decide) ?_
      refine v_ls (ls2 := [some (.ref q), some (.int (nI (t p))), some (.ref (gA G 0 5)), some (.int (nI 1))]) rfl ?_
      refine v_goto (tgt := 59) dX5_readOrder_84 (by decide) ?_
      refine v_iload_n dX5_readOrder_59 rfl ?_
      refine v_aload_n dX5_readOrder_60 rfl ?_
      refine v_callT (st := [.int (nI 1)]) (i := 5) dX5_readOrder_61 (t_J0_length_8abf5 (i := 5) (by omega)) wX5_61 (by omega) rfl rfl ⟨Nat.le_of_ble_eq_true rfl, Nat.le_of_ble_eq_true rfl⟩ (Nat.le_of_ble_eq_true rfl) ⟨Nat.le_of_ble_eq_true rfl, Nat.le_of_ble_eq_true rfl⟩ (fun r n2 h2 hq => ?_)
      obtain ⟨rfl, hn9, rfl⟩ := hq; replace hn9 := hn9.symm; subst hn9
      refine v_st (st2 := [.int (nI 2), .int (nI 1)]) rfl ?_
      refine n_icmp_ge (tgt := 87) (x := 1) (y := 2) dX5_readOrder_64 (by decide) (by decide) (by decide) (fun c => absurd c (by decide)) (fun _ => ?_)
      refine v_aload_n dX5_readOrder_67 rfl ?_
      refine v_aload_n dX5_readOrder_68 rfl ?_
      refine v_iload_n dX5_readOrder_69 rfl ?_
      refine v_callT (st := [.ref q]) (i := 5) dX5_readOrder_70 (t_J0_charAt_5068e (i := 5) (j := 1) (by decide) (by decide)) wX5_62 (by omega) rfl rfl ⟨Nat.le_of_ble_eq_true rfl, Nat.le_of_ble_eq_true rfl⟩ (Nat.le_of_ble_eq_true rfl) ⟨Nat.le_of_ble_eq_true rfl, Nat.le_of_ble_eq_true rfl⟩ (fun r n2 h2 hq => ?_)
      obtain ⟨rfl, hn9, rfl⟩ := hq; replace hn9 := hn9.symm; subst hn9
      refine v_st (st2 := [.int (nI 49), .ref q]) rfl ?_
      refine v_callV (st := []) dX5_readOrder_73 (t_X5_readPart49 fa230 hb232 fa233 fa234 haq hm htn ht (by omega) (by omega) (by omega)) wX5_63 fa230 rfl rfl ⟨Nat.le_of_ble_eq_true rfl, Nat.le_of_ble_eq_true rfl⟩ (Nat.le_of_ble_eq_true rfl) ⟨Nat.le_of_ble_eq_true rfl, Nat.le_of_ble_eq_true rfl⟩ (fun r n2 h2 hq => ?_)
      obtain ⟨rfl, hn9, fa237, fa238, sa239⟩ := hq; replace hn9 := hn9.symm; subst hn9
      refine v_st (st2 := [.int (nI (bI (0 < dc (txt t tn) 1 (p + 1))))]) rfl ?_
      have hb240 := sbP_fr hb232 (sa239 (q + 1) (by omega)) (sa239 (a) (by omega))
      have fa241 := (sa239 (q + 3) (by omega)).trans fa233
      have fr242 : frP (fun z => z ≠ q ∧ z ≠ q + 3 ∧ z ≠ q + 4) _ _ := fun z (hz : z ≠ q ∧ z ≠ q + 3 ∧ z ≠ q + 4) => (sa239 z (by omega)).trans (fr235 z hz)
      have bs243 : p + 1 + dc (txt t tn) 1 (p + 1) ≤ tn := dc_le (by omega)
      refine n_ifb_ne (tgt := 81) (p := 0 < dc (txt t tn) 1 (p + 1)) dX5_readOrder_76 (by decide) (fun c244 => ?_) (fun c244 => ?_)
      · refine n_iinc (k := 1) (x := 1) dX5_readOrder_81 (by decide) rfl rfl (by decide) ?_
        refine v_ls (ls2 := [some (.ref q), some (.int (nI (t p))), some (.ref (gA G 0 5)), some (.int (nI 2))]) rfl ?_
        refine v_goto (tgt := 59) dX5_readOrder_84 (by decide) ?_
        refine v_iload_n dX5_readOrder_59 rfl ?_
        refine v_aload_n dX5_readOrder_60 rfl ?_
        refine v_callT (st := [.int (nI 2)]) (i := 5) dX5_readOrder_61 (t_J0_length_8abf5 (i := 5) (by omega)) wX5_61 (by omega) rfl rfl ⟨Nat.le_of_ble_eq_true rfl, Nat.le_of_ble_eq_true rfl⟩ (Nat.le_of_ble_eq_true rfl) ⟨Nat.le_of_ble_eq_true rfl, Nat.le_of_ble_eq_true rfl⟩ (fun r n2 h2 hq => ?_)
        obtain ⟨rfl, hn9, rfl⟩ := hq; replace hn9 := hn9.symm; subst hn9
        refine v_st (st2 := [.int (nI 2), .int (nI 2)]) rfl ?_
        refine n_icmp_ge (tgt := 87) (x := 2) (y := 2) dX5_readOrder_64 (by decide) (by decide) (by decide) (fun _ => ?_) (fun c => absurd c (by decide))
        refine v_iconst (v := nI 1) dX5_readOrder_87 (by decide) ?_
        refine v_zret (ty := .boolean) dX5_readOrder_88 rfl (by decide) ?_ (Nat.le_of_ble_eq_true rfl) (Nat.le_of_ble_eq_true rfl)
        have e8 : shI (txt t tn p) = 5 := by rw [hTp]; exact hsh
        have e9 : oS (txt t tn) 5 p = (true, p + 1 + dc (txt t tn) 1 (p + 1)) := by simp only [oS, sN, sS, sPM, decide_eq_true c244, if_true, if_false, reduceIte, Bool.false_eq_true]
        refine ⟨0 + 1, va_up N (c * 4 + 0) (dv (txt t tn) 0 1 (p + 1)), va_up L c (t p), by rw [e8, e9]; rfl, rfl, by rw [e8, e9]; exact fa237, fa241, fa238, fun k hk9 => va_un (by omega), fun k hk9 => ?_, fun z => ?_, fr242⟩
        · rw [va_un (by omega)]
        · rw [e8]; refine ⟨by rw [hTp]; exact va_us, fun j hj => ?_⟩
          obtain rfl := (show j = 0 by have : j < 1 := hj; omega)
          · exact va_us
      · refine v_iconst (v := nI 0) dX5_readOrder_79 (by decide) ?_
        refine v_zret (ty := .boolean) dX5_readOrder_80 rfl (by decide) ?_ (Nat.le_of_ble_eq_true rfl) (Nat.le_of_ble_eq_true rfl)
        have e8 : shI (txt t tn p) = 5 := by rw [hTp]; exact hsh
        have e9 : oS (txt t tn) 5 p = (false, p + 1 + dc (txt t tn) 1 (p + 1)) := by simp only [oS, sN, sS, sPM, decide_eq_false c244, if_true, if_false, reduceIte, Bool.false_eq_true]
        refine ⟨0 + 1, va_up N (c * 4 + 0) (dv (txt t tn) 0 1 (p + 1)), va_up L c (t p), by rw [e8, e9]; rfl, rfl, by rw [e8, e9]; exact fa237, fa241, fa238, fun k hk9 => va_un (by omega), fun k hk9 => ?_, fun z => ?_, fr242⟩
        · rw [va_un (by omega)]
        · rw [e8, e9] at z; exact absurd z Bool.false_ne_true
    · have hT : txt t tn p = 97 := by rw [hTp]; exact hk
      refine v_ls (ls2 := [some (.ref q), some (.int (nI (t p))), some (.ref (gA G 0 6)), none]) (by rw [hsh]) ?_
      refine v_aload_n dX5_readOrder_33 rfl ?_
      refine v_callT (st := []) (i := 6) dX5_readOrder_34 (t_J0_isEmpty_aae02 (i := 6) (by omega)) wX5_56 (by omega) rfl rfl ⟨Nat.le_of_ble_eq_true rfl, Nat.le_of_ble_eq_true rfl⟩ (Nat.le_of_ble_eq_true rfl) ⟨Nat.le_of_ble_eq_true rfl, Nat.le_of_ble_eq_true rfl⟩ (fun r n2 h2 hq => ?_)
      obtain ⟨rfl, hn9, rfl⟩ := hq; replace hn9 := hn9.symm; subst hn9
      refine v_st (st2 := [.int (nI 0)]) rfl ?_
      refine n_if_eq (tgt := 42) (x := 0) dX5_readOrder_37 (by decide) (by decide) (fun _ => ?_) (fun c => absurd c (by decide))
      refine v_aload_n dX5_readOrder_42 rfl ?_
      refine fX5_28 (v := .ref (q + 3)) rfl dX5_readOrder_43 ho rfl ?_
      refine v_aload_n dX5_readOrder_46 rfl ?_
      refine fX5_18 (v := .int (nI c)) rfl dX5_readOrder_47 ho rfl ?_
      refine v_iload_n dX5_readOrder_50 rfl ?_
      refine n_castN (f := L) (j := c) (v := t p) dX5_readOrder_51 hL (by omega) (by decide) (by omega) ?_
      refine nw (fun h1 f1 s1 => ?_)
      have fa245 : h1 (q + 3) = some (.inl (gC G 1, 30, .inl (fun i => nI (va_up L c (t p) i)))) := f1
      have sa245 := s1
      clear f1 s1
      have fa246 := (sa245 (q) (by omega)).trans ho
      have hb247 := sbP_fr hb (sa245 (q + 1) (by omega)) (sa245 (a) (by omega))
      have fa248 := (sa245 (q + 4) (by omega)).trans hN
      have fr249 : frP (fun z => z ≠ q ∧ z ≠ q + 3 ∧ z ≠ q + 4) _ _ := fun z (hz : z ≠ q ∧ z ≠ q + 3 ∧ z ≠ q + 4) => sa245 z (by omega)
      refine v_aload_n dX5_readOrder_52 rfl ?_
      refine v_iconst (v := nI 0) dX5_readOrder_53 (by decide) ?_
      refine pX5_25 rfl dX5_readOrder_54 fa246 (Nat.le_of_ble_eq_true rfl) ?_
      refine nw (fun h1 f1 s1 => ?_)
      have fa250 : h1 (q) = some (.inr (6, [.ref (q + 1), .int (nI c), .int (nI p), .int (nI 0), .ref (q + 3), .ref (q + 4)])) := f1
      have sa250 := s1
      clear f1 s1
      have hb251 := sbP_fr hb247 (sa250 (q + 1) (by omega)) (sa250 (a) (by omega))
      have fa252 := (sa250 (q + 3) (by omega)).trans fa245
      have fa253 := (sa250 (q + 4) (by omega)).trans fa248
      have fr254 : frP (fun z => z ≠ q ∧ z ≠ q + 3 ∧ z ≠ q + 4) _ _ := fun z (hz : z ≠ q ∧ z ≠ q + 3 ∧ z ≠ q + 4) => (sa250 z (by omega)).trans (fr249 z hz)
      refine v_iconst (v := nI 0) dX5_readOrder_57 (by decide) ?_
      refine v_istore_n dX5_readOrder_58 rfl (by decide) ?_
      refine v_ls (ls2 := [some (.ref q), some (.int (nI (t p))), some (.ref (gA G 0 6)), some (.int (nI 0))]) rfl ?_
      refine v_iload_n dX5_readOrder_59 rfl ?_
      refine v_aload_n dX5_readOrder_60 rfl ?_
      refine v_callT (st := [.int (nI 0)]) (i := 6) dX5_readOrder_61 (t_J0_length_8abf5 (i := 6) (by omega)) wX5_61 (by omega) rfl rfl ⟨Nat.le_of_ble_eq_true rfl, Nat.le_of_ble_eq_true rfl⟩ (Nat.le_of_ble_eq_true rfl) ⟨Nat.le_of_ble_eq_true rfl, Nat.le_of_ble_eq_true rfl⟩ (fun r n2 h2 hq => ?_)
      obtain ⟨rfl, hn9, rfl⟩ := hq; replace hn9 := hn9.symm; subst hn9
      refine v_st (st2 := [.int (nI 2), .int (nI 0)]) rfl ?_
      refine n_icmp_ge (tgt := 87) (x := 0) (y := 2) dX5_readOrder_64 (by decide) (by decide) (by decide) (fun c => absurd c (by decide)) (fun _ => ?_)
      refine v_aload_n dX5_readOrder_67 rfl ?_
      refine v_aload_n dX5_readOrder_68 rfl ?_
      refine v_iload_n dX5_readOrder_69 rfl ?_
      refine v_callT (st := [.ref q]) (i := 6) dX5_readOrder_70 (t_J0_charAt_5068e (i := 6) (j := 0) (by decide) (by decide)) wX5_62 (by omega) rfl rfl ⟨Nat.le_of_ble_eq_true rfl, Nat.le_of_ble_eq_true rfl⟩ (Nat.le_of_ble_eq_true rfl) ⟨Nat.le_of_ble_eq_true rfl, Nat.le_of_ble_eq_true rfl⟩ (fun r n2 h2 hq => ?_)
      obtain ⟨rfl, hn9, rfl⟩ := hq; replace hn9 := hn9.symm; subst hn9
      refine v_st (st2 := [.int (nI 97), .ref q]) rfl ?_
      refine v_callV (st := []) dX5_readOrder_73 (t_X5_readPartS (cc := 97) fa250 hb251 fa252 fa253 haq hm htn ht (by omega) (by omega) (by omega) (by omega)) wX5_63 fa250 rfl rfl ⟨Nat.le_of_ble_eq_true rfl, Nat.le_of_ble_eq_true rfl⟩ (Nat.le_of_ble_eq_true rfl) ⟨Nat.le_of_ble_eq_true rfl, Nat.le_of_ble_eq_true rfl⟩ (fun r n2 h2 hq => ?_)
      obtain ⟨rfl, hn9, fa255, sa256⟩ := hq; replace hn9 := hn9.symm; subst hn9
      refine v_st (st2 := [.int (nI 1)]) (by rw [bI_t hT]; rfl) ?_
      rw [show sgP (txt t tn) 97 p = p + 1 from if_pos hT] at fa255
      have hb257 := sbP_fr hb251 (sa256 (q + 1) (by omega)) (sa256 (a) (by omega))
      have fa258 := (sa256 (q + 3) (by omega)).trans fa252
      have fa259 := (sa256 (q + 4) (by omega)).trans fa253
      have fr260 : frP (fun z => z ≠ q ∧ z ≠ q + 3 ∧ z ≠ q + 4) _ _ := fun z (hz : z ≠ q ∧ z ≠ q + 3 ∧ z ≠ q + 4) => (sa256 z (by omega)).trans (fr254 z hz)
      have bs261 : p + 1 ≤ tn := by first | omega | exact sg_le (by omega) (by omega)
      refine n_if_ne (tgt := 81) (x := 1) dX5_readOrder_76 (by decide) (by decide) (fun _ => ?_) (fun c => absurd c (by decide))
      refine n_iinc (k := 1) (x := 0) dX5_readOrder_81 (by decide) rfl rfl (by decide) ?_
      refine v_ls (ls2 := [some (.ref q), some (.int (nI (t p))), some (.ref (gA G 0 6)), some (.int (nI 1))]) rfl ?_
      refine v_goto (tgt := 59) dX5_readOrder_84 (by decide) ?_
      refine v_iload_n dX5_readOrder_59 rfl ?_
      refine v_aload_n dX5_readOrder_60 rfl ?_
      refine v_callT (st := [.int (nI 1)]) (i := 6) dX5_readOrder_61 (t_J0_length_8abf5 (i := 6) (by omega)) wX5_61 (by omega) rfl rfl ⟨Nat.le_of_ble_eq_true rfl, Nat.le_of_ble_eq_true rfl⟩ (Nat.le_of_ble_eq_true rfl) ⟨Nat.le_of_ble_eq_true rfl, Nat.le_of_ble_eq_true rfl⟩ (fun r n2 h2 hq => ?_)
      obtain ⟨rfl, hn9, rfl⟩ := hq; replace hn9 := hn9.symm; subst hn9
      refine v_st (st2 := [.int (nI 2), .int (nI 1)]) rfl ?_
      refine n_icmp_ge (tgt := 87) (x := 1) (y := 2) dX5_readOrder_64 (by decide) (by decide) (by decide) (fun c => absurd c (by decide)) (fun _ => ?_)
      refine v_aload_n dX5_readOrder_67 rfl ?_
      refine v_aload_n dX5_readOrder_68 rfl ?_
      refine v_iload_n dX5_readOrder_69 rfl ?_
      refine v_callT (st := [.ref q]) (i := 6) dX5_readOrder_70 (t_J0_charAt_5068e (i := 6) (j := 1) (by decide) (by decide)) wX5_62 (by omega) rfl rfl ⟨Nat.le_of_ble_eq_true rfl, Nat.le_of_ble_eq_true rfl⟩ (Nat.le_of_ble_eq_true rfl) ⟨Nat.le_of_ble_eq_true rfl, Nat.le_of_ble_eq_true rfl⟩ (fun r n2 h2 hq => ?_)
      obtain ⟨rfl, hn9, rfl⟩ := hq; replace hn9 := hn9.symm; subst hn9
      refine v_st (st2 := [.int (nI 49), .ref q]) rfl ?_
      refine v_callV (st := []) dX5_readOrder_73 (t_X5_readPart49 fa255 hb257 fa258 fa259 haq hm htn ht (by omega) (by omega) (by omega)) wX5_63 fa255 rfl rfl ⟨Nat.le_of_ble_eq_true rfl, Nat.le_of_ble_eq_true rfl⟩ (Nat.le_of_ble_eq_true rfl) ⟨Nat.le_of_ble_eq_true rfl, Nat.le_of_ble_eq_true rfl⟩ (fun r n2 h2 hq => ?_)
      obtain ⟨rfl, hn9, fa262, fa263, sa264⟩ := hq; replace hn9 := hn9.symm; subst hn9
      refine v_st (st2 := [.int (nI (bI (0 < dc (txt t tn) 1 (p + 1))))]) rfl ?_
      have hb265 := sbP_fr hb257 (sa264 (q + 1) (by omega)) (sa264 (a) (by omega))
      have fa266 := (sa264 (q + 3) (by omega)).trans fa258
      have fr267 : frP (fun z => z ≠ q ∧ z ≠ q + 3 ∧ z ≠ q + 4) _ _ := fun z (hz : z ≠ q ∧ z ≠ q + 3 ∧ z ≠ q + 4) => (sa264 z (by omega)).trans (fr260 z hz)
      have bs268 : p + 1 + dc (txt t tn) 1 (p + 1) ≤ tn := dc_le (by omega)
      refine n_ifb_ne (tgt := 81) (p := 0 < dc (txt t tn) 1 (p + 1)) dX5_readOrder_76 (by decide) (fun c269 => ?_) (fun c269 => ?_)
      · refine n_iinc (k := 1) (x := 1) dX5_readOrder_81 (by decide) rfl rfl (by decide) ?_
        refine v_ls (ls2 := [some (.ref q), some (.int (nI (t p))), some (.ref (gA G 0 6)), some (.int (nI 2))]) rfl ?_
        refine v_goto (tgt := 59) dX5_readOrder_84 (by decide) ?_
        refine v_iload_n dX5_readOrder_59 rfl ?_
        refine v_aload_n dX5_readOrder_60 rfl ?_
        refine v_callT (st := [.int (nI 2)]) (i := 6) dX5_readOrder_61 (t_J0_length_8abf5 (i := 6) (by omega)) wX5_61 (by omega) rfl rfl ⟨Nat.le_of_ble_eq_true rfl, Nat.le_of_ble_eq_true rfl⟩ (Nat.le_of_ble_eq_true rfl) ⟨Nat.le_of_ble_eq_true rfl, Nat.le_of_ble_eq_true rfl⟩ (fun r n2 h2 hq => ?_)
        obtain ⟨rfl, hn9, rfl⟩ := hq; replace hn9 := hn9.symm; subst hn9
        refine v_st (st2 := [.int (nI 2), .int (nI 2)]) rfl ?_
        refine n_icmp_ge (tgt := 87) (x := 2) (y := 2) dX5_readOrder_64 (by decide) (by decide) (by decide) (fun _ => ?_) (fun c => absurd c (by decide))
        refine v_iconst (v := nI 1) dX5_readOrder_87 (by decide) ?_
        refine v_zret (ty := .boolean) dX5_readOrder_88 rfl (by decide) ?_ (Nat.le_of_ble_eq_true rfl) (Nat.le_of_ble_eq_true rfl)
        have e8 : shI (txt t tn p) = 6 := by rw [hTp]; exact hsh
        have e9 : oS (txt t tn) 6 p = (true, p + 1 + dc (txt t tn) 1 (p + 1)) := by simp only [oS, sN, sS, sPM, decide_eq_true c269, if_true, if_false, reduceIte, Bool.false_eq_true]
        refine ⟨0 + 1, va_up N (c * 4 + 0) (dv (txt t tn) 0 1 (p + 1)), va_up L c (t p), by rw [e8, e9]; rfl, rfl, by rw [e8, e9]; exact fa262, fa266, fa263, fun k hk9 => va_un (by omega), fun k hk9 => ?_, fun z => ?_, fr267⟩
        · rw [va_un (by omega)]
        · rw [e8]; refine ⟨by rw [hTp]; exact va_us, fun j hj => ?_⟩
          obtain rfl := (show j = 0 by have : j < 1 := hj; omega)
          · exact va_us
      · refine v_iconst (v := nI 0) dX5_readOrder_79 (by decide) ?_
        refine v_zret (ty := .boolean) dX5_readOrder_80 rfl (by decide) ?_ (Nat.le_of_ble_eq_true rfl) (Nat.le_of_ble_eq_true rfl)
        have e8 : shI (txt t tn p) = 6 := by rw [hTp]; exact hsh
        have e9 : oS (txt t tn) 6 p = (false, p + 1 + dc (txt t tn) 1 (p + 1)) := by simp only [oS, sN, sS, sPM, decide_eq_false c269, if_true, if_false, reduceIte, Bool.false_eq_true]
        refine ⟨0 + 1, va_up N (c * 4 + 0) (dv (txt t tn) 0 1 (p + 1)), va_up L c (t p), by rw [e8, e9]; rfl, rfl, by rw [e8, e9]; exact fa262, fa266, fa263, fun k hk9 => va_un (by omega), fun k hk9 => ?_, fun z => ?_, fr267⟩
        · rw [va_un (by omega)]
        · rw [e8, e9] at z; exact absurd z Bool.false_ne_true
    · have hT : txt t tn p = 120 := by rw [hTp]; exact hk
      refine v_ls (ls2 := [some (.ref q), some (.int (nI (t p))), some (.ref (gA G 0 7)), none]) (by rw [hsh]) ?_
      refine v_aload_n dX5_readOrder_33 rfl ?_
      refine v_callT (st := []) (i := 7) dX5_readOrder_34 (t_J0_isEmpty_aae02 (i := 7) (by omega)) wX5_56 (by omega) rfl rfl ⟨Nat.le_of_ble_eq_true rfl, Nat.le_of_ble_eq_true rfl⟩ (Nat.le_of_ble_eq_true rfl) ⟨Nat.le_of_ble_eq_true rfl, Nat.le_of_ble_eq_true rfl⟩ (fun r n2 h2 hq => ?_)
      obtain ⟨rfl, hn9, rfl⟩ := hq; replace hn9 := hn9.symm; subst hn9
      refine v_st (st2 := [.int (nI 0)]) rfl ?_
      refine n_if_eq (tgt := 42) (x := 0) dX5_readOrder_37 (by decide) (by decide) (fun _ => ?_) (fun c => absurd c (by decide))
      refine v_aload_n dX5_readOrder_42 rfl ?_
      refine fX5_28 (v := .ref (q + 3)) rfl dX5_readOrder_43 ho rfl ?_
      refine v_aload_n dX5_readOrder_46 rfl ?_
      refine fX5_18 (v := .int (nI c)) rfl dX5_readOrder_47 ho rfl ?_
      refine v_iload_n dX5_readOrder_50 rfl ?_
      refine n_castN (f := L) (j := c) (v := t p) dX5_readOrder_51 hL (by omega) (by decide) (by omega) ?_
      refine nw (fun h1 f1 s1 => ?_)
      have fa270 : h1 (q + 3) = some (.inl (gC G 1, 30, .inl (fun i => nI (va_up L c (t p) i)))) := f1
      have sa270 := s1
      clear f1 s1
      have fa271 := (sa270 (q) (by omega)).trans ho
      have hb272 := sbP_fr hb (sa270 (q + 1) (by omega)) (sa270 (a) (by omega))
      have fa273 := (sa270 (q + 4) (by omega)).trans hN
      have fr274 : frP (fun z => z ≠ q ∧ z ≠ q + 3 ∧ z ≠ q + 4) _ _ := fun z (hz : z ≠ q ∧ z ≠ q + 3 ∧ z ≠ q + 4) => sa270 z (by omega)
      refine v_aload_n dX5_readOrder_52 rfl ?_
      refine v_iconst (v := nI 0) dX5_readOrder_53 (by decide) ?_
      refine pX5_25 rfl dX5_readOrder_54 fa271 (Nat.le_of_ble_eq_true rfl) ?_
      refine nw (fun h1 f1 s1 => ?_)
      have fa275 : h1 (q) = some (.inr (6, [.ref (q + 1), .int (nI c), .int (nI p), .int (nI 0), .ref (q + 3), .ref (q + 4)])) := f1
      have sa275 := s1
      clear f1 s1
      have hb276 := sbP_fr hb272 (sa275 (q + 1) (by omega)) (sa275 (a) (by omega))
      have fa277 := (sa275 (q + 3) (by omega)).trans fa270
      have fa278 := (sa275 (q + 4) (by omega)).trans fa273
      have fr279 : frP (fun z => z ≠ q ∧ z ≠ q + 3 ∧ z ≠ q + 4) _ _ := fun z (hz : z ≠ q ∧ z ≠ q + 3 ∧ z ≠ q + 4) => (sa275 z (by omega)).trans (fr274 z hz)
      refine v_iconst (v := nI 0) dX5_readOrder_57 (by decide) ?_
      refine v_istore_n dX5_readOrder_58 rfl (by decide) ?_
      refine v_ls (ls2 := [some (.ref q), some (.int (nI (t p))), some (.ref (gA G 0 7)), some (.int (nI 0))]) rfl ?_
      refine v_iload_n dX5_readOrder_59 rfl ?_
      refine v_aload_n dX5_readOrder_60 rfl ?_
      refine v_callT (st := [.int (nI 0)]) (i := 7) dX5_readOrder_61 (t_J0_length_8abf5 (i := 7) (by omega)) wX5_61 (by omega) rfl rfl ⟨Nat.le_of_ble_eq_true rfl, Nat.le_of_ble_eq_true rfl⟩ (Nat.le_of_ble_eq_true rfl) ⟨Nat.le_of_ble_eq_true rfl, Nat.le_of_ble_eq_true rfl⟩ (fun r n2 h2 hq => ?_)
      obtain ⟨rfl, hn9, rfl⟩ := hq; replace hn9 := hn9.symm; subst hn9
      refine v_st (st2 := [.int (nI 3), .int (nI 0)]) rfl ?_
      refine n_icmp_ge (tgt := 87) (x := 0) (y := 3) dX5_readOrder_64 (by decide) (by decide) (by decide) (fun c => absurd c (by decide)) (fun _ => ?_)
      refine v_aload_n dX5_readOrder_67 rfl ?_
      refine v_aload_n dX5_readOrder_68 rfl ?_
      refine v_iload_n dX5_readOrder_69 rfl ?_
      refine v_callT (st := [.ref q]) (i := 7) dX5_readOrder_70 (t_J0_charAt_5068e (i := 7) (j := 0) (by decide) (by decide)) wX5_62 (by omega) rfl rfl ⟨Nat.le_of_ble_eq_true rfl, Nat.le_of_ble_eq_true rfl⟩ (Nat.le_of_ble_eq_true rfl) ⟨Nat.le_of_ble_eq_true rfl, Nat.le_of_ble_eq_true rfl⟩ (fun r n2 h2 hq => ?_)
      obtain ⟨rfl, hn9, rfl⟩ := hq; replace hn9 := hn9.symm; subst hn9
      refine v_st (st2 := [.int (nI 120), .ref q]) rfl ?_
      refine v_callV (st := []) dX5_readOrder_73 (t_X5_readPartS (cc := 120) fa275 hb276 fa277 fa278 haq hm htn ht (by omega) (by omega) (by omega) (by omega)) wX5_63 fa275 rfl rfl ⟨Nat.le_of_ble_eq_true rfl, Nat.le_of_ble_eq_true rfl⟩ (Nat.le_of_ble_eq_true rfl) ⟨Nat.le_of_ble_eq_true rfl, Nat.le_of_ble_eq_true rfl⟩ (fun r n2 h2 hq => ?_)
      obtain ⟨rfl, hn9, fa280, sa281⟩ := hq; replace hn9 := hn9.symm; subst hn9
      refine v_st (st2 := [.int (nI 1)]) (by rw [bI_t hT]; rfl) ?_
      rw [show sgP (txt t tn) 120 p = p + 1 from if_pos hT] at fa280
      have hb282 := sbP_fr hb276 (sa281 (q + 1) (by omega)) (sa281 (a) (by omega))
      have fa283 := (sa281 (q + 3) (by omega)).trans fa277
      have fa284 := (sa281 (q + 4) (by omega)).trans fa278
      have fr285 : frP (fun z => z ≠ q ∧ z ≠ q + 3 ∧ z ≠ q + 4) _ _ := fun z (hz : z ≠ q ∧ z ≠ q + 3 ∧ z ≠ q + 4) => (sa281 z (by omega)).trans (fr279 z hz)
      have bs286 : p + 1 ≤ tn := by first | omega | exact sg_le (by omega) (by omega)
      refine n_if_ne (tgt := 81) (x := 1) dX5_readOrder_76 (by decide) (by decide) (fun _ => ?_) (fun c => absurd c (by decide))
      refine n_iinc (k := 1) (x := 0) dX5_readOrder_81 (by decide) rfl rfl (by decide) ?_
      refine v_ls (ls2 := [some (.ref q), some (.int (nI (t p))), some (.ref (gA G 0 7)), some (.int (nI 1))]) rfl ?_
      refine v_goto (tgt := 59) dX5_readOrder_84 (by decide) ?_
      refine v_iload_n dX5_readOrder_59 rfl ?_
      refine v_aload_n dX5_readOrder_60 rfl ?_
      refine v_callT (st := [.int (nI 1)]) (i := 7) dX5_readOrder_61 (t_J0_length_8abf5 (i := 7) (by omega)) wX5_61 (by omega) rfl rfl ⟨Nat.le_of_ble_eq_true rfl, Nat.le_of_ble_eq_true rfl⟩ (Nat.le_of_ble_eq_true rfl) ⟨Nat.le_of_ble_eq_true rfl, Nat.le_of_ble_eq_true rfl⟩ (fun r n2 h2 hq => ?_)
      obtain ⟨rfl, hn9, rfl⟩ := hq; replace hn9 := hn9.symm; subst hn9
      refine v_st (st2 := [.int (nI 3), .int (nI 1)]) rfl ?_
      refine n_icmp_ge (tgt := 87) (x := 1) (y := 3) dX5_readOrder_64 (by decide) (by decide) (by decide) (fun c => absurd c (by decide)) (fun _ => ?_)
      refine v_aload_n dX5_readOrder_67 rfl ?_
      refine v_aload_n dX5_readOrder_68 rfl ?_
      refine v_iload_n dX5_readOrder_69 rfl ?_
      refine v_callT (st := [.ref q]) (i := 7) dX5_readOrder_70 (t_J0_charAt_5068e (i := 7) (j := 1) (by decide) (by decide)) wX5_62 (by omega) rfl rfl ⟨Nat.le_of_ble_eq_true rfl, Nat.le_of_ble_eq_true rfl⟩ (Nat.le_of_ble_eq_true rfl) ⟨Nat.le_of_ble_eq_true rfl, Nat.le_of_ble_eq_true rfl⟩ (fun r n2 h2 hq => ?_)
      obtain ⟨rfl, hn9, rfl⟩ := hq; replace hn9 := hn9.symm; subst hn9
      refine v_st (st2 := [.int (nI 49), .ref q]) rfl ?_
      refine v_callV (st := []) dX5_readOrder_73 (t_X5_readPart49 fa280 hb282 fa283 fa284 haq hm htn ht (by omega) (by omega) (by omega)) wX5_63 fa280 rfl rfl ⟨Nat.le_of_ble_eq_true rfl, Nat.le_of_ble_eq_true rfl⟩ (Nat.le_of_ble_eq_true rfl) ⟨Nat.le_of_ble_eq_true rfl, Nat.le_of_ble_eq_true rfl⟩ (fun r n2 h2 hq => ?_)
      obtain ⟨rfl, hn9, fa287, fa288, sa289⟩ := hq; replace hn9 := hn9.symm; subst hn9
      refine v_st (st2 := [.int (nI (bI (0 < dc (txt t tn) 1 (p + 1))))]) rfl ?_
      have hb290 := sbP_fr hb282 (sa289 (q + 1) (by omega)) (sa289 (a) (by omega))
      have fa291 := (sa289 (q + 3) (by omega)).trans fa283
      have fr292 : frP (fun z => z ≠ q ∧ z ≠ q + 3 ∧ z ≠ q + 4) _ _ := fun z (hz : z ≠ q ∧ z ≠ q + 3 ∧ z ≠ q + 4) => (sa289 z (by omega)).trans (fr285 z hz)
      have bs293 : p + 1 + dc (txt t tn) 1 (p + 1) ≤ tn := dc_le (by omega)
      refine n_ifb_ne (tgt := 81) (p := 0 < dc (txt t tn) 1 (p + 1)) dX5_readOrder_76 (by decide) (fun c294 => ?_) (fun c294 => ?_)
      · refine n_iinc (k := 1) (x := 1) dX5_readOrder_81 (by decide) rfl rfl (by decide) ?_
        refine v_ls (ls2 := [some (.ref q), some (.int (nI (t p))), some (.ref (gA G 0 7)), some (.int (nI 2))]) rfl ?_
        refine v_goto (tgt := 59) dX5_readOrder_84 (by decide) ?_
        refine v_iload_n dX5_readOrder_59 rfl ?_
        refine v_aload_n dX5_readOrder_60 rfl ?_
        refine v_callT (st := [.int (nI 2)]) (i := 7) dX5_readOrder_61 (t_J0_length_8abf5 (i := 7) (by omega)) wX5_61 (by omega) rfl rfl ⟨Nat.le_of_ble_eq_true rfl, Nat.le_of_ble_eq_true rfl⟩ (Nat.le_of_ble_eq_true rfl) ⟨Nat.le_of_ble_eq_true rfl, Nat.le_of_ble_eq_true rfl⟩ (fun r n2 h2 hq => ?_)
        obtain ⟨rfl, hn9, rfl⟩ := hq; replace hn9 := hn9.symm; subst hn9
        refine v_st (st2 := [.int (nI 3), .int (nI 2)]) rfl ?_
        refine n_icmp_ge (tgt := 87) (x := 2) (y := 3) dX5_readOrder_64 (by decide) (by decide) (by decide) (fun c => absurd c (by decide)) (fun _ => ?_)
        refine v_aload_n dX5_readOrder_67 rfl ?_
        refine v_aload_n dX5_readOrder_68 rfl ?_
        refine v_iload_n dX5_readOrder_69 rfl ?_
        refine v_callT (st := [.ref q]) (i := 7) dX5_readOrder_70 (t_J0_charAt_5068e (i := 7) (j := 2) (by decide) (by decide)) wX5_62 (by omega) rfl rfl ⟨Nat.le_of_ble_eq_true rfl, Nat.le_of_ble_eq_true rfl⟩ (Nat.le_of_ble_eq_true rfl) ⟨Nat.le_of_ble_eq_true rfl, Nat.le_of_ble_eq_true rfl⟩ (fun r n2 h2 hq => ?_)
        obtain ⟨rfl, hn9, rfl⟩ := hq; replace hn9 := hn9.symm; subst hn9
        refine v_st (st2 := [.int (nI 63), .ref q]) rfl ?_
        refine v_callV (st := []) dX5_readOrder_73 (t_X5_readPart63 fa287 hb290 fa291 fa288 haq hm htn ht (by omega) (by omega) (by omega)) wX5_63 fa287 rfl rfl ⟨Nat.le_of_ble_eq_true rfl, Nat.le_of_ble_eq_true rfl⟩ (Nat.le_of_ble_eq_true rfl) ⟨Nat.le_of_ble_eq_true rfl, Nat.le_of_ble_eq_true rfl⟩ (fun r n2 h2 hq => ?_)
        obtain ⟨rfl, hn9, fa295, fa296, sa297⟩ := hq; replace hn9 := hn9.symm; subst hn9
        refine v_st (st2 := [.int (nI (bI ((txt t tn) (p + 1 + dc (txt t tn) 1 (p + 1)) = 43 ∨ (txt t tn) (p + 1 + dc (txt t tn) 1 (p + 1)) = 45)))]) rfl ?_
        have hb298 := sbP_fr hb290 (sa297 (q + 1) (by omega)) (sa297 (a) (by omega))
        have fa299 := (sa297 (q + 3) (by omega)).trans fa291
        have fr300 : frP (fun z => z ≠ q ∧ z ≠ q + 3 ∧ z ≠ q + 4) _ _ := fun z (hz : z ≠ q ∧ z ≠ q + 3 ∧ z ≠ q + 4) => (sa297 z (by omega)).trans (fr292 z hz)
        have bs301 : pmP (txt t tn) (p + 1 + dc (txt t tn) 1 (p + 1)) ≤ tn := pm_le (by omega)
        refine n_ifb_ne (tgt := 81) (p := (txt t tn) (p + 1 + dc (txt t tn) 1 (p + 1)) = 43 ∨ (txt t tn) (p + 1 + dc (txt t tn) 1 (p + 1)) = 45) dX5_readOrder_76 (by decide) (fun c302 => ?_) (fun c302 => ?_)
        · refine n_iinc (k := 1) (x := 2) dX5_readOrder_81 (by decide) rfl rfl (by decide) ?_
          refine v_ls (ls2 := [some (.ref q), some (.int (nI (t p))), some (.ref (gA G 0 7)), some (.int (nI 3))]) rfl ?_
          refine v_goto (tgt := 59) dX5_readOrder_84 (by decide) ?_
          refine v_iload_n dX5_readOrder_59 rfl ?_
          refine v_aload_n dX5_readOrder_60 rfl ?_
          refine v_callT (st := [.int (nI 3)]) (i := 7) dX5_readOrder_61 (t_J0_length_8abf5 (i := 7) (by omega)) wX5_61 (by omega) rfl rfl ⟨Nat.le_of_ble_eq_true rfl, Nat.le_of_ble_eq_true rfl⟩ (Nat.le_of_ble_eq_true rfl) ⟨Nat.le_of_ble_eq_true rfl, Nat.le_of_ble_eq_true rfl⟩ (fun r n2 h2 hq => ?_)
          obtain ⟨rfl, hn9, rfl⟩ := hq; replace hn9 := hn9.symm; subst hn9
          refine v_st (st2 := [.int (nI 3), .int (nI 3)]) rfl ?_
          refine n_icmp_ge (tgt := 87) (x := 3) (y := 3) dX5_readOrder_64 (by decide) (by decide) (by decide) (fun _ => ?_) (fun c => absurd c (by decide))
          refine v_iconst (v := nI 1) dX5_readOrder_87 (by decide) ?_
          refine v_zret (ty := .boolean) dX5_readOrder_88 rfl (by decide) ?_ (Nat.le_of_ble_eq_true rfl) (Nat.le_of_ble_eq_true rfl)
          have e8 : shI (txt t tn p) = 7 := by rw [hTp]; exact hsh
          have e9 : oS (txt t tn) 7 p = (true, pmP (txt t tn) (p + 1 + dc (txt t tn) 1 (p + 1))) := by simp only [oS, sN, sS, sPM, decide_eq_true c294, decide_eq_true c302, if_true, if_false, reduceIte, Bool.false_eq_true]
          refine ⟨0 + 1 + 1, va_up (va_up N (c * 4 + 0) (dv (txt t tn) 0 1 (p + 1))) (c * 4 + (0 + 1)) (bI ((txt t tn) (p + 1 + dc (txt t tn) 1 (p + 1)) = 43)), va_up L c (t p), by rw [e8, e9]; rfl, rfl, by rw [e8, e9]; exact fa295, fa299, fa296, fun k hk9 => va_un (by omega), fun k hk9 => ?_, fun z => ?_, fr300⟩
          · rw [va_un (by omega), va_un (by omega)]
          · rw [e8]; refine ⟨by rw [hTp]; exact va_us, fun j hj => ?_⟩
            obtain rfl | rfl := (show j = 0 ∨ j = 1 by have : j < 2 := hj; omega)
            · rw [va_un (by omega), va_us]; rfl
            · exact va_us
        · refine v_iconst (v := nI 0) dX5_readOrder_79 (by decide) ?_
          refine v_zret (ty := .boolean) dX5_readOrder_80 rfl (by decide) ?_ (Nat.le_of_ble_eq_true rfl) (Nat.le_of_ble_eq_true rfl)
          have e8 : shI (txt t tn p) = 7 := by rw [hTp]; exact hsh
          have e9 : oS (txt t tn) 7 p = (false, pmP (txt t tn) (p + 1 + dc (txt t tn) 1 (p + 1))) := by simp only [oS, sN, sS, sPM, decide_eq_true c294, decide_eq_false c302, if_true, if_false, reduceIte, Bool.false_eq_true]
          refine ⟨0 + 1 + 1, va_up (va_up N (c * 4 + 0) (dv (txt t tn) 0 1 (p + 1))) (c * 4 + (0 + 1)) (bI ((txt t tn) (p + 1 + dc (txt t tn) 1 (p + 1)) = 43)), va_up L c (t p), by rw [e8, e9]; rfl, rfl, by rw [e8, e9]; exact fa295, fa299, fa296, fun k hk9 => va_un (by omega), fun k hk9 => ?_, fun z => ?_, fr300⟩
          · rw [va_un (by omega), va_un (by omega)]
          · rw [e8, e9] at z; exact absurd z Bool.false_ne_true
      · refine v_iconst (v := nI 0) dX5_readOrder_79 (by decide) ?_
        refine v_zret (ty := .boolean) dX5_readOrder_80 rfl (by decide) ?_ (Nat.le_of_ble_eq_true rfl) (Nat.le_of_ble_eq_true rfl)
        have e8 : shI (txt t tn p) = 7 := by rw [hTp]; exact hsh
        have e9 : oS (txt t tn) 7 p = (false, p + 1 + dc (txt t tn) 1 (p + 1)) := by simp only [oS, sN, sS, sPM, decide_eq_false c294, if_true, if_false, reduceIte, Bool.false_eq_true]
        refine ⟨0 + 1, va_up N (c * 4 + 0) (dv (txt t tn) 0 1 (p + 1)), va_up L c (t p), by rw [e8, e9]; rfl, rfl, by rw [e8, e9]; exact fa287, fa291, fa288, fun k hk9 => va_un (by omega), fun k hk9 => ?_, fun z => ?_, fr292⟩
        · rw [va_un (by omega)]
        · rw [e8, e9] at z; exact absurd z Bool.false_ne_true
    · have hT : txt t tn p = 119 := by rw [hTp]; exact hk
      refine v_ls (ls2 := [some (.ref q), some (.int (nI (t p))), some (.ref (gA G 0 8)), none]) (by rw [hsh]) ?_
      refine v_aload_n dX5_readOrder_33 rfl ?_
      refine v_callT (st := []) (i := 8) dX5_readOrder_34 (t_J0_isEmpty_aae02 (i := 8) (by omega)) wX5_56 (by omega) rfl rfl ⟨Nat.le_of_ble_eq_true rfl, Nat.le_of_ble_eq_true rfl⟩ (Nat.le_of_ble_eq_true rfl) ⟨Nat.le_of_ble_eq_true rfl, Nat.le_of_ble_eq_true rfl⟩ (fun r n2 h2 hq => ?_)
      obtain ⟨rfl, hn9, rfl⟩ := hq; replace hn9 := hn9.symm; subst hn9
      refine v_st (st2 := [.int (nI 0)]) rfl ?_
      refine n_if_eq (tgt := 42) (x := 0) dX5_readOrder_37 (by decide) (by decide) (fun _ => ?_) (fun c => absurd c (by decide))
      refine v_aload_n dX5_readOrder_42 rfl ?_
      refine fX5_28 (v := .ref (q + 3)) rfl dX5_readOrder_43 ho rfl ?_
      refine v_aload_n dX5_readOrder_46 rfl ?_
      refine fX5_18 (v := .int (nI c)) rfl dX5_readOrder_47 ho rfl ?_
      refine v_iload_n dX5_readOrder_50 rfl ?_
      refine n_castN (f := L) (j := c) (v := t p) dX5_readOrder_51 hL (by omega) (by decide) (by omega) ?_
      refine nw (fun h1 f1 s1 => ?_)
      have fa303 : h1 (q + 3) = some (.inl (gC G 1, 30, .inl (fun i => nI (va_up L c (t p) i)))) := f1
      have sa303 := s1
      clear f1 s1
      have fa304 := (sa303 (q) (by omega)).trans ho
      have hb305 := sbP_fr hb (sa303 (q + 1) (by omega)) (sa303 (a) (by omega))
      have fa306 := (sa303 (q + 4) (by omega)).trans hN
      have fr307 : frP (fun z => z ≠ q ∧ z ≠ q + 3 ∧ z ≠ q + 4) _ _ := fun z (hz : z ≠ q ∧ z ≠ q + 3 ∧ z ≠ q + 4) => sa303 z (by omega)
      refine v_aload_n dX5_readOrder_52 rfl ?_
      refine v_iconst (v := nI 0) dX5_readOrder_53 (by decide) ?_
      refine pX5_25 rfl dX5_readOrder_54 fa304 (Nat.le_of_ble_eq_true rfl) ?_
      refine nw (fun h1 f1 s1 => ?_)
      have fa308 : h1 (q) = some (.inr (6, [.ref (q + 1), .int (nI c), .int (nI p), .int (nI 0), .ref (q + 3), .ref (q + 4)])) := f1
      have sa308 := s1
      clear f1 s1
      have hb309 := sbP_fr hb305 (sa308 (q + 1) (by omega)) (sa308 (a) (by omega))
      have fa310 := (sa308 (q + 3) (by omega)).trans fa303
      have fa311 := (sa308 (q + 4) (by omega)).trans fa306
      have fr312 : frP (fun z => z ≠ q ∧ z ≠ q + 3 ∧ z ≠ q + 4) _ _ := fun z (hz : z ≠ q ∧ z ≠ q + 3 ∧ z ≠ q + 4) => (sa308 z (by omega)).trans (fr307 z hz)
      refine v_iconst (v := nI 0) dX5_readOrder_57 (by decide) ?_
      refine v_istore_n dX5_readOrder_58 rfl (by decide) ?_
      refine v_ls (ls2 := [some (.ref q), some (.int (nI (t p))), some (.ref (gA G 0 8)), some (.int (nI 0))]) rfl ?_
      refine v_iload_n dX5_readOrder_59 rfl ?_
      refine v_aload_n dX5_readOrder_60 rfl ?_
      refine v_callT (st := [.int (nI 0)]) (i := 8) dX5_readOrder_61 (t_J0_length_8abf5 (i := 8) (by omega)) wX5_61 (by omega) rfl rfl ⟨Nat.le_of_ble_eq_true rfl, Nat.le_of_ble_eq_true rfl⟩ (Nat.le_of_ble_eq_true rfl) ⟨Nat.le_of_ble_eq_true rfl, Nat.le_of_ble_eq_true rfl⟩ (fun r n2 h2 hq => ?_)
      obtain ⟨rfl, hn9, rfl⟩ := hq; replace hn9 := hn9.symm; subst hn9
      refine v_st (st2 := [.int (nI 2), .int (nI 0)]) rfl ?_
      refine n_icmp_ge (tgt := 87) (x := 0) (y := 2) dX5_readOrder_64 (by decide) (by decide) (by decide) (fun c => absurd c (by decide)) (fun _ => ?_)
      refine v_aload_n dX5_readOrder_67 rfl ?_
      refine v_aload_n dX5_readOrder_68 rfl ?_
      refine v_iload_n dX5_readOrder_69 rfl ?_
      refine v_callT (st := [.ref q]) (i := 8) dX5_readOrder_70 (t_J0_charAt_5068e (i := 8) (j := 0) (by decide) (by decide)) wX5_62 (by omega) rfl rfl ⟨Nat.le_of_ble_eq_true rfl, Nat.le_of_ble_eq_true rfl⟩ (Nat.le_of_ble_eq_true rfl) ⟨Nat.le_of_ble_eq_true rfl, Nat.le_of_ble_eq_true rfl⟩ (fun r n2 h2 hq => ?_)
      obtain ⟨rfl, hn9, rfl⟩ := hq; replace hn9 := hn9.symm; subst hn9
      refine v_st (st2 := [.int (nI 119), .ref q]) rfl ?_
      refine v_callV (st := []) dX5_readOrder_73 (t_X5_readPartS (cc := 119) fa308 hb309 fa310 fa311 haq hm htn ht (by omega) (by omega) (by omega) (by omega)) wX5_63 fa308 rfl rfl ⟨Nat.le_of_ble_eq_true rfl, Nat.le_of_ble_eq_true rfl⟩ (Nat.le_of_ble_eq_true rfl) ⟨Nat.le_of_ble_eq_true rfl, Nat.le_of_ble_eq_true rfl⟩ (fun r n2 h2 hq => ?_)
      obtain ⟨rfl, hn9, fa313, sa314⟩ := hq; replace hn9 := hn9.symm; subst hn9
      refine v_st (st2 := [.int (nI 1)]) (by rw [bI_t hT]; rfl) ?_
      rw [show sgP (txt t tn) 119 p = p + 1 from if_pos hT] at fa313
      have hb315 := sbP_fr hb309 (sa314 (q + 1) (by omega)) (sa314 (a) (by omega))
      have fa316 := (sa314 (q + 3) (by omega)).trans fa310
      have fa317 := (sa314 (q + 4) (by omega)).trans fa311
      have fr318 : frP (fun z => z ≠ q ∧ z ≠ q + 3 ∧ z ≠ q + 4) _ _ := fun z (hz : z ≠ q ∧ z ≠ q + 3 ∧ z ≠ q + 4) => (sa314 z (by omega)).trans (fr312 z hz)
      have bs319 : p + 1 ≤ tn := by first | omega | exact sg_le (by omega) (by omega)
      refine n_if_ne (tgt := 81) (x := 1) dX5_readOrder_76 (by decide) (by decide) (fun _ => ?_) (fun c => absurd c (by decide))
      refine n_iinc (k := 1) (x := 0) dX5_readOrder_81 (by decide) rfl rfl (by decide) ?_
      refine v_ls (ls2 := [some (.ref q), some (.int (nI (t p))), some (.ref (gA G 0 8)), some (.int (nI 1))]) rfl ?_
      refine v_goto (tgt := 59) dX5_readOrder_84 (by decide) ?_
      refine v_iload_n dX5_readOrder_59 rfl ?_
      refine v_aload_n dX5_readOrder_60 rfl ?_
      refine v_callT (st := [.int (nI 1)]) (i := 8) dX5_readOrder_61 (t_J0_length_8abf5 (i := 8) (by omega)) wX5_61 (by omega) rfl rfl ⟨Nat.le_of_ble_eq_true rfl, Nat.le_of_ble_eq_true rfl⟩ (Nat.le_of_ble_eq_true rfl) ⟨Nat.le_of_ble_eq_true rfl, Nat.le_of_ble_eq_true rfl⟩ (fun r n2 h2 hq => ?_)
      obtain ⟨rfl, hn9, rfl⟩ := hq; replace hn9 := hn9.symm; subst hn9
      refine v_st (st2 := [.int (nI 2), .int (nI 1)]) rfl ?_
      refine n_icmp_ge (tgt := 87) (x := 1) (y := 2) dX5_readOrder_64 (by decide) (by decide) (by decide) (fun c => absurd c (by decide)) (fun _ => ?_)
      refine v_aload_n dX5_readOrder_67 rfl ?_
      refine v_aload_n dX5_readOrder_68 rfl ?_
      refine v_iload_n dX5_readOrder_69 rfl ?_
      refine v_callT (st := [.ref q]) (i := 8) dX5_readOrder_70 (t_J0_charAt_5068e (i := 8) (j := 1) (by decide) (by decide)) wX5_62 (by omega) rfl rfl ⟨Nat.le_of_ble_eq_true rfl, Nat.le_of_ble_eq_true rfl⟩ (Nat.le_of_ble_eq_true rfl) ⟨Nat.le_of_ble_eq_true rfl, Nat.le_of_ble_eq_true rfl⟩ (fun r n2 h2 hq => ?_)
      obtain ⟨rfl, hn9, rfl⟩ := hq; replace hn9 := hn9.symm; subst hn9
      refine v_st (st2 := [.int (nI 50), .ref q]) rfl ?_
      refine v_callV (st := []) dX5_readOrder_73 (t_X5_readPart50 fa313 hb315 fa316 fa317 haq hm htn ht (by omega) (by omega) (by omega)) wX5_63 fa313 rfl rfl ⟨Nat.le_of_ble_eq_true rfl, Nat.le_of_ble_eq_true rfl⟩ (Nat.le_of_ble_eq_true rfl) ⟨Nat.le_of_ble_eq_true rfl, Nat.le_of_ble_eq_true rfl⟩ (fun r n2 h2 hq => ?_)
      obtain ⟨rfl, hn9, fa320, fa321, sa322⟩ := hq; replace hn9 := hn9.symm; subst hn9
      refine v_st (st2 := [.int (nI (bI (0 < dc (txt t tn) 2 (p + 1))))]) rfl ?_
      have hb323 := sbP_fr hb315 (sa322 (q + 1) (by omega)) (sa322 (a) (by omega))
      have fa324 := (sa322 (q + 3) (by omega)).trans fa316
      have fr325 : frP (fun z => z ≠ q ∧ z ≠ q + 3 ∧ z ≠ q + 4) _ _ := fun z (hz : z ≠ q ∧ z ≠ q + 3 ∧ z ≠ q + 4) => (sa322 z (by omega)).trans (fr318 z hz)
      have bs326 : p + 1 + dc (txt t tn) 2 (p + 1) ≤ tn := dc_le (by omega)
      refine n_ifb_ne (tgt := 81) (p := 0 < dc (txt t tn) 2 (p + 1)) dX5_readOrder_76 (by decide) (fun c327 => ?_) (fun c327 => ?_)
      · refine n_iinc (k := 1) (x := 1) dX5_readOrder_81 (by decide) rfl rfl (by decide) ?_
        refine v_ls (ls2 := [some (.ref q), some (.int (nI (t p))), some (.ref (gA G 0 8)), some (.int (nI 2))]) rfl ?_
        refine v_goto (tgt := 59) dX5_readOrder_84 (by decide) ?_
        refine v_iload_n dX5_readOrder_59 rfl ?_
        refine v_aload_n dX5_readOrder_60 rfl ?_
        refine v_callT (st := [.int (nI 2)]) (i := 8) dX5_readOrder_61 (t_J0_length_8abf5 (i := 8) (by omega)) wX5_61 (by omega) rfl rfl ⟨Nat.le_of_ble_eq_true rfl, Nat.le_of_ble_eq_true rfl⟩ (Nat.le_of_ble_eq_true rfl) ⟨Nat.le_of_ble_eq_true rfl, Nat.le_of_ble_eq_true rfl⟩ (fun r n2 h2 hq => ?_)
        obtain ⟨rfl, hn9, rfl⟩ := hq; replace hn9 := hn9.symm; subst hn9
        refine v_st (st2 := [.int (nI 2), .int (nI 2)]) rfl ?_
        refine n_icmp_ge (tgt := 87) (x := 2) (y := 2) dX5_readOrder_64 (by decide) (by decide) (by decide) (fun _ => ?_) (fun c => absurd c (by decide))
        refine v_iconst (v := nI 1) dX5_readOrder_87 (by decide) ?_
        refine v_zret (ty := .boolean) dX5_readOrder_88 rfl (by decide) ?_ (Nat.le_of_ble_eq_true rfl) (Nat.le_of_ble_eq_true rfl)
        have e8 : shI (txt t tn p) = 8 := by rw [hTp]; exact hsh
        have e9 : oS (txt t tn) 8 p = (true, p + 1 + dc (txt t tn) 2 (p + 1)) := by simp only [oS, sN, sS, sPM, decide_eq_true c327, if_true, if_false, reduceIte, Bool.false_eq_true]
        refine ⟨0 + 1, va_up N (c * 4 + 0) (dv (txt t tn) 0 2 (p + 1)), va_up L c (t p), by rw [e8, e9]; rfl, rfl, by rw [e8, e9]; exact fa320, fa324, fa321, fun k hk9 => va_un (by omega), fun k hk9 => ?_, fun z => ?_, fr325⟩
        · rw [va_un (by omega)]
        · rw [e8]; refine ⟨by rw [hTp]; exact va_us, fun j hj => ?_⟩
          obtain rfl := (show j = 0 by have : j < 1 := hj; omega)
          · exact va_us
      · refine v_iconst (v := nI 0) dX5_readOrder_79 (by decide) ?_
        refine v_zret (ty := .boolean) dX5_readOrder_80 rfl (by decide) ?_ (Nat.le_of_ble_eq_true rfl) (Nat.le_of_ble_eq_true rfl)
        have e8 : shI (txt t tn p) = 8 := by rw [hTp]; exact hsh
        have e9 : oS (txt t tn) 8 p = (false, p + 1 + dc (txt t tn) 2 (p + 1)) := by simp only [oS, sN, sS, sPM, decide_eq_false c327, if_true, if_false, reduceIte, Bool.false_eq_true]
        refine ⟨0 + 1, va_up N (c * 4 + 0) (dv (txt t tn) 0 2 (p + 1)), va_up L c (t p), by rw [e8, e9]; rfl, rfl, by rw [e8, e9]; exact fa320, fa324, fa321, fun k hk9 => va_un (by omega), fun k hk9 => ?_, fun z => ?_, fr325⟩
        · rw [va_un (by omega)]
        · rw [e8, e9] at z; exact absurd z Bool.false_ne_true
    · refine v_ls (ls2 := [some (.ref q), some (.int (nI (t p))), some (.ref (gA G 0 9)), none]) (by rw [hsh]) ?_
      refine v_aload_n dX5_readOrder_33 rfl ?_
      refine v_callT (st := []) (i := 9) dX5_readOrder_34 (t_J0_isEmpty_aae02 (i := 9) (by omega)) wX5_56 (by omega) rfl rfl ⟨Nat.le_of_ble_eq_true rfl, Nat.le_of_ble_eq_true rfl⟩ (Nat.le_of_ble_eq_true rfl) ⟨Nat.le_of_ble_eq_true rfl, Nat.le_of_ble_eq_true rfl⟩ (fun r n2 h2 hq => ?_)
      obtain ⟨rfl, hn9, rfl⟩ := hq; replace hn9 := hn9.symm; subst hn9
      refine v_st (st2 := [.int (nI 1)]) rfl ?_
      refine n_if_eq (tgt := 42) (x := 1) dX5_readOrder_37 (by decide) (by decide) (fun c => absurd c (by decide)) (fun _ => ?_)
      refine v_iconst (v := nI 0) dX5_readOrder_40 (by decide) ?_
      refine v_zret (ty := .boolean) dX5_readOrder_41 rfl (by decide) ?_ (Nat.le_of_ble_eq_true rfl) (Nat.le_of_ble_eq_true rfl)
      have e8 : shI (txt t tn p) = 9 := by rw [hTp]; exact hsh
      refine ⟨r, N, L, by rw [e8]; rfl, rfl, by rw [e8]; exact ho, hL, hN, fun _ _ => rfl, fun _ _ => rfl, fun z => ?_, frP_rf⟩
      rw [e8] at z; exact absurd z Bool.false_ne_true
  · refine v_iconst (v := nI 0) dX5_readOrder_14 (by decide) ?_
    refine v_zret (ty := .boolean) dX5_readOrder_15 rfl (by decide) ?_ (Nat.le_of_ble_eq_true rfl) (Nat.le_of_ble_eq_true rfl)
    have e8 : txt t tn p = 0 := if_neg (by omega)
    refine ⟨r, N, L, by rw [e8]; rfl, rfl, by rw [e8]; exact ho, hL, hN, fun _ _ => rfl, fun _ _ => rfl, fun z => ?_, frP_rf⟩
    rw [e8] at z; exact absurd z Bool.false_ne_true
