theorem hs_offn {G : vG} {h h2 : AH} {q c x k p : Nat} {S : Nat → Ct} (a : hs G h q c x S) (b : offn k p h h2) (hd : q + 162 ≤ p ∨ p + k ≤ q) : hs G h2 q c x S := by
  obtain ⟨h1, ⟨f, h3, h4⟩, h5⟩ := a
  exact ⟨(b q (by omega)).trans h1, ⟨f, (b (q + 1) (by omega)).trans h3, h4⟩, fun i hi => ct_offn (h5 i hi) b (by omega)⟩
theorem ct_frP {G : vG} {h h2 : AH} {p : Nat} {C : Ct} {P : Nat → Prop} (hc : ct G h p C) (b : frP P h h2) (hh : ∀ j, j < 20 → P (p + j)) : ct G h2 p C := fun i hi => (b _ (hh i hi)).trans (hc i hi)
abbrev su (S : Nat → Ct) (x : Nat) (C : Ct) : Nat → Ct := fun i => if i = x then C else S i
set_option maxRecDepth 20000 in
set_option maxHeartbeats 4000000 in
theorem t_X3_keep {l : Launch} {G : vG} {h : AH} {n : Nat} {q p c x : Nat} {S : Nat → Ct} {C : Ct} (hh : hs G h q c x S) (hp : ct G h p C) (hd : p + 20 ≤ q ∨ q + 162 ≤ p) (hc8 : c ≤ 8) (hx8 : x < 8) : Mt l G mX3_keep [.ref q, .ref p] (n) h 0 0 (fun r n2 h2 => r = none ∧ n2 = n ∧ hs G h2 q (min (c + 1) 8) ((x + 1) % 8) (su S x C) ∧ offn 162 q h h2) := by
  refine Mt.of (by decide) (Nat.le_of_ble_eq_true rfl) rfl ?_
  refine v_ls (ls2 := [some (.ref q), some (.ref p)]) rfl ?_
  obtain ⟨h1, ⟨f, h3, h4⟩, h5⟩ := hh
  refine v_aload_n dX3_keep_0 rfl ?_
  refine fX3_20 (v := .ref (q + 1)) rfl dX3_keep_1 h1 rfl ?_
  refine v_aload_n dX3_keep_4 rfl ?_
  refine fX3_15 (v := .int (nI x)) rfl dX3_keep_5 h1 rfl ?_
  refine n_aald (j := x) (v := q + 2 + 20 * x) dX3_keep_8 h3 (by omega) (by decide) (h4 x (by omega)) ?_
  refine v_aload_n dX3_keep_9 rfl ?_
  refine v_callV (st := []) dX3_keep_10 (t_X1_take (h5 x (by omega)) hp (by omega)) wX3_25 (ck0 (h5 x (by omega))) rfl rfl ⟨Nat.le_of_ble_eq_true rfl, Nat.le_of_ble_eq_true rfl⟩ (Nat.le_of_ble_eq_true rfl) ⟨Nat.le_refl _, Nat.le_refl _⟩ (fun r n2 h2 hq => ?_)
  obtain ⟨rfl, rfl, hc21, sa22⟩ := hq
  refine v_st (st2 := []) rfl ?_
  have fa23 := (sa22 (q) (by omega)).trans h1
  have fa24 := (sa22 (q + 1) (by omega)).trans h3
  have hc25 := ct_offn hp sa22 (by omega)
  have fr26 := frP_tr (P := fun z => z ≠ q ∧ (z < q + 2 + 20 * x ∨ q + 2 + 20 * x + 20 ≤ z)) frP_rf sa22 (fun z (hz : z ≠ q ∧ (z < q + 2 + 20 * x ∨ q + 2 + 20 * x + 20 ≤ z)) => by omega)
  refine v_aload_n dX3_keep_13 rfl ?_
  refine v_aload_n dX3_keep_14 rfl ?_
  refine fX3_15 (v := .int (nI x)) rfl dX3_keep_15 fa23 rfl ?_
  refine v_iconst (v := nI 1) dX3_keep_18 (by decide) ?_
  refine n_iadd (x := x) (y := 1) dX3_keep_19 ?_
  refine v_bipush (v := nI 8) dX3_keep_20 (by decide) ?_
  refine n_irem (x := x + 1) (y := 8) dX3_keep_22 (by omega) (by omega) (by omega) ?_
  refine pX3_15 rfl dX3_keep_23 fa23 (Nat.le_of_ble_eq_true rfl) ?_
  refine nw (fun h1 f1 s1 => ?_)
  have fa27 : h1 (q) = some (.inr (4, [.int (nI c), .int (nI ((x + 1) % 8)), .ref (q + 1)])) := f1
  have sa27 := s1
  clear f1 s1
  have fa28 := (sa27 (q + 1) (by omega)).trans fa24
  have hc29 := ct_offn hc21 sa27 (by omega)
  have hc30 := ct_offn hc25 sa27 (by omega)
  have fr31 := frP_tr (P := fun z => z ≠ q ∧ (z < q + 2 + 20 * x ∨ q + 2 + 20 * x + 20 ≤ z)) fr26 sa27 (fun z (hz : z ≠ q ∧ (z < q + 2 + 20 * x ∨ q + 2 + 20 * x + 20 ≤ z)) => by omega)
  refine v_aload_n dX3_keep_26 rfl ?_
  refine v_aload_n dX3_keep_27 rfl ?_
  refine fX3_9 (v := .int (nI c)) rfl dX3_keep_28 fa27 rfl ?_
  refine v_iconst (v := nI 1) dX3_keep_31 (by decide) ?_
  refine n_iadd (x := c) (y := 1) dX3_keep_32 ?_
  refine v_bipush (v := nI 8) dX3_keep_33 (by decide) ?_
  refine n_min (x := c + 1) (y := 8) dX3_keep_35 q2_107 q2_70 q1_12 q2_71 (Nat.le_of_ble_eq_true rfl) (Nat.le_of_ble_eq_true rfl) (Nat.zero_le _) (Nat.zero_le _) (by omega) (by omega) ?_
  refine pX3_9 rfl dX3_keep_38 fa27 (Nat.le_of_ble_eq_true rfl) ?_
  refine nw (fun h1 f1 s1 => ?_)
  have fa32 : h1 (q) = some (.inr (4, [.int (nI (min (c + 1) 8)), .int (nI ((x + 1) % 8)), .ref (q + 1)])) := f1
  have sa32 := s1
  clear f1 s1
  have fa33 := (sa32 (q + 1) (by omega)).trans fa28
  have hc34 := ct_offn hc29 sa32 (by omega)
  have hc35 := ct_offn hc30 sa32 (by omega)
  have fr36 := frP_tr (P := fun z => z ≠ q ∧ (z < q + 2 + 20 * x ∨ q + 2 + 20 * x + 20 ≤ z)) fr31 sa32 (fun z (hz : z ≠ q ∧ (z < q + 2 + 20 * x ∨ q + 2 + 20 * x + 20 ≤ z)) => by omega)
  refine v_vret dX3_keep_41 rfl ?_ (Nat.le_of_ble_eq_true rfl) (Nat.le_of_ble_eq_true rfl)
  refine ⟨rfl, rfl, ⟨fa32, ⟨f, fa33, h4⟩, fun i hi => ?_⟩, fun z hz => fr36 z ⟨by omega, by omega⟩⟩
  by_cases e : i = x
  · subst e
    show ct G _ _ (if i = i then C else S i)
    rw [if_pos rfl]
    exact hc34
  · show ct G _ _ (if i = x then C else S i)
    rw [if_neg e]
    exact ct_frP (h5 i hi) fr36 (fun j hj => ⟨by omega, by omega⟩)
set_option maxRecDepth 20000 in
set_option maxHeartbeats 4000000 in
theorem t_X3_giveLatestBack {l : Launch} {G : vG} {h : AH} {n : Nat} {q p c x y : Nat} {S : Nat → Ct} {C : Ct} (hh : hs G h q c x S) (hp : ct G h p C) (hd : p + 20 ≤ q ∨ q + 162 ≤ p) (hc8 : c ≤ 8) (hc0 : 0 < c) (hx8 : x < 8) (hy : (x + 8 - 1) % 8 = y) : Mt l G mX3_giveLatestBack [.ref q, .ref p] (n) h 0 0 (fun r n2 h2 => r = none ∧ n2 = n ∧ hs G h2 q (c - 1) y S ∧ ct G h2 p (S y) ∧ frP (fun z => z ≠ q ∧ (z < p ∨ p + 20 ≤ z)) h h2) := by
  refine Mt.of (by decide) (Nat.le_of_ble_eq_true rfl) rfl ?_
  refine v_ls (ls2 := [some (.ref q), some (.ref p)]) rfl ?_
  obtain ⟨h1, ⟨f, h3, h4⟩, h5⟩ := hh
  refine v_aload_n dX3_giveLatestBack_0 rfl ?_
  refine v_aload_n dX3_giveLatestBack_1 rfl ?_
  refine fX3_15 (v := .int (nI x)) rfl dX3_giveLatestBack_2 h1 rfl ?_
  refine v_bipush (v := nI 8) dX3_giveLatestBack_5 (by decide) ?_
  refine n_iadd (x := x) (y := 8) dX3_giveLatestBack_7 ?_
  refine v_iconst (v := nI 1) dX3_giveLatestBack_8 (by decide) ?_
  refine n_isub (x := x + 8) (y := 1) dX3_giveLatestBack_9 (by omega) ?_
  refine v_bipush (v := nI 8) dX3_giveLatestBack_10 (by decide) ?_
  refine n_irem (x := (x + 8) - 1) (y := 8) dX3_giveLatestBack_12 (by omega) (by omega) (by omega) ?_
  refine v_st (st2 := [.int (nI y), .ref q]) (by rw [hy]) ?_
  refine pX3_15 rfl dX3_giveLatestBack_13 h1 (Nat.le_of_ble_eq_true rfl) ?_
  refine nw (fun h1 f1 s1 => ?_)
  have fa21 : h1 (q) = some (.inr (4, [.int (nI c), .int (nI y), .ref (q + 1)])) := f1
  have sa21 := s1
  clear f1 s1
  have fa22 := (sa21 (q + 1) (by omega)).trans h3
  have hc23 := ct_offn (h5 y (by omega)) sa21 (by omega)
  have hc24 := ct_offn hp sa21 (by omega)
  have fr25 := frP_tr (P := fun z => z ≠ q ∧ (z < p ∨ p + 20 ≤ z)) frP_rf sa21 (fun z (hz : z ≠ q ∧ (z < p ∨ p + 20 ≤ z)) => by omega)
  refine v_aload_n dX3_giveLatestBack_16 rfl ?_
  refine v_dup dX3_giveLatestBack_17 rfl ?_
  refine fX3_9 (v := .int (nI c)) rfl dX3_giveLatestBack_18 fa21 rfl ?_
  refine v_iconst (v := nI 1) dX3_giveLatestBack_21 (by decide) ?_
  refine n_isub (x := c) (y := 1) dX3_giveLatestBack_22 (by omega) ?_
  refine pX3_9 rfl dX3_giveLatestBack_23 fa21 (Nat.le_of_ble_eq_true rfl) ?_
  refine nw (fun h1 f1 s1 => ?_)
  have fa26 : h1 (q) = some (.inr (4, [.int (nI (c - 1)), .int (nI y), .ref (q + 1)])) := f1
  have sa26 := s1
  clear f1 s1
  have fa27 := (sa26 (q + 1) (by omega)).trans fa22
  have hc28 := ct_offn hc23 sa26 (by omega)
  have hc29 := ct_offn hc24 sa26 (by omega)
  have fr30 := frP_tr (P := fun z => z ≠ q ∧ (z < p ∨ p + 20 ≤ z)) fr25 sa26 (fun z (hz : z ≠ q ∧ (z < p ∨ p + 20 ≤ z)) => by omega)
  refine v_aload_n dX3_giveLatestBack_26 rfl ?_
  refine v_aload_n dX3_giveLatestBack_27 rfl ?_
  refine fX3_20 (v := .ref (q + 1)) rfl dX3_giveLatestBack_28 fa26 rfl ?_
  refine v_aload_n dX3_giveLatestBack_31 rfl ?_
  refine fX3_15 (v := .int (nI y)) rfl dX3_giveLatestBack_32 fa26 rfl ?_
  refine n_aald (j := y) (v := q + 2 + 20 * y) dX3_giveLatestBack_35 fa27 (by omega) (by decide) (h4 y (by omega)) ?_
  refine v_callV (st := []) dX3_giveLatestBack_36 (t_X1_take hc29 hc28 (by omega)) wX3_25 (ck0 hc29) rfl rfl ⟨Nat.le_of_ble_eq_true rfl, Nat.le_of_ble_eq_true rfl⟩ (Nat.le_of_ble_eq_true rfl) ⟨Nat.le_refl _, Nat.le_refl _⟩ (fun r n2 h2 hq => ?_)
  obtain ⟨rfl, rfl, hc31, sa32⟩ := hq
  refine v_st (st2 := []) rfl ?_
  have fa33 := (sa32 (q) (by omega)).trans fa26
  have fa34 := (sa32 (q + 1) (by omega)).trans fa27
  have hc35 := ct_offn hc28 sa32 (by omega)
  have fr36 := frP_tr (P := fun z => z ≠ q ∧ (z < p ∨ p + 20 ≤ z)) fr30 sa32 (fun z (hz : z ≠ q ∧ (z < p ∨ p + 20 ≤ z)) => by omega)
  refine v_vret dX3_giveLatestBack_39 rfl ?_ (Nat.le_of_ble_eq_true rfl) (Nat.le_of_ble_eq_true rfl)
  exact ⟨rfl, rfl, ⟨fa33, ⟨f, fa34, h4⟩, fun i hi => ct_frP (h5 i hi) fr36 (fun j hj => ⟨by omega, by omega⟩)⟩, hc31, fr36⟩
set_option maxRecDepth 20000 in
set_option maxHeartbeats 4000000 in
theorem t_X3_forgetAll {l : Launch} {G : vG} {h : AH} {n : Nat} {q c x : Nat} {S : Nat → Ct} (hh : hs G h q c x S) : Mt l G mX3_forgetAll [.ref q] (n) h 0 0 (fun r n2 h2 => r = none ∧ n2 = n ∧ hs G h2 q 0 x S ∧ offn 1 q h h2) := by
  refine Mt.of (by decide) (Nat.le_of_ble_eq_true rfl) rfl ?_
  refine v_ls (ls2 := [some (.ref q)]) rfl ?_
  obtain ⟨h1, ⟨f, h3, h4⟩, h5⟩ := hh
  refine v_aload_n dX3_forgetAll_0 rfl ?_
  refine v_iconst (v := nI 0) dX3_forgetAll_1 (by decide) ?_
  refine pX3_9 rfl dX3_forgetAll_2 h1 (Nat.le_of_ble_eq_true rfl) ?_
  refine nw (fun h1 f1 s1 => ?_)
  have fa21 : h1 (q) = some (.inr (4, [.int (nI 0), .int (nI x), .ref (q + 1)])) := f1
  have sa21 := s1
  clear f1 s1
  have fa22 := (sa21 (q + 1) (by omega)).trans h3
  have fr23 := frP_tr (P := fun z => z ≠ q) frP_rf sa21 (fun z (hz : z ≠ q) => by omega)
  refine v_vret dX3_forgetAll_5 rfl ?_ (Nat.le_of_ble_eq_true rfl) (Nat.le_of_ble_eq_true rfl)
  exact ⟨rfl, rfl, ⟨fa21, ⟨f, fa22, h4⟩, fun i hi => ct_frP (h5 i hi) fr23 (fun j hj => by omega)⟩, fun z hz => fr23 z (by omega)⟩
