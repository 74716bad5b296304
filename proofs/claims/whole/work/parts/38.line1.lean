/-- a line on its way: its signs, how many -/
abbrev Ln : Type := (Nat → Nat) × Nat
def wc (S : Ln) (c : Nat) : Ln := (sb_cat S.1 S.2 (fun _ => c), S.2 + 1)
def wi (S : Ln) (x : Nat) : Ln := (sb_cat S.1 S.2 (sb_dec x), S.2 + sb_dg x)
def lrel (Y : Nat → Nat) (S : Ln) : Prop := ∀ i, i < S.2 → Y i = S.1 i
theorem lrel_c {Y : Nat → Nat} {S : Ln} {c : Nat} (h : lrel Y S) : lrel (va_up Y S.2 c) (wc S c) := by
  intro i hi
  have hi : i < S.2 + 1 := hi
  show va_up Y S.2 c i = (if i < S.2 then S.1 i else c)
  unfold va_up
  by_cases e : i = S.2
  · rw [if_pos e, if_neg (by omega)]
  · rw [if_neg e, if_pos (by omega)]
    exact h i (by omega)
theorem dg_of {x i : Nat} (hx : x < 2 ^ 28) (hi : i ≤ 9) (h1 : i = 0 ∨ 10 ^ i ≤ x) (h2 : x / 10 ^ i < 10) : sb_dg x = i + 1 := by
  unfold sb_dg
  obtain rfl | rfl | rfl | rfl | rfl | rfl | rfl | rfl | rfl | rfl := (by omega : i = 0 ∨ i = 1 ∨ i = 2 ∨ i = 3 ∨ i = 4 ∨ i = 5 ∨ i = 6 ∨ i = 7 ∨ i = 8 ∨ i = 9) <;> ((repeat (first | rw [if_pos (by omega)] | rw [if_neg (by omega)])); try omega)
theorem dg1 {x : Nat} (h : x < 10) : sb_dg x = 1 := by
  unfold sb_dg
  rw [if_pos h]
theorem dg2 {x : Nat} (h : x < 100) : sb_dg x ≤ 2 := by
  unfold sb_dg
  by_cases q : x < 10
  · rw [if_pos q]; decide
  · rw [if_neg q, if_pos h]; first | done | decide
def tpw (d i : Nat) : Nat := if i < d then 10 ^ (d - 1 - i) else 0
theorem tpw_s {d i : Nat} (h : i < d) : tpw d i / 10 = tpw d (i + 1) := by
  unfold tpw
  rw [if_pos h]
  by_cases q : i + 1 < d
  · rw [if_pos q, show d - 1 - i = (d - 1 - (i + 1)) + 1 by omega, Nat.pow_succ, Nat.mul_div_cancel _ (by decide)]
  · rw [if_neg q, show d - 1 - i = 0 by omega]
theorem tpw_p {d i : Nat} (h : i < d) : 0 < tpw d i := by
  unfold tpw
  rw [if_pos h]
  exact Nat.pow_pos (by decide)
theorem tpw_b {d i : Nat} (h : d ≤ 10) : tpw d i < 2 ^ 31 := by
  unfold tpw
  split
  · exact Nat.lt_of_le_of_lt (Nat.pow_le_pow_right (by decide) (show d - 1 - i ≤ 9 by omega)) (by decide)
  · decide
theorem wi_at {S : Ln} {x i : Nat} (hi : i < sb_dg x) : (wi S x).1 (S.2 + i) = 48 + x / tpw (sb_dg x) i % 10 := by
  show sb_cat S.1 S.2 (sb_dec x) (S.2 + i) = _
  rw [sb_cat_hi]
  unfold tpw
  rw [if_pos hi]
  rfl
def plS : Nat → Ln → Ln
  | 0, S => S
  | k + 1, S => wc (plS k S) 43
def tellL (C : Ct) (f : Nat) (S : Ln) : Ln := plS (C 4 f) (if 0 < C 3 f then wi (wc (wi (wc (wi (wc (wi S f) 115) (C 1 f)) 36) (C 2 f)) 126) (C 3 f) else wi (wc (wi (wc (wi S f) 115) (C 1 f)) 36) (C 2 f))
def bkL (C : Ct) (S : Ln) : Nat → Ln
  | 0 => S
  | i + 1 => wi (wc (wi (wc (wi (wc (wi (if 0 < i then wc (bkL C S i) 32 else bkL C S i) (C 11 i)) 58) (C 12 i)) 64) (C 13 i)) 61) (C 14 i)
theorem plS_2 : ∀ (k : Nat) (S : Ln), (plS k S).2 = S.2 + k
  | 0, _ => rfl
  | k + 1, S => by
    show (plS k S).2 + 1 = _
    rw [plS_2 k S]
    omega
set_option maxRecDepth 20000 in
set_option maxHeartbeats 4000000 in
theorem t_X7_writes {l : Launch} {G : vG} {h : AH} {n : Nat} {m ch sv tn hr en wg dg : Nat} {fl wy dt : Int32} {Y : Nat → Nat} {k c : Nat} (ho : h m = some (mo m ch sv tn hr en k wg dg fl wy dt)) (hli : h (m + 7) = some (ar G 120 Y)) (hk : k < 120) : Mt l G mX7_writes [.ref m, .int (nI c)] (n) h 0 0 (fun r n2 h2 => r = none ∧ n2 = n ∧ h2 m = some (mo m ch sv tn hr en (k + 1) wg dg fl wy dt) ∧ h2 (m + 7) = some (ar G 120 (va_up Y k c)) ∧ frP (fun z => z ≠ m ∧ z ≠ m + 7) h h2) := by
  refine Mt.of (by decide) (Nat.le_of_ble_eq_true rfl) rfl ?_
  refine v_ls (ls2 := [some (.ref m), some (.int (nI c))]) rfl ?_
  refine v_aload_n dX7_writes_0 rfl ?_
  refine fX7_28 (v := .ref (m + 7)) rfl dX7_writes_1 ho rfl ?_
  refine v_aload_n dX7_writes_4 rfl ?_
  refine fX7_170 (v := .int (nI k)) rfl dX7_writes_5 ho rfl ?_
  refine v_iload_n dX7_writes_8 rfl ?_
  refine n_iast (f := Y) (j := k) (x := c) dX7_writes_9 hli (by omega) (by decide) ?_
  refine nw (fun h1 f1 s1 => ?_)
  have fa21 : h1 (m + 7) = some (ar G 120 (va_up Y k c)) := f1
  have sa21 := s1
  clear f1 s1
  have fa22 := (sa21 (m) (by omega)).trans ho
  have fr23 : frP (fun z => z ≠ m ∧ z ≠ m + 7) _ _ := fun z (hz : z ≠ m ∧ z ≠ m + 7) => sa21 z (by omega)
  refine v_aload_n dX7_writes_10 rfl ?_
  refine v_dup dX7_writes_11 rfl ?_
  refine fX7_170 (v := .int (nI k)) rfl dX7_writes_12 fa22 rfl ?_
  refine v_iconst (v := nI 1) dX7_writes_15 (by decide) ?_
  refine n_iadd (x := k) (y := 1) dX7_writes_16 ?_
  refine pX7_170 rfl dX7_writes_17 fa22 (Nat.le_of_ble_eq_true rfl) ?_
  refine nw (fun h1 f1 s1 => ?_)
  have fa24 : h1 (m) = some (.inr (8, [.int fl, .int (nI ch), .int wy, .int dt, .int (nI sv), .ref (m + 1), .ref (m + 2), .ref (m + 3), .ref (m + 4), .ref (m + 5), .ref (m + 6), .ref (m + 7), .int (nI tn), .int (nI hr), .int (nI en), .int (nI (k + 1)), .int (nI wg), .int (nI dg)])) := f1
  have sa24 := s1
  clear f1 s1
  have fa25 := (sa24 (m + 7) (by omega)).trans fa21
  have fr26 : frP (fun z => z ≠ m ∧ z ≠ m + 7) _ _ := fun z (hz : z ≠ m ∧ z ≠ m + 7) => (sa24 z (by omega)).trans (fr23 z hz)
  refine v_vret dX7_writes_20 rfl ?_ (Nat.le_of_ble_eq_true rfl) (Nat.le_of_ble_eq_true rfl)
  exact ⟨rfl, rfl, fa24, fa25, fr26⟩
set_option maxRecDepth 20000 in
set_option maxHeartbeats 4000000 in
theorem t_X7_writesNumber {l : Launch} {G : vG} {h : AH} {n : Nat} {m ch sv tn hr en wg dg : Nat} {fl wy dt : Int32} {Y : Nat → Nat} {S : Ln} {x : Nat} (ho : h m = some (mo m ch sv tn hr en S.2 wg dg fl wy dt)) (hli : h (m + 7) = some (ar G 120 Y)) (hY : lrel Y S) (hx : x < 2 ^ 28) (hk : S.2 + sb_dg x ≤ 120) : Mt l G mX7_writesNumber [.ref m, .int (nI x)] (n) h 0 0 (fun r n2 h2 => r = none ∧ n2 = n ∧ h2 m = some (mo m ch sv tn hr en ((wi S x).2) wg dg fl wy dt) ∧ (∃ Y2 : Nat → Nat, h2 (m + 7) = some (ar G 120 Y2) ∧ lrel Y2 (wi S x)) ∧ frP (fun z => z ≠ m ∧ z ≠ m + 7) h h2) := by
  refine Mt.of (by decide) (Nat.le_of_ble_eq_true rfl) rfl ?_
  refine v_ls (ls2 := [some (.ref m), some (.int (nI x)), none]) rfl ?_
  refine v_iconst (v := nI 1) dX7_writesNumber_0 (by decide) ?_
  refine v_istore_n dX7_writesNumber_1 rfl (by decide) ?_
  refine v_ls (ls2 := [some (.ref m), some (.int (nI x)), some (.int (nI 1))]) rfl ?_
  refine loopV (fun i2 => [some (.ref m), some (.int (nI x)), some (.int (nI (10 ^ i2)))]) (fun i2 => i2 = 0 ∨ 10 ^ i2 ≤ x) (N := 9) 0 (by omega) rfl (Or.inl rfl) (fun i2 hi2 hp2 ih2 => ?_)
  have hp0 : 0 < 10 ^ i2 := Nat.pow_pos (by decide)
  have hp1 : 10 ^ i2 < 2 ^ 31 := Nat.lt_of_le_of_lt (Nat.pow_le_pow_right (by decide) hi2) (by decide)
  have hdv : x / 10 ^ i2 ≤ x := Nat.div_le_self _ _
  refine v_iload_n dX7_writesNumber_2 rfl ?_
  refine v_iload_n dX7_writesNumber_3 rfl ?_
  refine n_idiv (x := x) (y := 10 ^ i2) dX7_writesNumber_4 (by omega) (by omega) (by omega) ?_
  refine v_bipush (v := nI 10) dX7_writesNumber_5 (by decide) ?_
  refine n_icmp_lt (tgt := 18) (x := x / (10 ^ i2)) (y := 10) dX7_writesNumber_7 (by decide) (by omega) (by omega) (fun c21 => ?_) (fun c21 => ?_)
  · have hd9 : sb_dg x = i2 + 1 := dg_of hx hi2 hp2 c21
    have hd10 := sb_dg_in x
    refine v_ls (ls2 := [some (.ref m), some (.int (nI x)), some (.int (nI (tpw (sb_dg x) 0)))]) (by rw [show tpw (sb_dg x) 0 = 10 ^ i2 by unfold tpw; rw [hd9, if_pos (by omega)]; rfl]) ?_
    refine loopH (fun i => [some (.ref m), some (.int (nI x)), some (.int (nI (tpw (sb_dg x) i)))]) (fun i h1 => h1 m = some (mo m ch sv tn hr en (S.2 + i) wg dg fl wy dt) ∧ (∃ Y1 : Nat → Nat, h1 (m + 7) = some (ar G 120 Y1) ∧ ∀ j, j < S.2 + i → Y1 j = (wi S x).1 j) ∧ frP (fun z => z ≠ m ∧ z ≠ m + 7) h h1) (N := sb_dg x) 0 (by omega) rfl ⟨ho, ⟨Y, hli, fun j hj => (hY j (by omega)).trans (sb_cat_lo (by omega)).symm⟩, frP_rf⟩ (fun i h1 hi hp9 ihi => ?_)
    clear ho hli
    obtain ⟨ho, ⟨Y1, hli, hY1⟩, fr0⟩ := hp9
    have tb := tpw_b (d := sb_dg x) (i := i) hd10.2
    have hdx : x / tpw (sb_dg x) i ≤ x := Nat.div_le_self _ _
    refine v_iload_n dX7_writesNumber_18 rfl ?_
    refine n_if_le (tgt := 43) (x := tpw (sb_dg x) i) dX7_writesNumber_19 (by decide) (by omega) (fun c22 => ?_) (fun c22 => ?_)
    · refine v_vret dX7_writesNumber_43 rfl ?_ (Nat.le_of_ble_eq_true rfl) (Nat.le_of_ble_eq_true rfl)
      have hid : i = sb_dg x := by
        rcases Nat.lt_or_ge i (sb_dg x) with q | q
        · have := tpw_p q; omega
        · omega
      subst hid
      exact ⟨rfl, rfl, ho, ⟨Y1, hli, hY1⟩, fr0⟩
    · have hid : i < sb_dg x := by
        rcases Nat.lt_or_ge i (sb_dg x) with q | q
        · exact q
        · rw [show tpw (sb_dg x) i = 0 from if_neg (by omega)] at c22; omega
      refine v_aload_n dX7_writesNumber_22 rfl ?_
      refine v_bipush (v := nI 48) dX7_writesNumber_23 (by decide) ?_
      refine v_iload_n dX7_writesNumber_25 rfl ?_
      refine v_iload_n dX7_writesNumber_26 rfl ?_
      refine n_idiv (x := x) (y := tpw (sb_dg x) i) dX7_writesNumber_27 (by omega) (by omega) (by omega) ?_
      refine v_bipush (v := nI 10) dX7_writesNumber_28 (by decide) ?_
      refine n_irem (x := x / tpw (sb_dg x) i) (y := 10) dX7_writesNumber_30 (by omega) (by omega) (by omega) ?_
      refine n_iadd (x := 48) (y := (x / tpw (sb_dg x) i) % 10) dX7_writesNumber_31 ?_
      refine v_callV (st := []) dX7_writesNumber_32 (t_X7_writes (c := 48 + ((x / tpw (sb_dg x) i) % 10)) ho hli (by omega)) wX7_173 ho rfl rfl ⟨Nat.le_of_ble_eq_true rfl, Nat.le_of_ble_eq_true rfl⟩ (Nat.le_of_ble_eq_true rfl) ⟨Nat.le_of_ble_eq_true rfl, Nat.le_of_ble_eq_true rfl⟩ (fun r n2 h2 hq => ?_)
      obtain ⟨rfl, hn9, fo23, fl23, fr23⟩ := hq; replace hn9 := hn9.symm; subst hn9
      refine v_st (st2 := []) rfl ?_
      have fr24 : frP (fun z => z ≠ m ∧ z ≠ m + 7) _ _ := fun z (hz : z ≠ m ∧ z ≠ m + 7) => (fr23 z (by omega)).trans (fr0 z hz)
      refine v_iload_n dX7_writesNumber_35 rfl ?_
      refine v_bipush (v := nI 10) dX7_writesNumber_36 (by decide) ?_
      refine n_idiv (x := tpw (sb_dg x) i) (y := 10) dX7_writesNumber_38 (by omega) (by omega) (by omega) ?_
      refine v_istore_n dX7_writesNumber_39 rfl (by decide) ?_
      refine v_ls (ls2 := [some (.ref m), some (.int (nI x)), some (.int (nI (tpw (sb_dg x) i / 10)))]) rfl ?_
      refine v_goto (tgt := 18) dX7_writesNumber_40 (by decide) ?_
      refine v_ls (ls2 := [some (.ref m), some (.int (nI x)), some (.int (nI (tpw (sb_dg x) ((i + 1)))))]) (by rw [tpw_s hid]) (ihi hid _ ⟨fo23, ⟨_, fl23, fun j hj => ?_⟩, fr24⟩)
      by_cases e : j = S.2 + i
      · subst e; rw [va_us, wi_at hid]
      · rw [va_un e]; exact hY1 j (by omega)
  · refine v_iload_n dX7_writesNumber_10 rfl ?_
    refine v_bipush (v := nI 10) dX7_writesNumber_11 (by decide) ?_
    refine n_imul (x := 10 ^ i2) (y := 10) dX7_writesNumber_13 ?_
    refine v_istore_n dX7_writesNumber_14 rfl (by decide) ?_
    refine v_ls (ls2 := [some (.ref m), some (.int (nI x)), some (.int (nI ((10 ^ i2) * 10)))]) rfl ?_
    refine v_goto (tgt := 2) dX7_writesNumber_15 (by decide) ?_
    have h10 : 10 ^ (i2 + 1) ≤ x := by rw [Nat.pow_succ, Nat.mul_comm]; exact (Nat.le_div_iff_mul_le hp0).mp c21
    have hi9 : i2 < 9 := by
      rcases Nat.lt_or_ge i2 9 with q | q
      · exact q
      · have := Nat.pow_le_pow_right (n := 10) (by decide) q
        omega
    exact ih2 hi9 (Or.inr h10)
set_option maxRecDepth 20000 in
set_option maxHeartbeats 4000000 in
theorem t_X7_tell {l : Launch} {G : vG} {h : AH} {n : Nat} {m ch sv tn hr en ln wg dg : Nat} {fl wy dt : Int32} {b : Nat} {C : Ct} {Y T0 : Nat → Nat} {f : Int32} (ho : h m = some (mo m ch sv tn hr en ln wg dg fl wy dt)) (hv : h (m + 1) = some (ar G 182 (vO C))) (hli : h (m + 7) = some (ar G 120 Y)) (hK : bdk b C) (hb2 : b + 5000 ≤ 2 ^ 28) (hI : Iv C) : Mt l G mX7_tell [.ref m, .int f] (n) h 0 0 (fun r n2 h2 => r = some (.int (if ixb f (C 0 0) = true then nI (tellL C f.toNatClampNeg (T0, 0)).2 else -1011)) ∧ n2 = n ∧ (∃ (l2 : Nat) (Y2 : Nat → Nat), h2 m = some (mo m ch sv tn hr en l2 wg dg fl wy dt) ∧ h2 (m + 7) = some (ar G 120 Y2) ∧ ((ixb f (C 0 0) = true → l2 = (tellL C f.toNatClampNeg (T0, 0)).2 ∧ lrel Y2 (tellL C f.toNatClampNeg (T0, 0))) ∧ (¬ ixb f (C 0 0) = true → l2 = ln ∧ Y2 = Y))) ∧ frP (fun z => z ≠ m ∧ z ≠ m + 7) h h2) := by
  refine Mt.of (by decide) (Nat.le_of_ble_eq_true rfl) rfl ?_
  refine v_ls (ls2 := [some (.ref m), some (.int f), none]) rfl ?_
  have hB := hK.bd (by omega)
  obtain ⟨hF, hJ, hn, hs1, hc99, hs4, hs7, hs8, hs15, hbk9, hs9⟩ := hI.1
  have b00 := hB 0 0
  have b01 := hB 0 1
  have b02 := hB 0 2
  have b03 := hB 0 3
  refine v_aload_n dX7_tell_0 rfl ?_
  refine v_iload_n dX7_tell_1 rfl ?_
  refine v_callV (st := []) dX7_tell_2 (t_X7_isFool (x := f) ho hv hK (by omega)) wX7_81 ho rfl rfl ⟨Nat.le_of_ble_eq_true rfl, Nat.le_of_ble_eq_true rfl⟩ (Nat.le_of_ble_eq_true rfl) ⟨Nat.le_of_ble_eq_true rfl, Nat.le_of_ble_eq_true rfl⟩ (fun r n2 h2 hq => ?_)
  obtain ⟨rfl, hn9, hh9⟩ := hq; replace hn9 := hn9.symm; subst hn9; replace hh9 := hh9.symm; subst hh9
  refine v_st (st2 := [.int (nI (bI (ixb f (C 0 0) = true)))]) rfl ?_
  refine n_ifb_ne (tgt := 12) (p := ixb f (C 0 0) = true) dX7_tell_5 (by decide) (fun c21 => ?_) (fun c21 => ?_)
  · obtain ⟨F, hF1, rfl⟩ := ix_of c21 (by omega)
    have eF : (nI F).toNatClampNeg = F := nI_clamp (by omega)
    have t1 := hs1 F
    have t2 := hc99 F
    have t4 := hs4 F
    have t3 := hB 3 F
    obtain ⟨S, hSe⟩ : ∃ S : Ln, S = (T0, 0) := ⟨_, rfl⟩
    have hS0 : S.2 = 0 := by rw [hSe]
    refine v_aload_n dX7_tell_12 rfl ?_
    refine v_iconst (v := nI 0) dX7_tell_13 (by decide) ?_
    refine pX7_170 rfl dX7_tell_14 ho (Nat.le_of_ble_eq_true rfl) ?_
    refine nw (fun h1 f1 s1 => ?_)
    have fa22 : h1 (m) = some (.inr (8, [.int fl, .int (nI ch), .int wy, .int dt, .int (nI sv), .ref (m + 1), .ref (m + 2), .ref (m + 3), .ref (m + 4), .ref (m + 5), .ref (m + 6), .ref (m + 7), .int (nI tn), .int (nI hr), .int (nI en), .int (nI 0), .int (nI wg), .int (nI dg)])) := f1
    have sa22 := s1
    clear f1 s1
    have hv23 := (sa22 (m + 1) (by omega)).trans hv
    have fa24 := (sa22 (m + 7) (by omega)).trans hli
    have fr25 : frP (fun z => z ≠ m ∧ z ≠ m + 7) _ _ := fun z (hz : z ≠ m ∧ z ≠ m + 7) => sa22 z (by omega)
    have lr0 : lrel Y S := fun i hi => absurd hi (by omega)
    have fo0 := fa22
    have fo0 := Eq.trans fa22 (congrArg (fun z => some (mo m ch sv tn hr en z wg dg fl wy dt)) hS0.symm)
    refine v_aload_n dX7_tell_17 rfl ?_
    refine v_iload_n dX7_tell_18 rfl ?_
    have dg26 := (dg1 (show F < 10 by omega))
    refine v_callV (st := []) dX7_tell_19 (t_X7_writesNumber (x := F) (S := S) fo0 fa24 lr0 (by omega) (by omega)) wX7_220 fo0 rfl rfl ⟨Nat.le_of_ble_eq_true rfl, Nat.le_of_ble_eq_true rfl⟩ (Nat.le_of_ble_eq_true rfl) ⟨Nat.le_of_ble_eq_true rfl, Nat.le_of_ble_eq_true rfl⟩ (fun r n2 h2 hq => ?_)
    obtain ⟨rfl, hn9, fo26, ⟨Y26, fl26, lr26⟩, fr26⟩ := hq; replace hn9 := hn9.symm; subst hn9
    refine v_st (st2 := []) rfl ?_
    obtain ⟨S26, hS26⟩ : ∃ Sx : Ln, Sx = wi S F := ⟨_, rfl⟩
    rw [← hS26] at fo26 lr26
    have hk26 : S26.2 = S.2 + sb_dg F := by rw [hS26]; rfl
    have hv27 := (fr26 (m + 1) (by omega)).trans hv23
    have fr28 : frP (fun z => z ≠ m ∧ z ≠ m + 7) _ _ := fun z (hz : z ≠ m ∧ z ≠ m + 7) => (fr26 z (by omega)).trans (fr25 z hz)
    refine v_aload_n dX7_tell_22 rfl ?_
    refine v_bipush (v := nI 115) dX7_tell_23 (by decide) ?_
    refine v_callV (st := []) dX7_tell_25 (t_X7_writes (c := 115) fo26 fl26 (by omega)) wX7_173 fo26 rfl rfl ⟨Nat.le_of_ble_eq_true rfl, Nat.le_of_ble_eq_true rfl⟩ (Nat.le_of_ble_eq_true rfl) ⟨Nat.le_of_ble_eq_true rfl, Nat.le_of_ble_eq_true rfl⟩ (fun r n2 h2 hq => ?_)
    obtain ⟨rfl, hn9, fo29, fl29, fr29⟩ := hq; replace hn9 := hn9.symm; subst hn9
    refine v_st (st2 := []) rfl ?_
    obtain ⟨S29, hS29⟩ : ∃ Sx : Ln, Sx = wc S26 115 := ⟨_, rfl⟩
    have lr29 : lrel (va_up Y26 S26.2 115) S29 := by rw [hS29]; exact lrel_c (c := 115) lr26
    have hk29 : S29.2 = S26.2 + 1 := by rw [hS29]; rfl
    rw [← hk29] at fo29
    obtain ⟨Y29, hY29⟩ : ∃ Yx : Nat → Nat, Yx = va_up Y26 S26.2 115 := ⟨_, rfl⟩
    rw [← hY29] at fl29 lr29
    have hv30 := (fr29 (m + 1) (by omega)).trans hv27
    have fr31 : frP (fun z => z ≠ m ∧ z ≠ m + 7) _ _ := fun z (hz : z ≠ m ∧ z ≠ m + 7) => (fr29 z (by omega)).trans (fr28 z hz)
    refine v_aload_n dX7_tell_28 rfl ?_
    refine v_aload_n dX7_tell_29 rfl ?_
    refine fX7_7 (v := .ref (m + 1)) rfl dX7_tell_30 fo29 rfl ?_
    refine v_iload_n dX7_tell_33 rfl ?_
    refine v_iconst (v := nI 0) dX7_tell_34 (by decide) ?_
    refine v_callS (st := [.ref (m + 1), .ref m]) dX7_tell_35 (t_X7_at (f := F) (w := 0)) wX7_63 rfl ⟨Nat.le_of_ble_eq_true rfl, Nat.le_of_ble_eq_true rfl⟩ (Nat.le_of_ble_eq_true rfl) ⟨Nat.le_of_ble_eq_true rfl, Nat.le_of_ble_eq_true rfl⟩ (fun r n2 h2 hq => ?_)
    obtain ⟨rfl, hn9, hh9⟩ := hq; replace hn9 := hn9.symm; subst hn9; replace hh9 := hh9.symm; subst hh9
    refine v_st (st2 := [.int (nI (10 + 6 * F + 0)), .ref (m + 1), .ref m]) rfl ?_
    refine n_ialdv (f := vO C) (j := 10 + 6 * F + 0) (y := C 1 F) dX7_tell_38 hv30 (by omega) (by decide) ((vrd (C := C) (lgF (f := F) (w := 0) (by omega) (by decide)) (Or.inl (by omega))).trans rfl) ?_
    have b32 := hK 1 F
    have dg33 := (dg1 (show C 1 F < 10 by omega))
    refine v_callV (st := []) dX7_tell_39 (t_X7_writesNumber (x := C 1 F) (S := S29) fo29 fl29 lr29 (by omega) (by omega)) wX7_220 fo29 rfl rfl ⟨Nat.le_of_ble_eq_true rfl, Nat.le_of_ble_eq_true rfl⟩ (Nat.le_of_ble_eq_true rfl) ⟨Nat.le_of_ble_eq_true rfl, Nat.le_of_ble_eq_true rfl⟩ (fun r n2 h2 hq => ?_)
    obtain ⟨rfl, hn9, fo33, ⟨Y33, fl33, lr33⟩, fr33⟩ := hq; replace hn9 := hn9.symm; subst hn9
    refine v_st (st2 := []) rfl ?_
    obtain ⟨S33, hS33⟩ : ∃ Sx : Ln, Sx = wi S29 (C 1 F) := ⟨_, rfl⟩
    rw [← hS33] at fo33 lr33
    have hk33 : S33.2 = S29.2 + sb_dg (C 1 F) := by rw [hS33]; rfl
    have hv34 := (fr33 (m + 1) (by omega)).trans hv30
    have fr35 : frP (fun z => z ≠ m ∧ z ≠ m + 7) _ _ := fun z (hz : z ≠ m ∧ z ≠ m + 7) => (fr33 z (by omega)).trans (fr31 z hz)
    refine v_aload_n dX7_tell_42 rfl ?_
    refine v_bipush (v := nI 36) dX7_tell_43 (by decide) ?_
    refine v_callV (st := []) dX7_tell_45 (t_X7_writes (c := 36) fo33 fl33 (by omega)) wX7_173 fo33 rfl rfl ⟨Nat.le_of_ble_eq_true rfl, Nat.le_of_ble_eq_true rfl⟩ (Nat.le_of_ble_eq_true rfl) ⟨Nat.le_of_ble_eq_true rfl, Nat.le_of_ble_eq_true rfl⟩ (fun r n2 h2 hq => ?_)
    obtain ⟨rfl, hn9, fo36, fl36, fr36⟩ := hq; replace hn9 := hn9.symm; subst hn9
    refine v_st (st2 := []) rfl ?_
    obtain ⟨S36, hS36⟩ : ∃ Sx : Ln, Sx = wc S33 36 := ⟨_, rfl⟩
    have lr36 : lrel (va_up Y33 S33.2 36) S36 := by rw [hS36]; exact lrel_c (c := 36) lr33
    have hk36 : S36.2 = S33.2 + 1 := by rw [hS36]; rfl
    rw [← hk36] at fo36
    obtain ⟨Y36, hY36⟩ : ∃ Yx : Nat → Nat, Yx = va_up Y33 S33.2 36 := ⟨_, rfl⟩
    rw [← hY36] at fl36 lr36
    have hv37 := (fr36 (m + 1) (by omega)).trans hv34
    have fr38 : frP (fun z => z ≠ m ∧ z ≠ m + 7) _ _ := fun z (hz : z ≠ m ∧ z ≠ m + 7) => (fr36 z (by omega)).trans (fr35 z hz)
    refine v_aload_n dX7_tell_48 rfl ?_
    refine v_aload_n dX7_tell_49 rfl ?_
    refine fX7_7 (v := .ref (m + 1)) rfl dX7_tell_50 fo36 rfl ?_
    refine v_iload_n dX7_tell_53 rfl ?_
    refine v_iconst (v := nI 1) dX7_tell_54 (by decide) ?_
    refine v_callS (st := [.ref (m + 1), .ref m]) dX7_tell_55 (t_X7_at (f := F) (w := 1)) wX7_63 rfl ⟨Nat.le_of_ble_eq_true rfl, Nat.le_of_ble_eq_true rfl⟩ (Nat.le_of_ble_eq_true rfl) ⟨Nat.le_of_ble_eq_true rfl, Nat.le_of_ble_eq_true rfl⟩ (fun r n2 h2 hq => ?_)
    obtain ⟨rfl, hn9, hh9⟩ := hq; replace hn9 := hn9.symm; subst hn9; replace hh9 := hh9.symm; subst hh9
    refine v_st (st2 := [.int (nI (10 + 6 * F + 1)), .ref (m + 1), .ref m]) rfl ?_
    refine n_ialdv (f := vO C) (j := 10 + 6 * F + 1) (y := C 2 F) dX7_tell_58 hv37 (by omega) (by decide) ((vrd (C := C) (lgF (f := F) (w := 1) (by omega) (by decide)) (Or.inl (by omega))).trans rfl) ?_
    have b39 := hK 2 F
    have dg40 := (dg2 (show C 2 F < 100 by omega))
    refine v_callV (st := []) dX7_tell_59 (t_X7_writesNumber (x := C 2 F) (S := S36) fo36 fl36 lr36 (by omega) (by omega)) wX7_220 fo36 rfl rfl ⟨Nat.le_of_ble_eq_true rfl, Nat.le_of_ble_eq_true rfl⟩ (Nat.le_of_ble_eq_true rfl) ⟨Nat.le_of_ble_eq_true rfl, Nat.le_of_ble_eq_true rfl⟩ (fun r n2 h2 hq => ?_)
    obtain ⟨rfl, hn9, fo40, ⟨Y40, fl40, lr40⟩, fr40⟩ := hq; replace hn9 := hn9.symm; subst hn9
    refine v_st (st2 := []) rfl ?_
    obtain ⟨S40, hS40⟩ : ∃ Sx : Ln, Sx = wi S36 (C 2 F) := ⟨_, rfl⟩
    rw [← hS40] at fo40 lr40
    have hk40 : S40.2 = S36.2 + sb_dg (C 2 F) := by rw [hS40]; rfl
    have hv41 := (fr40 (m + 1) (by omega)).trans hv37
    have fr42 : frP (fun z => z ≠ m ∧ z ≠ m + 7) _ _ := fun z (hz : z ≠ m ∧ z ≠ m + 7) => (fr40 z (by omega)).trans (fr38 z hz)
    refine v_aload_n dX7_tell_62 rfl ?_
    refine fX7_7 (v := .ref (m + 1)) rfl dX7_tell_63 fo40 rfl ?_
    refine v_iload_n dX7_tell_66 rfl ?_
    refine v_iconst (v := nI 2) dX7_tell_67 (by decide) ?_
    refine v_callS (st := [.ref (m + 1)]) dX7_tell_68 (t_X7_at (f := F) (w := 2)) wX7_63 rfl ⟨Nat.le_of_ble_eq_true rfl, Nat.le_of_ble_eq_true rfl⟩ (Nat.le_of_ble_eq_true rfl) ⟨Nat.le_of_ble_eq_true rfl, Nat.le_of_ble_eq_true rfl⟩ (fun r n2 h2 hq => ?_)
    obtain ⟨rfl, hn9, hh9⟩ := hq; replace hn9 := hn9.symm; subst hn9; replace hh9 := hh9.symm; subst hh9
    refine v_st (st2 := [.int (nI (10 + 6 * F + 2)), .ref (m + 1)]) rfl ?_
    refine n_ialdv (f := vO C) (j := 10 + 6 * F + 2) (y := C 3 F) dX7_tell_71 hv41 (by omega) (by decide) ((vrd (C := C) (lgF (f := F) (w := 2) (by omega) (by decide)) (Or.inl (by omega))).trans rfl) ?_
    have b43 := hK 3 F
    refine n_if_le (tgt := 95) (x := C 3 F) dX7_tell_72 (by decide) (by omega) (fun c44 => ?_) (fun c44 => ?_)
    · refine v_iconst (v := nI 0) dX7_tell_95 (by decide) ?_
      refine v_istore_n dX7_tell_96 rfl (by decide) ?_
      refine v_ls (ls2 := [some (.ref m), some (.int (nI F)), some (.int (nI 0))]) rfl ?_
      refine loopH (fun q => [some (.ref m), some (.int (nI F)), some (.int (nI q))]) (fun q h1 => h1 m = some (mo m ch sv tn hr en ((plS q S40).2) wg dg fl wy dt) ∧ h1 (m + 1) = some (ar G 182 (vO C)) ∧ (∃ Y1 : Nat → Nat, h1 (m + 7) = some (ar G 120 Y1) ∧ lrel Y1 (plS q S40)) ∧ frP (fun z => z ≠ m ∧ z ≠ m + 7) h h1) (N := C 4 F) 0 (by omega) rfl ⟨fo40, hv41, ⟨_, fl40, lr40⟩, fr42⟩ (fun q h1 hq hp9 ihq => ?_)
      clear ho hv hli
      obtain ⟨ho, hv, ⟨Y1, hli, hY1⟩, fr0⟩ := hp9
      have hpk := plS_2 q S40
      obtain ⟨S9, hS9⟩ : ∃ S9 : Ln, S9 = plS q S40 := ⟨_, rfl⟩
      rw [← hS9] at ho hY1 hpk
      refine v_iload_n dX7_tell_97 rfl ?_
      refine v_aload_n dX7_tell_98 rfl ?_
      refine fX7_7 (v := .ref (m + 1)) rfl dX7_tell_99 ho rfl ?_
      refine v_iload_n dX7_tell_102 rfl ?_
      refine v_iconst (v := nI 3) dX7_tell_103 (by decide) ?_
      refine v_callS (st := [.ref (m + 1), .int (nI q)]) dX7_tell_104 (t_X7_at (f := F) (w := 3)) wX7_63 rfl ⟨Nat.le_of_ble_eq_true rfl, Nat.le_of_ble_eq_true rfl⟩ (Nat.le_of_ble_eq_true rfl) ⟨Nat.le_of_ble_eq_true rfl, Nat.le_of_ble_eq_true rfl⟩ (fun r n2 h2 hq => ?_)
      obtain ⟨rfl, hn9, hh9⟩ := hq; replace hn9 := hn9.symm; subst hn9; replace hh9 := hh9.symm; subst hh9
      refine v_st (st2 := [.int (nI (10 + 6 * F + 3)), .ref (m + 1), .int (nI q)]) rfl ?_
      refine n_ialdv (f := vO C) (j := 10 + 6 * F + 3) (y := C 4 F) dX7_tell_107 hv (by omega) (by decide) ((vrd (C := C) (lgF (f := F) (w := 3) (by omega) (by decide)) (Or.inl (by omega))).trans rfl) ?_
      have b45 := hK 4 F
      refine n_icmp_ge (tgt := 123) (x := q) (y := C 4 F) dX7_tell_108 (by decide) (by omega) (by omega) (fun c46 => ?_) (fun c46 => ?_)
      · refine v_aload_n dX7_tell_123 rfl ?_
        refine fX7_170 (v := .int (nI S9.2)) rfl dX7_tell_124 ho rfl ?_
        refine v_iret dX7_tell_127 rfl ?_ (Nat.le_of_ble_eq_true rfl) (Nat.le_of_ble_eq_true rfl)
        have eq4 : q = C 4 F := by omega
        subst eq4
        subst hS9
        subst hS40
        subst hS36
        subst hS33
        subst hS29
        subst hS26
        subst hSe
        have e9 : tellL C F (T0, 0) = _ := congrArg (plS (C 4 F)) (if_neg (by omega))
        exact ⟨by rw [if_pos (by assumption), eF, e9], rfl, ⟨_, Y1, ho, hli, ⟨fun _ => by rw [eF, e9]; exact ⟨rfl, hY1⟩, fun z => absurd (by assumption) z⟩⟩, fr0⟩
      · refine v_aload_n dX7_tell_111 rfl ?_
        refine v_bipush (v := nI 43) dX7_tell_112 (by decide) ?_
        refine v_callV (st := []) dX7_tell_114 (t_X7_writes (c := 43) ho hli (by omega)) wX7_173 ho rfl rfl ⟨Nat.le_of_ble_eq_true rfl, Nat.le_of_ble_eq_true rfl⟩ (Nat.le_of_ble_eq_true rfl) ⟨Nat.le_of_ble_eq_true rfl, Nat.le_of_ble_eq_true rfl⟩ (fun r n2 h2 hq => ?_)
        obtain ⟨rfl, hn9, fo47, fl47, fr47⟩ := hq; replace hn9 := hn9.symm; subst hn9
        refine v_st (st2 := []) rfl ?_
        obtain ⟨S47, hS47⟩ : ∃ Sx : Ln, Sx = wc S9 43 := ⟨_, rfl⟩
        have lr47 : lrel (va_up Y1 S9.2 43) S47 := by rw [hS47]; exact lrel_c (c := 43) hY1
        have hk47 : S47.2 = S9.2 + 1 := by rw [hS47]; rfl
        rw [← hk47] at fo47
        obtain ⟨Y47, hY47⟩ : ∃ Yx : Nat → Nat, Yx = va_up Y1 S9.2 43 := ⟨_, rfl⟩
        rw [← hY47] at fl47 lr47
        have hv48 := (fr47 (m + 1) (by omega)).trans hv
        have fr49 : frP (fun z => z ≠ m ∧ z ≠ m + 7) _ _ := fun z (hz : z ≠ m ∧ z ≠ m + 7) => (fr47 z (by omega)).trans (fr0 z hz)
        refine n_iinc (k := 1) (x := q) dX7_tell_117 (by decide) rfl rfl (by decide) ?_
        refine v_ls (ls2 := [some (.ref m), some (.int (nI F)), some (.int (nI (q + 1)))]) rfl ?_
        refine v_goto (tgt := 97) dX7_tell_120 (by decide) ?_
        subst hS47
        subst hS9
        exact ihq (by omega) _ ⟨fo47, hv48, ⟨_, fl47, lr47⟩, fr49⟩
    · refine v_aload_n dX7_tell_75 rfl ?_
      refine v_bipush (v := nI 126) dX7_tell_76 (by decide) ?_
      refine v_callV (st := []) dX7_tell_78 (t_X7_writes (c := 126) fo40 fl40 (by omega)) wX7_173 fo40 rfl rfl ⟨Nat.le_of_ble_eq_true rfl, Nat.le_of_ble_eq_true rfl⟩ (Nat.le_of_ble_eq_true rfl) ⟨Nat.le_of_ble_eq_true rfl, Nat.le_of_ble_eq_true rfl⟩ (fun r n2 h2 hq => ?_)
      obtain ⟨rfl, hn9, fo50, fl50, fr50⟩ := hq; replace hn9 := hn9.symm; subst hn9
      refine v_st (st2 := []) rfl ?_
      obtain ⟨S50, hS50⟩ : ∃ Sx : Ln, Sx = wc S40 126 := ⟨_, rfl⟩
      have lr50 : lrel (va_up Y40 S40.2 126) S50 := by rw [hS50]; exact lrel_c (c := 126) lr40
      have hk50 : S50.2 = S40.2 + 1 := by rw [hS50]; rfl
      rw [← hk50] at fo50
      obtain ⟨Y50, hY50⟩ : ∃ Yx : Nat → Nat, Yx = va_up Y40 S40.2 126 := ⟨_, rfl⟩
      rw [← hY50] at fl50 lr50
      have hv51 := (fr50 (m + 1) (by omega)).trans hv41
      have fr52 : frP (fun z => z ≠ m ∧ z ≠ m + 7) _ _ := fun z (hz : z ≠ m ∧ z ≠ m + 7) => (fr50 z (by omega)).trans (fr42 z hz)
      refine v_aload_n dX7_tell_81 rfl ?_
      refine v_aload_n dX7_tell_82 rfl ?_
      refine fX7_7 (v := .ref (m + 1)) rfl dX7_tell_83 fo50 rfl ?_
      refine v_iload_n dX7_tell_86 rfl ?_
      refine v_iconst (v := nI 2) dX7_tell_87 (by decide) ?_
      refine v_callS (st := [.ref (m + 1), .ref m]) dX7_tell_88 (t_X7_at (f := F) (w := 2)) wX7_63 rfl ⟨Nat.le_of_ble_eq_true rfl, Nat.le_of_ble_eq_true rfl⟩ (Nat.le_of_ble_eq_true rfl) ⟨Nat.le_of_ble_eq_true rfl, Nat.le_of_ble_eq_true rfl⟩ (fun r n2 h2 hq => ?_)
      obtain ⟨rfl, hn9, hh9⟩ := hq; replace hn9 := hn9.symm; subst hn9; replace hh9 := hh9.symm; subst hh9
      refine v_st (st2 := [.int (nI (10 + 6 * F + 2)), .ref (m + 1), .ref m]) rfl ?_
      refine n_ialdv (f := vO C) (j := 10 + 6 * F + 2) (y := C 3 F) dX7_tell_91 hv51 (by omega) (by decide) ((vrd (C := C) (lgF (f := F) (w := 2) (by omega) (by decide)) (Or.inl (by omega))).trans rfl) ?_
      have dg53 := (sb_dg_in (C 3 F)).2
      refine v_callV (st := []) dX7_tell_92 (t_X7_writesNumber (x := C 3 F) (S := S50) fo50 fl50 lr50 (by omega) (by omega)) wX7_220 fo50 rfl rfl ⟨Nat.le_of_ble_eq_true rfl, Nat.le_of_ble_eq_true rfl⟩ (Nat.le_of_ble_eq_true rfl) ⟨Nat.le_of_ble_eq_true rfl, Nat.le_of_ble_eq_true rfl⟩ (fun r n2 h2 hq => ?_)
      obtain ⟨rfl, hn9, fo53, ⟨Y53, fl53, lr53⟩, fr53⟩ := hq; replace hn9 := hn9.symm; subst hn9
      refine v_st (st2 := []) rfl ?_
      obtain ⟨S53, hS53⟩ : ∃ Sx : Ln, Sx = wi S50 (C 3 F) := ⟨_, rfl⟩
      rw [← hS53] at fo53 lr53
      have hk53 : S53.2 = S50.2 + sb_dg (C 3 F) := by rw [hS53]; rfl
      have hv54 := (fr53 (m + 1) (by omega)).trans hv51
      have fr55 : frP (fun z => z ≠ m ∧ z ≠ m + 7) _ _ := fun z (hz : z ≠ m ∧ z ≠ m + 7) => (fr53 z (by omega)).trans (fr52 z hz)
      refine v_iconst (v := nI 0) dX7_tell_95 (by decide) ?_
      refine v_istore_n dX7_tell_96 rfl (by decide) ?_
      refine v_ls (ls2 := [some (.ref m), some (.int (nI F)), some (.int (nI 0))]) rfl ?_
      refine loopH (fun q => [some (.ref m), some (.int (nI F)), some (.int (nI q))]) (fun q h1 => h1 m = some (mo m ch sv tn hr en ((plS q S53).2) wg dg fl wy dt) ∧ h1 (m + 1) = some (ar G 182 (vO C)) ∧ (∃ Y1 : Nat → Nat, h1 (m + 7) = some (ar G 120 Y1) ∧ lrel Y1 (plS q S53)) ∧ frP (fun z => z ≠ m ∧ z ≠ m + 7) h h1) (N := C 4 F) 0 (by omega) rfl ⟨fo53, hv54, ⟨_, fl53, lr53⟩, fr55⟩ (fun q h1 hq hp9 ihq => ?_)
      clear ho hv hli
      obtain ⟨ho, hv, ⟨Y1, hli, hY1⟩, fr0⟩ := hp9
      have hpk := plS_2 q S53
      obtain ⟨S9, hS9⟩ : ∃ S9 : Ln, S9 = plS q S53 := ⟨_, rfl⟩
      rw [← hS9] at ho hY1 hpk
      refine v_iload_n dX7_tell_97 rfl ?_
      refine v_aload_n dX7_tell_98 rfl ?_
      refine fX7_7 (v := .ref (m + 1)) rfl dX7_tell_99 ho rfl ?_
      refine v_iload_n dX7_tell_102 rfl ?_
      refine v_iconst (v := nI 3) dX7_tell_103 (by decide) ?_
      refine v_callS (st := [.ref (m + 1), .int (nI q)]) dX7_tell_104 (t_X7_at (f := F) (w := 3)) wX7_63 rfl ⟨Nat.le_of_ble_eq_true rfl, Nat.le_of_ble_eq_true rfl⟩ (Nat.le_of_ble_eq_true rfl) ⟨Nat.le_of_ble_eq_true rfl, Nat.le_of_ble_eq_true rfl⟩ (fun r n2 h2 hq => ?_)
      obtain ⟨rfl, hn9, hh9⟩ := hq; replace hn9 := hn9.symm; subst hn9; replace hh9 := hh9.symm; subst hh9
      refine v_st (st2 := [.int (nI (10 + 6 * F + 3)), .ref (m + 1), .int (nI q)]) rfl ?_
      refine n_ialdv (f := vO C) (j := 10 + 6 * F + 3) (y := C 4 F) dX7_tell_107 hv (by omega) (by decide) ((vrd (C := C) (lgF (f := F) (w := 3) (by omega) (by decide)) (Or.inl (by omega))).trans rfl) ?_
      have b56 := hK 4 F
      refine n_icmp_ge (tgt := 123) (x := q) (y := C 4 F) dX7_tell_108 (by decide) (by omega) (by omega) (fun c57 => ?_) (fun c57 => ?_)
      · refine v_aload_n dX7_tell_123 rfl ?_
        refine fX7_170 (v := .int (nI S9.2)) rfl dX7_tell_124 ho rfl ?_
        refine v_iret dX7_tell_127 rfl ?_ (Nat.le_of_ble_eq_true rfl) (Nat.le_of_ble_eq_true rfl)
        have eq4 : q = C 4 F := by omega
        subst eq4
        subst hS9
        subst hS53
        subst hS50
        subst hS40
        subst hS36
        subst hS33
        subst hS29
        subst hS26
        subst hSe
        have e9 : tellL C F (T0, 0) = _ := congrArg (plS (C 4 F)) (if_pos (by omega))
        exact ⟨by rw [if_pos (by assumption), eF, e9], rfl, ⟨_, Y1, ho, hli, ⟨fun _ => by rw [eF, e9]; exact ⟨rfl, hY1⟩, fun z => absurd (by assumption) z⟩⟩, fr0⟩
      · refine v_aload_n dX7_tell_111 rfl ?_
        refine v_bipush (v := nI 43) dX7_tell_112 (by decide) ?_
        refine v_callV (st := []) dX7_tell_114 (t_X7_writes (c := 43) ho hli (by omega)) wX7_173 ho rfl rfl ⟨Nat.le_of_ble_eq_true rfl, Nat.le_of_ble_eq_true rfl⟩ (Nat.le_of_ble_eq_true rfl) ⟨Nat.le_of_ble_eq_true rfl, Nat.le_of_ble_eq_true rfl⟩ (fun r n2 h2 hq => ?_)
        obtain ⟨rfl, hn9, fo58, fl58, fr58⟩ := hq; replace hn9 := hn9.symm; subst hn9
        refine v_st (st2 := []) rfl ?_
        obtain ⟨S58, hS58⟩ : ∃ Sx : Ln, Sx = wc S9 43 := ⟨_, rfl⟩
        have lr58 : lrel (va_up Y1 S9.2 43) S58 := by rw [hS58]; exact lrel_c (c := 43) hY1
        have hk58 : S58.2 = S9.2 + 1 := by rw [hS58]; rfl
        rw [← hk58] at fo58
        obtain ⟨Y58, hY58⟩ : ∃ Yx : Nat → Nat, Yx = va_up Y1 S9.2 43 := ⟨_, rfl⟩
        rw [← hY58] at fl58 lr58
        have hv59 := (fr58 (m + 1) (by omega)).trans hv
        have fr60 : frP (fun z => z ≠ m ∧ z ≠ m + 7) _ _ := fun z (hz : z ≠ m ∧ z ≠ m + 7) => (fr58 z (by omega)).trans (fr0 z hz)
        refine n_iinc (k := 1) (x := q) dX7_tell_117 (by decide) rfl rfl (by decide) ?_
        refine v_ls (ls2 := [some (.ref m), some (.int (nI F)), some (.int (nI (q + 1)))]) rfl ?_
        refine v_goto (tgt := 97) dX7_tell_120 (by decide) ?_
        subst hS58
        subst hS9
        exact ihq (by omega) _ ⟨fo58, hv59, ⟨_, fl58, lr58⟩, fr60⟩
  · refine v_sipush (v := (-1011)) dX7_tell_8 (by decide) ?_
    refine v_iret dX7_tell_11 rfl ?_ (Nat.le_of_ble_eq_true rfl) (Nat.le_of_ble_eq_true rfl)
    exact ⟨by rw [if_neg (by assumption)], rfl, ⟨ln, Y, ho, hli, ⟨fun z => absurd z (by assumption), fun _ => ⟨rfl, rfl⟩⟩⟩, frP_rf⟩
