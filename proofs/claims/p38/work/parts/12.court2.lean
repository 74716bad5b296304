theorem v_forget {l : Launch} {G : vG} {M : vM} {rc rs : Nat} {Fz : vFin} {pc : Nat} {ls : List (Option Value)} {st : List Value} {n : Nat} {h : AH} {cells slots : Nat} (k : Nat) (kk : V l G M rc rs Fz pc (ls.set k none) st n h cells slots) : V l G M rc rs Fz pc ls st n h cells slots := by
  intro p e s m args below meth c H locs lsA d0 hx hb hr hml hts hown hlk hnm hd0 hC hS hbs hP hl
  refine kk p e s m args below meth c H locs lsA d0 hx hb hr hml hts hown hlk hnm hd0 hC hS hbs hP ⟨hl.1, hl.2.1, fun i v hv => hl.2.2 i v ?_⟩
  by_cases hi : i = k
  · subst hi
    have hlen : i < ls.length := by
      have := (List.getElem?_eq_some_iff.mp hv).1
      simpa using this
    rw [List.getElem?_set_self hlen] at hv
    cases hv
  · rw [List.getElem?_set_ne (Ne.symm hi)] at hv
    exact hv
def oN (d : Int32) : Option Nat → Int32
  | none => d
  | some j => nI j
def fs (p : Nat → Bool) : Nat → Nat → Option Nat
  | _, 0 => none
  | i, k + 1 => if p i then some i else fs p (i + 1) k
theorem fs_step {p : Nat → Bool} {i N : Nat} (h : i < N) (hp : p i = false) : fs p i (N - i) = fs p (i + 1) (N - (i + 1)) := by
  rw [show N - i = (N - (i + 1)) + 1 by omega, fs, if_neg (by rw [hp]; decide)]
theorem fs_hit {p : Nat → Bool} {i N : Nat} (h : i < N) (hp : p i = true) : fs p i (N - i) = some i := by
  rw [show N - i = (N - (i + 1)) + 1 by omega, fs, if_pos hp]
theorem fs_end {p : Nat → Bool} {i N : Nat} (h : N ≤ i) : fs p i (N - i) = none := by
  rw [show N - i = 0 by omega, fs]
theorem nI_ng {j : Nat} (h : j < 2 ^ 31) {z : Int32} (hz : z.toInt < 0) : nI j ≠ z := fun e => by
  have := nI_toInt h
  rw [e] at this
  omega
def endF (C : Ct) : Nat → Option Nat
  | 0 => none
  | i + 1 => match endF C i with
    | none => if hold C i then some (C 9 i) else none
    | some e => if hold C i ∧ C 9 i < e then some (C 9 i) else some e
theorem endF_bd {C : Ct} (hB : bd C) : ∀ {i e : Nat}, endF C i = some e → e < 2 ^ 28
  | 0, e, h => by cases h
  | i + 1, e, h => by
    rw [endF] at h
    cases h9 : endF C i with
    | none =>
      rw [h9] at h
      simp only at h
      split at h
      · cases h; exact hB _ _
      · cases h
    | some e2 =>
      rw [h9] at h
      simp only at h
      split at h
      · cases h; exact hB _ _
      · cases h; exact endF_bd hB h9
def bJ (C : Ct) (f t : Nat) : Nat → Option Nat × Nat
  | 0 => (none, 0)
  | i + 1 => if (bJ C f t i).2 < lauN C f i t then (some i, lauN C f i t) else bJ C f t i
abbrev bkA (C : Ct) (p f j hr : Nat) : Prop := if C 14 p = hr then (if C 7 (C 12 p) = C 7 j then C 11 p < f else C 7 j < C 7 (C 12 p)) else C 14 p < hr
abbrev flA (C : Ct) (a b : Nat) : Prop := if C 3 a = C 3 b then (if C 2 a = C 2 b then a < b else C 2 b < C 2 a) else C 3 b < C 3 a
abbrev flN (C : Ct) (f : Nat) : Nat := cnt (fun z => decide (flA C z f)) (C 0 0)
def tlS (C : Ct) (j : Nat) : Nat := sm (fun t => C 10 (j * 4 + t)) 4
abbrev jkA (C : Ct) (a b : Nat) : Prop := if tlS C a = tlS C b then (if C 7 a = C 7 b then a < b else C 7 b < C 7 a) else tlS C b < tlS C a
abbrev jkN (C : Ct) (j : Nat) : Nat := cnt (fun z => decide (jkA C z j)) (C 0 1)
theorem lau_bd {C : Ct} (hB : bd C) (f j t : Nat) : lau C f j t < 2 ^ 31 := by have := hB 7 j; have := hB 1 f; unfold lau; omega
theorem lauN_bd {C : Ct} (hB : bd C) (f j t : Nat) : lauN C f j t < 2 ^ 31 := by
  have := lau_bd hB f j t
  unfold lauN
  split <;> omega
theorem bJ_bd {C : Ct} (hB : bd C) (f t : Nat) : ∀ i, (bJ C f t i).2 < 2 ^ 31
  | 0 => by show 0 < 2 ^ 31; decide
  | i + 1 => by
    rw [bJ]
    split
    · exact lauN_bd hB _ _ _
    · exact bJ_bd hB f t i
theorem cnt_mono {p : Nat → Bool} {m : Nat} : ∀ {n : Nat}, m ≤ n → cnt p m ≤ cnt p n
  | 0, h => by rw [Nat.le_zero.mp h]; exact Nat.le_refl _
  | n + 1, h => by
    rcases Nat.lt_or_ge n m with q | q
    · rw [show m = n + 1 by omega]
      exact Nat.le_refl _
    · have := cnt_mono (p := p) q
      rw [cnt]
      split <;> omega
set_option maxRecDepth 20000 in
set_option maxHeartbeats 4000000 in
theorem t_X1_doesAnyEndAt {l : Launch} {G : vG} {n : Nat} {h : AH} {x : Nat} {q : Nat} {C : Ct} (hc : ct G h q C) (hB : bd C) (hJ : C 0 1 ≤ 12) (hx : x < 2 ^ 31) : Mt l G mX1_doesAnyEndAt [.ref q, .int (nI x)] n h 0 0 (fun r n2 h2 => r = some (.int (nI (bI (0 < cnt (fun z => decide (C 9 z = x)) (C 0 1))))) ∧ n2 = n ∧ h2 = h) := by
  refine Mt.of (by decide) (Nat.le_of_ble_eq_true rfl) rfl ?_
  refine v_ls (ls2 := [some (.ref q), some (.int (nI x)), none]) rfl ?_
  refine v_iconst (v := nI 0) dX1_doesAnyEndAt_0 (by decide) ?_
  refine v_istore_n dX1_doesAnyEndAt_1 rfl (by decide) ?_
  refine v_ls (ls2 := [some (.ref q), some (.int (nI x)), some (.int (nI 0))]) rfl ?_
  refine loopV (fun i2 => [some (.ref q), some (.int (nI x)), some (.int (nI i2))]) (fun i2 => cnt (fun z => decide (C 9 z = x)) i2 = 0) (N := C 0 1) 0 (by omega) rfl rfl (fun i2 hi2 hp2 ih2 => ?_)
  refine v_iload_n dX1_doesAnyEndAt_2 rfl ?_
  refine v_aload_n dX1_doesAnyEndAt_3 rfl ?_
  refine fX1_21 (v := .ref (q + 8)) rfl dX1_doesAnyEndAt_4 (ck0 hc) rfl ?_
  refine fX1_79 (v := .int (nI (C 0 1))) rfl dX1_doesAnyEndAt_7 (ck8 hc) rfl ?_
  have b1 := hB 0 1
  refine n_icmp_ge (tgt := 34) (x := i2) (y := C 0 1) dX1_doesAnyEndAt_10 (by decide) (by omega) (by omega) (fun c2 => ?_) (fun c2 => ?_)
  · refine v_iconst (v := nI 0) dX1_doesAnyEndAt_34 (by decide) ?_
    refine v_zret (ty := .boolean) dX1_doesAnyEndAt_35 rfl (by decide) ?_ (Nat.le_refl _) (Nat.le_refl _)
    have e : i2 = C 0 1 := by omega
    subst e
    exact ⟨by rw [bI_f (by omega)], rfl, rfl⟩
  · refine v_aload_n dX1_doesAnyEndAt_13 rfl ?_
    refine fX1_21 (v := .ref (q + 8)) rfl dX1_doesAnyEndAt_14 (ck0 hc) rfl ?_
    refine fX1_69 (v := .ref (q + 11)) rfl dX1_doesAnyEndAt_17 (ck8 hc) rfl ?_
    refine v_iload_n dX1_doesAnyEndAt_20 rfl ?_
    refine n_ialdv (f := C 9) (j := i2) (y := C 9 i2) dX1_doesAnyEndAt_21 (ck11 hc) (by omega) (by decide) rfl ?_
    have b3 := hB 9 i2
    refine v_iload_n dX1_doesAnyEndAt_22 rfl ?_
    refine n_icmp_ne (tgt := 28) (x := C 9 i2) (y := x) dX1_doesAnyEndAt_23 (by decide) (by omega) (by omega) (fun c4 => ?_) (fun c4 => ?_)
    · refine n_iinc (k := 1) (x := i2) dX1_doesAnyEndAt_28 (by decide) rfl rfl (by decide) ?_
      refine v_ls (ls2 := [some (.ref q), some (.int (nI x)), some (.int (nI (i2 + 1)))]) rfl ?_
      refine v_goto (tgt := 2) dX1_doesAnyEndAt_31 (by decide) ?_
      exact ih2 (by omega) (by rw [cnt_f (by simp only [decide_eq_false_iff_not]; omega)]; exact hp2)
    · refine v_iconst (v := nI 1) dX1_doesAnyEndAt_26 (by decide) ?_
      refine v_zret (ty := .boolean) dX1_doesAnyEndAt_27 rfl (by decide) ?_ (Nat.le_refl _) (Nat.le_refl _)
      have e9 := cnt_mono (p := fun z => decide (C 9 z = x)) (show i2 + 1 ≤ C 0 1 by omega)
      rw [cnt_t (by simp only [decide_eq_true_eq]; omega)] at e9
      exact ⟨by rw [bI_t (by omega)], rfl, rfl⟩
set_option maxRecDepth 20000 in
set_option maxHeartbeats 4000000 in
theorem t_X1_endHourByHour {l : Launch} {G : vG} {n : Nat} {h : AH}  {q : Nat} {C : Ct} (hc : ct G h q C) (hB : bd C) (hJ : C 0 1 ≤ 12) : Mt l G mX1_endHourByHour [.ref q] n h 0 0 (fun r n2 h2 => r = some (.int (oN (-1015) ((fs (fun a => decide (0 < cnt (fun z => decide (C 9 z = C 0 3 + a)) (C 0 1))) 1 48).map (fun a => C 0 3 + a)))) ∧ n2 = n ∧ h2 = h) := by
  refine Mt.of (by decide) (Nat.le_of_ble_eq_true rfl) rfl ?_
  refine v_ls (ls2 := [some (.ref q), none]) rfl ?_
  refine v_iconst (v := nI 1) dX1_endHourByHour_0 (by decide) ?_
  refine v_istore_n dX1_endHourByHour_1 rfl (by decide) ?_
  refine v_ls (ls2 := [some (.ref q), some (.int (nI 1))]) rfl ?_
  refine loopV (fun i2 => [some (.ref q), some (.int (nI i2))]) (fun i2 => fs (fun a => decide (0 < cnt (fun z => decide (C 9 z = C 0 3 + a)) (C 0 1))) 1 48 = fs (fun a => decide (0 < cnt (fun z => decide (C 9 z = C 0 3 + a)) (C 0 1))) i2 (49 - i2)) (N := 49) 1 (by omega) rfl rfl (fun i2 hi2 hp2 ih2 => ?_)
  refine v_iload_n dX1_endHourByHour_2 rfl ?_
  refine v_bipush (v := nI 48) dX1_endHourByHour_3 (by decide) ?_
  refine n_icmp_gt (tgt := 34) (x := i2) (y := 48) dX1_endHourByHour_5 (by decide) (by omega) (by omega) (fun c1 => ?_) (fun c1 => ?_)
  · refine v_sipush (v := (-1015)) dX1_endHourByHour_34 (by decide) ?_
    refine v_iret dX1_endHourByHour_37 rfl ?_ (Nat.le_refl _) (Nat.le_refl _)
    exact ⟨by rw [hp2, fs_end (by omega)]; rfl, rfl, rfl⟩
  · refine v_aload_n dX1_endHourByHour_8 rfl ?_
    refine v_aload_n dX1_endHourByHour_9 rfl ?_
    refine fX1_39 (v := .int (nI (C 0 3))) rfl dX1_endHourByHour_10 (ck0 hc) rfl ?_
    have b2 := hB 0 3
    refine v_iload_n dX1_endHourByHour_13 rfl ?_
    refine n_iadd (x := C 0 3) (y := i2) dX1_endHourByHour_14 ?_
    refine v_callV (st := []) dX1_endHourByHour_15 (t_X1_doesAnyEndAt (x := C 0 3 + i2) hc hB hJ (by omega)) wX1_82 (ck0 hc) rfl rfl ⟨Nat.le_of_ble_eq_true rfl, Nat.le_of_ble_eq_true rfl⟩ (Nat.le_of_ble_eq_true rfl) ⟨Nat.le_refl _, Nat.le_refl _⟩ (fun r n2 h2 hq => ?_)
    obtain ⟨rfl, rfl, rfl⟩ := hq
    refine v_st (st2 := [.int (nI (bI (0 < cnt (fun z => decide (C 9 z = (C 0 3 + i2))) (C 0 1))))]) rfl ?_
    refine n_ifb_eq (tgt := 28) (p := 0 < cnt (fun z => decide (C 9 z = (C 0 3 + i2))) (C 0 1)) dX1_endHourByHour_18 (by decide) (fun c3 => ?_) (fun c3 => ?_)
    · refine n_iinc (k := 1) (x := i2) dX1_endHourByHour_28 (by decide) rfl rfl (by decide) ?_
      refine v_ls (ls2 := [some (.ref q), some (.int (nI (i2 + 1)))]) rfl ?_
      refine v_goto (tgt := 2) dX1_endHourByHour_31 (by decide) ?_
      exact ih2 (by omega) (hp2.trans (fs_step (by omega) (decide_eq_false (by assumption))))
    · refine v_aload_n dX1_endHourByHour_21 rfl ?_
      refine fX1_39 (v := .int (nI (C 0 3))) rfl dX1_endHourByHour_22 (ck0 hc) rfl ?_
      refine v_iload_n dX1_endHourByHour_25 rfl ?_
      refine n_iadd (x := C 0 3) (y := i2) dX1_endHourByHour_26 ?_
      refine v_iret dX1_endHourByHour_27 rfl ?_ (Nat.le_refl _) (Nat.le_refl _)
      exact ⟨by rw [hp2, fs_hit (by omega) (decide_eq_true (by assumption))]; rfl, rfl, rfl⟩
set_option maxRecDepth 20000 in
set_option maxHeartbeats 4000000 in
theorem t_X1_laughs {l : Launch} {G : vG} {n : Nat} {h : AH} {f j t : Nat} {q : Nat} {C : Ct} (hc : ct G h q C) (hB : bd C) (hf : f < 6) (hj : j < 12) (ht : t < 4) : Mt l G mX1_laughs [.ref q, .int (nI f), .int (nI j), .int (nI t)] n h 0 0 (fun r n2 h2 => r = some (.int (nI (lau C f j t))) ∧ n2 = n ∧ h2 = h) := by
  refine Mt.of (by decide) (Nat.le_of_ble_eq_true rfl) rfl ?_
  refine v_ls (ls2 := [some (.ref q), some (.int (nI f)), some (.int (nI j)), some (.int (nI t)), none]) rfl ?_
  have b91 := hB 10 (j * 4 + t)
  refine v_iconst (v := nI 2) dX1_laughs_0 (by decide) ?_
  refine v_aload_n dX1_laughs_1 rfl ?_
  refine fX1_21 (v := .ref (q + 8)) rfl dX1_laughs_2 (ck0 hc) rfl ?_
  refine v_iload_n dX1_laughs_5 rfl ?_
  refine v_iload_n dX1_laughs_6 rfl ?_
  refine v_callV (st := [.int (nI 2)]) dX1_laughs_7 (t_X4_toldAt (j := j) (t := t) hc hB (by omega) (by omega)) wX1_85 (ck8 hc) rfl rfl ⟨Nat.le_of_ble_eq_true rfl, Nat.le_of_ble_eq_true rfl⟩ (Nat.le_of_ble_eq_true rfl) ⟨Nat.le_refl _, Nat.le_refl _⟩ (fun r n2 h2 hq => ?_)
  obtain ⟨rfl, rfl, rfl⟩ := hq
  refine v_st (st2 := [.int (nI (C 10 (j * 4 + t))), .int (nI 2)]) rfl ?_
  refine n_imul (x := 2) (y := C 10 (j * 4 + t)) dX1_laughs_10 ?_
  refine v_istore dX1_laughs_11 rfl (by decide) ?_
  refine v_ls (ls2 := [some (.ref q), some (.int (nI f)), some (.int (nI j)), some (.int (nI t)), some (.int (nI (2 * (C 10 (j * 4 + t)))))]) rfl ?_
  refine v_iconst (v := nI 0) dX1_laughs_13 (by decide) ?_
  refine v_aload_n dX1_laughs_14 rfl ?_
  refine fX1_21 (v := .ref (q + 8)) rfl dX1_laughs_15 (ck0 hc) rfl ?_
  refine fX1_89 (v := .ref (q + 9)) rfl dX1_laughs_18 (ck8 hc) rfl ?_
  refine v_iload_n dX1_laughs_21 rfl ?_
  refine n_ialdv (f := C 7) (j := j) (y := C 7 j) dX1_laughs_22 (ck9 hc) (by omega) (by decide) rfl ?_
  have b1 := hB 7 j
  refine v_aload_n dX1_laughs_23 rfl ?_
  refine fX1_12 (v := .ref (q + 1)) rfl dX1_laughs_24 (ck0 hc) rfl ?_
  refine fX1_92 (v := .ref (q + 2)) rfl dX1_laughs_27 (ck1 hc) rfl ?_
  refine v_iload_n dX1_laughs_30 rfl ?_
  refine n_ialdv (f := C 1) (j := f) (y := C 1 f) dX1_laughs_31 (ck2 hc) (by omega) (by decide) rfl ?_
  have b2 := hB 1 f
  refine n_iadd (x := C 7 j) (y := C 1 f) dX1_laughs_32 ?_
  refine v_iload dX1_laughs_33 rfl ?_
  refine v_isub dX1_laughs_35 ?_
  refine n_max0 (x := C 7 j + C 1 f) (y := 2 * (C 10 (j * 4 + t))) dX1_laughs_36 q2_237 q2_238 q1_12 q2_239 (Nat.le_of_ble_eq_true rfl) (Nat.le_of_ble_eq_true rfl) (Nat.zero_le _) (Nat.zero_le _) (by omega) (by omega) ?_
  refine v_iret dX1_laughs_39 rfl ?_ (Nat.le_refl _) (Nat.le_refl _)
  exact ⟨by first | rfl | rw [bI_t (by omega)] | rw [bI_f (by omega)], rfl, rfl⟩
set_option maxRecDepth 20000 in
set_option maxHeartbeats 4000000 in
theorem t_X1_laughsNow {l : Launch} {G : vG} {n : Nat} {h : AH} {f j t : Nat} {q : Nat} {C : Ct} (hc : ct G h q C) (hB : bd C) (hf : f < 6) (hj : j < 12) (ht : t < 4) : Mt l G mX1_laughsNow [.ref q, .int (nI f), .int (nI j), .int (nI t)] n h 0 0 (fun r n2 h2 => r = some (.int (nI (lauN C f j t))) ∧ n2 = n ∧ h2 = h) := by
  refine Mt.of (by decide) (Nat.le_of_ble_eq_true rfl) rfl ?_
  refine v_ls (ls2 := [some (.ref q), some (.int (nI f)), some (.int (nI j)), some (.int (nI t))]) rfl ?_
  refine v_aload_n dX1_laughsNow_0 rfl ?_
  refine fX1_32 (v := .ref (q + 18)) rfl dX1_laughsNow_1 (ck0 hc) rfl ?_
  refine v_iload_n dX1_laughsNow_4 rfl ?_
  refine n_ialdv (f := C 15) (j := t) (y := C 15 t) dX1_laughsNow_5 (ck18 hc) (by omega) (by decide) rfl ?_
  have b1 := hB 15 t
  refine v_iconst (v := nI 1) dX1_laughsNow_6 (by decide) ?_
  refine n_icmp_eq (tgt := 19) (x := C 15 t) (y := 1) dX1_laughsNow_7 (by decide) (by omega) (by omega) (fun c2 => ?_) (fun c2 => ?_)
  · refine v_iconst (v := nI 0) dX1_laughsNow_19 (by decide) ?_
    refine v_iret dX1_laughsNow_20 rfl ?_ (Nat.le_refl _) (Nat.le_refl _)
    exact ⟨by rw [show lauN C f j t = 0 from if_pos (by first | exact Or.inl (by assumption) | exact Or.inr (by assumption))], rfl, rfl⟩
  · refine v_aload_n dX1_laughsNow_10 rfl ?_
    refine v_iload_n dX1_laughsNow_11 rfl ?_
    refine v_iload_n dX1_laughsNow_12 rfl ?_
    refine v_callV (st := []) dX1_laughsNow_13 (t_X1_isBarred (f := f) (j := j) hc hB (by omega) (by omega)) wX1_100 (ck0 hc) rfl rfl ⟨Nat.le_of_ble_eq_true rfl, Nat.le_of_ble_eq_true rfl⟩ (Nat.le_of_ble_eq_true rfl) ⟨Nat.le_refl _, Nat.le_refl _⟩ (fun r n2 h2 hq => ?_)
    obtain ⟨rfl, rfl, rfl⟩ := hq
    refine v_st (st2 := [.int (nI (bI (barr C f j)))]) rfl ?_
    refine n_ifb_eq (tgt := 21) (p := barr C f j) dX1_laughsNow_16 (by decide) (fun c3 => ?_) (fun c3 => ?_)
    · refine v_aload_n dX1_laughsNow_21 rfl ?_
      refine v_iload_n dX1_laughsNow_22 rfl ?_
      refine v_iload_n dX1_laughsNow_23 rfl ?_
      refine v_iload_n dX1_laughsNow_24 rfl ?_
      refine v_callV (st := []) dX1_laughsNow_25 (t_X1_laughs (f := f) (j := j) (t := t) hc hB (by omega) (by omega) (by omega)) wX1_104 (ck0 hc) rfl rfl ⟨Nat.le_of_ble_eq_true rfl, Nat.le_of_ble_eq_true rfl⟩ (Nat.le_of_ble_eq_true rfl) ⟨Nat.le_refl _, Nat.le_refl _⟩ (fun r n2 h2 hq => ?_)
      obtain ⟨rfl, rfl, rfl⟩ := hq
      refine v_st (st2 := [.int (nI (lau C f j t))]) rfl ?_
      refine v_iret dX1_laughsNow_28 rfl ?_ (Nat.le_refl _) (Nat.le_refl _)
      exact ⟨by rw [show lauN C f j t = lau C f j t from if_neg (fun z => z.elim (fun z => absurd z (by assumption)) (fun z => absurd z (by assumption)))], rfl, rfl⟩
    · refine v_iconst (v := nI 0) dX1_laughsNow_19 (by decide) ?_
      refine v_iret dX1_laughsNow_20 rfl ?_ (Nat.le_refl _) (Nat.le_refl _)
      exact ⟨by rw [show lauN C f j t = 0 from if_pos (by first | exact Or.inl (by assumption) | exact Or.inr (by assumption))], rfl, rfl⟩
set_option maxRecDepth 20000 in
set_option maxHeartbeats 4000000 in
theorem t_X1_bestJokeByJoke {l : Launch} {G : vG} {n : Nat} {h : AH} {f t : Nat} {q : Nat} {C : Ct} (hc : ct G h q C) (hB : bd C) (hf : f < 6) (ht : t < 4) (hJ : C 0 1 ≤ 12) : Mt l G mX1_bestJokeByJoke [.ref q, .int (nI f), .int (nI t)] n h 0 0 (fun r n2 h2 => r = some (.int (oN (-1015) (bJ C f t (C 0 1)).1)) ∧ n2 = n ∧ h2 = h) := by
  refine Mt.of (by decide) (Nat.le_of_ble_eq_true rfl) rfl ?_
  refine v_ls (ls2 := [some (.ref q), some (.int (nI f)), some (.int (nI t)), none, none, none, none]) rfl ?_
  refine v_sipush (v := (-1015)) dX1_bestJokeByJoke_0 (by decide) ?_
  refine v_istore_n dX1_bestJokeByJoke_3 rfl (by decide) ?_
  refine v_ls (ls2 := [some (.ref q), some (.int (nI f)), some (.int (nI t)), some (.int ((-1015))), none, none, none]) rfl ?_
  refine v_iconst (v := nI 0) dX1_bestJokeByJoke_4 (by decide) ?_
  refine v_istore dX1_bestJokeByJoke_5 rfl (by decide) ?_
  refine v_ls (ls2 := [some (.ref q), some (.int (nI f)), some (.int (nI t)), some (.int ((-1015))), some (.int (nI 0)), none, none]) rfl ?_
  refine v_iconst (v := nI 0) dX1_bestJokeByJoke_7 (by decide) ?_
  refine v_istore dX1_bestJokeByJoke_8 rfl (by decide) ?_
  refine v_ls (ls2 := [some (.ref q), some (.int (nI f)), some (.int (nI t)), some (.int ((-1015))), some (.int (nI 0)), some (.int (nI 0)), none]) rfl ?_
  refine loopV (fun i10 => [some (.ref q), some (.int (nI f)), some (.int (nI t)), some (.int (oN (-1015) (bJ C f t i10).1)), some (.int (nI ((bJ C f t i10).2))), some (.int (nI i10)), none]) (fun i10 => True) (N := C 0 1) 0 (by omega) rfl trivial (fun i10 hi10 hp10 ih10 => ?_)
  have bj9 := bJ_bd hB f t i10
  refine v_iload dX1_bestJokeByJoke_10 rfl ?_
  refine v_aload_n dX1_bestJokeByJoke_12 rfl ?_
  refine fX1_21 (v := .ref (q + 8)) rfl dX1_bestJokeByJoke_13 (ck0 hc) rfl ?_
  refine fX1_79 (v := .int (nI (C 0 1))) rfl dX1_bestJokeByJoke_16 (ck8 hc) rfl ?_
  have b1 := hB 0 1
  refine n_icmp_ge (tgt := 52) (x := i10) (y := C 0 1) dX1_bestJokeByJoke_19 (by decide) (by omega) (by omega) (fun c2 => ?_) (fun c2 => ?_)
  · refine v_iload_n dX1_bestJokeByJoke_52 rfl ?_
    refine v_iret dX1_bestJokeByJoke_53 rfl ?_ (Nat.le_refl _) (Nat.le_refl _)
    have e : i10 = C 0 1 := by omega
    subst e
    exact ⟨rfl, rfl, rfl⟩
  · refine v_aload_n dX1_bestJokeByJoke_22 rfl ?_
    refine v_iload_n dX1_bestJokeByJoke_23 rfl ?_
    refine v_iload dX1_bestJokeByJoke_24 rfl ?_
    refine v_iload_n dX1_bestJokeByJoke_26 rfl ?_
    refine v_callV (st := []) dX1_bestJokeByJoke_27 (t_X1_laughsNow (f := f) (j := i10) (t := t) hc hB (by omega) (by omega) (by omega)) wX1_108 (ck0 hc) rfl rfl ⟨Nat.le_of_ble_eq_true rfl, Nat.le_of_ble_eq_true rfl⟩ (Nat.le_of_ble_eq_true rfl) ⟨Nat.le_refl _, Nat.le_refl _⟩ (fun r n2 h2 hq => ?_)
    obtain ⟨rfl, rfl, rfl⟩ := hq
    have bl3 := lauN_bd hB f i10 t
    refine v_st (st2 := [.int (nI (lauN C f i10 t))]) rfl ?_
    refine v_istore dX1_bestJokeByJoke_30 rfl (by decide) ?_
    refine v_ls (ls2 := [some (.ref q), some (.int (nI f)), some (.int (nI t)), some (.int (oN (-1015) (bJ C f t i10).1)), some (.int (nI ((bJ C f t i10).2))), some (.int (nI i10)), some (.int (nI (lauN C f i10 t)))]) rfl ?_
    refine v_iload dX1_bestJokeByJoke_32 rfl ?_
    refine v_iload dX1_bestJokeByJoke_34 rfl ?_
    refine n_icmp_le (tgt := 46) (x := lauN C f i10 t) (y := (bJ C f t i10).2) dX1_bestJokeByJoke_36 (by decide) (by omega) (by omega) (fun c4 => ?_) (fun c4 => ?_)
    · refine n_iinc (k := 1) (x := i10) dX1_bestJokeByJoke_46 (by decide) rfl rfl (by decide) ?_
      refine v_ls (ls2 := [some (.ref q), some (.int (nI f)), some (.int (nI t)), some (.int (oN (-1015) (bJ C f t i10).1)), some (.int (nI ((bJ C f t i10).2))), some (.int (nI (i10 + 1))), some (.int (nI (lauN C f i10 t)))]) rfl ?_
      refine v_goto (tgt := 10) dX1_bestJokeByJoke_49 (by decide) ?_
      refine v_forget 6 ?_
      refine v_ls (ls2 := [some (.ref q), some (.int (nI f)), some (.int (nI t)), some (.int (oN (-1015) (bJ C f t ((i10 + 1))).1)), some (.int (nI ((bJ C f t ((i10 + 1))).2))), some (.int (nI ((i10 + 1)))), none]) ?_ (ih10 (by omega) trivial)
      rw [show bJ C f t (i10 + 1) = bJ C f t i10 from if_neg (by omega)]
      rfl
    · refine v_iload dX1_bestJokeByJoke_39 rfl ?_
      refine v_istore_n dX1_bestJokeByJoke_41 rfl (by decide) ?_
      refine v_ls (ls2 := [some (.ref q), some (.int (nI f)), some (.int (nI t)), some (.int (nI i10)), some (.int (nI ((bJ C f t i10).2))), some (.int (nI i10)), some (.int (nI (lauN C f i10 t)))]) rfl ?_
      refine v_iload dX1_bestJokeByJoke_42 rfl ?_
      refine v_istore dX1_bestJokeByJoke_44 rfl (by decide) ?_
      refine v_ls (ls2 := [some (.ref q), some (.int (nI f)), some (.int (nI t)), some (.int (nI i10)), some (.int (nI (lauN C f i10 t))), some (.int (nI i10)), some (.int (nI (lauN C f i10 t)))]) rfl ?_
      refine n_iinc (k := 1) (x := i10) dX1_bestJokeByJoke_46 (by decide) rfl rfl (by decide) ?_
      refine v_ls (ls2 := [some (.ref q), some (.int (nI f)), some (.int (nI t)), some (.int (nI i10)), some (.int (nI (lauN C f i10 t))), some (.int (nI (i10 + 1))), some (.int (nI (lauN C f i10 t)))]) rfl ?_
      refine v_goto (tgt := 10) dX1_bestJokeByJoke_49 (by decide) ?_
      refine v_forget 6 ?_
      refine v_ls (ls2 := [some (.ref q), some (.int (nI f)), some (.int (nI t)), some (.int (oN (-1015) (bJ C f t ((i10 + 1))).1)), some (.int (nI ((bJ C f t ((i10 + 1))).2))), some (.int (nI ((i10 + 1)))), none]) ?_ (ih10 (by omega) trivial)
      rw [show bJ C f t (i10 + 1) = (some i10, lauN C f i10 t) from if_pos (by omega)]
      rfl
set_option maxRecDepth 20000 in
set_option maxHeartbeats 4000000 in
theorem t_X1_isAhead {l : Launch} {G : vG} {n : Nat} {h : AH} {p f j hr : Nat} {q : Nat} {C : Ct} (hc : ct G h q C) (hB : bd C) (hp : p < 10) (hj : j < 12) (hk : C 12 p < 12) (hhr : hr < 2 ^ 31) (hf : f < 2 ^ 31) : Mt l G mX1_isAhead [.ref q, .int (nI p), .int (nI f), .int (nI j), .int (nI hr)] n h 0 0 (fun r n2 h2 => r = some (.int (nI (bI (bkA C p f j hr)))) ∧ n2 = n ∧ h2 = h) := by
  refine Mt.of (by decide) (Nat.le_of_ble_eq_true rfl) rfl ?_
  refine v_ls (ls2 := [some (.ref q), some (.int (nI p)), some (.int (nI f)), some (.int (nI j)), some (.int (nI hr)), none]) rfl ?_
  refine v_aload_n dX1_isAhead_0 rfl ?_
  refine fX1_28 (v := .ref (q + 13)) rfl dX1_isAhead_1 (ck0 hc) rfl ?_
  refine fX1_116 (v := .ref (q + 17)) rfl dX1_isAhead_4 (ck13 hc) rfl ?_
  refine v_iload_n dX1_isAhead_7 rfl ?_
  refine n_ialdv (f := C 14) (j := p) (y := C 14 p) dX1_isAhead_8 (ck17 hc) (by omega) (by decide) rfl ?_
  have b1 := hB 14 p
  refine v_iload dX1_isAhead_9 rfl ?_
  refine n_icmp_eq (tgt := 34) (x := C 14 p) (y := hr) dX1_isAhead_11 (by decide) (by omega) (by omega) (fun c2 => ?_) (fun c2 => ?_)
  · refine v_aload_n dX1_isAhead_34 rfl ?_
    refine fX1_21 (v := .ref (q + 8)) rfl dX1_isAhead_35 (ck0 hc) rfl ?_
    refine fX1_89 (v := .ref (q + 9)) rfl dX1_isAhead_38 (ck8 hc) rfl ?_
    refine v_aload_n dX1_isAhead_41 rfl ?_
    refine fX1_28 (v := .ref (q + 13)) rfl dX1_isAhead_42 (ck0 hc) rfl ?_
    refine fX1_118 (v := .ref (q + 15)) rfl dX1_isAhead_45 (ck13 hc) rfl ?_
    refine v_iload_n dX1_isAhead_48 rfl ?_
    refine n_ialdv (f := C 12) (j := p) (y := C 12 p) dX1_isAhead_49 (ck15 hc) (by omega) (by decide) rfl ?_
    have b3 := hB 12 p
    refine n_ialdv (f := C 7) (j := C 12 p) (y := C 7 (C 12 p)) dX1_isAhead_50 (ck9 hc) (by omega) (by decide) rfl ?_
    have b4 := hB 7 (C 12 p)
    refine v_istore dX1_isAhead_51 rfl (by decide) ?_
    refine v_ls (ls2 := [some (.ref q), some (.int (nI p)), some (.int (nI f)), some (.int (nI j)), some (.int (nI hr)), some (.int (nI (C 7 (C 12 p))))]) rfl ?_
    refine v_iload dX1_isAhead_53 rfl ?_
    refine v_aload_n dX1_isAhead_55 rfl ?_
    refine fX1_21 (v := .ref (q + 8)) rfl dX1_isAhead_56 (ck0 hc) rfl ?_
    refine fX1_89 (v := .ref (q + 9)) rfl dX1_isAhead_59 (ck8 hc) rfl ?_
    refine v_iload_n dX1_isAhead_62 rfl ?_
    refine n_ialdv (f := C 7) (j := j) (y := C 7 j) dX1_isAhead_63 (ck9 hc) (by omega) (by decide) rfl ?_
    have b5 := hB 7 j
    refine n_icmp_eq (tgt := 87) (x := C 7 (C 12 p)) (y := C 7 j) dX1_isAhead_64 (by decide) (by omega) (by omega) (fun c6 => ?_) (fun c6 => ?_)
    · refine v_aload_n dX1_isAhead_87 rfl ?_
      refine fX1_28 (v := .ref (q + 13)) rfl dX1_isAhead_88 (ck0 hc) rfl ?_
      refine fX1_121 (v := .ref (q + 14)) rfl dX1_isAhead_91 (ck13 hc) rfl ?_
      refine v_iload_n dX1_isAhead_94 rfl ?_
      refine n_ialdv (f := C 11) (j := p) (y := C 11 p) dX1_isAhead_95 (ck14 hc) (by omega) (by decide) rfl ?_
      have b7 := hB 11 p
      refine v_iload_n dX1_isAhead_96 rfl ?_
      refine n_icmp_ge (tgt := 104) (x := C 11 p) (y := f) dX1_isAhead_97 (by decide) (by omega) (by omega) (fun c8 => ?_) (fun c8 => ?_)
      · refine v_iconst (v := nI 0) dX1_isAhead_104 (by decide) ?_
        refine v_zret (ty := .boolean) dX1_isAhead_105 rfl (by decide) ?_ (Nat.le_refl _) (Nat.le_refl _)
        exact ⟨by rw [bI_f (by (first | unfold bkA | unfold flA | unfold jkA); split <;> (try split) <;> omega)], rfl, rfl⟩
      · refine v_iconst (v := nI 1) dX1_isAhead_100 (by decide) ?_
        refine v_goto (tgt := 105) dX1_isAhead_101 (by decide) ?_
        refine v_zret (ty := .boolean) dX1_isAhead_105 rfl (by decide) ?_ (Nat.le_refl _) (Nat.le_refl _)
        exact ⟨by rw [bI_t (by (first | unfold bkA | unfold flA | unfold jkA); split <;> (try split) <;> omega)], rfl, rfl⟩
    · refine v_iload dX1_isAhead_67 rfl ?_
      refine v_aload_n dX1_isAhead_69 rfl ?_
      refine fX1_21 (v := .ref (q + 8)) rfl dX1_isAhead_70 (ck0 hc) rfl ?_
      refine fX1_89 (v := .ref (q + 9)) rfl dX1_isAhead_73 (ck8 hc) rfl ?_
      refine v_iload_n dX1_isAhead_76 rfl ?_
      refine n_ialdv (f := C 7) (j := j) (y := C 7 j) dX1_isAhead_77 (ck9 hc) (by omega) (by decide) rfl ?_
      refine n_icmp_le (tgt := 85) (x := C 7 (C 12 p)) (y := C 7 j) dX1_isAhead_78 (by decide) (by omega) (by omega) (fun c9 => ?_) (fun c9 => ?_)
      · refine v_iconst (v := nI 0) dX1_isAhead_85 (by decide) ?_
        refine v_zret (ty := .boolean) dX1_isAhead_86 rfl (by decide) ?_ (Nat.le_refl _) (Nat.le_refl _)
        exact ⟨by rw [bI_f (by (first | unfold bkA | unfold flA | unfold jkA); split <;> (try split) <;> omega)], rfl, rfl⟩
      · refine v_iconst (v := nI 1) dX1_isAhead_81 (by decide) ?_
        refine v_goto (tgt := 86) dX1_isAhead_82 (by decide) ?_
        refine v_zret (ty := .boolean) dX1_isAhead_86 rfl (by decide) ?_ (Nat.le_refl _) (Nat.le_refl _)
        exact ⟨by rw [bI_t (by (first | unfold bkA | unfold flA | unfold jkA); split <;> (try split) <;> omega)], rfl, rfl⟩
  · refine v_aload_n dX1_isAhead_14 rfl ?_
    refine fX1_28 (v := .ref (q + 13)) rfl dX1_isAhead_15 (ck0 hc) rfl ?_
    refine fX1_116 (v := .ref (q + 17)) rfl dX1_isAhead_18 (ck13 hc) rfl ?_
    refine v_iload_n dX1_isAhead_21 rfl ?_
    refine n_ialdv (f := C 14) (j := p) (y := C 14 p) dX1_isAhead_22 (ck17 hc) (by omega) (by decide) rfl ?_
    refine v_iload dX1_isAhead_23 rfl ?_
    refine n_icmp_ge (tgt := 32) (x := C 14 p) (y := hr) dX1_isAhead_25 (by decide) (by omega) (by omega) (fun c10 => ?_) (fun c10 => ?_)
    · refine v_iconst (v := nI 0) dX1_isAhead_32 (by decide) ?_
      refine v_zret (ty := .boolean) dX1_isAhead_33 rfl (by decide) ?_ (Nat.le_refl _) (Nat.le_refl _)
      exact ⟨by rw [bI_f (by (first | unfold bkA | unfold flA | unfold jkA); split <;> (try split) <;> omega)], rfl, rfl⟩
    · refine v_iconst (v := nI 1) dX1_isAhead_28 (by decide) ?_
      refine v_goto (tgt := 33) dX1_isAhead_29 (by decide) ?_
      refine v_zret (ty := .boolean) dX1_isAhead_33 rfl (by decide) ?_ (Nat.le_refl _) (Nat.le_refl _)
      exact ⟨by rw [bI_t (by (first | unfold bkA | unfold flA | unfold jkA); split <;> (try split) <;> omega)], rfl, rfl⟩
set_option maxRecDepth 20000 in
set_option maxHeartbeats 4000000 in
theorem t_X1_placeFor {l : Launch} {G : vG} {n : Nat} {h : AH} {f j hr : Nat} {q : Nat} {C : Ct} (hc : ct G h q C) (hB : bd C) (hj : j < 12) (hn : C 0 2 ≤ 10) (hbk : ∀ p, p < C 0 2 → C 12 p < 12) (hhr : hr < 2 ^ 31) (hf : f < 2 ^ 31) : Mt l G mX1_placeFor [.ref q, .int (nI f), .int (nI j), .int (nI hr)] n h 0 0 (fun r n2 h2 => r = some (.int (nI ((fs (fun p => !decide (bkA C p f j hr)) 0 (C 0 2)).getD (C 0 2)))) ∧ n2 = n ∧ h2 = h) := by
  refine Mt.of (by decide) (Nat.le_of_ble_eq_true rfl) rfl ?_
  refine v_ls (ls2 := [some (.ref q), some (.int (nI f)), some (.int (nI j)), some (.int (nI hr)), none]) rfl ?_
  refine v_iconst (v := nI 0) dX1_placeFor_0 (by decide) ?_
  refine v_istore dX1_placeFor_1 rfl (by decide) ?_
  refine v_ls (ls2 := [some (.ref q), some (.int (nI f)), some (.int (nI j)), some (.int (nI hr)), some (.int (nI 0))]) rfl ?_
  refine loopV (fun i3 => [some (.ref q), some (.int (nI f)), some (.int (nI j)), some (.int (nI hr)), some (.int (nI i3))]) (fun i3 => fs (fun p => !decide (bkA C p f j hr)) 0 (C 0 2) = fs (fun p => !decide (bkA C p f j hr)) i3 (C 0 2 - i3)) (N := C 0 2) 0 (by omega) rfl rfl (fun i3 hi3 hp3 ih3 => ?_)
  refine v_iload dX1_placeFor_3 rfl ?_
  refine v_aload_n dX1_placeFor_5 rfl ?_
  refine fX1_28 (v := .ref (q + 13)) rfl dX1_placeFor_6 (ck0 hc) rfl ?_
  refine fX1_111 (v := .int (nI (C 0 2))) rfl dX1_placeFor_9 (ck13 hc) rfl ?_
  have b1 := hB 0 2
  refine n_icmp_ge (tgt := 33) (x := i3) (y := C 0 2) dX1_placeFor_12 (by decide) (by omega) (by omega) (fun c2 => ?_) (fun c2 => ?_)
  · refine v_iload dX1_placeFor_33 rfl ?_
    refine v_iret dX1_placeFor_35 rfl ?_ (Nat.le_refl _) (Nat.le_refl _)
    have e : ¬ i3 < C 0 2 := by omega
    exact ⟨by rw [hp3, fs_end (by omega)]; exact congrArg (fun z => some (Value.int (nI z))) (by show i3 = C 0 2; omega), rfl, rfl⟩
  · refine v_aload_n dX1_placeFor_15 rfl ?_
    refine v_iload dX1_placeFor_16 rfl ?_
    refine v_iload_n dX1_placeFor_18 rfl ?_
    refine v_iload_n dX1_placeFor_19 rfl ?_
    refine v_iload_n dX1_placeFor_20 rfl ?_
    refine v_callV (st := []) dX1_placeFor_21 (t_X1_isAhead (p := i3) (f := f) (j := j) (hr := hr) hc hB (by omega) (by omega) (hbk _ (by omega)) (by omega) (by omega)) wX1_112 (ck0 hc) rfl rfl ⟨Nat.le_of_ble_eq_true rfl, Nat.le_of_ble_eq_true rfl⟩ (Nat.le_of_ble_eq_true rfl) ⟨Nat.le_refl _, Nat.le_refl _⟩ (fun r n2 h2 hq => ?_)
    obtain ⟨rfl, rfl, rfl⟩ := hq
    refine v_st (st2 := [.int (nI (bI (bkA C i3 f j hr)))]) rfl ?_
    refine n_ifb_eq (tgt := 33) (p := bkA C i3 f j hr) dX1_placeFor_24 (by decide) (fun c3 => ?_) (fun c3 => ?_)
    · refine v_iload dX1_placeFor_33 rfl ?_
      refine v_iret dX1_placeFor_35 rfl ?_ (Nat.le_refl _) (Nat.le_refl _)
      have e : i3 < C 0 2 := by omega
      exact ⟨by rw [hp3, fs_hit e (by simp only [Bool.not_eq_true', decide_eq_false_iff_not]; assumption)]; rfl, rfl, rfl⟩
    · refine n_iinc (k := 1) (x := i3) dX1_placeFor_27 (by decide) rfl rfl (by decide) ?_
      refine v_ls (ls2 := [some (.ref q), some (.int (nI f)), some (.int (nI j)), some (.int (nI hr)), some (.int (nI (i3 + 1)))]) rfl ?_
      refine v_goto (tgt := 3) dX1_placeFor_30 (by decide) ?_
      exact ih3 (by omega) (hp3.trans (fs_step (by omega) (by simp only [Bool.not_eq_false', decide_eq_true_eq]; assumption)))
set_option maxRecDepth 20000 in
set_option maxHeartbeats 4000000 in
theorem t_X2_isAhead {l : Launch} {G : vG} {n : Nat} {h : AH} {a b : Nat} {q : Nat} {C : Ct} (hc : ct G h q C) (hB : bd C) (ha : a < 6) (hb : b < 6) : Mt l G mX2_isAhead [.ref (q + 1), .int (nI a), .int (nI b)] n h 0 0 (fun r n2 h2 => r = some (.int (nI (bI (flA C a b)))) ∧ n2 = n ∧ h2 = h) := by
  refine Mt.of (by decide) (Nat.le_of_ble_eq_true rfl) rfl ?_
  refine v_ls (ls2 := [some (.ref (q + 1)), some (.int (nI a)), some (.int (nI b))]) rfl ?_
  refine v_aload_n dX2_isAhead_0 rfl ?_
  refine fX2_22 (v := .ref (q + 4)) rfl dX2_isAhead_1 (ck1 hc) rfl ?_
  refine v_iload_n dX2_isAhead_4 rfl ?_
  refine n_ialdv (f := C 3) (j := a) (y := C 3 a) dX2_isAhead_5 (ck4 hc) (by omega) (by decide) rfl ?_
  have b1 := hB 3 a
  refine v_aload_n dX2_isAhead_6 rfl ?_
  refine fX2_22 (v := .ref (q + 4)) rfl dX2_isAhead_7 (ck1 hc) rfl ?_
  refine v_iload_n dX2_isAhead_10 rfl ?_
  refine n_ialdv (f := C 3) (j := b) (y := C 3 b) dX2_isAhead_11 (ck4 hc) (by omega) (by decide) rfl ?_
  have b2 := hB 3 b
  refine n_icmp_eq (tgt := 36) (x := C 3 a) (y := C 3 b) dX2_isAhead_12 (by decide) (by omega) (by omega) (fun c3 => ?_) (fun c3 => ?_)
  · refine v_aload_n dX2_isAhead_36 rfl ?_
    refine fX2_19 (v := .ref (q + 3)) rfl dX2_isAhead_37 (ck1 hc) rfl ?_
    refine v_iload_n dX2_isAhead_40 rfl ?_
    refine n_ialdv (f := C 2) (j := a) (y := C 2 a) dX2_isAhead_41 (ck3 hc) (by omega) (by decide) rfl ?_
    have b4 := hB 2 a
    refine v_aload_n dX2_isAhead_42 rfl ?_
    refine fX2_19 (v := .ref (q + 3)) rfl dX2_isAhead_43 (ck1 hc) rfl ?_
    refine v_iload_n dX2_isAhead_46 rfl ?_
    refine n_ialdv (f := C 2) (j := b) (y := C 2 b) dX2_isAhead_47 (ck3 hc) (by omega) (by decide) rfl ?_
    have b5 := hB 2 b
    refine n_icmp_eq (tgt := 72) (x := C 2 a) (y := C 2 b) dX2_isAhead_48 (by decide) (by omega) (by omega) (fun c6 => ?_) (fun c6 => ?_)
    · refine v_iload_n dX2_isAhead_72 rfl ?_
      refine v_iload_n dX2_isAhead_73 rfl ?_
      refine n_icmp_ge (tgt := 81) (x := a) (y := b) dX2_isAhead_74 (by decide) (by omega) (by omega) (fun c7 => ?_) (fun c7 => ?_)
      · refine v_iconst (v := nI 0) dX2_isAhead_81 (by decide) ?_
        refine v_zret (ty := .boolean) dX2_isAhead_82 rfl (by decide) ?_ (Nat.le_refl _) (Nat.le_refl _)
        exact ⟨by rw [bI_f (by (first | unfold bkA | unfold flA | unfold jkA); split <;> (try split) <;> omega)], rfl, rfl⟩
      · refine v_iconst (v := nI 1) dX2_isAhead_77 (by decide) ?_
        refine v_goto (tgt := 82) dX2_isAhead_78 (by decide) ?_
        refine v_zret (ty := .boolean) dX2_isAhead_82 rfl (by decide) ?_ (Nat.le_refl _) (Nat.le_refl _)
        exact ⟨by rw [bI_t (by (first | unfold bkA | unfold flA | unfold jkA); split <;> (try split) <;> omega)], rfl, rfl⟩
    · refine v_aload_n dX2_isAhead_51 rfl ?_
      refine fX2_19 (v := .ref (q + 3)) rfl dX2_isAhead_52 (ck1 hc) rfl ?_
      refine v_iload_n dX2_isAhead_55 rfl ?_
      refine n_ialdv (f := C 2) (j := a) (y := C 2 a) dX2_isAhead_56 (ck3 hc) (by omega) (by decide) rfl ?_
      refine v_aload_n dX2_isAhead_57 rfl ?_
      refine fX2_19 (v := .ref (q + 3)) rfl dX2_isAhead_58 (ck1 hc) rfl ?_
      refine v_iload_n dX2_isAhead_61 rfl ?_
      refine n_ialdv (f := C 2) (j := b) (y := C 2 b) dX2_isAhead_62 (ck3 hc) (by omega) (by decide) rfl ?_
      refine n_icmp_le (tgt := 70) (x := C 2 a) (y := C 2 b) dX2_isAhead_63 (by decide) (by omega) (by omega) (fun c8 => ?_) (fun c8 => ?_)
      · refine v_iconst (v := nI 0) dX2_isAhead_70 (by decide) ?_
        refine v_zret (ty := .boolean) dX2_isAhead_71 rfl (by decide) ?_ (Nat.le_refl _) (Nat.le_refl _)
        exact ⟨by rw [bI_f (by (first | unfold bkA | unfold flA | unfold jkA); split <;> (try split) <;> omega)], rfl, rfl⟩
      · refine v_iconst (v := nI 1) dX2_isAhead_66 (by decide) ?_
        refine v_goto (tgt := 71) dX2_isAhead_67 (by decide) ?_
        refine v_zret (ty := .boolean) dX2_isAhead_71 rfl (by decide) ?_ (Nat.le_refl _) (Nat.le_refl _)
        exact ⟨by rw [bI_t (by (first | unfold bkA | unfold flA | unfold jkA); split <;> (try split) <;> omega)], rfl, rfl⟩
  · refine v_aload_n dX2_isAhead_15 rfl ?_
    refine fX2_22 (v := .ref (q + 4)) rfl dX2_isAhead_16 (ck1 hc) rfl ?_
    refine v_iload_n dX2_isAhead_19 rfl ?_
    refine n_ialdv (f := C 3) (j := a) (y := C 3 a) dX2_isAhead_20 (ck4 hc) (by omega) (by decide) rfl ?_
    refine v_aload_n dX2_isAhead_21 rfl ?_
    refine fX2_22 (v := .ref (q + 4)) rfl dX2_isAhead_22 (ck1 hc) rfl ?_
    refine v_iload_n dX2_isAhead_25 rfl ?_
    refine n_ialdv (f := C 3) (j := b) (y := C 3 b) dX2_isAhead_26 (ck4 hc) (by omega) (by decide) rfl ?_
    refine n_icmp_le (tgt := 34) (x := C 3 a) (y := C 3 b) dX2_isAhead_27 (by decide) (by omega) (by omega) (fun c9 => ?_) (fun c9 => ?_)
    · refine v_iconst (v := nI 0) dX2_isAhead_34 (by decide) ?_
      refine v_zret (ty := .boolean) dX2_isAhead_35 rfl (by decide) ?_ (Nat.le_refl _) (Nat.le_refl _)
      exact ⟨by rw [bI_f (by (first | unfold bkA | unfold flA | unfold jkA); split <;> (try split) <;> omega)], rfl, rfl⟩
    · refine v_iconst (v := nI 1) dX2_isAhead_30 (by decide) ?_
      refine v_goto (tgt := 35) dX2_isAhead_31 (by decide) ?_
      refine v_zret (ty := .boolean) dX2_isAhead_35 rfl (by decide) ?_ (Nat.le_refl _) (Nat.le_refl _)
      exact ⟨by rw [bI_t (by (first | unfold bkA | unfold flA | unfold jkA); split <;> (try split) <;> omega)], rfl, rfl⟩
set_option maxRecDepth 20000 in
set_option maxHeartbeats 4000000 in
theorem t_X2_countAhead {l : Launch} {G : vG} {n : Nat} {h : AH} {f : Nat} {q : Nat} {C : Ct} (hc : ct G h q C) (hB : bd C) (hF : C 0 0 ≤ 6) (hf : f < 6) : Mt l G mX2_countAhead [.ref (q + 1), .int (nI f)] n h 0 0 (fun r n2 h2 => r = some (.int (nI (flN C f))) ∧ n2 = n ∧ h2 = h) := by
  refine Mt.of (by decide) (Nat.le_of_ble_eq_true rfl) rfl ?_
  refine v_ls (ls2 := [some (.ref (q + 1)), some (.int (nI f)), none, none]) rfl ?_
  refine v_iconst (v := nI 0) dX2_countAhead_0 (by decide) ?_
  refine v_istore_n dX2_countAhead_1 rfl (by decide) ?_
  refine v_ls (ls2 := [some (.ref (q + 1)), some (.int (nI f)), some (.int (nI 0)), none]) rfl ?_
  refine v_iconst (v := nI 0) dX2_countAhead_2 (by decide) ?_
  refine v_istore_n dX2_countAhead_3 rfl (by decide) ?_
  refine v_ls (ls2 := [some (.ref (q + 1)), some (.int (nI f)), some (.int (nI 0)), some (.int (nI 0))]) rfl ?_
  refine loopV (fun i4 => [some (.ref (q + 1)), some (.int (nI f)), some (.int (nI (cnt (fun z => decide (flA C z f)) i4))), some (.int (nI i4))]) (fun i4 => True) (N := C 0 0) 0 (by omega) rfl trivial (fun i4 hi4 hp4 ih4 => ?_)
  refine v_iload_n dX2_countAhead_4 rfl ?_
  refine v_aload_n dX2_countAhead_5 rfl ?_
  refine fX2_9 (v := .int (nI (C 0 0))) rfl dX2_countAhead_6 (ck1 hc) rfl ?_
  have b1 := hB 0 0
  refine n_icmp_ge (tgt := 30) (x := i4) (y := C 0 0) dX2_countAhead_9 (by decide) (by omega) (by omega) (fun c2 => ?_) (fun c2 => ?_)
  · refine v_iload_n dX2_countAhead_30 rfl ?_
    refine v_iret dX2_countAhead_31 rfl ?_ (Nat.le_refl _) (Nat.le_refl _)
    have e : i4 = C 0 0 := by omega
    subst e
    exact ⟨rfl, rfl, rfl⟩
  · refine v_aload_n dX2_countAhead_12 rfl ?_
    refine v_iload_n dX2_countAhead_13 rfl ?_
    refine v_iload_n dX2_countAhead_14 rfl ?_
    refine v_callV (st := []) dX2_countAhead_15 (t_X2_isAhead (a := i4) (b := f) hc hB (by omega) (by omega)) wX2_42 (ck1 hc) rfl rfl ⟨Nat.le_of_ble_eq_true rfl, Nat.le_of_ble_eq_true rfl⟩ (Nat.le_of_ble_eq_true rfl) ⟨Nat.le_refl _, Nat.le_refl _⟩ (fun r n2 h2 hq => ?_)
    obtain ⟨rfl, rfl, rfl⟩ := hq
    refine v_st (st2 := [.int (nI (bI (flA C i4 f)))]) rfl ?_
    refine n_ifb_eq (tgt := 24) (p := flA C i4 f) dX2_countAhead_18 (by decide) (fun c3 => ?_) (fun c3 => ?_)
    · refine n_iinc (k := 1) (x := i4) dX2_countAhead_24 (by decide) rfl rfl (by decide) ?_
      refine v_ls (ls2 := [some (.ref (q + 1)), some (.int (nI f)), some (.int (nI (cnt (fun z => decide (flA C z f)) i4))), some (.int (nI (i4 + 1)))]) rfl ?_
      refine v_goto (tgt := 4) dX2_countAhead_27 (by decide) ?_
      refine v_ls (ls2 := [some (.ref (q + 1)), some (.int (nI f)), some (.int (nI (cnt (fun z => decide (flA C z f)) ((i4 + 1))))), some (.int (nI ((i4 + 1))))]) ?_ (ih4 (by omega) trivial)
      rw [cnt_f (decide_eq_false (by assumption))]
    · refine n_iinc (k := 1) (x := cnt (fun z => decide (flA C z f)) i4) dX2_countAhead_21 (by decide) rfl rfl (by decide) ?_
      refine v_ls (ls2 := [some (.ref (q + 1)), some (.int (nI f)), some (.int (nI (cnt (fun z => decide (flA C z f)) i4 + 1))), some (.int (nI i4))]) rfl ?_
      refine n_iinc (k := 1) (x := i4) dX2_countAhead_24 (by decide) rfl rfl (by decide) ?_
      refine v_ls (ls2 := [some (.ref (q + 1)), some (.int (nI f)), some (.int (nI (cnt (fun z => decide (flA C z f)) i4 + 1))), some (.int (nI (i4 + 1)))]) rfl ?_
      refine v_goto (tgt := 4) dX2_countAhead_27 (by decide) ?_
      refine v_ls (ls2 := [some (.ref (q + 1)), some (.int (nI f)), some (.int (nI (cnt (fun z => decide (flA C z f)) ((i4 + 1))))), some (.int (nI ((i4 + 1))))]) ?_ (ih4 (by omega) trivial)
      rw [cnt_t (decide_eq_true (by assumption))]
set_option maxRecDepth 20000 in
set_option maxHeartbeats 4000000 in
theorem t_X2_atRank {l : Launch} {G : vG} {n : Nat} {h : AH} {x : Int32} {q : Nat} {C : Ct} (hc : ct G h q C) (hB : bd C) (hF : C 0 0 ≤ 6) : Mt l G mX2_atRank [.ref (q + 1), .int x] n h 0 0 (fun r n2 h2 => r = some (.int (oN (-1011) (fs (fun z => decide (nI (flN C z) = x)) 0 (C 0 0)))) ∧ n2 = n ∧ h2 = h) := by
  refine Mt.of (by decide) (Nat.le_of_ble_eq_true rfl) rfl ?_
  refine v_ls (ls2 := [some (.ref (q + 1)), some (.int x), none]) rfl ?_
  refine v_iconst (v := nI 0) dX2_atRank_0 (by decide) ?_
  refine v_istore_n dX2_atRank_1 rfl (by decide) ?_
  refine v_ls (ls2 := [some (.ref (q + 1)), some (.int x), some (.int (nI 0))]) rfl ?_
  refine loopV (fun i2 => [some (.ref (q + 1)), some (.int x), some (.int (nI i2))]) (fun i2 => fs (fun z => decide (nI (flN C z) = x)) 0 (C 0 0) = fs (fun z => decide (nI (flN C z) = x)) i2 (C 0 0 - i2)) (N := C 0 0) 0 (by omega) rfl rfl (fun i2 hi2 hp2 ih2 => ?_)
  refine v_iload_n dX2_atRank_2 rfl ?_
  refine v_aload_n dX2_atRank_3 rfl ?_
  refine fX2_9 (v := .int (nI (C 0 0))) rfl dX2_atRank_4 (ck1 hc) rfl ?_
  have b1 := hB 0 0
  refine n_icmp_ge (tgt := 27) (x := i2) (y := C 0 0) dX2_atRank_7 (by decide) (by omega) (by omega) (fun c2 => ?_) (fun c2 => ?_)
  · refine v_sipush (v := (-1011)) dX2_atRank_27 (by decide) ?_
    refine v_iret dX2_atRank_30 rfl ?_ (Nat.le_refl _) (Nat.le_refl _)
    exact ⟨by rw [hp2, fs_end (by omega)]; rfl, rfl, rfl⟩
  · refine v_aload_n dX2_atRank_10 rfl ?_
    refine v_iload_n dX2_atRank_11 rfl ?_
    refine v_callV (st := []) dX2_atRank_12 (t_X2_countAhead (f := i2) hc hB hF (by omega)) wX2_38 (ck1 hc) rfl rfl ⟨Nat.le_of_ble_eq_true rfl, Nat.le_of_ble_eq_true rfl⟩ (Nat.le_of_ble_eq_true rfl) ⟨Nat.le_refl _, Nat.le_refl _⟩ (fun r n2 h2 hq => ?_)
    obtain ⟨rfl, rfl, rfl⟩ := hq
    refine v_st (st2 := [.int (nI (flN C i2))]) rfl ?_
    refine v_iload_n dX2_atRank_15 rfl ?_
    refine v_icmp_ne (tgt := 21) dX2_atRank_16 (by decide) (fun c3 => ?_) (fun c3 => ?_)
    · refine n_iinc (k := 1) (x := i2) dX2_atRank_21 (by decide) rfl rfl (by decide) ?_
      refine v_ls (ls2 := [some (.ref (q + 1)), some (.int x), some (.int (nI (i2 + 1)))]) rfl ?_
      refine v_goto (tgt := 2) dX2_atRank_24 (by decide) ?_
      exact ih2 (by omega) (hp2.trans (fs_step (by omega) (decide_eq_false (by assumption))))
    · refine v_iload_n dX2_atRank_19 rfl ?_
      refine v_iret dX2_atRank_20 rfl ?_ (Nat.le_refl _) (Nat.le_refl _)
      exact ⟨by rw [hp2, fs_hit (by omega) (decide_eq_true (by assumption))]; rfl, rfl, rfl⟩
set_option maxRecDepth 20000 in
set_option maxHeartbeats 4000000 in
theorem t_X0_jokeOfFoolAt {l : Launch} {G : vG} {n : Nat} {h : AH} {f hr : Nat} {q : Nat} {C : Ct} (hc : ct G h q C) (hB : bd C) (hn : C 0 2 ≤ 10) (hf : f < 2 ^ 31) (hhr : hr < 2 ^ 31) : Mt l G mX0_jokeOfFoolAt [.ref (q + 13), .int (nI f), .int (nI hr)] n h 0 0 (fun r n2 h2 => r = some (.int (oN (-1015) ((fs (fun p => decide (C 11 p = f ∧ C 14 p = hr)) 0 (C 0 2)).map (fun p => C 12 p)))) ∧ n2 = n ∧ h2 = h) := by
  refine Mt.of (by decide) (Nat.le_of_ble_eq_true rfl) rfl ?_
  refine v_ls (ls2 := [some (.ref (q + 13)), some (.int (nI f)), some (.int (nI hr)), none]) rfl ?_
  refine v_iconst (v := nI 0) dX0_jokeOfFoolAt_0 (by decide) ?_
  refine v_istore_n dX0_jokeOfFoolAt_1 rfl (by decide) ?_
  refine v_ls (ls2 := [some (.ref (q + 13)), some (.int (nI f)), some (.int (nI hr)), some (.int (nI 0))]) rfl ?_
  refine loopV (fun i2 => [some (.ref (q + 13)), some (.int (nI f)), some (.int (nI hr)), some (.int (nI i2))]) (fun i2 => fs (fun p => decide (C 11 p = f ∧ C 14 p = hr)) 0 (C 0 2) = fs (fun p => decide (C 11 p = f ∧ C 14 p = hr)) i2 (C 0 2 - i2)) (N := C 0 2) 0 (by omega) rfl rfl (fun i2 hi2 hp2 ih2 => ?_)
  refine v_iload_n dX0_jokeOfFoolAt_2 rfl ?_
  refine v_aload_n dX0_jokeOfFoolAt_3 rfl ?_
  refine fX0_9 (v := .int (nI (C 0 2))) rfl dX0_jokeOfFoolAt_4 (ck13 hc) rfl ?_
  have b1 := hB 0 2
  refine n_icmp_ge (tgt := 43) (x := i2) (y := C 0 2) dX0_jokeOfFoolAt_7 (by decide) (by omega) (by omega) (fun c2 => ?_) (fun c2 => ?_)
  · refine v_sipush (v := (-1015)) dX0_jokeOfFoolAt_43 (by decide) ?_
    refine v_iret dX0_jokeOfFoolAt_46 rfl ?_ (Nat.le_refl _) (Nat.le_refl _)
    exact ⟨by rw [hp2, fs_end (by omega)]; rfl, rfl, rfl⟩
  · refine v_aload_n dX0_jokeOfFoolAt_10 rfl ?_
    refine fX0_15 (v := .ref (q + 14)) rfl dX0_jokeOfFoolAt_11 (ck13 hc) rfl ?_
    refine v_iload_n dX0_jokeOfFoolAt_14 rfl ?_
    refine n_ialdv (f := C 11) (j := i2) (y := C 11 i2) dX0_jokeOfFoolAt_15 (ck14 hc) (by omega) (by decide) rfl ?_
    have b3 := hB 11 i2
    refine v_iload_n dX0_jokeOfFoolAt_16 rfl ?_
    refine n_icmp_ne (tgt := 37) (x := C 11 i2) (y := f) dX0_jokeOfFoolAt_17 (by decide) (by omega) (by omega) (fun c4 => ?_) (fun c4 => ?_)
    · refine n_iinc (k := 1) (x := i2) dX0_jokeOfFoolAt_37 (by decide) rfl rfl (by decide) ?_
      refine v_ls (ls2 := [some (.ref (q + 13)), some (.int (nI f)), some (.int (nI hr)), some (.int (nI (i2 + 1)))]) rfl ?_
      refine v_goto (tgt := 2) dX0_jokeOfFoolAt_40 (by decide) ?_
      exact ih2 (by omega) (hp2.trans (fs_step (by omega) (decide_eq_false (by omega))))
    · refine v_aload_n dX0_jokeOfFoolAt_20 rfl ?_
      refine fX0_25 (v := .ref (q + 17)) rfl dX0_jokeOfFoolAt_21 (ck13 hc) rfl ?_
      refine v_iload_n dX0_jokeOfFoolAt_24 rfl ?_
      refine n_ialdv (f := C 14) (j := i2) (y := C 14 i2) dX0_jokeOfFoolAt_25 (ck17 hc) (by omega) (by decide) rfl ?_
      have b5 := hB 14 i2
      refine v_iload_n dX0_jokeOfFoolAt_26 rfl ?_
      refine n_icmp_ne (tgt := 37) (x := C 14 i2) (y := hr) dX0_jokeOfFoolAt_27 (by decide) (by omega) (by omega) (fun c6 => ?_) (fun c6 => ?_)
      · refine n_iinc (k := 1) (x := i2) dX0_jokeOfFoolAt_37 (by decide) rfl rfl (by decide) ?_
        refine v_ls (ls2 := [some (.ref (q + 13)), some (.int (nI f)), some (.int (nI hr)), some (.int (nI (i2 + 1)))]) rfl ?_
        refine v_goto (tgt := 2) dX0_jokeOfFoolAt_40 (by decide) ?_
        exact ih2 (by omega) (hp2.trans (fs_step (by omega) (decide_eq_false (by omega))))
      · refine v_aload_n dX0_jokeOfFoolAt_30 rfl ?_
        refine fX0_19 (v := .ref (q + 15)) rfl dX0_jokeOfFoolAt_31 (ck13 hc) rfl ?_
        refine v_iload_n dX0_jokeOfFoolAt_34 rfl ?_
        refine n_ialdv (f := C 12) (j := i2) (y := C 12 i2) dX0_jokeOfFoolAt_35 (ck15 hc) (by omega) (by decide) rfl ?_
        have b7 := hB 12 i2
        refine v_iret dX0_jokeOfFoolAt_36 rfl ?_ (Nat.le_refl _) (Nat.le_refl _)
        exact ⟨by rw [hp2, fs_hit (by omega) (decide_eq_true (by constructor <;> assumption))]; rfl, rfl, rfl⟩
