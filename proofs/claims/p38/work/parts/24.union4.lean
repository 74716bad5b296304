theorem v_ddiv {l : Launch} {G : vG} {M : vM} {rc rs : Nat} {Fz : vFin} {pc : Nat} {ls : List (Option Value)} {st : List Value} {n : Nat} {h : AH} {cells slots : Nat} {x y : UInt64} (hd : decode M.2.1 pc = .ok (.ddiv, 1)) (kk : ∀ r, alike64 r (FP.ddiv x y) = true → V l G M rc rs Fz (pc + 1) ls (.double r :: st) n h cells slots) : V l G M rc rs Fz pc ls (.double y :: .double x :: st) n h cells slots := by
  intro p e s m args below meth c H locs lsA d0 hx hb hr hml hts hown hlk hnm hd0 hC hS hbs hP hl
  exact lv_ddiv_any hd0 lw_bits hx hb hd (fun r d1 hal hd1 => kk r hal p e s m args below meth c H locs lsA d1 hx hb hr hml hts hown hlk hnm hd1 hC hS hbs hP hl)
theorem v_fdiv {l : Launch} {G : vG} {M : vM} {rc rs : Nat} {Fz : vFin} {pc : Nat} {ls : List (Option Value)} {st : List Value} {n : Nat} {h : AH} {cells slots : Nat} {x y : UInt32} (hd : decode M.2.1 pc = .ok (.fdiv, 1)) (kk : ∀ r, alike32 r (FP.fdiv x y) = true → V l G M rc rs Fz (pc + 1) ls (.float r :: st) n h cells slots) : V l G M rc rs Fz pc ls (.float y :: .float x :: st) n h cells slots := by
  intro p e s m args below meth c H locs lsA d0 hx hb hr hml hts hown hlk hnm hd0 hC hS hbs hP hl
  exact lv_fdiv_any hd0 lw_bits hx hb hd (fun r d1 hal hd1 => kk r hal p e s m args below meth c H locs lsA d1 hx hb hr hml hts hown hlk hnm hd1 hC hS hbs hP hl)
def hpop (T : Hs) : Hs := (T.1 - 1, (T.2.1 + 7) % 8, T.2.2)
theorem hpop_ok {T : Hs} (h : T.1 ≤ 8 ∧ T.2.1 < 8) : (hpop T).1 ≤ 8 ∧ (hpop T).2.1 < 8 := ⟨Nat.le_trans (Nat.sub_le _ _) h.1, Nat.mod_lt _ (by decide)⟩
def fcast : Nat → Ct → Ct
  | 0, C => C
  | k + 1, C => fcast k (crG C)
theorem prG_2 {C : Ct} {f j t : Nat} : prG C f j t 0 2 = C 0 2 := by
  unfold prG prf
  split
  · split <;> rfl
  · rfl
theorem crG_2 {C : Ct} : crG C 0 2 = C 0 2 - 1 := by
  unfold crG
  split
  · rfl
  · split
    · rfl
    · exact prG_2
def fcI (G : vG) (u sv : Nat) (rs dt : Int32) (C : Ct) (b : Nat) (h : AH) (w : Nat) (h1 : AH) : Prop := h1 u = some (jc u sv rs dt) ∧ ct G h1 (u + 1) C ∧ frP (fun z => z < u + 41 ∨ u + 61 ≤ z) h h1 ∧ w ≤ C 0 2 ∧ ∃ X : Ct, ct G h1 (u + 41) X ∧ Iv X ∧ X 0 2 = w ∧ bdk (b + 3000 * (C 0 2 - w)) X ∧ fcast w X = fcast (C 0 2) C
def mwz (C : Ct) (z : UInt64) : Prop := if C 0 1 = 0 then z = FP.dconst0 else alike64 z (FP.ddiv (FP.i2d (nI (sm (C 7) 12))) (FP.i2d (nI (C 0 1)))) = true
def ssz (C : Ct) (z : UInt32) : Prop := if sm (C 5) 6 = 0 then z = FP.fconst0 else alike32 z (FP.fdiv (FP.i2f (nI (sm (C 6) 6))) (FP.i2f (nI (sm (C 5) 6)))) = true
theorem sm6 {C : Ct} (hB : bd C) (f : Nat) : sm (C f) 6 < 2 ^ 31 := by
  have := sm_le (f := C f) (b := 2 ^ 28) (n := 6) (fun k _ => Nat.le_of_lt (hB f k))
  omega
theorem sm4 {C : Ct} (hB : bd C) (f : Nat) : sm (C f) 4 ≤ 2 ^ 30 := by
  have := sm_le (f := C f) (b := 2 ^ 28) (n := 4) (fun k _ => Nat.le_of_lt (hB f k))
  omega
set_option maxRecDepth 20000 in
set_option maxHeartbeats 4000000 in
theorem t_X6_undo {l : Launch} {G : vG} {h : AH} {n : Nat} {u sv : Nat} {rs dt : Int32} {C : Ct} {T : Hs} (hj : h u = some (jc u sv rs dt)) (hc : ct G h (u + 1) C) (hh : ht G h (u + 81) T) : Mt l G mX6_undo [.ref u] (n) h 0 0 (fun r n2 h2 => r = some (.int (if T.1 = 0 then -1015 else nI (T.1 - 1))) ∧ n2 = n ∧ ct G h2 (u + 1) (if T.1 = 0 then C else T.2.2 ((T.2.1 + 7) % 8)) ∧ ht G h2 (u + 81) (if T.1 = 0 then T else hpop T) ∧ h2 u = some (jc u sv rs dt) ∧ frP (fun z => z < u ∨ (u + 21 ≤ z ∧ z < u + 81) ∨ u + 243 ≤ z) h h2) := by
  refine Mt.of (by decide) (Nat.le_of_ble_eq_true rfl) rfl ?_
  refine v_ls (ls2 := [some (.ref u)]) rfl ?_
  have ht1 := hh.2.1
  have ht2 := hh.2.2
  refine v_aload_n dX6_undo_0 rfl ?_
  refine fX6_28 (v := .ref (u + 81)) rfl dX6_undo_1 hj rfl ?_
  refine fX6_274 (v := .int (nI T.1)) rfl dX6_undo_4 hh.1.1 rfl ?_
  refine n_if_ne (tgt := 14) (x := T.1) dX6_undo_7 (by decide) (by omega) (fun c21 => ?_) (fun c21 => ?_)
  · refine v_aload_n dX6_undo_14 rfl ?_
    refine fX6_28 (v := .ref (u + 81)) rfl dX6_undo_15 hj rfl ?_
    refine v_aload_n dX6_undo_18 rfl ?_
    refine fX6_10 (v := .ref (u + 1)) rfl dX6_undo_19 hj rfl ?_
    refine v_callV (st := []) dX6_undo_22 (t_X3_giveLatestBack (y := (T.2.1 + 7) % 8) hh.1 hc (by omega) hh.2.1 (by omega) hh.2.2 (by omega)) wX6_284 hh.1.1 rfl rfl ⟨Nat.le_of_ble_eq_true rfl, Nat.le_of_ble_eq_true rfl⟩ (Nat.le_of_ble_eq_true rfl) ⟨Nat.le_refl _, Nat.le_refl _⟩ (fun r n2 h2 hq => ?_)
    obtain ⟨rfl, rfl, hh22, hc23, f24⟩ := hq
    have hh22x : ht G _ (u + 81) (hpop T) := ⟨hh22, hpop_ok hh.2⟩
    refine v_st (st2 := []) rfl ?_
    have fa25 := (f24 _ (by omega)).trans hj
    have fr26 : frP (fun z => z < u ∨ (u + 21 ≤ z ∧ z < u + 81) ∨ u + 243 ≤ z) _ _ := fun z (hz : z < u ∨ (u + 21 ≤ z ∧ z < u + 81) ∨ u + 243 ≤ z) => (f24 z (by omega))
    refine v_aload_n dX6_undo_25 rfl ?_
    refine fX6_28 (v := .ref (u + 81)) rfl dX6_undo_26 fa25 rfl ?_
    refine fX6_274 (v := .int (nI ((hpop T).1))) rfl dX6_undo_29 hh22x.1.1 rfl ?_
    refine v_iret dX6_undo_32 rfl ?_ (Nat.le_of_ble_eq_true rfl) (Nat.le_of_ble_eq_true rfl)
    exact ⟨by rw [if_neg (by omega)]; rfl, rfl, by rw [if_neg (by omega)]; exact hc23, by rw [if_neg (by omega)]; exact hh22x, fa25, fr26⟩
  · refine v_sipush (v := (-1015)) dX6_undo_10 (by decide) ?_
    refine v_iret dX6_undo_13 rfl ?_ (Nat.le_of_ble_eq_true rfl) (Nat.le_of_ble_eq_true rfl)
    exact ⟨by rw [if_pos c21], rfl, by rw [if_pos c21]; exact hc, by rw [if_pos c21]; exact hh, hj, frP_rf⟩
set_option maxRecDepth 20000 in
set_option maxHeartbeats 4000000 in
theorem t_X6_save {l : Launch} {G : vG} {h : AH} {n : Nat} {u sv : Nat} {rs dt : Int32} {C S : Ct} (hj : h u = some (jc u sv rs dt)) (hc : ct G h (u + 1) C) (hsn : ct G h (u + 61) S) : Mt l G mX6_save [.ref u] (n) h 0 0 (fun r n2 h2 => r = some (.int (nI (C 0 0))) ∧ n2 = n ∧ ct G h2 (u + 61) C ∧ h2 u = some (jc u 1 rs dt) ∧ frP (fun z => z < u ∨ (u + 1 ≤ z ∧ z < u + 61) ∨ u + 81 ≤ z) h h2) := by
  refine Mt.of (by decide) (Nat.le_of_ble_eq_true rfl) rfl ?_
  refine v_ls (ls2 := [some (.ref u)]) rfl ?_
  refine v_aload_n dX6_save_0 rfl ?_
  refine fX6_22 (v := .ref (u + 61)) rfl dX6_save_1 hj rfl ?_
  refine v_aload_n dX6_save_4 rfl ?_
  refine fX6_10 (v := .ref (u + 1)) rfl dX6_save_5 hj rfl ?_
  refine v_callV (st := []) dX6_save_8 (t_X1_take hsn hc (by omega)) wX6_57 (ck0 hsn) rfl rfl ⟨Nat.le_of_ble_eq_true rfl, Nat.le_of_ble_eq_true rfl⟩ (Nat.le_of_ble_eq_true rfl) ⟨Nat.le_refl _, Nat.le_refl _⟩ (fun r n2 h2 hq => ?_)
  obtain ⟨rfl, rfl, hc21, sa22⟩ := hq
  refine v_st (st2 := []) rfl ?_
  have fa23 := (sa22 (u) (by omega)).trans hj
  have hc24 := ct_offn hc sa22 (by omega)
  have fr25 := frP_tr (P := fun z => z < u ∨ (u + 1 ≤ z ∧ z < u + 61) ∨ u + 81 ≤ z) frP_rf sa22 (fun z (hz : z < u ∨ (u + 1 ≤ z ∧ z < u + 61) ∨ u + 81 ≤ z) => by omega)
  refine v_aload_n dX6_save_11 rfl ?_
  refine v_iconst (v := nI 1) dX6_save_12 (by decide) ?_
  refine pX6_46 rfl dX6_save_13 fa23 (Nat.le_of_ble_eq_true rfl) (by decide) (by decide) ?_
  refine nw (fun h1 f1 s1 => ?_)
  have fa26 : h1 (u) = some (.inr (7, [.ref (u + 1), .ref (u + 21), .ref (u + 41), .ref (u + 61), .ref (u + 81), .ref (u + 243), .ref (u + 248), .int (nI 1), .int rs, .int dt])) := f1
  have sa26 := s1
  clear f1 s1
  have hc27 := ct_offn hc24 sa26 (by omega)
  have hc28 := ct_offn hc21 sa26 (by omega)
  have fr29 := frP_tr (P := fun z => z < u ∨ (u + 1 ≤ z ∧ z < u + 61) ∨ u + 81 ≤ z) fr25 sa26 (fun z (hz : z < u ∨ (u + 1 ≤ z ∧ z < u + 61) ∨ u + 81 ≤ z) => by omega)
  refine v_aload_n dX6_save_16 rfl ?_
  refine fX6_10 (v := .ref (u + 1)) rfl dX6_save_17 fa26 rfl ?_
  refine fX6_81 (v := .ref (u + 1 + 1)) rfl dX6_save_20 (ck0 hc27) rfl ?_
  refine fX6_257 (v := .int (nI (C 0 0))) rfl dX6_save_23 (ck1 hc27) rfl ?_
  refine v_iret dX6_save_26 rfl ?_ (Nat.le_of_ble_eq_true rfl) (Nat.le_of_ble_eq_true rfl)
  exact ⟨rfl, rfl, hc28, fa26, fr29⟩
set_option maxRecDepth 20000 in
set_option maxHeartbeats 4000000 in
theorem t_X6_restore {l : Launch} {G : vG} {h : AH} {n : Nat} {u sv : Nat} {rs dt : Int32} {C S : Ct} {T : Hs} (hj : h u = some (jc u sv rs dt)) (hsv : sv ≤ 1) (hc : ct G h (u + 1) C) (hsn : ct G h (u + 61) S) (hh : ht G h (u + 81) T) : Mt l G mX6_restore [.ref u] (n) h 0 0 (fun r n2 h2 => r = some (.int (if sv = 0 then -1015 else nI (S 0 0))) ∧ n2 = n ∧ ct G h2 (u + 1) (if sv = 0 then C else S) ∧ ht G h2 (u + 81) (if sv = 0 then T else (0, T.2.1, T.2.2)) ∧ frP (fun z => z < u + 1 ∨ (u + 21 ≤ z ∧ z < u + 81) ∨ u + 243 ≤ z) h h2) := by
  refine Mt.of (by decide) (Nat.le_of_ble_eq_true rfl) rfl ?_
  refine v_ls (ls2 := [some (.ref u)]) rfl ?_
  refine v_aload_n dX6_restore_0 rfl ?_
  refine fX6_46 (v := .int (nI sv)) rfl dX6_restore_1 hj rfl ?_
  refine n_if_ne (tgt := 11) (x := sv) dX6_restore_4 (by decide) (by omega) (fun c21 => ?_) (fun c21 => ?_)
  · refine v_aload_n dX6_restore_11 rfl ?_
    refine fX6_10 (v := .ref (u + 1)) rfl dX6_restore_12 hj rfl ?_
    refine v_aload_n dX6_restore_15 rfl ?_
    refine fX6_22 (v := .ref (u + 61)) rfl dX6_restore_16 hj rfl ?_
    refine v_callV (st := []) dX6_restore_19 (t_X1_take hc hsn (by omega)) wX6_57 (ck0 hc) rfl rfl ⟨Nat.le_of_ble_eq_true rfl, Nat.le_of_ble_eq_true rfl⟩ (Nat.le_of_ble_eq_true rfl) ⟨Nat.le_refl _, Nat.le_refl _⟩ (fun r n2 h2 hq => ?_)
    obtain ⟨rfl, rfl, hc22, sa23⟩ := hq
    refine v_st (st2 := []) rfl ?_
    have fa24 := (sa23 (u) (by omega)).trans hj
    have hc25 := ct_offn hsn sa23 (by omega)
    have hh26 := ht_offn hh sa23 (by omega)
    have fr27 := frP_tr (P := fun z => z < u + 1 ∨ (u + 21 ≤ z ∧ z < u + 81) ∨ u + 243 ≤ z) frP_rf sa23 (fun z (hz : z < u + 1 ∨ (u + 21 ≤ z ∧ z < u + 81) ∨ u + 243 ≤ z) => by omega)
    refine v_aload_n dX6_restore_22 rfl ?_
    refine fX6_28 (v := .ref (u + 81)) rfl dX6_restore_23 fa24 rfl ?_
    refine v_callV (st := []) dX6_restore_26 (t_X3_forgetAll hh26.1) wX6_287 hh26.1.1 rfl rfl ⟨Nat.le_of_ble_eq_true rfl, Nat.le_of_ble_eq_true rfl⟩ (Nat.le_of_ble_eq_true rfl) ⟨Nat.le_refl _, Nat.le_refl _⟩ (fun r n2 h2 hq => ?_)
    obtain ⟨rfl, rfl, hh28, sa29⟩ := hq
    have hh28x : ht G _ (u + 81) (0, T.2.1, T.2.2) := ⟨hh28, Nat.zero_le _, hh26.2.2⟩
    refine v_st (st2 := []) rfl ?_
    have fa30 := (sa29 (u) (by omega)).trans fa24
    have hc31 := ct_offn hc22 sa29 (by omega)
    have hc32 := ct_offn hc25 sa29 (by omega)
    have fr33 := frP_tr (P := fun z => z < u + 1 ∨ (u + 21 ≤ z ∧ z < u + 81) ∨ u + 243 ≤ z) fr27 sa29 (fun z (hz : z < u + 1 ∨ (u + 21 ≤ z ∧ z < u + 81) ∨ u + 243 ≤ z) => by omega)
    refine v_aload_n dX6_restore_29 rfl ?_
    refine fX6_10 (v := .ref (u + 1)) rfl dX6_restore_30 fa30 rfl ?_
    refine fX6_81 (v := .ref (u + 1 + 1)) rfl dX6_restore_33 (ck0 hc31) rfl ?_
    refine fX6_257 (v := .int (nI (S 0 0))) rfl dX6_restore_36 (ck1 hc31) rfl ?_
    refine v_iret dX6_restore_39 rfl ?_ (Nat.le_of_ble_eq_true rfl) (Nat.le_of_ble_eq_true rfl)
    exact ⟨by rw [if_neg (by omega)], rfl, by rw [if_neg (by omega)]; exact hc31, by rw [if_neg (by omega)]; exact hh28x, fr33⟩
  · refine v_sipush (v := (-1015)) dX6_restore_7 (by decide) ?_
    refine v_iret dX6_restore_10 rfl ?_ (Nat.le_of_ble_eq_true rfl) (Nat.le_of_ble_eq_true rfl)
    exact ⟨by rw [if_pos c21], rfl, by rw [if_pos c21]; exact hc, by rw [if_pos c21]; exact hh, frP_rf⟩
set_option maxRecDepth 20000 in
set_option maxHeartbeats 4000000 in
theorem t_X6_forecast {l : Launch} {G : vG} {h : AH} {n : Nat} {u sv b : Nat} {rs dt : Int32} {C Y : Ct} (hj : h u = some (jc u sv rs dt)) (hc : ct G h (u + 1) C) (htr : ct G h (u + 41) Y) (hK : bdk b C) (hb2 : b + 40000 ≤ 2 ^ 28) (hI : Iv C) : Mt l G mX6_forecast [.ref u] (n) h 0 0 (fun r n2 h2 => r = some (.int (nI (sm (fcast (C 0 2) C 2) 6) - nI (sm (C 2) 6))) ∧ n2 = n ∧ ct G h2 (u + 41) (fcast (C 0 2) C) ∧ h2 u = some (jc u sv rs dt) ∧ frP (fun z => z < u + 41 ∨ u + 61 ≤ z) h h2) := by
  refine Mt.of (by decide) (Nat.le_of_ble_eq_true rfl) rfl ?_
  refine v_ls (ls2 := [some (.ref u), none]) rfl ?_
  have hB := hK.bd (by omega)
  obtain ⟨hF, hJ, hn, hs1, hc99, hs4, hs7, hs8, hs15, hbk9, hs9⟩ := hI.1
  have b02 := hB 0 2
  refine v_aload_n dX6_forecast_0 rfl ?_
  refine fX6_19 (v := .ref (u + 41)) rfl dX6_forecast_1 hj rfl ?_
  refine v_aload_n dX6_forecast_4 rfl ?_
  refine fX6_10 (v := .ref (u + 1)) rfl dX6_forecast_5 hj rfl ?_
  refine v_callV (st := []) dX6_forecast_8 (t_X1_take htr hc (by omega)) wX6_57 (ck0 htr) rfl rfl ⟨Nat.le_of_ble_eq_true rfl, Nat.le_of_ble_eq_true rfl⟩ (Nat.le_of_ble_eq_true rfl) ⟨Nat.le_refl _, Nat.le_refl _⟩ (fun r n2 h2 hq => ?_)
  obtain ⟨rfl, rfl, hc21, sa22⟩ := hq
  refine v_st (st2 := []) rfl ?_
  have fa23 := (sa22 (u) (by omega)).trans hj
  have hc24 := ct_offn hc sa22 (by omega)
  have fr25 := frP_tr (P := fun z => z < u + 41 ∨ u + 61 ≤ z) frP_rf sa22 (fun z (hz : z < u + 41 ∨ u + 61 ≤ z) => by omega)
  refine v_aload_n dX6_forecast_11 rfl ?_
  refine fX6_10 (v := .ref (u + 1)) rfl dX6_forecast_12 fa23 rfl ?_
  refine fX6_107 (v := .ref (u + 1 + 13)) rfl dX6_forecast_15 (ck0 hc24) rfl ?_
  refine fX6_187 (v := .int (nI (C 0 2))) rfl dX6_forecast_18 (ck13 hc24) rfl ?_
  have b26 := hK 0 2
  refine v_istore_n dX6_forecast_21 rfl (by decide) ?_
  refine v_ls (ls2 := [some (.ref u), some (.int (nI (C 0 2)))]) rfl ?_
  refine loopWH (fun w => [some (.ref u), some (.int (nI w))]) (fcI G u sv rs dt C b h) (C 0 2) rfl ⟨fa23, hc24, fr25, Nat.le_refl _, C, hc21, hI, rfl, hK.up (by omega), rfl⟩ (fun w h1 hp ihw => ?_)
  clear hj hc
  obtain ⟨hj, hc, fr1, hwC, X, hx, hX, hXw, hXK, hXf⟩ := hp
  generalize hb9 : b + 3000 * (C 0 2 - w) = b9 at hXK
  clear hc99 hs1 hs7 hs8 hbk9
  obtain ⟨xF, xJ, xn, hs1, hc99, xs4, hs7, hs8, xs15, hbk9, xs9⟩ := hX.1
  have hXB := hXK.bd (by omega)
  refine v_iload_n dX6_forecast_22 rfl ?_
  refine n_if_le (tgt := 40) (x := w) dX6_forecast_23 (by decide) (by omega) (fun c27 => ?_) (fun c27 => ?_)
  · refine v_aload_n dX6_forecast_40 rfl ?_
    refine fX6_19 (v := .ref (u + 41)) rfl dX6_forecast_41 hj rfl ?_
    refine fX6_81 (v := .ref (u + 41 + 1)) rfl dX6_forecast_44 (ck0 hx) rfl ?_
    refine fX6_95 (v := .ref (u + 41 + 3)) rfl dX6_forecast_47 (ck1 hx) rfl ?_
    refine v_callS (st := []) dX6_forecast_50 (t_X6_sum6 (g := X 2) (ck3 hx) (hXB 2)) wX6_210 rfl ⟨Nat.le_of_ble_eq_true rfl, Nat.le_of_ble_eq_true rfl⟩ (Nat.le_of_ble_eq_true rfl) ⟨Nat.le_refl _, Nat.le_refl _⟩ (fun r n2 h2 hq => ?_)
    obtain ⟨rfl, rfl, rfl⟩ := hq
    refine v_st (st2 := [.int (nI (sm (X 2) 6))]) rfl ?_
    refine v_aload_n dX6_forecast_53 rfl ?_
    refine fX6_10 (v := .ref (u + 1)) rfl dX6_forecast_54 hj rfl ?_
    refine fX6_81 (v := .ref (u + 1 + 1)) rfl dX6_forecast_57 (ck0 hc) rfl ?_
    refine fX6_95 (v := .ref (u + 1 + 3)) rfl dX6_forecast_60 (ck1 hc) rfl ?_
    refine v_callS (st := [.int (nI (sm (X 2) 6))]) dX6_forecast_63 (t_X6_sum6 (g := C 2) (ck3 hc) (hB 2)) wX6_210 rfl ⟨Nat.le_of_ble_eq_true rfl, Nat.le_of_ble_eq_true rfl⟩ (Nat.le_of_ble_eq_true rfl) ⟨Nat.le_refl _, Nat.le_refl _⟩ (fun r n2 h2 hq => ?_)
    obtain ⟨rfl, rfl, rfl⟩ := hq
    refine v_st (st2 := [.int (nI (sm (C 2) 6)), .int (nI (sm (X 2) 6))]) rfl ?_
    refine v_isub dX6_forecast_66 ?_
    refine v_iret dX6_forecast_67 rfl ?_ (Nat.le_of_ble_eq_true rfl) (Nat.le_of_ble_eq_true rfl)
    have hw0 : w = 0 := by omega
    subst hw0
    have hXF : X = fcast (C 0 2) C := hXf
    exact ⟨by rw [← hXF], rfl, hXF ▸ hx, hj, fr1⟩
  · obtain ⟨bq1, bq2, bq3, bq4⟩ := hbk9 0 (by omega)
    refine v_aload_n dX6_forecast_26 rfl ?_
    refine fX6_19 (v := .ref (u + 41)) rfl dX6_forecast_27 hj rfl ?_
    refine v_callV (st := []) dX6_forecast_30 (t_X1_carryFirstOut hx hXK (by omega) (by omega) (by omega) (by omega) (by omega) (by omega) hc99 (hs7 _) (hs1 _) (hs8 _)) wX6_207 (ck0 hx) rfl rfl ⟨Nat.le_of_ble_eq_true rfl, Nat.le_of_ble_eq_true rfl⟩ (Nat.le_of_ble_eq_true rfl) ⟨Nat.le_refl _, Nat.le_refl _⟩ (fun r n2 h2 hq => ?_)
    obtain ⟨rfl, rfl, hc9, ho9⟩ := hq
    replace hc9 := ct_cong hc9 ceqv_crG
    refine v_st (st2 := [.int (nI (crR X))]) rfl ?_
    obtain ⟨C28, hC28⟩ : ∃ C9 : Ct, C9 = crG X := ⟨_, rfl⟩
    rw [← hC28] at hc9
    have hc28 := hc9
    have sa28 := ho9
    clear hc9 ho9
    have hK28 : bdk (b9 + 3000) C28 := by rw [hC28]; exact bdk_crG hXK (by omega) (hs7 _) (hs1 _)
    have hD28 := hK28.bd (by omega)
    have fa29 := (sa28 (u) (by omega)).trans hj
    have hc30 := ct_offn hc sa28 (by omega)
    have fr31 := frP_tr (P := fun z => z < u + 41 ∨ u + 61 ≤ z) fr1 sa28 (fun z (hz : z < u + 41 ∨ u + 61 ≤ z) => by omega)
    refine v_pop dX6_forecast_33 rfl ?_
    obtain ⟨w2, rfl⟩ : ∃ w2, w = w2 + 1 := ⟨w - 1, by omega⟩
    refine n_idec (x := w2) dX6_forecast_34 (by decide) rfl rfl (by decide) ?_
    refine v_ls (ls2 := [some (.ref u), some (.int (nI w2))]) rfl ?_
    refine v_goto (tgt := 22) dX6_forecast_37 (by decide) ?_
    exact ihw w2 _ rfl ⟨fa29, hc30, fr31, by omega, crG X, hC28 ▸ hc28, Iv_crG hX (by omega), by rw [crG_2]; omega, (hC28 ▸ hK28 : bdk (b9 + 3000) (crG X)).up (by omega), hXf⟩
