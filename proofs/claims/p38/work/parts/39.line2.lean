theorem loopG {l : Launch} {G : vG} {M : vM} {rc rs : Nat} {Fz : vFin} {pc : Nat} {ls : List (Option Value)} {st : List Value} {n : Nat} {h : AH} {cells slots : Nat} (Ls : Nat → List (Option Value)) (Inv : Nat → Nat → AH → Prop) {N : Nat} (kc ks c0 s0 i0 : Nat) (h0 : i0 ≤ N) (he : ls = Ls i0) (hp : Inv i0 n h) (hc : cells ≤ c0 + i0 * kc) (hs0 : slots ≤ s0 + i0 * ks) (hs : ∀ (i n1 : Nat) (h1 : AH), i ≤ N → Inv i n1 h1 → (i < N → ∀ (n2 : Nat) (h2 : AH), Inv (i + 1) n2 h2 → V l G M rc rs Fz pc (Ls (i + 1)) st n2 h2 (c0 + (i + 1) * kc) (s0 + (i + 1) * ks)) → V l G M rc rs Fz pc (Ls i) st n1 h1 (c0 + i * kc) (s0 + i * ks)) : V l G M rc rs Fz pc ls st n h cells slots := by
  rw [he]
  refine v_widen hc hs0 ?_
  exact loopN (P := fun i => ∀ (n1 : Nat) (h1 : AH), Inv i n1 h1 → V l G M rc rs Fz pc (Ls i) st n1 h1 (c0 + i * kc) (s0 + i * ks)) (fun i hi ih n1 h1 hp => hs i n1 h1 hi hp (fun hlt n2 h2 hp2 => ih hlt n2 h2 hp2)) i0 h0 n h hp
def capM (m : Nat) : Prop := m = 16 ∨ m = 34 ∨ m = 70 ∨ m = 142
theorem capM_le {m : Nat} (h : capM m) : m ≤ 142 := by
  unfold capM at h
  omega
theorem cap_ok {m q : Nat} (h : capM m) (h1 : q ≤ 142) (h2 : q ≤ m + 12) : capM (sb_cap q m) ∧ sb_cap q m ≤ 142 := by
  unfold capM at *
  unfold sb_cap
  split
  · omega
  · rw [if_neg (by omega)]
    omega
theorem sbP_km {G : vG} {h : AH} {s a m k mb : Nat} {t : Nat → Nat} (hb : sbP G h s a m t k mb) : k ≤ m := by
  obtain ⟨_, f, _, _, _, h9⟩ := hb
  exact h9
/-- the text after a sign is appended; what append answers -/
def apL (T : Ln) (x : Int32) : Ln := if x < nI 32 then T else if x ≤ nI 126 then (if T.2 < 60 then wc T x.toNatClampNeg else T) else T
def apR (T : Ln) (x : Int32) : Int32 := if x < nI 32 then -1012 else if x ≤ nI 126 then (if T.2 < 60 then nI (T.2 + 1) else -1013) else -1012
def tsg (T : Ln) : Prop := T.2 ≤ 60 ∧ ∀ i, i < T.2 → 32 ≤ T.1 i ∧ T.1 i ≤ 126
theorem clamp_in {x : Int32} (h1 : ¬ x < nI 32) (h2 : x ≤ nI 126) : 32 ≤ x.toNatClampNeg ∧ x.toNatClampNeg ≤ 126 := by
  obtain ⟨k, a, b, rfl⟩ := rg_of (a := 32) (b := 126) h1 h2 (by decide) (by decide)
  rw [nI_clamp (by omega)]
  exact ⟨a, b⟩
theorem tsg_ap {T : Ln} {x : Int32} (h : tsg T) : tsg (apL T x) := by
  unfold apL
  split
  · exact h
  · split
    · split
      · rename_i h1 h2 h3
        refine ⟨by show T.2 + 1 ≤ 60; omega, fun i hi => ?_⟩
        have hi : i < T.2 + 1 := hi
        show 32 ≤ (if i < T.2 then T.1 i else _) ∧ (if i < T.2 then T.1 i else _) ≤ 126
        by_cases q : i < T.2
        · rw [if_pos q]; exact h.2 i q
        · rw [if_neg q]; exact clamp_in h1 h2
      · exact h
    · exact h
def qChr (L : Ln) (x : Int32) : Int32 := if ixb x L.2 = true then nI (L.1 x.toNatClampNeg) else -1011
set_option maxRecDepth 20000 in
set_option maxHeartbeats 4000000 in
theorem t_X6_write {l : Launch} {G : vG} {h : AH} {n : Nat} {u sv a mm mb : Nat} {rs dt : Int32} {S : Ln} {c x : Nat} (hj : h u = some (jc u sv rs dt)) (hb : sbP G h (u + 248) a mm S.1 S.2 mb) (hcp : capM mm) (ha : a = u + 249 ∨ u + 250 ≤ a) (han : a < n) (hun : u + 250 ≤ n) (hc : c < 256) (hx : x < 2 ^ 28) (hk : S.2 + 12 ≤ 142) : Mt l G mX6_write [.ref u, .int (nI c), .int (nI x)] (n) h 2 284 (fun r n2 h2 => r = none ∧ ∃ a2 m2 mb2 : Nat, n ≤ n2 ∧ sbP G h2 (u + 248) a2 m2 (wi (wc S c) x).1 (wi (wc S c) x).2 mb2 ∧ capM m2 ∧ (a2 = a ∨ n ≤ a2) ∧ a2 < n2 ∧ frP (fun z => z ≠ u + 248 ∧ z ≠ a ∧ z < n) h h2) := by
  refine Mt.of (by decide) (Nat.le_of_ble_eq_true rfl) rfl ?_
  refine v_ls (ls2 := [some (.ref u), some (.int (nI c)), some (.int (nI x))]) rfl ?_
  have km0 := sbP_km hb
  refine v_aload_n dX6_write_0 rfl ?_
  refine fX6_42 (v := .ref (u + 248)) rfl dX6_write_1 hj rfl ?_
  refine v_iload_n dX6_write_4 rfl ?_
  refine v_callV (st := []) dX6_write_5 (t_J4_append_cf468 (c := c) hb (by omega) (capM_le hcp) (by omega) (cap_ok hcp (by omega) (by omega)).2) wX6_224 hb.1 rfl rfl ⟨Nat.le_of_ble_eq_true rfl, Nat.le_of_ble_eq_true rfl⟩ (Nat.le_of_ble_eq_true rfl) ⟨by omega, by omega⟩ (fun r n2 h2 hq => ?_)
  obtain ⟨rfl, a21, hg21, hb21, fr21⟩ := hq
  unfold sbG at hg21
  refine v_st (st2 := [.ref (u + 248)]) rfl ?_
  have hc21 : sbP G _ (u + 248) a21 _ (wc S c).1 (wc S c).2 _ := hb21
  obtain ⟨S21, hS21⟩ : ∃ Sx : Ln, Sx = wc S c := ⟨_, rfl⟩
  rw [← hS21] at hc21
  have hk21 : S21.2 = S.2 + 1 := by rw [hS21]; rfl
  have cp21 := (cap_ok (q := S.2 + 1) hcp (by omega) (by omega)).1
  have km21 := sbP_km hc21
  obtain ⟨M21, hM21⟩ : ∃ Mx : Nat, Mx = sb_cap (S.2 + 1) mm := ⟨_, rfl⟩
  rw [← hM21] at hc21 cp21 km21
  have fa22 := (fr21 (u) (by omega)).trans hj
  have fr23 : frP (fun z => z ≠ u + 248 ∧ z ≠ a ∧ z < n) _ _ := fun z (hz : z ≠ u + 248 ∧ z ≠ a ∧ z < n) => fr21 z (by omega)
  refine v_pop dX6_write_8 rfl ?_
  refine v_aload_n dX6_write_9 rfl ?_
  refine fX6_42 (v := .ref (u + 248)) rfl dX6_write_10 fa22 rfl ?_
  refine v_iload_n dX6_write_13 rfl ?_
  have dg24 := (sb_dg_in x).2
  refine v_callV (st := []) dX6_write_14 (t_J4_append_bf812 (x := x) hc21 (by omega) (capM_le cp21) (by omega) (cap_ok cp21 (by omega) (by omega)).2) wX6_246 hc21.1 rfl rfl ⟨Nat.le_of_ble_eq_true rfl, Nat.le_of_ble_eq_true rfl⟩ (Nat.le_of_ble_eq_true rfl) ⟨by omega, by omega⟩ (fun r n2 h2 hq => ?_)
  obtain ⟨rfl, a24, hg24, hb24, fr24⟩ := hq
  unfold sbG at hg24
  refine v_st (st2 := [.ref (u + 248)]) rfl ?_
  have hc24 : sbP G _ (u + 248) a24 _ (wi S21 x).1 (wi S21 x).2 _ := hb24
  obtain ⟨S24, hS24⟩ : ∃ Sx : Ln, Sx = wi S21 x := ⟨_, rfl⟩
  rw [← hS24] at hc24
  have hk24 : S24.2 = S21.2 + sb_dg x := by rw [hS24]; rfl
  have cp24 := (cap_ok (q := S21.2 + sb_dg x) cp21 (by omega) (by omega)).1
  have km24 := sbP_km hc24
  obtain ⟨M24, hM24⟩ : ∃ Mx : Nat, Mx = sb_cap (S21.2 + sb_dg x) M21 := ⟨_, rfl⟩
  rw [← hM24] at hc24 cp24 km24
  have fa25 := (fr24 (u) (by omega)).trans fa22
  have fr26 : frP (fun z => z ≠ u + 248 ∧ z ≠ a ∧ z < n) _ _ := fun z (hz : z ≠ u + 248 ∧ z ≠ a ∧ z < n) => (fr24 z (by omega)).trans (fr23 z hz)
  refine v_pop dX6_write_17 rfl ?_
  refine v_vret dX6_write_18 rfl ?_ (Nat.le_of_ble_eq_true rfl) (Nat.le_of_ble_eq_true rfl)
  subst hS24
  subst hS21
  exact ⟨rfl, _, _, _, by omega, hc24, cp24, by omega, by omega, fr26⟩
set_option maxRecDepth 20000 in
set_option maxHeartbeats 4000000 in
theorem t_X6_tell {l : Launch} {G : vG} {h : AH} {n : Nat} {u sv a mm mb : Nat} {rs dt : Int32} {S : Ln} {b : Nat} {C : Ct} {f : Int32} (hj : h u = some (jc u sv rs dt)) (hb : sbP G h (u + 248) a mm S.1 S.2 mb) (hcp : capM mm) (ha : a = u + 249 ∨ u + 250 ≤ a) (han : a < n) (hun : u + 250 ≤ n) (hc : ct G h (u + 1) C) (hK : bdk b C) (hb2 : b + 5000 ≤ 2 ^ 28) (hi : iv C) (hk : S.2 ≤ 142) : Mt l G mX6_tell [.ref u, .int f] (n) h 16 2272 (fun r n2 h2 => r = some (.int (if ixb f (C 0 0) = true then nI (tellL C f.toNatClampNeg (S.1, 0)).2 else -1011)) ∧ ∃ a2 m2 mb2 : Nat, n ≤ n2 ∧ sbP G h2 (u + 248) a2 m2 (if ixb f (C 0 0) = true then tellL C f.toNatClampNeg (S.1, 0) else S).1 (if ixb f (C 0 0) = true then tellL C f.toNatClampNeg (S.1, 0) else S).2 mb2 ∧ capM m2 ∧ (a2 = a ∨ n ≤ a2) ∧ a2 < n2 ∧ h2 u = some (jc u sv rs dt) ∧ frP (fun z => z ≠ u + 248 ∧ z ≠ a ∧ z < n) h h2) := by
  refine Mt.of (by decide) (Nat.le_of_ble_eq_true rfl) rfl ?_
  refine v_ls (ls2 := [some (.ref u), some (.int f), none]) rfl ?_
  have hB := hK.bd (by omega)
  obtain ⟨hF, hJ, hn, hs1, hc99, hs4, hs7, hs8, hs15, hbk9, hs9⟩ := hi
  have b00 := hB 0 0
  have b01 := hB 0 1
  have b02 := hB 0 2
  have km0 := sbP_km hb
  refine v_aload_n dX6_tell_0 rfl ?_
  refine fX6_10 (v := .ref (u + 1)) rfl dX6_tell_1 hj rfl ?_
  refine fX6_81 (v := .ref (u + 1 + 1)) rfl dX6_tell_4 (ck0 hc) rfl ?_
  refine v_iload_n dX6_tell_7 rfl ?_
  refine v_callV (st := []) dX6_tell_8 (t_X2_has (x := f) hc hB) wX6_85 (ck1 hc) rfl rfl ⟨Nat.le_of_ble_eq_true rfl, Nat.le_of_ble_eq_true rfl⟩ (Nat.le_of_ble_eq_true rfl) ⟨Nat.le_of_ble_eq_true rfl, Nat.le_of_ble_eq_true rfl⟩ (fun r n2 h2 hq => ?_)
  obtain ⟨rfl, hn9, hh9⟩ := hq; replace hn9 := hn9.symm; subst hn9; replace hh9 := hh9.symm; subst hh9
  refine v_st (st2 := [.int (nI (bI (ixb f (C 0 0) = true)))]) rfl ?_
  refine n_ifb_ne (tgt := 18) (p := ixb f (C 0 0) = true) dX6_tell_11 (by decide) (fun c21 => ?_) (fun c21 => ?_)
  · obtain ⟨F, hF1, rfl⟩ := ix_of c21 (by omega)
    have eF : (nI F).toNatClampNeg = F := nI_clamp (by omega)
    have t1 := hs1 F
    have t2 := hc99 F
    have t4 := hs4 F
    have t3 := hB 3 F
    refine v_aload_n dX6_tell_18 rfl ?_
    refine fX6_42 (v := .ref (u + 248)) rfl dX6_tell_19 hj rfl ?_
    refine v_iconst (v := nI 0) dX6_tell_22 (by decide) ?_
    refine v_callV (st := []) dX6_tell_23 (t_J4_setLength_d00df hb (capM_le hcp)) wX6_232 hb.1 rfl rfl ⟨Nat.le_of_ble_eq_true rfl, Nat.le_of_ble_eq_true rfl⟩ (Nat.le_of_ble_eq_true rfl) ⟨by omega, by omega⟩ (fun r n2 h2 hq => ?_)
    obtain ⟨rfl, hn9, mb22, hb22, fr22⟩ := hq; replace hn9 := hn9.symm; subst hn9
    refine v_st (st2 := []) rfl ?_
    obtain ⟨S22, hS22⟩ : ∃ Sx : Ln, Sx = (S.1, 0) := ⟨_, rfl⟩
    have hc22 : sbP G _ (u + 248) (a) _ ((S.1, 0) : Ln).1 ((S.1, 0) : Ln).2 _ := hb22
    rw [← hS22] at hc22
    have hk22 : S22.2 = 0 := by rw [hS22]
    have km22 := sbP_km hc22
    have fa23 := (fr22 (u) (by omega)).trans hj
    have hc24 : ct G _ (u + 1) C := fun i hi => (fr22 (u + 1 + i) (by omega)).trans (hc i hi)
    have fr25 : frP (fun z => z ≠ u + 248 ∧ z ≠ a ∧ z < n) _ _ := fun z (hz : z ≠ u + 248 ∧ z ≠ a ∧ z < n) => fr22 z (by omega)
    refine v_aload_n dX6_tell_26 rfl ?_
    refine fX6_42 (v := .ref (u + 248)) rfl dX6_tell_27 fa23 rfl ?_
    refine v_iload_n dX6_tell_30 rfl ?_
    have dg26 := (dg1 (show F < 10 by omega))
    refine v_callV (st := []) dX6_tell_31 (t_J4_append_bf812 (x := F) hc22 (by omega) (capM_le hcp) (by omega) (cap_ok hcp (by omega) (by omega)).2) wX6_246 hc22.1 rfl rfl ⟨Nat.le_of_ble_eq_true rfl, Nat.le_of_ble_eq_true rfl⟩ (Nat.le_of_ble_eq_true rfl) ⟨by omega, by omega⟩ (fun r n2 h2 hq => ?_)
    obtain ⟨rfl, a26, hg26, hb26, fr26⟩ := hq
    unfold sbG at hg26
    refine v_st (st2 := [.ref (u + 248)]) rfl ?_
    have hc26 : sbP G _ (u + 248) a26 _ (wi S22 F).1 (wi S22 F).2 _ := hb26
    obtain ⟨S26, hS26⟩ : ∃ Sx : Ln, Sx = wi S22 F := ⟨_, rfl⟩
    rw [← hS26] at hc26
    have hk26 : S26.2 = S22.2 + sb_dg F := by rw [hS26]; rfl
    have cp26 := (cap_ok (q := S22.2 + sb_dg F) hcp (by omega) (by omega)).1
    have km26 := sbP_km hc26
    obtain ⟨M26, hM26⟩ : ∃ Mx : Nat, Mx = sb_cap (S22.2 + sb_dg F) mm := ⟨_, rfl⟩
    rw [← hM26] at hc26 cp26 km26
    have fa27 := (fr26 (u) (by omega)).trans fa23
    have hc28 : ct G _ (u + 1) C := fun i hi => (fr26 (u + 1 + i) (by omega)).trans (hc24 i hi)
    have fr29 : frP (fun z => z ≠ u + 248 ∧ z ≠ a ∧ z < n) _ _ := fun z (hz : z ≠ u + 248 ∧ z ≠ a ∧ z < n) => (fr26 z (by omega)).trans (fr25 z hz)
    refine v_pop dX6_tell_34 rfl ?_
    refine v_aload_n dX6_tell_35 rfl ?_
    refine v_bipush (v := nI 115) dX6_tell_36 (by decide) ?_
    refine v_aload_n dX6_tell_38 rfl ?_
    refine fX6_10 (v := .ref (u + 1)) rfl dX6_tell_39 fa27 rfl ?_
    refine fX6_81 (v := .ref (u + 1 + 1)) rfl dX6_tell_42 (ck0 hc28) rfl ?_
    refine fX6_91 (v := .ref (u + 1 + 2)) rfl dX6_tell_45 (ck1 hc28) rfl ?_
    refine v_iload_n dX6_tell_48 rfl ?_
    refine n_ialdv (f := C 1) (j := F) (y := C 1 F) dX6_tell_49 (ck2 hc28) (by omega) (by decide) rfl ?_
    have b30 := hK 1 F
    have dg31 := (dg1 (show C 1 F < 10 by omega))
    refine v_callV (st := []) dX6_tell_50 (t_X6_write (c := 115) (x := C 1 F) fa27 hc26 cp26 (by omega) (by omega) (by omega) (by omega) (by omega) (by omega)) wX6_249 fa27 rfl rfl ⟨Nat.le_of_ble_eq_true rfl, Nat.le_of_ble_eq_true rfl⟩ (Nat.le_of_ble_eq_true rfl) ⟨by omega, by omega⟩ (fun r n2 h2 hq => ?_)
    obtain ⟨rfl, a31, m31, mb31, hn31, hb31, cp31, hg31, hl31, fr31⟩ := hq
    refine v_st (st2 := []) rfl ?_
    obtain ⟨S31, hS31⟩ : ∃ Sx : Ln, Sx = wi (wc S26 115) (C 1 F) := ⟨_, rfl⟩
    rw [← hS31] at hb31
    have hk31 : S31.2 = S26.2 + 1 + sb_dg (C 1 F) := by rw [hS31]; rfl
    have km31 := sbP_km hb31
    have fa32 := (fr31 (u) (by omega)).trans fa27
    have hc33 : ct G _ (u + 1) C := fun i hi => (fr31 (u + 1 + i) (by omega)).trans (hc28 i hi)
    have fr34 : frP (fun z => z ≠ u + 248 ∧ z ≠ a ∧ z < n) _ _ := fun z (hz : z ≠ u + 248 ∧ z ≠ a ∧ z < n) => (fr31 z (by omega)).trans (fr29 z hz)
    refine v_aload_n dX6_tell_53 rfl ?_
    refine v_bipush (v := nI 36) dX6_tell_54 (by decide) ?_
    refine v_aload_n dX6_tell_56 rfl ?_
    refine fX6_10 (v := .ref (u + 1)) rfl dX6_tell_57 fa32 rfl ?_
    refine fX6_81 (v := .ref (u + 1 + 1)) rfl dX6_tell_60 (ck0 hc33) rfl ?_
    refine fX6_95 (v := .ref (u + 1 + 3)) rfl dX6_tell_63 (ck1 hc33) rfl ?_
    refine v_iload_n dX6_tell_66 rfl ?_
    refine n_ialdv (f := C 2) (j := F) (y := C 2 F) dX6_tell_67 (ck3 hc33) (by omega) (by decide) rfl ?_
    have b35 := hK 2 F
    have dg36 := (dg2 (show C 2 F < 100 by omega))
    refine v_callV (st := []) dX6_tell_68 (t_X6_write (c := 36) (x := C 2 F) fa32 hb31 cp31 (by omega) (by omega) (by omega) (by omega) (by omega) (by omega)) wX6_249 fa32 rfl rfl ⟨Nat.le_of_ble_eq_true rfl, Nat.le_of_ble_eq_true rfl⟩ (Nat.le_of_ble_eq_true rfl) ⟨by omega, by omega⟩ (fun r n2 h2 hq => ?_)
    obtain ⟨rfl, a36, m36, mb36, hn36, hb36, cp36, hg36, hl36, fr36⟩ := hq
    refine v_st (st2 := []) rfl ?_
    obtain ⟨S36, hS36⟩ : ∃ Sx : Ln, Sx = wi (wc S31 36) (C 2 F) := ⟨_, rfl⟩
    rw [← hS36] at hb36
    have hk36 : S36.2 = S31.2 + 1 + sb_dg (C 2 F) := by rw [hS36]; rfl
    have km36 := sbP_km hb36
    have fa37 := (fr36 (u) (by omega)).trans fa32
    have hc38 : ct G _ (u + 1) C := fun i hi => (fr36 (u + 1 + i) (by omega)).trans (hc33 i hi)
    have fr39 : frP (fun z => z ≠ u + 248 ∧ z ≠ a ∧ z < n) _ _ := fun z (hz : z ≠ u + 248 ∧ z ≠ a ∧ z < n) => (fr36 z (by omega)).trans (fr34 z hz)
    refine v_aload_n dX6_tell_71 rfl ?_
    refine fX6_10 (v := .ref (u + 1)) rfl dX6_tell_72 fa37 rfl ?_
    refine fX6_81 (v := .ref (u + 1 + 1)) rfl dX6_tell_75 (ck0 hc38) rfl ?_
    refine fX6_98 (v := .ref (u + 1 + 4)) rfl dX6_tell_78 (ck1 hc38) rfl ?_
    refine v_iload_n dX6_tell_81 rfl ?_
    refine n_ialdv (f := C 3) (j := F) (y := C 3 F) dX6_tell_82 (ck4 hc38) (by omega) (by decide) rfl ?_
    have b40 := hK 3 F
    refine n_if_le (tgt := 104) (x := C 3 F) dX6_tell_83 (by decide) (by omega) (fun c41 => ?_) (fun c41 => ?_)
    · refine v_iconst (v := nI 0) dX6_tell_104 (by decide) ?_
      refine v_istore_n dX6_tell_105 rfl (by decide) ?_
      refine v_ls (ls2 := [some (.ref u), some (.int (nI F)), some (.int (nI 0))]) rfl ?_
      refine loopG (fun q => [some (.ref u), some (.int (nI F)), some (.int (nI q))]) (fun q n1 h1 => h1 u = some (jc u sv rs dt) ∧ ct G h1 (u + 1) C ∧ n ≤ n1 ∧ frP (fun z => z ≠ u + 248 ∧ z ≠ a ∧ z < n) h h1 ∧ ∃ a1 m1 mb1 : Nat, sbP G h1 (u + 248) a1 m1 (plS q S36).1 (plS q S36).2 mb1 ∧ capM m1 ∧ (a1 = a ∨ n ≤ a1) ∧ a1 < n1) (N := C 4 F) 1 142 12 1704 0 (by omega) rfl ⟨fa37, hc38, by omega, fr39, _, _, _, hb36, cp36, by omega, by omega⟩ (by omega) (by omega) (fun q n1 h1 hq hp9 ihq => ?_)
      clear hj hc hb
      obtain ⟨hj, hc, hn1, fr0, a1, m1, mb1, hb, hcp1, hga, hla⟩ := hp9
      have hpk := plS_2 q S36
      obtain ⟨S9, hS9⟩ : ∃ Sx : Ln, Sx = plS q S36 := ⟨_, rfl⟩
      rw [← hS9] at hb hpk
      have km9 := sbP_km hb
      refine v_iload_n dX6_tell_106 rfl ?_
      refine v_aload_n dX6_tell_107 rfl ?_
      refine fX6_10 (v := .ref (u + 1)) rfl dX6_tell_108 hj rfl ?_
      refine fX6_81 (v := .ref (u + 1 + 1)) rfl dX6_tell_111 (ck0 hc) rfl ?_
      refine fX6_101 (v := .ref (u + 1 + 5)) rfl dX6_tell_114 (ck1 hc) rfl ?_
      refine v_iload_n dX6_tell_117 rfl ?_
      refine n_ialdv (f := C 4) (j := F) (y := C 4 F) dX6_tell_118 (ck5 hc) (by omega) (by decide) rfl ?_
      have b42 := hK 4 F
      refine n_icmp_ge (tgt := 138) (x := q) (y := C 4 F) dX6_tell_119 (by decide) (by omega) (by omega) (fun c43 => ?_) (fun c43 => ?_)
      · refine v_aload_n dX6_tell_138 rfl ?_
        refine fX6_42 (v := .ref (u + 248)) rfl dX6_tell_139 hj rfl ?_
        refine v_callV (st := []) dX6_tell_142 (t_SBlen hb) wX6_221 hb.1 rfl rfl ⟨Nat.le_of_ble_eq_true rfl, Nat.le_of_ble_eq_true rfl⟩ (Nat.le_of_ble_eq_true rfl) ⟨by omega, by omega⟩ (fun r n2 h2 hq => ?_)
        obtain ⟨rfl, hn9, hh9⟩ := hq; replace hn9 := hn9.symm; subst hn9; replace hh9 := hh9.symm; subst hh9
        refine v_st (st2 := [.int (nI S9.2)]) rfl ?_
        refine v_iret dX6_tell_145 rfl ?_ (by omega) (by omega)
        have eq4 : q = C 4 F := by omega
        subst eq4
        subst hS9
        subst hS36
        subst hS31
        subst hS26
        subst hS22
        have e9 : tellL C F (S.1, 0) = _ := congrArg (plS (C 4 F)) (if_neg (by omega))
        exact ⟨by rw [if_pos (by assumption), eF, e9], _, _, _, by omega, by rw [if_pos (by assumption), eF, e9]; exact hb, hcp1, by omega, by omega, hj, fr0⟩
      · refine v_aload_n dX6_tell_122 rfl ?_
        refine fX6_42 (v := .ref (u + 248)) rfl dX6_tell_123 hj rfl ?_
        refine v_bipush (v := nI 43) dX6_tell_126 (by decide) ?_
        refine v_callV (st := []) dX6_tell_128 (t_J4_append_cf468 (c := 43) hb (by omega) (capM_le hcp1) (by omega) (cap_ok hcp1 (by omega) (by omega)).2) wX6_224 hb.1 rfl rfl ⟨Nat.le_of_ble_eq_true rfl, Nat.le_of_ble_eq_true rfl⟩ (Nat.le_of_ble_eq_true rfl) ⟨by omega, by omega⟩ (fun r n2 h2 hq => ?_)
        obtain ⟨rfl, a44, hg44, hb44, fr44⟩ := hq
        unfold sbG at hg44
        refine v_st (st2 := [.ref (u + 248)]) rfl ?_
        have hc44 : sbP G _ (u + 248) a44 _ (wc S9 43).1 (wc S9 43).2 _ := hb44
        obtain ⟨S44, hS44⟩ : ∃ Sx : Ln, Sx = wc S9 43 := ⟨_, rfl⟩
        rw [← hS44] at hc44
        have hk44 : S44.2 = S9.2 + 1 := by rw [hS44]; rfl
        have cp44 := (cap_ok (q := S9.2 + 1) hcp1 (by omega) (by omega)).1
        have km44 := sbP_km hc44
        obtain ⟨M44, hM44⟩ : ∃ Mx : Nat, Mx = sb_cap (S9.2 + 1) m1 := ⟨_, rfl⟩
        rw [← hM44] at hc44 cp44 km44
        have fa45 := (fr44 (u) (by omega)).trans hj
        have hc46 : ct G _ (u + 1) C := fun i hi => (fr44 (u + 1 + i) (by omega)).trans (hc i hi)
        have fr47 : frP (fun z => z ≠ u + 248 ∧ z ≠ a ∧ z < n) _ _ := fun z (hz : z ≠ u + 248 ∧ z ≠ a ∧ z < n) => (fr44 z (by omega)).trans (fr0 z hz)
        refine v_pop dX6_tell_131 rfl ?_
        refine n_iinc (k := 1) (x := q) dX6_tell_132 (by decide) rfl rfl (by decide) ?_
        refine v_ls (ls2 := [some (.ref u), some (.int (nI F)), some (.int (nI (q + 1)))]) rfl ?_
        refine v_goto (tgt := 106) dX6_tell_135 (by decide) ?_
        subst hS44
        subst hS9
        refine v_widen (k1 := 12 + (q + 1) * 1) (k2 := 1704 + (q + 1) * 142) (by omega) (by omega) ?_
        exact ihq (by omega) _ _ ⟨fa45, hc46, by omega, fr47, _, _, _, hc44, cp44, by omega, by omega⟩
    · refine v_aload_n dX6_tell_86 rfl ?_
      refine v_bipush (v := nI 126) dX6_tell_87 (by decide) ?_
      refine v_aload_n dX6_tell_89 rfl ?_
      refine fX6_10 (v := .ref (u + 1)) rfl dX6_tell_90 fa37 rfl ?_
      refine fX6_81 (v := .ref (u + 1 + 1)) rfl dX6_tell_93 (ck0 hc38) rfl ?_
      refine fX6_98 (v := .ref (u + 1 + 4)) rfl dX6_tell_96 (ck1 hc38) rfl ?_
      refine v_iload_n dX6_tell_99 rfl ?_
      refine n_ialdv (f := C 3) (j := F) (y := C 3 F) dX6_tell_100 (ck4 hc38) (by omega) (by decide) rfl ?_
      have dg48 := (sb_dg_in (C 3 F)).2
      refine v_callV (st := []) dX6_tell_101 (t_X6_write (c := 126) (x := C 3 F) fa37 hb36 cp36 (by omega) (by omega) (by omega) (by omega) (by omega) (by omega)) wX6_249 fa37 rfl rfl ⟨Nat.le_of_ble_eq_true rfl, Nat.le_of_ble_eq_true rfl⟩ (Nat.le_of_ble_eq_true rfl) ⟨by omega, by omega⟩ (fun r n2 h2 hq => ?_)
      obtain ⟨rfl, a48, m48, mb48, hn48, hb48, cp48, hg48, hl48, fr48⟩ := hq
      refine v_st (st2 := []) rfl ?_
      obtain ⟨S48, hS48⟩ : ∃ Sx : Ln, Sx = wi (wc S36 126) (C 3 F) := ⟨_, rfl⟩
      rw [← hS48] at hb48
      have hk48 : S48.2 = S36.2 + 1 + sb_dg (C 3 F) := by rw [hS48]; rfl
      have km48 := sbP_km hb48
      have fa49 := (fr48 (u) (by omega)).trans fa37
      have hc50 : ct G _ (u + 1) C := fun i hi => (fr48 (u + 1 + i) (by omega)).trans (hc38 i hi)
      have fr51 : frP (fun z => z ≠ u + 248 ∧ z ≠ a ∧ z < n) _ _ := fun z (hz : z ≠ u + 248 ∧ z ≠ a ∧ z < n) => (fr48 z (by omega)).trans (fr39 z hz)
      refine v_iconst (v := nI 0) dX6_tell_104 (by decide) ?_
      refine v_istore_n dX6_tell_105 rfl (by decide) ?_
      refine v_ls (ls2 := [some (.ref u), some (.int (nI F)), some (.int (nI 0))]) rfl ?_
      refine loopG (fun q => [some (.ref u), some (.int (nI F)), some (.int (nI q))]) (fun q n1 h1 => h1 u = some (jc u sv rs dt) ∧ ct G h1 (u + 1) C ∧ n ≤ n1 ∧ frP (fun z => z ≠ u + 248 ∧ z ≠ a ∧ z < n) h h1 ∧ ∃ a1 m1 mb1 : Nat, sbP G h1 (u + 248) a1 m1 (plS q S48).1 (plS q S48).2 mb1 ∧ capM m1 ∧ (a1 = a ∨ n ≤ a1) ∧ a1 < n1) (N := C 4 F) 1 142 12 1704 0 (by omega) rfl ⟨fa49, hc50, by omega, fr51, _, _, _, hb48, cp48, by omega, by omega⟩ (by omega) (by omega) (fun q n1 h1 hq hp9 ihq => ?_)
      clear hj hc hb
      obtain ⟨hj, hc, hn1, fr0, a1, m1, mb1, hb, hcp1, hga, hla⟩ := hp9
      have hpk := plS_2 q S48
      obtain ⟨S9, hS9⟩ : ∃ Sx : Ln, Sx = plS q S48 := ⟨_, rfl⟩
      rw [← hS9] at hb hpk
      have km9 := sbP_km hb
      refine v_iload_n dX6_tell_106 rfl ?_
      refine v_aload_n dX6_tell_107 rfl ?_
      refine fX6_10 (v := .ref (u + 1)) rfl dX6_tell_108 hj rfl ?_
      refine fX6_81 (v := .ref (u + 1 + 1)) rfl dX6_tell_111 (ck0 hc) rfl ?_
      refine fX6_101 (v := .ref (u + 1 + 5)) rfl dX6_tell_114 (ck1 hc) rfl ?_
      refine v_iload_n dX6_tell_117 rfl ?_
      refine n_ialdv (f := C 4) (j := F) (y := C 4 F) dX6_tell_118 (ck5 hc) (by omega) (by decide) rfl ?_
      have b52 := hK 4 F
      refine n_icmp_ge (tgt := 138) (x := q) (y := C 4 F) dX6_tell_119 (by decide) (by omega) (by omega) (fun c53 => ?_) (fun c53 => ?_)
      · refine v_aload_n dX6_tell_138 rfl ?_
        refine fX6_42 (v := .ref (u + 248)) rfl dX6_tell_139 hj rfl ?_
        refine v_callV (st := []) dX6_tell_142 (t_SBlen hb) wX6_221 hb.1 rfl rfl ⟨Nat.le_of_ble_eq_true rfl, Nat.le_of_ble_eq_true rfl⟩ (Nat.le_of_ble_eq_true rfl) ⟨by omega, by omega⟩ (fun r n2 h2 hq => ?_)
        obtain ⟨rfl, hn9, hh9⟩ := hq; replace hn9 := hn9.symm; subst hn9; replace hh9 := hh9.symm; subst hh9
        refine v_st (st2 := [.int (nI S9.2)]) rfl ?_
        refine v_iret dX6_tell_145 rfl ?_ (by omega) (by omega)
        have eq4 : q = C 4 F := by omega
        subst eq4
        subst hS9
        subst hS48
        subst hS36
        subst hS31
        subst hS26
        subst hS22
        have e9 : tellL C F (S.1, 0) = _ := congrArg (plS (C 4 F)) (if_pos (by omega))
        exact ⟨by rw [if_pos (by assumption), eF, e9], _, _, _, by omega, by rw [if_pos (by assumption), eF, e9]; exact hb, hcp1, by omega, by omega, hj, fr0⟩
      · refine v_aload_n dX6_tell_122 rfl ?_
        refine fX6_42 (v := .ref (u + 248)) rfl dX6_tell_123 hj rfl ?_
        refine v_bipush (v := nI 43) dX6_tell_126 (by decide) ?_
        refine v_callV (st := []) dX6_tell_128 (t_J4_append_cf468 (c := 43) hb (by omega) (capM_le hcp1) (by omega) (cap_ok hcp1 (by omega) (by omega)).2) wX6_224 hb.1 rfl rfl ⟨Nat.le_of_ble_eq_true rfl, Nat.le_of_ble_eq_true rfl⟩ (Nat.le_of_ble_eq_true rfl) ⟨by omega, by omega⟩ (fun r n2 h2 hq => ?_)
        obtain ⟨rfl, a54, hg54, hb54, fr54⟩ := hq
        unfold sbG at hg54
        refine v_st (st2 := [.ref (u + 248)]) rfl ?_
        have hc54 : sbP G _ (u + 248) a54 _ (wc S9 43).1 (wc S9 43).2 _ := hb54
        obtain ⟨S54, hS54⟩ : ∃ Sx : Ln, Sx = wc S9 43 := ⟨_, rfl⟩
        rw [← hS54] at hc54
        have hk54 : S54.2 = S9.2 + 1 := by rw [hS54]; rfl
        have cp54 := (cap_ok (q := S9.2 + 1) hcp1 (by omega) (by omega)).1
        have km54 := sbP_km hc54
        obtain ⟨M54, hM54⟩ : ∃ Mx : Nat, Mx = sb_cap (S9.2 + 1) m1 := ⟨_, rfl⟩
        rw [← hM54] at hc54 cp54 km54
        have fa55 := (fr54 (u) (by omega)).trans hj
        have hc56 : ct G _ (u + 1) C := fun i hi => (fr54 (u + 1 + i) (by omega)).trans (hc i hi)
        have fr57 : frP (fun z => z ≠ u + 248 ∧ z ≠ a ∧ z < n) _ _ := fun z (hz : z ≠ u + 248 ∧ z ≠ a ∧ z < n) => (fr54 z (by omega)).trans (fr0 z hz)
        refine v_pop dX6_tell_131 rfl ?_
        refine n_iinc (k := 1) (x := q) dX6_tell_132 (by decide) rfl rfl (by decide) ?_
        refine v_ls (ls2 := [some (.ref u), some (.int (nI F)), some (.int (nI (q + 1)))]) rfl ?_
        refine v_goto (tgt := 106) dX6_tell_135 (by decide) ?_
        subst hS54
        subst hS9
        refine v_widen (k1 := 12 + (q + 1) * 1) (k2 := 1704 + (q + 1) * 142) (by omega) (by omega) ?_
        exact ihq (by omega) _ _ ⟨fa55, hc56, by omega, fr57, _, _, _, hc54, cp54, by omega, by omega⟩
  · refine v_sipush (v := (-1011)) dX6_tell_14 (by decide) ?_
    refine v_iret dX6_tell_17 rfl ?_ (by omega) (by omega)
    exact ⟨by rw [if_neg (by assumption)], a, mm, mb, by omega, by rw [if_neg (by assumption)]; exact hb, hcp, Or.inl rfl, han, hj, frP_rf⟩
set_option maxRecDepth 20000 in
set_option maxHeartbeats 4000000 in
theorem t_X6_tellBookings {l : Launch} {G : vG} {h : AH} {n : Nat} {u sv a mm mb : Nat} {rs dt : Int32} {S : Ln} {b : Nat} {C : Ct} (hj : h u = some (jc u sv rs dt)) (hb : sbP G h (u + 248) a mm S.1 S.2 mb) (hcp : capM mm) (ha : a = u + 249 ∨ u + 250 ≤ a) (han : a < n) (hun : u + 250 ≤ n) (hc : ct G h (u + 1) C) (hK : bdk b C) (hb2 : b + 5000 ≤ 2 ^ 28) (hi : iv C) : Mt l G mX6_tellBookings [.ref u] (n) h 82 11644 (fun r n2 h2 => r = some (.int (nI (bkL C (S.1, 0) (C 0 2)).2)) ∧ ∃ a2 m2 mb2 : Nat, n ≤ n2 ∧ sbP G h2 (u + 248) a2 m2 (bkL C (S.1, 0) (C 0 2)).1 (bkL C (S.1, 0) (C 0 2)).2 mb2 ∧ capM m2 ∧ (a2 = a ∨ n ≤ a2) ∧ a2 < n2 ∧ h2 u = some (jc u sv rs dt) ∧ frP (fun z => z ≠ u + 248 ∧ z ≠ a ∧ z < n) h h2) := by
  refine Mt.of (by decide) (Nat.le_of_ble_eq_true rfl) rfl ?_
  refine v_ls (ls2 := [some (.ref u), none]) rfl ?_
  have hB := hK.bd (by omega)
  obtain ⟨hF, hJ, hn, hs1, hc99, hs4, hs7, hs8, hs15, hbk9, hs9⟩ := hi
  have b00 := hB 0 0
  have b01 := hB 0 1
  have b02 := hB 0 2
  have km0 := sbP_km hb
  refine v_aload_n dX6_tellBookings_0 rfl ?_
  refine fX6_42 (v := .ref (u + 248)) rfl dX6_tellBookings_1 hj rfl ?_
  refine v_iconst (v := nI 0) dX6_tellBookings_4 (by decide) ?_
  refine v_callV (st := []) dX6_tellBookings_5 (t_J4_setLength_d00df hb (capM_le hcp)) wX6_232 hb.1 rfl rfl ⟨Nat.le_of_ble_eq_true rfl, Nat.le_of_ble_eq_true rfl⟩ (Nat.le_of_ble_eq_true rfl) ⟨by omega, by omega⟩ (fun r n2 h2 hq => ?_)
  obtain ⟨rfl, hn9, mb21, hb21, fr21⟩ := hq; replace hn9 := hn9.symm; subst hn9
  refine v_st (st2 := []) rfl ?_
  obtain ⟨S21, hS21⟩ : ∃ Sx : Ln, Sx = (S.1, 0) := ⟨_, rfl⟩
  have hc21 : sbP G _ (u + 248) (a) _ ((S.1, 0) : Ln).1 ((S.1, 0) : Ln).2 _ := hb21
  rw [← hS21] at hc21
  have hk21 : S21.2 = 0 := by rw [hS21]
  have km21 := sbP_km hc21
  have fa22 := (fr21 (u) (by omega)).trans hj
  have hc23 : ct G _ (u + 1) C := fun i hi => (fr21 (u + 1 + i) (by omega)).trans (hc i hi)
  have fr24 : frP (fun z => z ≠ u + 248 ∧ z ≠ a ∧ z < n) _ _ := fun z (hz : z ≠ u + 248 ∧ z ≠ a ∧ z < n) => fr21 z (by omega)
  refine v_iconst (v := nI 0) dX6_tellBookings_8 (by decide) ?_
  refine v_istore_n dX6_tellBookings_9 rfl (by decide) ?_
  refine v_ls (ls2 := [some (.ref u), some (.int (nI 0))]) rfl ?_
  subst hS21
  refine loopG (fun i => [some (.ref u), some (.int (nI i))]) (fun i n1 h1 => h1 u = some (jc u sv rs dt) ∧ ct G h1 (u + 1) C ∧ n ≤ n1 ∧ frP (fun z => z ≠ u + 248 ∧ z ≠ a ∧ z < n) h h1 ∧ (bkL C (S.1, 0) i).2 ≤ 10 * i ∧ ∃ a1 m1 mb1 : Nat, sbP G h1 (u + 248) a1 m1 (bkL C (S.1, 0) i).1 (bkL C (S.1, 0) i).2 mb1 ∧ capM m1 ∧ (a1 = a ∨ n ≤ a1) ∧ a1 < n1) (N := C 0 2) 8 1136 1 142 0 (by omega) rfl ⟨fa22, hc23, by omega, fr24, Nat.le_refl _, _, _, _, hc21, hcp, by omega, by omega⟩ (by omega) (by omega) (fun i n1 h1 hi9 hp9 ihi => ?_)
  clear hj hc hb
  obtain ⟨hj, hc, hn1, fr0, hk9, a1, m1, mb1, hb, hcp1, hga, hla⟩ := hp9
  obtain ⟨S9, hS9⟩ : ∃ Sx : Ln, Sx = bkL C (S.1, 0) i := ⟨_, rfl⟩
  rw [← hS9] at hb hk9
  have km9 := sbP_km hb
  refine v_iload_n dX6_tellBookings_10 rfl ?_
  refine v_aload_n dX6_tellBookings_11 rfl ?_
  refine fX6_10 (v := .ref (u + 1)) rfl dX6_tellBookings_12 hj rfl ?_
  refine fX6_107 (v := .ref (u + 1 + 13)) rfl dX6_tellBookings_15 (ck0 hc) rfl ?_
  refine fX6_187 (v := .int (nI (C 0 2))) rfl dX6_tellBookings_18 (ck13 hc) rfl ?_
  have b25 := hK 0 2
  refine n_icmp_ge (tgt := 118) (x := i) (y := C 0 2) dX6_tellBookings_21 (by decide) (by omega) (by omega) (fun c26 => ?_) (fun c26 => ?_)
  · refine v_aload_n dX6_tellBookings_118 rfl ?_
    refine fX6_42 (v := .ref (u + 248)) rfl dX6_tellBookings_119 hj rfl ?_
    refine v_callV (st := []) dX6_tellBookings_122 (t_SBlen hb) wX6_221 hb.1 rfl rfl ⟨Nat.le_of_ble_eq_true rfl, Nat.le_of_ble_eq_true rfl⟩ (Nat.le_of_ble_eq_true rfl) ⟨by omega, by omega⟩ (fun r n2 h2 hq => ?_)
    obtain ⟨rfl, hn9, hh9⟩ := hq; replace hn9 := hn9.symm; subst hn9; replace hh9 := hh9.symm; subst hh9
    refine v_st (st2 := [.int (nI S9.2)]) rfl ?_
    refine v_iret dX6_tellBookings_125 rfl ?_ (by omega) (by omega)
    have ei : i = C 0 2 := by omega
    subst ei
    subst hS9
    exact ⟨rfl, _, _, _, by omega, hb, hcp1, by omega, by omega, hj, fr0⟩
  · obtain ⟨bq1, bq2, bq3, bq4⟩ := hbk9 i (by omega)
    refine v_iload_n dX6_tellBookings_24 rfl ?_
    refine n_if_le (tgt := 38) (x := i) dX6_tellBookings_25 (by decide) (by omega) (fun c27 => ?_) (fun c27 => ?_)
    · refine v_aload_n dX6_tellBookings_38 rfl ?_
      refine fX6_42 (v := .ref (u + 248)) rfl dX6_tellBookings_39 hj rfl ?_
      refine v_aload_n dX6_tellBookings_42 rfl ?_
      refine fX6_10 (v := .ref (u + 1)) rfl dX6_tellBookings_43 hj rfl ?_
      refine fX6_107 (v := .ref (u + 1 + 13)) rfl dX6_tellBookings_46 (ck0 hc) rfl ?_
      refine fX6_111 (v := .ref (u + 1 + 14)) rfl dX6_tellBookings_49 (ck13 hc) rfl ?_
      refine v_iload_n dX6_tellBookings_52 rfl ?_
      refine n_ialdv (f := C 11) (j := i) (y := C 11 i) dX6_tellBookings_53 (ck14 hc) (by omega) (by decide) rfl ?_
      have b28 := hK 11 i
      have dg29 := (dg1 (show C 11 i < 10 by omega))
      refine v_callV (st := []) dX6_tellBookings_54 (t_J4_append_bf812 (x := C 11 i) hb (by omega) (capM_le hcp1) (by omega) (cap_ok hcp1 (by omega) (by omega)).2) wX6_246 hb.1 rfl rfl ⟨Nat.le_of_ble_eq_true rfl, Nat.le_of_ble_eq_true rfl⟩ (Nat.le_of_ble_eq_true rfl) ⟨by omega, by omega⟩ (fun r n2 h2 hq => ?_)
      obtain ⟨rfl, a29, hg29, hb29, fr29⟩ := hq
      unfold sbG at hg29
      refine v_st (st2 := [.ref (u + 248)]) rfl ?_
      have hc29 : sbP G _ (u + 248) a29 _ (wi S9 (C 11 i)).1 (wi S9 (C 11 i)).2 _ := hb29
      obtain ⟨S29, hS29⟩ : ∃ Sx : Ln, Sx = wi S9 (C 11 i) := ⟨_, rfl⟩
      rw [← hS29] at hc29
      have hk29 : S29.2 = S9.2 + sb_dg (C 11 i) := by rw [hS29]; rfl
      have cp29 := (cap_ok (q := S9.2 + sb_dg (C 11 i)) hcp1 (by omega) (by omega)).1
      have km29 := sbP_km hc29
      obtain ⟨M29, hM29⟩ : ∃ Mx : Nat, Mx = sb_cap (S9.2 + sb_dg (C 11 i)) m1 := ⟨_, rfl⟩
      rw [← hM29] at hc29 cp29 km29
      have fa30 := (fr29 (u) (by omega)).trans hj
      have hc31 : ct G _ (u + 1) C := fun i hi => (fr29 (u + 1 + i) (by omega)).trans (hc i hi)
      have fr32 : frP (fun z => z ≠ u + 248 ∧ z ≠ a ∧ z < n) _ _ := fun z (hz : z ≠ u + 248 ∧ z ≠ a ∧ z < n) => (fr29 z (by omega)).trans (fr0 z hz)
      refine v_pop dX6_tellBookings_57 rfl ?_
      refine v_aload_n dX6_tellBookings_58 rfl ?_
      refine v_bipush (v := nI 58) dX6_tellBookings_59 (by decide) ?_
      refine v_aload_n dX6_tellBookings_61 rfl ?_
      refine fX6_10 (v := .ref (u + 1)) rfl dX6_tellBookings_62 fa30 rfl ?_
      refine fX6_107 (v := .ref (u + 1 + 13)) rfl dX6_tellBookings_65 (ck0 hc31) rfl ?_
      refine fX6_151 (v := .ref (u + 1 + 15)) rfl dX6_tellBookings_68 (ck13 hc31) rfl ?_
      refine v_iload_n dX6_tellBookings_71 rfl ?_
      refine n_ialdv (f := C 12) (j := i) (y := C 12 i) dX6_tellBookings_72 (ck15 hc31) (by omega) (by decide) rfl ?_
      have b33 := hK 12 i
      have dg34 := (dg2 (show C 12 i < 100 by omega))
      refine v_callV (st := []) dX6_tellBookings_73 (t_X6_write (c := 58) (x := C 12 i) fa30 hc29 cp29 (by omega) (by omega) (by omega) (by omega) (by omega) (by omega)) wX6_249 fa30 rfl rfl ⟨Nat.le_of_ble_eq_true rfl, Nat.le_of_ble_eq_true rfl⟩ (Nat.le_of_ble_eq_true rfl) ⟨by omega, by omega⟩ (fun r n2 h2 hq => ?_)
      obtain ⟨rfl, a34, m34, mb34, hn34, hb34, cp34, hg34, hl34, fr34⟩ := hq
      refine v_st (st2 := []) rfl ?_
      obtain ⟨S34, hS34⟩ : ∃ Sx : Ln, Sx = wi (wc S29 58) (C 12 i) := ⟨_, rfl⟩
      rw [← hS34] at hb34
      have hk34 : S34.2 = S29.2 + 1 + sb_dg (C 12 i) := by rw [hS34]; rfl
      have km34 := sbP_km hb34
      have fa35 := (fr34 (u) (by omega)).trans fa30
      have hc36 : ct G _ (u + 1) C := fun i hi => (fr34 (u + 1 + i) (by omega)).trans (hc31 i hi)
      have fr37 : frP (fun z => z ≠ u + 248 ∧ z ≠ a ∧ z < n) _ _ := fun z (hz : z ≠ u + 248 ∧ z ≠ a ∧ z < n) => (fr34 z (by omega)).trans (fr32 z hz)
      refine v_aload_n dX6_tellBookings_76 rfl ?_
      refine v_bipush (v := nI 64) dX6_tellBookings_77 (by decide) ?_
      refine v_aload_n dX6_tellBookings_79 rfl ?_
      refine fX6_10 (v := .ref (u + 1)) rfl dX6_tellBookings_80 fa35 rfl ?_
      refine fX6_107 (v := .ref (u + 1 + 13)) rfl dX6_tellBookings_83 (ck0 hc36) rfl ?_
      refine fX6_170 (v := .ref (u + 1 + 16)) rfl dX6_tellBookings_86 (ck13 hc36) rfl ?_
      refine v_iload_n dX6_tellBookings_89 rfl ?_
      refine n_ialdv (f := C 13) (j := i) (y := C 13 i) dX6_tellBookings_90 (ck16 hc36) (by omega) (by decide) rfl ?_
      have b38 := hK 13 i
      have dg39 := (dg1 (show C 13 i < 10 by omega))
      refine v_callV (st := []) dX6_tellBookings_91 (t_X6_write (c := 64) (x := C 13 i) fa35 hb34 cp34 (by omega) (by omega) (by omega) (by omega) (by omega) (by omega)) wX6_249 fa35 rfl rfl ⟨Nat.le_of_ble_eq_true rfl, Nat.le_of_ble_eq_true rfl⟩ (Nat.le_of_ble_eq_true rfl) ⟨by omega, by omega⟩ (fun r n2 h2 hq => ?_)
      obtain ⟨rfl, a39, m39, mb39, hn39, hb39, cp39, hg39, hl39, fr39⟩ := hq
      refine v_st (st2 := []) rfl ?_
      obtain ⟨S39, hS39⟩ : ∃ Sx : Ln, Sx = wi (wc S34 64) (C 13 i) := ⟨_, rfl⟩
      rw [← hS39] at hb39
      have hk39 : S39.2 = S34.2 + 1 + sb_dg (C 13 i) := by rw [hS39]; rfl
      have km39 := sbP_km hb39
      have fa40 := (fr39 (u) (by omega)).trans fa35
      have hc41 : ct G _ (u + 1) C := fun i hi => (fr39 (u + 1 + i) (by omega)).trans (hc36 i hi)
      have fr42 : frP (fun z => z ≠ u + 248 ∧ z ≠ a ∧ z < n) _ _ := fun z (hz : z ≠ u + 248 ∧ z ≠ a ∧ z < n) => (fr39 z (by omega)).trans (fr37 z hz)
      refine v_aload_n dX6_tellBookings_94 rfl ?_
      refine v_bipush (v := nI 61) dX6_tellBookings_95 (by decide) ?_
      refine v_aload_n dX6_tellBookings_97 rfl ?_
      refine fX6_10 (v := .ref (u + 1)) rfl dX6_tellBookings_98 fa40 rfl ?_
      refine fX6_107 (v := .ref (u + 1 + 13)) rfl dX6_tellBookings_101 (ck0 hc41) rfl ?_
      refine fX6_190 (v := .ref (u + 1 + 17)) rfl dX6_tellBookings_104 (ck13 hc41) rfl ?_
      refine v_iload_n dX6_tellBookings_107 rfl ?_
      refine n_ialdv (f := C 14) (j := i) (y := C 14 i) dX6_tellBookings_108 (ck17 hc41) (by omega) (by decide) rfl ?_
      have b43 := hK 14 i
      have dg44 := (dg2 (show C 14 i < 100 by omega))
      refine v_callV (st := []) dX6_tellBookings_109 (t_X6_write (c := 61) (x := C 14 i) fa40 hb39 cp39 (by omega) (by omega) (by omega) (by omega) (by omega) (by omega)) wX6_249 fa40 rfl rfl ⟨Nat.le_of_ble_eq_true rfl, Nat.le_of_ble_eq_true rfl⟩ (Nat.le_of_ble_eq_true rfl) ⟨by omega, by omega⟩ (fun r n2 h2 hq => ?_)
      obtain ⟨rfl, a44, m44, mb44, hn44, hb44, cp44, hg44, hl44, fr44⟩ := hq
      refine v_st (st2 := []) rfl ?_
      obtain ⟨S44, hS44⟩ : ∃ Sx : Ln, Sx = wi (wc S39 61) (C 14 i) := ⟨_, rfl⟩
      rw [← hS44] at hb44
      have hk44 : S44.2 = S39.2 + 1 + sb_dg (C 14 i) := by rw [hS44]; rfl
      have km44 := sbP_km hb44
      have fa45 := (fr44 (u) (by omega)).trans fa40
      have hc46 : ct G _ (u + 1) C := fun i hi => (fr44 (u + 1 + i) (by omega)).trans (hc41 i hi)
      have fr47 : frP (fun z => z ≠ u + 248 ∧ z ≠ a ∧ z < n) _ _ := fun z (hz : z ≠ u + 248 ∧ z ≠ a ∧ z < n) => (fr44 z (by omega)).trans (fr42 z hz)
      refine n_iinc (k := 1) (x := i) dX6_tellBookings_112 (by decide) rfl rfl (by decide) ?_
      refine v_ls (ls2 := [some (.ref u), some (.int (nI (i + 1)))]) rfl ?_
      refine v_goto (tgt := 10) dX6_tellBookings_115 (by decide) ?_
      have e9 : bkL C (S.1, 0) (i + 1) = S44 := by rw [bkL, ← hS9, if_neg (by omega)]; rw [hS44]; rw [hS39]; rw [hS34]; rw [hS29]
      have hkf : S44.2 ≤ 10 * (i + 1) := by omega
      rw [← e9] at hkf hb44
      refine v_widen (k1 := 1 + (i + 1) * 8) (k2 := 142 + (i + 1) * 1136) (by omega) (by omega) ?_
      exact ihi (by omega) _ _ ⟨fa45, hc46, by omega, fr47, hkf, _, _, _, hb44, cp44, by omega, by omega⟩
    · refine v_aload_n dX6_tellBookings_28 rfl ?_
      refine fX6_42 (v := .ref (u + 248)) rfl dX6_tellBookings_29 hj rfl ?_
      refine v_bipush (v := nI 32) dX6_tellBookings_32 (by decide) ?_
      refine v_callV (st := []) dX6_tellBookings_34 (t_J4_append_cf468 (c := 32) hb (by omega) (capM_le hcp1) (by omega) (cap_ok hcp1 (by omega) (by omega)).2) wX6_224 hb.1 rfl rfl ⟨Nat.le_of_ble_eq_true rfl, Nat.le_of_ble_eq_true rfl⟩ (Nat.le_of_ble_eq_true rfl) ⟨by omega, by omega⟩ (fun r n2 h2 hq => ?_)
      obtain ⟨rfl, a48, hg48, hb48, fr48⟩ := hq
      unfold sbG at hg48
      refine v_st (st2 := [.ref (u + 248)]) rfl ?_
      have hc48 : sbP G _ (u + 248) a48 _ (wc S9 32).1 (wc S9 32).2 _ := hb48
      obtain ⟨S48, hS48⟩ : ∃ Sx : Ln, Sx = wc S9 32 := ⟨_, rfl⟩
      rw [← hS48] at hc48
      have hk48 : S48.2 = S9.2 + 1 := by rw [hS48]; rfl
      have cp48 := (cap_ok (q := S9.2 + 1) hcp1 (by omega) (by omega)).1
      have km48 := sbP_km hc48
      obtain ⟨M48, hM48⟩ : ∃ Mx : Nat, Mx = sb_cap (S9.2 + 1) m1 := ⟨_, rfl⟩
      rw [← hM48] at hc48 cp48 km48
      have fa49 := (fr48 (u) (by omega)).trans hj
      have hc50 : ct G _ (u + 1) C := fun i hi => (fr48 (u + 1 + i) (by omega)).trans (hc i hi)
      have fr51 : frP (fun z => z ≠ u + 248 ∧ z ≠ a ∧ z < n) _ _ := fun z (hz : z ≠ u + 248 ∧ z ≠ a ∧ z < n) => (fr48 z (by omega)).trans (fr0 z hz)
      refine v_pop dX6_tellBookings_37 rfl ?_
      refine v_aload_n dX6_tellBookings_38 rfl ?_
      refine fX6_42 (v := .ref (u + 248)) rfl dX6_tellBookings_39 fa49 rfl ?_
      refine v_aload_n dX6_tellBookings_42 rfl ?_
      refine fX6_10 (v := .ref (u + 1)) rfl dX6_tellBookings_43 fa49 rfl ?_
      refine fX6_107 (v := .ref (u + 1 + 13)) rfl dX6_tellBookings_46 (ck0 hc50) rfl ?_
      refine fX6_111 (v := .ref (u + 1 + 14)) rfl dX6_tellBookings_49 (ck13 hc50) rfl ?_
      refine v_iload_n dX6_tellBookings_52 rfl ?_
      refine n_ialdv (f := C 11) (j := i) (y := C 11 i) dX6_tellBookings_53 (ck14 hc50) (by omega) (by decide) rfl ?_
      have b52 := hK 11 i
      have dg53 := (dg1 (show C 11 i < 10 by omega))
      refine v_callV (st := []) dX6_tellBookings_54 (t_J4_append_bf812 (x := C 11 i) hc48 (by omega) (capM_le cp48) (by omega) (cap_ok cp48 (by omega) (by omega)).2) wX6_246 hc48.1 rfl rfl ⟨Nat.le_of_ble_eq_true rfl, Nat.le_of_ble_eq_true rfl⟩ (Nat.le_of_ble_eq_true rfl) ⟨by omega, by omega⟩ (fun r n2 h2 hq => ?_)
      obtain ⟨rfl, a53, hg53, hb53, fr53⟩ := hq
      unfold sbG at hg53
      refine v_st (st2 := [.ref (u + 248)]) rfl ?_
      have hc53 : sbP G _ (u + 248) a53 _ (wi S48 (C 11 i)).1 (wi S48 (C 11 i)).2 _ := hb53
      obtain ⟨S53, hS53⟩ : ∃ Sx : Ln, Sx = wi S48 (C 11 i) := ⟨_, rfl⟩
      rw [← hS53] at hc53
      have hk53 : S53.2 = S48.2 + sb_dg (C 11 i) := by rw [hS53]; rfl
      have cp53 := (cap_ok (q := S48.2 + sb_dg (C 11 i)) cp48 (by omega) (by omega)).1
      have km53 := sbP_km hc53
      obtain ⟨M53, hM53⟩ : ∃ Mx : Nat, Mx = sb_cap (S48.2 + sb_dg (C 11 i)) M48 := ⟨_, rfl⟩
      rw [← hM53] at hc53 cp53 km53
      have fa54 := (fr53 (u) (by omega)).trans fa49
      have hc55 : ct G _ (u + 1) C := fun i hi => (fr53 (u + 1 + i) (by omega)).trans (hc50 i hi)
      have fr56 : frP (fun z => z ≠ u + 248 ∧ z ≠ a ∧ z < n) _ _ := fun z (hz : z ≠ u + 248 ∧ z ≠ a ∧ z < n) => (fr53 z (by omega)).trans (fr51 z hz)
      refine v_pop dX6_tellBookings_57 rfl ?_
      refine v_aload_n dX6_tellBookings_58 rfl ?_
      refine v_bipush (v := nI 58) dX6_tellBookings_59 (by decide) ?_
      refine v_aload_n dX6_tellBookings_61 rfl ?_
      refine fX6_10 (v := .ref (u + 1)) rfl dX6_tellBookings_62 fa54 rfl ?_
      refine fX6_107 (v := .ref (u + 1 + 13)) rfl dX6_tellBookings_65 (ck0 hc55) rfl ?_
      refine fX6_151 (v := .ref (u + 1 + 15)) rfl dX6_tellBookings_68 (ck13 hc55) rfl ?_
      refine v_iload_n dX6_tellBookings_71 rfl ?_
      refine n_ialdv (f := C 12) (j := i) (y := C 12 i) dX6_tellBookings_72 (ck15 hc55) (by omega) (by decide) rfl ?_
      have b57 := hK 12 i
      have dg58 := (dg2 (show C 12 i < 100 by omega))
      refine v_callV (st := []) dX6_tellBookings_73 (t_X6_write (c := 58) (x := C 12 i) fa54 hc53 cp53 (by omega) (by omega) (by omega) (by omega) (by omega) (by omega)) wX6_249 fa54 rfl rfl ⟨Nat.le_of_ble_eq_true rfl, Nat.le_of_ble_eq_true rfl⟩ (Nat.le_of_ble_eq_true rfl) ⟨by omega, by omega⟩ (fun r n2 h2 hq => ?_)
      obtain ⟨rfl, a58, m58, mb58, hn58, hb58, cp58, hg58, hl58, fr58⟩ := hq
      refine v_st (st2 := []) rfl ?_
      obtain ⟨S58, hS58⟩ : ∃ Sx : Ln, Sx = wi (wc S53 58) (C 12 i) := ⟨_, rfl⟩
      rw [← hS58] at hb58
      have hk58 : S58.2 = S53.2 + 1 + sb_dg (C 12 i) := by rw [hS58]; rfl
      have km58 := sbP_km hb58
      have fa59 := (fr58 (u) (by omega)).trans fa54
      have hc60 : ct G _ (u + 1) C := fun i hi => (fr58 (u + 1 + i) (by omega)).trans (hc55 i hi)
      have fr61 : frP (fun z => z ≠ u + 248 ∧ z ≠ a ∧ z < n) _ _ := fun z (hz : z ≠ u + 248 ∧ z ≠ a ∧ z < n) => (fr58 z (by omega)).trans (fr56 z hz)
      refine v_aload_n dX6_tellBookings_76 rfl ?_
      refine v_bipush (v := nI 64) dX6_tellBookings_77 (by decide) ?_
      refine v_aload_n dX6_tellBookings_79 rfl ?_
      refine fX6_10 (v := .ref (u + 1)) rfl dX6_tellBookings_80 fa59 rfl ?_
      refine fX6_107 (v := .ref (u + 1 + 13)) rfl dX6_tellBookings_83 (ck0 hc60) rfl ?_
      refine fX6_170 (v := .ref (u + 1 + 16)) rfl dX6_tellBookings_86 (ck13 hc60) rfl ?_
      refine v_iload_n dX6_tellBookings_89 rfl ?_
      refine n_ialdv (f := C 13) (j := i) (y := C 13 i) dX6_tellBookings_90 (ck16 hc60) (by omega) (by decide) rfl ?_
      have b62 := hK 13 i
      have dg63 := (dg1 (show C 13 i < 10 by omega))
      refine v_callV (st := []) dX6_tellBookings_91 (t_X6_write (c := 64) (x := C 13 i) fa59 hb58 cp58 (by omega) (by omega) (by omega) (by omega) (by omega) (by omega)) wX6_249 fa59 rfl rfl ⟨Nat.le_of_ble_eq_true rfl, Nat.le_of_ble_eq_true rfl⟩ (Nat.le_of_ble_eq_true rfl) ⟨by omega, by omega⟩ (fun r n2 h2 hq => ?_)
      obtain ⟨rfl, a63, m63, mb63, hn63, hb63, cp63, hg63, hl63, fr63⟩ := hq
      refine v_st (st2 := []) rfl ?_
      obtain ⟨S63, hS63⟩ : ∃ Sx : Ln, Sx = wi (wc S58 64) (C 13 i) := ⟨_, rfl⟩
      rw [← hS63] at hb63
      have hk63 : S63.2 = S58.2 + 1 + sb_dg (C 13 i) := by rw [hS63]; rfl
      have km63 := sbP_km hb63
      have fa64 := (fr63 (u) (by omega)).trans fa59
      have hc65 : ct G _ (u + 1) C := fun i hi => (fr63 (u + 1 + i) (by omega)).trans (hc60 i hi)
      have fr66 : frP (fun z => z ≠ u + 248 ∧ z ≠ a ∧ z < n) _ _ := fun z (hz : z ≠ u + 248 ∧ z ≠ a ∧ z < n) => (fr63 z (by omega)).trans (fr61 z hz)
      refine v_aload_n dX6_tellBookings_94 rfl ?_
      refine v_bipush (v := nI 61) dX6_tellBookings_95 (by decide) ?_
      refine v_aload_n dX6_tellBookings_97 rfl ?_
      refine fX6_10 (v := .ref (u + 1)) rfl dX6_tellBookings_98 fa64 rfl ?_
      refine fX6_107 (v := .ref (u + 1 + 13)) rfl dX6_tellBookings_101 (ck0 hc65) rfl ?_
      refine fX6_190 (v := .ref (u + 1 + 17)) rfl dX6_tellBookings_104 (ck13 hc65) rfl ?_
      refine v_iload_n dX6_tellBookings_107 rfl ?_
      refine n_ialdv (f := C 14) (j := i) (y := C 14 i) dX6_tellBookings_108 (ck17 hc65) (by omega) (by decide) rfl ?_
      have b67 := hK 14 i
      have dg68 := (dg2 (show C 14 i < 100 by omega))
      refine v_callV (st := []) dX6_tellBookings_109 (t_X6_write (c := 61) (x := C 14 i) fa64 hb63 cp63 (by omega) (by omega) (by omega) (by omega) (by omega) (by omega)) wX6_249 fa64 rfl rfl ⟨Nat.le_of_ble_eq_true rfl, Nat.le_of_ble_eq_true rfl⟩ (Nat.le_of_ble_eq_true rfl) ⟨by omega, by omega⟩ (fun r n2 h2 hq => ?_)
      obtain ⟨rfl, a68, m68, mb68, hn68, hb68, cp68, hg68, hl68, fr68⟩ := hq
      refine v_st (st2 := []) rfl ?_
      obtain ⟨S68, hS68⟩ : ∃ Sx : Ln, Sx = wi (wc S63 61) (C 14 i) := ⟨_, rfl⟩
      rw [← hS68] at hb68
      have hk68 : S68.2 = S63.2 + 1 + sb_dg (C 14 i) := by rw [hS68]; rfl
      have km68 := sbP_km hb68
      have fa69 := (fr68 (u) (by omega)).trans fa64
      have hc70 : ct G _ (u + 1) C := fun i hi => (fr68 (u + 1 + i) (by omega)).trans (hc65 i hi)
      have fr71 : frP (fun z => z ≠ u + 248 ∧ z ≠ a ∧ z < n) _ _ := fun z (hz : z ≠ u + 248 ∧ z ≠ a ∧ z < n) => (fr68 z (by omega)).trans (fr66 z hz)
      refine n_iinc (k := 1) (x := i) dX6_tellBookings_112 (by decide) rfl rfl (by decide) ?_
      refine v_ls (ls2 := [some (.ref u), some (.int (nI (i + 1)))]) rfl ?_
      refine v_goto (tgt := 10) dX6_tellBookings_115 (by decide) ?_
      have e9 : bkL C (S.1, 0) (i + 1) = S68 := by rw [bkL, ← hS9, if_pos (by omega)]; rw [hS68]; rw [hS63]; rw [hS58]; rw [hS53]; rw [hS48]
      have hkf : S68.2 ≤ 10 * (i + 1) := by omega
      rw [← e9] at hkf hb68
      refine v_widen (k1 := 1 + (i + 1) * 8) (k2 := 142 + (i + 1) * 1136) (by omega) (by omega) ?_
      exact ihi (by omega) _ _ ⟨fa69, hc70, by omega, fr71, hkf, _, _, _, hb68, cp68, by omega, by omega⟩
set_option maxRecDepth 20000 in
set_option maxHeartbeats 4000000 in
theorem t_X6_character {l : Launch} {G : vG} {h : AH} {n : Nat} {u sv a mm mb : Nat} {rs dt : Int32} {S : Ln} {x : Int32} (hj : h u = some (jc u sv rs dt)) (hb : sbP G h (u + 248) a mm S.1 S.2 mb) (hcp : capM mm) (ha : a = u + 249 ∨ u + 250 ≤ a) (han : a < n) (hun : u + 250 ≤ n) (hch : ∀ i, i < S.2 → S.1 i < 256) : Mt l G mX6_character [.ref u, .int x] (n) h 0 0 (fun r n2 h2 => r = some (.int (qChr S x)) ∧ n2 = n ∧ h2 = h) := by
  refine Mt.of (by decide) (Nat.le_of_ble_eq_true rfl) rfl ?_
  refine v_ls (ls2 := [some (.ref u), some (.int x)]) rfl ?_
  have km0 := sbP_km hb
  have cl0 := capM_le hcp
  refine v_iload_n dX6_character_0 rfl ?_
  refine v_if_lt (tgt := 15) dX6_character_1 (by decide) (fun c21 => ?_) (fun c21 => ?_)
  · have cz : ¬ ixb x S.2 = true := fun z => by rw [ixb_iff] at z; unfold ix at z; rw [i_neg] at c21; omega
    refine v_sipush (v := (-1011)) dX6_character_15 (by decide) ?_
    refine v_iret dX6_character_18 rfl ?_ (Nat.le_of_ble_eq_true rfl) (Nat.le_of_ble_eq_true rfl)
    exact ⟨by unfold qChr; rw [if_neg cz], rfl, rfl⟩
  · refine v_iload_n dX6_character_4 rfl ?_
    refine v_aload_n dX6_character_5 rfl ?_
    refine fX6_42 (v := .ref (u + 248)) rfl dX6_character_6 hj rfl ?_
    refine v_callV (st := [.int x]) dX6_character_9 (t_SBlen hb) wX6_221 hb.1 rfl rfl ⟨Nat.le_of_ble_eq_true rfl, Nat.le_of_ble_eq_true rfl⟩ (Nat.le_of_ble_eq_true rfl) ⟨by omega, by omega⟩ (fun r n2 h2 hq => ?_)
    obtain ⟨rfl, hn9, hh9⟩ := hq; replace hn9 := hn9.symm; subst hn9; replace hh9 := hh9.symm; subst hh9
    refine v_st (st2 := [.int (nI S.2), .int x]) rfl ?_
    refine v_icmp_lt (tgt := 19) dX6_character_12 (by decide) (fun c22 => ?_) (fun c22 => ?_)
    · have cz : ixb x S.2 = true := by rw [ixb_iff]; unfold ix; rw [i_neg] at c21; rw [i_ltN (by omega)] at c22; omega
      obtain ⟨P, hP1, rfl⟩ := ix_of cz (by omega)
      have eP : (nI P).toNatClampNeg = P := nI_clamp (by omega)
      have hch9 := hch P hP1
      refine v_aload_n dX6_character_19 rfl ?_
      refine fX6_42 (v := .ref (u + 248)) rfl dX6_character_20 hj rfl ?_
      refine v_iload_n dX6_character_23 rfl ?_
      refine v_callV (st := []) dX6_character_24 (t_J4_charAt_5068e (i := P) hb (by omega) (capM_le hcp) (by have := hch P hP1; omega)) wX6_253 hb.1 rfl rfl ⟨Nat.le_of_ble_eq_true rfl, Nat.le_of_ble_eq_true rfl⟩ (Nat.le_of_ble_eq_true rfl) ⟨Nat.le_of_ble_eq_true rfl, Nat.le_of_ble_eq_true rfl⟩ (fun r n2 h2 hq => ?_)
      obtain ⟨rfl, hn9, hh9⟩ := hq; replace hn9 := hn9.symm; subst hn9; replace hh9 := hh9.symm; subst hh9
      refine v_st (st2 := [.int (nI (S.1 P))]) rfl ?_
      refine v_iret dX6_character_27 rfl ?_ (Nat.le_of_ble_eq_true rfl) (Nat.le_of_ble_eq_true rfl)
      exact ⟨by unfold qChr; rw [if_pos cz, eP], rfl, rfl⟩
    · have cz : ¬ ixb x S.2 = true := fun z => by rw [ixb_iff] at z; unfold ix at z; rw [i_ltN (by omega)] at c22; omega
      refine v_sipush (v := (-1011)) dX6_character_15 (by decide) ?_
      refine v_iret dX6_character_18 rfl ?_ (Nat.le_of_ble_eq_true rfl) (Nat.le_of_ble_eq_true rfl)
      exact ⟨by unfold qChr; rw [if_neg cz], rfl, rfl⟩
set_option maxRecDepth 20000 in
set_option maxHeartbeats 4000000 in
theorem t_X6_account {l : Launch} {G : vG} {h : AH} {n : Nat} {u sv a mm mb : Nat} {rs dt : Int32} {S : Ln} {b c p r : Nat} {C : Ct} {T : Hs} {w : Int32} (hj : h u = some (jc u sv rs dt)) (hb : sbP G h (u + 244) a mm S.1 S.2 mb) (hcp : capM mm) (ha : a = u + 245 ∨ u + 250 ≤ a) (han : a < n) (hun : u + 250 ≤ n) (hot : h (u + 243) = some (.inr (6, [.ref (u + 244), .int (nI c), .int (nI p), .int (nI r), .ref (u + 246), .ref (u + 247)]))) (hc : ct G h (u + 1) C) (hh : ht G h (u + 81) T) (hK : bdk b C) (hb2 : b + 5000 ≤ 2 ^ 28) (hi : iv C) : Mt l G mX6_account [.ref u, .int w] (n) h 0 0 (fun r n2 h2 => r = some (.int (qAcc C S.2 T.1 w)) ∧ n2 = n ∧ h2 = h) := by
  refine Mt.of (by decide) (Nat.le_of_ble_eq_true rfl) rfl ?_
  refine v_ls (ls2 := [some (.ref u), some (.int w)]) rfl ?_
  have hB := hK.bd (by omega)
  obtain ⟨hF, hJ, hn, hs1, hc99, hs4, hs7, hs8, hs15, hbk9, hs9⟩ := hi
  have b00 := hB 0 0
  have b01 := hB 0 1
  have b02 := hB 0 2
  refine v_iload_n dX6_account_0 rfl ?_
  by_cases c21 : ixb w 15 = true
  · obtain ⟨k22, hk22, rfl⟩ := ix_of c21 (by decide)
    obtain rfl | rfl | rfl | rfl | rfl | rfl | rfl | rfl | rfl | rfl | rfl | rfl | rfl | rfl | rfl := (by omega : k22 = 0 ∨ k22 = 1 ∨ k22 = 2 ∨ k22 = 3 ∨ k22 = 4 ∨ k22 = 5 ∨ k22 = 6 ∨ k22 = 7 ∨ k22 = 8 ∨ k22 = 9 ∨ k22 = 10 ∨ k22 = 11 ∨ k22 = 12 ∨ k22 = 13 ∨ k22 = 14)
    · refine v_tsIn (off := 75) (tgt := 76) dX6_account_1 (by decide) (by decide) (by decide) (by decide) ?_
      refine v_aload_n dX6_account_76 rfl ?_
      refine fX6_10 (v := .ref (u + 1)) rfl dX6_account_77 hj rfl ?_
      refine fX6_81 (v := .ref (u + 1 + 1)) rfl dX6_account_80 (ck0 hc) rfl ?_
      refine fX6_257 (v := .int (nI (C 0 0))) rfl dX6_account_83 (ck1 hc) rfl ?_
      have b23 := hK 0 0
      refine v_iret dX6_account_86 rfl ?_ (Nat.le_of_ble_eq_true rfl) (Nat.le_of_ble_eq_true rfl)
      have e9 : qAcc C S.2 T.1 (nI 0) = (nI (C 0 0) : Int32) := by unfold qAcc; all_goals (repeat (first | rw [if_pos (by first | assumption | omega | rfl | trivial)] | rw [if_neg (by first | assumption | omega)])); all_goals (try rfl)
      exact ⟨by rw [e9], rfl, rfl⟩
    · refine v_tsIn (off := 86) (tgt := 87) dX6_account_1 (by decide) (by decide) (by decide) (by decide) ?_
      refine v_aload_n dX6_account_87 rfl ?_
      refine fX6_10 (v := .ref (u + 1)) rfl dX6_account_88 hj rfl ?_
      refine fX6_126 (v := .ref (u + 1 + 8)) rfl dX6_account_91 (ck0 hc) rfl ?_
      refine fX6_258 (v := .int (nI (C 0 1))) rfl dX6_account_94 (ck8 hc) rfl ?_
      have b24 := hK 0 1
      refine v_iret dX6_account_97 rfl ?_ (Nat.le_of_ble_eq_true rfl) (Nat.le_of_ble_eq_true rfl)
      have e9 : qAcc C S.2 T.1 (nI 1) = (nI (C 0 1) : Int32) := by unfold qAcc; all_goals (repeat (first | rw [if_pos (by first | assumption | omega | rfl | trivial)] | rw [if_neg (by first | assumption | omega)])); all_goals (try rfl)
      exact ⟨by rw [e9], rfl, rfl⟩
    · refine v_tsIn (off := 97) (tgt := 98) dX6_account_1 (by decide) (by decide) (by decide) (by decide) ?_
      refine v_aload_n dX6_account_98 rfl ?_
      refine fX6_10 (v := .ref (u + 1)) rfl dX6_account_99 hj rfl ?_
      refine fX6_107 (v := .ref (u + 1 + 13)) rfl dX6_account_102 (ck0 hc) rfl ?_
      refine fX6_187 (v := .int (nI (C 0 2))) rfl dX6_account_105 (ck13 hc) rfl ?_
      have b25 := hK 0 2
      refine v_iret dX6_account_108 rfl ?_ (Nat.le_of_ble_eq_true rfl) (Nat.le_of_ble_eq_true rfl)
      have e9 : qAcc C S.2 T.1 (nI 2) = (nI (C 0 2) : Int32) := by unfold qAcc; all_goals (repeat (first | rw [if_pos (by first | assumption | omega | rfl | trivial)] | rw [if_neg (by first | assumption | omega)])); all_goals (try rfl)
      exact ⟨by rw [e9], rfl, rfl⟩
    · refine v_tsIn (off := 108) (tgt := 109) dX6_account_1 (by decide) (by decide) (by decide) (by decide) ?_
      refine v_aload_n dX6_account_109 rfl ?_
      refine fX6_10 (v := .ref (u + 1)) rfl dX6_account_110 hj rfl ?_
      refine fX6_145 (v := .int (nI (C 0 3))) rfl dX6_account_113 (ck0 hc) rfl ?_
      have b26 := hK 0 3
      refine v_iret dX6_account_116 rfl ?_ (Nat.le_of_ble_eq_true rfl) (Nat.le_of_ble_eq_true rfl)
      have e9 : qAcc C S.2 T.1 (nI 3) = (nI (C 0 3) : Int32) := by unfold qAcc; all_goals (repeat (first | rw [if_pos (by first | assumption | omega | rfl | trivial)] | rw [if_neg (by first | assumption | omega)])); all_goals (try rfl)
      exact ⟨by rw [e9], rfl, rfl⟩
    · refine v_tsIn (off := 116) (tgt := 117) dX6_account_1 (by decide) (by decide) (by decide) (by decide) ?_
      refine v_aload_n dX6_account_117 rfl ?_
      refine fX6_10 (v := .ref (u + 1)) rfl dX6_account_118 hj rfl ?_
      refine fX6_81 (v := .ref (u + 1 + 1)) rfl dX6_account_121 (ck0 hc) rfl ?_
      refine fX6_95 (v := .ref (u + 1 + 3)) rfl dX6_account_124 (ck1 hc) rfl ?_
      refine v_callS (st := []) dX6_account_127 (t_X6_sum6 (g := C 2) (ck3 hc) (hB 2)) wX6_210 rfl ⟨Nat.le_of_ble_eq_true rfl, Nat.le_of_ble_eq_true rfl⟩ (Nat.le_of_ble_eq_true rfl) ⟨Nat.le_of_ble_eq_true rfl, Nat.le_of_ble_eq_true rfl⟩ (fun r n2 h2 hq => ?_)
      obtain ⟨rfl, hn9, hh9⟩ := hq; replace hn9 := hn9.symm; subst hn9; replace hh9 := hh9.symm; subst hh9
      refine v_st (st2 := [.int (nI (sm (C 2) 6))]) rfl ?_
      refine v_iret dX6_account_130 rfl ?_ (Nat.le_of_ble_eq_true rfl) (Nat.le_of_ble_eq_true rfl)
      have e9 : qAcc C S.2 T.1 (nI 4) = (nI (sm (C 2) 6) : Int32) := by unfold qAcc; all_goals (repeat (first | rw [if_pos (by first | assumption | omega | rfl | trivial)] | rw [if_neg (by first | assumption | omega)])); all_goals (try rfl)
      exact ⟨by rw [e9], rfl, rfl⟩
    · refine v_tsIn (off := 130) (tgt := 131) dX6_account_1 (by decide) (by decide) (by decide) (by decide) ?_
      refine v_aload_n dX6_account_131 rfl ?_
      refine fX6_10 (v := .ref (u + 1)) rfl dX6_account_132 hj rfl ?_
      refine fX6_259 (v := .int (nI (C 0 4))) rfl dX6_account_135 (ck0 hc) rfl ?_
      have b27 := hK 0 4
      refine v_iret dX6_account_138 rfl ?_ (Nat.le_of_ble_eq_true rfl) (Nat.le_of_ble_eq_true rfl)
      have e9 : qAcc C S.2 T.1 (nI 5) = (nI (C 0 4) : Int32) := by unfold qAcc; all_goals (repeat (first | rw [if_pos (by first | assumption | omega | rfl | trivial)] | rw [if_neg (by first | assumption | omega)])); all_goals (try rfl)
      exact ⟨by rw [e9], rfl, rfl⟩
    · refine v_tsIn (off := 138) (tgt := 139) dX6_account_1 (by decide) (by decide) (by decide) (by decide) ?_
      refine v_aload_n dX6_account_139 rfl ?_
      refine fX6_10 (v := .ref (u + 1)) rfl dX6_account_140 hj rfl ?_
      refine fX6_167 (v := .ref (u + 1 + 19)) rfl dX6_account_143 (ck0 hc) rfl ?_
      refine v_callS (st := []) dX6_account_146 (t_X6_sum4 (g := C 16) (ck19 hc) (hB 16)) wX6_210 rfl ⟨Nat.le_of_ble_eq_true rfl, Nat.le_of_ble_eq_true rfl⟩ (Nat.le_of_ble_eq_true rfl) ⟨Nat.le_of_ble_eq_true rfl, Nat.le_of_ble_eq_true rfl⟩ (fun r n2 h2 hq => ?_)
      obtain ⟨rfl, hn9, hh9⟩ := hq; replace hn9 := hn9.symm; subst hn9; replace hh9 := hh9.symm; subst hh9
      refine v_st (st2 := [.int (nI (sm (C 16) 4))]) rfl ?_
      refine v_iret dX6_account_149 rfl ?_ (Nat.le_of_ble_eq_true rfl) (Nat.le_of_ble_eq_true rfl)
      have e9 : qAcc C S.2 T.1 (nI 6) = (nI (sm (C 16) 4) : Int32) := by unfold qAcc; all_goals (repeat (first | rw [if_pos (by first | assumption | omega | rfl | trivial)] | rw [if_neg (by first | assumption | omega)])); all_goals (try rfl)
      exact ⟨by rw [e9], rfl, rfl⟩
    · refine v_tsIn (off := 149) (tgt := 150) dX6_account_1 (by decide) (by decide) (by decide) (by decide) ?_
      refine v_aload_n dX6_account_150 rfl ?_
      refine fX6_10 (v := .ref (u + 1)) rfl dX6_account_151 hj rfl ?_
      refine fX6_262 (v := .int (nI (C 0 5))) rfl dX6_account_154 (ck0 hc) rfl ?_
      have b28 := hK 0 5
      refine v_iret dX6_account_157 rfl ?_ (Nat.le_of_ble_eq_true rfl) (Nat.le_of_ble_eq_true rfl)
      have e9 : qAcc C S.2 T.1 (nI 7) = (nI (C 0 5) : Int32) := by unfold qAcc; all_goals (repeat (first | rw [if_pos (by first | assumption | omega | rfl | trivial)] | rw [if_neg (by first | assumption | omega)])); all_goals (try rfl)
      exact ⟨by rw [e9], rfl, rfl⟩
    · refine v_tsIn (off := 157) (tgt := 158) dX6_account_1 (by decide) (by decide) (by decide) (by decide) ?_
      refine v_aload_n dX6_account_158 rfl ?_
      refine fX6_10 (v := .ref (u + 1)) rfl dX6_account_159 hj rfl ?_
      refine fX6_265 (v := .int (nI (C 0 6))) rfl dX6_account_162 (ck0 hc) rfl ?_
      have b29 := hK 0 6
      refine v_iret dX6_account_165 rfl ?_ (Nat.le_of_ble_eq_true rfl) (Nat.le_of_ble_eq_true rfl)
      have e9 : qAcc C S.2 T.1 (nI 8) = (nI (C 0 6) : Int32) := by unfold qAcc; all_goals (repeat (first | rw [if_pos (by first | assumption | omega | rfl | trivial)] | rw [if_neg (by first | assumption | omega)])); all_goals (try rfl)
      exact ⟨by rw [e9], rfl, rfl⟩
    · refine v_tsIn (off := 165) (tgt := 166) dX6_account_1 (by decide) (by decide) (by decide) (by decide) ?_
      refine v_aload_n dX6_account_166 rfl ?_
      refine fX6_10 (v := .ref (u + 1)) rfl dX6_account_167 hj rfl ?_
      refine fX6_81 (v := .ref (u + 1 + 1)) rfl dX6_account_170 (ck0 hc) rfl ?_
      refine fX6_98 (v := .ref (u + 1 + 4)) rfl dX6_account_173 (ck1 hc) rfl ?_
      refine v_callS (st := []) dX6_account_176 (t_X6_sum6 (g := C 3) (ck4 hc) (hB 3)) wX6_210 rfl ⟨Nat.le_of_ble_eq_true rfl, Nat.le_of_ble_eq_true rfl⟩ (Nat.le_of_ble_eq_true rfl) ⟨Nat.le_of_ble_eq_true rfl, Nat.le_of_ble_eq_true rfl⟩ (fun r n2 h2 hq => ?_)
      obtain ⟨rfl, hn9, hh9⟩ := hq; replace hn9 := hn9.symm; subst hn9; replace hh9 := hh9.symm; subst hh9
      refine v_st (st2 := [.int (nI (sm (C 3) 6))]) rfl ?_
      refine v_iret dX6_account_179 rfl ?_ (Nat.le_of_ble_eq_true rfl) (Nat.le_of_ble_eq_true rfl)
      have e9 : qAcc C S.2 T.1 (nI 9) = (nI (sm (C 3) 6) : Int32) := by unfold qAcc; all_goals (repeat (first | rw [if_pos (by first | assumption | omega | rfl | trivial)] | rw [if_neg (by first | assumption | omega)])); all_goals (try rfl)
      exact ⟨by rw [e9], rfl, rfl⟩
    · refine v_tsIn (off := 179) (tgt := 180) dX6_account_1 (by decide) (by decide) (by decide) (by decide) ?_
      refine v_aload_n dX6_account_180 rfl ?_
      refine fX6_10 (v := .ref (u + 1)) rfl dX6_account_181 hj rfl ?_
      refine fX6_268 (v := .int (nI (C 0 7))) rfl dX6_account_184 (ck0 hc) rfl ?_
      have b30 := hK 0 7
      refine v_iret dX6_account_187 rfl ?_ (Nat.le_of_ble_eq_true rfl) (Nat.le_of_ble_eq_true rfl)
      have e9 : qAcc C S.2 T.1 (nI 10) = (nI (C 0 7) : Int32) := by unfold qAcc; all_goals (repeat (first | rw [if_pos (by first | assumption | omega | rfl | trivial)] | rw [if_neg (by first | assumption | omega)])); all_goals (try rfl)
      exact ⟨by rw [e9], rfl, rfl⟩
    · refine v_tsIn (off := 187) (tgt := 188) dX6_account_1 (by decide) (by decide) (by decide) (by decide) ?_
      refine v_aload_n dX6_account_188 rfl ?_
      refine fX6_10 (v := .ref (u + 1)) rfl dX6_account_189 hj rfl ?_
      refine fX6_81 (v := .ref (u + 1 + 1)) rfl dX6_account_192 (ck0 hc) rfl ?_
      refine fX6_123 (v := .ref (u + 1 + 7)) rfl dX6_account_195 (ck1 hc) rfl ?_
      refine v_callS (st := []) dX6_account_198 (t_X6_sum6 (g := C 6) (ck7 hc) (hB 6)) wX6_210 rfl ⟨Nat.le_of_ble_eq_true rfl, Nat.le_of_ble_eq_true rfl⟩ (Nat.le_of_ble_eq_true rfl) ⟨Nat.le_of_ble_eq_true rfl, Nat.le_of_ble_eq_true rfl⟩ (fun r n2 h2 hq => ?_)
      obtain ⟨rfl, hn9, hh9⟩ := hq; replace hn9 := hn9.symm; subst hn9; replace hh9 := hh9.symm; subst hh9
      refine v_st (st2 := [.int (nI (sm (C 6) 6))]) rfl ?_
      refine v_iret dX6_account_201 rfl ?_ (Nat.le_of_ble_eq_true rfl) (Nat.le_of_ble_eq_true rfl)
      have e9 : qAcc C S.2 T.1 (nI 11) = (nI (sm (C 6) 6) : Int32) := by unfold qAcc; all_goals (repeat (first | rw [if_pos (by first | assumption | omega | rfl | trivial)] | rw [if_neg (by first | assumption | omega)])); all_goals (try rfl)
      exact ⟨by rw [e9], rfl, rfl⟩
    · refine v_tsIn (off := 201) (tgt := 202) dX6_account_1 (by decide) (by decide) (by decide) (by decide) ?_
      refine v_aload_n dX6_account_202 rfl ?_
      refine fX6_10 (v := .ref (u + 1)) rfl dX6_account_203 hj rfl ?_
      refine v_callV (st := []) dX6_account_206 (t_X1_patents hc hB hJ) wX6_271 (ck0 hc) rfl rfl ⟨Nat.le_of_ble_eq_true rfl, Nat.le_of_ble_eq_true rfl⟩ (Nat.le_of_ble_eq_true rfl) ⟨Nat.le_of_ble_eq_true rfl, Nat.le_of_ble_eq_true rfl⟩ (fun r n2 h2 hq => ?_)
      obtain ⟨rfl, hn9, hh9⟩ := hq; replace hn9 := hn9.symm; subst hn9; replace hh9 := hh9.symm; subst hh9
      refine v_st (st2 := [.int (nI (cnt (fun z => decide (hold C z)) (C 0 1)))]) rfl ?_
      refine v_iret dX6_account_209 rfl ?_ (Nat.le_of_ble_eq_true rfl) (Nat.le_of_ble_eq_true rfl)
      have e9 : qAcc C S.2 T.1 (nI 12) = (nI (cnt (fun z => decide (hold C z)) (C 0 1)) : Int32) := by unfold qAcc; all_goals (repeat (first | rw [if_pos (by first | assumption | omega | rfl | trivial)] | rw [if_neg (by first | assumption | omega)])); all_goals (try rfl)
      exact ⟨by rw [e9], rfl, rfl⟩
    · refine v_tsIn (off := 209) (tgt := 210) dX6_account_1 (by decide) (by decide) (by decide) (by decide) ?_
      refine v_aload_n dX6_account_210 rfl ?_
      refine fX6_35 (v := .ref (u + 243)) rfl dX6_account_211 hj rfl ?_
      refine fX6_218 (v := .ref (u + 244)) rfl dX6_account_214 hot rfl ?_
      refine v_callV (st := []) dX6_account_217 (t_SBlen hb) wX6_221 hb.1 rfl rfl ⟨Nat.le_of_ble_eq_true rfl, Nat.le_of_ble_eq_true rfl⟩ (Nat.le_of_ble_eq_true rfl) ⟨by omega, by omega⟩ (fun r n2 h2 hq => ?_)
      obtain ⟨rfl, hn9, hh9⟩ := hq; replace hn9 := hn9.symm; subst hn9; replace hh9 := hh9.symm; subst hh9
      refine v_st (st2 := [.int (nI S.2)]) rfl ?_
      refine v_iret dX6_account_220 rfl ?_ (Nat.le_of_ble_eq_true rfl) (Nat.le_of_ble_eq_true rfl)
      have e9 : qAcc C S.2 T.1 (nI 13) = (nI S.2 : Int32) := by unfold qAcc; all_goals (repeat (first | rw [if_pos (by first | assumption | omega | rfl | trivial)] | rw [if_neg (by first | assumption | omega)])); all_goals (try rfl)
      exact ⟨by rw [e9], rfl, rfl⟩
    · refine v_tsIn (off := 220) (tgt := 221) dX6_account_1 (by decide) (by decide) (by decide) (by decide) ?_
      refine v_aload_n dX6_account_221 rfl ?_
      refine fX6_28 (v := .ref (u + 81)) rfl dX6_account_222 hj rfl ?_
      refine fX6_274 (v := .int (nI T.1)) rfl dX6_account_225 hh.1.1 rfl ?_
      refine v_iret dX6_account_228 rfl ?_ (Nat.le_of_ble_eq_true rfl) (Nat.le_of_ble_eq_true rfl)
      have e9 : qAcc C S.2 T.1 (nI 14) = (nI T.1 : Int32) := by unfold qAcc; all_goals (repeat (first | rw [if_pos (by first | assumption | omega | rfl | trivial)] | rw [if_neg (by first | assumption | omega)])); all_goals (try rfl)
      exact ⟨by rw [e9], rfl, rfl⟩
  · refine v_tsOut (tgt := 229) dX6_account_1 (ix_out c21) (by decide) ?_
    refine v_sipush (v := (-1012)) dX6_account_229 (by decide) ?_
    refine v_iret dX6_account_232 rfl ?_ (Nat.le_of_ble_eq_true rfl) (Nat.le_of_ble_eq_true rfl)
    have e9 : qAcc C S.2 T.1 w = ((-1012) : Int32) := by unfold qAcc; all_goals (repeat (first | rw [if_pos (by first | assumption | omega | rfl | trivial)] | rw [if_neg (by first | assumption | omega)])); all_goals (try rfl)
    exact ⟨by rw [e9], rfl, rfl⟩
