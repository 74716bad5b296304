theorem sub5 {L x : Nat} (hL : L ≤ 2560) (hx : x ≤ 5000) (h : ¬ (nI L - nI 5 : Int32) < nI x) : x + 5 ≤ L := by
  have h1 : (nI L - nI 5 : Int32).toInt = (L : Int) - ((5 : Nat) : Int) := pk_sub_toInt (by omega) (by omega)
  have h2 : ¬ ((nI L - nI 5 : Int32).toInt < (x : Int)) := fun z => h ((i_ltN (by omega)).mpr z)
  rw [h1] at h2
  omega
set_option maxRecDepth 20000 in
set_option maxHeartbeats 8000000 in
theorem law_loop {nm : String} {l : Launch} {G : vG} {Fz : vFin} {u n : Nat} {h : AH} {c0 s0 : Nat} (hw : LX G u n h 200) (hL9 : gA G 2 3 ≤ 2560) (hc0 : c0 ≤ 400) (hs0 : s0 ≤ 7000) (hend : ∀ (ls : List (Option Value)) (n2 : Nat) (h2 : AH) (c2 s2 : Nat), c2 ≤ 600000 → s2 ≤ 7302250 → V l G (mLn nm) 600000 7302250 Fz 1104 ls [.int 1] n2 h2 c2 s2) : V l G (mLn nm) 600000 7302250 Fz 18 (wls G u 0) [] n h c0 s0 := by
  refine loopG (fun k => wls G u (5 * k)) (fun k n1 h1 => LX G u n1 h1 (200 + 100000 * k)) (N := 512) 82 11644 c0 s0 0 (by omega) rfl hw (by omega) (by omega) (fun k n1 h1 hk hp9 ih => ?_)
  refine v_ls (ls2 := [some (.ref (gA G 2 2)), some (.ref u), some (.ref (u + 250)), some (.int (nI (5 * k))), none, none, none, none]) rfl ?_
  refine v_iload_n dL_law_18 rfl ?_
  refine v_aload_n dL_law_19 rfl ?_
  refine v_xlen dL_law_20 ?_
  refine v_iconst (v := nI 5) dL_law_21 (by decide) ?_
  refine v_isub dL_law_22 ?_
  refine v_icmp_gt (tgt := 1103) dL_law_23 (by decide) (fun c1 => ?_) (fun c1 => ?_)
  · refine v_iconst (v := 1) dL_law_1103 (by decide) ?_
    exact hend _ _ _ _ _ (by omega) (by omega)
  · have h5 := sub5 hL9 (by omega) c1
    have kN : ∀ (n2 : Nat) (h2 : AH) (c2 s2 : Nat), c2 ≤ (c0 + k * 82) + 82 → s2 ≤ (s0 + k * 11644) + 11644 → LX G u n2 h2 (200 + 100000 * k + 100000) → V l G (mLn nm) 600000 7302250 Fz 1097 (wls G u (5 * k)) [] n2 h2 c2 s2 := by
      intro n2 h2 c2 s2 hc2 hs2 hx2
      refine n_iinc (k := 5) (x := 5 * k) dL_law_1097 (by decide) rfl rfl (Nat.le_of_ble_eq_true rfl) ?_
      refine v_ls (ls2 := wls G u (5 * (k + 1))) rfl ?_
      refine v_goto (tgt := 18) dL_law_1100 (by decide) ?_
      refine v_widen (k1 := c0 + (k + 1) * 82) (k2 := s0 + (k + 1) * 11644) (by omega) (by omega) ?_
      exact ih (by omega) n2 h2 (by rw [show 200 + 100000 * (k + 1) = 200 + 100000 * k + 100000 by omega]; exact hx2)
    refine v_aload_n dL_law_26 rfl ?_
    refine v_iload_n dL_law_27 rfl ?_
    refine v_xald (j := 5 * k) dL_law_28 (by omega) hL9 ?_
    refine v_bipush (v := nI 63) dL_law_29 (by decide) ?_
    refine v_iand dL_law_31 ?_
    obtain ⟨y, hy⟩ : ∃ y : Int32, y = gx G (5 * k) &&& nI 63 := ⟨_, rfl⟩
    rw [← hy]
    clear hy
    by_cases c2 : ixb y 35 = true
    · obtain ⟨q, hq, rfl⟩ := ix_of c2 (by decide)
      obtain rfl | rfl | rfl | rfl | rfl | rfl | rfl | rfl | rfl | rfl | rfl | rfl | rfl | rfl | rfl | rfl | rfl | rfl | rfl | rfl | rfl | rfl | rfl | rfl | rfl | rfl | rfl | rfl | rfl | rfl | rfl | rfl | rfl | rfl | rfl := (by omega : q = 0 ∨ q = 1 ∨ q = 2 ∨ q = 3 ∨ q = 4 ∨ q = 5 ∨ q = 6 ∨ q = 7 ∨ q = 8 ∨ q = 9 ∨ q = 10 ∨ q = 11 ∨ q = 12 ∨ q = 13 ∨ q = 14 ∨ q = 15 ∨ q = 16 ∨ q = 17 ∨ q = 18 ∨ q = 19 ∨ q = 20 ∨ q = 21 ∨ q = 22 ∨ q = 23 ∨ q = 24 ∨ q = 25 ∨ q = 26 ∨ q = 27 ∨ q = 28 ∨ q = 29 ∨ q = 30 ∨ q = 31 ∨ q = 32 ∨ q = 33 ∨ q = 34)
      · refine v_tsIn (off := 156) (tgt := 188) dL_law_32 (by decide) (by decide) (by decide) (by decide) ?_
        exact law_0 hp9 (by omega) (by omega) hL9 (by omega) (by omega) kN
      · refine v_tsIn (off := 179) (tgt := 211) dL_law_32 (by decide) (by decide) (by decide) (by decide) ?_
        exact law_1 hp9 (by omega) (by omega) hL9 (by omega) (by omega) kN
      · refine v_tsIn (off := 202) (tgt := 234) dL_law_32 (by decide) (by decide) (by decide) (by decide) ?_
        exact law_2 hp9 (by omega) (by omega) hL9 (by omega) (by omega) kN
      · refine v_tsIn (off := 245) (tgt := 277) dL_law_32 (by decide) (by decide) (by decide) (by decide) ?_
        exact law_3 hp9 (by omega) (by omega) hL9 (by omega) (by omega) kN
      · refine v_tsIn (off := 268) (tgt := 300) dL_law_32 (by decide) (by decide) (by decide) (by decide) ?_
        exact law_4 hp9 (by omega) (by omega) hL9 (by omega) (by omega) kN
      · refine v_tsIn (off := 291) (tgt := 323) dL_law_32 (by decide) (by decide) (by decide) (by decide) ?_
        exact law_5 hp9 (by omega) (by omega) hL9 (by omega) (by omega) kN
      · refine v_tsIn (off := 324) (tgt := 356) dL_law_32 (by decide) (by decide) (by decide) (by decide) ?_
        exact law_6 hp9 (by omega) (by omega) hL9 (by omega) (by omega) kN
      · refine v_tsIn (off := 357) (tgt := 389) dL_law_32 (by decide) (by decide) (by decide) (by decide) ?_
        exact law_7 hp9 (by omega) (by omega) hL9 (by omega) (by omega) kN
      · refine v_tsIn (off := 390) (tgt := 422) dL_law_32 (by decide) (by decide) (by decide) (by decide) ?_
        exact law_8 hp9 (by omega) (by omega) hL9 (by omega) (by omega) kN
      · refine v_tsIn (off := 423) (tgt := 455) dL_law_32 (by decide) (by decide) (by decide) (by decide) ?_
        exact law_9 hp9 (by omega) (by omega) hL9 (by omega) (by omega) kN
      · refine v_tsIn (off := 456) (tgt := 488) dL_law_32 (by decide) (by decide) (by decide) (by decide) ?_
        exact law_10 hp9 (by omega) (by omega) hL9 (by omega) (by omega) kN
      · refine v_tsIn (off := 509) (tgt := 541) dL_law_32 (by decide) (by decide) (by decide) (by decide) ?_
        exact law_11 hp9 (by omega) (by omega) hL9 (by omega) (by omega) kN
      · refine v_tsIn (off := 522) (tgt := 554) dL_law_32 (by decide) (by decide) (by decide) (by decide) ?_
        exact law_12 hp9 (by omega) (by omega) hL9 (by omega) (by omega) kN
      · refine v_tsIn (off := 545) (tgt := 577) dL_law_32 (by decide) (by decide) (by decide) (by decide) ?_
        exact law_13 hp9 (by omega) (by omega) hL9 (by omega) (by omega) kN
      · refine v_tsIn (off := 578) (tgt := 610) dL_law_32 (by decide) (by decide) (by decide) (by decide) ?_
        exact law_14 hp9 (by omega) (by omega) hL9 (by omega) (by omega) kN
      · refine v_tsIn (off := 621) (tgt := 653) dL_law_32 (by decide) (by decide) (by decide) (by decide) ?_
        exact law_15 hp9 (by omega) (by omega) hL9 (by omega) (by omega) kN
      · refine v_tsIn (off := 654) (tgt := 686) dL_law_32 (by decide) (by decide) (by decide) (by decide) ?_
        exact law_16 hp9 (by omega) (by omega) hL9 (by omega) (by omega) kN
      · refine v_tsIn (off := 687) (tgt := 719) dL_law_32 (by decide) (by decide) (by decide) (by decide) ?_
        exact law_17 hp9 (by omega) (by omega) hL9 (by omega) (by omega) kN
      · refine v_tsIn (off := 700) (tgt := 732) dL_law_32 (by decide) (by decide) (by decide) (by decide) ?_
        exact law_18 hp9 (by omega) (by omega) hL9 (by omega) (by omega) kN
      · refine v_tsIn (off := 713) (tgt := 745) dL_law_32 (by decide) (by decide) (by decide) (by decide) ?_
        exact law_19 hp9 (by omega) (by omega) hL9 (by omega) (by omega) kN
      · refine v_tsIn (off := 726) (tgt := 758) dL_law_32 (by decide) (by decide) (by decide) (by decide) ?_
        exact law_20 hp9 (by omega) (by omega) hL9 (by omega) (by omega) kN
      · refine v_tsIn (off := 749) (tgt := 781) dL_law_32 (by decide) (by decide) (by decide) (by decide) ?_
        exact law_21 hp9 (by omega) (by omega) hL9 (by omega) (by omega) kN
      · refine v_tsIn (off := 772) (tgt := 804) dL_law_32 (by decide) (by decide) (by decide) (by decide) ?_
        exact law_22 hp9 (by omega) (by omega) hL9 (by omega) (by omega) kN
      · refine v_tsIn (off := 795) (tgt := 827) dL_law_32 (by decide) (by decide) (by decide) (by decide) ?_
        exact law_23 hp9 (by omega) (by omega) hL9 (by omega) (by omega) kN
      · refine v_tsIn (off := 808) (tgt := 840) dL_law_32 (by decide) (by decide) (by decide) (by decide) ?_
        exact law_24 hp9 (by omega) (by omega) hL9 (by omega) (by omega) kN
      · refine v_tsIn (off := 831) (tgt := 863) dL_law_32 (by decide) (by decide) (by decide) (by decide) ?_
        exact law_25 hp9 (by omega) (by omega) hL9 (by omega) (by omega) kN
      · refine v_tsIn (off := 844) (tgt := 876) dL_law_32 (by decide) (by decide) (by decide) (by decide) ?_
        exact law_26 hp9 (by omega) (by omega) hL9 (by omega) (by omega) kN
      · refine v_tsIn (off := 867) (tgt := 899) dL_law_32 (by decide) (by decide) (by decide) (by decide) ?_
        exact law_27 hp9 (by omega) (by omega) hL9 (by omega) (by omega) kN
      · refine v_tsIn (off := 906) (tgt := 938) dL_law_32 (by decide) (by decide) (by decide) (by decide) ?_
        exact law_28 hp9 (by omega) (by omega) hL9 (by omega) (by omega) kN
      · refine v_tsIn (off := 929) (tgt := 961) dL_law_32 (by decide) (by decide) (by decide) (by decide) ?_
        exact law_29 hp9 (by omega) (by omega) hL9 (by omega) (by omega) kN
      · refine v_tsIn (off := 942) (tgt := 974) dL_law_32 (by decide) (by decide) (by decide) (by decide) ?_
        exact law_30 hp9 (by omega) (by omega) hL9 (by omega) (by omega) kN
      · refine v_tsIn (off := 983) (tgt := 1015) dL_law_32 (by decide) (by decide) (by decide) (by decide) ?_
        exact law_31 hp9 (by omega) (by omega) hL9 (by omega) (by omega) kN
      · refine v_tsIn (off := 1026) (tgt := 1058) dL_law_32 (by decide) (by decide) (by decide) (by decide) ?_
        exact law_32 hp9 (by omega) (by omega) hL9 (by omega) (by omega) kN
      · refine v_tsIn (off := 1039) (tgt := 1071) dL_law_32 (by decide) (by decide) (by decide) (by decide) ?_
        exact law_33 hp9 (by omega) (by omega) hL9 (by omega) (by omega) kN
      · refine v_tsIn (off := 1052) (tgt := 1084) dL_law_32 (by decide) (by decide) (by decide) (by decide) ?_
        exact law_34 hp9 (by omega) (by omega) hL9 (by omega) (by omega) kN
    · refine v_tsOut (tgt := 1097) dL_law_32 (ix_out c2) (by decide) ?_
      exact kN _ _ _ _ (by omega) (by omega) (hp9.up (by omega))
set_option maxRecDepth 20000 in
set_option maxHeartbeats 4000000 in
theorem law_all {nm : String} {l : Launch} {G : vG} {Fz : vFin} {u : Nat} (hL9 : gA G 2 3 ≤ 2560) (hend : ∀ (ls : List (Option Value)) (n2 : Nat) (h2 : AH) (c2 s2 : Nat), c2 ≤ 600000 → s2 ≤ 7302250 → V l G (mLn nm) 600000 7302250 Fz 1104 ls [.int 1] n2 h2 c2 s2) : V l G (mLn nm) 600000 7302250 Fz 0 [some (.ref (gA G 2 2)), none, none, none, none, none, none, none] [] u (fun _ => none) 0 0 := by
  refine nnX6 dL_law_0 q1_20 (Nat.le_of_ble_eq_true rfl) (Nat.le_of_ble_eq_true rfl) (fun h1 f1 s1 => ?_)
  refine v_dup dL_law_3 rfl ?_
  refine v_callI (st := [.ref u]) dL_law_4 (t_X6_init (t0 := fun _ => 0) f1) wL_9 rfl rfl ⟨Nat.le_of_ble_eq_true rfl, Nat.le_of_ble_eq_true rfl⟩ (Nat.le_of_ble_eq_true rfl) ⟨Nat.le_of_ble_eq_true rfl, Nat.le_of_ble_eq_true rfl⟩ (fun r n2 h2 hq => ?_)
  obtain ⟨rfl, rfl, hj, hc, hbe, htr, hsn, hh, hot, hb, hL, hN, hb2, -⟩ := hq
  refine v_st (st2 := [.ref u]) rfl ?_
  refine v_astore_n dL_law_7 rfl (Nat.le_of_ble_eq_true rfl) ?_
  refine v_ls (ls2 := [some (.ref (gA G 2 2)), some (.ref u), none, none, none, none, none, none]) rfl ?_
  refine nnX7 dL_law_8 q4_230 (Nat.le_of_ble_eq_true rfl) (Nat.le_of_ble_eq_true rfl) (fun h3 f3 s3 => ?_)
  refine v_dup dL_law_11 rfl ?_
  refine v_callI (st := [.ref (u + 250)]) dL_law_12 (t_X7_init f3) wL_12 rfl rfl ⟨Nat.le_of_ble_eq_true rfl, Nat.le_of_ble_eq_true rfl⟩ (Nat.le_of_ble_eq_true rfl) ⟨Nat.le_of_ble_eq_true rfl, Nat.le_of_ble_eq_true rfl⟩ (fun r n4 h4 hq => ?_)
  obtain ⟨rfl, rfl, ho, hv, hbe7, hsd, hkp7, hpa, htx, hli, fr4⟩ := hq
  refine v_st (st2 := [.ref (u + 250)]) rfl ?_
  refine v_astore_n dL_law_15 rfl (Nat.le_of_ble_eq_true rfl) ?_
  refine v_ls (ls2 := [some (.ref (gA G 2 2)), some (.ref u), some (.ref (u + 250)), none, none, none, none, none]) rfl ?_
  refine v_iconst (v := nI 0) dL_law_16 (by decide) ?_
  refine v_istore_n dL_law_17 rfl (Nat.le_of_ble_eq_true rfl) ?_
  refine v_ls (ls2 := wls G u 0) rfl ?_
  have fr : ∀ z, z < u + 250 → h4 z = h2 z := fun z hz => (fr4 z (by omega)).trans (s3 z (by omega))
  refine law_loop ?_ hL9 (by omega) (by omega) hend
  refine ⟨0, -1015, -1015, Z0, (0, 0, fun _ => Z0), Z0, (fun _ => 0, 0), (fun _ => 0, 0), nI 0, nI 0, u + 245, u + 249, by omega, by omega, ?_, ?_, ?_, ?_, ?_⟩
  · exact kA.fr ⟨hj, hc, ⟨_, hbe⟩, ⟨_, htr⟩, hsn, hh⟩ (fun z z1 z2 => fr z (by omega))
  · exact kB.fr (n := u + 250) ⟨by omega, Or.inl rfl, ⟨16, 0, Or.inl rfl, hb⟩, 0, 0, 0, fun _ => 0, fun _ => 0, hot, hL, hN⟩ (by omega) (fun z hz => fr z (by omega))
  · exact kC.fr (n := u + 250) ⟨by omega, Or.inl rfl, 16, 0, Or.inl rfl, hb2⟩ (by omega) (fun z hz => fr z (by omega))
  · refine ⟨⟨0, 0, 0, 0, nI 0, ho⟩, ?_, ⟨_, hbe7⟩, ?_, ⟨_, hkp7⟩, ⟨_, hpa, fun z hz => absurd hz (Nat.not_lt_zero z)⟩, ⟨_, htx, fun z hz => absurd hz (Nat.not_lt_zero z)⟩, _, hli, fun z hz => absurd hz (Nat.not_lt_zero z)⟩
    · rw [vO_Z0]; exact hv
    · rw [vO_Z0]; exact hsd
  · exact ⟨Iv_Z0, fun _ _ => (show (0 : Nat) < 200 by decide), Iv_Z0, fun _ _ => (show (0 : Nat) < 200 by decide), fun _ => ⟨Iv_Z0, fun _ _ => (show (0 : Nat) < 200 by decide)⟩, by decide, by decide, by decide, tsg_0, lng_le lng_0 (by decide), Or.inl ⟨rfl, rfl, rfl⟩⟩
