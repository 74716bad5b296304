theorem wl_1 {G : vG} {h : AH} {s a m : Nat} {S : Ln} (b : sbL G h s a m (wl S (cstL 1))) : sbL G h s a m S := b.cong rfl (fun i hi => (if_pos (show i < S.2 from hi)).symm)
theorem bk_2 {b p : Nat} {C : Ct} (g : gd b C) (hp : p ≤ C 0 2) : (bkL C zL p).2 ≤ 12 * p := (lng_bk (F := fun _ => 0) g.1.1.1 p hp).1
set_option maxRecDepth 20000 in
set_option maxHeartbeats 4000000 in
theorem t_L_bookings {l : Launch} {G : vG} {h : AH} {n : Nat} {u a : Nat} {LN : Ln} {C : Ct} {T : Hs} {Sn : Ct} {sv : Nat} {rs dt : Int32} {b : Nat} (g : gd b C) (o : oP G u n h a LN C T Sn sv rs dt) (hT : T.1 ≤ 8) : Mt l G mL_bookings [.ref u] (n) h 140 13500 (fun r n2 h2 => r = some (.int (nI 1)) ∧ ∃ (a2 : Nat) (L2 : Ln), n ≤ n2 ∧ (a2 = a ∨ n ≤ a2) ∧ a2 < n2 ∧ oP G u n2 h2 a2 L2 C T Sn sv rs dt ∧ frP (fun z => z < n ∧ z ≠ u + 248 ∧ z ≠ a) h h2) := by
  refine Mt.of (by decide) (Nat.le_of_ble_eq_true rfl) rfl ?_
  refine v_ls (ls2 := [some (.ref u), none, none, none, none, none]) rfl ?_
  have hun := o.n
  have hn6 := g.1.1.1.1
  have hn12 := g.1.1.1.2.1
  have hn10 := g.1.1.1.2.2.1
  have hc0 : (cstL 0).2 = 1 := rfl
  have hc1 : (cstL 1).2 = 0 := rfl
  have hc2 : (cstL 2).2 = 1 := rfl
  have hbk := g.1.1.1.2.2.2.2.2.2.2.2.2.1
  have hap := g.1.2.2.2.2
  obtain ⟨-, -, -, -, -, -, lo, so, -⟩ := g.1.1.2
  refine v_newSB dL_bookings_0 dL_bookings_3 dL_bookings_4 q4_87 wL_73 ⟨Nat.le_of_ble_eq_true rfl, Nat.le_of_ble_eq_true rfl⟩ (Nat.le_of_ble_eq_true rfl) (by omega) (by omega) (fun h21 hb21 fr21 => ?_)
  have hm21 := hb21.2
  have hz21 : (zL : Ln).2 = 0 := rfl
  have ho22 : oP G u (n + 2) _ a LN C T Sn sv rs dt := oP.fr o (by omega) (fun z hz1 hz2 => fr21 z (by omega)) (fr21 a (by omega))
  have fr23 : frP (fun z => z < n) _ _ := fun z (hz : z < n) => fr21 z (by omega)
  refine v_widen (k1 := 0 + 1 + 16 / 16) (k2 := 0 + 2 * 16) (by omega) (by omega) ?_
  refine v_astore_n dL_bookings_7 rfl (by decide) ?_
  refine v_ls (ls2 := [some (.ref u), some (.ref n), none, none, none, none]) rfl ?_
  refine v_aload_n dL_bookings_8 rfl ?_
  refine v_iconst (v := nI 2) dL_bookings_9 (by decide) ?_
  refine v_ask (st := []) (v2 := nI (C 0 2)) dL_bookings_10 (o_account g ho22) (qAcc_at (w := 2) (by decide)) wL_34 ho22.he rfl rfl ⟨Nat.le_of_ble_eq_true rfl, Nat.le_of_ble_eq_true rfl⟩ (Nat.le_of_ble_eq_true rfl) ⟨by omega, by omega⟩ ?_
  have b24 : C 0 2 < 2 ^ 28 := C_b g
  refine v_istore_n dL_bookings_13 rfl (by decide) ?_
  refine v_ls (ls2 := [some (.ref u), some (.ref n), some (.int (nI (C 0 2))), none, none, none]) rfl ?_
  refine v_iconst (v := nI 0) dL_bookings_14 (by decide) ?_
  refine v_istore_n dL_bookings_15 rfl (by decide) ?_
  refine v_ls (ls2 := [some (.ref u), some (.ref n), some (.int (nI (C 0 2))), some (.int (nI 0)), none, none]) rfl ?_
  refine loopX (fun k => [some (.ref u), some (.ref n), some (.int (nI (C 0 2))), some (.int (nI k)), none, none]) (fun k x n1 h1 => ∃ aS : Nat, sbL G h1 n aS x (bkL C zL k) ∧ n + 1 ≤ aS ∧ aS < n1 ∧ n + 2 ≤ n1 ∧ frP (fun z => z < n) h h1) (fun k x => 1 + x / 16) (fun k x => 0 + 2 * x) (N := C 0 2) 0 16 (Nat.zero_le _) rfl ⟨_, hb21, by omega, by omega, by omega, fr23⟩ (by omega) (by omega) (fun k x n1 h1 hk hp9 ihB => ?_)
  obtain ⟨aS, hb0, ha1, ha2, ha3, fr0⟩ := hp9
  have hm0 := hb0.2
  have hk0 := bk_2 (p := k) g hk
  obtain ⟨S0, hS0⟩ : ∃ S : Ln, S = bkL C zL k := ⟨_, rfl⟩
  rw [← hS0] at hb0 hm0 hk0
  have o1 : oP G u n1 h1 a LN C T Sn sv rs dt := oP.fr o (by omega) (fun z hz1 hz2 => fr0 z (by omega)) (fr0 a (by omega))
  refine v_iload_n dL_bookings_16 rfl ?_
  refine v_iload_n dL_bookings_17 rfl ?_
  refine n_icmp_ge (tgt := 253) (x := k) (y := C 0 2) dL_bookings_18 (by decide) (by omega) (by omega) (fun c25 => ?_) (fun c25 => ?_)
  · have ek : k = C 0 2 := by omega
    subst ek
    have fx26 : frP (fun z => z < n ∧ z ≠ u + 248 ∧ z ≠ a) h _ := fun z (hz : z < n ∧ z ≠ u + 248 ∧ z ≠ a) => fr0 z (by omega)
    refine v_aload_n dL_bookings_253 rfl ?_
    refine v_aload_n dL_bookings_254 rfl ?_
    refine v_callV (st := [.ref u]) dL_bookings_255 (o_tellBookings g o1) wL_109 o1.he rfl rfl ⟨Nat.le_of_ble_eq_true rfl, Nat.le_of_ble_eq_true rfl⟩ (Nat.le_of_ble_eq_true rfl) ⟨by omega, by omega⟩ (fun r n27 h27 hq => ?_)
    obtain ⟨rfl, a27, hn27, hg27, hl27, ho27, fr27⟩ := ob_of g o1 hq
    refine v_st (st2 := [.int (nI ((bkL C (LN.1, 0) (C 0 2)).2)), .ref u]) rfl ?_
    have hb28 := sbL.fr hb0 (fr27 (n) (by omega)) (fr27 (aS) (by omega))
    have fr29 : frP (fun z => z < n ∧ z ≠ u + 248 ∧ z ≠ a) _ _ := fun z (hz : z < n ∧ z ≠ u + 248 ∧ z ≠ a) => (fr27 z (by omega)).trans (fx26 z hz)
    refine v_widen (k1 := 1 + 82 + x / 16) (k2 := 0 + 11644 + 2 * x) (by omega) (by omega) ?_
    have hq30 := ho27.2.2.2.2.2.2.1
    refine v_callS (st := []) dL_bookings_258 (t_L_line ho27) wL_90 rfl ⟨Nat.le_of_ble_eq_true rfl, Nat.le_of_ble_eq_true rfl⟩ (Nat.le_of_ble_eq_true rfl) ⟨by omega, by omega⟩ (fun r n30 h30 hq => ?_)
    obtain ⟨q30, qa30, rfl, hn30, hx30, hy30, hs30, fr30⟩ := hq
    refine v_st (st2 := [.ref q30]) rfl ?_
    have hb31 := sbL.fr hb28 (fr30 (n) (by omega)) (fr30 (aS) (by omega))
    have fr32 : frP (fun z => z < n ∧ z ≠ u + 248 ∧ z ≠ a) _ _ := fun z (hz : z < n ∧ z ≠ u + 248 ∧ z ≠ a) => (fr30 z (by omega)).trans (fr29 z hz)
    have ho33 : oP G u n30 _ a27 ((bkL C (LN.1, 0) (C 0 2))) C T Sn sv rs dt := oP.fr ho27 (by omega) (fun z hz1 hz2 => fr30 z (by omega)) (fr30 a27 (by omega))
    have ht30 : strP G h30 q30 qa30 (bkL C zL (C 0 2)) := strP.cong hs30 (bkL_E (C := C) (F := LN.1) (p := C 0 2)).1 (fun i hi => (bkL_E (C := C) (F := LN.1) (p := C 0 2)).2 i hi)
    have hw30 : (bkL C zL (C 0 2)).2 ≤ 120 := by rw [(bkL_E (C := C) (F := LN.1) (p := C 0 2)).1]; exact hq30
    refine v_widen (k1 := 1 + 82 + 20 + x / 16) (k2 := 0 + 11644 + 660 + 2 * x) (by omega) (by omega) ?_
    refine v_aload_n dL_bookings_261 rfl ?_
    refine v_toStr (st := [.ref q30]) dL_bookings_262 hb31 wL_80 ⟨Nat.le_of_ble_eq_true rfl, Nat.le_of_ble_eq_true rfl⟩ (Nat.le_of_ble_eq_true rfl) (by omega) (by omega) (by omega) (fun h34 hs34 fr34 => ?_)
    have hb35 := sbL.fr hb31 (fr34 (n) (by omega)) (fr34 (aS) (by omega))
    have fr36 : frP (fun z => z < n ∧ z ≠ u + 248 ∧ z ≠ a) _ _ := fun z (hz : z < n ∧ z ≠ u + 248 ∧ z ≠ a) => (fr34 z (by omega)).trans (fr32 z hz)
    have ho37 : oP G u (n30 + 2) _ a27 ((bkL C (LN.1, 0) (C 0 2))) C T Sn sv rs dt := oP.fr ho33 (by omega) (fun z hz1 hz2 => fr34 z (by omega)) (fr34 a27 (by omega))
    have hs38 := strP.fr ht30 (fr34 (q30) (by omega)) (fr34 (qa30) (by omega))
    rw [hS0] at hs34
    have hk9 := bk_2 (p := C 0 2) g (Nat.le_refl _)
    refine v_eqS (st := []) dL_bookings_265 hs38 hs34 wL_135 ⟨Nat.le_of_ble_eq_true rfl, Nat.le_of_ble_eq_true rfl⟩ (Nat.le_of_ble_eq_true rfl) (by omega) (by omega) (by omega) ?_
    refine n_if_eq (tgt := 293) (x := 1) dL_bookings_268 (by decide) (by decide) (fun c => absurd c (by decide)) (fun _ => ?_)
    refine v_aload_n dL_bookings_271 rfl ?_
    refine v_iload_n dL_bookings_272 rfl ?_
    refine v_iconst (v := nI 0) dL_bookings_273 (by decide) ?_
    refine v_ask (st := []) (v2 := -1011) dL_bookings_274 (o_booking g ho37) (qBk_no (by omega)) wL_112 ho37.he rfl rfl ⟨Nat.le_of_ble_eq_true rfl, Nat.le_of_ble_eq_true rfl⟩ (Nat.le_of_ble_eq_true rfl) ⟨by omega, by omega⟩ ?_
    refine v_sipush (v := (-1011)) dL_bookings_277 (by decide) ?_
    refine v_icmp_ne (tgt := 293) dL_bookings_280 (by decide) (fun c39 => ?_) (fun c39 => ?_)
    · exfalso
      first | exact c39 rfl | exact c25 rfl | omega | exact absurd (by assumption) c39
    · refine v_iload_n dL_bookings_283 rfl ?_
      refine v_bipush (v := nI 10) dL_bookings_284 (by decide) ?_
      refine n_icmp_gt (tgt := 293) (x := C 0 2) (y := 10) dL_bookings_286 (by decide) (by omega) (by omega) (fun c40 => ?_) (fun c40 => ?_)
      · exfalso
        first | exact c40 rfl | exact c39 rfl | omega | exact absurd (by assumption) c40
      · refine v_iconst (v := nI 1) dL_bookings_289 (by decide) ?_
        refine v_goto (tgt := 294) dL_bookings_290 (by decide) ?_
        refine v_zret (ty := .boolean) dL_bookings_294 rfl (by decide) ?_ (by omega) (by omega)
        exact ⟨rfl, a27, (bkL C (LN.1, 0) (C 0 2)), by omega, by omega, by omega, ho37, fr36⟩
  · obtain ⟨k11, k12, k13, k14⟩ := hbk k (by omega)
    have hlo := lo k (by omega)
    rcases Nat.eq_zero_or_pos k with hk9 | hk9
    · refine v_iload_n dL_bookings_21 rfl ?_
      refine n_if_ne (tgt := 29) (x := k) dL_bookings_22 (by decide) (by omega) (fun c => (by exfalso; omega)) (fun _ => ?_)
      refine v_iconst (v := nI 1) dL_bookings_25 (by decide) ?_
      refine v_goto (tgt := 44) dL_bookings_26 (by decide) ?_
      refine v_istore dL_bookings_44 rfl (by decide) ?_
      refine v_ls (ls2 := [some (.ref u), some (.ref n), some (.int (nI (C 0 2))), some (.int (nI k)), some (.int (nI 1)), none]) rfl ?_
      refine v_iload dL_bookings_46 rfl ?_
      refine n_if_eq (tgt := 56) (x := 1) dL_bookings_48 (by decide) (by omega) (fun c => (by exfalso; omega)) (fun _ => ?_)
      refine v_iload dL_bookings_51 rfl ?_
      refine v_goto (tgt := 81) dL_bookings_53 (by decide) ?_
      refine v_istore dL_bookings_81 rfl (by decide) ?_
      refine v_ls (ls2 := [some (.ref u), some (.ref n), some (.int (nI (C 0 2))), some (.int (nI k)), some (.int (nI 1)), none]) rfl ?_
      refine v_iload dL_bookings_83 rfl ?_
      refine n_if_eq (tgt := 93) (x := 1) dL_bookings_85 (by decide) (by omega) (fun c => (by exfalso; omega)) (fun _ => ?_)
      refine v_iload dL_bookings_88 rfl ?_
      refine v_goto (tgt := 108) dL_bookings_90 (by decide) ?_
      refine v_istore dL_bookings_108 rfl (by decide) ?_
      refine v_ls (ls2 := [some (.ref u), some (.ref n), some (.int (nI (C 0 2))), some (.int (nI k)), some (.int (nI 1)), none]) rfl ?_
      refine v_aload_n dL_bookings_110 rfl ?_
      refine v_iload_n dL_bookings_111 rfl ?_
      refine n_if_ne (tgt := 120) (x := k) dL_bookings_112 (by decide) (by omega) (fun c => (by exfalso; omega)) (fun _ => ?_)
      refine v_ldcs (i := 1) dL_bookings_115 (by decide) rfl rfl ?_
      refine v_goto (tgt := 122) dL_bookings_117 (by decide) ?_
      refine v_appS (st := []) (ra := n) (L := cstL 1) (1) (0) dL_bookings_122 hb0 (Or.inr ⟨1, by decide, rfl, rfl⟩) (by omega) (by decide) wL_94 ⟨Nat.le_of_ble_eq_true rfl, Nat.le_of_ble_eq_true rfl⟩ (Nat.le_of_ble_eq_true rfl) (by omega) (by omega) (by omega) (by omega) (by omega) (fun a41 m41 n41 h41 hn41 hg41 hl41 hs41 hb41 fr41 => ?_)
      obtain ⟨S41, hS41⟩ : ∃ Sx : Ln, Sx = wl S0 (cstL 1) := ⟨_, rfl⟩
      rw [← hS41] at hb41
      have hk41 : S41.2 = S0.2 + (cstL 1).2 := by rw [hS41]; rfl
      have hm41 := hb41.2
      have ho42 : oP G u n41 _ a LN C T Sn sv rs dt := oP.fr o1 (by omega) (fun z hz1 hz2 => fr41 z (by omega)) (fr41 a (by omega))
      have fr43 : frP (fun z => z < n) _ _ := fun z (hz : z < n) => (fr41 z (by omega)).trans (fr0 z hz)
      refine v_widen (k1 := 1 + m41 / 16) (k2 := 0 + 2 * m41) (by omega) (by omega) ?_
      rw [hS41] at hb41
      have hb44 := wl_1 hb41
      have hmhb44 := hb44.2
      refine v_aload_n dL_bookings_125 rfl ?_
      refine v_iload_n dL_bookings_126 rfl ?_
      refine v_iconst (v := nI 0) dL_bookings_127 (by decide) ?_
      refine v_ask (st := [.ref n]) (v2 := nI (C 11 k)) dL_bookings_128 (o_booking g ho42) (qBk_at (p := k) (w := 0) (by omega) (by omega) (by decide)) wL_112 ho42.he rfl rfl ⟨Nat.le_of_ble_eq_true rfl, Nat.le_of_ble_eq_true rfl⟩ (Nat.le_of_ble_eq_true rfl) ⟨by omega, by omega⟩ ?_
      have b45 : C 11 k < 2 ^ 28 := C_b g
      have hv46 : C 11 k < 2 ^ 28 := by omega
      have hd46 := dg9 hv46
      refine v_appI (st := []) (x := C 11 k) (1) (0) dL_bookings_131 hb44 hv46 wL_84 ⟨Nat.le_of_ble_eq_true rfl, Nat.le_of_ble_eq_true rfl⟩ (Nat.le_of_ble_eq_true rfl) (by omega) (by omega) (by omega) (by omega) (by omega) (fun a47 m47 n47 h47 hn47 hg47 hl47 hs47 hb47 fr47 => ?_)
      obtain ⟨S47, hS47⟩ : ∃ Sx : Ln, Sx = wi S0 (C 11 k) := ⟨_, rfl⟩
      rw [← hS47] at hb47
      have hk47 : S47.2 = S0.2 + sb_dg (C 11 k) := by rw [hS47]; rfl
      have hm47 := hb47.2
      have ho48 : oP G u n47 _ a LN C T Sn sv rs dt := oP.fr ho42 (by omega) (fun z hz1 hz2 => fr47 z (by omega)) (fr47 a (by omega))
      have fr49 : frP (fun z => z < n) _ _ := fun z (hz : z < n) => (fr47 z (by omega)).trans (fr43 z hz)
      refine v_widen (k1 := 1 + m47 / 16) (k2 := 0 + 2 * m47) (by omega) (by omega) ?_
      refine v_bipush (v := nI 58) dL_bookings_134 (by decide) ?_
      refine v_appC (st := []) (c := 58) (1) (0) dL_bookings_136 hb47 (by omega) wL_77 ⟨Nat.le_of_ble_eq_true rfl, Nat.le_of_ble_eq_true rfl⟩ (Nat.le_of_ble_eq_true rfl) (by omega) (by omega) (by omega) (by omega) (by omega) (fun a50 m50 n50 h50 hn50 hg50 hl50 hs50 hb50 fr50 => ?_)
      obtain ⟨S50, hS50⟩ : ∃ Sx : Ln, Sx = wc S47 58 := ⟨_, rfl⟩
      rw [← hS50] at hb50
      have hk50 : S50.2 = S47.2 + 1 := by rw [hS50]; rfl
      have hm50 := hb50.2
      have ho51 : oP G u n50 _ a LN C T Sn sv rs dt := oP.fr ho48 (by omega) (fun z hz1 hz2 => fr50 z (by omega)) (fr50 a (by omega))
      have fr52 : frP (fun z => z < n) _ _ := fun z (hz : z < n) => (fr50 z (by omega)).trans (fr49 z hz)
      refine v_widen (k1 := 1 + m50 / 16) (k2 := 0 + 2 * m50) (by omega) (by omega) ?_
      refine v_aload_n dL_bookings_139 rfl ?_
      refine v_iload_n dL_bookings_140 rfl ?_
      refine v_iconst (v := nI 1) dL_bookings_141 (by decide) ?_
      refine v_ask (st := [.ref n]) (v2 := nI (C 12 k)) dL_bookings_142 (o_booking g ho51) (qBk_at (p := k) (w := 1) (by omega) (by omega) (by decide)) wL_112 ho51.he rfl rfl ⟨Nat.le_of_ble_eq_true rfl, Nat.le_of_ble_eq_true rfl⟩ (Nat.le_of_ble_eq_true rfl) ⟨by omega, by omega⟩ ?_
      have b53 : C 12 k < 2 ^ 28 := C_b g
      have hv54 : C 12 k < 2 ^ 28 := by omega
      have hd54 := dg9 hv54
      refine v_appI (st := []) (x := C 12 k) (1) (0) dL_bookings_145 hb50 hv54 wL_84 ⟨Nat.le_of_ble_eq_true rfl, Nat.le_of_ble_eq_true rfl⟩ (Nat.le_of_ble_eq_true rfl) (by omega) (by omega) (by omega) (by omega) (by omega) (fun a55 m55 n55 h55 hn55 hg55 hl55 hs55 hb55 fr55 => ?_)
      obtain ⟨S55, hS55⟩ : ∃ Sx : Ln, Sx = wi S50 (C 12 k) := ⟨_, rfl⟩
      rw [← hS55] at hb55
      have hk55 : S55.2 = S50.2 + sb_dg (C 12 k) := by rw [hS55]; rfl
      have hm55 := hb55.2
      have ho56 : oP G u n55 _ a LN C T Sn sv rs dt := oP.fr ho51 (by omega) (fun z hz1 hz2 => fr55 z (by omega)) (fr55 a (by omega))
      have fr57 : frP (fun z => z < n) _ _ := fun z (hz : z < n) => (fr55 z (by omega)).trans (fr52 z hz)
      refine v_widen (k1 := 1 + m55 / 16) (k2 := 0 + 2 * m55) (by omega) (by omega) ?_
      refine v_bipush (v := nI 64) dL_bookings_148 (by decide) ?_
      refine v_appC (st := []) (c := 64) (1) (0) dL_bookings_150 hb55 (by omega) wL_77 ⟨Nat.le_of_ble_eq_true rfl, Nat.le_of_ble_eq_true rfl⟩ (Nat.le_of_ble_eq_true rfl) (by omega) (by omega) (by omega) (by omega) (by omega) (fun a58 m58 n58 h58 hn58 hg58 hl58 hs58 hb58 fr58 => ?_)
      obtain ⟨S58, hS58⟩ : ∃ Sx : Ln, Sx = wc S55 64 := ⟨_, rfl⟩
      rw [← hS58] at hb58
      have hk58 : S58.2 = S55.2 + 1 := by rw [hS58]; rfl
      have hm58 := hb58.2
      have ho59 : oP G u n58 _ a LN C T Sn sv rs dt := oP.fr ho56 (by omega) (fun z hz1 hz2 => fr58 z (by omega)) (fr58 a (by omega))
      have fr60 : frP (fun z => z < n) _ _ := fun z (hz : z < n) => (fr58 z (by omega)).trans (fr57 z hz)
      refine v_widen (k1 := 1 + m58 / 16) (k2 := 0 + 2 * m58) (by omega) (by omega) ?_
      refine v_aload_n dL_bookings_153 rfl ?_
      refine v_iload_n dL_bookings_154 rfl ?_
      refine v_iconst (v := nI 2) dL_bookings_155 (by decide) ?_
      refine v_ask (st := [.ref n]) (v2 := nI (C 13 k)) dL_bookings_156 (o_booking g ho59) (qBk_at (p := k) (w := 2) (by omega) (by omega) (by decide)) wL_112 ho59.he rfl rfl ⟨Nat.le_of_ble_eq_true rfl, Nat.le_of_ble_eq_true rfl⟩ (Nat.le_of_ble_eq_true rfl) ⟨by omega, by omega⟩ ?_
      have b61 : C 13 k < 2 ^ 28 := C_b g
      have hv62 : C 13 k < 2 ^ 28 := by omega
      have hd62 := dg9 hv62
      refine v_appI (st := []) (x := C 13 k) (1) (0) dL_bookings_159 hb58 hv62 wL_84 ⟨Nat.le_of_ble_eq_true rfl, Nat.le_of_ble_eq_true rfl⟩ (Nat.le_of_ble_eq_true rfl) (by omega) (by omega) (by omega) (by omega) (by omega) (fun a63 m63 n63 h63 hn63 hg63 hl63 hs63 hb63 fr63 => ?_)
      obtain ⟨S63, hS63⟩ : ∃ Sx : Ln, Sx = wi S58 (C 13 k) := ⟨_, rfl⟩
      rw [← hS63] at hb63
      have hk63 : S63.2 = S58.2 + sb_dg (C 13 k) := by rw [hS63]; rfl
      have hm63 := hb63.2
      have ho64 : oP G u n63 _ a LN C T Sn sv rs dt := oP.fr ho59 (by omega) (fun z hz1 hz2 => fr63 z (by omega)) (fr63 a (by omega))
      have fr65 : frP (fun z => z < n) _ _ := fun z (hz : z < n) => (fr63 z (by omega)).trans (fr60 z hz)
      refine v_widen (k1 := 1 + m63 / 16) (k2 := 0 + 2 * m63) (by omega) (by omega) ?_
      refine v_bipush (v := nI 61) dL_bookings_162 (by decide) ?_
      refine v_appC (st := []) (c := 61) (1) (0) dL_bookings_164 hb63 (by omega) wL_77 ⟨Nat.le_of_ble_eq_true rfl, Nat.le_of_ble_eq_true rfl⟩ (Nat.le_of_ble_eq_true rfl) (by omega) (by omega) (by omega) (by omega) (by omega) (fun a66 m66 n66 h66 hn66 hg66 hl66 hs66 hb66 fr66 => ?_)
      obtain ⟨S66, hS66⟩ : ∃ Sx : Ln, Sx = wc S63 61 := ⟨_, rfl⟩
      rw [← hS66] at hb66
      have hk66 : S66.2 = S63.2 + 1 := by rw [hS66]; rfl
      have hm66 := hb66.2
      have ho67 : oP G u n66 _ a LN C T Sn sv rs dt := oP.fr ho64 (by omega) (fun z hz1 hz2 => fr66 z (by omega)) (fr66 a (by omega))
      have fr68 : frP (fun z => z < n) _ _ := fun z (hz : z < n) => (fr66 z (by omega)).trans (fr65 z hz)
      refine v_widen (k1 := 1 + m66 / 16) (k2 := 0 + 2 * m66) (by omega) (by omega) ?_
      refine v_aload_n dL_bookings_167 rfl ?_
      refine v_iload_n dL_bookings_168 rfl ?_
      refine v_iconst (v := nI 3) dL_bookings_169 (by decide) ?_
      refine v_ask (st := [.ref n]) (v2 := nI (C 14 k)) dL_bookings_170 (o_booking g ho67) (qBk_at (p := k) (w := 3) (by omega) (by omega) (by decide)) wL_112 ho67.he rfl rfl ⟨Nat.le_of_ble_eq_true rfl, Nat.le_of_ble_eq_true rfl⟩ (Nat.le_of_ble_eq_true rfl) ⟨by omega, by omega⟩ ?_
      have b69 : C 14 k < 2 ^ 28 := C_b g
      have hv70 : C 14 k < 2 ^ 28 := by omega
      have hd70 := dg9 hv70
      refine v_appI (st := []) (x := C 14 k) (1) (0) dL_bookings_173 hb66 hv70 wL_84 ⟨Nat.le_of_ble_eq_true rfl, Nat.le_of_ble_eq_true rfl⟩ (Nat.le_of_ble_eq_true rfl) (by omega) (by omega) (by omega) (by omega) (by omega) (fun a71 m71 n71 h71 hn71 hg71 hl71 hs71 hb71 fr71 => ?_)
      obtain ⟨S71, hS71⟩ : ∃ Sx : Ln, Sx = wi S66 (C 14 k) := ⟨_, rfl⟩
      rw [← hS71] at hb71
      have hk71 : S71.2 = S66.2 + sb_dg (C 14 k) := by rw [hS71]; rfl
      have hm71 := hb71.2
      have ho72 : oP G u n71 _ a LN C T Sn sv rs dt := oP.fr ho67 (by omega) (fun z hz1 hz2 => fr71 z (by omega)) (fr71 a (by omega))
      have fr73 : frP (fun z => z < n) _ _ := fun z (hz : z < n) => (fr71 z (by omega)).trans (fr68 z hz)
      refine v_widen (k1 := 1 + m71 / 16) (k2 := 0 + 2 * m71) (by omega) (by omega) ?_
      refine v_pop dL_bookings_176 rfl ?_
      refine v_iload dL_bookings_177 rfl ?_
      refine n_if_le (tgt := 196) (x := 1) dL_bookings_179 (by decide) (by omega) (fun c => (by exfalso; omega)) (fun _ => ?_)
      refine v_aload_n dL_bookings_182 rfl ?_
      refine v_iload_n dL_bookings_183 rfl ?_
      refine v_iconst (v := nI 3) dL_bookings_184 (by decide) ?_
      refine v_ask (st := []) (v2 := nI (C 14 k)) dL_bookings_185 (o_booking g ho72) (qBk_at (p := k) (w := 3) (by omega) (by omega) (by decide)) wL_112 ho72.he rfl rfl ⟨Nat.le_of_ble_eq_true rfl, Nat.le_of_ble_eq_true rfl⟩ (Nat.le_of_ble_eq_true rfl) ⟨by omega, by omega⟩ ?_
      refine v_aload_n dL_bookings_188 rfl ?_
      refine v_iconst (v := nI 3) dL_bookings_189 (by decide) ?_
      refine v_ask (st := [.int (nI (C 14 k))]) (v2 := nI (C 0 3)) dL_bookings_190 (o_account g ho72) (qAcc_at (w := 3) (by decide)) wL_34 ho72.he rfl rfl ⟨Nat.le_of_ble_eq_true rfl, Nat.le_of_ble_eq_true rfl⟩ (Nat.le_of_ble_eq_true rfl) ⟨by omega, by omega⟩ ?_
      have b74 : C 0 3 < 2 ^ 28 := C_b g
      refine n_icmp_ge (tgt := 198) (x := C 14 k) (y := C 0 3) dL_bookings_193 (by decide) (by omega) (by omega) (fun _ => ?_) (fun c => (by exfalso; omega))
      refine v_iconst (v := nI 0) dL_bookings_198 (by decide) ?_
      refine v_istore dL_bookings_199 rfl (by decide) ?_
      refine v_ls (ls2 := [some (.ref u), some (.ref n), some (.int (nI (C 0 2))), some (.int (nI k)), some (.int (nI 1)), some (.int (nI 0))]) rfl ?_
      refine v_forget 4 ?_
      refine v_ls (ls2 := [some (.ref u), some (.ref n), some (.int (nI (C 0 2))), some (.int (nI k)), none, some (.int (nI 0))]) rfl ?_
      refine loopV (fun i => [some (.ref u), some (.ref n), some (.int (nI (C 0 2))), some (.int (nI k)), none, some (.int (nI i))]) (fun _ => True) (N := k) 0 (Nat.zero_le _) rfl trivial (fun i hi9 _ ihI => ?_)
      have q1 := C_b (x := 11) (y := i) g
      refine v_iload dL_bookings_201 rfl ?_
      refine v_iload_n dL_bookings_203 rfl ?_
      refine n_icmp_ge (tgt := 247) (x := i) (y := k) dL_bookings_204 (by decide) (by omega) (by omega) (fun c75 => ?_) (fun c75 => ?_)
      · refine n_iinc (k := 1) (x := k) dL_bookings_247 (by decide) rfl rfl (by decide) ?_
        refine v_ls (ls2 := [some (.ref u), some (.ref n), some (.int (nI (C 0 2))), some (.int (nI (k + 1))), none, some (.int (nI i))]) rfl ?_
        refine v_goto (tgt := 16) dL_bookings_250 (by decide) ?_
        refine v_forget 5 ?_
        refine v_ls (ls2 := [some (.ref u), some (.ref n), some (.int (nI (C 0 2))), some (.int (nI (k + 1))), none, none]) rfl ?_
        have e9 : S71 = bkL C zL (k + 1) := by rw [bkL, if_neg (by omega)]; rw [hS71]; rw [hS66]; rw [hS63]; rw [hS58]; rw [hS55]; rw [hS50]; rw [hS47]; rw [hS0]
        rw [e9] at hb71
        refine v_widen (k1 := 1 + m71 / 16) (k2 := 0 + 2 * m71) (by omega) (by omega) ?_
        exact ihB (by omega) _ _ _ ⟨_, hb71, by omega, by omega, by omega, fr73⟩
      · refine v_aload_n dL_bookings_207 rfl ?_
        refine v_iload dL_bookings_208 rfl ?_
        refine v_iconst (v := nI 0) dL_bookings_210 (by decide) ?_
        refine v_ask (st := []) (v2 := nI (C 11 i)) dL_bookings_211 (o_booking g ho72) (qBk_at (p := i) (w := 0) (by omega) (by omega) (by decide)) wL_112 ho72.he rfl rfl ⟨Nat.le_of_ble_eq_true rfl, Nat.le_of_ble_eq_true rfl⟩ (Nat.le_of_ble_eq_true rfl) ⟨by omega, by omega⟩ ?_
        have b76 : C 11 i < 2 ^ 28 := C_b g
        refine v_aload_n dL_bookings_214 rfl ?_
        refine v_iload_n dL_bookings_215 rfl ?_
        refine v_iconst (v := nI 0) dL_bookings_216 (by decide) ?_
        refine v_ask (st := [.int (nI (C 11 i))]) (v2 := nI (C 11 k)) dL_bookings_217 (o_booking g ho72) (qBk_at (p := k) (w := 0) (by omega) (by omega) (by decide)) wL_112 ho72.he rfl rfl ⟨Nat.le_of_ble_eq_true rfl, Nat.le_of_ble_eq_true rfl⟩ (Nat.le_of_ble_eq_true rfl) ⟨by omega, by omega⟩ ?_
        refine n_icmp_ne (tgt := 241) (x := C 11 i) (y := C 11 k) dL_bookings_220 (by decide) (by omega) (by omega) (fun c77 => ?_) (fun c77 => ?_)
        · refine n_iinc (k := 1) (x := i) dL_bookings_241 (by decide) rfl rfl (by decide) ?_
          refine v_ls (ls2 := [some (.ref u), some (.ref n), some (.int (nI (C 0 2))), some (.int (nI k)), none, some (.int (nI (i + 1)))]) rfl ?_
          refine v_goto (tgt := 201) dL_bookings_244 (by decide) ?_
          refine v_ls (ls2 := [some (.ref u), some (.ref n), some (.int (nI (C 0 2))), some (.int (nI k)), none, some (.int (nI (i + 1)))]) rfl ?_
          exact ihI (by omega) trivial
        · refine v_aload_n dL_bookings_223 rfl ?_
          refine v_iload dL_bookings_224 rfl ?_
          refine v_iconst (v := nI 3) dL_bookings_226 (by decide) ?_
          refine v_ask (st := []) (v2 := nI (C 14 i)) dL_bookings_227 (o_booking g ho72) (qBk_at (p := i) (w := 3) (by omega) (by omega) (by decide)) wL_112 ho72.he rfl rfl ⟨Nat.le_of_ble_eq_true rfl, Nat.le_of_ble_eq_true rfl⟩ (Nat.le_of_ble_eq_true rfl) ⟨by omega, by omega⟩ ?_
          have b78 : C 14 i < 2 ^ 28 := C_b g
          refine v_aload_n dL_bookings_230 rfl ?_
          refine v_iload_n dL_bookings_231 rfl ?_
          refine v_iconst (v := nI 3) dL_bookings_232 (by decide) ?_
          refine v_ask (st := [.int (nI (C 14 i))]) (v2 := nI (C 14 k)) dL_bookings_233 (o_booking g ho72) (qBk_at (p := k) (w := 3) (by omega) (by omega) (by decide)) wL_112 ho72.he rfl rfl ⟨Nat.le_of_ble_eq_true rfl, Nat.le_of_ble_eq_true rfl⟩ (Nat.le_of_ble_eq_true rfl) ⟨by omega, by omega⟩ ?_
          refine n_icmp_ne (tgt := 241) (x := C 14 i) (y := C 14 k) dL_bookings_236 (by decide) (by omega) (by omega) (fun c79 => ?_) (fun c79 => ?_)
          · refine n_iinc (k := 1) (x := i) dL_bookings_241 (by decide) rfl rfl (by decide) ?_
            refine v_ls (ls2 := [some (.ref u), some (.ref n), some (.int (nI (C 0 2))), some (.int (nI k)), none, some (.int (nI (i + 1)))]) rfl ?_
            refine v_goto (tgt := 201) dL_bookings_244 (by decide) ?_
            refine v_ls (ls2 := [some (.ref u), some (.ref n), some (.int (nI (C 0 2))), some (.int (nI k)), none, some (.int (nI (i + 1)))]) rfl ?_
            exact ihI (by omega) trivial
          · exact absurd ⟨c77, c79⟩ (hap i k (by omega) (by omega))
    · obtain ⟨p11, p12, p13, p14⟩ := hbk (k - 1) (by omega)
      rcases so (k - 1) k (by omega) (by omega) with hA | ⟨hA, hB | ⟨hB, hC⟩⟩
      · refine v_iload_n dL_bookings_21 rfl ?_
        refine n_if_ne (tgt := 29) (x := k) dL_bookings_22 (by decide) (by omega) (fun _ => ?_) (fun c => (by exfalso; omega))
        refine v_aload_n dL_bookings_29 rfl ?_
        refine v_iload_n dL_bookings_30 rfl ?_
        refine v_iconst (v := nI 3) dL_bookings_31 (by decide) ?_
        refine v_ask (st := []) (v2 := nI (C 14 k)) dL_bookings_32 (o_booking g o1) (qBk_at (p := k) (w := 3) (by omega) (by omega) (by decide)) wL_112 o1.he rfl rfl ⟨Nat.le_of_ble_eq_true rfl, Nat.le_of_ble_eq_true rfl⟩ (Nat.le_of_ble_eq_true rfl) ⟨by omega, by omega⟩ ?_
        have b80 : C 14 k < 2 ^ 28 := C_b g
        refine v_aload_n dL_bookings_35 rfl ?_
        refine v_iload_n dL_bookings_36 rfl ?_
        refine v_iconst (v := nI 1) dL_bookings_37 (by decide) ?_
        refine n_isub (x := k) (y := 1) dL_bookings_38 (by omega) ?_
        refine v_iconst (v := nI 3) dL_bookings_39 (by decide) ?_
        refine v_ask (st := [.int (nI (C 14 k))]) (v2 := nI (C 14 (k - 1))) dL_bookings_40 (o_booking g o1) (qBk_at (p := k - 1) (w := 3) (by omega) (by omega) (by decide)) wL_112 o1.he rfl rfl ⟨Nat.le_of_ble_eq_true rfl, Nat.le_of_ble_eq_true rfl⟩ (Nat.le_of_ble_eq_true rfl) ⟨by omega, by omega⟩ ?_
        have b81 : C 14 (k - 1) < 2 ^ 28 := C_b g
        refine n_isub (x := C 14 k) (y := C 14 (k - 1)) dL_bookings_43 (by omega) ?_
        refine v_istore dL_bookings_44 rfl (by decide) ?_
        refine v_ls (ls2 := [some (.ref u), some (.ref n), some (.int (nI (C 0 2))), some (.int (nI k)), some (.int (nI (C 14 k - (C 14 (k - 1))))), none]) rfl ?_
        refine v_iload dL_bookings_46 rfl ?_
        refine n_if_eq (tgt := 56) (x := C 14 k - (C 14 (k - 1))) dL_bookings_48 (by decide) (by omega) (fun c => (by exfalso; omega)) (fun _ => ?_)
        refine v_iload dL_bookings_51 rfl ?_
        refine v_goto (tgt := 81) dL_bookings_53 (by decide) ?_
        refine v_istore dL_bookings_81 rfl (by decide) ?_
        refine v_ls (ls2 := [some (.ref u), some (.ref n), some (.int (nI (C 0 2))), some (.int (nI k)), some (.int (nI (C 14 k - (C 14 (k - 1))))), none]) rfl ?_
        refine v_iload dL_bookings_83 rfl ?_
        refine n_if_eq (tgt := 93) (x := C 14 k - (C 14 (k - 1))) dL_bookings_85 (by decide) (by omega) (fun c => (by exfalso; omega)) (fun _ => ?_)
        refine v_iload dL_bookings_88 rfl ?_
        refine v_goto (tgt := 108) dL_bookings_90 (by decide) ?_
        refine v_istore dL_bookings_108 rfl (by decide) ?_
        refine v_ls (ls2 := [some (.ref u), some (.ref n), some (.int (nI (C 0 2))), some (.int (nI k)), some (.int (nI (C 14 k - (C 14 (k - 1))))), none]) rfl ?_
        refine v_aload_n dL_bookings_110 rfl ?_
        refine v_iload_n dL_bookings_111 rfl ?_
        refine n_if_ne (tgt := 120) (x := k) dL_bookings_112 (by decide) (by omega) (fun _ => ?_) (fun c => (by exfalso; omega))
        refine v_ldcs (i := 2) dL_bookings_120 (by decide) rfl rfl ?_
        refine v_appS (st := []) (ra := n) (L := cstL 2) (1) (0) dL_bookings_122 hb0 (Or.inr ⟨2, by decide, rfl, rfl⟩) (by omega) (by decide) wL_94 ⟨Nat.le_of_ble_eq_true rfl, Nat.le_of_ble_eq_true rfl⟩ (Nat.le_of_ble_eq_true rfl) (by omega) (by omega) (by omega) (by omega) (by omega) (fun a82 m82 n82 h82 hn82 hg82 hl82 hs82 hb82 fr82 => ?_)
        obtain ⟨S82, hS82⟩ : ∃ Sx : Ln, Sx = wl S0 (cstL 2) := ⟨_, rfl⟩
        rw [← hS82] at hb82
        have hk82 : S82.2 = S0.2 + (cstL 2).2 := by rw [hS82]; rfl
        have hm82 := hb82.2
        have ho83 : oP G u n82 _ a LN C T Sn sv rs dt := oP.fr o1 (by omega) (fun z hz1 hz2 => fr82 z (by omega)) (fr82 a (by omega))
        have fr84 : frP (fun z => z < n) _ _ := fun z (hz : z < n) => (fr82 z (by omega)).trans (fr0 z hz)
        refine v_widen (k1 := 1 + m82 / 16) (k2 := 0 + 2 * m82) (by omega) (by omega) ?_
        refine v_aload_n dL_bookings_125 rfl ?_
        refine v_iload_n dL_bookings_126 rfl ?_
        refine v_iconst (v := nI 0) dL_bookings_127 (by decide) ?_
        refine v_ask (st := [.ref n]) (v2 := nI (C 11 k)) dL_bookings_128 (o_booking g ho83) (qBk_at (p := k) (w := 0) (by omega) (by omega) (by decide)) wL_112 ho83.he rfl rfl ⟨Nat.le_of_ble_eq_true rfl, Nat.le_of_ble_eq_true rfl⟩ (Nat.le_of_ble_eq_true rfl) ⟨by omega, by omega⟩ ?_
        have b85 : C 11 k < 2 ^ 28 := C_b g
        have hv86 : C 11 k < 2 ^ 28 := by omega
        have hd86 := dg9 hv86
        refine v_appI (st := []) (x := C 11 k) (1) (0) dL_bookings_131 hb82 hv86 wL_84 ⟨Nat.le_of_ble_eq_true rfl, Nat.le_of_ble_eq_true rfl⟩ (Nat.le_of_ble_eq_true rfl) (by omega) (by omega) (by omega) (by omega) (by omega) (fun a87 m87 n87 h87 hn87 hg87 hl87 hs87 hb87 fr87 => ?_)
        obtain ⟨S87, hS87⟩ : ∃ Sx : Ln, Sx = wi S82 (C 11 k) := ⟨_, rfl⟩
        rw [← hS87] at hb87
        have hk87 : S87.2 = S82.2 + sb_dg (C 11 k) := by rw [hS87]; rfl
        have hm87 := hb87.2
        have ho88 : oP G u n87 _ a LN C T Sn sv rs dt := oP.fr ho83 (by omega) (fun z hz1 hz2 => fr87 z (by omega)) (fr87 a (by omega))
        have fr89 : frP (fun z => z < n) _ _ := fun z (hz : z < n) => (fr87 z (by omega)).trans (fr84 z hz)
        refine v_widen (k1 := 1 + m87 / 16) (k2 := 0 + 2 * m87) (by omega) (by omega) ?_
        refine v_bipush (v := nI 58) dL_bookings_134 (by decide) ?_
        refine v_appC (st := []) (c := 58) (1) (0) dL_bookings_136 hb87 (by omega) wL_77 ⟨Nat.le_of_ble_eq_true rfl, Nat.le_of_ble_eq_true rfl⟩ (Nat.le_of_ble_eq_true rfl) (by omega) (by omega) (by omega) (by omega) (by omega) (fun a90 m90 n90 h90 hn90 hg90 hl90 hs90 hb90 fr90 => ?_)
        obtain ⟨S90, hS90⟩ : ∃ Sx : Ln, Sx = wc S87 58 := ⟨_, rfl⟩
        rw [← hS90] at hb90
        have hk90 : S90.2 = S87.2 + 1 := by rw [hS90]; rfl
        have hm90 := hb90.2
        have ho91 : oP G u n90 _ a LN C T Sn sv rs dt := oP.fr ho88 (by omega) (fun z hz1 hz2 => fr90 z (by omega)) (fr90 a (by omega))
        have fr92 : frP (fun z => z < n) _ _ := fun z (hz : z < n) => (fr90 z (by omega)).trans (fr89 z hz)
        refine v_widen (k1 := 1 + m90 / 16) (k2 := 0 + 2 * m90) (by omega) (by omega) ?_
        refine v_aload_n dL_bookings_139 rfl ?_
        refine v_iload_n dL_bookings_140 rfl ?_
        refine v_iconst (v := nI 1) dL_bookings_141 (by decide) ?_
        refine v_ask (st := [.ref n]) (v2 := nI (C 12 k)) dL_bookings_142 (o_booking g ho91) (qBk_at (p := k) (w := 1) (by omega) (by omega) (by decide)) wL_112 ho91.he rfl rfl ⟨Nat.le_of_ble_eq_true rfl, Nat.le_of_ble_eq_true rfl⟩ (Nat.le_of_ble_eq_true rfl) ⟨by omega, by omega⟩ ?_
        have b93 : C 12 k < 2 ^ 28 := C_b g
        have hv94 : C 12 k < 2 ^ 28 := by omega
        have hd94 := dg9 hv94
        refine v_appI (st := []) (x := C 12 k) (1) (0) dL_bookings_145 hb90 hv94 wL_84 ⟨Nat.le_of_ble_eq_true rfl, Nat.le_of_ble_eq_true rfl⟩ (Nat.le_of_ble_eq_true rfl) (by omega) (by omega) (by omega) (by omega) (by omega) (fun a95 m95 n95 h95 hn95 hg95 hl95 hs95 hb95 fr95 => ?_)
        obtain ⟨S95, hS95⟩ : ∃ Sx : Ln, Sx = wi S90 (C 12 k) := ⟨_, rfl⟩
        rw [← hS95] at hb95
        have hk95 : S95.2 = S90.2 + sb_dg (C 12 k) := by rw [hS95]; rfl
        have hm95 := hb95.2
        have ho96 : oP G u n95 _ a LN C T Sn sv rs dt := oP.fr ho91 (by omega) (fun z hz1 hz2 => fr95 z (by omega)) (fr95 a (by omega))
        have fr97 : frP (fun z => z < n) _ _ := fun z (hz : z < n) => (fr95 z (by omega)).trans (fr92 z hz)
        refine v_widen (k1 := 1 + m95 / 16) (k2 := 0 + 2 * m95) (by omega) (by omega) ?_
        refine v_bipush (v := nI 64) dL_bookings_148 (by decide) ?_
        refine v_appC (st := []) (c := 64) (1) (0) dL_bookings_150 hb95 (by omega) wL_77 ⟨Nat.le_of_ble_eq_true rfl, Nat.le_of_ble_eq_true rfl⟩ (Nat.le_of_ble_eq_true rfl) (by omega) (by omega) (by omega) (by omega) (by omega) (fun a98 m98 n98 h98 hn98 hg98 hl98 hs98 hb98 fr98 => ?_)
        obtain ⟨S98, hS98⟩ : ∃ Sx : Ln, Sx = wc S95 64 := ⟨_, rfl⟩
        rw [← hS98] at hb98
        have hk98 : S98.2 = S95.2 + 1 := by rw [hS98]; rfl
        have hm98 := hb98.2
        have ho99 : oP G u n98 _ a LN C T Sn sv rs dt := oP.fr ho96 (by omega) (fun z hz1 hz2 => fr98 z (by omega)) (fr98 a (by omega))
        have fr100 : frP (fun z => z < n) _ _ := fun z (hz : z < n) => (fr98 z (by omega)).trans (fr97 z hz)
        refine v_widen (k1 := 1 + m98 / 16) (k2 := 0 + 2 * m98) (by omega) (by omega) ?_
        refine v_aload_n dL_bookings_153 rfl ?_
        refine v_iload_n dL_bookings_154 rfl ?_
        refine v_iconst (v := nI 2) dL_bookings_155 (by decide) ?_
        refine v_ask (st := [.ref n]) (v2 := nI (C 13 k)) dL_bookings_156 (o_booking g ho99) (qBk_at (p := k) (w := 2) (by omega) (by omega) (by decide)) wL_112 ho99.he rfl rfl ⟨Nat.le_of_ble_eq_true rfl, Nat.le_of_ble_eq_true rfl⟩ (Nat.le_of_ble_eq_true rfl) ⟨by omega, by omega⟩ ?_
        have b101 : C 13 k < 2 ^ 28 := C_b g
        have hv102 : C 13 k < 2 ^ 28 := by omega
        have hd102 := dg9 hv102
        refine v_appI (st := []) (x := C 13 k) (1) (0) dL_bookings_159 hb98 hv102 wL_84 ⟨Nat.le_of_ble_eq_true rfl, Nat.le_of_ble_eq_true rfl⟩ (Nat.le_of_ble_eq_true rfl) (by omega) (by omega) (by omega) (by omega) (by omega) (fun a103 m103 n103 h103 hn103 hg103 hl103 hs103 hb103 fr103 => ?_)
        obtain ⟨S103, hS103⟩ : ∃ Sx : Ln, Sx = wi S98 (C 13 k) := ⟨_, rfl⟩
        rw [← hS103] at hb103
        have hk103 : S103.2 = S98.2 + sb_dg (C 13 k) := by rw [hS103]; rfl
        have hm103 := hb103.2
        have ho104 : oP G u n103 _ a LN C T Sn sv rs dt := oP.fr ho99 (by omega) (fun z hz1 hz2 => fr103 z (by omega)) (fr103 a (by omega))
        have fr105 : frP (fun z => z < n) _ _ := fun z (hz : z < n) => (fr103 z (by omega)).trans (fr100 z hz)
        refine v_widen (k1 := 1 + m103 / 16) (k2 := 0 + 2 * m103) (by omega) (by omega) ?_
        refine v_bipush (v := nI 61) dL_bookings_162 (by decide) ?_
        refine v_appC (st := []) (c := 61) (1) (0) dL_bookings_164 hb103 (by omega) wL_77 ⟨Nat.le_of_ble_eq_true rfl, Nat.le_of_ble_eq_true rfl⟩ (Nat.le_of_ble_eq_true rfl) (by omega) (by omega) (by omega) (by omega) (by omega) (fun a106 m106 n106 h106 hn106 hg106 hl106 hs106 hb106 fr106 => ?_)
        obtain ⟨S106, hS106⟩ : ∃ Sx : Ln, Sx = wc S103 61 := ⟨_, rfl⟩
        rw [← hS106] at hb106
        have hk106 : S106.2 = S103.2 + 1 := by rw [hS106]; rfl
        have hm106 := hb106.2
        have ho107 : oP G u n106 _ a LN C T Sn sv rs dt := oP.fr ho104 (by omega) (fun z hz1 hz2 => fr106 z (by omega)) (fr106 a (by omega))
        have fr108 : frP (fun z => z < n) _ _ := fun z (hz : z < n) => (fr106 z (by omega)).trans (fr105 z hz)
        refine v_widen (k1 := 1 + m106 / 16) (k2 := 0 + 2 * m106) (by omega) (by omega) ?_
        refine v_aload_n dL_bookings_167 rfl ?_
        refine v_iload_n dL_bookings_168 rfl ?_
        refine v_iconst (v := nI 3) dL_bookings_169 (by decide) ?_
        refine v_ask (st := [.ref n]) (v2 := nI (C 14 k)) dL_bookings_170 (o_booking g ho107) (qBk_at (p := k) (w := 3) (by omega) (by omega) (by decide)) wL_112 ho107.he rfl rfl ⟨Nat.le_of_ble_eq_true rfl, Nat.le_of_ble_eq_true rfl⟩ (Nat.le_of_ble_eq_true rfl) ⟨by omega, by omega⟩ ?_
        have hv109 : C 14 k < 2 ^ 28 := by omega
        have hd109 := dg9 hv109
        refine v_appI (st := []) (x := C 14 k) (1) (0) dL_bookings_173 hb106 hv109 wL_84 ⟨Nat.le_of_ble_eq_true rfl, Nat.le_of_ble_eq_true rfl⟩ (Nat.le_of_ble_eq_true rfl) (by omega) (by omega) (by omega) (by omega) (by omega) (fun a110 m110 n110 h110 hn110 hg110 hl110 hs110 hb110 fr110 => ?_)
        obtain ⟨S110, hS110⟩ : ∃ Sx : Ln, Sx = wi S106 (C 14 k) := ⟨_, rfl⟩
        rw [← hS110] at hb110
        have hk110 : S110.2 = S106.2 + sb_dg (C 14 k) := by rw [hS110]; rfl
        have hm110 := hb110.2
        have ho111 : oP G u n110 _ a LN C T Sn sv rs dt := oP.fr ho107 (by omega) (fun z hz1 hz2 => fr110 z (by omega)) (fr110 a (by omega))
        have fr112 : frP (fun z => z < n) _ _ := fun z (hz : z < n) => (fr110 z (by omega)).trans (fr108 z hz)
        refine v_widen (k1 := 1 + m110 / 16) (k2 := 0 + 2 * m110) (by omega) (by omega) ?_
        refine v_pop dL_bookings_176 rfl ?_
        refine v_iload dL_bookings_177 rfl ?_
        refine n_if_le (tgt := 196) (x := C 14 k - (C 14 (k - 1))) dL_bookings_179 (by decide) (by omega) (fun c => (by exfalso; omega)) (fun _ => ?_)
        refine v_aload_n dL_bookings_182 rfl ?_
        refine v_iload_n dL_bookings_183 rfl ?_
        refine v_iconst (v := nI 3) dL_bookings_184 (by decide) ?_
        refine v_ask (st := []) (v2 := nI (C 14 k)) dL_bookings_185 (o_booking g ho111) (qBk_at (p := k) (w := 3) (by omega) (by omega) (by decide)) wL_112 ho111.he rfl rfl ⟨Nat.le_of_ble_eq_true rfl, Nat.le_of_ble_eq_true rfl⟩ (Nat.le_of_ble_eq_true rfl) ⟨by omega, by omega⟩ ?_
        refine v_aload_n dL_bookings_188 rfl ?_
        refine v_iconst (v := nI 3) dL_bookings_189 (by decide) ?_
        refine v_ask (st := [.int (nI (C 14 k))]) (v2 := nI (C 0 3)) dL_bookings_190 (o_account g ho111) (qAcc_at (w := 3) (by decide)) wL_34 ho111.he rfl rfl ⟨Nat.le_of_ble_eq_true rfl, Nat.le_of_ble_eq_true rfl⟩ (Nat.le_of_ble_eq_true rfl) ⟨by omega, by omega⟩ ?_
        have b113 : C 0 3 < 2 ^ 28 := C_b g
        refine n_icmp_ge (tgt := 198) (x := C 14 k) (y := C 0 3) dL_bookings_193 (by decide) (by omega) (by omega) (fun _ => ?_) (fun c => (by exfalso; omega))
        refine v_iconst (v := nI 0) dL_bookings_198 (by decide) ?_
        refine v_istore dL_bookings_199 rfl (by decide) ?_
        refine v_ls (ls2 := [some (.ref u), some (.ref n), some (.int (nI (C 0 2))), some (.int (nI k)), some (.int (nI (C 14 k - (C 14 (k - 1))))), some (.int (nI 0))]) rfl ?_
        refine v_forget 4 ?_
        refine v_ls (ls2 := [some (.ref u), some (.ref n), some (.int (nI (C 0 2))), some (.int (nI k)), none, some (.int (nI 0))]) rfl ?_
        refine loopV (fun i => [some (.ref u), some (.ref n), some (.int (nI (C 0 2))), some (.int (nI k)), none, some (.int (nI i))]) (fun _ => True) (N := k) 0 (Nat.zero_le _) rfl trivial (fun i hi9 _ ihI => ?_)
        have q1 := C_b (x := 11) (y := i) g
        refine v_iload dL_bookings_201 rfl ?_
        refine v_iload_n dL_bookings_203 rfl ?_
        refine n_icmp_ge (tgt := 247) (x := i) (y := k) dL_bookings_204 (by decide) (by omega) (by omega) (fun c114 => ?_) (fun c114 => ?_)
        · refine n_iinc (k := 1) (x := k) dL_bookings_247 (by decide) rfl rfl (by decide) ?_
          refine v_ls (ls2 := [some (.ref u), some (.ref n), some (.int (nI (C 0 2))), some (.int (nI (k + 1))), none, some (.int (nI i))]) rfl ?_
          refine v_goto (tgt := 16) dL_bookings_250 (by decide) ?_
          refine v_forget 5 ?_
          refine v_ls (ls2 := [some (.ref u), some (.ref n), some (.int (nI (C 0 2))), some (.int (nI (k + 1))), none, none]) rfl ?_
          have e9 : S110 = bkL C zL (k + 1) := by rw [bkL, if_pos hk9]; rw [hS110]; rw [hS106]; rw [hS103]; rw [hS98]; rw [hS95]; rw [hS90]; rw [hS87]; rw [hS82]; rw [hS0]; rfl
          rw [e9] at hb110
          refine v_widen (k1 := 1 + m110 / 16) (k2 := 0 + 2 * m110) (by omega) (by omega) ?_
          exact ihB (by omega) _ _ _ ⟨_, hb110, by omega, by omega, by omega, fr112⟩
        · refine v_aload_n dL_bookings_207 rfl ?_
          refine v_iload dL_bookings_208 rfl ?_
          refine v_iconst (v := nI 0) dL_bookings_210 (by decide) ?_
          refine v_ask (st := []) (v2 := nI (C 11 i)) dL_bookings_211 (o_booking g ho111) (qBk_at (p := i) (w := 0) (by omega) (by omega) (by decide)) wL_112 ho111.he rfl rfl ⟨Nat.le_of_ble_eq_true rfl, Nat.le_of_ble_eq_true rfl⟩ (Nat.le_of_ble_eq_true rfl) ⟨by omega, by omega⟩ ?_
          have b115 : C 11 i < 2 ^ 28 := C_b g
          refine v_aload_n dL_bookings_214 rfl ?_
          refine v_iload_n dL_bookings_215 rfl ?_
          refine v_iconst (v := nI 0) dL_bookings_216 (by decide) ?_
          refine v_ask (st := [.int (nI (C 11 i))]) (v2 := nI (C 11 k)) dL_bookings_217 (o_booking g ho111) (qBk_at (p := k) (w := 0) (by omega) (by omega) (by decide)) wL_112 ho111.he rfl rfl ⟨Nat.le_of_ble_eq_true rfl, Nat.le_of_ble_eq_true rfl⟩ (Nat.le_of_ble_eq_true rfl) ⟨by omega, by omega⟩ ?_
          refine n_icmp_ne (tgt := 241) (x := C 11 i) (y := C 11 k) dL_bookings_220 (by decide) (by omega) (by omega) (fun c116 => ?_) (fun c116 => ?_)
          · refine n_iinc (k := 1) (x := i) dL_bookings_241 (by decide) rfl rfl (by decide) ?_
            refine v_ls (ls2 := [some (.ref u), some (.ref n), some (.int (nI (C 0 2))), some (.int (nI k)), none, some (.int (nI (i + 1)))]) rfl ?_
            refine v_goto (tgt := 201) dL_bookings_244 (by decide) ?_
            refine v_ls (ls2 := [some (.ref u), some (.ref n), some (.int (nI (C 0 2))), some (.int (nI k)), none, some (.int (nI (i + 1)))]) rfl ?_
            exact ihI (by omega) trivial
          · refine v_aload_n dL_bookings_223 rfl ?_
            refine v_iload dL_bookings_224 rfl ?_
            refine v_iconst (v := nI 3) dL_bookings_226 (by decide) ?_
            refine v_ask (st := []) (v2 := nI (C 14 i)) dL_bookings_227 (o_booking g ho111) (qBk_at (p := i) (w := 3) (by omega) (by omega) (by decide)) wL_112 ho111.he rfl rfl ⟨Nat.le_of_ble_eq_true rfl, Nat.le_of_ble_eq_true rfl⟩ (Nat.le_of_ble_eq_true rfl) ⟨by omega, by omega⟩ ?_
            have b117 : C 14 i < 2 ^ 28 := C_b g
            refine v_aload_n dL_bookings_230 rfl ?_
            refine v_iload_n dL_bookings_231 rfl ?_
            refine v_iconst (v := nI 3) dL_bookings_232 (by decide) ?_
            refine v_ask (st := [.int (nI (C 14 i))]) (v2 := nI (C 14 k)) dL_bookings_233 (o_booking g ho111) (qBk_at (p := k) (w := 3) (by omega) (by omega) (by decide)) wL_112 ho111.he rfl rfl ⟨Nat.le_of_ble_eq_true rfl, Nat.le_of_ble_eq_true rfl⟩ (Nat.le_of_ble_eq_true rfl) ⟨by omega, by omega⟩ ?_
            refine n_icmp_ne (tgt := 241) (x := C 14 i) (y := C 14 k) dL_bookings_236 (by decide) (by omega) (by omega) (fun c118 => ?_) (fun c118 => ?_)
            · refine n_iinc (k := 1) (x := i) dL_bookings_241 (by decide) rfl rfl (by decide) ?_
              refine v_ls (ls2 := [some (.ref u), some (.ref n), some (.int (nI (C 0 2))), some (.int (nI k)), none, some (.int (nI (i + 1)))]) rfl ?_
              refine v_goto (tgt := 201) dL_bookings_244 (by decide) ?_
              refine v_ls (ls2 := [some (.ref u), some (.ref n), some (.int (nI (C 0 2))), some (.int (nI k)), none, some (.int (nI (i + 1)))]) rfl ?_
              exact ihI (by omega) trivial
            · exact absurd ⟨c116, c118⟩ (hap i k (by omega) (by omega))
      · refine v_iload_n dL_bookings_21 rfl ?_
        refine n_if_ne (tgt := 29) (x := k) dL_bookings_22 (by decide) (by omega) (fun _ => ?_) (fun c => (by exfalso; omega))
        refine v_aload_n dL_bookings_29 rfl ?_
        refine v_iload_n dL_bookings_30 rfl ?_
        refine v_iconst (v := nI 3) dL_bookings_31 (by decide) ?_
        refine v_ask (st := []) (v2 := nI (C 14 k)) dL_bookings_32 (o_booking g o1) (qBk_at (p := k) (w := 3) (by omega) (by omega) (by decide)) wL_112 o1.he rfl rfl ⟨Nat.le_of_ble_eq_true rfl, Nat.le_of_ble_eq_true rfl⟩ (Nat.le_of_ble_eq_true rfl) ⟨by omega, by omega⟩ ?_
        have b119 : C 14 k < 2 ^ 28 := C_b g
        refine v_aload_n dL_bookings_35 rfl ?_
        refine v_iload_n dL_bookings_36 rfl ?_
        refine v_iconst (v := nI 1) dL_bookings_37 (by decide) ?_
        refine n_isub (x := k) (y := 1) dL_bookings_38 (by omega) ?_
        refine v_iconst (v := nI 3) dL_bookings_39 (by decide) ?_
        refine v_ask (st := [.int (nI (C 14 k))]) (v2 := nI (C 14 (k - 1))) dL_bookings_40 (o_booking g o1) (qBk_at (p := k - 1) (w := 3) (by omega) (by omega) (by decide)) wL_112 o1.he rfl rfl ⟨Nat.le_of_ble_eq_true rfl, Nat.le_of_ble_eq_true rfl⟩ (Nat.le_of_ble_eq_true rfl) ⟨by omega, by omega⟩ ?_
        have b120 : C 14 (k - 1) < 2 ^ 28 := C_b g
        refine n_isub (x := C 14 k) (y := C 14 (k - 1)) dL_bookings_43 (by omega) ?_
        refine v_istore dL_bookings_44 rfl (by decide) ?_
        refine v_ls (ls2 := [some (.ref u), some (.ref n), some (.int (nI (C 0 2))), some (.int (nI k)), some (.int (nI (C 14 k - (C 14 (k - 1))))), none]) rfl ?_
        refine v_iload dL_bookings_46 rfl ?_
        refine n_if_eq (tgt := 56) (x := C 14 k - (C 14 (k - 1))) dL_bookings_48 (by decide) (by omega) (fun _ => ?_) (fun c => (by exfalso; omega))
        refine v_aload_n dL_bookings_56 rfl ?_
        refine v_aload_n dL_bookings_57 rfl ?_
        refine v_iload_n dL_bookings_58 rfl ?_
        refine v_iconst (v := nI 1) dL_bookings_59 (by decide) ?_
        refine n_isub (x := k) (y := 1) dL_bookings_60 (by omega) ?_
        refine v_iconst (v := nI 1) dL_bookings_61 (by decide) ?_
        refine v_ask (st := [.ref u]) (v2 := nI (C 12 (k - 1))) dL_bookings_62 (o_booking g o1) (qBk_at (p := k - 1) (w := 1) (by omega) (by omega) (by decide)) wL_112 o1.he rfl rfl ⟨Nat.le_of_ble_eq_true rfl, Nat.le_of_ble_eq_true rfl⟩ (Nat.le_of_ble_eq_true rfl) ⟨by omega, by omega⟩ ?_
        have b121 : C 12 (k - 1) < 2 ^ 28 := C_b g
        refine v_iconst (v := nI 0) dL_bookings_65 (by decide) ?_
        refine v_ask (st := []) (v2 := nI (C 7 (C 12 (k - 1)))) dL_bookings_66 (o_jokeOf g o1) (qJoke_at (j := C 12 (k - 1)) (w := 0) (by omega) (by omega) (by decide)) wL_103 o1.he rfl rfl ⟨Nat.le_of_ble_eq_true rfl, Nat.le_of_ble_eq_true rfl⟩ (Nat.le_of_ble_eq_true rfl) ⟨by omega, by omega⟩ ?_
        have b122 : C 7 (C 12 (k - 1)) < 2 ^ 28 := C_b g
        refine v_aload_n dL_bookings_69 rfl ?_
        refine v_aload_n dL_bookings_70 rfl ?_
        refine v_iload_n dL_bookings_71 rfl ?_
        refine v_iconst (v := nI 1) dL_bookings_72 (by decide) ?_
        refine v_ask (st := [.ref u, .int (nI (C 7 (C 12 (k - 1))))]) (v2 := nI (C 12 k)) dL_bookings_73 (o_booking g o1) (qBk_at (p := k) (w := 1) (by omega) (by omega) (by decide)) wL_112 o1.he rfl rfl ⟨Nat.le_of_ble_eq_true rfl, Nat.le_of_ble_eq_true rfl⟩ (Nat.le_of_ble_eq_true rfl) ⟨by omega, by omega⟩ ?_
        have b123 : C 12 k < 2 ^ 28 := C_b g
        refine v_iconst (v := nI 0) dL_bookings_76 (by decide) ?_
        refine v_ask (st := [.int (nI (C 7 (C 12 (k - 1))))]) (v2 := nI (C 7 (C 12 k))) dL_bookings_77 (o_jokeOf g o1) (qJoke_at (j := C 12 k) (w := 0) (by omega) (by omega) (by decide)) wL_103 o1.he rfl rfl ⟨Nat.le_of_ble_eq_true rfl, Nat.le_of_ble_eq_true rfl⟩ (Nat.le_of_ble_eq_true rfl) ⟨by omega, by omega⟩ ?_
        have b124 : C 7 (C 12 k) < 2 ^ 28 := C_b g
        refine n_isub (x := C 7 (C 12 (k - 1))) (y := C 7 (C 12 k)) dL_bookings_80 (by omega) ?_
        refine v_istore dL_bookings_81 rfl (by decide) ?_
        refine v_ls (ls2 := [some (.ref u), some (.ref n), some (.int (nI (C 0 2))), some (.int (nI k)), some (.int (nI ((C 7 (C 12 (k - 1))) - C 7 (C 12 k)))), none]) rfl ?_
        refine v_iload dL_bookings_83 rfl ?_
        refine n_if_eq (tgt := 93) (x := (C 7 (C 12 (k - 1))) - C 7 (C 12 k)) dL_bookings_85 (by decide) (by omega) (fun c => (by exfalso; omega)) (fun _ => ?_)
        refine v_iload dL_bookings_88 rfl ?_
        refine v_goto (tgt := 108) dL_bookings_90 (by decide) ?_
        refine v_istore dL_bookings_108 rfl (by decide) ?_
        refine v_ls (ls2 := [some (.ref u), some (.ref n), some (.int (nI (C 0 2))), some (.int (nI k)), some (.int (nI ((C 7 (C 12 (k - 1))) - C 7 (C 12 k)))), none]) rfl ?_
        refine v_aload_n dL_bookings_110 rfl ?_
        refine v_iload_n dL_bookings_111 rfl ?_
        refine n_if_ne (tgt := 120) (x := k) dL_bookings_112 (by decide) (by omega) (fun _ => ?_) (fun c => (by exfalso; omega))
        refine v_ldcs (i := 2) dL_bookings_120 (by decide) rfl rfl ?_
        refine v_appS (st := []) (ra := n) (L := cstL 2) (1) (0) dL_bookings_122 hb0 (Or.inr ⟨2, by decide, rfl, rfl⟩) (by omega) (by decide) wL_94 ⟨Nat.le_of_ble_eq_true rfl, Nat.le_of_ble_eq_true rfl⟩ (Nat.le_of_ble_eq_true rfl) (by omega) (by omega) (by omega) (by omega) (by omega) (fun a125 m125 n125 h125 hn125 hg125 hl125 hs125 hb125 fr125 => ?_)
        obtain ⟨S125, hS125⟩ : ∃ Sx : Ln, Sx = wl S0 (cstL 2) := ⟨_, rfl⟩
        rw [← hS125] at hb125
        have hk125 : S125.2 = S0.2 + (cstL 2).2 := by rw [hS125]; rfl
        have hm125 := hb125.2
        have ho126 : oP G u n125 _ a LN C T Sn sv rs dt := oP.fr o1 (by omega) (fun z hz1 hz2 => fr125 z (by omega)) (fr125 a (by omega))
        have fr127 : frP (fun z => z < n) _ _ := fun z (hz : z < n) => (fr125 z (by omega)).trans (fr0 z hz)
        refine v_widen (k1 := 1 + m125 / 16) (k2 := 0 + 2 * m125) (by omega) (by omega) ?_
        refine v_aload_n dL_bookings_125 rfl ?_
        refine v_iload_n dL_bookings_126 rfl ?_
        refine v_iconst (v := nI 0) dL_bookings_127 (by decide) ?_
        refine v_ask (st := [.ref n]) (v2 := nI (C 11 k)) dL_bookings_128 (o_booking g ho126) (qBk_at (p := k) (w := 0) (by omega) (by omega) (by decide)) wL_112 ho126.he rfl rfl ⟨Nat.le_of_ble_eq_true rfl, Nat.le_of_ble_eq_true rfl⟩ (Nat.le_of_ble_eq_true rfl) ⟨by omega, by omega⟩ ?_
        have b128 : C 11 k < 2 ^ 28 := C_b g
        have hv129 : C 11 k < 2 ^ 28 := by omega
        have hd129 := dg9 hv129
        refine v_appI (st := []) (x := C 11 k) (1) (0) dL_bookings_131 hb125 hv129 wL_84 ⟨Nat.le_of_ble_eq_true rfl, Nat.le_of_ble_eq_true rfl⟩ (Nat.le_of_ble_eq_true rfl) (by omega) (by omega) (by omega) (by omega) (by omega) (fun a130 m130 n130 h130 hn130 hg130 hl130 hs130 hb130 fr130 => ?_)
        obtain ⟨S130, hS130⟩ : ∃ Sx : Ln, Sx = wi S125 (C 11 k) := ⟨_, rfl⟩
        rw [← hS130] at hb130
        have hk130 : S130.2 = S125.2 + sb_dg (C 11 k) := by rw [hS130]; rfl
        have hm130 := hb130.2
        have ho131 : oP G u n130 _ a LN C T Sn sv rs dt := oP.fr ho126 (by omega) (fun z hz1 hz2 => fr130 z (by omega)) (fr130 a (by omega))
        have fr132 : frP (fun z => z < n) _ _ := fun z (hz : z < n) => (fr130 z (by omega)).trans (fr127 z hz)
        refine v_widen (k1 := 1 + m130 / 16) (k2 := 0 + 2 * m130) (by omega) (by omega) ?_
        refine v_bipush (v := nI 58) dL_bookings_134 (by decide) ?_
        refine v_appC (st := []) (c := 58) (1) (0) dL_bookings_136 hb130 (by omega) wL_77 ⟨Nat.le_of_ble_eq_true rfl, Nat.le_of_ble_eq_true rfl⟩ (Nat.le_of_ble_eq_true rfl) (by omega) (by omega) (by omega) (by omega) (by omega) (fun a133 m133 n133 h133 hn133 hg133 hl133 hs133 hb133 fr133 => ?_)
        obtain ⟨S133, hS133⟩ : ∃ Sx : Ln, Sx = wc S130 58 := ⟨_, rfl⟩
        rw [← hS133] at hb133
        have hk133 : S133.2 = S130.2 + 1 := by rw [hS133]; rfl
        have hm133 := hb133.2
        have ho134 : oP G u n133 _ a LN C T Sn sv rs dt := oP.fr ho131 (by omega) (fun z hz1 hz2 => fr133 z (by omega)) (fr133 a (by omega))
        have fr135 : frP (fun z => z < n) _ _ := fun z (hz : z < n) => (fr133 z (by omega)).trans (fr132 z hz)
        refine v_widen (k1 := 1 + m133 / 16) (k2 := 0 + 2 * m133) (by omega) (by omega) ?_
        refine v_aload_n dL_bookings_139 rfl ?_
        refine v_iload_n dL_bookings_140 rfl ?_
        refine v_iconst (v := nI 1) dL_bookings_141 (by decide) ?_
        refine v_ask (st := [.ref n]) (v2 := nI (C 12 k)) dL_bookings_142 (o_booking g ho134) (qBk_at (p := k) (w := 1) (by omega) (by omega) (by decide)) wL_112 ho134.he rfl rfl ⟨Nat.le_of_ble_eq_true rfl, Nat.le_of_ble_eq_true rfl⟩ (Nat.le_of_ble_eq_true rfl) ⟨by omega, by omega⟩ ?_
        have hv136 : C 12 k < 2 ^ 28 := by omega
        have hd136 := dg9 hv136
        refine v_appI (st := []) (x := C 12 k) (1) (0) dL_bookings_145 hb133 hv136 wL_84 ⟨Nat.le_of_ble_eq_true rfl, Nat.le_of_ble_eq_true rfl⟩ (Nat.le_of_ble_eq_true rfl) (by omega) (by omega) (by omega) (by omega) (by omega) (fun a137 m137 n137 h137 hn137 hg137 hl137 hs137 hb137 fr137 => ?_)
        obtain ⟨S137, hS137⟩ : ∃ Sx : Ln, Sx = wi S133 (C 12 k) := ⟨_, rfl⟩
        rw [← hS137] at hb137
        have hk137 : S137.2 = S133.2 + sb_dg (C 12 k) := by rw [hS137]; rfl
        have hm137 := hb137.2
        have ho138 : oP G u n137 _ a LN C T Sn sv rs dt := oP.fr ho134 (by omega) (fun z hz1 hz2 => fr137 z (by omega)) (fr137 a (by omega))
        have fr139 : frP (fun z => z < n) _ _ := fun z (hz : z < n) => (fr137 z (by omega)).trans (fr135 z hz)
        refine v_widen (k1 := 1 + m137 / 16) (k2 := 0 + 2 * m137) (by omega) (by omega) ?_
        refine v_bipush (v := nI 64) dL_bookings_148 (by decide) ?_
        refine v_appC (st := []) (c := 64) (1) (0) dL_bookings_150 hb137 (by omega) wL_77 ⟨Nat.le_of_ble_eq_true rfl, Nat.le_of_ble_eq_true rfl⟩ (Nat.le_of_ble_eq_true rfl) (by omega) (by omega) (by omega) (by omega) (by omega) (fun a140 m140 n140 h140 hn140 hg140 hl140 hs140 hb140 fr140 => ?_)
        obtain ⟨S140, hS140⟩ : ∃ Sx : Ln, Sx = wc S137 64 := ⟨_, rfl⟩
        rw [← hS140] at hb140
        have hk140 : S140.2 = S137.2 + 1 := by rw [hS140]; rfl
        have hm140 := hb140.2
        have ho141 : oP G u n140 _ a LN C T Sn sv rs dt := oP.fr ho138 (by omega) (fun z hz1 hz2 => fr140 z (by omega)) (fr140 a (by omega))
        have fr142 : frP (fun z => z < n) _ _ := fun z (hz : z < n) => (fr140 z (by omega)).trans (fr139 z hz)
        refine v_widen (k1 := 1 + m140 / 16) (k2 := 0 + 2 * m140) (by omega) (by omega) ?_
        refine v_aload_n dL_bookings_153 rfl ?_
        refine v_iload_n dL_bookings_154 rfl ?_
        refine v_iconst (v := nI 2) dL_bookings_155 (by decide) ?_
        refine v_ask (st := [.ref n]) (v2 := nI (C 13 k)) dL_bookings_156 (o_booking g ho141) (qBk_at (p := k) (w := 2) (by omega) (by omega) (by decide)) wL_112 ho141.he rfl rfl ⟨Nat.le_of_ble_eq_true rfl, Nat.le_of_ble_eq_true rfl⟩ (Nat.le_of_ble_eq_true rfl) ⟨by omega, by omega⟩ ?_
        have b143 : C 13 k < 2 ^ 28 := C_b g
        have hv144 : C 13 k < 2 ^ 28 := by omega
        have hd144 := dg9 hv144
        refine v_appI (st := []) (x := C 13 k) (1) (0) dL_bookings_159 hb140 hv144 wL_84 ⟨Nat.le_of_ble_eq_true rfl, Nat.le_of_ble_eq_true rfl⟩ (Nat.le_of_ble_eq_true rfl) (by omega) (by omega) (by omega) (by omega) (by omega) (fun a145 m145 n145 h145 hn145 hg145 hl145 hs145 hb145 fr145 => ?_)
        obtain ⟨S145, hS145⟩ : ∃ Sx : Ln, Sx = wi S140 (C 13 k) := ⟨_, rfl⟩
        rw [← hS145] at hb145
        have hk145 : S145.2 = S140.2 + sb_dg (C 13 k) := by rw [hS145]; rfl
        have hm145 := hb145.2
        have ho146 : oP G u n145 _ a LN C T Sn sv rs dt := oP.fr ho141 (by omega) (fun z hz1 hz2 => fr145 z (by omega)) (fr145 a (by omega))
        have fr147 : frP (fun z => z < n) _ _ := fun z (hz : z < n) => (fr145 z (by omega)).trans (fr142 z hz)
        refine v_widen (k1 := 1 + m145 / 16) (k2 := 0 + 2 * m145) (by omega) (by omega) ?_
        refine v_bipush (v := nI 61) dL_bookings_162 (by decide) ?_
        refine v_appC (st := []) (c := 61) (1) (0) dL_bookings_164 hb145 (by omega) wL_77 ⟨Nat.le_of_ble_eq_true rfl, Nat.le_of_ble_eq_true rfl⟩ (Nat.le_of_ble_eq_true rfl) (by omega) (by omega) (by omega) (by omega) (by omega) (fun a148 m148 n148 h148 hn148 hg148 hl148 hs148 hb148 fr148 => ?_)
        obtain ⟨S148, hS148⟩ : ∃ Sx : Ln, Sx = wc S145 61 := ⟨_, rfl⟩
        rw [← hS148] at hb148
        have hk148 : S148.2 = S145.2 + 1 := by rw [hS148]; rfl
        have hm148 := hb148.2
        have ho149 : oP G u n148 _ a LN C T Sn sv rs dt := oP.fr ho146 (by omega) (fun z hz1 hz2 => fr148 z (by omega)) (fr148 a (by omega))
        have fr150 : frP (fun z => z < n) _ _ := fun z (hz : z < n) => (fr148 z (by omega)).trans (fr147 z hz)
        refine v_widen (k1 := 1 + m148 / 16) (k2 := 0 + 2 * m148) (by omega) (by omega) ?_
        refine v_aload_n dL_bookings_167 rfl ?_
        refine v_iload_n dL_bookings_168 rfl ?_
        refine v_iconst (v := nI 3) dL_bookings_169 (by decide) ?_
        refine v_ask (st := [.ref n]) (v2 := nI (C 14 k)) dL_bookings_170 (o_booking g ho149) (qBk_at (p := k) (w := 3) (by omega) (by omega) (by decide)) wL_112 ho149.he rfl rfl ⟨Nat.le_of_ble_eq_true rfl, Nat.le_of_ble_eq_true rfl⟩ (Nat.le_of_ble_eq_true rfl) ⟨by omega, by omega⟩ ?_
        have hv151 : C 14 k < 2 ^ 28 := by omega
        have hd151 := dg9 hv151
        refine v_appI (st := []) (x := C 14 k) (1) (0) dL_bookings_173 hb148 hv151 wL_84 ⟨Nat.le_of_ble_eq_true rfl, Nat.le_of_ble_eq_true rfl⟩ (Nat.le_of_ble_eq_true rfl) (by omega) (by omega) (by omega) (by omega) (by omega) (fun a152 m152 n152 h152 hn152 hg152 hl152 hs152 hb152 fr152 => ?_)
        obtain ⟨S152, hS152⟩ : ∃ Sx : Ln, Sx = wi S148 (C 14 k) := ⟨_, rfl⟩
        rw [← hS152] at hb152
        have hk152 : S152.2 = S148.2 + sb_dg (C 14 k) := by rw [hS152]; rfl
        have hm152 := hb152.2
        have ho153 : oP G u n152 _ a LN C T Sn sv rs dt := oP.fr ho149 (by omega) (fun z hz1 hz2 => fr152 z (by omega)) (fr152 a (by omega))
        have fr154 : frP (fun z => z < n) _ _ := fun z (hz : z < n) => (fr152 z (by omega)).trans (fr150 z hz)
        refine v_widen (k1 := 1 + m152 / 16) (k2 := 0 + 2 * m152) (by omega) (by omega) ?_
        refine v_pop dL_bookings_176 rfl ?_
        refine v_iload dL_bookings_177 rfl ?_
        refine n_if_le (tgt := 196) (x := (C 7 (C 12 (k - 1))) - C 7 (C 12 k)) dL_bookings_179 (by decide) (by omega) (fun c => (by exfalso; omega)) (fun _ => ?_)
        refine v_aload_n dL_bookings_182 rfl ?_
        refine v_iload_n dL_bookings_183 rfl ?_
        refine v_iconst (v := nI 3) dL_bookings_184 (by decide) ?_
        refine v_ask (st := []) (v2 := nI (C 14 k)) dL_bookings_185 (o_booking g ho153) (qBk_at (p := k) (w := 3) (by omega) (by omega) (by decide)) wL_112 ho153.he rfl rfl ⟨Nat.le_of_ble_eq_true rfl, Nat.le_of_ble_eq_true rfl⟩ (Nat.le_of_ble_eq_true rfl) ⟨by omega, by omega⟩ ?_
        refine v_aload_n dL_bookings_188 rfl ?_
        refine v_iconst (v := nI 3) dL_bookings_189 (by decide) ?_
        refine v_ask (st := [.int (nI (C 14 k))]) (v2 := nI (C 0 3)) dL_bookings_190 (o_account g ho153) (qAcc_at (w := 3) (by decide)) wL_34 ho153.he rfl rfl ⟨Nat.le_of_ble_eq_true rfl, Nat.le_of_ble_eq_true rfl⟩ (Nat.le_of_ble_eq_true rfl) ⟨by omega, by omega⟩ ?_
        have b155 : C 0 3 < 2 ^ 28 := C_b g
        refine n_icmp_ge (tgt := 198) (x := C 14 k) (y := C 0 3) dL_bookings_193 (by decide) (by omega) (by omega) (fun _ => ?_) (fun c => (by exfalso; omega))
        refine v_iconst (v := nI 0) dL_bookings_198 (by decide) ?_
        refine v_istore dL_bookings_199 rfl (by decide) ?_
        refine v_ls (ls2 := [some (.ref u), some (.ref n), some (.int (nI (C 0 2))), some (.int (nI k)), some (.int (nI ((C 7 (C 12 (k - 1))) - C 7 (C 12 k)))), some (.int (nI 0))]) rfl ?_
        refine v_forget 4 ?_
        refine v_ls (ls2 := [some (.ref u), some (.ref n), some (.int (nI (C 0 2))), some (.int (nI k)), none, some (.int (nI 0))]) rfl ?_
        refine loopV (fun i => [some (.ref u), some (.ref n), some (.int (nI (C 0 2))), some (.int (nI k)), none, some (.int (nI i))]) (fun _ => True) (N := k) 0 (Nat.zero_le _) rfl trivial (fun i hi9 _ ihI => ?_)
        have q1 := C_b (x := 11) (y := i) g
        refine v_iload dL_bookings_201 rfl ?_
        refine v_iload_n dL_bookings_203 rfl ?_
        refine n_icmp_ge (tgt := 247) (x := i) (y := k) dL_bookings_204 (by decide) (by omega) (by omega) (fun c156 => ?_) (fun c156 => ?_)
        · refine n_iinc (k := 1) (x := k) dL_bookings_247 (by decide) rfl rfl (by decide) ?_
          refine v_ls (ls2 := [some (.ref u), some (.ref n), some (.int (nI (C 0 2))), some (.int (nI (k + 1))), none, some (.int (nI i))]) rfl ?_
          refine v_goto (tgt := 16) dL_bookings_250 (by decide) ?_
          refine v_forget 5 ?_
          refine v_ls (ls2 := [some (.ref u), some (.ref n), some (.int (nI (C 0 2))), some (.int (nI (k + 1))), none, none]) rfl ?_
          have e9 : S152 = bkL C zL (k + 1) := by rw [bkL, if_pos hk9]; rw [hS152]; rw [hS148]; rw [hS145]; rw [hS140]; rw [hS137]; rw [hS133]; rw [hS130]; rw [hS125]; rw [hS0]; rfl
          rw [e9] at hb152
          refine v_widen (k1 := 1 + m152 / 16) (k2 := 0 + 2 * m152) (by omega) (by omega) ?_
          exact ihB (by omega) _ _ _ ⟨_, hb152, by omega, by omega, by omega, fr154⟩
        · refine v_aload_n dL_bookings_207 rfl ?_
          refine v_iload dL_bookings_208 rfl ?_
          refine v_iconst (v := nI 0) dL_bookings_210 (by decide) ?_
          refine v_ask (st := []) (v2 := nI (C 11 i)) dL_bookings_211 (o_booking g ho153) (qBk_at (p := i) (w := 0) (by omega) (by omega) (by decide)) wL_112 ho153.he rfl rfl ⟨Nat.le_of_ble_eq_true rfl, Nat.le_of_ble_eq_true rfl⟩ (Nat.le_of_ble_eq_true rfl) ⟨by omega, by omega⟩ ?_
          have b157 : C 11 i < 2 ^ 28 := C_b g
          refine v_aload_n dL_bookings_214 rfl ?_
          refine v_iload_n dL_bookings_215 rfl ?_
          refine v_iconst (v := nI 0) dL_bookings_216 (by decide) ?_
          refine v_ask (st := [.int (nI (C 11 i))]) (v2 := nI (C 11 k)) dL_bookings_217 (o_booking g ho153) (qBk_at (p := k) (w := 0) (by omega) (by omega) (by decide)) wL_112 ho153.he rfl rfl ⟨Nat.le_of_ble_eq_true rfl, Nat.le_of_ble_eq_true rfl⟩ (Nat.le_of_ble_eq_true rfl) ⟨by omega, by omega⟩ ?_
          refine n_icmp_ne (tgt := 241) (x := C 11 i) (y := C 11 k) dL_bookings_220 (by decide) (by omega) (by omega) (fun c158 => ?_) (fun c158 => ?_)
          · refine n_iinc (k := 1) (x := i) dL_bookings_241 (by decide) rfl rfl (by decide) ?_
            refine v_ls (ls2 := [some (.ref u), some (.ref n), some (.int (nI (C 0 2))), some (.int (nI k)), none, some (.int (nI (i + 1)))]) rfl ?_
            refine v_goto (tgt := 201) dL_bookings_244 (by decide) ?_
            refine v_ls (ls2 := [some (.ref u), some (.ref n), some (.int (nI (C 0 2))), some (.int (nI k)), none, some (.int (nI (i + 1)))]) rfl ?_
            exact ihI (by omega) trivial
          · refine v_aload_n dL_bookings_223 rfl ?_
            refine v_iload dL_bookings_224 rfl ?_
            refine v_iconst (v := nI 3) dL_bookings_226 (by decide) ?_
            refine v_ask (st := []) (v2 := nI (C 14 i)) dL_bookings_227 (o_booking g ho153) (qBk_at (p := i) (w := 3) (by omega) (by omega) (by decide)) wL_112 ho153.he rfl rfl ⟨Nat.le_of_ble_eq_true rfl, Nat.le_of_ble_eq_true rfl⟩ (Nat.le_of_ble_eq_true rfl) ⟨by omega, by omega⟩ ?_
            have b159 : C 14 i < 2 ^ 28 := C_b g
            refine v_aload_n dL_bookings_230 rfl ?_
            refine v_iload_n dL_bookings_231 rfl ?_
            refine v_iconst (v := nI 3) dL_bookings_232 (by decide) ?_
            refine v_ask (st := [.int (nI (C 14 i))]) (v2 := nI (C 14 k)) dL_bookings_233 (o_booking g ho153) (qBk_at (p := k) (w := 3) (by omega) (by omega) (by decide)) wL_112 ho153.he rfl rfl ⟨Nat.le_of_ble_eq_true rfl, Nat.le_of_ble_eq_true rfl⟩ (Nat.le_of_ble_eq_true rfl) ⟨by omega, by omega⟩ ?_
            refine n_icmp_ne (tgt := 241) (x := C 14 i) (y := C 14 k) dL_bookings_236 (by decide) (by omega) (by omega) (fun c160 => ?_) (fun c160 => ?_)
            · refine n_iinc (k := 1) (x := i) dL_bookings_241 (by decide) rfl rfl (by decide) ?_
              refine v_ls (ls2 := [some (.ref u), some (.ref n), some (.int (nI (C 0 2))), some (.int (nI k)), none, some (.int (nI (i + 1)))]) rfl ?_
              refine v_goto (tgt := 201) dL_bookings_244 (by decide) ?_
              refine v_ls (ls2 := [some (.ref u), some (.ref n), some (.int (nI (C 0 2))), some (.int (nI k)), none, some (.int (nI (i + 1)))]) rfl ?_
              exact ihI (by omega) trivial
            · exact absurd ⟨c158, c160⟩ (hap i k (by omega) (by omega))
      · refine v_iload_n dL_bookings_21 rfl ?_
        refine n_if_ne (tgt := 29) (x := k) dL_bookings_22 (by decide) (by omega) (fun _ => ?_) (fun c => (by exfalso; omega))
        refine v_aload_n dL_bookings_29 rfl ?_
        refine v_iload_n dL_bookings_30 rfl ?_
        refine v_iconst (v := nI 3) dL_bookings_31 (by decide) ?_
        refine v_ask (st := []) (v2 := nI (C 14 k)) dL_bookings_32 (o_booking g o1) (qBk_at (p := k) (w := 3) (by omega) (by omega) (by decide)) wL_112 o1.he rfl rfl ⟨Nat.le_of_ble_eq_true rfl, Nat.le_of_ble_eq_true rfl⟩ (Nat.le_of_ble_eq_true rfl) ⟨by omega, by omega⟩ ?_
        have b161 : C 14 k < 2 ^ 28 := C_b g
        refine v_aload_n dL_bookings_35 rfl ?_
        refine v_iload_n dL_bookings_36 rfl ?_
        refine v_iconst (v := nI 1) dL_bookings_37 (by decide) ?_
        refine n_isub (x := k) (y := 1) dL_bookings_38 (by omega) ?_
        refine v_iconst (v := nI 3) dL_bookings_39 (by decide) ?_
        refine v_ask (st := [.int (nI (C 14 k))]) (v2 := nI (C 14 (k - 1))) dL_bookings_40 (o_booking g o1) (qBk_at (p := k - 1) (w := 3) (by omega) (by omega) (by decide)) wL_112 o1.he rfl rfl ⟨Nat.le_of_ble_eq_true rfl, Nat.le_of_ble_eq_true rfl⟩ (Nat.le_of_ble_eq_true rfl) ⟨by omega, by omega⟩ ?_
        have b162 : C 14 (k - 1) < 2 ^ 28 := C_b g
        refine n_isub (x := C 14 k) (y := C 14 (k - 1)) dL_bookings_43 (by omega) ?_
        refine v_istore dL_bookings_44 rfl (by decide) ?_
        refine v_ls (ls2 := [some (.ref u), some (.ref n), some (.int (nI (C 0 2))), some (.int (nI k)), some (.int (nI (C 14 k - (C 14 (k - 1))))), none]) rfl ?_
        refine v_iload dL_bookings_46 rfl ?_
        refine n_if_eq (tgt := 56) (x := C 14 k - (C 14 (k - 1))) dL_bookings_48 (by decide) (by omega) (fun _ => ?_) (fun c => (by exfalso; omega))
        refine v_aload_n dL_bookings_56 rfl ?_
        refine v_aload_n dL_bookings_57 rfl ?_
        refine v_iload_n dL_bookings_58 rfl ?_
        refine v_iconst (v := nI 1) dL_bookings_59 (by decide) ?_
        refine n_isub (x := k) (y := 1) dL_bookings_60 (by omega) ?_
        refine v_iconst (v := nI 1) dL_bookings_61 (by decide) ?_
        refine v_ask (st := [.ref u]) (v2 := nI (C 12 (k - 1))) dL_bookings_62 (o_booking g o1) (qBk_at (p := k - 1) (w := 1) (by omega) (by omega) (by decide)) wL_112 o1.he rfl rfl ⟨Nat.le_of_ble_eq_true rfl, Nat.le_of_ble_eq_true rfl⟩ (Nat.le_of_ble_eq_true rfl) ⟨by omega, by omega⟩ ?_
        have b163 : C 12 (k - 1) < 2 ^ 28 := C_b g
        refine v_iconst (v := nI 0) dL_bookings_65 (by decide) ?_
        refine v_ask (st := []) (v2 := nI (C 7 (C 12 (k - 1)))) dL_bookings_66 (o_jokeOf g o1) (qJoke_at (j := C 12 (k - 1)) (w := 0) (by omega) (by omega) (by decide)) wL_103 o1.he rfl rfl ⟨Nat.le_of_ble_eq_true rfl, Nat.le_of_ble_eq_true rfl⟩ (Nat.le_of_ble_eq_true rfl) ⟨by omega, by omega⟩ ?_
        have b164 : C 7 (C 12 (k - 1)) < 2 ^ 28 := C_b g
        refine v_aload_n dL_bookings_69 rfl ?_
        refine v_aload_n dL_bookings_70 rfl ?_
        refine v_iload_n dL_bookings_71 rfl ?_
        refine v_iconst (v := nI 1) dL_bookings_72 (by decide) ?_
        refine v_ask (st := [.ref u, .int (nI (C 7 (C 12 (k - 1))))]) (v2 := nI (C 12 k)) dL_bookings_73 (o_booking g o1) (qBk_at (p := k) (w := 1) (by omega) (by omega) (by decide)) wL_112 o1.he rfl rfl ⟨Nat.le_of_ble_eq_true rfl, Nat.le_of_ble_eq_true rfl⟩ (Nat.le_of_ble_eq_true rfl) ⟨by omega, by omega⟩ ?_
        have b165 : C 12 k < 2 ^ 28 := C_b g
        refine v_iconst (v := nI 0) dL_bookings_76 (by decide) ?_
        refine v_ask (st := [.int (nI (C 7 (C 12 (k - 1))))]) (v2 := nI (C 7 (C 12 k))) dL_bookings_77 (o_jokeOf g o1) (qJoke_at (j := C 12 k) (w := 0) (by omega) (by omega) (by decide)) wL_103 o1.he rfl rfl ⟨Nat.le_of_ble_eq_true rfl, Nat.le_of_ble_eq_true rfl⟩ (Nat.le_of_ble_eq_true rfl) ⟨by omega, by omega⟩ ?_
        have b166 : C 7 (C 12 k) < 2 ^ 28 := C_b g
        refine n_isub (x := C 7 (C 12 (k - 1))) (y := C 7 (C 12 k)) dL_bookings_80 (by omega) ?_
        refine v_istore dL_bookings_81 rfl (by decide) ?_
        refine v_ls (ls2 := [some (.ref u), some (.ref n), some (.int (nI (C 0 2))), some (.int (nI k)), some (.int (nI ((C 7 (C 12 (k - 1))) - C 7 (C 12 k)))), none]) rfl ?_
        refine v_iload dL_bookings_83 rfl ?_
        refine n_if_eq (tgt := 93) (x := (C 7 (C 12 (k - 1))) - C 7 (C 12 k)) dL_bookings_85 (by decide) (by omega) (fun _ => ?_) (fun c => (by exfalso; omega))
        refine v_aload_n dL_bookings_93 rfl ?_
        refine v_iload_n dL_bookings_94 rfl ?_
        refine v_iconst (v := nI 0) dL_bookings_95 (by decide) ?_
        refine v_ask (st := []) (v2 := nI (C 11 k)) dL_bookings_96 (o_booking g o1) (qBk_at (p := k) (w := 0) (by omega) (by omega) (by decide)) wL_112 o1.he rfl rfl ⟨Nat.le_of_ble_eq_true rfl, Nat.le_of_ble_eq_true rfl⟩ (Nat.le_of_ble_eq_true rfl) ⟨by omega, by omega⟩ ?_
        have b167 : C 11 k < 2 ^ 28 := C_b g
        refine v_aload_n dL_bookings_99 rfl ?_
        refine v_iload_n dL_bookings_100 rfl ?_
        refine v_iconst (v := nI 1) dL_bookings_101 (by decide) ?_
        refine n_isub (x := k) (y := 1) dL_bookings_102 (by omega) ?_
        refine v_iconst (v := nI 0) dL_bookings_103 (by decide) ?_
        refine v_ask (st := [.int (nI (C 11 k))]) (v2 := nI (C 11 (k - 1))) dL_bookings_104 (o_booking g o1) (qBk_at (p := k - 1) (w := 0) (by omega) (by omega) (by decide)) wL_112 o1.he rfl rfl ⟨Nat.le_of_ble_eq_true rfl, Nat.le_of_ble_eq_true rfl⟩ (Nat.le_of_ble_eq_true rfl) ⟨by omega, by omega⟩ ?_
        have b168 : C 11 (k - 1) < 2 ^ 28 := C_b g
        refine n_isub (x := C 11 k) (y := C 11 (k - 1)) dL_bookings_107 (by omega) ?_
        refine v_istore dL_bookings_108 rfl (by decide) ?_
        refine v_ls (ls2 := [some (.ref u), some (.ref n), some (.int (nI (C 0 2))), some (.int (nI k)), some (.int (nI (C 11 k - (C 11 (k - 1))))), none]) rfl ?_
        refine v_aload_n dL_bookings_110 rfl ?_
        refine v_iload_n dL_bookings_111 rfl ?_
        refine n_if_ne (tgt := 120) (x := k) dL_bookings_112 (by decide) (by omega) (fun _ => ?_) (fun c => (by exfalso; omega))
        refine v_ldcs (i := 2) dL_bookings_120 (by decide) rfl rfl ?_
        refine v_appS (st := []) (ra := n) (L := cstL 2) (1) (0) dL_bookings_122 hb0 (Or.inr ⟨2, by decide, rfl, rfl⟩) (by omega) (by decide) wL_94 ⟨Nat.le_of_ble_eq_true rfl, Nat.le_of_ble_eq_true rfl⟩ (Nat.le_of_ble_eq_true rfl) (by omega) (by omega) (by omega) (by omega) (by omega) (fun a169 m169 n169 h169 hn169 hg169 hl169 hs169 hb169 fr169 => ?_)
        obtain ⟨S169, hS169⟩ : ∃ Sx : Ln, Sx = wl S0 (cstL 2) := ⟨_, rfl⟩
        rw [← hS169] at hb169
        have hk169 : S169.2 = S0.2 + (cstL 2).2 := by rw [hS169]; rfl
        have hm169 := hb169.2
        have ho170 : oP G u n169 _ a LN C T Sn sv rs dt := oP.fr o1 (by omega) (fun z hz1 hz2 => fr169 z (by omega)) (fr169 a (by omega))
        have fr171 : frP (fun z => z < n) _ _ := fun z (hz : z < n) => (fr169 z (by omega)).trans (fr0 z hz)
        refine v_widen (k1 := 1 + m169 / 16) (k2 := 0 + 2 * m169) (by omega) (by omega) ?_
        refine v_aload_n dL_bookings_125 rfl ?_
        refine v_iload_n dL_bookings_126 rfl ?_
        refine v_iconst (v := nI 0) dL_bookings_127 (by decide) ?_
        refine v_ask (st := [.ref n]) (v2 := nI (C 11 k)) dL_bookings_128 (o_booking g ho170) (qBk_at (p := k) (w := 0) (by omega) (by omega) (by decide)) wL_112 ho170.he rfl rfl ⟨Nat.le_of_ble_eq_true rfl, Nat.le_of_ble_eq_true rfl⟩ (Nat.le_of_ble_eq_true rfl) ⟨by omega, by omega⟩ ?_
        have hv172 : C 11 k < 2 ^ 28 := by omega
        have hd172 := dg9 hv172
        refine v_appI (st := []) (x := C 11 k) (1) (0) dL_bookings_131 hb169 hv172 wL_84 ⟨Nat.le_of_ble_eq_true rfl, Nat.le_of_ble_eq_true rfl⟩ (Nat.le_of_ble_eq_true rfl) (by omega) (by omega) (by omega) (by omega) (by omega) (fun a173 m173 n173 h173 hn173 hg173 hl173 hs173 hb173 fr173 => ?_)
        obtain ⟨S173, hS173⟩ : ∃ Sx : Ln, Sx = wi S169 (C 11 k) := ⟨_, rfl⟩
        rw [← hS173] at hb173
        have hk173 : S173.2 = S169.2 + sb_dg (C 11 k) := by rw [hS173]; rfl
        have hm173 := hb173.2
        have ho174 : oP G u n173 _ a LN C T Sn sv rs dt := oP.fr ho170 (by omega) (fun z hz1 hz2 => fr173 z (by omega)) (fr173 a (by omega))
        have fr175 : frP (fun z => z < n) _ _ := fun z (hz : z < n) => (fr173 z (by omega)).trans (fr171 z hz)
        refine v_widen (k1 := 1 + m173 / 16) (k2 := 0 + 2 * m173) (by omega) (by omega) ?_
        refine v_bipush (v := nI 58) dL_bookings_134 (by decide) ?_
        refine v_appC (st := []) (c := 58) (1) (0) dL_bookings_136 hb173 (by omega) wL_77 ⟨Nat.le_of_ble_eq_true rfl, Nat.le_of_ble_eq_true rfl⟩ (Nat.le_of_ble_eq_true rfl) (by omega) (by omega) (by omega) (by omega) (by omega) (fun a176 m176 n176 h176 hn176 hg176 hl176 hs176 hb176 fr176 => ?_)
        obtain ⟨S176, hS176⟩ : ∃ Sx : Ln, Sx = wc S173 58 := ⟨_, rfl⟩
        rw [← hS176] at hb176
        have hk176 : S176.2 = S173.2 + 1 := by rw [hS176]; rfl
        have hm176 := hb176.2
        have ho177 : oP G u n176 _ a LN C T Sn sv rs dt := oP.fr ho174 (by omega) (fun z hz1 hz2 => fr176 z (by omega)) (fr176 a (by omega))
        have fr178 : frP (fun z => z < n) _ _ := fun z (hz : z < n) => (fr176 z (by omega)).trans (fr175 z hz)
        refine v_widen (k1 := 1 + m176 / 16) (k2 := 0 + 2 * m176) (by omega) (by omega) ?_
        refine v_aload_n dL_bookings_139 rfl ?_
        refine v_iload_n dL_bookings_140 rfl ?_
        refine v_iconst (v := nI 1) dL_bookings_141 (by decide) ?_
        refine v_ask (st := [.ref n]) (v2 := nI (C 12 k)) dL_bookings_142 (o_booking g ho177) (qBk_at (p := k) (w := 1) (by omega) (by omega) (by decide)) wL_112 ho177.he rfl rfl ⟨Nat.le_of_ble_eq_true rfl, Nat.le_of_ble_eq_true rfl⟩ (Nat.le_of_ble_eq_true rfl) ⟨by omega, by omega⟩ ?_
        have hv179 : C 12 k < 2 ^ 28 := by omega
        have hd179 := dg9 hv179
        refine v_appI (st := []) (x := C 12 k) (1) (0) dL_bookings_145 hb176 hv179 wL_84 ⟨Nat.le_of_ble_eq_true rfl, Nat.le_of_ble_eq_true rfl⟩ (Nat.le_of_ble_eq_true rfl) (by omega) (by omega) (by omega) (by omega) (by omega) (fun a180 m180 n180 h180 hn180 hg180 hl180 hs180 hb180 fr180 => ?_)
        obtain ⟨S180, hS180⟩ : ∃ Sx : Ln, Sx = wi S176 (C 12 k) := ⟨_, rfl⟩
        rw [← hS180] at hb180
        have hk180 : S180.2 = S176.2 + sb_dg (C 12 k) := by rw [hS180]; rfl
        have hm180 := hb180.2
        have ho181 : oP G u n180 _ a LN C T Sn sv rs dt := oP.fr ho177 (by omega) (fun z hz1 hz2 => fr180 z (by omega)) (fr180 a (by omega))
        have fr182 : frP (fun z => z < n) _ _ := fun z (hz : z < n) => (fr180 z (by omega)).trans (fr178 z hz)
        refine v_widen (k1 := 1 + m180 / 16) (k2 := 0 + 2 * m180) (by omega) (by omega) ?_
        refine v_bipush (v := nI 64) dL_bookings_148 (by decide) ?_
        refine v_appC (st := []) (c := 64) (1) (0) dL_bookings_150 hb180 (by omega) wL_77 ⟨Nat.le_of_ble_eq_true rfl, Nat.le_of_ble_eq_true rfl⟩ (Nat.le_of_ble_eq_true rfl) (by omega) (by omega) (by omega) (by omega) (by omega) (fun a183 m183 n183 h183 hn183 hg183 hl183 hs183 hb183 fr183 => ?_)
        obtain ⟨S183, hS183⟩ : ∃ Sx : Ln, Sx = wc S180 64 := ⟨_, rfl⟩
        rw [← hS183] at hb183
        have hk183 : S183.2 = S180.2 + 1 := by rw [hS183]; rfl
        have hm183 := hb183.2
        have ho184 : oP G u n183 _ a LN C T Sn sv rs dt := oP.fr ho181 (by omega) (fun z hz1 hz2 => fr183 z (by omega)) (fr183 a (by omega))
        have fr185 : frP (fun z => z < n) _ _ := fun z (hz : z < n) => (fr183 z (by omega)).trans (fr182 z hz)
        refine v_widen (k1 := 1 + m183 / 16) (k2 := 0 + 2 * m183) (by omega) (by omega) ?_
        refine v_aload_n dL_bookings_153 rfl ?_
        refine v_iload_n dL_bookings_154 rfl ?_
        refine v_iconst (v := nI 2) dL_bookings_155 (by decide) ?_
        refine v_ask (st := [.ref n]) (v2 := nI (C 13 k)) dL_bookings_156 (o_booking g ho184) (qBk_at (p := k) (w := 2) (by omega) (by omega) (by decide)) wL_112 ho184.he rfl rfl ⟨Nat.le_of_ble_eq_true rfl, Nat.le_of_ble_eq_true rfl⟩ (Nat.le_of_ble_eq_true rfl) ⟨by omega, by omega⟩ ?_
        have b186 : C 13 k < 2 ^ 28 := C_b g
        have hv187 : C 13 k < 2 ^ 28 := by omega
        have hd187 := dg9 hv187
        refine v_appI (st := []) (x := C 13 k) (1) (0) dL_bookings_159 hb183 hv187 wL_84 ⟨Nat.le_of_ble_eq_true rfl, Nat.le_of_ble_eq_true rfl⟩ (Nat.le_of_ble_eq_true rfl) (by omega) (by omega) (by omega) (by omega) (by omega) (fun a188 m188 n188 h188 hn188 hg188 hl188 hs188 hb188 fr188 => ?_)
        obtain ⟨S188, hS188⟩ : ∃ Sx : Ln, Sx = wi S183 (C 13 k) := ⟨_, rfl⟩
        rw [← hS188] at hb188
        have hk188 : S188.2 = S183.2 + sb_dg (C 13 k) := by rw [hS188]; rfl
        have hm188 := hb188.2
        have ho189 : oP G u n188 _ a LN C T Sn sv rs dt := oP.fr ho184 (by omega) (fun z hz1 hz2 => fr188 z (by omega)) (fr188 a (by omega))
        have fr190 : frP (fun z => z < n) _ _ := fun z (hz : z < n) => (fr188 z (by omega)).trans (fr185 z hz)
        refine v_widen (k1 := 1 + m188 / 16) (k2 := 0 + 2 * m188) (by omega) (by omega) ?_
        refine v_bipush (v := nI 61) dL_bookings_162 (by decide) ?_
        refine v_appC (st := []) (c := 61) (1) (0) dL_bookings_164 hb188 (by omega) wL_77 ⟨Nat.le_of_ble_eq_true rfl, Nat.le_of_ble_eq_true rfl⟩ (Nat.le_of_ble_eq_true rfl) (by omega) (by omega) (by omega) (by omega) (by omega) (fun a191 m191 n191 h191 hn191 hg191 hl191 hs191 hb191 fr191 => ?_)
        obtain ⟨S191, hS191⟩ : ∃ Sx : Ln, Sx = wc S188 61 := ⟨_, rfl⟩
        rw [← hS191] at hb191
        have hk191 : S191.2 = S188.2 + 1 := by rw [hS191]; rfl
        have hm191 := hb191.2
        have ho192 : oP G u n191 _ a LN C T Sn sv rs dt := oP.fr ho189 (by omega) (fun z hz1 hz2 => fr191 z (by omega)) (fr191 a (by omega))
        have fr193 : frP (fun z => z < n) _ _ := fun z (hz : z < n) => (fr191 z (by omega)).trans (fr190 z hz)
        refine v_widen (k1 := 1 + m191 / 16) (k2 := 0 + 2 * m191) (by omega) (by omega) ?_
        refine v_aload_n dL_bookings_167 rfl ?_
        refine v_iload_n dL_bookings_168 rfl ?_
        refine v_iconst (v := nI 3) dL_bookings_169 (by decide) ?_
        refine v_ask (st := [.ref n]) (v2 := nI (C 14 k)) dL_bookings_170 (o_booking g ho192) (qBk_at (p := k) (w := 3) (by omega) (by omega) (by decide)) wL_112 ho192.he rfl rfl ⟨Nat.le_of_ble_eq_true rfl, Nat.le_of_ble_eq_true rfl⟩ (Nat.le_of_ble_eq_true rfl) ⟨by omega, by omega⟩ ?_
        have hv194 : C 14 k < 2 ^ 28 := by omega
        have hd194 := dg9 hv194
        refine v_appI (st := []) (x := C 14 k) (1) (0) dL_bookings_173 hb191 hv194 wL_84 ⟨Nat.le_of_ble_eq_true rfl, Nat.le_of_ble_eq_true rfl⟩ (Nat.le_of_ble_eq_true rfl) (by omega) (by omega) (by omega) (by omega) (by omega) (fun a195 m195 n195 h195 hn195 hg195 hl195 hs195 hb195 fr195 => ?_)
        obtain ⟨S195, hS195⟩ : ∃ Sx : Ln, Sx = wi S191 (C 14 k) := ⟨_, rfl⟩
        rw [← hS195] at hb195
        have hk195 : S195.2 = S191.2 + sb_dg (C 14 k) := by rw [hS195]; rfl
        have hm195 := hb195.2
        have ho196 : oP G u n195 _ a LN C T Sn sv rs dt := oP.fr ho192 (by omega) (fun z hz1 hz2 => fr195 z (by omega)) (fr195 a (by omega))
        have fr197 : frP (fun z => z < n) _ _ := fun z (hz : z < n) => (fr195 z (by omega)).trans (fr193 z hz)
        refine v_widen (k1 := 1 + m195 / 16) (k2 := 0 + 2 * m195) (by omega) (by omega) ?_
        refine v_pop dL_bookings_176 rfl ?_
        refine v_iload dL_bookings_177 rfl ?_
        refine n_if_le (tgt := 196) (x := C 11 k - (C 11 (k - 1))) dL_bookings_179 (by decide) (by omega) (fun c => (by exfalso; omega)) (fun _ => ?_)
        refine v_aload_n dL_bookings_182 rfl ?_
        refine v_iload_n dL_bookings_183 rfl ?_
        refine v_iconst (v := nI 3) dL_bookings_184 (by decide) ?_
        refine v_ask (st := []) (v2 := nI (C 14 k)) dL_bookings_185 (o_booking g ho196) (qBk_at (p := k) (w := 3) (by omega) (by omega) (by decide)) wL_112 ho196.he rfl rfl ⟨Nat.le_of_ble_eq_true rfl, Nat.le_of_ble_eq_true rfl⟩ (Nat.le_of_ble_eq_true rfl) ⟨by omega, by omega⟩ ?_
        refine v_aload_n dL_bookings_188 rfl ?_
        refine v_iconst (v := nI 3) dL_bookings_189 (by decide) ?_
        refine v_ask (st := [.int (nI (C 14 k))]) (v2 := nI (C 0 3)) dL_bookings_190 (o_account g ho196) (qAcc_at (w := 3) (by decide)) wL_34 ho196.he rfl rfl ⟨Nat.le_of_ble_eq_true rfl, Nat.le_of_ble_eq_true rfl⟩ (Nat.le_of_ble_eq_true rfl) ⟨by omega, by omega⟩ ?_
        have b198 : C 0 3 < 2 ^ 28 := C_b g
        refine n_icmp_ge (tgt := 198) (x := C 14 k) (y := C 0 3) dL_bookings_193 (by decide) (by omega) (by omega) (fun _ => ?_) (fun c => (by exfalso; omega))
        refine v_iconst (v := nI 0) dL_bookings_198 (by decide) ?_
        refine v_istore dL_bookings_199 rfl (by decide) ?_
        refine v_ls (ls2 := [some (.ref u), some (.ref n), some (.int (nI (C 0 2))), some (.int (nI k)), some (.int (nI (C 11 k - (C 11 (k - 1))))), some (.int (nI 0))]) rfl ?_
        refine v_forget 4 ?_
        refine v_ls (ls2 := [some (.ref u), some (.ref n), some (.int (nI (C 0 2))), some (.int (nI k)), none, some (.int (nI 0))]) rfl ?_
        refine loopV (fun i => [some (.ref u), some (.ref n), some (.int (nI (C 0 2))), some (.int (nI k)), none, some (.int (nI i))]) (fun _ => True) (N := k) 0 (Nat.zero_le _) rfl trivial (fun i hi9 _ ihI => ?_)
        have q1 := C_b (x := 11) (y := i) g
        refine v_iload dL_bookings_201 rfl ?_
        refine v_iload_n dL_bookings_203 rfl ?_
        refine n_icmp_ge (tgt := 247) (x := i) (y := k) dL_bookings_204 (by decide) (by omega) (by omega) (fun c199 => ?_) (fun c199 => ?_)
        · refine n_iinc (k := 1) (x := k) dL_bookings_247 (by decide) rfl rfl (by decide) ?_
          refine v_ls (ls2 := [some (.ref u), some (.ref n), some (.int (nI (C 0 2))), some (.int (nI (k + 1))), none, some (.int (nI i))]) rfl ?_
          refine v_goto (tgt := 16) dL_bookings_250 (by decide) ?_
          refine v_forget 5 ?_
          refine v_ls (ls2 := [some (.ref u), some (.ref n), some (.int (nI (C 0 2))), some (.int (nI (k + 1))), none, none]) rfl ?_
          have e9 : S195 = bkL C zL (k + 1) := by rw [bkL, if_pos hk9]; rw [hS195]; rw [hS191]; rw [hS188]; rw [hS183]; rw [hS180]; rw [hS176]; rw [hS173]; rw [hS169]; rw [hS0]; rfl
          rw [e9] at hb195
          refine v_widen (k1 := 1 + m195 / 16) (k2 := 0 + 2 * m195) (by omega) (by omega) ?_
          exact ihB (by omega) _ _ _ ⟨_, hb195, by omega, by omega, by omega, fr197⟩
        · refine v_aload_n dL_bookings_207 rfl ?_
          refine v_iload dL_bookings_208 rfl ?_
          refine v_iconst (v := nI 0) dL_bookings_210 (by decide) ?_
          refine v_ask (st := []) (v2 := nI (C 11 i)) dL_bookings_211 (o_booking g ho196) (qBk_at (p := i) (w := 0) (by omega) (by omega) (by decide)) wL_112 ho196.he rfl rfl ⟨Nat.le_of_ble_eq_true rfl, Nat.le_of_ble_eq_true rfl⟩ (Nat.le_of_ble_eq_true rfl) ⟨by omega, by omega⟩ ?_
          have b200 : C 11 i < 2 ^ 28 := C_b g
          refine v_aload_n dL_bookings_214 rfl ?_
          refine v_iload_n dL_bookings_215 rfl ?_
          refine v_iconst (v := nI 0) dL_bookings_216 (by decide) ?_
          refine v_ask (st := [.int (nI (C 11 i))]) (v2 := nI (C 11 k)) dL_bookings_217 (o_booking g ho196) (qBk_at (p := k) (w := 0) (by omega) (by omega) (by decide)) wL_112 ho196.he rfl rfl ⟨Nat.le_of_ble_eq_true rfl, Nat.le_of_ble_eq_true rfl⟩ (Nat.le_of_ble_eq_true rfl) ⟨by omega, by omega⟩ ?_
          refine n_icmp_ne (tgt := 241) (x := C 11 i) (y := C 11 k) dL_bookings_220 (by decide) (by omega) (by omega) (fun c201 => ?_) (fun c201 => ?_)
          · refine n_iinc (k := 1) (x := i) dL_bookings_241 (by decide) rfl rfl (by decide) ?_
            refine v_ls (ls2 := [some (.ref u), some (.ref n), some (.int (nI (C 0 2))), some (.int (nI k)), none, some (.int (nI (i + 1)))]) rfl ?_
            refine v_goto (tgt := 201) dL_bookings_244 (by decide) ?_
            refine v_ls (ls2 := [some (.ref u), some (.ref n), some (.int (nI (C 0 2))), some (.int (nI k)), none, some (.int (nI (i + 1)))]) rfl ?_
            exact ihI (by omega) trivial
          · refine v_aload_n dL_bookings_223 rfl ?_
            refine v_iload dL_bookings_224 rfl ?_
            refine v_iconst (v := nI 3) dL_bookings_226 (by decide) ?_
            refine v_ask (st := []) (v2 := nI (C 14 i)) dL_bookings_227 (o_booking g ho196) (qBk_at (p := i) (w := 3) (by omega) (by omega) (by decide)) wL_112 ho196.he rfl rfl ⟨Nat.le_of_ble_eq_true rfl, Nat.le_of_ble_eq_true rfl⟩ (Nat.le_of_ble_eq_true rfl) ⟨by omega, by omega⟩ ?_
            have b202 : C 14 i < 2 ^ 28 := C_b g
            refine v_aload_n dL_bookings_230 rfl ?_
            refine v_iload_n dL_bookings_231 rfl ?_
            refine v_iconst (v := nI 3) dL_bookings_232 (by decide) ?_
            refine v_ask (st := [.int (nI (C 14 i))]) (v2 := nI (C 14 k)) dL_bookings_233 (o_booking g ho196) (qBk_at (p := k) (w := 3) (by omega) (by omega) (by decide)) wL_112 ho196.he rfl rfl ⟨Nat.le_of_ble_eq_true rfl, Nat.le_of_ble_eq_true rfl⟩ (Nat.le_of_ble_eq_true rfl) ⟨by omega, by omega⟩ ?_
            refine n_icmp_ne (tgt := 241) (x := C 14 i) (y := C 14 k) dL_bookings_236 (by decide) (by omega) (by omega) (fun c203 => ?_) (fun c203 => ?_)
            · refine n_iinc (k := 1) (x := i) dL_bookings_241 (by decide) rfl rfl (by decide) ?_
              refine v_ls (ls2 := [some (.ref u), some (.ref n), some (.int (nI (C 0 2))), some (.int (nI k)), none, some (.int (nI (i + 1)))]) rfl ?_
              refine v_goto (tgt := 201) dL_bookings_244 (by decide) ?_
              refine v_ls (ls2 := [some (.ref u), some (.ref n), some (.int (nI (C 0 2))), some (.int (nI k)), none, some (.int (nI (i + 1)))]) rfl ?_
              exact ihI (by omega) trivial
            · exact absurd ⟨c201, c203⟩ (hap i k (by omega) (by omega))
