set_option maxRecDepth 20000 in
set_option maxHeartbeats 8000000 in
theorem law_loop {nm : String} {l : Launch} {G : vG} {Fz : vFin} {u n : Nat} {h : AH} {c0 s0 a : Nat} {LN : Ln} {T : Hs} {Sn : Ct} {sv : Nat} {rs dt : Int32} (o : oP G u n h a LN sR15.2.1 T Sn sv rs dt) (hL : gA G 2 3 ≤ 260) (hc0 : c0 ≤ 1000) (hs0 : s0 ≤ 10000) (hend : ∀ (ls : List (Option Value)) (n2 : Nat) (h2 : AH) (c2 s2 : Nat), c2 ≤ 600000 → s2 ≤ 7302250 → V l G (mLn nm) 600000 7302250 Fz 518 ls [.int 1] n2 h2 c2 s2) : V l G (mLn nm) 600000 7302250 Fz 259 [some (.ref (gA G 2 2)), some (.ref u), some (.int (nI (0))), some (.int (nI 36)), some (.int (nI 0)), none, none, none, none, none] [] n h c0 s0 := by
  refine loopX (fun i => [some (.ref (gA G 2 2)), some (.ref u), some (.int (nI (2 * i))), some (.int (nI 36)), some (.int (nI i)), none, none, none, none, none]) (fun i x n1 h1 => ∃ (a : Nat) (LN : Ln) (C : Ct) (T : Hs) (Sn : Ct) (sv : Nat) (rs dt : Int32), gd (48200 + 3000 * i) C ∧ oP G u n1 h1 a LN C T Sn sv rs dt) (fun i x => 1000 + i * 7000) (fun i x => 10000 + i * 290000) (N := 16) 0 0 (Nat.zero_le _) rfl ⟨_, _, _, _, _, _, _, _, sG15, o⟩ (by omega) (by omega) (fun i x n1 h1 hi hp9 ihI => ?_)
  obtain ⟨a1, L1, C1, T1, Sn1, sv1, rs1, dt1, g1, o1⟩ := hp9
  refine v_ls (ls2 := [some (.ref (gA G 2 2)), some (.ref u), some (.int (nI (2 * i))), some (.int (nI 36)), some (.int (nI i)), none, none, none, none, none]) rfl ?_
  refine v_iload dL_law_259 rfl ?_
  refine v_bipush (v := nI 16) dL_law_261 (by decide) ?_
  refine n_icmp_ge (tgt := 509) (x := i) (y := 16) dL_law_263 (by decide) (by omega) (by omega) (fun c21 => ?_) (fun c21 => ?_)
  · refine v_iload_n dL_law_509 rfl ?_
    refine n_if_le (tgt := 517) (x := 36) dL_law_510 (by decide) (by decide) (fun c => absurd c (by decide)) (fun _ => ?_)
    refine v_iconst (v := nI 1) dL_law_513 (by decide) ?_
    refine v_goto (tgt := 518) dL_law_514 (by decide) ?_
    refine v_st (st2 := [.int 1]) rfl ?_
    exact hend _ _ _ _ _ (by omega) (by omega)
  · refine law_it (b := 48200 + 3000 * i) g1 o1 (by omega) hL (by omega) ⟨by omega, by omega⟩ (fun n2 h2 c2 s2 a2 L2 C2 T2 Sn2 sv2 rs2 dt2 hc2 hs2 g2 o2 => ?_)
    refine n_iinc (k := 1) (x := i) dL_law_503 (by decide) rfl rfl (Nat.le_of_ble_eq_true rfl) ?_
    refine v_ls (ls2 := [some (.ref (gA G 2 2)), some (.ref u), some (.int (nI (2 * (i + 1)))), some (.int (nI 36)), some (.int (nI (i + 1))), none, none, none, none, none]) rfl ?_
    refine v_goto (tgt := 259) dL_law_506 (by decide) ?_
    refine v_widen (k1 := 1000 + (i + 1) * 7000) (k2 := 10000 + (i + 1) * 290000) (by omega) (by omega) ?_
    exact ihI (by omega) 0 _ _ ⟨_, _, _, _, _, _, _, _, by rw [show 48200 + 3000 * (i + 1) = 48200 + 3000 * i + 3000 by omega]; exact g2, o2⟩
set_option maxRecDepth 20000 in
set_option maxHeartbeats 8000000 in
theorem law_all {nm : String} {l : Launch} {G : vG} {Fz : vFin} {u : Nat} (hL : gA G 2 3 ≤ 260) (hend : ∀ (ls : List (Option Value)) (n2 : Nat) (h2 : AH) (c2 s2 : Nat), c2 ≤ 600000 → s2 ≤ 7302250 → V l G (mLn nm) 600000 7302250 Fz 518 ls [.int 1] n2 h2 c2 s2) : V l G (mLn nm) 600000 7302250 Fz 0 [some (.ref (gA G 2 2)), none, none, none, none, none, none, none, none, none] [] u (fun _ => none) 0 0 := by
  refine nnX6 dL_law_0 q1_20 (Nat.le_of_ble_eq_true rfl) (Nat.le_of_ble_eq_true rfl) (fun h1 f1 s1 => ?_)
  refine v_dup dL_law_3 rfl ?_
  refine v_callI (st := [.ref u]) dL_law_4 (t_X6_init (t0 := fun _ => 0) f1) wL_170 rfl rfl ⟨Nat.le_of_ble_eq_true rfl, Nat.le_of_ble_eq_true rfl⟩ (Nat.le_of_ble_eq_true rfl) ⟨Nat.le_of_ble_eq_true rfl, Nat.le_of_ble_eq_true rfl⟩ (fun r n2 h2 hq => ?_)
  obtain ⟨rfl, rfl, hj, hc, hbe, htr, hsn, hh, hot, hb, hL6, hN7, hb2, -⟩ := hq
  refine v_st (st2 := [.ref u]) rfl ?_
  have o0 : oP G u (u + 250) h2 (u + 249) ((fun _ => 0, 0) : Ln) Z0 ((0, 0, fun _ => Z0) : Hs) Z0 0 (-1015) (-1015) := ⟨⟨hj, hc, ⟨_, hbe⟩, ⟨_, htr⟩, hsn, hh⟩, ⟨0, 0, 0, 0, _, hb, hot⟩, Nat.le_refl _, by omega, Or.inl rfl, ⟨16, 0, Or.inl rfl, hb2⟩, lng_le lng_0 (by decide)⟩
  refine v_astore_n dL_law_7 rfl (Nat.le_of_ble_eq_true rfl) ?_
  refine v_ls (ls2 := [some (.ref (gA G 2 2)), some (.ref u), none, none, none, none, none, none, none, none]) rfl ?_
  refine v_widen (k1 := 301) (k2 := 4010) (Nat.le_of_ble_eq_true rfl) (Nat.le_of_ble_eq_true rfl) ?_
  refine v_iconst (v := nI 0) dL_law_8 (by decide) ?_
  refine v_istore_n dL_law_9 rfl (Nat.le_of_ble_eq_true rfl) ?_
  refine v_ls (ls2 := [some (.ref (gA G 2 2)), some (.ref u), some (.int (nI 0)), none, none, none, none, none, none, none]) rfl ?_
  refine v_aload_n dL_law_10 rfl ?_
  refine v_callV (st := []) dL_law_11 (o_undo o0) wL_171 o0.he rfl rfl ⟨Nat.le_of_ble_eq_true rfl, Nat.le_of_ble_eq_true rfl⟩ (Nat.le_of_ble_eq_true rfl) ⟨by omega, by omega⟩ (fun r n2 h2 hq => ?_)
  obtain ⟨rfl, hn9, ho21, sa21⟩ := ou_of o0 hq; replace hn9 := hn9.symm; subst hn9
  refine v_st (st2 := [.int ((-1015))]) rfl ?_
  have hp22 : oP G u (u + 250) _ ((u + 249)) (((fun _ => 0, 0) : Ln)) Z0 (((0, 0, fun _ => Z0) : Hs)) Z0 0 ((-1015)) ((-1015)) := ho21
  refine v_sipush (v := (-1015)) dL_law_14 (by decide) ?_
  refine v_icmp_ne (tgt := 249) dL_law_17 (by decide) (fun c23 => ?_) (fun c23 => ?_)
  · exfalso
    first | exact c23 rfl | omega | exact absurd (by assumption) c23
  · refine v_aload_n dL_law_20 rfl ?_
    refine v_callV (st := []) dL_law_21 (o_restore hp22 (by decide)) wL_167 hp22.he rfl rfl ⟨Nat.le_of_ble_eq_true rfl, Nat.le_of_ble_eq_true rfl⟩ (Nat.le_of_ble_eq_true rfl) ⟨by omega, by omega⟩ (fun r n2 h2 hq => ?_)
    obtain ⟨rfl, hn9, ho24, sa24⟩ := or_of hp22 hq; replace hn9 := hn9.symm; subst hn9
    refine v_st (st2 := [.int ((-1015))]) rfl ?_
    obtain ⟨Thp25, hp25⟩ : ∃ T9 : Hs, oP G u (u + 250) _ ((u + 249)) (((fun _ => 0, 0) : Ln)) Z0 T9 Z0 0 ((-1015)) ((-1015)) := ⟨_, ho24⟩
    refine v_sipush (v := (-1015)) dL_law_24 (by decide) ?_
    refine v_icmp_ne (tgt := 249) dL_law_27 (by decide) (fun c26 => ?_) (fun c26 => ?_)
    · exfalso
      first | exact c26 rfl | exact c23 rfl | omega | exact absurd (by assumption) c26
    · refine v_aload_n dL_law_30 rfl ?_
      refine v_iconst (v := nI 0) dL_law_31 (by decide) ?_
      refine v_ask (st := []) (v2 := -1015) dL_law_32 (o_reason hp25) (if_pos (by decide)) wL_163 hp25.he rfl rfl ⟨Nat.le_of_ble_eq_true rfl, Nat.le_of_ble_eq_true rfl⟩ (Nat.le_of_ble_eq_true rfl) ⟨by omega, by omega⟩ ?_
      refine v_sipush (v := (-1015)) dL_law_35 (by decide) ?_
      refine v_icmp_ne (tgt := 249) dL_law_38 (by decide) (fun c27 => ?_) (fun c27 => ?_)
      · exfalso
        first | exact c27 rfl | exact c26 rfl | omega | exact absurd (by assumption) c27
      · refine v_aload_n dL_law_41 rfl ?_
        obtain ⟨B28, mb28, c28, p28, rr28, t28, hB28, k28⟩ := o_run (l := l) hp25
        refine v_callV (st := []) dL_law_42 k28 wL_174 hp25.he rfl rfl ⟨Nat.le_of_ble_eq_true rfl, Nat.le_of_ble_eq_true rfl⟩ (Nat.le_of_ble_eq_true rfl) ⟨by omega, by omega⟩ (fun r n2 h2 hq => ?_)
        obtain ⟨rfl, hn9, ho28, sa28⟩ := on_of hp25 hq; replace hn9 := hn9.symm; subst hn9
        refine v_st (st2 := [.int ((-2000))]) rfl ?_
        obtain ⟨Thp29, hp29⟩ : ∃ T9 : Hs, oP G u (u + 250) _ ((u + 249)) (((fun _ => 0, 0) : Ln)) Z0 T9 Z0 0 ((-1015)) ((-1015)) := ⟨_, ho28⟩
        refine v_widen (k1 := 301 + 1) (k2 := 4010 + 142) (by omega) (by omega) ?_
        refine v_sipush (v := (-2000)) dL_law_45 (by decide) ?_
        refine v_icmp_ne (tgt := 249) dL_law_48 (by decide) (fun c30 => ?_) (fun c30 => ?_)
        · exfalso
          first | exact c30 rfl | exact c27 rfl | omega | exact absurd (by assumption) c30
        · refine v_aload_n dL_law_51 rfl ?_
          refine v_iconst (v := nI 0) dL_law_52 (by decide) ?_
          refine v_ask (st := []) (v2 := -1011) dL_law_53 (o_character hp29) (if_neg (by decide)) wL_74 hp29.he rfl rfl ⟨Nat.le_of_ble_eq_true rfl, Nat.le_of_ble_eq_true rfl⟩ (Nat.le_of_ble_eq_true rfl) ⟨by omega, by omega⟩ ?_
          refine v_sipush (v := (-1011)) dL_law_56 (by decide) ?_
          refine v_icmp_ne (tgt := 249) dL_law_59 (by decide) (fun c31 => ?_) (fun c31 => ?_)
          · exfalso
            first | exact c31 rfl | exact c30 rfl | omega | exact absurd (by assumption) c31
          · refine v_aload_n dL_law_62 rfl ?_
            refine v_bipush (v := nI 10) dL_law_63 (by decide) ?_
            obtain ⟨B32, hB32, t32⟩ := o_fool (l := l) gZ0 hp29 (x := nI 10)
            rw [show dFool Z0 (nI 10) = ncz (-1012) Z0 from (if_neg (by decide)).trans (if_neg (by decide))] at t32
            refine v_callV (st := []) dL_law_65 (t32) wL_43 hp29.he rfl rfl ⟨Nat.le_of_ble_eq_true rfl, Nat.le_of_ble_eq_true rfl⟩ (Nat.le_of_ble_eq_true rfl) ⟨by omega, by omega⟩ (fun r n2 h2 hq => ?_)
            obtain ⟨rfl, hn9, ho33, sa33⟩ := oc_of hp29 hq; replace hn9 := hn9.symm; subst hn9
            refine v_st (st2 := [.int ((-1012))]) rfl ?_
            obtain ⟨Thp34, hp34⟩ : ∃ T9 : Hs, oP G u (u + 250) _ ((u + 249)) (((fun _ => 0, 0) : Ln)) Z0 T9 Z0 0 ((-1015)) ((-1015)) := ⟨_, ho33⟩
            refine v_sipush (v := (-1012)) dL_law_68 (by decide) ?_
            refine v_icmp_ne (tgt := 249) dL_law_71 (by decide) (fun c35 => ?_) (fun c35 => ?_)
            · exfalso
              first | exact c35 rfl | exact c31 rfl | omega | exact absurd (by assumption) c35
            · refine v_aload_n dL_law_74 rfl ?_
              refine v_iconst (v := nI 0) dL_law_75 (by decide) ?_
              obtain ⟨B36, hB36, t36⟩ := o_joke (l := l) gZ0 hp34 (x := nI 0)
              rw [show dJoke Z0 (nI 0) = ncz (-1012) Z0 from (if_pos (by decide))] at t36
              refine v_callV (st := []) dL_law_76 (t36) wL_46 hp34.he rfl rfl ⟨Nat.le_of_ble_eq_true rfl, Nat.le_of_ble_eq_true rfl⟩ (Nat.le_of_ble_eq_true rfl) ⟨by omega, by omega⟩ (fun r n2 h2 hq => ?_)
              obtain ⟨rfl, hn9, ho37, sa37⟩ := oc_of hp34 hq; replace hn9 := hn9.symm; subst hn9
              refine v_st (st2 := [.int ((-1012))]) rfl ?_
              obtain ⟨Thp38, hp38⟩ : ∃ T9 : Hs, oP G u (u + 250) _ ((u + 249)) (((fun _ => 0, 0) : Ln)) Z0 T9 Z0 0 ((-1015)) ((-1015)) := ⟨_, ho37⟩
              refine v_sipush (v := (-1012)) dL_law_79 (by decide) ?_
              refine v_icmp_ne (tgt := 249) dL_law_82 (by decide) (fun c39 => ?_) (fun c39 => ?_)
              · exfalso
                first | exact c39 rfl | exact c35 rfl | omega | exact absurd (by assumption) c39
              · refine v_aload_n dL_law_85 rfl ?_
                refine v_iconst (v := nI 0) dL_law_86 (by decide) ?_
                refine v_iconst (v := nI 0) dL_law_87 (by decide) ?_
                refine v_iconst (v := nI 1) dL_law_88 (by decide) ?_
                obtain ⟨B40, hB40, t40⟩ := o_patent (l := l) gZ0 hp38 (x := nI 0) (y := nI 0) (z := nI 1)
                rw [show dPat Z0 (nI 0) (nI 0) (nI 1) = ncz (-1011) Z0 from (if_neg (by decide))] at t40
                refine v_callV (st := []) dL_law_89 (t40) wL_49 hp38.he rfl rfl ⟨Nat.le_of_ble_eq_true rfl, Nat.le_of_ble_eq_true rfl⟩ (Nat.le_of_ble_eq_true rfl) ⟨by omega, by omega⟩ (fun r n2 h2 hq => ?_)
                obtain ⟨rfl, hn9, ho41, sa41⟩ := oc_of hp38 hq; replace hn9 := hn9.symm; subst hn9
                refine v_st (st2 := [.int ((-1011))]) rfl ?_
                obtain ⟨Thp42, hp42⟩ : ∃ T9 : Hs, oP G u (u + 250) _ ((u + 249)) (((fun _ => 0, 0) : Ln)) Z0 T9 Z0 0 ((-1015)) ((-1015)) := ⟨_, ho41⟩
                refine v_sipush (v := (-1011)) dL_law_92 (by decide) ?_
                refine v_icmp_ne (tgt := 249) dL_law_95 (by decide) (fun c43 => ?_) (fun c43 => ?_)
                · exfalso
                  first | exact c43 rfl | exact c39 rfl | omega | exact absurd (by assumption) c43
                · refine v_aload_n dL_law_98 rfl ?_
                  refine v_iconst (v := nI 0) dL_law_99 (by decide) ?_
                  refine v_iconst (v := nI 0) dL_law_100 (by decide) ?_
                  refine v_iconst (v := nI 0) dL_law_101 (by decide) ?_
                  refine v_iconst (v := nI 0) dL_law_102 (by decide) ?_
                  obtain ⟨B44, hB44, t44⟩ := o_book (l := l) gZ0 hp42 (x := nI 0) (y := nI 0) (z := nI 0) (w := nI 0)
                  rw [show dBook Z0 (nI 0) (nI 0) (nI 0) (nI 0) = ncz (-1011) Z0 from (if_neg (by decide))] at t44
                  refine v_callV (st := []) dL_law_103 (t44) wL_53 hp42.he rfl rfl ⟨Nat.le_of_ble_eq_true rfl, Nat.le_of_ble_eq_true rfl⟩ (Nat.le_of_ble_eq_true rfl) ⟨by omega, by omega⟩ (fun r n2 h2 hq => ?_)
                  obtain ⟨rfl, hn9, ho45, sa45⟩ := oc_of hp42 hq; replace hn9 := hn9.symm; subst hn9
                  refine v_st (st2 := [.int ((-1011))]) rfl ?_
                  obtain ⟨Thp46, hp46⟩ : ∃ T9 : Hs, oP G u (u + 250) _ ((u + 249)) (((fun _ => 0, 0) : Ln)) Z0 T9 Z0 0 ((-1015)) ((-1015)) := ⟨_, ho45⟩
                  refine v_sipush (v := (-1011)) dL_law_106 (by decide) ?_
                  refine v_icmp_ne (tgt := 249) dL_law_109 (by decide) (fun c47 => ?_) (fun c47 => ?_)
                  · exfalso
                    first | exact c47 rfl | exact c43 rfl | omega | exact absurd (by assumption) c47
                  · refine v_aload_n dL_law_112 rfl ?_
                    obtain ⟨B48, hB48, t48⟩ := o_next (l := l) gZ0 hp46
                    rw [show dNext Z0 = rfz Z0 11 (nI 0) from if_pos rfl] at t48
                    refine v_callV (st := []) dL_law_113 (t48) wL_57 hp46.he rfl rfl ⟨Nat.le_of_ble_eq_true rfl, Nat.le_of_ble_eq_true rfl⟩ (Nat.le_of_ble_eq_true rfl) ⟨by omega, by omega⟩ (fun r n2 h2 hq => ?_)
                    obtain ⟨rfl, hn9, ho49, sa49⟩ := oc_of hp46 hq; replace hn9 := hn9.symm; subst hn9
                    refine v_st (st2 := [.int ((-1014))]) rfl ?_
                    obtain ⟨Thp50, hp50⟩ : ∃ T9 : Hs, oP G u (u + 250) _ ((u + 249)) (((fun _ => 0, 0) : Ln)) Z0 T9 Z0 0 11 ((nI 0)) := ⟨_, ho49⟩
                    refine v_sipush (v := (-1014)) dL_law_116 (by decide) ?_
                    refine v_icmp_ne (tgt := 249) dL_law_119 (by decide) (fun c51 => ?_) (fun c51 => ?_)
                    · exfalso
                      first | exact c51 rfl | exact c47 rfl | omega | exact absurd (by assumption) c51
                    · refine v_aload_n dL_law_122 rfl ?_
                      refine v_iconst (v := nI 0) dL_law_123 (by decide) ?_
                      refine v_ask (st := []) (v2 := nI 11) dL_law_124 (o_reason hp50) ((if_pos (by decide)).trans (by decide)) wL_163 hp50.he rfl rfl ⟨Nat.le_of_ble_eq_true rfl, Nat.le_of_ble_eq_true rfl⟩ (Nat.le_of_ble_eq_true rfl) ⟨by omega, by omega⟩ ?_
                      refine v_bipush (v := nI 11) dL_law_127 (by decide) ?_
                      refine n_icmp_ne (tgt := 249) (x := 11) (y := 11) dL_law_129 (by decide) (by decide) (by decide) (fun c => absurd c (by decide)) (fun _ => ?_)
                      refine v_aload_n dL_law_132 rfl ?_
                      refine v_iconst (v := nI 1) dL_law_133 (by decide) ?_
                      refine v_ask (st := []) (v2 := nI 0) dL_law_134 (o_reason hp50) (if_neg (by decide)) wL_163 hp50.he rfl rfl ⟨Nat.le_of_ble_eq_true rfl, Nat.le_of_ble_eq_true rfl⟩ (Nat.le_of_ble_eq_true rfl) ⟨by omega, by omega⟩ ?_
                      refine n_if_ne (tgt := 249) (x := 0) dL_law_137 (by decide) (by decide) (fun c => absurd c (by decide)) (fun _ => ?_)
                      refine v_aload_n dL_law_140 rfl ?_
                      refine v_iconst (v := nI 0) dL_law_141 (by decide) ?_
                      refine v_iconst (v := nI 0) dL_law_142 (by decide) ?_
                      obtain ⟨B52, hB52, t52⟩ := o_exempt (l := l) gZ0 hp50 (x := nI 0) (y := nI 0)
                      rw [show dExe Z0 (nI 0) (nI 0) = rfz Z0 9 (nI 0) from ((if_pos (by decide)).trans (if_pos (by decide))).trans (if_pos rfl)] at t52
                      refine v_callV (st := []) dL_law_143 (t52) wL_65 hp50.he rfl rfl ⟨Nat.le_of_ble_eq_true rfl, Nat.le_of_ble_eq_true rfl⟩ (Nat.le_of_ble_eq_true rfl) ⟨by omega, by omega⟩ (fun r n2 h2 hq => ?_)
                      obtain ⟨rfl, hn9, ho53, sa53⟩ := oc_of hp50 hq; replace hn9 := hn9.symm; subst hn9
                      refine v_st (st2 := [.int ((-1014))]) rfl ?_
                      obtain ⟨Thp54, hp54⟩ : ∃ T9 : Hs, oP G u (u + 250) _ ((u + 249)) (((fun _ => 0, 0) : Ln)) Z0 T9 Z0 0 9 ((nI 0)) := ⟨_, ho53⟩
                      refine v_sipush (v := (-1014)) dL_law_146 (by decide) ?_
                      refine v_icmp_ne (tgt := 249) dL_law_149 (by decide) (fun c55 => ?_) (fun c55 => ?_)
                      · exfalso
                        first | exact c55 rfl | exact c51 rfl | omega | exact absurd (by assumption) c55
                      · refine v_aload_n dL_law_152 rfl ?_
                        refine v_iconst (v := nI 1) dL_law_153 (by decide) ?_
                        refine v_ask (st := []) (v2 := nI 0) dL_law_154 (o_reason hp54) (if_neg (by decide)) wL_163 hp54.he rfl rfl ⟨Nat.le_of_ble_eq_true rfl, Nat.le_of_ble_eq_true rfl⟩ (Nat.le_of_ble_eq_true rfl) ⟨by omega, by omega⟩ ?_
                        refine n_if_ne (tgt := 249) (x := 0) dL_law_157 (by decide) (by decide) (fun c => absurd c (by decide)) (fun _ => ?_)
                        refine v_aload_n dL_law_160 rfl ?_
                        refine v_iconst (v := nI 4) dL_law_161 (by decide) ?_
                        refine v_iconst (v := nI 0) dL_law_162 (by decide) ?_
                        obtain ⟨B56, hB56, t56⟩ := o_exempt (l := l) gZ0 hp54 (x := nI 4) (y := nI 0)
                        rw [show dExe Z0 (nI 4) (nI 0) = ncz (-1011) Z0 from (if_neg (by decide))] at t56
                        refine v_callV (st := []) dL_law_163 (t56) wL_65 hp54.he rfl rfl ⟨Nat.le_of_ble_eq_true rfl, Nat.le_of_ble_eq_true rfl⟩ (Nat.le_of_ble_eq_true rfl) ⟨by omega, by omega⟩ (fun r n2 h2 hq => ?_)
                        obtain ⟨rfl, hn9, ho57, sa57⟩ := oc_of hp54 hq; replace hn9 := hn9.symm; subst hn9
                        refine v_st (st2 := [.int ((-1011))]) rfl ?_
                        obtain ⟨Thp58, hp58⟩ : ∃ T9 : Hs, oP G u (u + 250) _ ((u + 249)) (((fun _ => 0, 0) : Ln)) Z0 T9 Z0 0 9 ((nI 0)) := ⟨_, ho57⟩
                        refine v_sipush (v := (-1011)) dL_law_166 (by decide) ?_
                        refine v_icmp_ne (tgt := 249) dL_law_169 (by decide) (fun c59 => ?_) (fun c59 => ?_)
                        · exfalso
                          first | exact c59 rfl | exact c55 rfl | omega | exact absurd (by assumption) c59
                        · refine v_aload_n dL_law_172 rfl ?_
                          refine v_iconst (v := nI 0) dL_law_173 (by decide) ?_
                          obtain ⟨B60, hB60, t60⟩ := o_pass (l := l) gZ0 hp58 (x := nI 0)
                          rw [show dPass Z0 (nI 0) = ncz (-1012) Z0 from (if_pos (by decide))] at t60
                          refine v_callV (st := []) dL_law_174 (t60) wL_68 hp58.he rfl rfl ⟨Nat.le_of_ble_eq_true rfl, Nat.le_of_ble_eq_true rfl⟩ (Nat.le_of_ble_eq_true rfl) ⟨by omega, by omega⟩ (fun r n2 h2 hq => ?_)
                          obtain ⟨rfl, hn9, ho61, sa61⟩ := oc_of hp58 hq; replace hn9 := hn9.symm; subst hn9
                          refine v_st (st2 := [.int ((-1012))]) rfl ?_
                          obtain ⟨Thp62, hp62⟩ : ∃ T9 : Hs, oP G u (u + 250) _ ((u + 249)) (((fun _ => 0, 0) : Ln)) Z0 T9 Z0 0 9 ((nI 0)) := ⟨_, ho61⟩
                          refine v_sipush (v := (-1012)) dL_law_177 (by decide) ?_
                          refine v_icmp_ne (tgt := 249) dL_law_180 (by decide) (fun c63 => ?_) (fun c63 => ?_)
                          · exfalso
                            first | exact c63 rfl | exact c59 rfl | omega | exact absurd (by assumption) c63
                          · refine v_aload_n dL_law_183 rfl ?_
                            refine v_iconst (v := nI 0) dL_law_184 (by decide) ?_
                            obtain ⟨B64, hB64, t64⟩ := o_audit (l := l) gZ0 hp62 (x := nI 0)
                            rw [show dAud Z0 (nI 0) = ncz (-1011) Z0 from (if_neg (by decide))] at t64
                            refine v_callV (st := []) dL_law_185 (t64) wL_62 hp62.he rfl rfl ⟨Nat.le_of_ble_eq_true rfl, Nat.le_of_ble_eq_true rfl⟩ (Nat.le_of_ble_eq_true rfl) ⟨by omega, by omega⟩ (fun r n2 h2 hq => ?_)
                            obtain ⟨rfl, hn9, ho65, sa65⟩ := oc_of hp62 hq; replace hn9 := hn9.symm; subst hn9
                            refine v_st (st2 := [.int ((-1011))]) rfl ?_
                            obtain ⟨Thp66, hp66⟩ : ∃ T9 : Hs, oP G u (u + 250) _ ((u + 249)) (((fun _ => 0, 0) : Ln)) Z0 T9 Z0 0 9 ((nI 0)) := ⟨_, ho65⟩
                            refine v_sipush (v := (-1011)) dL_law_188 (by decide) ?_
                            refine v_icmp_ne (tgt := 249) dL_law_191 (by decide) (fun c67 => ?_) (fun c67 => ?_)
                            · exfalso
                              first | exact c67 rfl | exact c63 rfl | omega | exact absurd (by assumption) c67
                            · refine v_aload_n dL_law_194 rfl ?_
                              refine v_ask (st := []) (v2 := oN (-1015) (endF Z0 (Z0 0 1))) dL_law_195 (o_ends gZ0 hp66) (rfl) wL_118 hp66.he rfl rfl ⟨Nat.le_of_ble_eq_true rfl, Nat.le_of_ble_eq_true rfl⟩ (Nat.le_of_ble_eq_true rfl) ⟨by omega, by omega⟩ ?_
                              refine v_sipush (v := (-1015)) dL_law_198 (by decide) ?_
                              refine v_icmp_ne (tgt := 249) dL_law_201 (by decide) (fun c68 => ?_) (fun c68 => ?_)
                              · exfalso
                                first | exact c68 rfl | exact c67 rfl | omega | exact absurd (by assumption) c68
                              · refine v_aload_n dL_law_204 rfl ?_
                                obtain ⟨Y69, hY69, t69⟩ := o_forecast (l := l) gZ0 hp66
                                refine v_callV (st := []) dL_law_205 (t69) wL_160 hp66.he rfl rfl ⟨Nat.le_of_ble_eq_true rfl, Nat.le_of_ble_eq_true rfl⟩ (Nat.le_of_ble_eq_true rfl) ⟨by omega, by omega⟩ (fun r n2 h2 hq => ?_)
                                obtain ⟨rfl, hn9, ho70, sa70⟩ := of_of hp66 hq; replace hn9 := hn9.symm; subst hn9
                                refine v_st (st2 := [.int ((nI (sm (fcast (Z0 0 2) Z0 2) 6) - nI (sm (Z0 2) 6)))]) rfl ?_
                                obtain ⟨Thp71, hp71⟩ : ∃ T9 : Hs, oP G u (u + 250) _ ((u + 249)) (((fun _ => 0, 0) : Ln)) Z0 T9 Z0 0 9 ((nI 0)) := ⟨_, ho70⟩
                                refine v_st (st2 := [.int (nI 0)]) (by rw [will_0 rfl]) ?_
                                refine n_if_ne (tgt := 249) (x := 0) dL_law_208 (by decide) (by decide) (fun c => absurd c (by decide)) (fun _ => ?_)
                                refine v_aload_n dL_law_211 rfl ?_
                                refine v_callV (st := []) dL_law_212 (o_meanWit gZ0 hp71) wL_124 hp71.he rfl rfl ⟨Nat.le_of_ble_eq_true rfl, Nat.le_of_ble_eq_true rfl⟩ (Nat.le_of_ble_eq_true rfl) ⟨by omega, by omega⟩ (fun r n2 h2 hq => ?_)
                                obtain ⟨⟨z72, rfl, hz72⟩, hn9, rfl⟩ := hq; replace hn9 := hn9.symm; subst hn9
                                refine v_st (st2 := [.double z72]) rfl ?_
                                refine v_dconst0 dL_law_215 ?_
                                refine v_dcmp dL_law_216 ?_
                                refine v_st (st2 := [.int (nI 0)]) (by rw [show z72 = FP.dconst0 from by have q := hz72; unfold mwz at q; rw [if_pos rfl] at q; exact q, d0_ok]; rfl) ?_
                                refine n_if_ne (tgt := 249) (x := 0) dL_law_217 (by decide) (by decide) (fun c => absurd c (by decide)) (fun _ => ?_)
                                refine v_aload_n dL_law_220 rfl ?_
                                refine v_callV (st := []) dL_law_221 (o_slipShare gZ0 hp71) wL_139 hp71.he rfl rfl ⟨Nat.le_of_ble_eq_true rfl, Nat.le_of_ble_eq_true rfl⟩ (Nat.le_of_ble_eq_true rfl) ⟨by omega, by omega⟩ (fun r n2 h2 hq => ?_)
                                obtain ⟨⟨z73, rfl, hz73⟩, hn9, rfl⟩ := hq; replace hn9 := hn9.symm; subst hn9
                                refine v_st (st2 := [.float z73]) rfl ?_
                                refine v_fconst0 dL_law_224 ?_
                                refine v_fcmp dL_law_225 ?_
                                refine v_st (st2 := [.int (nI 0)]) (by rw [show z73 = FP.fconst0 from by have q := hz73; unfold ssz at q; rw [if_pos (show sm (Z0 5) 6 = 0 from rfl)] at q; exact q, f0_ok]; rfl) ?_
                                refine n_if_ne (tgt := 249) (x := 0) dL_law_226 (by decide) (by decide) (fun c => absurd c (by decide)) (fun _ => ?_)
                                refine v_aload_n dL_law_229 rfl ?_
                                refine v_bipush (v := nI 15) dL_law_230 (by decide) ?_
                                refine v_ask (st := []) (v2 := -1012) dL_law_232 (o_account gZ0 hp71) (qAcc_no) wL_34 hp71.he rfl rfl ⟨Nat.le_of_ble_eq_true rfl, Nat.le_of_ble_eq_true rfl⟩ (Nat.le_of_ble_eq_true rfl) ⟨by omega, by omega⟩ ?_
                                refine v_sipush (v := (-1012)) dL_law_235 (by decide) ?_
                                refine v_icmp_ne (tgt := 249) dL_law_238 (by decide) (fun c74 => ?_) (fun c74 => ?_)
                                · exfalso
                                  first | exact c74 rfl | exact c68 rfl | omega | exact absurd (by assumption) c74
                                · refine v_aload_n dL_law_241 rfl ?_
                                  refine v_ask (st := []) (v2 := nI 1) dL_law_242 (o_isBalanced gZ0 hp71) (rfl) wL_143 hp71.he rfl rfl ⟨Nat.le_of_ble_eq_true rfl, Nat.le_of_ble_eq_true rfl⟩ (Nat.le_of_ble_eq_true rfl) ⟨by omega, by omega⟩ ?_
                                  refine v_iconst (v := nI 1) dL_law_245 (by decide) ?_
                                  refine n_icmp_eq (tgt := 251) (x := 1) (y := 1) dL_law_246 (by decide) (by decide) (by decide) (fun _ => ?_) (fun c => absurd c (by decide))
                                  refine v_aload_n dL_law_251 rfl ?_
                                  refine v_callS (st := []) dL_law_252 (t_L_stock hp71) wL_177 rfl ⟨Nat.le_of_ble_eq_true rfl, Nat.le_of_ble_eq_true rfl⟩ (Nat.le_of_ble_eq_true rfl) ⟨by omega, by omega⟩ (fun r n2 h2 hq => ?_)
                                  obtain ⟨rfl, hn9, T75, rs75, dt75, ho75, fr75⟩ := hq; replace hn9 := hn9.symm; subst hn9
                                  refine v_st (st2 := [.int (nI 36)]) rfl ?_
                                  refine v_istore_n dL_law_255 rfl (Nat.le_of_ble_eq_true rfl) ?_
                                  refine v_ls (ls2 := [some (.ref (gA G 2 2)), some (.ref u), some (.int (nI 0)), some (.int (nI 36)), none, none, none, none, none, none]) rfl ?_
                                  refine v_iconst (v := nI 0) dL_law_256 (by decide) ?_
                                  refine v_istore dL_law_257 rfl (Nat.le_of_ble_eq_true rfl) ?_
                                  refine v_ls (ls2 := [some (.ref (gA G 2 2)), some (.ref u), some (.int (nI 0)), some (.int (nI 36)), some (.int (nI 0)), none, none, none, none, none]) rfl ?_
                                  exact law_loop ho75 hL (by omega) (by omega) hend
