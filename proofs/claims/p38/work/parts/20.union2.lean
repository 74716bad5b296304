theorem plc_le {C : Ct} {f j k : Nat} : plc C f j k ≤ C 0 2 := by
  unfold plc
  cases hq : fs (fun p => !decide (bkA C p f j k)) 0 (C 0 2) with
  | none => exact Nat.le_refl _
  | some r => have := fs_lt hq; show r ≤ _; omega
set_option maxRecDepth 20000 in
set_option maxHeartbeats 4000000 in
theorem t_X6_reserve {l : Launch} {G : vG} {h : AH} {n : Nat} {f j t x : Int32} {u sv b : Nat} {rs dt : Int32} {C : Ct} (hj : h u = some (jc u sv rs dt)) (hc : ct G h (u + 1) C) (hK : bdk b C) (hb1 : 200 ≤ b) (hb2 : b + 5000 ≤ 2 ^ 28) (hi : iv C) : Mt l G mX6_reserve [.ref u, .int f, .int j, .int t, .int x] (n) h 0 0 (pz G u sv rs dt h n (dBook C f j t x)) := by
  refine Mt.of (by decide) (Nat.le_of_ble_eq_true rfl) rfl ?_
  refine v_ls (ls2 := [some (.ref u), some (.int f), some (.int j), some (.int t), some (.int x), none, none]) rfl ?_
  have hB := hK.bd (by omega)
  obtain ⟨hF, hJ, hn, hs1, hc99, hs4, hs7, hs8, hs15, hbk9, hs9⟩ := hi
  have b00 := hB 0 0
  have b01 := hB 0 1
  have b02 := hB 0 2
  refine v_aload_n dX6_reserve_0 rfl ?_
  refine fX6_10 (v := .ref (u + 1)) rfl dX6_reserve_1 hj rfl ?_
  refine fX6_81 (v := .ref (u + 1 + 1)) rfl dX6_reserve_4 (ck0 hc) rfl ?_
  refine v_iload_n dX6_reserve_7 rfl ?_
  refine v_callV (st := []) dX6_reserve_8 (t_X2_has (x := f) hc hB) wX6_85 (ck1 hc) rfl rfl ⟨Nat.le_of_ble_eq_true rfl, Nat.le_of_ble_eq_true rfl⟩ (Nat.le_of_ble_eq_true rfl) ⟨Nat.le_refl _, Nat.le_refl _⟩ (fun r n2 h2 hq => ?_)
  obtain ⟨rfl, rfl, rfl⟩ := hq
  refine v_st (st2 := [.int (nI (bI (ixb f (C 0 0) = true)))]) rfl ?_
  refine n_ifb_eq (tgt := 35) (p := ixb f (C 0 0) = true) dX6_reserve_11 (by decide) (fun c21 => ?_) (fun c21 => ?_)
  · refine v_sipush (v := (-1011)) dX6_reserve_35 (by decide) ?_
    refine v_iret dX6_reserve_38 rfl ?_ (Nat.le_of_ble_eq_true rfl) (Nat.le_of_ble_eq_true rfl)
    have e9 : dBook C f j t x = (((-1011) : Int32), (C : Ct), (none : Option (Int32 × Int32))) := by unfold dBook; all_goals (repeat (first | rw [if_pos (by first | assumption | omega | rfl | trivial)] | rw [if_neg (by first | assumption | omega)])); all_goals (try unfold dBookN); all_goals (repeat (first | rw [if_pos (by first | assumption | omega | rfl | trivial)] | rw [if_neg (by first | assumption | omega)])); all_goals (try simp only [dBookP]); all_goals (repeat (first | rw [if_pos (by first | assumption | omega | rfl | trivial)] | rw [if_neg (by first | assumption | omega)])); all_goals rfl
    show pz G u sv rs dt _ _ _ _ _ _
    rw [e9]
    exact ⟨rfl, rfl, hc, hj, frP_rf⟩
  · obtain ⟨F, hF1, rfl⟩ := ix_of c21 (by omega)
    have eF : (nI F).toNatClampNeg = F := nI_clamp (by omega)
    refine v_aload_n dX6_reserve_14 rfl ?_
    refine fX6_10 (v := .ref (u + 1)) rfl dX6_reserve_15 hj rfl ?_
    refine fX6_126 (v := .ref (u + 1 + 8)) rfl dX6_reserve_18 (ck0 hc) rfl ?_
    refine v_iload_n dX6_reserve_21 rfl ?_
    refine v_callV (st := []) dX6_reserve_22 (t_X4_has (x := j) hc hB) wX6_130 (ck8 hc) rfl rfl ⟨Nat.le_of_ble_eq_true rfl, Nat.le_of_ble_eq_true rfl⟩ (Nat.le_of_ble_eq_true rfl) ⟨Nat.le_refl _, Nat.le_refl _⟩ (fun r n2 h2 hq => ?_)
    obtain ⟨rfl, rfl, rfl⟩ := hq
    refine v_st (st2 := [.int (nI (bI (ixb j (C 0 1) = true)))]) rfl ?_
    refine n_ifb_eq (tgt := 35) (p := ixb j (C 0 1) = true) dX6_reserve_25 (by decide) (fun c22 => ?_) (fun c22 => ?_)
    · refine v_sipush (v := (-1011)) dX6_reserve_35 (by decide) ?_
      refine v_iret dX6_reserve_38 rfl ?_ (Nat.le_of_ble_eq_true rfl) (Nat.le_of_ble_eq_true rfl)
      have e9 : dBook C (nI F) j t x = (((-1011) : Int32), (C : Ct), (none : Option (Int32 × Int32))) := by unfold dBook; all_goals (repeat (first | rw [if_pos (by first | assumption | omega | rfl | trivial)] | rw [if_neg (by first | assumption | omega)])); all_goals (try simp only [eF]); all_goals (try unfold dBookN); all_goals (repeat (first | rw [if_pos (by first | assumption | omega | rfl | trivial)] | rw [if_neg (by first | assumption | omega)])); all_goals (try simp only [dBookP]); all_goals (repeat (first | rw [if_pos (by first | assumption | omega | rfl | trivial)] | rw [if_neg (by first | assumption | omega)])); all_goals rfl
      show pz G u sv rs dt _ _ _ _ _ _
      rw [e9]
      exact ⟨rfl, rfl, hc, hj, frP_rf⟩
    · obtain ⟨J, hJ1, rfl⟩ := ix_of c22 (by omega)
      have eJ : (nI J).toNatClampNeg = J := nI_clamp (by omega)
      refine v_iload_n dX6_reserve_28 rfl ?_
      refine v_callS (st := []) dX6_reserve_29 (t_X6_isThrone (x := t)) wX6_158 rfl ⟨Nat.le_of_ble_eq_true rfl, Nat.le_of_ble_eq_true rfl⟩ (Nat.le_of_ble_eq_true rfl) ⟨Nat.le_refl _, Nat.le_refl _⟩ (fun r n2 h2 hq => ?_)
      obtain ⟨rfl, rfl, rfl⟩ := hq
      refine v_st (st2 := [.int (nI (bI (ixb t 4 = true)))]) rfl ?_
      refine n_ifb_ne (tgt := 39) (p := ixb t 4 = true) dX6_reserve_32 (by decide) (fun c23 => ?_) (fun c23 => ?_)
      · obtain ⟨T, hT1, rfl⟩ := ix_of c23 (by omega)
        have eT : (nI T).toNatClampNeg = T := nI_clamp (by omega)
        refine v_iload dX6_reserve_39 rfl ?_
        refine v_if_lt (tgt := 51) dX6_reserve_41 (by decide) (fun c24 => ?_) (fun c24 => ?_)
        · refine v_sipush (v := (-1012)) dX6_reserve_51 (by decide) ?_
          refine v_iret dX6_reserve_54 rfl ?_ (Nat.le_of_ble_eq_true rfl) (Nat.le_of_ble_eq_true rfl)
          have e9 : dBook C (nI F) (nI J) (nI T) x = (((-1012) : Int32), (C : Ct), (none : Option (Int32 × Int32))) := by unfold dBook; all_goals (repeat (first | rw [if_pos (by first | assumption | omega | rfl | trivial)] | rw [if_neg (by first | assumption | omega)])); all_goals (try simp only [eF, eJ, eT]); all_goals (try unfold dBookN); all_goals (repeat (first | rw [if_pos (by first | assumption | omega | rfl | trivial)] | rw [if_neg (by first | assumption | omega)])); all_goals (try simp only [dBookP]); all_goals (repeat (first | rw [if_pos (by first | assumption | omega | rfl | trivial)] | rw [if_neg (by first | assumption | omega)])); all_goals rfl
          show pz G u sv rs dt _ _ _ _ _ _
          rw [e9]
          exact ⟨rfl, rfl, hc, hj, frP_rf⟩
        · refine v_iload dX6_reserve_44 rfl ?_
          refine v_bipush (v := nI 99) dX6_reserve_46 (by decide) ?_
          refine v_icmp_le (tgt := 55) dX6_reserve_48 (by decide) (fun c25 => ?_) (fun c25 => ?_)
          · obtain ⟨k, hk1, hk2, rfl⟩ := rg_of (a := 0) (b := 99) c24 c25 (by decide) (by decide)
            have ek : (nI k).toNatClampNeg = k := nI_clamp (by omega)
            refine v_iload dX6_reserve_55 rfl ?_
            refine v_aload_n dX6_reserve_57 rfl ?_
            refine fX6_10 (v := .ref (u + 1)) rfl dX6_reserve_58 hj rfl ?_
            refine fX6_145 (v := .int (nI (C 0 3))) rfl dX6_reserve_61 (ck0 hc) rfl ?_
            have b26 := hK 0 3
            refine n_icmp_ge (tgt := 80) (x := k) (y := C 0 3) dX6_reserve_64 (by decide) (by omega) (by omega) (fun c27 => ?_) (fun c27 => ?_)
            · refine v_aload_n dX6_reserve_80 rfl ?_
              refine fX6_10 (v := .ref (u + 1)) rfl dX6_reserve_81 hj rfl ?_
              refine fX6_161 (v := .ref (u + 1 + 18)) rfl dX6_reserve_84 (ck0 hc) rfl ?_
              refine v_iload_n dX6_reserve_87 rfl ?_
              refine n_ialdv (f := C 15) (j := T) (y := C 15 T) dX6_reserve_88 (ck18 hc) (by omega) (by decide) rfl ?_
              have b28 := hK 15 T
              refine v_iconst (v := nI 1) dX6_reserve_89 (by decide) ?_
              refine n_icmp_ne (tgt := 100) (x := C 15 T) (y := 1) dX6_reserve_90 (by decide) (by omega) (by omega) (fun c29 => ?_) (fun c29 => ?_)
              · refine v_aload_n dX6_reserve_100 rfl ?_
                refine fX6_10 (v := .ref (u + 1)) rfl dX6_reserve_101 hj rfl ?_
                refine v_iload_n dX6_reserve_104 rfl ?_
                refine v_iload_n dX6_reserve_105 rfl ?_
                refine v_callV (st := []) dX6_reserve_106 (t_X1_isBarred (f := F) (j := J) hc hB (by omega) (by omega)) wX6_297 (ck0 hc) rfl rfl ⟨Nat.le_of_ble_eq_true rfl, Nat.le_of_ble_eq_true rfl⟩ (Nat.le_of_ble_eq_true rfl) ⟨Nat.le_refl _, Nat.le_refl _⟩ (fun r n2 h2 hq => ?_)
                obtain ⟨rfl, rfl, rfl⟩ := hq
                refine v_st (st2 := [.int (nI (bI (barr C F J)))]) rfl ?_
                refine n_ifb_eq (tgt := 130) (p := barr C F J) dX6_reserve_109 (by decide) (fun c30 => ?_) (fun c30 => ?_)
                · refine v_aload_n dX6_reserve_130 rfl ?_
                  refine fX6_10 (v := .ref (u + 1)) rfl dX6_reserve_131 hj rfl ?_
                  refine fX6_107 (v := .ref (u + 1 + 13)) rfl dX6_reserve_134 (ck0 hc) rfl ?_
                  refine v_iload_n dX6_reserve_137 rfl ?_
                  refine v_iload dX6_reserve_138 rfl ?_
                  refine v_callV (st := []) dX6_reserve_140 (t_X0_jokeOfFoolAt (f := F) (hr := k) hc hB (by omega) (by omega) (by omega)) wX6_301 (ck13 hc) rfl rfl ⟨Nat.le_of_ble_eq_true rfl, Nat.le_of_ble_eq_true rfl⟩ (Nat.le_of_ble_eq_true rfl) ⟨Nat.le_refl _, Nat.le_refl _⟩ (fun r n2 h2 hq => ?_)
                  obtain ⟨rfl, rfl, rfl⟩ := hq
                  refine v_st (st2 := [.int (oN (-1015) ((bkF C F k).map (fun p => C 12 p)))]) rfl ?_
                  refine v_istore dX6_reserve_143 rfl (by decide) ?_
                  refine v_ls (ls2 := [some (.ref u), some (.int (nI F)), some (.int (nI J)), some (.int (nI T)), some (.int (nI k)), some (.int (oN (-1015) ((bkF C F k).map (fun p => C 12 p)))), none]) rfl ?_
                  rcases hb : bkF C F k with _ | p
                  · refine v_ls (ls2 := [some (.ref u), some (.int (nI F)), some (.int (nI J)), some (.int (nI T)), some (.int (nI k)), some (.int ((-1015))), none]) rfl ?_
                    refine v_iload dX6_reserve_145 rfl ?_
                    refine v_sipush (v := (-1015)) dX6_reserve_147 (by decide) ?_
                    refine v_icmp_eq (tgt := 161) dX6_reserve_150 (by decide) (fun _ => ?_) (fun z => absurd rfl z)
                    refine v_aload_n dX6_reserve_161 rfl ?_
                    refine fX6_10 (v := .ref (u + 1)) rfl dX6_reserve_162 hj rfl ?_
                    refine fX6_107 (v := .ref (u + 1 + 13)) rfl dX6_reserve_165 (ck0 hc) rfl ?_
                    refine fX6_187 (v := .int (nI (C 0 2))) rfl dX6_reserve_168 (ck13 hc) rfl ?_
                    have b31 := hK 0 2
                    refine v_bipush (v := nI 10) dX6_reserve_171 (by decide) ?_
                    refine n_icmp_lt (tgt := 184) (x := C 0 2) (y := 10) dX6_reserve_173 (by decide) (by omega) (by omega) (fun c32 => ?_) (fun c32 => ?_)
                    · refine v_aload_n dX6_reserve_184 rfl ?_
                      refine fX6_10 (v := .ref (u + 1)) rfl dX6_reserve_185 hj rfl ?_
                      refine v_iload_n dX6_reserve_188 rfl ?_
                      refine v_iload_n dX6_reserve_189 rfl ?_
                      refine v_iload dX6_reserve_190 rfl ?_
                      refine v_callV (st := []) dX6_reserve_192 (t_X1_placeFor (f := F) (j := J) (hr := k) hc hB (by omega) (by omega) (fun p hp => by have := hbk9 p hp; omega) (by omega) (by omega)) wX6_304 (ck0 hc) rfl rfl ⟨Nat.le_of_ble_eq_true rfl, Nat.le_of_ble_eq_true rfl⟩ (Nat.le_of_ble_eq_true rfl) ⟨Nat.le_refl _, Nat.le_refl _⟩ (fun r n2 h2 hq => ?_)
                      obtain ⟨rfl, rfl, rfl⟩ := hq
                      obtain ⟨pl, hpl⟩ : ∃ pl : Nat, pl = plc C F J k := ⟨_, rfl⟩
                      have hple : pl ≤ C 0 2 := by rw [hpl]; exact plc_le
                      refine v_st (st2 := [.int (nI pl)]) (by rw [hpl]; rfl) ?_
                      refine v_istore dX6_reserve_195 rfl (by decide) ?_
                      refine v_ls (ls2 := [some (.ref u), some (.int (nI F)), some (.int (nI J)), some (.int (nI T)), some (.int (nI k)), some (.int ((-1015))), some (.int (nI pl))]) rfl ?_
                      refine v_aload_n dX6_reserve_197 rfl ?_
                      refine fX6_10 (v := .ref (u + 1)) rfl dX6_reserve_198 hj rfl ?_
                      refine fX6_107 (v := .ref (u + 1 + 13)) rfl dX6_reserve_201 (ck0 hc) rfl ?_
                      refine v_iload dX6_reserve_204 rfl ?_
                      refine v_iload_n dX6_reserve_206 rfl ?_
                      refine v_iload_n dX6_reserve_207 rfl ?_
                      refine v_iload_n dX6_reserve_208 rfl ?_
                      refine v_iload dX6_reserve_209 rfl ?_
                      refine v_callV (st := []) dX6_reserve_211 (t_X0_insert (p := pl) (f := F) (j := J) (t := T) (hr := k) hc hK (by omega) (by omega) (by omega) (by omega) (by omega) (by omega) (by omega)) wX6_307 (ck13 hc) rfl rfl ⟨Nat.le_of_ble_eq_true rfl, Nat.le_of_ble_eq_true rfl⟩ (Nat.le_of_ble_eq_true rfl) ⟨Nat.le_refl _, Nat.le_refl _⟩ (fun r n2 h2 hq => ?_)
                      obtain ⟨rfl, rfl, hc9, ho9⟩ := hq
                      refine v_st (st2 := []) rfl ?_
                      obtain ⟨C33, hC33⟩ : ∃ C9 : Ct, C9 = insF C pl F J T k := ⟨_, rfl⟩
                      rw [← hC33] at hc9
                      have hc33 := hc9
                      have sa33 := ho9
                      clear hc9 ho9
                      have hK33 : bdk (b + 500) C33 := by rw [hC33]; exact bdk_insF hK (by omega) (by omega) (by omega) (by omega) (by omega)
                      have hD33 := hK33.bd (by omega)
                      have fa34 := (sa33 (u) (by omega)).trans hj
                      have fr35 := frP_tr (P := fun z => z < u ∨ u + 21 ≤ z) frP_rf sa33 (fun z (hz : z < u ∨ u + 21 ≤ z) => by omega)
                      refine v_iload dX6_reserve_214 rfl ?_
                      refine v_iret dX6_reserve_216 rfl ?_ (Nat.le_of_ble_eq_true rfl) (Nat.le_of_ble_eq_true rfl)
                      have e9 : dBook C (nI F) (nI J) (nI T) (nI k) = ((nI pl : Int32), (C33 : Ct), (none : Option (Int32 × Int32))) := by rw [hC33, hpl]; unfold dBook; all_goals (repeat (first | rw [if_pos (by first | assumption | omega | rfl | trivial)] | rw [if_neg (by first | assumption | omega)])); all_goals (try simp only [eF, eJ, eT, ek]); all_goals (try unfold dBookN); all_goals (repeat (first | rw [if_pos (by first | assumption | omega | rfl | trivial)] | rw [if_neg (by first | assumption | omega)])); all_goals (try rw [hb]); all_goals (try simp only [dBookP]); all_goals (repeat (first | rw [if_pos (by first | assumption | omega | rfl | trivial)] | rw [if_neg (by first | assumption | omega)])); all_goals rfl
                      show pz G u sv rs dt _ _ _ _ _ _
                      rw [e9]
                      exact ⟨rfl, rfl, hc33, fa34, fr35⟩
                    · refine v_aload_n dX6_reserve_176 rfl ?_
                      refine v_iconst (v := nI 1) dX6_reserve_177 (by decide) ?_
                      refine v_bipush (v := nI 10) dX6_reserve_178 (by decide) ?_
                      refine v_callV (st := []) dX6_reserve_180 (t_X6_refuse (r1 := nI 1) (d1 := nI 10) hj) wX6_243 hj rfl rfl ⟨Nat.le_of_ble_eq_true rfl, Nat.le_of_ble_eq_true rfl⟩ (Nat.le_of_ble_eq_true rfl) ⟨Nat.le_refl _, Nat.le_refl _⟩ (fun r n2 h2 hq => ?_)
                      obtain ⟨rfl, rfl, fa36, sa37⟩ := hq
                      refine v_st (st2 := [.int ((-1014))]) rfl ?_
                      have hc38 := ct_offn hc sa37 (by omega)
                      have fr39 := frP_tr (P := fun z => z < u ∨ u + 21 ≤ z) frP_rf sa37 (fun z (hz : z < u ∨ u + 21 ≤ z) => by omega)
                      refine v_iret dX6_reserve_183 rfl ?_ (Nat.le_of_ble_eq_true rfl) (Nat.le_of_ble_eq_true rfl)
                      have e9 : dBook C (nI F) (nI J) (nI T) (nI k) = (((-1014) : Int32), (C : Ct), (some (nI 1, nI 10) : Option (Int32 × Int32))) := by unfold dBook; all_goals (repeat (first | rw [if_pos (by first | assumption | omega | rfl | trivial)] | rw [if_neg (by first | assumption | omega)])); all_goals (try simp only [eF, eJ, eT, ek]); all_goals (try unfold dBookN); all_goals (repeat (first | rw [if_pos (by first | assumption | omega | rfl | trivial)] | rw [if_neg (by first | assumption | omega)])); all_goals (try rw [hb]); all_goals (try simp only [dBookP]); all_goals (repeat (first | rw [if_pos (by first | assumption | omega | rfl | trivial)] | rw [if_neg (by first | assumption | omega)])); all_goals rfl
                      show pz G u sv rs dt _ _ _ _ _ _
                      rw [e9]
                      exact ⟨rfl, rfl, hc38, fa36, fr39⟩
                  · have hb12 := hB 12 p
                    refine v_ls (ls2 := [some (.ref u), some (.int (nI F)), some (.int (nI J)), some (.int (nI T)), some (.int (nI k)), some (.int (nI (C 12 p))), none]) rfl ?_
                    refine v_iload dX6_reserve_145 rfl ?_
                    refine v_sipush (v := (-1015)) dX6_reserve_147 (by decide) ?_
                    refine v_icmp_eq (tgt := 161) dX6_reserve_150 (by decide) (fun z => absurd z (nI_ng (by omega) (by decide))) (fun _ => ?_)
                    refine v_aload_n dX6_reserve_153 rfl ?_
                    refine v_iconst (v := nI 5) dX6_reserve_154 (by decide) ?_
                    refine v_iload dX6_reserve_155 rfl ?_
                    refine v_callV (st := []) dX6_reserve_157 (t_X6_refuse (r1 := nI 5) (d1 := nI (C 12 p)) hj) wX6_243 hj rfl rfl ⟨Nat.le_of_ble_eq_true rfl, Nat.le_of_ble_eq_true rfl⟩ (Nat.le_of_ble_eq_true rfl) ⟨Nat.le_refl _, Nat.le_refl _⟩ (fun r n2 h2 hq => ?_)
                    obtain ⟨rfl, rfl, fa40, sa41⟩ := hq
                    refine v_st (st2 := [.int ((-1014))]) rfl ?_
                    have hc42 := ct_offn hc sa41 (by omega)
                    have fr43 := frP_tr (P := fun z => z < u ∨ u + 21 ≤ z) frP_rf sa41 (fun z (hz : z < u ∨ u + 21 ≤ z) => by omega)
                    refine v_iret dX6_reserve_160 rfl ?_ (Nat.le_of_ble_eq_true rfl) (Nat.le_of_ble_eq_true rfl)
                    have e9 : dBook C (nI F) (nI J) (nI T) (nI k) = (((-1014) : Int32), (C : Ct), (some (nI 5, nI (C 12 p)) : Option (Int32 × Int32))) := by unfold dBook; all_goals (repeat (first | rw [if_pos (by first | assumption | omega | rfl | trivial)] | rw [if_neg (by first | assumption | omega)])); all_goals (try simp only [eF, eJ, eT, ek]); all_goals (try unfold dBookN); all_goals (repeat (first | rw [if_pos (by first | assumption | omega | rfl | trivial)] | rw [if_neg (by first | assumption | omega)])); all_goals (try rw [hb]); all_goals (try simp only [dBookP]); all_goals (repeat (first | rw [if_pos (by first | assumption | omega | rfl | trivial)] | rw [if_neg (by first | assumption | omega)])); all_goals rfl
                    show pz G u sv rs dt _ _ _ _ _ _
                    rw [e9]
                    exact ⟨rfl, rfl, hc42, fa40, fr43⟩
                · refine v_aload_n dX6_reserve_112 rfl ?_
                  refine v_iconst (v := nI 3) dX6_reserve_113 (by decide) ?_
                  refine v_aload_n dX6_reserve_114 rfl ?_
                  refine fX6_10 (v := .ref (u + 1)) rfl dX6_reserve_115 hj rfl ?_
                  refine fX6_126 (v := .ref (u + 1 + 8)) rfl dX6_reserve_118 (ck0 hc) rfl ?_
                  refine fX6_139 (v := .ref (u + 1 + 10)) rfl dX6_reserve_121 (ck8 hc) rfl ?_
                  refine v_iload_n dX6_reserve_124 rfl ?_
                  refine n_ialdv (f := C 8) (j := J) (y := C 8 J) dX6_reserve_125 (ck10 hc) (by omega) (by decide) rfl ?_
                  have b44 := hK 8 J
                  refine v_callV (st := []) dX6_reserve_126 (t_X6_refuse (r1 := nI 3) (d1 := nI (C 8 J)) hj) wX6_243 hj rfl rfl ⟨Nat.le_of_ble_eq_true rfl, Nat.le_of_ble_eq_true rfl⟩ (Nat.le_of_ble_eq_true rfl) ⟨Nat.le_refl _, Nat.le_refl _⟩ (fun r n2 h2 hq => ?_)
                  obtain ⟨rfl, rfl, fa45, sa46⟩ := hq
                  refine v_st (st2 := [.int ((-1014))]) rfl ?_
                  have hc47 := ct_offn hc sa46 (by omega)
                  have fr48 := frP_tr (P := fun z => z < u ∨ u + 21 ≤ z) frP_rf sa46 (fun z (hz : z < u ∨ u + 21 ≤ z) => by omega)
                  refine v_iret dX6_reserve_129 rfl ?_ (Nat.le_of_ble_eq_true rfl) (Nat.le_of_ble_eq_true rfl)
                  have e9 : dBook C (nI F) (nI J) (nI T) (nI k) = (((-1014) : Int32), (C : Ct), (some (nI 3, nI (C 8 J)) : Option (Int32 × Int32))) := by unfold dBook; all_goals (repeat (first | rw [if_pos (by first | assumption | omega | rfl | trivial)] | rw [if_neg (by first | assumption | omega)])); all_goals (try simp only [eF, eJ, eT, ek]); all_goals (try unfold dBookN); all_goals (repeat (first | rw [if_pos (by first | assumption | omega | rfl | trivial)] | rw [if_neg (by first | assumption | omega)])); all_goals (try simp only [dBookP]); all_goals (repeat (first | rw [if_pos (by first | assumption | omega | rfl | trivial)] | rw [if_neg (by first | assumption | omega)])); all_goals rfl
                  show pz G u sv rs dt _ _ _ _ _ _
                  rw [e9]
                  exact ⟨rfl, rfl, hc47, fa45, fr48⟩
              · refine v_aload_n dX6_reserve_93 rfl ?_
                refine v_iconst (v := nI 4) dX6_reserve_94 (by decide) ?_
                refine v_iload_n dX6_reserve_95 rfl ?_
                refine v_callV (st := []) dX6_reserve_96 (t_X6_refuse (r1 := nI 4) (d1 := nI T) hj) wX6_243 hj rfl rfl ⟨Nat.le_of_ble_eq_true rfl, Nat.le_of_ble_eq_true rfl⟩ (Nat.le_of_ble_eq_true rfl) ⟨Nat.le_refl _, Nat.le_refl _⟩ (fun r n2 h2 hq => ?_)
                obtain ⟨rfl, rfl, fa49, sa50⟩ := hq
                refine v_st (st2 := [.int ((-1014))]) rfl ?_
                have hc51 := ct_offn hc sa50 (by omega)
                have fr52 := frP_tr (P := fun z => z < u ∨ u + 21 ≤ z) frP_rf sa50 (fun z (hz : z < u ∨ u + 21 ≤ z) => by omega)
                refine v_iret dX6_reserve_99 rfl ?_ (Nat.le_of_ble_eq_true rfl) (Nat.le_of_ble_eq_true rfl)
                have e9 : dBook C (nI F) (nI J) (nI T) (nI k) = (((-1014) : Int32), (C : Ct), (some (nI 4, nI T) : Option (Int32 × Int32))) := by unfold dBook; all_goals (repeat (first | rw [if_pos (by first | assumption | omega | rfl | trivial)] | rw [if_neg (by first | assumption | omega)])); all_goals (try simp only [eF, eJ, eT, ek]); all_goals (try unfold dBookN); all_goals (repeat (first | rw [if_pos (by first | assumption | omega | rfl | trivial)] | rw [if_neg (by first | assumption | omega)])); all_goals (try simp only [dBookP]); all_goals (repeat (first | rw [if_pos (by first | assumption | omega | rfl | trivial)] | rw [if_neg (by first | assumption | omega)])); all_goals rfl
                show pz G u sv rs dt _ _ _ _ _ _
                rw [e9]
                exact ⟨rfl, rfl, hc51, fa49, fr52⟩
            · refine v_aload_n dX6_reserve_67 rfl ?_
              refine v_iconst (v := nI 2) dX6_reserve_68 (by decide) ?_
              refine v_aload_n dX6_reserve_69 rfl ?_
              refine fX6_10 (v := .ref (u + 1)) rfl dX6_reserve_70 hj rfl ?_
              refine fX6_145 (v := .int (nI (C 0 3))) rfl dX6_reserve_73 (ck0 hc) rfl ?_
              refine v_callV (st := []) dX6_reserve_76 (t_X6_refuse (r1 := nI 2) (d1 := nI (C 0 3)) hj) wX6_243 hj rfl rfl ⟨Nat.le_of_ble_eq_true rfl, Nat.le_of_ble_eq_true rfl⟩ (Nat.le_of_ble_eq_true rfl) ⟨Nat.le_refl _, Nat.le_refl _⟩ (fun r n2 h2 hq => ?_)
              obtain ⟨rfl, rfl, fa53, sa54⟩ := hq
              refine v_st (st2 := [.int ((-1014))]) rfl ?_
              have hc55 := ct_offn hc sa54 (by omega)
              have fr56 := frP_tr (P := fun z => z < u ∨ u + 21 ≤ z) frP_rf sa54 (fun z (hz : z < u ∨ u + 21 ≤ z) => by omega)
              refine v_iret dX6_reserve_79 rfl ?_ (Nat.le_of_ble_eq_true rfl) (Nat.le_of_ble_eq_true rfl)
              have e9 : dBook C (nI F) (nI J) (nI T) (nI k) = (((-1014) : Int32), (C : Ct), (some (nI 2, nI (C 0 3)) : Option (Int32 × Int32))) := by unfold dBook; all_goals (repeat (first | rw [if_pos (by first | assumption | omega | rfl | trivial)] | rw [if_neg (by first | assumption | omega)])); all_goals (try simp only [eF, eJ, eT, ek]); all_goals (try unfold dBookN); all_goals (repeat (first | rw [if_pos (by first | assumption | omega | rfl | trivial)] | rw [if_neg (by first | assumption | omega)])); all_goals (try simp only [dBookP]); all_goals (repeat (first | rw [if_pos (by first | assumption | omega | rfl | trivial)] | rw [if_neg (by first | assumption | omega)])); all_goals rfl
              show pz G u sv rs dt _ _ _ _ _ _
              rw [e9]
              exact ⟨rfl, rfl, hc55, fa53, fr56⟩
          · refine v_sipush (v := (-1012)) dX6_reserve_51 (by decide) ?_
            refine v_iret dX6_reserve_54 rfl ?_ (Nat.le_of_ble_eq_true rfl) (Nat.le_of_ble_eq_true rfl)
            have e9 : dBook C (nI F) (nI J) (nI T) x = (((-1012) : Int32), (C : Ct), (none : Option (Int32 × Int32))) := by unfold dBook; all_goals (repeat (first | rw [if_pos (by first | assumption | omega | rfl | trivial)] | rw [if_neg (by first | assumption | omega)])); all_goals (try simp only [eF, eJ, eT]); all_goals (try unfold dBookN); all_goals (repeat (first | rw [if_pos (by first | assumption | omega | rfl | trivial)] | rw [if_neg (by first | assumption | omega)])); all_goals (try simp only [dBookP]); all_goals (repeat (first | rw [if_pos (by first | assumption | omega | rfl | trivial)] | rw [if_neg (by first | assumption | omega)])); all_goals rfl
            show pz G u sv rs dt _ _ _ _ _ _
            rw [e9]
            exact ⟨rfl, rfl, hc, hj, frP_rf⟩
      · refine v_sipush (v := (-1011)) dX6_reserve_35 (by decide) ?_
        refine v_iret dX6_reserve_38 rfl ?_ (Nat.le_of_ble_eq_true rfl) (Nat.le_of_ble_eq_true rfl)
        have e9 : dBook C (nI F) (nI J) t x = (((-1011) : Int32), (C : Ct), (none : Option (Int32 × Int32))) := by unfold dBook; all_goals (repeat (first | rw [if_pos (by first | assumption | omega | rfl | trivial)] | rw [if_neg (by first | assumption | omega)])); all_goals (try simp only [eF, eJ]); all_goals (try unfold dBookN); all_goals (repeat (first | rw [if_pos (by first | assumption | omega | rfl | trivial)] | rw [if_neg (by first | assumption | omega)])); all_goals (try simp only [dBookP]); all_goals (repeat (first | rw [if_pos (by first | assumption | omega | rfl | trivial)] | rw [if_neg (by first | assumption | omega)])); all_goals rfl
        show pz G u sv rs dt _ _ _ _ _ _
        rw [e9]
        exact ⟨rfl, rfl, hc, hj, frP_rf⟩
set_option maxRecDepth 20000 in
set_option maxHeartbeats 4000000 in
theorem t_X6_carryNextOut {l : Launch} {G : vG} {h : AH} {n : Nat}  {u sv b : Nat} {rs dt : Int32} {C : Ct} (hj : h u = some (jc u sv rs dt)) (hc : ct G h (u + 1) C) (hK : bdk b C) (hb1 : 200 ≤ b) (hb2 : b + 5000 ≤ 2 ^ 28) (hi : iv C) : Mt l G mX6_carryNextOut [.ref u] (n) h 0 0 (pz G u sv rs dt h n (dNext C)) := by
  refine Mt.of (by decide) (Nat.le_of_ble_eq_true rfl) rfl ?_
  refine v_ls (ls2 := [some (.ref u)]) rfl ?_
  have hB := hK.bd (by omega)
  obtain ⟨hF, hJ, hn, hs1, hc99, hs4, hs7, hs8, hs15, hbk9, hs9⟩ := hi
  have b00 := hB 0 0
  have b01 := hB 0 1
  have b02 := hB 0 2
  refine v_aload_n dX6_carryNextOut_0 rfl ?_
  refine fX6_10 (v := .ref (u + 1)) rfl dX6_carryNextOut_1 hj rfl ?_
  refine fX6_107 (v := .ref (u + 1 + 13)) rfl dX6_carryNextOut_4 (ck0 hc) rfl ?_
  refine fX6_187 (v := .int (nI (C 0 2))) rfl dX6_carryNextOut_7 (ck13 hc) rfl ?_
  have b21 := hK 0 2
  refine n_if_ne (tgt := 27) (x := C 0 2) dX6_carryNextOut_10 (by decide) (by omega) (fun c22 => ?_) (fun c22 => ?_)
  · obtain ⟨bq1, bq2, bq3, bq4⟩ := hbk9 0 (by omega)
    refine v_aload_n dX6_carryNextOut_27 rfl ?_
    refine fX6_10 (v := .ref (u + 1)) rfl dX6_carryNextOut_28 hj rfl ?_
    refine v_callV (st := []) dX6_carryNextOut_31 (t_X1_carryFirstOut hc hK (by omega) (by omega) (by omega) (by omega) (by omega) (by omega) hc99 (hs7 _) (hs1 _) (hs8 _)) wX6_207 (ck0 hc) rfl rfl ⟨Nat.le_of_ble_eq_true rfl, Nat.le_of_ble_eq_true rfl⟩ (Nat.le_of_ble_eq_true rfl) ⟨Nat.le_refl _, Nat.le_refl _⟩ (fun r n2 h2 hq => ?_)
    obtain ⟨rfl, rfl, hc9, ho9⟩ := hq
    replace hc9 := ct_cong hc9 ceqv_crG
    refine v_st (st2 := [.int (nI (crR C))]) rfl ?_
    obtain ⟨C23, hC23⟩ : ∃ C9 : Ct, C9 = crG C := ⟨_, rfl⟩
    rw [← hC23] at hc9
    have hc23 := hc9
    have sa23 := ho9
    clear hc9 ho9
    have hK23 : bdk (b + 3000) C23 := by rw [hC23]; exact bdk_crG hK (by omega) (hs7 _) (hs1 _)
    have hD23 := hK23.bd (by omega)
    have fa24 := (sa23 (u) (by omega)).trans hj
    have fr25 := frP_tr (P := fun z => z < u ∨ u + 21 ≤ z) frP_rf sa23 (fun z (hz : z < u ∨ u + 21 ≤ z) => by omega)
    refine v_iret dX6_carryNextOut_34 rfl ?_ (Nat.le_of_ble_eq_true rfl) (Nat.le_of_ble_eq_true rfl)
    have e9 : dNext C  = ((nI (crR C) : Int32), (C23 : Ct), (none : Option (Int32 × Int32))) := by rw [hC23]; unfold dNext; all_goals (repeat (first | rw [if_pos (by first | assumption | omega | rfl | trivial)] | rw [if_neg (by first | assumption | omega)])); all_goals rfl
    show pz G u sv rs dt _ _ _ _ _ _
    rw [e9]
    exact ⟨rfl, rfl, hc23, fa24, fr25⟩
  · refine v_aload_n dX6_carryNextOut_13 rfl ?_
    refine v_bipush (v := nI 11) dX6_carryNextOut_14 (by decide) ?_
    refine v_aload_n dX6_carryNextOut_16 rfl ?_
    refine fX6_10 (v := .ref (u + 1)) rfl dX6_carryNextOut_17 hj rfl ?_
    refine fX6_268 (v := .int (nI (C 0 7))) rfl dX6_carryNextOut_20 (ck0 hc) rfl ?_
    have b26 := hK 0 7
    refine v_callV (st := []) dX6_carryNextOut_23 (t_X6_refuse (r1 := nI 11) (d1 := nI (C 0 7)) hj) wX6_243 hj rfl rfl ⟨Nat.le_of_ble_eq_true rfl, Nat.le_of_ble_eq_true rfl⟩ (Nat.le_of_ble_eq_true rfl) ⟨Nat.le_refl _, Nat.le_refl _⟩ (fun r n2 h2 hq => ?_)
    obtain ⟨rfl, rfl, fa27, sa28⟩ := hq
    refine v_st (st2 := [.int ((-1014))]) rfl ?_
    have hc29 := ct_offn hc sa28 (by omega)
    have fr30 := frP_tr (P := fun z => z < u ∨ u + 21 ≤ z) frP_rf sa28 (fun z (hz : z < u ∨ u + 21 ≤ z) => by omega)
    refine v_iret dX6_carryNextOut_26 rfl ?_ (Nat.le_of_ble_eq_true rfl) (Nat.le_of_ble_eq_true rfl)
    have e9 : dNext C  = (((-1014) : Int32), (C : Ct), (some (nI 11, nI (C 0 7)) : Option (Int32 × Int32))) := by unfold dNext; all_goals (repeat (first | rw [if_pos (by first | assumption | omega | rfl | trivial)] | rw [if_neg (by first | assumption | omega)])); all_goals rfl
    show pz G u sv rs dt _ _ _ _ _ _
    rw [e9]
    exact ⟨rfl, rfl, hc29, fa27, fr30⟩
abbrev Hs : Type := Nat × Nat × (Nat → Ct)
def hkp (y : Int32) (B : Ct) (T : Hs) : Hs := if y < 0 then T else (min (T.1 + 1) 8, (T.2.1 + 1) % 8, su T.2.2 T.2.1 B)
def ht (G : vG) (h : AH) (q : Nat) (T : Hs) : Prop := hs G h q T.1 T.2.1 T.2.2 ∧ T.1 ≤ 8 ∧ T.2.1 < 8
theorem ht_offn {G : vG} {h h2 : AH} {q k p : Nat} {T : Hs} (a : ht G h q T) (b : offn k p h h2) (hd : q + 162 ≤ p ∨ p + k ≤ q) : ht G h2 q T := ⟨hs_offn a.1 b hd, a.2⟩
theorem hkp_ok {y : Int32} {B : Ct} {T : Hs} (h : T.1 ≤ 8 ∧ T.2.1 < 8) : (hkp y B T).1 ≤ 8 ∧ (hkp y B T).2.1 < 8 := by
  unfold hkp
  split
  · exact h
  · exact ⟨Nat.min_le_right _ _, Nat.mod_lt _ (by decide)⟩
set_option maxRecDepth 20000 in
set_option maxHeartbeats 4000000 in
theorem t_X6_remember {l : Launch} {G : vG} {h : AH} {n : Nat} {u sv : Nat} {rs dt x : Int32} {B : Ct} {T : Hs} (hj : h u = some (jc u sv rs dt)) (hbe : ct G h (u + 21) B) (hh : ht G h (u + 81) T) : Mt l G mX6_remember [.ref u, .int x] (n) h 0 0 (fun r n2 h2 => r = some (.int x) ∧ n2 = n ∧ ht G h2 (u + 81) (hkp x B T) ∧ offn 162 (u + 81) h h2) := by
  refine Mt.of (by decide) (Nat.le_of_ble_eq_true rfl) rfl ?_
  refine v_ls (ls2 := [some (.ref u), some (.int x)]) rfl ?_
  refine v_iload_n dX6_remember_0 rfl ?_
  refine v_if_lt (tgt := 15) dX6_remember_1 (by decide) (fun c21 => ?_) (fun c21 => ?_)
  · refine v_iload_n dX6_remember_15 rfl ?_
    refine v_iret dX6_remember_16 rfl ?_ (Nat.le_of_ble_eq_true rfl) (Nat.le_of_ble_eq_true rfl)
    have e9 : hkp x B T = _ := if_pos c21
    exact ⟨rfl, rfl, ⟨by rw [e9]; exact hh.1, hkp_ok hh.2⟩, offn_rf⟩
  · refine v_aload_n dX6_remember_4 rfl ?_
    refine fX6_28 (v := .ref (u + 81)) rfl dX6_remember_5 hj rfl ?_
    refine v_aload_n dX6_remember_8 rfl ?_
    refine fX6_16 (v := .ref (u + 21)) rfl dX6_remember_9 hj rfl ?_
    refine v_callV (st := []) dX6_remember_12 (t_X3_keep hh.1 hbe (by omega) hh.2.1 hh.2.2) wX6_317 hh.1.1 rfl rfl ⟨Nat.le_of_ble_eq_true rfl, Nat.le_of_ble_eq_true rfl⟩ (Nat.le_of_ble_eq_true rfl) ⟨Nat.le_refl _, Nat.le_refl _⟩ (fun r n2 h2 hq => ?_)
    obtain ⟨rfl, rfl, hh22, sa23⟩ := hq
    refine v_st (st2 := []) rfl ?_
    have fa24 := (sa23 (u) (by omega)).trans hj
    have hc25 := ct_offn hbe sa23 (by omega)
    have fr26 := offn_in (k := 162) (q := (u + 81)) offn_rf sa23 (by omega)
    refine v_iload_n dX6_remember_15 rfl ?_
    refine v_iret dX6_remember_16 rfl ?_ (Nat.le_of_ble_eq_true rfl) (Nat.le_of_ble_eq_true rfl)
    have e9 : hkp x B T = _ := if_neg c21
    exact ⟨rfl, rfl, ⟨by rw [e9]; exact hh22, hkp_ok hh.2⟩, fr26⟩
/-- what a public change does -/
def pq (G : vG) (u sv : Nat) (rs dt : Int32) (C : Ct) (T : Hs) (h : AH) (n : Nat) (R : Rz) : Option Value → Nat → AH → Prop := fun r n2 h2 => r = some (.int R.1) ∧ n2 = n ∧ ct G h2 (u + 1) R.2.1 ∧ ct G h2 (u + 21) C ∧ h2 u = some (jc u sv (rf1 R.2.2 rs) (rf2 R.2.2 dt)) ∧ ht G h2 (u + 81) (hkp R.1 C T) ∧ frP (fun z => z < u ∨ (u + 41 ≤ z ∧ z < u + 81) ∨ u + 243 ≤ z) h h2
set_option maxRecDepth 20000 in
set_option maxHeartbeats 4000000 in
theorem t_X6_fool {l : Launch} {G : vG} {h : AH} {n : Nat} {s : Int32} {u sv b : Nat} {rs dt : Int32} {C B : Ct} {T : Hs} (hj : h u = some (jc u sv rs dt)) (hc : ct G h (u + 1) C) (hK : bdk b C) (hb1 : 200 ≤ b) (hb2 : b + 5000 ≤ 2 ^ 28) (hi : iv C) (hbe : ct G h (u + 21) B) (hh : ht G h (u + 81) T) : Mt l G mX6_fool [.ref u, .int s] (n) h 0 0 (pq G u sv rs dt C T h n (dFool C s)) := by
  refine Mt.of (by decide) (Nat.le_of_ble_eq_true rfl) rfl ?_
  refine v_ls (ls2 := [some (.ref u), some (.int s)]) rfl ?_
  refine v_aload_n dX6_fool_0 rfl ?_
  refine fX6_16 (v := .ref (u + 21)) rfl dX6_fool_1 hj rfl ?_
  refine v_aload_n dX6_fool_4 rfl ?_
  refine fX6_10 (v := .ref (u + 1)) rfl dX6_fool_5 hj rfl ?_
  refine v_callV (st := []) dX6_fool_8 (t_X1_take hbe hc (by omega)) wX6_57 (ck0 hbe) rfl rfl ⟨Nat.le_of_ble_eq_true rfl, Nat.le_of_ble_eq_true rfl⟩ (Nat.le_of_ble_eq_true rfl) ⟨Nat.le_refl _, Nat.le_refl _⟩ (fun r n2 h2 hq => ?_)
  obtain ⟨rfl, rfl, hc21, sa22⟩ := hq
  refine v_st (st2 := []) rfl ?_
  have fa23 := (sa22 (u) (by omega)).trans hj
  have hc24 := ct_offn hc sa22 (by omega)
  have hh25 := ht_offn hh sa22 (by omega)
  have fr26 := frP_tr (P := fun z => z < u ∨ (u + 41 ≤ z ∧ z < u + 81) ∨ u + 243 ≤ z) frP_rf sa22 (fun z (hz : z < u ∨ (u + 41 ≤ z ∧ z < u + 81) ∨ u + 243 ≤ z) => by omega)
  refine v_aload_n dX6_fool_11 rfl ?_
  refine v_aload_n dX6_fool_12 rfl ?_
  refine v_iload_n dX6_fool_13 rfl ?_
  refine v_callV (st := [.ref u]) dX6_fool_14 (t_X6_admit fa23 hc24 hK (by omega) (by omega) hi) wX6_61 fa23 rfl rfl ⟨Nat.le_of_ble_eq_true rfl, Nat.le_of_ble_eq_true rfl⟩ (Nat.le_of_ble_eq_true rfl) ⟨Nat.le_refl _, Nat.le_refl _⟩ (fun r n2 h2 hq => ?_)
  obtain ⟨rfl, rfl, hc27, fj27, fr27⟩ := hq
  obtain ⟨R27, hR27⟩ : ∃ R : Rz, R = dFool C s := ⟨_, rfl⟩
  rw [← hR27] at hc27 fj27
  have sa27 : offn 21 u _ _ := fun z hz => fr27 z hz
  refine v_st (st2 := [.int R27.1, .ref u]) (by rw [hR27]; rfl) ?_
  have hc28 := ct_offn hc21 sa27 (by omega)
  have hh29 := ht_offn hh25 sa27 (by omega)
  have fr30 := frP_tr (P := fun z => z < u ∨ (u + 41 ≤ z ∧ z < u + 81) ∨ u + 243 ≤ z) fr26 sa27 (fun z (hz : z < u ∨ (u + 41 ≤ z ∧ z < u + 81) ∨ u + 243 ≤ z) => by omega)
  refine v_callV (st := []) dX6_fool_17 (t_X6_remember (x := R27.1) fj27 hc28 hh29) wX6_65 fj27 rfl rfl ⟨Nat.le_of_ble_eq_true rfl, Nat.le_of_ble_eq_true rfl⟩ (Nat.le_of_ble_eq_true rfl) ⟨Nat.le_refl _, Nat.le_refl _⟩ (fun r n2 h2 hq => ?_)
  obtain ⟨rfl, rfl, hh31, sa32⟩ := hq
  refine v_st (st2 := [.int R27.1]) rfl ?_
  have fa33 := (sa32 (u) (by omega)).trans fj27
  have hc34 := ct_offn hc27 sa32 (by omega)
  have hc35 := ct_offn hc28 sa32 (by omega)
  have fr36 := frP_tr (P := fun z => z < u ∨ (u + 41 ≤ z ∧ z < u + 81) ∨ u + 243 ≤ z) fr30 sa32 (fun z (hz : z < u ∨ (u + 41 ≤ z ∧ z < u + 81) ∨ u + 243 ≤ z) => by omega)
  refine v_iret dX6_fool_20 rfl ?_ (Nat.le_of_ble_eq_true rfl) (Nat.le_of_ble_eq_true rfl)
  subst hR27
  exact ⟨rfl, rfl, hc34, hc35, fa33, hh31, fr36⟩
set_option maxRecDepth 20000 in
set_option maxHeartbeats 4000000 in
theorem t_X6_joke {l : Launch} {G : vG} {h : AH} {n : Nat} {s : Int32} {u sv b : Nat} {rs dt : Int32} {C B : Ct} {T : Hs} (hj : h u = some (jc u sv rs dt)) (hc : ct G h (u + 1) C) (hK : bdk b C) (hb1 : 200 ≤ b) (hb2 : b + 5000 ≤ 2 ^ 28) (hi : iv C) (hbe : ct G h (u + 21) B) (hh : ht G h (u + 81) T) : Mt l G mX6_joke [.ref u, .int s] (n) h 0 0 (pq G u sv rs dt C T h n (dJoke C s)) := by
  refine Mt.of (by decide) (Nat.le_of_ble_eq_true rfl) rfl ?_
  refine v_ls (ls2 := [some (.ref u), some (.int s)]) rfl ?_
  refine v_aload_n dX6_joke_0 rfl ?_
  refine fX6_16 (v := .ref (u + 21)) rfl dX6_joke_1 hj rfl ?_
  refine v_aload_n dX6_joke_4 rfl ?_
  refine fX6_10 (v := .ref (u + 1)) rfl dX6_joke_5 hj rfl ?_
  refine v_callV (st := []) dX6_joke_8 (t_X1_take hbe hc (by omega)) wX6_57 (ck0 hbe) rfl rfl ⟨Nat.le_of_ble_eq_true rfl, Nat.le_of_ble_eq_true rfl⟩ (Nat.le_of_ble_eq_true rfl) ⟨Nat.le_refl _, Nat.le_refl _⟩ (fun r n2 h2 hq => ?_)
  obtain ⟨rfl, rfl, hc21, sa22⟩ := hq
  refine v_st (st2 := []) rfl ?_
  have fa23 := (sa22 (u) (by omega)).trans hj
  have hc24 := ct_offn hc sa22 (by omega)
  have hh25 := ht_offn hh sa22 (by omega)
  have fr26 := frP_tr (P := fun z => z < u ∨ (u + 41 ≤ z ∧ z < u + 81) ∨ u + 243 ≤ z) frP_rf sa22 (fun z (hz : z < u ∨ (u + 41 ≤ z ∧ z < u + 81) ∨ u + 243 ≤ z) => by omega)
  refine v_aload_n dX6_joke_11 rfl ?_
  refine v_aload_n dX6_joke_12 rfl ?_
  refine v_iload_n dX6_joke_13 rfl ?_
  refine v_callV (st := [.ref u]) dX6_joke_14 (t_X6_invent fa23 hc24 hK (by omega) (by omega) hi) wX6_68 fa23 rfl rfl ⟨Nat.le_of_ble_eq_true rfl, Nat.le_of_ble_eq_true rfl⟩ (Nat.le_of_ble_eq_true rfl) ⟨Nat.le_refl _, Nat.le_refl _⟩ (fun r n2 h2 hq => ?_)
  obtain ⟨rfl, rfl, hc27, fj27, fr27⟩ := hq
  obtain ⟨R27, hR27⟩ : ∃ R : Rz, R = dJoke C s := ⟨_, rfl⟩
  rw [← hR27] at hc27 fj27
  have sa27 : offn 21 u _ _ := fun z hz => fr27 z hz
  refine v_st (st2 := [.int R27.1, .ref u]) (by rw [hR27]; rfl) ?_
  have hc28 := ct_offn hc21 sa27 (by omega)
  have hh29 := ht_offn hh25 sa27 (by omega)
  have fr30 := frP_tr (P := fun z => z < u ∨ (u + 41 ≤ z ∧ z < u + 81) ∨ u + 243 ≤ z) fr26 sa27 (fun z (hz : z < u ∨ (u + 41 ≤ z ∧ z < u + 81) ∨ u + 243 ≤ z) => by omega)
  refine v_callV (st := []) dX6_joke_17 (t_X6_remember (x := R27.1) fj27 hc28 hh29) wX6_65 fj27 rfl rfl ⟨Nat.le_of_ble_eq_true rfl, Nat.le_of_ble_eq_true rfl⟩ (Nat.le_of_ble_eq_true rfl) ⟨Nat.le_refl _, Nat.le_refl _⟩ (fun r n2 h2 hq => ?_)
  obtain ⟨rfl, rfl, hh31, sa32⟩ := hq
  refine v_st (st2 := [.int R27.1]) rfl ?_
  have fa33 := (sa32 (u) (by omega)).trans fj27
  have hc34 := ct_offn hc27 sa32 (by omega)
  have hc35 := ct_offn hc28 sa32 (by omega)
  have fr36 := frP_tr (P := fun z => z < u ∨ (u + 41 ≤ z ∧ z < u + 81) ∨ u + 243 ≤ z) fr30 sa32 (fun z (hz : z < u ∨ (u + 41 ≤ z ∧ z < u + 81) ∨ u + 243 ≤ z) => by omega)
  refine v_iret dX6_joke_20 rfl ?_ (Nat.le_of_ble_eq_true rfl) (Nat.le_of_ble_eq_true rfl)
  subst hR27
  exact ⟨rfl, rfl, hc34, hc35, fa33, hh31, fr36⟩
set_option maxRecDepth 20000 in
set_option maxHeartbeats 4000000 in
theorem t_X6_patent {l : Launch} {G : vG} {h : AH} {n : Nat} {f j x : Int32} {u sv b : Nat} {rs dt : Int32} {C B : Ct} {T : Hs} (hj : h u = some (jc u sv rs dt)) (hc : ct G h (u + 1) C) (hK : bdk b C) (hb1 : 200 ≤ b) (hb2 : b + 5000 ≤ 2 ^ 28) (hi : iv C) (hbe : ct G h (u + 21) B) (hh : ht G h (u + 81) T) : Mt l G mX6_patent [.ref u, .int f, .int j, .int x] (n) h 0 0 (pq G u sv rs dt C T h n (dPat C f j x)) := by
  refine Mt.of (by decide) (Nat.le_of_ble_eq_true rfl) rfl ?_
  refine v_ls (ls2 := [some (.ref u), some (.int f), some (.int j), some (.int x)]) rfl ?_
  refine v_aload_n dX6_patent_0 rfl ?_
  refine fX6_16 (v := .ref (u + 21)) rfl dX6_patent_1 hj rfl ?_
  refine v_aload_n dX6_patent_4 rfl ?_
  refine fX6_10 (v := .ref (u + 1)) rfl dX6_patent_5 hj rfl ?_
  refine v_callV (st := []) dX6_patent_8 (t_X1_take hbe hc (by omega)) wX6_57 (ck0 hbe) rfl rfl ⟨Nat.le_of_ble_eq_true rfl, Nat.le_of_ble_eq_true rfl⟩ (Nat.le_of_ble_eq_true rfl) ⟨Nat.le_refl _, Nat.le_refl _⟩ (fun r n2 h2 hq => ?_)
  obtain ⟨rfl, rfl, hc21, sa22⟩ := hq
  refine v_st (st2 := []) rfl ?_
  have fa23 := (sa22 (u) (by omega)).trans hj
  have hc24 := ct_offn hc sa22 (by omega)
  have hh25 := ht_offn hh sa22 (by omega)
  have fr26 := frP_tr (P := fun z => z < u ∨ (u + 41 ≤ z ∧ z < u + 81) ∨ u + 243 ≤ z) frP_rf sa22 (fun z (hz : z < u ∨ (u + 41 ≤ z ∧ z < u + 81) ∨ u + 243 ≤ z) => by omega)
  refine v_aload_n dX6_patent_11 rfl ?_
  refine v_aload_n dX6_patent_12 rfl ?_
  refine v_iload_n dX6_patent_13 rfl ?_
  refine v_iload_n dX6_patent_14 rfl ?_
  refine v_iload_n dX6_patent_15 rfl ?_
  refine v_callV (st := [.ref u]) dX6_patent_16 (t_X6_grant fa23 hc24 hK (by omega) (by omega) hi) wX6_71 fa23 rfl rfl ⟨Nat.le_of_ble_eq_true rfl, Nat.le_of_ble_eq_true rfl⟩ (Nat.le_of_ble_eq_true rfl) ⟨Nat.le_refl _, Nat.le_refl _⟩ (fun r n2 h2 hq => ?_)
  obtain ⟨rfl, rfl, hc27, fj27, fr27⟩ := hq
  obtain ⟨R27, hR27⟩ : ∃ R : Rz, R = dPat C f j x := ⟨_, rfl⟩
  rw [← hR27] at hc27 fj27
  have sa27 : offn 21 u _ _ := fun z hz => fr27 z hz
  refine v_st (st2 := [.int R27.1, .ref u]) (by rw [hR27]; rfl) ?_
  have hc28 := ct_offn hc21 sa27 (by omega)
  have hh29 := ht_offn hh25 sa27 (by omega)
  have fr30 := frP_tr (P := fun z => z < u ∨ (u + 41 ≤ z ∧ z < u + 81) ∨ u + 243 ≤ z) fr26 sa27 (fun z (hz : z < u ∨ (u + 41 ≤ z ∧ z < u + 81) ∨ u + 243 ≤ z) => by omega)
  refine v_callV (st := []) dX6_patent_19 (t_X6_remember (x := R27.1) fj27 hc28 hh29) wX6_65 fj27 rfl rfl ⟨Nat.le_of_ble_eq_true rfl, Nat.le_of_ble_eq_true rfl⟩ (Nat.le_of_ble_eq_true rfl) ⟨Nat.le_refl _, Nat.le_refl _⟩ (fun r n2 h2 hq => ?_)
  obtain ⟨rfl, rfl, hh31, sa32⟩ := hq
  refine v_st (st2 := [.int R27.1]) rfl ?_
  have fa33 := (sa32 (u) (by omega)).trans fj27
  have hc34 := ct_offn hc27 sa32 (by omega)
  have hc35 := ct_offn hc28 sa32 (by omega)
  have fr36 := frP_tr (P := fun z => z < u ∨ (u + 41 ≤ z ∧ z < u + 81) ∨ u + 243 ≤ z) fr30 sa32 (fun z (hz : z < u ∨ (u + 41 ≤ z ∧ z < u + 81) ∨ u + 243 ≤ z) => by omega)
  refine v_iret dX6_patent_22 rfl ?_ (Nat.le_of_ble_eq_true rfl) (Nat.le_of_ble_eq_true rfl)
  subst hR27
  exact ⟨rfl, rfl, hc34, hc35, fa33, hh31, fr36⟩
set_option maxRecDepth 20000 in
set_option maxHeartbeats 4000000 in
theorem t_X6_insure {l : Launch} {G : vG} {h : AH} {n : Nat} {f : Int32} {u sv b : Nat} {rs dt : Int32} {C B : Ct} {T : Hs} (hj : h u = some (jc u sv rs dt)) (hc : ct G h (u + 1) C) (hK : bdk b C) (hb1 : 200 ≤ b) (hb2 : b + 5000 ≤ 2 ^ 28) (hi : iv C) (hbe : ct G h (u + 21) B) (hh : ht G h (u + 81) T) : Mt l G mX6_insure [.ref u, .int f] (n) h 0 0 (pq G u sv rs dt C T h n (dIns C f)) := by
  refine Mt.of (by decide) (Nat.le_of_ble_eq_true rfl) rfl ?_
  refine v_ls (ls2 := [some (.ref u), some (.int f)]) rfl ?_
  refine v_aload_n dX6_insure_0 rfl ?_
  refine fX6_16 (v := .ref (u + 21)) rfl dX6_insure_1 hj rfl ?_
  refine v_aload_n dX6_insure_4 rfl ?_
  refine fX6_10 (v := .ref (u + 1)) rfl dX6_insure_5 hj rfl ?_
  refine v_callV (st := []) dX6_insure_8 (t_X1_take hbe hc (by omega)) wX6_57 (ck0 hbe) rfl rfl ⟨Nat.le_of_ble_eq_true rfl, Nat.le_of_ble_eq_true rfl⟩ (Nat.le_of_ble_eq_true rfl) ⟨Nat.le_refl _, Nat.le_refl _⟩ (fun r n2 h2 hq => ?_)
  obtain ⟨rfl, rfl, hc21, sa22⟩ := hq
  refine v_st (st2 := []) rfl ?_
  have fa23 := (sa22 (u) (by omega)).trans hj
  have hc24 := ct_offn hc sa22 (by omega)
  have hh25 := ht_offn hh sa22 (by omega)
  have fr26 := frP_tr (P := fun z => z < u ∨ (u + 41 ≤ z ∧ z < u + 81) ∨ u + 243 ≤ z) frP_rf sa22 (fun z (hz : z < u ∨ (u + 41 ≤ z ∧ z < u + 81) ∨ u + 243 ≤ z) => by omega)
  refine v_aload_n dX6_insure_11 rfl ?_
  refine v_aload_n dX6_insure_12 rfl ?_
  refine v_iload_n dX6_insure_13 rfl ?_
  refine v_callV (st := [.ref u]) dX6_insure_14 (t_X6_cover fa23 hc24 hK (by omega) (by omega) hi) wX6_75 fa23 rfl rfl ⟨Nat.le_of_ble_eq_true rfl, Nat.le_of_ble_eq_true rfl⟩ (Nat.le_of_ble_eq_true rfl) ⟨Nat.le_refl _, Nat.le_refl _⟩ (fun r n2 h2 hq => ?_)
  obtain ⟨rfl, rfl, hc27, fj27, fr27⟩ := hq
  obtain ⟨R27, hR27⟩ : ∃ R : Rz, R = dIns C f := ⟨_, rfl⟩
  rw [← hR27] at hc27 fj27
  have sa27 : offn 21 u _ _ := fun z hz => fr27 z hz
  refine v_st (st2 := [.int R27.1, .ref u]) (by rw [hR27]; rfl) ?_
  have hc28 := ct_offn hc21 sa27 (by omega)
  have hh29 := ht_offn hh25 sa27 (by omega)
  have fr30 := frP_tr (P := fun z => z < u ∨ (u + 41 ≤ z ∧ z < u + 81) ∨ u + 243 ≤ z) fr26 sa27 (fun z (hz : z < u ∨ (u + 41 ≤ z ∧ z < u + 81) ∨ u + 243 ≤ z) => by omega)
  refine v_callV (st := []) dX6_insure_17 (t_X6_remember (x := R27.1) fj27 hc28 hh29) wX6_65 fj27 rfl rfl ⟨Nat.le_of_ble_eq_true rfl, Nat.le_of_ble_eq_true rfl⟩ (Nat.le_of_ble_eq_true rfl) ⟨Nat.le_refl _, Nat.le_refl _⟩ (fun r n2 h2 hq => ?_)
  obtain ⟨rfl, rfl, hh31, sa32⟩ := hq
  refine v_st (st2 := [.int R27.1]) rfl ?_
  have fa33 := (sa32 (u) (by omega)).trans fj27
  have hc34 := ct_offn hc27 sa32 (by omega)
  have hc35 := ct_offn hc28 sa32 (by omega)
  have fr36 := frP_tr (P := fun z => z < u ∨ (u + 41 ≤ z ∧ z < u + 81) ∨ u + 243 ≤ z) fr30 sa32 (fun z (hz : z < u ∨ (u + 41 ≤ z ∧ z < u + 81) ∨ u + 243 ≤ z) => by omega)
  refine v_iret dX6_insure_20 rfl ?_ (Nat.le_of_ble_eq_true rfl) (Nat.le_of_ble_eq_true rfl)
  subst hR27
  exact ⟨rfl, rfl, hc34, hc35, fa33, hh31, fr36⟩
set_option maxRecDepth 20000 in
set_option maxHeartbeats 4000000 in
theorem t_X6_audit {l : Launch} {G : vG} {h : AH} {n : Nat} {f : Int32} {u sv b : Nat} {rs dt : Int32} {C B : Ct} {T : Hs} (hj : h u = some (jc u sv rs dt)) (hc : ct G h (u + 1) C) (hK : bdk b C) (hb1 : 200 ≤ b) (hb2 : b + 5000 ≤ 2 ^ 28) (hi : iv C) (hbe : ct G h (u + 21) B) (hh : ht G h (u + 81) T) : Mt l G mX6_audit [.ref u, .int f] (n) h 0 0 (pq G u sv rs dt C T h n (dAud C f)) := by
  refine Mt.of (by decide) (Nat.le_of_ble_eq_true rfl) rfl ?_
  refine v_ls (ls2 := [some (.ref u), some (.int f)]) rfl ?_
  refine v_aload_n dX6_audit_0 rfl ?_
  refine fX6_16 (v := .ref (u + 21)) rfl dX6_audit_1 hj rfl ?_
  refine v_aload_n dX6_audit_4 rfl ?_
  refine fX6_10 (v := .ref (u + 1)) rfl dX6_audit_5 hj rfl ?_
  refine v_callV (st := []) dX6_audit_8 (t_X1_take hbe hc (by omega)) wX6_57 (ck0 hbe) rfl rfl ⟨Nat.le_of_ble_eq_true rfl, Nat.le_of_ble_eq_true rfl⟩ (Nat.le_of_ble_eq_true rfl) ⟨Nat.le_refl _, Nat.le_refl _⟩ (fun r n2 h2 hq => ?_)
  obtain ⟨rfl, rfl, hc21, sa22⟩ := hq
  refine v_st (st2 := []) rfl ?_
  have fa23 := (sa22 (u) (by omega)).trans hj
  have hc24 := ct_offn hc sa22 (by omega)
  have hh25 := ht_offn hh sa22 (by omega)
  have fr26 := frP_tr (P := fun z => z < u ∨ (u + 41 ≤ z ∧ z < u + 81) ∨ u + 243 ≤ z) frP_rf sa22 (fun z (hz : z < u ∨ (u + 41 ≤ z ∧ z < u + 81) ∨ u + 243 ≤ z) => by omega)
  refine v_aload_n dX6_audit_11 rfl ?_
  refine v_aload_n dX6_audit_12 rfl ?_
  refine v_iload_n dX6_audit_13 rfl ?_
  refine v_callV (st := [.ref u]) dX6_audit_14 (t_X6_collect fa23 hc24 hK (by omega) (by omega) hi) wX6_78 fa23 rfl rfl ⟨Nat.le_of_ble_eq_true rfl, Nat.le_of_ble_eq_true rfl⟩ (Nat.le_of_ble_eq_true rfl) ⟨Nat.le_refl _, Nat.le_refl _⟩ (fun r n2 h2 hq => ?_)
  obtain ⟨rfl, rfl, hc27, fj27, fr27⟩ := hq
  obtain ⟨R27, hR27⟩ : ∃ R : Rz, R = dAud C f := ⟨_, rfl⟩
  rw [← hR27] at hc27 fj27
  have sa27 : offn 21 u _ _ := fun z hz => fr27 z hz
  refine v_st (st2 := [.int R27.1, .ref u]) (by rw [hR27]; rfl) ?_
  have hc28 := ct_offn hc21 sa27 (by omega)
  have hh29 := ht_offn hh25 sa27 (by omega)
  have fr30 := frP_tr (P := fun z => z < u ∨ (u + 41 ≤ z ∧ z < u + 81) ∨ u + 243 ≤ z) fr26 sa27 (fun z (hz : z < u ∨ (u + 41 ≤ z ∧ z < u + 81) ∨ u + 243 ≤ z) => by omega)
  refine v_callV (st := []) dX6_audit_17 (t_X6_remember (x := R27.1) fj27 hc28 hh29) wX6_65 fj27 rfl rfl ⟨Nat.le_of_ble_eq_true rfl, Nat.le_of_ble_eq_true rfl⟩ (Nat.le_of_ble_eq_true rfl) ⟨Nat.le_refl _, Nat.le_refl _⟩ (fun r n2 h2 hq => ?_)
  obtain ⟨rfl, rfl, hh31, sa32⟩ := hq
  refine v_st (st2 := [.int R27.1]) rfl ?_
  have fa33 := (sa32 (u) (by omega)).trans fj27
  have hc34 := ct_offn hc27 sa32 (by omega)
  have hc35 := ct_offn hc28 sa32 (by omega)
  have fr36 := frP_tr (P := fun z => z < u ∨ (u + 41 ≤ z ∧ z < u + 81) ∨ u + 243 ≤ z) fr30 sa32 (fun z (hz : z < u ∨ (u + 41 ≤ z ∧ z < u + 81) ∨ u + 243 ≤ z) => by omega)
  refine v_iret dX6_audit_20 rfl ?_ (Nat.le_of_ble_eq_true rfl) (Nat.le_of_ble_eq_true rfl)
  subst hR27
  exact ⟨rfl, rfl, hc34, hc35, fa33, hh31, fr36⟩
set_option maxRecDepth 20000 in
set_option maxHeartbeats 4000000 in
theorem t_X6_exempt {l : Launch} {G : vG} {h : AH} {n : Nat} {t x : Int32} {u sv b : Nat} {rs dt : Int32} {C B : Ct} {T : Hs} (hj : h u = some (jc u sv rs dt)) (hc : ct G h (u + 1) C) (hK : bdk b C) (hb1 : 200 ≤ b) (hb2 : b + 5000 ≤ 2 ^ 28) (hi : iv C) (hbe : ct G h (u + 21) B) (hh : ht G h (u + 81) T) : Mt l G mX6_exempt [.ref u, .int t, .int x] (n) h 0 0 (pq G u sv rs dt C T h n (dExe C t x)) := by
  refine Mt.of (by decide) (Nat.le_of_ble_eq_true rfl) rfl ?_
  refine v_ls (ls2 := [some (.ref u), some (.int t), some (.int x)]) rfl ?_
  refine v_aload_n dX6_exempt_0 rfl ?_
  refine fX6_16 (v := .ref (u + 21)) rfl dX6_exempt_1 hj rfl ?_
  refine v_aload_n dX6_exempt_4 rfl ?_
  refine fX6_10 (v := .ref (u + 1)) rfl dX6_exempt_5 hj rfl ?_
  refine v_callV (st := []) dX6_exempt_8 (t_X1_take hbe hc (by omega)) wX6_57 (ck0 hbe) rfl rfl ⟨Nat.le_of_ble_eq_true rfl, Nat.le_of_ble_eq_true rfl⟩ (Nat.le_of_ble_eq_true rfl) ⟨Nat.le_refl _, Nat.le_refl _⟩ (fun r n2 h2 hq => ?_)
  obtain ⟨rfl, rfl, hc21, sa22⟩ := hq
  refine v_st (st2 := []) rfl ?_
  have fa23 := (sa22 (u) (by omega)).trans hj
  have hc24 := ct_offn hc sa22 (by omega)
  have hh25 := ht_offn hh sa22 (by omega)
  have fr26 := frP_tr (P := fun z => z < u ∨ (u + 41 ≤ z ∧ z < u + 81) ∨ u + 243 ≤ z) frP_rf sa22 (fun z (hz : z < u ∨ (u + 41 ≤ z ∧ z < u + 81) ∨ u + 243 ≤ z) => by omega)
  refine v_aload_n dX6_exempt_11 rfl ?_
  refine v_aload_n dX6_exempt_12 rfl ?_
  refine v_iload_n dX6_exempt_13 rfl ?_
  refine v_iload_n dX6_exempt_14 rfl ?_
  refine v_callV (st := [.ref u]) dX6_exempt_15 (t_X6_setExempt fa23 hc24 hK (by omega) (by omega) hi) wX6_154 fa23 rfl rfl ⟨Nat.le_of_ble_eq_true rfl, Nat.le_of_ble_eq_true rfl⟩ (Nat.le_of_ble_eq_true rfl) ⟨Nat.le_refl _, Nat.le_refl _⟩ (fun r n2 h2 hq => ?_)
  obtain ⟨rfl, rfl, hc27, fj27, fr27⟩ := hq
  obtain ⟨R27, hR27⟩ : ∃ R : Rz, R = dExe C t x := ⟨_, rfl⟩
  rw [← hR27] at hc27 fj27
  have sa27 : offn 21 u _ _ := fun z hz => fr27 z hz
  refine v_st (st2 := [.int R27.1, .ref u]) (by rw [hR27]; rfl) ?_
  have hc28 := ct_offn hc21 sa27 (by omega)
  have hh29 := ht_offn hh25 sa27 (by omega)
  have fr30 := frP_tr (P := fun z => z < u ∨ (u + 41 ≤ z ∧ z < u + 81) ∨ u + 243 ≤ z) fr26 sa27 (fun z (hz : z < u ∨ (u + 41 ≤ z ∧ z < u + 81) ∨ u + 243 ≤ z) => by omega)
  refine v_callV (st := []) dX6_exempt_18 (t_X6_remember (x := R27.1) fj27 hc28 hh29) wX6_65 fj27 rfl rfl ⟨Nat.le_of_ble_eq_true rfl, Nat.le_of_ble_eq_true rfl⟩ (Nat.le_of_ble_eq_true rfl) ⟨Nat.le_refl _, Nat.le_refl _⟩ (fun r n2 h2 hq => ?_)
  obtain ⟨rfl, rfl, hh31, sa32⟩ := hq
  refine v_st (st2 := [.int R27.1]) rfl ?_
  have fa33 := (sa32 (u) (by omega)).trans fj27
  have hc34 := ct_offn hc27 sa32 (by omega)
  have hc35 := ct_offn hc28 sa32 (by omega)
  have fr36 := frP_tr (P := fun z => z < u ∨ (u + 41 ≤ z ∧ z < u + 81) ∨ u + 243 ≤ z) fr30 sa32 (fun z (hz : z < u ∨ (u + 41 ≤ z ∧ z < u + 81) ∨ u + 243 ≤ z) => by omega)
  refine v_iret dX6_exempt_21 rfl ?_ (Nat.le_of_ble_eq_true rfl) (Nat.le_of_ble_eq_true rfl)
  subst hR27
  exact ⟨rfl, rfl, hc34, hc35, fa33, hh31, fr36⟩
set_option maxRecDepth 20000 in
set_option maxHeartbeats 4000000 in
theorem t_X6_book {l : Launch} {G : vG} {h : AH} {n : Nat} {f j t x : Int32} {u sv b : Nat} {rs dt : Int32} {C B : Ct} {T : Hs} (hj : h u = some (jc u sv rs dt)) (hc : ct G h (u + 1) C) (hK : bdk b C) (hb1 : 200 ≤ b) (hb2 : b + 5000 ≤ 2 ^ 28) (hi : iv C) (hbe : ct G h (u + 21) B) (hh : ht G h (u + 81) T) : Mt l G mX6_book [.ref u, .int f, .int j, .int t, .int x] (n) h 0 0 (pq G u sv rs dt C T h n (dBook C f j t x)) := by
  refine Mt.of (by decide) (Nat.le_of_ble_eq_true rfl) rfl ?_
  refine v_ls (ls2 := [some (.ref u), some (.int f), some (.int j), some (.int t), some (.int x)]) rfl ?_
  refine v_aload_n dX6_book_0 rfl ?_
  refine fX6_16 (v := .ref (u + 21)) rfl dX6_book_1 hj rfl ?_
  refine v_aload_n dX6_book_4 rfl ?_
  refine fX6_10 (v := .ref (u + 1)) rfl dX6_book_5 hj rfl ?_
  refine v_callV (st := []) dX6_book_8 (t_X1_take hbe hc (by omega)) wX6_57 (ck0 hbe) rfl rfl ⟨Nat.le_of_ble_eq_true rfl, Nat.le_of_ble_eq_true rfl⟩ (Nat.le_of_ble_eq_true rfl) ⟨Nat.le_refl _, Nat.le_refl _⟩ (fun r n2 h2 hq => ?_)
  obtain ⟨rfl, rfl, hc21, sa22⟩ := hq
  refine v_st (st2 := []) rfl ?_
  have fa23 := (sa22 (u) (by omega)).trans hj
  have hc24 := ct_offn hc sa22 (by omega)
  have hh25 := ht_offn hh sa22 (by omega)
  have fr26 := frP_tr (P := fun z => z < u ∨ (u + 41 ≤ z ∧ z < u + 81) ∨ u + 243 ≤ z) frP_rf sa22 (fun z (hz : z < u ∨ (u + 41 ≤ z ∧ z < u + 81) ∨ u + 243 ≤ z) => by omega)
  refine v_aload_n dX6_book_11 rfl ?_
  refine v_aload_n dX6_book_12 rfl ?_
  refine v_iload_n dX6_book_13 rfl ?_
  refine v_iload_n dX6_book_14 rfl ?_
  refine v_iload_n dX6_book_15 rfl ?_
  refine v_iload dX6_book_16 rfl ?_
  refine v_callV (st := [.ref u]) dX6_book_18 (t_X6_reserve fa23 hc24 hK (by omega) (by omega) hi) wX6_176 fa23 rfl rfl ⟨Nat.le_of_ble_eq_true rfl, Nat.le_of_ble_eq_true rfl⟩ (Nat.le_of_ble_eq_true rfl) ⟨Nat.le_refl _, Nat.le_refl _⟩ (fun r n2 h2 hq => ?_)
  obtain ⟨rfl, rfl, hc27, fj27, fr27⟩ := hq
  obtain ⟨R27, hR27⟩ : ∃ R : Rz, R = dBook C f j t x := ⟨_, rfl⟩
  rw [← hR27] at hc27 fj27
  have sa27 : offn 21 u _ _ := fun z hz => fr27 z hz
  refine v_st (st2 := [.int R27.1, .ref u]) (by rw [hR27]; rfl) ?_
  have hc28 := ct_offn hc21 sa27 (by omega)
  have hh29 := ht_offn hh25 sa27 (by omega)
  have fr30 := frP_tr (P := fun z => z < u ∨ (u + 41 ≤ z ∧ z < u + 81) ∨ u + 243 ≤ z) fr26 sa27 (fun z (hz : z < u ∨ (u + 41 ≤ z ∧ z < u + 81) ∨ u + 243 ≤ z) => by omega)
  refine v_callV (st := []) dX6_book_21 (t_X6_remember (x := R27.1) fj27 hc28 hh29) wX6_65 fj27 rfl rfl ⟨Nat.le_of_ble_eq_true rfl, Nat.le_of_ble_eq_true rfl⟩ (Nat.le_of_ble_eq_true rfl) ⟨Nat.le_refl _, Nat.le_refl _⟩ (fun r n2 h2 hq => ?_)
  obtain ⟨rfl, rfl, hh31, sa32⟩ := hq
  refine v_st (st2 := [.int R27.1]) rfl ?_
  have fa33 := (sa32 (u) (by omega)).trans fj27
  have hc34 := ct_offn hc27 sa32 (by omega)
  have hc35 := ct_offn hc28 sa32 (by omega)
  have fr36 := frP_tr (P := fun z => z < u ∨ (u + 41 ≤ z ∧ z < u + 81) ∨ u + 243 ≤ z) fr30 sa32 (fun z (hz : z < u ∨ (u + 41 ≤ z ∧ z < u + 81) ∨ u + 243 ≤ z) => by omega)
  refine v_iret dX6_book_24 rfl ?_ (Nat.le_of_ble_eq_true rfl) (Nat.le_of_ble_eq_true rfl)
  subst hR27
  exact ⟨rfl, rfl, hc34, hc35, fa33, hh31, fr36⟩
set_option maxRecDepth 20000 in
set_option maxHeartbeats 4000000 in
theorem t_X6_next {l : Launch} {G : vG} {h : AH} {n : Nat}  {u sv b : Nat} {rs dt : Int32} {C B : Ct} {T : Hs} (hj : h u = some (jc u sv rs dt)) (hc : ct G h (u + 1) C) (hK : bdk b C) (hb1 : 200 ≤ b) (hb2 : b + 5000 ≤ 2 ^ 28) (hi : iv C) (hbe : ct G h (u + 21) B) (hh : ht G h (u + 81) T) : Mt l G mX6_next [.ref u] (n) h 0 0 (pq G u sv rs dt C T h n (dNext C )) := by
  refine Mt.of (by decide) (Nat.le_of_ble_eq_true rfl) rfl ?_
  refine v_ls (ls2 := [some (.ref u)]) rfl ?_
  refine v_aload_n dX6_next_0 rfl ?_
  refine fX6_16 (v := .ref (u + 21)) rfl dX6_next_1 hj rfl ?_
  refine v_aload_n dX6_next_4 rfl ?_
  refine fX6_10 (v := .ref (u + 1)) rfl dX6_next_5 hj rfl ?_
  refine v_callV (st := []) dX6_next_8 (t_X1_take hbe hc (by omega)) wX6_57 (ck0 hbe) rfl rfl ⟨Nat.le_of_ble_eq_true rfl, Nat.le_of_ble_eq_true rfl⟩ (Nat.le_of_ble_eq_true rfl) ⟨Nat.le_refl _, Nat.le_refl _⟩ (fun r n2 h2 hq => ?_)
  obtain ⟨rfl, rfl, hc21, sa22⟩ := hq
  refine v_st (st2 := []) rfl ?_
  have fa23 := (sa22 (u) (by omega)).trans hj
  have hc24 := ct_offn hc sa22 (by omega)
  have hh25 := ht_offn hh sa22 (by omega)
  have fr26 := frP_tr (P := fun z => z < u ∨ (u + 41 ≤ z ∧ z < u + 81) ∨ u + 243 ≤ z) frP_rf sa22 (fun z (hz : z < u ∨ (u + 41 ≤ z ∧ z < u + 81) ∨ u + 243 ≤ z) => by omega)
  refine v_aload_n dX6_next_11 rfl ?_
  refine v_aload_n dX6_next_12 rfl ?_
  refine v_callV (st := [.ref u]) dX6_next_13 (t_X6_carryNextOut fa23 hc24 hK (by omega) (by omega) hi) wX6_180 fa23 rfl rfl ⟨Nat.le_of_ble_eq_true rfl, Nat.le_of_ble_eq_true rfl⟩ (Nat.le_of_ble_eq_true rfl) ⟨Nat.le_refl _, Nat.le_refl _⟩ (fun r n2 h2 hq => ?_)
  obtain ⟨rfl, rfl, hc27, fj27, fr27⟩ := hq
  obtain ⟨R27, hR27⟩ : ∃ R : Rz, R = dNext C := ⟨_, rfl⟩
  rw [← hR27] at hc27 fj27
  have sa27 : offn 21 u _ _ := fun z hz => fr27 z hz
  refine v_st (st2 := [.int R27.1, .ref u]) (by rw [hR27]; rfl) ?_
  have hc28 := ct_offn hc21 sa27 (by omega)
  have hh29 := ht_offn hh25 sa27 (by omega)
  have fr30 := frP_tr (P := fun z => z < u ∨ (u + 41 ≤ z ∧ z < u + 81) ∨ u + 243 ≤ z) fr26 sa27 (fun z (hz : z < u ∨ (u + 41 ≤ z ∧ z < u + 81) ∨ u + 243 ≤ z) => by omega)
  refine v_callV (st := []) dX6_next_16 (t_X6_remember (x := R27.1) fj27 hc28 hh29) wX6_65 fj27 rfl rfl ⟨Nat.le_of_ble_eq_true rfl, Nat.le_of_ble_eq_true rfl⟩ (Nat.le_of_ble_eq_true rfl) ⟨Nat.le_refl _, Nat.le_refl _⟩ (fun r n2 h2 hq => ?_)
  obtain ⟨rfl, rfl, hh31, sa32⟩ := hq
  refine v_st (st2 := [.int R27.1]) rfl ?_
  have fa33 := (sa32 (u) (by omega)).trans fj27
  have hc34 := ct_offn hc27 sa32 (by omega)
  have hc35 := ct_offn hc28 sa32 (by omega)
  have fr36 := frP_tr (P := fun z => z < u ∨ (u + 41 ≤ z ∧ z < u + 81) ∨ u + 243 ≤ z) fr30 sa32 (fun z (hz : z < u ∨ (u + 41 ≤ z ∧ z < u + 81) ∨ u + 243 ≤ z) => by omega)
  refine v_iret dX6_next_19 rfl ?_ (Nat.le_of_ble_eq_true rfl) (Nat.le_of_ble_eq_true rfl)
  subst hR27
  exact ⟨rfl, rfl, hc34, hc35, fa33, hh31, fr36⟩
set_option maxRecDepth 20000 in
set_option maxHeartbeats 4000000 in
theorem t_X6_pass {l : Launch} {G : vG} {h : AH} {n : Nat} {x : Int32} {u sv b : Nat} {rs dt : Int32} {C B : Ct} {T : Hs} (hj : h u = some (jc u sv rs dt)) (hc : ct G h (u + 1) C) (hK : bdk b C) (hb1 : 200 ≤ b) (hb2 : b + 5000 ≤ 2 ^ 28) (hi : iv C) (hbe : ct G h (u + 21) B) (hh : ht G h (u + 81) T) : Mt l G mX6_pass [.ref u, .int x] (n) h 0 0 (pq G u sv rs dt C T h n (dPass C x)) := by
  refine Mt.of (by decide) (Nat.le_of_ble_eq_true rfl) rfl ?_
  refine v_ls (ls2 := [some (.ref u), some (.int x)]) rfl ?_
  refine v_aload_n dX6_pass_0 rfl ?_
  refine fX6_16 (v := .ref (u + 21)) rfl dX6_pass_1 hj rfl ?_
  refine v_aload_n dX6_pass_4 rfl ?_
  refine fX6_10 (v := .ref (u + 1)) rfl dX6_pass_5 hj rfl ?_
  refine v_callV (st := []) dX6_pass_8 (t_X1_take hbe hc (by omega)) wX6_57 (ck0 hbe) rfl rfl ⟨Nat.le_of_ble_eq_true rfl, Nat.le_of_ble_eq_true rfl⟩ (Nat.le_of_ble_eq_true rfl) ⟨Nat.le_refl _, Nat.le_refl _⟩ (fun r n2 h2 hq => ?_)
  obtain ⟨rfl, rfl, hc21, sa22⟩ := hq
  refine v_st (st2 := []) rfl ?_
  have fa23 := (sa22 (u) (by omega)).trans hj
  have hc24 := ct_offn hc sa22 (by omega)
  have hh25 := ht_offn hh sa22 (by omega)
  have fr26 := frP_tr (P := fun z => z < u ∨ (u + 41 ≤ z ∧ z < u + 81) ∨ u + 243 ≤ z) frP_rf sa22 (fun z (hz : z < u ∨ (u + 41 ≤ z ∧ z < u + 81) ∨ u + 243 ≤ z) => by omega)
  refine v_aload_n dX6_pass_11 rfl ?_
  refine v_aload_n dX6_pass_12 rfl ?_
  refine v_iload_n dX6_pass_13 rfl ?_
  refine v_callV (st := [.ref u]) dX6_pass_14 (t_X6_elapse fa23 hc24 hK (by omega) (by omega) hi) wX6_184 fa23 rfl rfl ⟨Nat.le_of_ble_eq_true rfl, Nat.le_of_ble_eq_true rfl⟩ (Nat.le_of_ble_eq_true rfl) ⟨Nat.le_refl _, Nat.le_refl _⟩ (fun r n2 h2 hq => ?_)
  obtain ⟨rfl, rfl, hc27, fj27, fr27⟩ := hq
  obtain ⟨R27, hR27⟩ : ∃ R : Rz, R = dPass C x := ⟨_, rfl⟩
  rw [← hR27] at hc27 fj27
  have sa27 : offn 21 u _ _ := fun z hz => fr27 z hz
  refine v_st (st2 := [.int R27.1, .ref u]) (by rw [hR27]; rfl) ?_
  have hc28 := ct_offn hc21 sa27 (by omega)
  have hh29 := ht_offn hh25 sa27 (by omega)
  have fr30 := frP_tr (P := fun z => z < u ∨ (u + 41 ≤ z ∧ z < u + 81) ∨ u + 243 ≤ z) fr26 sa27 (fun z (hz : z < u ∨ (u + 41 ≤ z ∧ z < u + 81) ∨ u + 243 ≤ z) => by omega)
  refine v_callV (st := []) dX6_pass_17 (t_X6_remember (x := R27.1) fj27 hc28 hh29) wX6_65 fj27 rfl rfl ⟨Nat.le_of_ble_eq_true rfl, Nat.le_of_ble_eq_true rfl⟩ (Nat.le_of_ble_eq_true rfl) ⟨Nat.le_refl _, Nat.le_refl _⟩ (fun r n2 h2 hq => ?_)
  obtain ⟨rfl, rfl, hh31, sa32⟩ := hq
  refine v_st (st2 := [.int R27.1]) rfl ?_
  have fa33 := (sa32 (u) (by omega)).trans fj27
  have hc34 := ct_offn hc27 sa32 (by omega)
  have hc35 := ct_offn hc28 sa32 (by omega)
  have fr36 := frP_tr (P := fun z => z < u ∨ (u + 41 ≤ z ∧ z < u + 81) ∨ u + 243 ≤ z) fr30 sa32 (fun z (hz : z < u ∨ (u + 41 ≤ z ∧ z < u + 81) ∨ u + 243 ≤ z) => by omega)
  refine v_iret dX6_pass_20 rfl ?_ (Nat.le_of_ble_eq_true rfl) (Nat.le_of_ble_eq_true rfl)
  subst hR27
  exact ⟨rfl, rfl, hc34, hc35, fa33, hh31, fr36⟩
