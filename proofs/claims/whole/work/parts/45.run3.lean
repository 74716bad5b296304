theorem ht_fr {G : vG} {h h2 : AH} {q : Nat} {T : Hs} (a : ht G h q T) (b : ∀ z, q ≤ z → z < q + 162 → h2 z = h z) : ht G h2 q T := by
  obtain ⟨⟨h1, ⟨f, h3, h4⟩, h5⟩, h6⟩ := a
  exact ⟨⟨(b q (by omega) (by omega)).trans h1, ⟨f, (b (q + 1) (by omega) (by omega)).trans h3, h4⟩, fun i hi k hk => (b _ (by omega) (by omega)).trans (h5 i hi k hk)⟩, h6⟩
theorem tsg_0 {F : Nat → Nat} : tsg (F, 0) := ⟨Nat.zero_le _, fun i hi => absurd hi (Nat.not_lt_zero i)⟩
set_option maxRecDepth 20000 in
set_option maxHeartbeats 4000000 in
theorem t_X6_run {l : Launch} {G : vG} {h : AH} {n : Nat} {u sv a mm mb b c p r : Nat} {rs dt : Int32} {C B : Ct} {T : Hs} {S : Ln} {L N : Nat → Nat} (hj : h u = some (jc u sv rs dt)) (hc : ct G h (u + 1) C) (hbe : ct G h (u + 21) B) (hh : ht G h (u + 81) T) (hK : bdk b C) (hb1 : 200 ≤ b) (hb2 : b + 100000 ≤ 2 ^ 28) (hI : Iv C) (hot : h (u + 243) = some (.inr (6, [.ref (u + 244), .int (nI c), .int (nI p), .int (nI r), .ref (u + 246), .ref (u + 247)]))) (hb : sbP G h (u + 244) a mm S.1 S.2 mb) (hcp : capM mm) (ha : a = u + 245 ∨ u + 258 ≤ a) (han : a < n) (hun : u + 258 ≤ n) (hS : tsg S) (hL : h (u + 246) = some (.inl (gC G 1, 30, .inl (fun i => nI (L i))))) (hN : h (u + 247) = some (ar G 120 N)) : Mt l G mX6_run [.ref u] (n) h 1 142 (fun r9 n2 h2 => r9 = some (.int (dRun (txt S.1 S.2) S.2 C).1) ∧ n2 = n ∧ ct G h2 (u + 1) (dRun (txt S.1 S.2) S.2 C).2.1 ∧ ct G h2 (u + 21) C ∧ h2 u = some (jc u sv (rf1 (dRun (txt S.1 S.2) S.2 C).2.2 rs) (rf2 (dRun (txt S.1 S.2) S.2 C).2.2 dt)) ∧ ht G h2 (u + 81) (hkp (dRun (txt S.1 S.2) S.2 C).1 C T) ∧ (∃ (c2 p2 r2 : Nat) (L2 N2 : Nat → Nat), h2 (u + 243) = some (.inr (6, [.ref (u + 244), .int (nI c2), .int (nI p2), .int (nI r2), .ref (u + 246), .ref (u + 247)])) ∧ h2 (u + 246) = some (.inl (gC G 1, 30, .inl (fun i => nI (L2 i)))) ∧ h2 (u + 247) = some (ar G 120 N2)) ∧ (∃ mb2 : Nat, sbP G h2 (u + 244) a mm S.1 0 mb2) ∧ frP (fun z => z < u ∨ (u + 41 ≤ z ∧ z < u + 81) ∨ (u + 248 ≤ z ∧ z ≠ a ∧ z < n)) h h2) := by
  refine Mt.of (by decide) (Nat.le_of_ble_eq_true rfl) rfl ?_
  refine v_ls (ls2 := [some (.ref u), none, none]) rfl ?_
  have hS60 := hS.1
  obtain ⟨n0, hn0⟩ : ∃ n0 : Nat, n0 = n := ⟨n, rfl⟩
  refine v_aload_n dX6_run_0 rfl ?_
  refine fX6_16 (v := .ref (u + 21)) rfl dX6_run_1 hj rfl ?_
  refine v_aload_n dX6_run_4 rfl ?_
  refine fX6_10 (v := .ref (u + 1)) rfl dX6_run_5 hj rfl ?_
  refine v_callV (st := []) dX6_run_8 (t_X1_take hbe hc (by omega)) wX6_57 (ck0 hbe) rfl rfl ⟨Nat.le_of_ble_eq_true rfl, Nat.le_of_ble_eq_true rfl⟩ (Nat.le_of_ble_eq_true rfl) ⟨Nat.le_of_ble_eq_true rfl, Nat.le_of_ble_eq_true rfl⟩ (fun r n2 h2 hq => ?_)
  obtain ⟨rfl, rfl, hc21, sa22⟩ := hq
  refine v_st (st2 := []) rfl ?_
  have fa23 := (sa22 (u) (by omega)).trans hj
  have hc24 := ct_offn hc sa22 (by omega)
  have fa25 := (sa22 (u + 243) (by omega)).trans hot
  have hb26 := sbP_fr hb (sa22 (u + 244) (by omega)) (sa22 (a) (by omega))
  have fa27 := (sa22 (u + 246) (by omega)).trans hL
  have fa28 := (sa22 (u + 247) (by omega)).trans hN
  have fr29 : frP (fun z => z < u ∨ (u + 41 ≤ z ∧ z < u + 81) ∨ (u + 248 ≤ z ∧ z ≠ a ∧ z < n0)) _ _ := fun z (hz : z < u ∨ (u + 41 ≤ z ∧ z < u + 81) ∨ (u + 248 ≤ z ∧ z ≠ a ∧ z < n0)) => sa22 z (by omega)
  have hh30 := ht_offn hh sa22 (by omega)
  refine v_aload_n dX6_run_11 rfl ?_
  refine fX6_35 (v := .ref (u + 243)) rfl dX6_run_12 fa23 rfl ?_
  refine v_callV (st := []) dX6_run_15 (t_X5_read fa25 hb26 fa27 fa28 (by omega) (capM_le hcp) hS.1 hS.2) wX6_228 fa25 rfl rfl ⟨Nat.le_of_ble_eq_true rfl, Nat.le_of_ble_eq_true rfl⟩ (Nat.le_of_ble_eq_true rfl) ⟨Nat.le_of_ble_eq_true rfl, Nat.le_of_ble_eq_true rfl⟩ (fun r n2 h2 hq => ?_)
  obtain ⟨r31, L31, N31, rfl, hn9, fo31, fb31, fL31, fN31, rec31, h30, hpl, fr31⟩ := hq; replace hn9 := hn9.symm; subst hn9
  refine v_st (st2 := [.int (nI (bI ((rdO (txt S.1 S.2) S.2 30 0).1 = true)))]) rfl ?_
  have hh32 := ht_fr hh30 (fun z z1 z2 => fr31 z (by omega))
  have fa33 := (fr31 (u) (by omega)).trans fa23
  have hc34 : ct G _ (u + 1) C := fun i hi => (fr31 (u + 1 + i) (by omega)).trans (hc24 i hi)
  have fr35 : frP (fun z => z < u ∨ (u + 41 ≤ z ∧ z < u + 81) ∨ (u + 248 ≤ z ∧ z ≠ a ∧ z < n0)) _ _ := fun z (hz : z < u ∨ (u + 41 ≤ z ∧ z < u + 81) ∨ (u + 248 ≤ z ∧ z ≠ a ∧ z < n0)) => (fr31 z (by omega)).trans (fr29 z hz)
  have hc36 : ct G _ (u + 21) C := fun i hi => (fr31 (u + 21 + i) (by omega)).trans (hc21 i hi)
  refine v_istore_n dX6_run_18 rfl (by decide) ?_
  refine v_ls (ls2 := [some (.ref u), some (.int (nI (bI ((rdO (txt S.1 S.2) S.2 30 0).1 = true)))), none]) rfl ?_
  refine v_aload_n dX6_run_19 rfl ?_
  refine fX6_35 (v := .ref (u + 243)) rfl dX6_run_20 fa33 rfl ?_
  refine fX6_218 (v := .ref (u + 244)) rfl dX6_run_23 fo31 rfl ?_
  refine v_iconst (v := nI 0) dX6_run_26 (by decide) ?_
  refine v_callV (st := []) dX6_run_27 (t_J4_setLength_d00df fb31 (capM_le hcp)) wX6_232 fb31.1 rfl rfl ⟨Nat.le_of_ble_eq_true rfl, Nat.le_of_ble_eq_true rfl⟩ (Nat.le_of_ble_eq_true rfl) ⟨by omega, by omega⟩ (fun r n2 h2 hq => ?_)
  obtain ⟨rfl, hn9, mb37, hb37, fr37⟩ := hq; replace hn9 := hn9.symm; subst hn9
  refine v_st (st2 := []) rfl ?_
  obtain ⟨S37, hS37⟩ : ∃ Sx : Ln, Sx = (S.1, 0) := ⟨_, rfl⟩
  have hc37 : sbP G _ (u + 244) (a) _ ((S.1, 0) : Ln).1 ((S.1, 0) : Ln).2 _ := hb37
  rw [← hS37] at hc37
  have hk37 : S37.2 = 0 := by rw [hS37]
  have km37 := sbP_km hc37
  have hh38 := ht_fr hh32 (fun z z1 z2 => fr37 z (by omega))
  have fa39 := (fr37 (u) (by omega)).trans fa33
  have hc40 : ct G _ (u + 1) C := fun i hi => (fr37 (u + 1 + i) (by omega)).trans (hc34 i hi)
  have fa41 := (fr37 (u + 243) (by omega)).trans fo31
  have fa42 := (fr37 (u + 246) (by omega)).trans fL31
  have fa43 := (fr37 (u + 247) (by omega)).trans fN31
  have fr44 : frP (fun z => z < u ∨ (u + 41 ≤ z ∧ z < u + 81) ∨ (u + 248 ≤ z ∧ z ≠ a ∧ z < n0)) _ _ := fun z (hz : z < u ∨ (u + 41 ≤ z ∧ z < u + 81) ∨ (u + 248 ≤ z ∧ z ≠ a ∧ z < n0)) => (fr37 z (by omega)).trans (fr35 z hz)
  have hc45 : ct G _ (u + 21) C := fun i hi => (fr37 (u + 21 + i) (by omega)).trans (hc36 i hi)
  refine v_iload_n dX6_run_30 rfl ?_
  refine n_ifb_ne (tgt := 46) (p := (rdO (txt S.1 S.2) S.2 30 0).1 = true) dX6_run_31 (by decide) (fun c46 => ?_) (fun c46 => ?_)
  · have hrt : (rdO (txt S.1 S.2) S.2 30 0).1 = true := c46
    obtain ⟨hK0, hall⟩ := rdO_all (T := (txt S.1 S.2)) (n := S.2) 30 0 0 rfl hrt
    have hrec := rec31 hrt
    have htsg : tsg S37 := by rw [hS37]; exact tsg_0
    refine v_iconst (v := nI 0) dX6_run_46 (by decide) ?_
    refine v_istore_n dX6_run_47 rfl (by decide) ?_
    refine v_ls (ls2 := [some (.ref u), some (.int (nI (bI ((rdO (txt S.1 S.2) S.2 30 0).1 = true)))), some (.int (nI 0))]) rfl ?_
    obtain ⟨mb9, hb9⟩ : ∃ mb9 : Nat, sbP G _ (u + 244) a mm S37.1 S37.2 mb9 := ⟨_, hc37⟩
    refine loopH (fun i => [some (.ref u), some (.int (nI (bI ((rdO (txt S.1 S.2) S.2 30 0).1 = true)))), some (.int (nI i))]) (fun i h1 => ∃ D : Ct, h1 u = some (jc u sv rs dt) ∧ ct G h1 (u + 1) D ∧ ct G h1 (u + 21) C ∧ ht G h1 (u + 81) T ∧ h1 (u + 243) = some (.inr (6, [.ref (u + 244), .int (nI (rdO (txt S.1 S.2) S.2 30 0).2.1), .int (nI (rdO (txt S.1 S.2) S.2 30 0).2.2), .int (nI r31), .ref (u + 246), .ref (u + 247)])) ∧ sbP G h1 (u + 244) a mm S37.1 S37.2 mb9 ∧ h1 (u + 246) = some (.inl (gC G 1, 30, .inl (fun i => nI (L31 i)))) ∧ h1 (u + 247) = some (ar G 120 N31) ∧ frP (fun z => z < u ∨ (u + 41 ≤ z ∧ z < u + 81) ∨ (u + 248 ≤ z ∧ z ≠ a ∧ z < n0)) h h1 ∧ exA (txt S.1 S.2) C i = (none, D) ∧ Iv D ∧ bdk (b + 3000 * i) D) (N := (rdO (txt S.1 S.2) S.2 30 0).2.1) 0 (by omega) rfl ⟨C, fa39, hc40, hc45, hh38, fa41, hb9, fa42, fa43, fr44, rfl, hI, hK⟩ (fun i h1 hi hp9 ihi => ?_)
    clear hj hc hbe hh hot hb hL hN
    obtain ⟨D, hj, hc, hbe, hh, hot, hb, hL, hN, fr0, hex, hID, hKD⟩ := hp9
    refine v_iload_n dX6_run_48 rfl ?_
    refine v_aload_n dX6_run_49 rfl ?_
    refine fX6_35 (v := .ref (u + 243)) rfl dX6_run_50 hj rfl ?_
    refine fX6_239 (v := .int (nI ((rdO (txt S.1 S.2) S.2 30 0).2.1))) rfl dX6_run_53 hot rfl ?_
    refine n_icmp_ge (tgt := 92) (x := i) (y := (rdO (txt S.1 S.2) S.2 30 0).2.1) dX6_run_56 (by decide) (by omega) (by omega) (fun c47 => ?_) (fun c47 => ?_)
    · refine v_aload_n dX6_run_92 rfl ?_
      refine v_aload_n dX6_run_93 rfl ?_
      refine fX6_35 (v := .ref (u + 243)) rfl dX6_run_94 hj rfl ?_
      refine fX6_239 (v := .int (nI ((rdO (txt S.1 S.2) S.2 30 0).2.1))) rfl dX6_run_97 hot rfl ?_
      refine v_callV (st := []) dX6_run_100 (t_X6_remember (x := nI ((rdO (txt S.1 S.2) S.2 30 0).2.1)) hj hbe hh) wX6_65 hj rfl rfl ⟨Nat.le_of_ble_eq_true rfl, Nat.le_of_ble_eq_true rfl⟩ (Nat.le_of_ble_eq_true rfl) ⟨Nat.le_of_ble_eq_true rfl, Nat.le_of_ble_eq_true rfl⟩ (fun r n2 h2 hq => ?_)
      obtain ⟨rfl, rfl, hh48, sa49⟩ := hq
      refine v_st (st2 := [.int (nI ((rdO (txt S.1 S.2) S.2 30 0).2.1))]) rfl ?_
      have fa50 := (sa49 (u) (by omega)).trans hj
      have hc51 := ct_offn hc sa49 (by omega)
      have hc52 := ct_offn hbe sa49 (by omega)
      have fa53 := (sa49 (u + 243) (by omega)).trans hot
      have hb54 := sbP_fr hb (sa49 (u + 244) (by omega)) (sa49 (a) (by omega))
      have fa55 := (sa49 (u + 246) (by omega)).trans hL
      have fa56 := (sa49 (u + 247) (by omega)).trans hN
      have fr57 : frP (fun z => z < u ∨ (u + 41 ≤ z ∧ z < u + 81) ∨ (u + 248 ≤ z ∧ z ≠ a ∧ z < n0)) _ _ := fun z (hz : z < u ∨ (u + 41 ≤ z ∧ z < u + 81) ∨ (u + 248 ≤ z ∧ z ≠ a ∧ z < n0)) => (sa49 z (by omega)).trans (fr0 z hz)
      refine v_iret dX6_run_103 rfl ?_ (Nat.le_of_ble_eq_true rfl) (Nat.le_of_ble_eq_true rfl)
      subst hn0
      have eiK : i = (rdO (txt S.1 S.2) S.2 30 0).2.1 := by omega
      have eR : dRun (txt S.1 S.2) S.2 C = (nI (rdO (txt S.1 S.2) S.2 30 0).2.1, D, none) := by unfold dRun; rw [if_pos hrt, ← eiK, hex]; rfl
      rw [eR]
      have hsb := hb54
      rw [hS37] at hsb
      exact ⟨rfl, rfl, hc51, hc52, fa50, hh48, ⟨_, _, _, _, _, fa53, fa55, fa56⟩, ⟨_, hsb⟩, fr57⟩
    · have hai := hall i (by omega)
      rw [Nat.zero_add] at hai
      have hLi := hrec i (by omega)
      have hL128 : L31 i < 128 := by rw [hLi.1]; have := txt_126 hS (op (txt S.1 S.2) i); omega
      have hk9 : shI (L31 i) ≠ 9 := fun z => by have h9 := hai.1; rw [← hLi.1, z] at h9; exact absurd h9 Bool.false_ne_true
      have hN9 : ∀ q, q < oAr (shI (L31 i)) → N31 (i * 4 + q) = oV (txt S.1 S.2) (shI (L31 i)) (op (txt S.1 S.2) i) q := by rw [hLi.1]; exact hLi.2
      refine v_aload_n dX6_run_59 rfl ?_
      refine v_iload_n dX6_run_60 rfl ?_
      refine v_callV (st := []) dX6_run_61 (t_X6_carryOrderOut (T0 := (txt S.1 S.2)) (p0 := op (txt S.1 S.2) i) (j := i) (by omega) hj hc hKD (by omega) (by omega) hID.1 hot hb hcp (by omega) htsg hL hN hLi.1 hL128 hk9 hN9) wX6_240 hj rfl rfl ⟨Nat.le_of_ble_eq_true rfl, Nat.le_of_ble_eq_true rfl⟩ (Nat.le_of_ble_eq_true rfl) ⟨Nat.le_of_ble_eq_true rfl, Nat.le_of_ble_eq_true rfl⟩ (fun r n2 h2 hq => ?_)
      obtain ⟨rfl, hn9, hc58, fj58, fr58⟩ := hq; replace hn9 := hn9.symm; subst hn9
      obtain ⟨R58, hR58⟩ : ∃ R : Rz, R = dO (txt S.1 S.2) (op (txt S.1 S.2) i) D := ⟨_, rfl⟩
      rw [← hR58] at hc58 fj58
      have sa58 : offn 21 u _ _ := fun z hz => fr58 z hz
      have gs58 : gs (b + 3000 * i) R58 := by rw [hR58]; exact gs_dO hID hKD (by omega)
      refine v_st (st2 := [.int R58.1]) (by rw [hR58]; rfl) ?_
      have hc59 := ct_offn hbe sa58 (by omega)
      have hh60 := ht_offn hh sa58 (by omega)
      have fa61 := (sa58 (u + 243) (by omega)).trans hot
      have hb62 := sbP_fr hb (sa58 (u + 244) (by omega)) (sa58 (a) (by omega))
      have fa63 := (sa58 (u + 246) (by omega)).trans hL
      have fa64 := (sa58 (u + 247) (by omega)).trans hN
      have fr65 : frP (fun z => z < u ∨ (u + 41 ≤ z ∧ z < u + 81) ∨ (u + 248 ≤ z ∧ z ≠ a ∧ z < n0)) _ _ := fun z (hz : z < u ∨ (u + 41 ≤ z ∧ z < u + 81) ∨ (u + 248 ≤ z ∧ z ≠ a ∧ z < n0)) => (sa58 z (by omega)).trans (fr0 z hz)
      refine v_if_ge (tgt := 86) dX6_run_64 (by decide) (fun c66 => ?_) (fun c66 => ?_)
      · refine n_iinc (k := 1) (x := i) dX6_run_86 (by decide) rfl rfl (by decide) ?_
        refine v_ls (ls2 := [some (.ref u), some (.int (nI (bI ((rdO (txt S.1 S.2) S.2 30 0).1 = true)))), some (.int (nI (i + 1)))]) rfl ?_
        refine v_goto (tgt := 48) dX6_run_89 (by decide) ?_
        have hge : ¬ R58.1 < 0 := Int32.not_lt.mpr c66
        have h0 : R58.2.2 = none := gs58.2.2.resolve_right (fun z => hge (by rw [z]; decide))
        have hj9 := fj58
        rw [h0] at hj9
        exact ihi (by omega) _ ⟨R58.2.1, hj9, hc58, hc59, hh60, fa61, hb62, fa63, fa64, fr65, by rw [exA_s hex (by rw [← hR58]; exact hge), ← hR58], gs58.1, gs58.2.1.up (by omega)⟩
      · refine v_aload_n dX6_run_67 rfl ?_
        refine fX6_10 (v := .ref (u + 1)) rfl dX6_run_68 fj58 rfl ?_
        refine v_aload_n dX6_run_71 rfl ?_
        refine fX6_16 (v := .ref (u + 21)) rfl dX6_run_72 fj58 rfl ?_
        refine v_callV (st := []) dX6_run_75 (t_X1_take hc58 hc59 (by omega)) wX6_57 (ck0 hc58) rfl rfl ⟨Nat.le_of_ble_eq_true rfl, Nat.le_of_ble_eq_true rfl⟩ (Nat.le_of_ble_eq_true rfl) ⟨Nat.le_of_ble_eq_true rfl, Nat.le_of_ble_eq_true rfl⟩ (fun r n2 h2 hq => ?_)
        obtain ⟨rfl, rfl, hc67, sa68⟩ := hq
        refine v_st (st2 := []) rfl ?_
        have fa69 := (sa68 (u) (by omega)).trans fj58
        have hc70 := ct_offn hc59 sa68 (by omega)
        have hh71 := ht_offn hh60 sa68 (by omega)
        have fa72 := (sa68 (u + 243) (by omega)).trans fa61
        have hb73 := sbP_fr hb62 (sa68 (u + 244) (by omega)) (sa68 (a) (by omega))
        have fa74 := (sa68 (u + 246) (by omega)).trans fa63
        have fa75 := (sa68 (u + 247) (by omega)).trans fa64
        have fr76 : frP (fun z => z < u ∨ (u + 41 ≤ z ∧ z < u + 81) ∨ (u + 248 ≤ z ∧ z ≠ a ∧ z < n0)) _ _ := fun z (hz : z < u ∨ (u + 41 ≤ z ∧ z < u + 81) ∨ (u + 248 ≤ z ∧ z ≠ a ∧ z < n0)) => (sa68 z (by omega)).trans (fr65 z hz)
        refine v_aload_n dX6_run_78 rfl ?_
        refine v_bipush (v := nI 12) dX6_run_79 (by decide) ?_
        refine v_iload_n dX6_run_81 rfl ?_
        refine v_callV (st := []) dX6_run_82 (t_X6_refuse (r1 := nI 12) (d1 := nI i) fa69) wX6_243 fa69 rfl rfl ⟨Nat.le_of_ble_eq_true rfl, Nat.le_of_ble_eq_true rfl⟩ (Nat.le_of_ble_eq_true rfl) ⟨Nat.le_of_ble_eq_true rfl, Nat.le_of_ble_eq_true rfl⟩ (fun r n2 h2 hq => ?_)
        obtain ⟨rfl, rfl, fa77, sa78⟩ := hq
        refine v_st (st2 := [.int ((-1014))]) rfl ?_
        have hc79 := ct_offn hc67 sa78 (by omega)
        have hc80 := ct_offn hc70 sa78 (by omega)
        have hh81 := ht_offn hh71 sa78 (by omega)
        have fa82 := (sa78 (u + 243) (by omega)).trans fa72
        have hb83 := sbP_fr hb73 (sa78 (u + 244) (by omega)) (sa78 (a) (by omega))
        have fa84 := (sa78 (u + 246) (by omega)).trans fa74
        have fa85 := (sa78 (u + 247) (by omega)).trans fa75
        have fr86 : frP (fun z => z < u ∨ (u + 41 ≤ z ∧ z < u + 81) ∨ (u + 248 ≤ z ∧ z ≠ a ∧ z < n0)) _ _ := fun z (hz : z < u ∨ (u + 41 ≤ z ∧ z < u + 81) ∨ (u + 248 ≤ z ∧ z ≠ a ∧ z < n0)) => (sa78 z (by omega)).trans (fr76 z hz)
        refine v_iret dX6_run_85 rfl ?_ (Nat.le_of_ble_eq_true rfl) (Nat.le_of_ble_eq_true rfl)
        subst hn0
        have hlt : R58.1 < 0 := Int32.not_le.mp c66
        have eR : dRun (txt S.1 S.2) S.2 C = rfz C 12 (nI i) := by unfold dRun; rw [if_pos hrt, exA_st (exA_f hex (by rw [← hR58]; exact hlt)) (by omega)]; rfl
        rw [eR]
        have hsb := hb83
        rw [hS37] at hsb
        exact ⟨rfl, rfl, hc79, hc80, fa77, hh81, ⟨_, _, _, _, _, fa82, fa84, fa85⟩, ⟨_, hsb⟩, fr86⟩
  · refine v_sipush (v := (-2000)) dX6_run_34 (by decide) ?_
    refine v_aload_n dX6_run_37 rfl ?_
    refine fX6_35 (v := .ref (u + 243)) rfl dX6_run_38 fa39 rfl ?_
    refine fX6_236 (v := .int (nI ((rdO (txt S.1 S.2) S.2 30 0).2.2))) rfl dX6_run_41 fa41 rfl ?_
    refine v_isub dX6_run_44 ?_
    refine v_iret dX6_run_45 rfl ?_ (Nat.le_of_ble_eq_true rfl) (Nat.le_of_ble_eq_true rfl)
    subst hn0
    have eR : dRun (txt S.1 S.2) S.2 C = ncz ((-2000) - nI (rdO (txt S.1 S.2) S.2 30 0).2.2) C := if_neg c46
    have hlt : ((-2000 : Int32) - nI (rdO (txt S.1 S.2) S.2 30 0).2.2) < 0 := m2k _ (by have := hS.1; omega)
    have eH : hkp ((-2000 : Int32) - nI (rdO (txt S.1 S.2) S.2 30 0).2.2) C T = T := if_pos hlt
    rw [eR]
    have hsb := hc37
    rw [hS37] at hsb
    exact ⟨rfl, rfl, hc40, hc45, fa39, by rw [eH]; exact hh38, ⟨_, _, _, _, _, fa41, fa42, fa43⟩, ⟨_, hsb⟩, fr44⟩
set_option maxRecDepth 20000 in
set_option maxHeartbeats 4000000 in
theorem t_X6_init {l : Launch} {G : vG} {h : AH} {u : Nat} {t0 : Nat → Nat} (ha : h u = some (.inr (7, [.null, .null, .null, .null, .null, .null, .null, .int 0, .int 0, .int 0]))) : Mt l G mX6_init [.ref u] (u + 1) h 300 4000 (fun r n2 h2 => r = none ∧ n2 = u + 250 ∧ h2 u = some (jc u 0 (-1015) (-1015)) ∧ ct G h2 (u + 1) Z0 ∧ ct G h2 (u + 21) Z0 ∧ ct G h2 (u + 41) Z0 ∧ ct G h2 (u + 61) Z0 ∧ ht G h2 (u + 81) (0, 0, fun _ => Z0) ∧ h2 (u + 243) = some (.inr (6, [.ref (u + 244), .int (nI 0), .int (nI 0), .int (nI 0), .ref (u + 246), .ref (u + 247)])) ∧ sbP G h2 (u + 244) (u + 245) 16 t0 0 0 ∧ h2 (u + 246) = some (.inl (gC G 1, 30, .inl (fun i => nI ((fun _ => 0) i)))) ∧ h2 (u + 247) = some (ar G 120 (fun _ => 0)) ∧ sbP G h2 (u + 248) (u + 249) 16 t0 0 0 ∧ offn 250 u h h2) := by
  refine Mt.of (by decide) (Nat.le_of_ble_eq_true rfl) rfl ?_
  refine v_ls (ls2 := [some (.ref u)]) rfl ?_
  refine v_aload_n dX6_init_0 rfl ?_
  refine v_objinit dX6_init_1 q1_25 q1_26 q1_27 (Nat.le_of_ble_eq_true rfl) (Nat.le_of_ble_eq_true rfl) ?_
  refine v_aload_n dX6_init_4 rfl ?_
  refine nnX1 dX6_init_5 q1_28 (Nat.le_of_ble_eq_true rfl) (Nat.le_of_ble_eq_true rfl) (fun h1 f1 s1 => ?_)
  have fa21 := f1
  have sa21 := s1
  clear f1 s1
  refine v_n (n2 := u + 2) rfl ?_
  have fa22 := (sa21 (u) (by omega)).trans ha
  have fr23 := offn_in (k := 250) (q := u) offn_rf sa21 (by omega)
  refine v_dup dX6_init_8 rfl ?_
  refine v_callIN (st := [.ref (u + 1), .ref u]) dX6_init_9 (t_X1_init fa21) wX6_9 rfl rfl ⟨Nat.le_of_ble_eq_true rfl, Nat.le_of_ble_eq_true rfl⟩ (Nat.le_of_ble_eq_true rfl) ⟨Nat.le_of_ble_eq_true rfl, Nat.le_of_ble_eq_true rfl⟩ (fun r n2 h2 hq => ?_)
  obtain ⟨rfl, rfl, hc25, sa24⟩ := hq
  refine v_st (st2 := [.ref (u + 1), .ref u]) rfl ?_
  refine v_n (n2 := u + 21) rfl ?_
  have fa26 := (sa24 (u) (by omega)).trans fa22
  have fr27 := offn_in (k := 250) (q := u) fr23 sa24 (by omega)
  refine pX6_10 rfl rfl dX6_init_12 fa26 (Nat.le_of_ble_eq_true rfl) ?_
  refine nw (fun h1 f1 s1 => ?_)
  have fa28 : h1 (u) = some (.inr (7, [.ref (u + 1), .null, .null, .null, .null, .null, .null, .int 0, .int 0, .int 0])) := f1
  have sa28 := s1
  clear f1 s1
  have fr29 := offn_in (k := 250) (q := u) fr27 sa28 (by omega)
  have hc30 := ct_offn hc25 sa28 (by omega)
  refine v_aload_n dX6_init_15 rfl ?_
  refine nnX1 dX6_init_16 q1_28 (Nat.le_of_ble_eq_true rfl) (Nat.le_of_ble_eq_true rfl) (fun h1 f1 s1 => ?_)
  have fa31 := f1
  have sa31 := s1
  clear f1 s1
  refine v_n (n2 := u + 22) rfl ?_
  have fa32 := (sa31 (u) (by omega)).trans fa28
  have fr33 := offn_in (k := 250) (q := u) fr29 sa31 (by omega)
  have hc34 := ct_offn hc30 sa31 (by omega)
  refine v_dup dX6_init_19 rfl ?_
  refine v_callIN (st := [.ref (u + 21), .ref u]) dX6_init_20 (t_X1_init fa31) wX6_9 rfl rfl ⟨Nat.le_of_ble_eq_true rfl, Nat.le_of_ble_eq_true rfl⟩ (Nat.le_of_ble_eq_true rfl) ⟨Nat.le_of_ble_eq_true rfl, Nat.le_of_ble_eq_true rfl⟩ (fun r n2 h2 hq => ?_)
  obtain ⟨rfl, rfl, hc36, sa35⟩ := hq
  refine v_st (st2 := [.ref (u + 21), .ref u]) rfl ?_
  refine v_n (n2 := u + 41) rfl ?_
  have fa37 := (sa35 (u) (by omega)).trans fa32
  have fr38 := offn_in (k := 250) (q := u) fr33 sa35 (by omega)
  have hc39 := ct_offn hc34 sa35 (by omega)
  refine pX6_16 rfl rfl dX6_init_23 fa37 (Nat.le_of_ble_eq_true rfl) ?_
  refine nw (fun h1 f1 s1 => ?_)
  have fa40 : h1 (u) = some (.inr (7, [.ref (u + 1), .ref (u + 21), .null, .null, .null, .null, .null, .int 0, .int 0, .int 0])) := f1
  have sa40 := s1
  clear f1 s1
  have fr41 := offn_in (k := 250) (q := u) fr38 sa40 (by omega)
  have hc42 := ct_offn hc39 sa40 (by omega)
  have hc43 := ct_offn hc36 sa40 (by omega)
  refine v_aload_n dX6_init_26 rfl ?_
  refine nnX1 dX6_init_27 q1_28 (Nat.le_of_ble_eq_true rfl) (Nat.le_of_ble_eq_true rfl) (fun h1 f1 s1 => ?_)
  have fa44 := f1
  have sa44 := s1
  clear f1 s1
  refine v_n (n2 := u + 42) rfl ?_
  have fa45 := (sa44 (u) (by omega)).trans fa40
  have fr46 := offn_in (k := 250) (q := u) fr41 sa44 (by omega)
  have hc47 := ct_offn hc42 sa44 (by omega)
  have hc48 := ct_offn hc43 sa44 (by omega)
  refine v_dup dX6_init_30 rfl ?_
  refine v_callIN (st := [.ref (u + 41), .ref u]) dX6_init_31 (t_X1_init fa44) wX6_9 rfl rfl ⟨Nat.le_of_ble_eq_true rfl, Nat.le_of_ble_eq_true rfl⟩ (Nat.le_of_ble_eq_true rfl) ⟨Nat.le_of_ble_eq_true rfl, Nat.le_of_ble_eq_true rfl⟩ (fun r n2 h2 hq => ?_)
  obtain ⟨rfl, rfl, hc50, sa49⟩ := hq
  refine v_st (st2 := [.ref (u + 41), .ref u]) rfl ?_
  refine v_n (n2 := u + 61) rfl ?_
  have fa51 := (sa49 (u) (by omega)).trans fa45
  have fr52 := offn_in (k := 250) (q := u) fr46 sa49 (by omega)
  have hc53 := ct_offn hc47 sa49 (by omega)
  have hc54 := ct_offn hc48 sa49 (by omega)
  refine pX6_19 rfl rfl dX6_init_34 fa51 (Nat.le_of_ble_eq_true rfl) ?_
  refine nw (fun h1 f1 s1 => ?_)
  have fa55 : h1 (u) = some (.inr (7, [.ref (u + 1), .ref (u + 21), .ref (u + 41), .null, .null, .null, .null, .int 0, .int 0, .int 0])) := f1
  have sa55 := s1
  clear f1 s1
  have fr56 := offn_in (k := 250) (q := u) fr52 sa55 (by omega)
  have hc57 := ct_offn hc53 sa55 (by omega)
  have hc58 := ct_offn hc54 sa55 (by omega)
  have hc59 := ct_offn hc50 sa55 (by omega)
  refine v_aload_n dX6_init_37 rfl ?_
  refine nnX1 dX6_init_38 q1_28 (Nat.le_of_ble_eq_true rfl) (Nat.le_of_ble_eq_true rfl) (fun h1 f1 s1 => ?_)
  have fa60 := f1
  have sa60 := s1
  clear f1 s1
  refine v_n (n2 := u + 62) rfl ?_
  have fa61 := (sa60 (u) (by omega)).trans fa55
  have fr62 := offn_in (k := 250) (q := u) fr56 sa60 (by omega)
  have hc63 := ct_offn hc57 sa60 (by omega)
  have hc64 := ct_offn hc58 sa60 (by omega)
  have hc65 := ct_offn hc59 sa60 (by omega)
  refine v_dup dX6_init_41 rfl ?_
  refine v_callIN (st := [.ref (u + 61), .ref u]) dX6_init_42 (t_X1_init fa60) wX6_9 rfl rfl ⟨Nat.le_of_ble_eq_true rfl, Nat.le_of_ble_eq_true rfl⟩ (Nat.le_of_ble_eq_true rfl) ⟨Nat.le_of_ble_eq_true rfl, Nat.le_of_ble_eq_true rfl⟩ (fun r n2 h2 hq => ?_)
  obtain ⟨rfl, rfl, hc67, sa66⟩ := hq
  refine v_st (st2 := [.ref (u + 61), .ref u]) rfl ?_
  refine v_n (n2 := u + 81) rfl ?_
  have fa68 := (sa66 (u) (by omega)).trans fa61
  have fr69 := offn_in (k := 250) (q := u) fr62 sa66 (by omega)
  have hc70 := ct_offn hc63 sa66 (by omega)
  have hc71 := ct_offn hc64 sa66 (by omega)
  have hc72 := ct_offn hc65 sa66 (by omega)
  refine pX6_22 rfl rfl dX6_init_45 fa68 (Nat.le_of_ble_eq_true rfl) ?_
  refine nw (fun h1 f1 s1 => ?_)
  have fa73 : h1 (u) = some (.inr (7, [.ref (u + 1), .ref (u + 21), .ref (u + 41), .ref (u + 61), .null, .null, .null, .int 0, .int 0, .int 0])) := f1
  have sa73 := s1
  clear f1 s1
  have fr74 := offn_in (k := 250) (q := u) fr69 sa73 (by omega)
  have hc75 := ct_offn hc70 sa73 (by omega)
  have hc76 := ct_offn hc71 sa73 (by omega)
  have hc77 := ct_offn hc72 sa73 (by omega)
  have hc78 := ct_offn hc67 sa73 (by omega)
  refine v_aload_n dX6_init_48 rfl ?_
  refine nnX3 dX6_init_49 q1_179 (Nat.le_of_ble_eq_true rfl) (Nat.le_of_ble_eq_true rfl) (fun h1 f1 s1 => ?_)
  have fa79 := f1
  have sa79 := s1
  clear f1 s1
  refine v_n (n2 := u + 82) rfl ?_
  have fa80 := (sa79 (u) (by omega)).trans fa73
  have fr81 := offn_in (k := 250) (q := u) fr74 sa79 (by omega)
  have hc82 := ct_offn hc75 sa79 (by omega)
  have hc83 := ct_offn hc76 sa79 (by omega)
  have hc84 := ct_offn hc77 sa79 (by omega)
  have hc85 := ct_offn hc78 sa79 (by omega)
  refine v_dup dX6_init_52 rfl ?_
  refine v_callI (st := [.ref (u + 81), .ref u]) dX6_init_53 (t_X3_init fa79) wX6_27 rfl rfl ⟨Nat.le_of_ble_eq_true rfl, Nat.le_of_ble_eq_true rfl⟩ (Nat.le_of_ble_eq_true rfl) ⟨Nat.le_of_ble_eq_true rfl, Nat.le_of_ble_eq_true rfl⟩ (fun r n2 h2 hq => ?_)
  obtain ⟨rfl, rfl, hh87, sa86⟩ := hq
  refine v_st (st2 := [.ref (u + 81), .ref u]) rfl ?_
  refine v_n (n2 := u + 243) rfl ?_
  have fa88 := (sa86 (u) (by omega)).trans fa80
  have fr89 := offn_in (k := 250) (q := u) fr81 sa86 (by omega)
  have hc90 := ct_offn hc82 sa86 (by omega)
  have hc91 := ct_offn hc83 sa86 (by omega)
  have hc92 := ct_offn hc84 sa86 (by omega)
  have hc93 := ct_offn hc85 sa86 (by omega)
  have hh87x : ht G _ (u + 81) (0, 0, fun _ => Z0) := ⟨hh87, Nat.zero_le _, by decide⟩
  refine pX6_28 rfl rfl dX6_init_56 fa88 (Nat.le_of_ble_eq_true rfl) ?_
  refine nw (fun h1 f1 s1 => ?_)
  have fa94 : h1 (u) = some (.inr (7, [.ref (u + 1), .ref (u + 21), .ref (u + 41), .ref (u + 61), .ref (u + 81), .null, .null, .int 0, .int 0, .int 0])) := f1
  have sa94 := s1
  clear f1 s1
  have fr95 := offn_in (k := 250) (q := u) fr89 sa94 (by omega)
  have hc96 := ct_offn hc90 sa94 (by omega)
  have hc97 := ct_offn hc91 sa94 (by omega)
  have hc98 := ct_offn hc92 sa94 (by omega)
  have hc99 := ct_offn hc93 sa94 (by omega)
  have hh100 := ht_offn hh87x sa94 (by omega)
  refine v_aload_n dX6_init_59 rfl ?_
  refine nnX5 dX6_init_60 q1_199 (Nat.le_of_ble_eq_true rfl) (Nat.le_of_ble_eq_true rfl) (fun h1 f1 s1 => ?_)
  have fa101 := f1
  have sa101 := s1
  clear f1 s1
  refine v_n (n2 := u + 244) rfl ?_
  have fa102 := (sa101 (u) (by omega)).trans fa94
  have fr103 := offn_in (k := 250) (q := u) fr95 sa101 (by omega)
  have hc104 := ct_offn hc96 sa101 (by omega)
  have hc105 := ct_offn hc97 sa101 (by omega)
  have hc106 := ct_offn hc98 sa101 (by omega)
  have hc107 := ct_offn hc99 sa101 (by omega)
  have hh108 := ht_offn hh100 sa101 (by omega)
  refine v_dup dX6_init_63 rfl ?_
  refine v_callIN (st := [.ref (u + 243), .ref u]) dX6_init_64 (t_X5_init fa101) wX6_34 rfl rfl ⟨Nat.le_of_ble_eq_true rfl, Nat.le_of_ble_eq_true rfl⟩ (Nat.le_of_ble_eq_true rfl) ⟨Nat.le_of_ble_eq_true rfl, Nat.le_of_ble_eq_true rfl⟩ (fun r n2 h2 hq => ?_)
  obtain ⟨rfl, rfl, f110, f111, f112, f113, f114, sa109⟩ := hq
  refine v_st (st2 := [.ref (u + 243), .ref u]) rfl ?_
  refine v_n (n2 := u + 248) rfl ?_
  have fa115 := (sa109 (u) (by omega)).trans fa102
  have fr116 := offn_in (k := 250) (q := u) fr103 sa109 (by omega)
  have hc117 := ct_offn hc104 sa109 (by omega)
  have hc118 := ct_offn hc105 sa109 (by omega)
  have hc119 := ct_offn hc106 sa109 (by omega)
  have hc120 := ct_offn hc107 sa109 (by omega)
  have hh121 := ht_offn hh108 sa109 (by omega)
  refine pX6_35 rfl rfl dX6_init_67 fa115 (Nat.le_of_ble_eq_true rfl) ?_
  refine nw (fun h1 f1 s1 => ?_)
  have fa122 : h1 (u) = some (.inr (7, [.ref (u + 1), .ref (u + 21), .ref (u + 41), .ref (u + 61), .ref (u + 81), .ref (u + 243), .null, .int 0, .int 0, .int 0])) := f1
  have sa122 := s1
  clear f1 s1
  have fr123 := offn_in (k := 250) (q := u) fr116 sa122 (by omega)
  have hc124 := ct_offn hc117 sa122 (by omega)
  have hc125 := ct_offn hc118 sa122 (by omega)
  have hc126 := ct_offn hc119 sa122 (by omega)
  have hc127 := ct_offn hc120 sa122 (by omega)
  have hh128 := ht_offn hh121 sa122 (by omega)
  have fa129 := (sa122 (u + 243) (by omega)).trans f110
  have fa130 := (sa122 (u + 244) (by omega)).trans f111
  have fa131 := (sa122 (u + 245) (by omega)).trans f112
  have fa132 := (sa122 (u + 246) (by omega)).trans f113
  have fa133 := (sa122 (u + 247) (by omega)).trans f114
  refine v_aload_n dX6_init_70 rfl ?_
  refine nnJ4 dX6_init_71 q2_20 (Nat.le_of_ble_eq_true rfl) (Nat.le_of_ble_eq_true rfl) (fun h1 f1 s1 => ?_)
  have fa134 := f1
  have sa134 := s1
  clear f1 s1
  refine v_n (n2 := u + 249) rfl ?_
  have fa135 := (sa134 (u) (by omega)).trans fa122
  have fr136 := offn_in (k := 250) (q := u) fr123 sa134 (by omega)
  have hc137 := ct_offn hc124 sa134 (by omega)
  have hc138 := ct_offn hc125 sa134 (by omega)
  have hc139 := ct_offn hc126 sa134 (by omega)
  have hc140 := ct_offn hc127 sa134 (by omega)
  have hh141 := ht_offn hh128 sa134 (by omega)
  have fa142 := (sa134 (u + 243) (by omega)).trans fa129
  have fa143 := (sa134 (u + 244) (by omega)).trans fa130
  have fa144 := (sa134 (u + 245) (by omega)).trans fa131
  have fa145 := (sa134 (u + 246) (by omega)).trans fa132
  have fa146 := (sa134 (u + 247) (by omega)).trans fa133
  refine v_dup dX6_init_74 rfl ?_
  refine v_callI (st := [.ref (u + 248), .ref u]) dX6_init_75 (t_J4_init_da8c8 fa134) wX6_41 rfl rfl ⟨Nat.le_of_ble_eq_true rfl, Nat.le_of_ble_eq_true rfl⟩ (Nat.le_of_ble_eq_true rfl) ⟨Nat.le_of_ble_eq_true rfl, Nat.le_of_ble_eq_true rfl⟩ (fun r n2 h2 hq => ?_)
  obtain ⟨rfl, rfl, fa148, fa149, sa147⟩ := hq
  refine v_st (st2 := [.ref (u + 248), .ref u]) rfl ?_
  refine v_n (n2 := u + 250) rfl ?_
  have fa150 := (sa147 (u) (by omega)).trans fa135
  have fr151 := offn_in (k := 250) (q := u) fr136 sa147 (by omega)
  have hc152 := ct_offn hc137 sa147 (by omega)
  have hc153 := ct_offn hc138 sa147 (by omega)
  have hc154 := ct_offn hc139 sa147 (by omega)
  have hc155 := ct_offn hc140 sa147 (by omega)
  have hh156 := ht_offn hh141 sa147 (by omega)
  have fa157 := (sa147 (u + 243) (by omega)).trans fa142
  have fa158 := (sa147 (u + 244) (by omega)).trans fa143
  have fa159 := (sa147 (u + 245) (by omega)).trans fa144
  have fa160 := (sa147 (u + 246) (by omega)).trans fa145
  have fa161 := (sa147 (u + 247) (by omega)).trans fa146
  refine pX6_42 rfl rfl dX6_init_78 fa150 (Nat.le_of_ble_eq_true rfl) ?_
  refine nw (fun h1 f1 s1 => ?_)
  have fa162 : h1 (u) = some (.inr (7, [.ref (u + 1), .ref (u + 21), .ref (u + 41), .ref (u + 61), .ref (u + 81), .ref (u + 243), .ref (u + 248), .int 0, .int 0, .int 0])) := f1
  have sa162 := s1
  clear f1 s1
  have fr163 := offn_in (k := 250) (q := u) fr151 sa162 (by omega)
  have hc164 := ct_offn hc152 sa162 (by omega)
  have hc165 := ct_offn hc153 sa162 (by omega)
  have hc166 := ct_offn hc154 sa162 (by omega)
  have hc167 := ct_offn hc155 sa162 (by omega)
  have hh168 := ht_offn hh156 sa162 (by omega)
  have fa169 := (sa162 (u + 243) (by omega)).trans fa157
  have fa170 := (sa162 (u + 244) (by omega)).trans fa158
  have fa171 := (sa162 (u + 245) (by omega)).trans fa159
  have fa172 := (sa162 (u + 246) (by omega)).trans fa160
  have fa173 := (sa162 (u + 247) (by omega)).trans fa161
  have fa174 := (sa162 (u + 248) (by omega)).trans fa148
  have fa175 := (sa162 (u + 249) (by omega)).trans fa149
  refine v_aload_n dX6_init_81 rfl ?_
  refine v_iconst (v := nI 0) dX6_init_82 (by decide) ?_
  refine pX6_46 rfl dX6_init_83 fa162 (Nat.le_of_ble_eq_true rfl) (by decide) (by decide) ?_
  refine nw (fun h1 f1 s1 => ?_)
  have fa176 : h1 (u) = some (.inr (7, [.ref (u + 1), .ref (u + 21), .ref (u + 41), .ref (u + 61), .ref (u + 81), .ref (u + 243), .ref (u + 248), .int (nI 0), .int 0, .int 0])) := f1
  have sa176 := s1
  clear f1 s1
  have fr177 := offn_in (k := 250) (q := u) fr163 sa176 (by omega)
  have hc178 := ct_offn hc164 sa176 (by omega)
  have hc179 := ct_offn hc165 sa176 (by omega)
  have hc180 := ct_offn hc166 sa176 (by omega)
  have hc181 := ct_offn hc167 sa176 (by omega)
  have hh182 := ht_offn hh168 sa176 (by omega)
  have fa183 := (sa176 (u + 243) (by omega)).trans fa169
  have fa184 := (sa176 (u + 244) (by omega)).trans fa170
  have fa185 := (sa176 (u + 245) (by omega)).trans fa171
  have fa186 := (sa176 (u + 246) (by omega)).trans fa172
  have fa187 := (sa176 (u + 247) (by omega)).trans fa173
  have fa188 := (sa176 (u + 248) (by omega)).trans fa174
  have fa189 := (sa176 (u + 249) (by omega)).trans fa175
  refine v_aload_n dX6_init_86 rfl ?_
  refine v_sipush (v := (-1015)) dX6_init_87 (by decide) ?_
  refine pX6_50 rfl dX6_init_90 fa176 (Nat.le_of_ble_eq_true rfl) ?_
  refine nw (fun h1 f1 s1 => ?_)
  have fa190 : h1 (u) = some (.inr (7, [.ref (u + 1), .ref (u + 21), .ref (u + 41), .ref (u + 61), .ref (u + 81), .ref (u + 243), .ref (u + 248), .int (nI 0), .int ((-1015)), .int 0])) := f1
  have sa190 := s1
  clear f1 s1
  have fr191 := offn_in (k := 250) (q := u) fr177 sa190 (by omega)
  have hc192 := ct_offn hc178 sa190 (by omega)
  have hc193 := ct_offn hc179 sa190 (by omega)
  have hc194 := ct_offn hc180 sa190 (by omega)
  have hc195 := ct_offn hc181 sa190 (by omega)
  have hh196 := ht_offn hh182 sa190 (by omega)
  have fa197 := (sa190 (u + 243) (by omega)).trans fa183
  have fa198 := (sa190 (u + 244) (by omega)).trans fa184
  have fa199 := (sa190 (u + 245) (by omega)).trans fa185
  have fa200 := (sa190 (u + 246) (by omega)).trans fa186
  have fa201 := (sa190 (u + 247) (by omega)).trans fa187
  have fa202 := (sa190 (u + 248) (by omega)).trans fa188
  have fa203 := (sa190 (u + 249) (by omega)).trans fa189
  refine v_aload_n dX6_init_93 rfl ?_
  refine v_sipush (v := (-1015)) dX6_init_94 (by decide) ?_
  refine pX6_54 rfl dX6_init_97 fa190 (Nat.le_of_ble_eq_true rfl) ?_
  refine nw (fun h1 f1 s1 => ?_)
  have fa204 : h1 (u) = some (.inr (7, [.ref (u + 1), .ref (u + 21), .ref (u + 41), .ref (u + 61), .ref (u + 81), .ref (u + 243), .ref (u + 248), .int (nI 0), .int ((-1015)), .int ((-1015))])) := f1
  have sa204 := s1
  clear f1 s1
  have fr205 := offn_in (k := 250) (q := u) fr191 sa204 (by omega)
  have hc206 := ct_offn hc192 sa204 (by omega)
  have hc207 := ct_offn hc193 sa204 (by omega)
  have hc208 := ct_offn hc194 sa204 (by omega)
  have hc209 := ct_offn hc195 sa204 (by omega)
  have hh210 := ht_offn hh196 sa204 (by omega)
  have fa211 := (sa204 (u + 243) (by omega)).trans fa197
  have fa212 := (sa204 (u + 244) (by omega)).trans fa198
  have fa213 := (sa204 (u + 245) (by omega)).trans fa199
  have fa214 := (sa204 (u + 246) (by omega)).trans fa200
  have fa215 := (sa204 (u + 247) (by omega)).trans fa201
  have fa216 := (sa204 (u + 248) (by omega)).trans fa202
  have fa217 := (sa204 (u + 249) (by omega)).trans fa203
  refine v_vret dX6_init_100 rfl ?_ (Nat.le_of_ble_eq_true rfl) (Nat.le_of_ble_eq_true rfl)
  exact ⟨rfl, rfl, fa204, hc206, hc207, hc208, hc209, hh210, fa211, ⟨fa212, _, fa213, fun j hj => absurd hj (Nat.not_lt_zero j), fun _ => rfl, Nat.zero_le _⟩, fa214, fa215, ⟨fa216, _, fa217, fun j hj => absurd hj (Nat.not_lt_zero j), fun _ => rfl, Nat.zero_le _⟩, fr205⟩
set_option maxRecDepth 20000 in
set_option maxHeartbeats 4000000 in
theorem t_X7_init {l : Launch} {G : vG} {h : AH} {m : Nat} (ha : h m = some (.inr (8, [.int 0, .int 0, .int 0, .int 0, .int 0, .null, .null, .null, .null, .null, .null, .null, .int 0, .int 0, .int 0, .int 0, .int 0, .int 0]))) : Mt l G mX7_init [.ref m] (m + 1) h 7 2364 (fun r n2 h2 => r = none ∧ n2 = m + 8 ∧ h2 m = some (mo m 0 0 0 0 0 0 0 0 (nI 0) (nI 0) (nI 0)) ∧ h2 (m + 1) = some (ar G 182 (fun _ => 0)) ∧ h2 (m + 2) = some (ar G 182 (fun _ => 0)) ∧ h2 (m + 3) = some (ar G 182 (fun _ => 0)) ∧ h2 (m + 4) = some (ar G 182 (fun _ => 0)) ∧ h2 (m + 5) = some (ar G 1456 (fun _ => 0)) ∧ h2 (m + 6) = some (ar G 60 (fun _ => 0)) ∧ h2 (m + 7) = some (ar G 120 (fun _ => 0)) ∧ offn 8 m h h2) := by
  refine Mt.of (by decide) (Nat.le_of_ble_eq_true rfl) rfl ?_
  refine v_ls (ls2 := [some (.ref m)]) rfl ?_
  refine v_aload_n dX7_init_0 rfl ?_
  refine v_objinit dX7_init_1 q4_235 q1_26 q1_27 (Nat.le_of_ble_eq_true rfl) (Nat.le_of_ble_eq_true rfl) ?_
  refine v_aload_n dX7_init_4 rfl ?_
  refine v_sipush (v := nI 182) dX7_init_5 (by decide) ?_
  refine nni (k := 182) dX7_init_8 (by decide) (Nat.le_of_ble_eq_true rfl) (Nat.le_of_ble_eq_true rfl) (fun h1 f1 s1 => ?_)
  have fa21 := f1
  have sa21 := s1
  clear f1 s1
  refine v_n (n2 := m + 2) rfl ?_
  have fa22 := (sa21 (m) (by omega)).trans ha
  have fr23 := offn_in (k := 8) (q := m) offn_rf sa21 (by omega)
  refine pX7_7 rfl rfl dX7_init_10 fa22 (Nat.le_of_ble_eq_true rfl) ?_
  refine nw (fun h1 f1 s1 => ?_)
  have fa24 : h1 (m) = some (.inr (8, [.int 0, .int 0, .int 0, .int 0, .int 0, .ref (m + 1), .null, .null, .null, .null, .null, .null, .int 0, .int 0, .int 0, .int 0, .int 0, .int 0])) := f1
  have sa24 := s1
  clear f1 s1
  have fr25 := offn_in (k := 8) (q := m) fr23 sa24 (by omega)
  have fa26 := (sa24 (m + 1) (by omega)).trans fa21
  refine v_aload_n dX7_init_13 rfl ?_
  refine v_sipush (v := nI 182) dX7_init_14 (by decide) ?_
  refine nni (k := 182) dX7_init_17 (by decide) (Nat.le_of_ble_eq_true rfl) (Nat.le_of_ble_eq_true rfl) (fun h1 f1 s1 => ?_)
  have fa27 := f1
  have sa27 := s1
  clear f1 s1
  refine v_n (n2 := m + 3) rfl ?_
  have fa28 := (sa27 (m) (by omega)).trans fa24
  have fr29 := offn_in (k := 8) (q := m) fr25 sa27 (by omega)
  have fa30 := (sa27 (m + 1) (by omega)).trans fa26
  refine pX7_13 rfl rfl dX7_init_19 fa28 (Nat.le_of_ble_eq_true rfl) ?_
  refine nw (fun h1 f1 s1 => ?_)
  have fa31 : h1 (m) = some (.inr (8, [.int 0, .int 0, .int 0, .int 0, .int 0, .ref (m + 1), .ref (m + 2), .null, .null, .null, .null, .null, .int 0, .int 0, .int 0, .int 0, .int 0, .int 0])) := f1
  have sa31 := s1
  clear f1 s1
  have fr32 := offn_in (k := 8) (q := m) fr29 sa31 (by omega)
  have fa33 := (sa31 (m + 1) (by omega)).trans fa30
  have fa34 := (sa31 (m + 2) (by omega)).trans fa27
  refine v_aload_n dX7_init_22 rfl ?_
  refine v_sipush (v := nI 182) dX7_init_23 (by decide) ?_
  refine nni (k := 182) dX7_init_26 (by decide) (Nat.le_of_ble_eq_true rfl) (Nat.le_of_ble_eq_true rfl) (fun h1 f1 s1 => ?_)
  have fa35 := f1
  have sa35 := s1
  clear f1 s1
  refine v_n (n2 := m + 4) rfl ?_
  have fa36 := (sa35 (m) (by omega)).trans fa31
  have fr37 := offn_in (k := 8) (q := m) fr32 sa35 (by omega)
  have fa38 := (sa35 (m + 1) (by omega)).trans fa33
  have fa39 := (sa35 (m + 2) (by omega)).trans fa34
  refine pX7_16 rfl rfl dX7_init_28 fa36 (Nat.le_of_ble_eq_true rfl) ?_
  refine nw (fun h1 f1 s1 => ?_)
  have fa40 : h1 (m) = some (.inr (8, [.int 0, .int 0, .int 0, .int 0, .int 0, .ref (m + 1), .ref (m + 2), .ref (m + 3), .null, .null, .null, .null, .int 0, .int 0, .int 0, .int 0, .int 0, .int 0])) := f1
  have sa40 := s1
  clear f1 s1
  have fr41 := offn_in (k := 8) (q := m) fr37 sa40 (by omega)
  have fa42 := (sa40 (m + 1) (by omega)).trans fa38
  have fa43 := (sa40 (m + 2) (by omega)).trans fa39
  have fa44 := (sa40 (m + 3) (by omega)).trans fa35
  refine v_aload_n dX7_init_31 rfl ?_
  refine v_sipush (v := nI 182) dX7_init_32 (by decide) ?_
  refine nni (k := 182) dX7_init_35 (by decide) (Nat.le_of_ble_eq_true rfl) (Nat.le_of_ble_eq_true rfl) (fun h1 f1 s1 => ?_)
  have fa45 := f1
  have sa45 := s1
  clear f1 s1
  refine v_n (n2 := m + 5) rfl ?_
  have fa46 := (sa45 (m) (by omega)).trans fa40
  have fr47 := offn_in (k := 8) (q := m) fr41 sa45 (by omega)
  have fa48 := (sa45 (m + 1) (by omega)).trans fa42
  have fa49 := (sa45 (m + 2) (by omega)).trans fa43
  have fa50 := (sa45 (m + 3) (by omega)).trans fa44
  refine pX7_19 rfl rfl dX7_init_37 fa46 (Nat.le_of_ble_eq_true rfl) ?_
  refine nw (fun h1 f1 s1 => ?_)
  have fa51 : h1 (m) = some (.inr (8, [.int 0, .int 0, .int 0, .int 0, .int 0, .ref (m + 1), .ref (m + 2), .ref (m + 3), .ref (m + 4), .null, .null, .null, .int 0, .int 0, .int 0, .int 0, .int 0, .int 0])) := f1
  have sa51 := s1
  clear f1 s1
  have fr52 := offn_in (k := 8) (q := m) fr47 sa51 (by omega)
  have fa53 := (sa51 (m + 1) (by omega)).trans fa48
  have fa54 := (sa51 (m + 2) (by omega)).trans fa49
  have fa55 := (sa51 (m + 3) (by omega)).trans fa50
  have fa56 := (sa51 (m + 4) (by omega)).trans fa45
  refine v_aload_n dX7_init_40 rfl ?_
  refine v_sipush (v := nI 1456) dX7_init_41 (by decide) ?_
  refine nni (k := 1456) dX7_init_44 (by decide) (Nat.le_of_ble_eq_true rfl) (Nat.le_of_ble_eq_true rfl) (fun h1 f1 s1 => ?_)
  have fa57 := f1
  have sa57 := s1
  clear f1 s1
  refine v_n (n2 := m + 6) rfl ?_
  have fa58 := (sa57 (m) (by omega)).trans fa51
  have fr59 := offn_in (k := 8) (q := m) fr52 sa57 (by omega)
  have fa60 := (sa57 (m + 1) (by omega)).trans fa53
  have fa61 := (sa57 (m + 2) (by omega)).trans fa54
  have fa62 := (sa57 (m + 3) (by omega)).trans fa55
  have fa63 := (sa57 (m + 4) (by omega)).trans fa56
  refine pX7_22 rfl rfl dX7_init_46 fa58 (Nat.le_of_ble_eq_true rfl) ?_
  refine nw (fun h1 f1 s1 => ?_)
  have fa64 : h1 (m) = some (.inr (8, [.int 0, .int 0, .int 0, .int 0, .int 0, .ref (m + 1), .ref (m + 2), .ref (m + 3), .ref (m + 4), .ref (m + 5), .null, .null, .int 0, .int 0, .int 0, .int 0, .int 0, .int 0])) := f1
  have sa64 := s1
  clear f1 s1
  have fr65 := offn_in (k := 8) (q := m) fr59 sa64 (by omega)
  have fa66 := (sa64 (m + 1) (by omega)).trans fa60
  have fa67 := (sa64 (m + 2) (by omega)).trans fa61
  have fa68 := (sa64 (m + 3) (by omega)).trans fa62
  have fa69 := (sa64 (m + 4) (by omega)).trans fa63
  have fa70 := (sa64 (m + 5) (by omega)).trans fa57
  refine v_aload_n dX7_init_49 rfl ?_
  refine v_bipush (v := nI 60) dX7_init_50 (by decide) ?_
  refine nni (k := 60) dX7_init_52 (by decide) (Nat.le_of_ble_eq_true rfl) (Nat.le_of_ble_eq_true rfl) (fun h1 f1 s1 => ?_)
  have fa71 := f1
  have sa71 := s1
  clear f1 s1
  refine v_n (n2 := m + 7) rfl ?_
  have fa72 := (sa71 (m) (by omega)).trans fa64
  have fr73 := offn_in (k := 8) (q := m) fr65 sa71 (by omega)
  have fa74 := (sa71 (m + 1) (by omega)).trans fa66
  have fa75 := (sa71 (m + 2) (by omega)).trans fa67
  have fa76 := (sa71 (m + 3) (by omega)).trans fa68
  have fa77 := (sa71 (m + 4) (by omega)).trans fa69
  have fa78 := (sa71 (m + 5) (by omega)).trans fa70
  refine pX7_25 rfl rfl dX7_init_54 fa72 (Nat.le_of_ble_eq_true rfl) ?_
  refine nw (fun h1 f1 s1 => ?_)
  have fa79 : h1 (m) = some (.inr (8, [.int 0, .int 0, .int 0, .int 0, .int 0, .ref (m + 1), .ref (m + 2), .ref (m + 3), .ref (m + 4), .ref (m + 5), .ref (m + 6), .null, .int 0, .int 0, .int 0, .int 0, .int 0, .int 0])) := f1
  have sa79 := s1
  clear f1 s1
  have fr80 := offn_in (k := 8) (q := m) fr73 sa79 (by omega)
  have fa81 := (sa79 (m + 1) (by omega)).trans fa74
  have fa82 := (sa79 (m + 2) (by omega)).trans fa75
  have fa83 := (sa79 (m + 3) (by omega)).trans fa76
  have fa84 := (sa79 (m + 4) (by omega)).trans fa77
  have fa85 := (sa79 (m + 5) (by omega)).trans fa78
  have fa86 := (sa79 (m + 6) (by omega)).trans fa71
  refine v_aload_n dX7_init_57 rfl ?_
  refine v_bipush (v := nI 120) dX7_init_58 (by decide) ?_
  refine nni (k := 120) dX7_init_60 (by decide) (Nat.le_of_ble_eq_true rfl) (Nat.le_of_ble_eq_true rfl) (fun h1 f1 s1 => ?_)
  have fa87 := f1
  have sa87 := s1
  clear f1 s1
  refine v_n (n2 := m + 8) rfl ?_
  have fa88 := (sa87 (m) (by omega)).trans fa79
  have fr89 := offn_in (k := 8) (q := m) fr80 sa87 (by omega)
  have fa90 := (sa87 (m + 1) (by omega)).trans fa81
  have fa91 := (sa87 (m + 2) (by omega)).trans fa82
  have fa92 := (sa87 (m + 3) (by omega)).trans fa83
  have fa93 := (sa87 (m + 4) (by omega)).trans fa84
  have fa94 := (sa87 (m + 5) (by omega)).trans fa85
  have fa95 := (sa87 (m + 6) (by omega)).trans fa86
  refine pX7_28 rfl rfl dX7_init_62 fa88 (Nat.le_of_ble_eq_true rfl) ?_
  refine nw (fun h1 f1 s1 => ?_)
  have fa96 : h1 (m) = some (.inr (8, [.int 0, .int 0, .int 0, .int 0, .int 0, .ref (m + 1), .ref (m + 2), .ref (m + 3), .ref (m + 4), .ref (m + 5), .ref (m + 6), .ref (m + 7), .int 0, .int 0, .int 0, .int 0, .int 0, .int 0])) := f1
  have sa96 := s1
  clear f1 s1
  have fr97 := offn_in (k := 8) (q := m) fr89 sa96 (by omega)
  have fa98 := (sa96 (m + 1) (by omega)).trans fa90
  have fa99 := (sa96 (m + 2) (by omega)).trans fa91
  have fa100 := (sa96 (m + 3) (by omega)).trans fa92
  have fa101 := (sa96 (m + 4) (by omega)).trans fa93
  have fa102 := (sa96 (m + 5) (by omega)).trans fa94
  have fa103 := (sa96 (m + 6) (by omega)).trans fa95
  have fa104 := (sa96 (m + 7) (by omega)).trans fa87
  refine v_vret dX7_init_65 rfl ?_ (Nat.le_of_ble_eq_true rfl) (Nat.le_of_ble_eq_true rfl)
  exact ⟨rfl, rfl, fa96, fa98, fa99, fa100, fa101, fa102, fa103, fa104, fr97⟩
