theorem rdO_le {t : Nat → Nat} {n : Nat} : ∀ (k p : Nat), p ≤ n → (rdO (txt t n) n k p).2.2 ≤ n ∧ (rdO (txt t n) n k p).2.1 ≤ k
  | 0, p, h => ⟨h, Nat.le_refl _⟩
  | k + 1, p, h => by
    have h1 := oS_le (t := t) (n := n) (p := p) h
    rw [rdO]
    split
    · split
      · exact ⟨Nat.le_refl _, Nat.succ_le_succ (Nat.zero_le _)⟩
      · split
        · rename_i h3
          have h2 := txt_le (t := t) (n := n) (p := (oS (txt t n) (shI (txt t n p)) p).2) (by omega)
          obtain ⟨a, b⟩ := rdO_le (t := t) (n := n) k ((oS (txt t n) (shI (txt t n p)) p).2 + 1) h2
          exact ⟨a, Nat.succ_le_succ b⟩
        · exact ⟨h1, Nat.succ_le_succ (Nat.zero_le _)⟩
    · exact ⟨h1, Nat.zero_le _⟩
set_option maxRecDepth 20000 in
set_option maxHeartbeats 4000000 in
theorem t_X7_run {l : Launch} {G : vG} {h : AH} {n : Nat} {m sw hr en ln wg dg b : Nat} {fl wy dt : Int32} {C : Ct} {B P X : Nat → Nat} {T : Hs} {S : Ln} (ho : h m = some (mo m T.1 sw S.2 hr en ln wg dg fl wy dt)) (hv : h (m + 1) = some (ar G 182 (vO C))) (hbe : h (m + 2) = some (ar G 182 B)) (hpa : h (m + 5) = some (ar G 1456 P)) (htx : h (m + 6) = some (ar G 60 X)) (hX : lrel X S) (hS : tsg S) (hK : bdk b C) (hb1 : 200 ≤ b) (hb2 : b + 100000 ≤ 2 ^ 28) (hI : Iv C) (hR9 : hR T P) (ht1 : T.1 ≤ 8) (ht2 : T.2.1 < 8) : Mt l G mX7_run [.ref m] (n) h 0 0 (fun r n2 h2 => r = some (.int (dRun (txt S.1 S.2) S.2 C).1) ∧ n2 = n ∧ (∃ (hr2 en2 wg2 dg2 : Nat) (fl2 : Int32), h2 m = some (mo m ((hkp (dRun (txt S.1 S.2) S.2 C).1 C T).1) sw 0 hr2 en2 ln wg2 dg2 fl2 (rf1 (dRun (txt S.1 S.2) S.2 C).2.2 wy) (rf2 (dRun (txt S.1 S.2) S.2 C).2.2 dt))) ∧ h2 (m + 1) = some (ar G 182 (vO (dRun (txt S.1 S.2) S.2 C).2.1)) ∧ (∃ B2 : Nat → Nat, h2 (m + 2) = some (ar G 182 B2)) ∧ (∃ P2 : Nat → Nat, h2 (m + 5) = some (ar G 1456 P2) ∧ hR (hkp (dRun (txt S.1 S.2) S.2 C).1 C T) P2) ∧ frP (fun z => z < m ∨ z = m + 3 ∨ z = m + 4 ∨ m + 6 ≤ z) h h2) := by
  refine Mt.of (by decide) (Nat.le_of_ble_eq_true rfl) rfl ?_
  refine v_ls (ls2 := [some (.ref m), none]) rfl ?_
  have hS60 := hS.1
  refine v_aload_n dX7_run_0 rfl ?_
  refine v_callV (st := []) dX7_run_1 (t_X7_begins (F := vO C) ho hv hbe) wX7_69 ho rfl rfl ⟨Nat.le_of_ble_eq_true rfl, Nat.le_of_ble_eq_true rfl⟩ (Nat.le_of_ble_eq_true rfl) ⟨Nat.le_of_ble_eq_true rfl, Nat.le_of_ble_eq_true rfl⟩ (fun r n2 h2 hq => ?_)
  obtain ⟨rfl, hn9, fo21, fb21, fr21⟩ := hq; replace hn9 := hn9.symm; subst hn9
  refine v_st (st2 := []) rfl ?_
  have hv22 := (fr21 (m + 1) (by omega)).trans hv
  have fa23 := (fr21 (m + 5) (by omega)).trans hpa
  have fa24 := (fr21 (m + 6) (by omega)).trans htx
  have fr25 : frP (fun z => z < m ∨ z = m + 3 ∨ z = m + 4 ∨ m + 6 ≤ z) _ _ := fun z (hz : z < m ∨ z = m + 3 ∨ z = m + 4 ∨ m + 6 ≤ z) => fr21 z (by omega)
  refine v_aload_n dX7_run_4 rfl ?_
  refine v_aload_n dX7_run_5 rfl ?_
  refine fX7_176 (v := .int (nI S.2)) rfl dX7_run_6 fo21 rfl ?_
  refine pX7_182 rfl dX7_run_9 fo21 (Nat.le_of_ble_eq_true rfl) ?_
  refine nw (fun h1 f1 s1 => ?_)
  have fa26 : h1 (m) = some (.inr (8, [.int (nI 0), .int (nI T.1), .int wy, .int dt, .int (nI sw), .ref (m + 1), .ref (m + 2), .ref (m + 3), .ref (m + 4), .ref (m + 5), .ref (m + 6), .ref (m + 7), .int (nI S.2), .int (nI hr), .int (nI S.2), .int (nI ln), .int (nI wg), .int (nI dg)])) := f1
  have sa26 := s1
  clear f1 s1
  have hv27 := (sa26 (m + 1) (by omega)).trans hv22
  have fa28 := (sa26 (m + 2) (by omega)).trans fb21
  have fa29 := (sa26 (m + 5) (by omega)).trans fa23
  have fa30 := (sa26 (m + 6) (by omega)).trans fa24
  have fr31 : frP (fun z => z < m ∨ z = m + 3 ∨ z = m + 4 ∨ m + 6 ≤ z) _ _ := fun z (hz : z < m ∨ z = m + 3 ∨ z = m + 4 ∨ m + 6 ≤ z) => (sa26 z (by omega)).trans (fr25 z hz)
  refine v_aload_n dX7_run_12 rfl ?_
  refine v_iconst (v := nI 0) dX7_run_13 (by decide) ?_
  refine pX7_176 rfl dX7_run_14 fa26 (Nat.le_of_ble_eq_true rfl) ?_
  refine nw (fun h1 f1 s1 => ?_)
  have fa32 : h1 (m) = some (.inr (8, [.int (nI 0), .int (nI T.1), .int wy, .int dt, .int (nI sw), .ref (m + 1), .ref (m + 2), .ref (m + 3), .ref (m + 4), .ref (m + 5), .ref (m + 6), .ref (m + 7), .int (nI 0), .int (nI hr), .int (nI S.2), .int (nI ln), .int (nI wg), .int (nI dg)])) := f1
  have sa32 := s1
  clear f1 s1
  have hv33 := (sa32 (m + 1) (by omega)).trans hv27
  have fa34 := (sa32 (m + 2) (by omega)).trans fa28
  have fa35 := (sa32 (m + 5) (by omega)).trans fa29
  have fa36 := (sa32 (m + 6) (by omega)).trans fa30
  have fr37 : frP (fun z => z < m ∨ z = m + 3 ∨ z = m + 4 ∨ m + 6 ≤ z) _ _ := fun z (hz : z < m ∨ z = m + 3 ∨ z = m + 4 ∨ m + 6 ≤ z) => (sa32 z (by omega)).trans (fr31 z hz)
  refine v_aload_n dX7_run_17 rfl ?_
  refine v_iconst (v := nI 0) dX7_run_18 (by decide) ?_
  refine pX7_207 rfl dX7_run_19 fa32 (Nat.le_of_ble_eq_true rfl) (by decide) (by decide) ?_
  refine nw (fun h1 f1 s1 => ?_)
  have fa38 : h1 (m) = some (.inr (8, [.int (nI 0), .int (nI T.1), .int wy, .int dt, .int (nI sw), .ref (m + 1), .ref (m + 2), .ref (m + 3), .ref (m + 4), .ref (m + 5), .ref (m + 6), .ref (m + 7), .int (nI 0), .int (nI hr), .int (nI S.2), .int (nI ln), .int (nI wg), .int (nI 0)])) := f1
  have sa38 := s1
  clear f1 s1
  have hv39 := (sa38 (m + 1) (by omega)).trans hv33
  have fa40 := (sa38 (m + 2) (by omega)).trans fa34
  have fa41 := (sa38 (m + 5) (by omega)).trans fa35
  have fa42 := (sa38 (m + 6) (by omega)).trans fa36
  have fr43 : frP (fun z => z < m ∨ z = m + 3 ∨ z = m + 4 ∨ m + 6 ≤ z) _ _ := fun z (hz : z < m ∨ z = m + 3 ∨ z = m + 4 ∨ m + 6 ≤ z) => (sa38 z (by omega)).trans (fr37 z hz)
  refine v_aload_n dX7_run_22 rfl ?_
  refine v_callV (st := []) dX7_run_23 (t_X7_orders1 (p := hr) (w := wg) fa38 fa42 hX hS) wX7_217 fa38 rfl rfl ⟨Nat.le_of_ble_eq_true rfl, Nat.le_of_ble_eq_true rfl⟩ (Nat.le_of_ble_eq_true rfl) ⟨Nat.le_of_ble_eq_true rfl, Nat.le_of_ble_eq_true rfl⟩ (fun r n2 h2 hq => ?_)
  obtain ⟨⟨q44, rfl⟩, hn9, fo44, sa44⟩ := hq; replace hn9 := hn9.symm; subst hn9
  refine v_st (st2 := [.int (nI q44)]) rfl ?_
  have hv45 := (sa44 (m + 1) (by omega)).trans hv39
  have fa46 := (sa44 (m + 2) (by omega)).trans fa40
  have fa47 := (sa44 (m + 5) (by omega)).trans fa41
  have fa48 := (sa44 (m + 6) (by omega)).trans fa42
  have fr49 : frP (fun z => z < m ∨ z = m + 3 ∨ z = m + 4 ∨ m + 6 ≤ z) _ _ := fun z (hz : z < m ∨ z = m + 3 ∨ z = m + 4 ∨ m + 6 ≤ z) => (sa44 z (by omega)).trans (fr43 z hz)
  refine v_istore_n dX7_run_26 rfl (by decide) ?_
  refine v_ls (ls2 := [some (.ref m), some (.int (nI q44))]) rfl ?_
  refine v_aload_n dX7_run_27 rfl ?_
  refine fX7_185 (v := .int (nI (bI ((rdO (txt S.1 S.2) S.2 30 0).1 = false)))) rfl dX7_run_28 fo44 rfl ?_
  refine n_ifb_eq (tgt := 43) (p := (rdO (txt S.1 S.2) S.2 30 0).1 = false) dX7_run_31 (by decide) (fun c50 => ?_) (fun c50 => ?_)
  · have hrt : (rdO (txt S.1 S.2) S.2 30 0).1 = true := by
      cases hz : (rdO (txt S.1 S.2) S.2 30 0).1 with
      | true => rfl
      | false => exact absurd hz c50
    refine v_aload_n dX7_run_43 rfl ?_
    refine v_iconst (v := nI 1) dX7_run_44 (by decide) ?_
    refine pX7_207 rfl dX7_run_45 fo44 (Nat.le_of_ble_eq_true rfl) (by decide) (by decide) ?_
    refine nw (fun h1 f1 s1 => ?_)
    have fa51 : h1 (m) = some (.inr (8, [.int (nI 0), .int (nI T.1), .int wy, .int dt, .int (nI sw), .ref (m + 1), .ref (m + 2), .ref (m + 3), .ref (m + 4), .ref (m + 5), .ref (m + 6), .ref (m + 7), .int (nI 0), .int (nI ((rdO (txt S.1 S.2) S.2 30 0).2.2)), .int (nI S.2), .int (nI ln), .int (nI (bI ((rdO (txt S.1 S.2) S.2 30 0).1 = false))), .int (nI 1)])) := f1
    have sa51 := s1
    clear f1 s1
    have hv52 := (sa51 (m + 1) (by omega)).trans hv45
    have fa53 := (sa51 (m + 2) (by omega)).trans fa46
    have fa54 := (sa51 (m + 5) (by omega)).trans fa47
    have fa55 := (sa51 (m + 6) (by omega)).trans fa48
    have fr56 : frP (fun z => z < m ∨ z = m + 3 ∨ z = m + 4 ∨ m + 6 ≤ z) _ _ := fun z (hz : z < m ∨ z = m + 3 ∨ z = m + 4 ∨ m + 6 ≤ z) => (sa51 z (by omega)).trans (fr49 z hz)
    refine v_aload_n dX7_run_48 rfl ?_
    refine v_callV (st := []) dX7_run_49 (t_X7_orders2 (p := (rdO (txt S.1 S.2) S.2 30 0).2.2) (w := bI ((rdO (txt S.1 S.2) S.2 30 0).1 = false)) fa51 fa55 hX hS hv52 hK hb1 hb2 hI hrt (rdO_le 30 0 (Nat.zero_le _)).2) wX7_217 fa51 rfl rfl ⟨Nat.le_of_ble_eq_true rfl, Nat.le_of_ble_eq_true rfl⟩ (Nat.le_of_ble_eq_true rfl) ⟨Nat.le_of_ble_eq_true rfl, Nat.le_of_ble_eq_true rfl⟩ (fun r n2 h2 hq => ?_)
    obtain ⟨q57, D57, fl57, wy57, dt57, hr57, rfl, hn9, fo57, fv57, sa57, hJ57⟩ := hq; replace hn9 := hn9.symm; subst hn9
    refine v_st (st2 := [.int (nI q57)]) rfl ?_
    have fa58 := (sa57 (m + 2) (by omega)).trans fa53
    have fa59 := (sa57 (m + 5) (by omega)).trans fa54
    have fa60 := (sa57 (m + 6) (by omega)).trans fa55
    have fr61 : frP (fun z => z < m ∨ z = m + 3 ∨ z = m + 4 ∨ m + 6 ≤ z) _ _ := fun z (hz : z < m ∨ z = m + 3 ∨ z = m + 4 ∨ m + 6 ≤ z) => (sa57 z (by omega)).trans (fr56 z hz)
    refine v_istore_n dX7_run_52 rfl (by decide) ?_
    refine v_ls (ls2 := [some (.ref m), some (.int (nI q57))]) rfl ?_
    refine v_aload_n dX7_run_53 rfl ?_
    refine v_aload_n dX7_run_54 rfl ?_
    refine fX7_31 (v := .int fl57) rfl dX7_run_55 fo57 rfl ?_
    rcases hJ57 with ⟨rfl, hwy, hdt, hqK, hex⟩ | ⟨hfn, j, D2, hqj, hex⟩
    · refine n_if_ne (tgt := 65) (x := 0) dX7_run_58 (by decide) (by decide) (fun c => absurd c (by decide)) (fun _ => ?_)
      refine v_iload_n dX7_run_61 rfl ?_
      refine v_goto (tgt := 74) dX7_run_62 (by decide) ?_
      have hqb : q57 ≤ 30 := by rw [hqK]; exact (rdO_le 30 0 (Nat.zero_le _)).2
      have fo9 := Eq.trans fo57 (congrArg (fun z => some (mo m T.1 sw 0 hr57 S.2 ln 0 1 z wy57 dt57)) (mf_p (y := nI q57) (fl := nI 0) (nI_pos (by omega))).symm)
      refine v_callV (st := []) dX7_run_74 (t_X7_closes (y := nI q57) (C := C) fo9 fv57 fa58 fa59 hR9 ht1 ht2) wX7_75 fo9 rfl rfl ⟨Nat.le_of_ble_eq_true rfl, Nat.le_of_ble_eq_true rfl⟩ (Nat.le_of_ble_eq_true rfl) ⟨Nat.le_of_ble_eq_true rfl, Nat.le_of_ble_eq_true rfl⟩ (fun r n2 h2 hq => ?_)
      obtain ⟨rfl, hn9, co62, cv62, cb62, cp62, cf62⟩ := hq; replace hn9 := hn9.symm; subst hn9
      refine v_st (st2 := [.int (nI q57)]) rfl ?_
      refine v_iret dX7_run_77 rfl ?_ (Nat.le_of_ble_eq_true rfl) (Nat.le_of_ble_eq_true rfl)
      have eR : dRun (txt S.1 S.2) S.2 C = (nI q57, D57, none) := by unfold dRun; rw [if_pos hrt, hex, ← hqK]; rfl
      rw [if_neg (nI_pos (by omega))] at cv62
      rw [eR]
      subst hwy; subst hdt
      exact ⟨rfl, rfl, ⟨_, _, _, _, _, co62⟩, cv62, ⟨_, cb62⟩, cp62, fun z hz => (cf62 z hz).trans (fr61 z hz)⟩
    · refine v_if_ne (tgt := 65) dX7_run_58 (by decide) (fun _ => ?_) (fun z => absurd hfn (by rw [z]; decide))
      refine v_aload_n dX7_run_65 rfl ?_
      refine v_bipush (v := nI 12) dX7_run_66 (by decide) ?_
      refine v_iload_n dX7_run_68 rfl ?_
      refine v_iconst (v := nI 1) dX7_run_69 (by decide) ?_
      refine n_isub (x := q57) (y := 1) dX7_run_70 (by omega) ?_
      refine v_callV (st := [.ref m]) dX7_run_71 (t_X7_refuses (x := nI 12) (y := nI (q57 - 1)) fo57) wX7_66 fo57 rfl rfl ⟨Nat.le_of_ble_eq_true rfl, Nat.le_of_ble_eq_true rfl⟩ (Nat.le_of_ble_eq_true rfl) ⟨Nat.le_of_ble_eq_true rfl, Nat.le_of_ble_eq_true rfl⟩ (fun r n2 h2 hq => ?_)
      obtain ⟨rfl, rfl, fa63, sa64⟩ := hq
      refine v_st (st2 := [.int ((-1014)), .ref m]) rfl ?_
      have hv65 := (sa64 (m + 1) (by omega)).trans fv57
      have fa66 := (sa64 (m + 2) (by omega)).trans fa58
      have fa67 := (sa64 (m + 5) (by omega)).trans fa59
      have fa68 := (sa64 (m + 6) (by omega)).trans fa60
      have fr69 : frP (fun z => z < m ∨ z = m + 3 ∨ z = m + 4 ∨ m + 6 ≤ z) _ _ := fun z (hz : z < m ∨ z = m + 3 ∨ z = m + 4 ∨ m + 6 ≤ z) => (sa64 z (by omega)).trans (fr61 z hz)
      have fo9 := Eq.trans fa63 (congrArg (fun z => some (mo m T.1 sw 0 hr57 S.2 ln 0 1 z ((nI 12)) ((nI (q57 - 1))))) (mf_n (y := -1014) (fl := nI 0) (by decide)).symm)
      refine v_callV (st := []) dX7_run_74 (t_X7_closes (y := (-1014)) (C := C) fo9 hv65 fa66 fa67 hR9 ht1 ht2) wX7_75 fo9 rfl rfl ⟨Nat.le_of_ble_eq_true rfl, Nat.le_of_ble_eq_true rfl⟩ (Nat.le_of_ble_eq_true rfl) ⟨Nat.le_of_ble_eq_true rfl, Nat.le_of_ble_eq_true rfl⟩ (fun r n2 h2 hq => ?_)
      obtain ⟨rfl, hn9, co70, cv70, cb70, cp70, cf70⟩ := hq; replace hn9 := hn9.symm; subst hn9
      refine v_st (st2 := [.int ((-1014))]) rfl ?_
      refine v_iret dX7_run_77 rfl ?_ (Nat.le_of_ble_eq_true rfl) (Nat.le_of_ble_eq_true rfl)
      have eR : dRun (txt S.1 S.2) S.2 C = rfz C 12 (nI j) := by unfold dRun; rw [if_pos hrt, hex]; rfl
      rw [if_pos (by decide)] at cv70
      rw [eR]
      have e1 : q57 - 1 = j := by omega
      rw [e1] at co70
      exact ⟨rfl, rfl, ⟨_, _, _, _, _, co70⟩, cv70, ⟨_, cb70⟩, cp70, fun z hz => (cf70 z hz).trans (fr69 z hz)⟩
  · refine v_sipush (v := (-2000)) dX7_run_34 (by decide) ?_
    refine v_aload_n dX7_run_37 rfl ?_
    refine fX7_179 (v := .int (nI ((rdO (txt S.1 S.2) S.2 30 0).2.2))) rfl dX7_run_38 fo44 rfl ?_
    refine v_isub dX7_run_41 ?_
    refine v_iret dX7_run_42 rfl ?_ (Nat.le_of_ble_eq_true rfl) (Nat.le_of_ble_eq_true rfl)
    have eR : dRun (txt S.1 S.2) S.2 C = ncz ((-2000) - nI (rdO (txt S.1 S.2) S.2 30 0).2.2) C := if_neg (by rw [c50]; exact Bool.false_ne_true)
    have hlt : ((-2000 : Int32) - nI (rdO (txt S.1 S.2) S.2 30 0).2.2) < 0 := m2k _ (by have := (rdO_le (t := S.1) (n := S.2) 30 0 (Nat.zero_le _)).1; omega)
    have eH : hkp ((-2000 : Int32) - nI (rdO (txt S.1 S.2) S.2 30 0).2.2) C T = T := if_pos hlt
    rw [eR]
    exact ⟨rfl, rfl, ⟨_, _, _, _, _, by rw [eH]; exact fo44⟩, hv45, ⟨_, fa46⟩, ⟨_, fa47, by rw [eH]; exact hR9⟩, fr49⟩
set_option maxRecDepth 20000 in
set_option maxHeartbeats 4000000 in
theorem t_X6_carryOrderOut {l : Launch} {G : vG} {h : AH} {n : Nat} {u sv a mm mb b c p r j p0 : Nat} {rs dt : Int32} {C : Ct} {S : Ln} {L N T0 : Nat → Nat} (hj9 : j < 30) (hj : h u = some (jc u sv rs dt)) (hc : ct G h (u + 1) C) (hK : bdk b C) (hb1 : 200 ≤ b) (hb2 : b + 5000 ≤ 2 ^ 28) (hi : iv C) (hot : h (u + 243) = some (.inr (6, [.ref (u + 244), .int (nI c), .int (nI p), .int (nI r), .ref (u + 246), .ref (u + 247)]))) (hb : sbP G h (u + 244) a mm S.1 S.2 mb) (hcp : capM mm) (ha : a = u + 245 ∨ u + 258 ≤ a) (hS : tsg S) (hL : h (u + 246) = some (.inl (gC G 1, 30, .inl (fun i => nI (L i))))) (hN : h (u + 247) = some (ar G 120 N)) (hLj : L j = T0 p0) (hL128 : L j < 128) (hk9 : shI (L j) ≠ 9) (hN9 : ∀ i, i < oAr (shI (L j)) → N (j * 4 + i) = oV T0 (shI (L j)) p0 i) : Mt l G mX6_carryOrderOut [.ref u, .int (nI j)] (n) h 0 0 (pz G u sv rs dt h n (dO T0 p0 C)) := by
  refine Mt.of (by decide) (Nat.le_of_ble_eq_true rfl) rfl ?_
  refine v_ls (ls2 := [some (.ref u), some (.int (nI j)), none, none, none, none]) rfl ?_
  have hB := hK.bd (by omega)
  refine v_aload_n dX6_carryOrderOut_0 rfl ?_
  refine fX6_35 (v := .ref (u + 243)) rfl dX6_carryOrderOut_1 hj rfl ?_
  refine v_iload_n dX6_carryOrderOut_4 rfl ?_
  refine v_iconst (v := nI 0) dX6_carryOrderOut_5 (by decide) ?_
  refine v_callV (st := []) dX6_carryOrderOut_6 (t_X5_number (i := j) (j := 0) hot hb hL hN (by omega) (capM_le hcp) hS.1 hS.2 (by omega) (by omega)) wX6_311 hot rfl rfl ⟨Nat.le_of_ble_eq_true rfl, Nat.le_of_ble_eq_true rfl⟩ (Nat.le_of_ble_eq_true rfl) ⟨Nat.le_of_ble_eq_true rfl, Nat.le_of_ble_eq_true rfl⟩ (fun r n2 h2 hq => ?_)
  obtain ⟨rfl, hn9, hh9⟩ := hq; replace hn9 := hn9.symm; subst hn9; replace hh9 := hh9.symm; subst hh9
  refine v_st (st2 := [.int (nI (N (j * 4 + 0)))]) rfl ?_
  refine v_istore_n dX6_carryOrderOut_9 rfl (by decide) ?_
  refine v_ls (ls2 := [some (.ref u), some (.int (nI j)), some (.int (nI (N (j * 4 + 0)))), none, none, none]) rfl ?_
  refine v_aload_n dX6_carryOrderOut_10 rfl ?_
  refine fX6_35 (v := .ref (u + 243)) rfl dX6_carryOrderOut_11 hj rfl ?_
  refine v_iload_n dX6_carryOrderOut_14 rfl ?_
  refine v_iconst (v := nI 1) dX6_carryOrderOut_15 (by decide) ?_
  refine v_callV (st := []) dX6_carryOrderOut_16 (t_X5_number (i := j) (j := 1) hot hb hL hN (by omega) (capM_le hcp) hS.1 hS.2 (by omega) (by omega)) wX6_311 hot rfl rfl ⟨Nat.le_of_ble_eq_true rfl, Nat.le_of_ble_eq_true rfl⟩ (Nat.le_of_ble_eq_true rfl) ⟨Nat.le_of_ble_eq_true rfl, Nat.le_of_ble_eq_true rfl⟩ (fun r n2 h2 hq => ?_)
  obtain ⟨rfl, hn9, hh9⟩ := hq; replace hn9 := hn9.symm; subst hn9; replace hh9 := hh9.symm; subst hh9
  refine v_st (st2 := [.int (nI (N (j * 4 + 1)))]) rfl ?_
  refine v_istore_n dX6_carryOrderOut_19 rfl (by decide) ?_
  refine v_ls (ls2 := [some (.ref u), some (.int (nI j)), some (.int (nI (N (j * 4 + 0)))), some (.int (nI (N (j * 4 + 1)))), none, none]) rfl ?_
  refine v_aload_n dX6_carryOrderOut_20 rfl ?_
  refine fX6_35 (v := .ref (u + 243)) rfl dX6_carryOrderOut_21 hj rfl ?_
  refine v_iload_n dX6_carryOrderOut_24 rfl ?_
  refine v_iconst (v := nI 2) dX6_carryOrderOut_25 (by decide) ?_
  refine v_callV (st := []) dX6_carryOrderOut_26 (t_X5_number (i := j) (j := 2) hot hb hL hN (by omega) (capM_le hcp) hS.1 hS.2 (by omega) (by omega)) wX6_311 hot rfl rfl ⟨Nat.le_of_ble_eq_true rfl, Nat.le_of_ble_eq_true rfl⟩ (Nat.le_of_ble_eq_true rfl) ⟨Nat.le_of_ble_eq_true rfl, Nat.le_of_ble_eq_true rfl⟩ (fun r n2 h2 hq => ?_)
  obtain ⟨rfl, hn9, hh9⟩ := hq; replace hn9 := hn9.symm; subst hn9; replace hh9 := hh9.symm; subst hh9
  refine v_st (st2 := [.int (nI (N (j * 4 + 2)))]) rfl ?_
  refine v_istore dX6_carryOrderOut_29 rfl (by decide) ?_
  refine v_ls (ls2 := [some (.ref u), some (.int (nI j)), some (.int (nI (N (j * 4 + 0)))), some (.int (nI (N (j * 4 + 1)))), some (.int (nI (N (j * 4 + 2)))), none]) rfl ?_
  refine v_aload_n dX6_carryOrderOut_31 rfl ?_
  refine fX6_35 (v := .ref (u + 243)) rfl dX6_carryOrderOut_32 hj rfl ?_
  refine v_iload_n dX6_carryOrderOut_35 rfl ?_
  refine v_iconst (v := nI 3) dX6_carryOrderOut_36 (by decide) ?_
  refine v_callV (st := []) dX6_carryOrderOut_37 (t_X5_number (i := j) (j := 3) hot hb hL hN (by omega) (capM_le hcp) hS.1 hS.2 (by omega) (by omega)) wX6_311 hot rfl rfl ⟨Nat.le_of_ble_eq_true rfl, Nat.le_of_ble_eq_true rfl⟩ (Nat.le_of_ble_eq_true rfl) ⟨Nat.le_of_ble_eq_true rfl, Nat.le_of_ble_eq_true rfl⟩ (fun r n2 h2 hq => ?_)
  obtain ⟨rfl, hn9, hh9⟩ := hq; replace hn9 := hn9.symm; subst hn9; replace hh9 := hh9.symm; subst hh9
  refine v_st (st2 := [.int (nI (N (j * 4 + 3)))]) rfl ?_
  refine v_istore dX6_carryOrderOut_40 rfl (by decide) ?_
  refine v_ls (ls2 := [some (.ref u), some (.int (nI j)), some (.int (nI (N (j * 4 + 0)))), some (.int (nI (N (j * 4 + 1)))), some (.int (nI (N (j * 4 + 2)))), some (.int (nI (N (j * 4 + 3))))]) rfl ?_
  refine v_aload_n dX6_carryOrderOut_42 rfl ?_
  refine fX6_35 (v := .ref (u + 243)) rfl dX6_carryOrderOut_43 hj rfl ?_
  refine v_iload_n dX6_carryOrderOut_46 rfl ?_
  refine v_callV (st := []) dX6_carryOrderOut_47 (t_X5_letter (i := j) hot hb hL hN (by omega) (capM_le hcp) hS.1 hS.2 (by omega) (by omega)) wX6_314 hot rfl rfl ⟨Nat.le_of_ble_eq_true rfl, Nat.le_of_ble_eq_true rfl⟩ (Nat.le_of_ble_eq_true rfl) ⟨Nat.le_of_ble_eq_true rfl, Nat.le_of_ble_eq_true rfl⟩ (fun r n2 h2 hq => ?_)
  obtain ⟨rfl, hn9, hh9⟩ := hq; replace hn9 := hn9.symm; subst hn9; replace hh9 := hh9.symm; subst hh9
  refine v_st (st2 := [.int (nI (L j))]) rfl ?_
  rcases shI_cs (L j) with ⟨hk, hsh⟩ | ⟨hk, hsh⟩ | ⟨hk, hsh⟩ | ⟨hk, hsh⟩ | ⟨hk, hsh⟩ | ⟨hk, hsh⟩ | ⟨hk, hsh⟩ | ⟨hk, hsh⟩ | ⟨hk, hsh⟩ | hsh
  · refine v_st (st2 := [.int (nI 102)]) (by rw [hk]) ?_
    refine v_tsIn (off := 110) (tgt := 160) dX6_carryOrderOut_50 (by decide) (by decide) (by decide) (by decide) ?_
    refine v_aload_n dX6_carryOrderOut_160 rfl ?_
    refine v_iload_n dX6_carryOrderOut_161 rfl ?_
    refine v_callV (st := []) dX6_carryOrderOut_162 (t_X6_admit hj hc hK (by omega) (by omega) hi) wX6_61 hj rfl rfl ⟨Nat.le_of_ble_eq_true rfl, Nat.le_of_ble_eq_true rfl⟩ (Nat.le_of_ble_eq_true rfl) ⟨Nat.le_of_ble_eq_true rfl, Nat.le_of_ble_eq_true rfl⟩ (fun r n2 h2 hq => ?_)
    obtain ⟨rfl, rfl, hc21, fj21, fr21⟩ := hq
    obtain ⟨R21, hR21⟩ : ∃ R : Rz, R = dFool C (nI (N (j * 4 + 0))) := ⟨_, rfl⟩
    rw [← hR21] at hc21 fj21
    have sa21 : offn 21 u _ _ := fun z hz => fr21 z hz
    refine v_st (st2 := [.int R21.1]) (by rw [hR21]; rfl) ?_
    have fa22 := (sa21 (u + 243) (by omega)).trans hot
    have hb23 := sbP_fr hb (sa21 (u + 244) (by omega)) (sa21 (a) (by omega))
    have fa24 := (sa21 (u + 246) (by omega)).trans hL
    have fa25 := (sa21 (u + 247) (by omega)).trans hN
    have fr26 : frP (fun z => z < u ∨ u + 21 ≤ z) _ _ := fun z (hz : z < u ∨ u + 21 ≤ z) => sa21 z (by omega)
    refine v_iret dX6_carryOrderOut_165 rfl ?_ (Nat.le_of_ble_eq_true rfl) (Nat.le_of_ble_eq_true rfl)
    rw [hsh] at hN9
    have q0 := hN9 0 (by decide)
    rw [q0] at hR21
    have eR : dO T0 p0 C = dFool C (nI (oV T0 0 p0 0)) := by unfold dO; rw [← hLj, hsh]; first | done | rfl
    rw [eR, ← hR21]
    exact ⟨rfl, rfl, hc21, fj21, fr26⟩
  · refine v_st (st2 := [.int (nI 106)]) (by rw [hk]) ?_
    refine v_tsIn (off := 116) (tgt := 166) dX6_carryOrderOut_50 (by decide) (by decide) (by decide) (by decide) ?_
    refine v_aload_n dX6_carryOrderOut_166 rfl ?_
    refine v_iload_n dX6_carryOrderOut_167 rfl ?_
    refine v_callV (st := []) dX6_carryOrderOut_168 (t_X6_invent hj hc hK (by omega) (by omega) hi) wX6_68 hj rfl rfl ⟨Nat.le_of_ble_eq_true rfl, Nat.le_of_ble_eq_true rfl⟩ (Nat.le_of_ble_eq_true rfl) ⟨Nat.le_of_ble_eq_true rfl, Nat.le_of_ble_eq_true rfl⟩ (fun r n2 h2 hq => ?_)
    obtain ⟨rfl, rfl, hc27, fj27, fr27⟩ := hq
    obtain ⟨R27, hR27⟩ : ∃ R : Rz, R = dJoke C (nI (N (j * 4 + 0))) := ⟨_, rfl⟩
    rw [← hR27] at hc27 fj27
    have sa27 : offn 21 u _ _ := fun z hz => fr27 z hz
    refine v_st (st2 := [.int R27.1]) (by rw [hR27]; rfl) ?_
    have fa28 := (sa27 (u + 243) (by omega)).trans hot
    have hb29 := sbP_fr hb (sa27 (u + 244) (by omega)) (sa27 (a) (by omega))
    have fa30 := (sa27 (u + 246) (by omega)).trans hL
    have fa31 := (sa27 (u + 247) (by omega)).trans hN
    have fr32 : frP (fun z => z < u ∨ u + 21 ≤ z) _ _ := fun z (hz : z < u ∨ u + 21 ≤ z) => sa27 z (by omega)
    refine v_iret dX6_carryOrderOut_171 rfl ?_ (Nat.le_of_ble_eq_true rfl) (Nat.le_of_ble_eq_true rfl)
    rw [hsh] at hN9
    have q0 := hN9 0 (by decide)
    rw [q0] at hR27
    have eR : dO T0 p0 C = dJoke C (nI (oV T0 1 p0 0)) := by unfold dO; rw [← hLj, hsh]; first | done | rfl
    rw [eR, ← hR27]
    exact ⟨rfl, rfl, hc27, fj27, fr32⟩
  · refine v_st (st2 := [.int (nI 112)]) (by rw [hk]) ?_
    refine v_tsIn (off := 122) (tgt := 172) dX6_carryOrderOut_50 (by decide) (by decide) (by decide) (by decide) ?_
    refine v_aload_n dX6_carryOrderOut_172 rfl ?_
    refine v_iload_n dX6_carryOrderOut_173 rfl ?_
    refine v_iload_n dX6_carryOrderOut_174 rfl ?_
    refine v_iload dX6_carryOrderOut_175 rfl ?_
    refine v_callV (st := []) dX6_carryOrderOut_177 (t_X6_grant hj hc hK (by omega) (by omega) hi) wX6_71 hj rfl rfl ⟨Nat.le_of_ble_eq_true rfl, Nat.le_of_ble_eq_true rfl⟩ (Nat.le_of_ble_eq_true rfl) ⟨Nat.le_of_ble_eq_true rfl, Nat.le_of_ble_eq_true rfl⟩ (fun r n2 h2 hq => ?_)
    obtain ⟨rfl, rfl, hc33, fj33, fr33⟩ := hq
    obtain ⟨R33, hR33⟩ : ∃ R : Rz, R = dPat C (nI (N (j * 4 + 0))) (nI (N (j * 4 + 1))) (nI (N (j * 4 + 2))) := ⟨_, rfl⟩
    rw [← hR33] at hc33 fj33
    have sa33 : offn 21 u _ _ := fun z hz => fr33 z hz
    refine v_st (st2 := [.int R33.1]) (by rw [hR33]; rfl) ?_
    have fa34 := (sa33 (u + 243) (by omega)).trans hot
    have hb35 := sbP_fr hb (sa33 (u + 244) (by omega)) (sa33 (a) (by omega))
    have fa36 := (sa33 (u + 246) (by omega)).trans hL
    have fa37 := (sa33 (u + 247) (by omega)).trans hN
    have fr38 : frP (fun z => z < u ∨ u + 21 ≤ z) _ _ := fun z (hz : z < u ∨ u + 21 ≤ z) => sa33 z (by omega)
    refine v_iret dX6_carryOrderOut_180 rfl ?_ (Nat.le_of_ble_eq_true rfl) (Nat.le_of_ble_eq_true rfl)
    rw [hsh] at hN9
    have q0 := hN9 0 (by decide)
    have q1 := hN9 1 (by decide)
    have q2 := hN9 2 (by decide)
    rw [q0, q1, q2] at hR33
    have eR : dO T0 p0 C = dPat C (nI (oV T0 2 p0 0)) (nI (oV T0 2 p0 1)) (nI (oV T0 2 p0 2)) := by unfold dO; rw [← hLj, hsh]; first | done | rfl
    rw [eR, ← hR33]
    exact ⟨rfl, rfl, hc33, fj33, fr38⟩
  · refine v_st (st2 := [.int (nI 98)]) (by rw [hk]) ?_
    refine v_tsIn (off := 131) (tgt := 181) dX6_carryOrderOut_50 (by decide) (by decide) (by decide) (by decide) ?_
    refine v_aload_n dX6_carryOrderOut_181 rfl ?_
    refine v_iload_n dX6_carryOrderOut_182 rfl ?_
    refine v_iload_n dX6_carryOrderOut_183 rfl ?_
    refine v_iload dX6_carryOrderOut_184 rfl ?_
    refine v_iload dX6_carryOrderOut_186 rfl ?_
    refine v_callV (st := []) dX6_carryOrderOut_188 (t_X6_reserve hj hc hK (by omega) (by omega) hi) wX6_176 hj rfl rfl ⟨Nat.le_of_ble_eq_true rfl, Nat.le_of_ble_eq_true rfl⟩ (Nat.le_of_ble_eq_true rfl) ⟨Nat.le_of_ble_eq_true rfl, Nat.le_of_ble_eq_true rfl⟩ (fun r n2 h2 hq => ?_)
    obtain ⟨rfl, rfl, hc39, fj39, fr39⟩ := hq
    obtain ⟨R39, hR39⟩ : ∃ R : Rz, R = dBook C (nI (N (j * 4 + 0))) (nI (N (j * 4 + 1))) (nI (N (j * 4 + 2))) (nI (N (j * 4 + 3))) := ⟨_, rfl⟩
    rw [← hR39] at hc39 fj39
    have sa39 : offn 21 u _ _ := fun z hz => fr39 z hz
    refine v_st (st2 := [.int R39.1]) (by rw [hR39]; rfl) ?_
    have fa40 := (sa39 (u + 243) (by omega)).trans hot
    have hb41 := sbP_fr hb (sa39 (u + 244) (by omega)) (sa39 (a) (by omega))
    have fa42 := (sa39 (u + 246) (by omega)).trans hL
    have fa43 := (sa39 (u + 247) (by omega)).trans hN
    have fr44 : frP (fun z => z < u ∨ u + 21 ≤ z) _ _ := fun z (hz : z < u ∨ u + 21 ≤ z) => sa39 z (by omega)
    refine v_iret dX6_carryOrderOut_191 rfl ?_ (Nat.le_of_ble_eq_true rfl) (Nat.le_of_ble_eq_true rfl)
    rw [hsh] at hN9
    have q0 := hN9 0 (by decide)
    have q1 := hN9 1 (by decide)
    have q2 := hN9 2 (by decide)
    have q3 := hN9 3 (by decide)
    rw [q0, q1, q2, q3] at hR39
    have eR : dO T0 p0 C = dBook C (nI (oV T0 3 p0 0)) (nI (oV T0 3 p0 1)) (nI (oV T0 3 p0 2)) (nI (oV T0 3 p0 3)) := by unfold dO; rw [← hLj, hsh]; first | done | rfl
    rw [eR, ← hR39]
    exact ⟨rfl, rfl, hc39, fj39, fr44⟩
  · refine v_st (st2 := [.int (nI 110)]) (by rw [hk]) ?_
    refine v_tsIn (off := 142) (tgt := 192) dX6_carryOrderOut_50 (by decide) (by decide) (by decide) (by decide) ?_
    refine v_aload_n dX6_carryOrderOut_192 rfl ?_
    refine v_callV (st := []) dX6_carryOrderOut_193 (t_X6_carryNextOut hj hc hK (by omega) (by omega) hi) wX6_180 hj rfl rfl ⟨Nat.le_of_ble_eq_true rfl, Nat.le_of_ble_eq_true rfl⟩ (Nat.le_of_ble_eq_true rfl) ⟨Nat.le_of_ble_eq_true rfl, Nat.le_of_ble_eq_true rfl⟩ (fun r n2 h2 hq => ?_)
    obtain ⟨rfl, rfl, hc45, fj45, fr45⟩ := hq
    obtain ⟨R45, hR45⟩ : ∃ R : Rz, R = dNext C := ⟨_, rfl⟩
    rw [← hR45] at hc45 fj45
    have sa45 : offn 21 u _ _ := fun z hz => fr45 z hz
    refine v_st (st2 := [.int R45.1]) (by rw [hR45]; rfl) ?_
    have fa46 := (sa45 (u + 243) (by omega)).trans hot
    have hb47 := sbP_fr hb (sa45 (u + 244) (by omega)) (sa45 (a) (by omega))
    have fa48 := (sa45 (u + 246) (by omega)).trans hL
    have fa49 := (sa45 (u + 247) (by omega)).trans hN
    have fr50 : frP (fun z => z < u ∨ u + 21 ≤ z) _ _ := fun z (hz : z < u ∨ u + 21 ≤ z) => sa45 z (by omega)
    refine v_iret dX6_carryOrderOut_196 rfl ?_ (Nat.le_of_ble_eq_true rfl) (Nat.le_of_ble_eq_true rfl)
    rw [hsh] at hN9
    have eR : dO T0 p0 C = dNext C := by unfold dO; rw [← hLj, hsh]; first | done | rfl
    rw [eR, ← hR45]
    exact ⟨rfl, rfl, hc45, fj45, fr50⟩
  · refine v_st (st2 := [.int (nI 105)]) (by rw [hk]) ?_
    refine v_tsIn (off := 147) (tgt := 197) dX6_carryOrderOut_50 (by decide) (by decide) (by decide) (by decide) ?_
    refine v_aload_n dX6_carryOrderOut_197 rfl ?_
    refine v_iload_n dX6_carryOrderOut_198 rfl ?_
    refine v_callV (st := []) dX6_carryOrderOut_199 (t_X6_cover hj hc hK (by omega) (by omega) hi) wX6_75 hj rfl rfl ⟨Nat.le_of_ble_eq_true rfl, Nat.le_of_ble_eq_true rfl⟩ (Nat.le_of_ble_eq_true rfl) ⟨Nat.le_of_ble_eq_true rfl, Nat.le_of_ble_eq_true rfl⟩ (fun r n2 h2 hq => ?_)
    obtain ⟨rfl, rfl, hc51, fj51, fr51⟩ := hq
    obtain ⟨R51, hR51⟩ : ∃ R : Rz, R = dIns C (nI (N (j * 4 + 0))) := ⟨_, rfl⟩
    rw [← hR51] at hc51 fj51
    have sa51 : offn 21 u _ _ := fun z hz => fr51 z hz
    refine v_st (st2 := [.int R51.1]) (by rw [hR51]; rfl) ?_
    have fa52 := (sa51 (u + 243) (by omega)).trans hot
    have hb53 := sbP_fr hb (sa51 (u + 244) (by omega)) (sa51 (a) (by omega))
    have fa54 := (sa51 (u + 246) (by omega)).trans hL
    have fa55 := (sa51 (u + 247) (by omega)).trans hN
    have fr56 : frP (fun z => z < u ∨ u + 21 ≤ z) _ _ := fun z (hz : z < u ∨ u + 21 ≤ z) => sa51 z (by omega)
    refine v_iret dX6_carryOrderOut_202 rfl ?_ (Nat.le_of_ble_eq_true rfl) (Nat.le_of_ble_eq_true rfl)
    rw [hsh] at hN9
    have q0 := hN9 0 (by decide)
    rw [q0] at hR51
    have eR : dO T0 p0 C = dIns C (nI (oV T0 5 p0 0)) := by unfold dO; rw [← hLj, hsh]; first | done | rfl
    rw [eR, ← hR51]
    exact ⟨rfl, rfl, hc51, fj51, fr56⟩
  · refine v_st (st2 := [.int (nI 97)]) (by rw [hk]) ?_
    refine v_tsIn (off := 153) (tgt := 203) dX6_carryOrderOut_50 (by decide) (by decide) (by decide) (by decide) ?_
    refine v_aload_n dX6_carryOrderOut_203 rfl ?_
    refine v_iload_n dX6_carryOrderOut_204 rfl ?_
    refine v_callV (st := []) dX6_carryOrderOut_205 (t_X6_collect hj hc hK (by omega) (by omega) hi) wX6_78 hj rfl rfl ⟨Nat.le_of_ble_eq_true rfl, Nat.le_of_ble_eq_true rfl⟩ (Nat.le_of_ble_eq_true rfl) ⟨Nat.le_of_ble_eq_true rfl, Nat.le_of_ble_eq_true rfl⟩ (fun r n2 h2 hq => ?_)
    obtain ⟨rfl, rfl, hc57, fj57, fr57⟩ := hq
    obtain ⟨R57, hR57⟩ : ∃ R : Rz, R = dAud C (nI (N (j * 4 + 0))) := ⟨_, rfl⟩
    rw [← hR57] at hc57 fj57
    have sa57 : offn 21 u _ _ := fun z hz => fr57 z hz
    refine v_st (st2 := [.int R57.1]) (by rw [hR57]; rfl) ?_
    have fa58 := (sa57 (u + 243) (by omega)).trans hot
    have hb59 := sbP_fr hb (sa57 (u + 244) (by omega)) (sa57 (a) (by omega))
    have fa60 := (sa57 (u + 246) (by omega)).trans hL
    have fa61 := (sa57 (u + 247) (by omega)).trans hN
    have fr62 : frP (fun z => z < u ∨ u + 21 ≤ z) _ _ := fun z (hz : z < u ∨ u + 21 ≤ z) => sa57 z (by omega)
    refine v_iret dX6_carryOrderOut_208 rfl ?_ (Nat.le_of_ble_eq_true rfl) (Nat.le_of_ble_eq_true rfl)
    rw [hsh] at hN9
    have q0 := hN9 0 (by decide)
    rw [q0] at hR57
    have eR : dO T0 p0 C = dAud C (nI (oV T0 6 p0 0)) := by unfold dO; rw [← hLj, hsh]; first | done | rfl
    rw [eR, ← hR57]
    exact ⟨rfl, rfl, hc57, fj57, fr62⟩
  · refine v_st (st2 := [.int (nI 120)]) (by rw [hk]) ?_
    refine v_tsIn (off := 159) (tgt := 209) dX6_carryOrderOut_50 (by decide) (by decide) (by decide) (by decide) ?_
    refine v_aload_n dX6_carryOrderOut_209 rfl ?_
    refine v_iload_n dX6_carryOrderOut_210 rfl ?_
    refine v_iload_n dX6_carryOrderOut_211 rfl ?_
    refine v_callV (st := []) dX6_carryOrderOut_212 (t_X6_setExempt hj hc hK (by omega) (by omega) hi) wX6_154 hj rfl rfl ⟨Nat.le_of_ble_eq_true rfl, Nat.le_of_ble_eq_true rfl⟩ (Nat.le_of_ble_eq_true rfl) ⟨Nat.le_of_ble_eq_true rfl, Nat.le_of_ble_eq_true rfl⟩ (fun r n2 h2 hq => ?_)
    obtain ⟨rfl, rfl, hc63, fj63, fr63⟩ := hq
    obtain ⟨R63, hR63⟩ : ∃ R : Rz, R = dExe C (nI (N (j * 4 + 0))) (nI (N (j * 4 + 1))) := ⟨_, rfl⟩
    rw [← hR63] at hc63 fj63
    have sa63 : offn 21 u _ _ := fun z hz => fr63 z hz
    refine v_st (st2 := [.int R63.1]) (by rw [hR63]; rfl) ?_
    have fa64 := (sa63 (u + 243) (by omega)).trans hot
    have hb65 := sbP_fr hb (sa63 (u + 244) (by omega)) (sa63 (a) (by omega))
    have fa66 := (sa63 (u + 246) (by omega)).trans hL
    have fa67 := (sa63 (u + 247) (by omega)).trans hN
    have fr68 : frP (fun z => z < u ∨ u + 21 ≤ z) _ _ := fun z (hz : z < u ∨ u + 21 ≤ z) => sa63 z (by omega)
    refine v_iret dX6_carryOrderOut_215 rfl ?_ (Nat.le_of_ble_eq_true rfl) (Nat.le_of_ble_eq_true rfl)
    rw [hsh] at hN9
    have q0 := hN9 0 (by decide)
    have q1 := hN9 1 (by decide)
    rw [q0, q1] at hR63
    have eR : dO T0 p0 C = dExe C (nI (oV T0 7 p0 0)) (nI (oV T0 7 p0 1)) := by unfold dO; rw [← hLj, hsh]; first | done | rfl
    rw [eR, ← hR63]
    exact ⟨rfl, rfl, hc63, fj63, fr68⟩
  · refine v_st (st2 := [.int (nI 119)]) (by rw [hk]) ?_
    refine v_tsIn (off := 166) (tgt := 216) dX6_carryOrderOut_50 (by decide) (by decide) (by decide) (by decide) ?_
    refine v_aload_n dX6_carryOrderOut_216 rfl ?_
    refine v_iload_n dX6_carryOrderOut_217 rfl ?_
    refine v_callV (st := []) dX6_carryOrderOut_218 (t_X6_elapse hj hc hK (by omega) (by omega) hi) wX6_184 hj rfl rfl ⟨Nat.le_of_ble_eq_true rfl, Nat.le_of_ble_eq_true rfl⟩ (Nat.le_of_ble_eq_true rfl) ⟨Nat.le_of_ble_eq_true rfl, Nat.le_of_ble_eq_true rfl⟩ (fun r n2 h2 hq => ?_)
    obtain ⟨rfl, rfl, hc69, fj69, fr69⟩ := hq
    obtain ⟨R69, hR69⟩ : ∃ R : Rz, R = dPass C (nI (N (j * 4 + 0))) := ⟨_, rfl⟩
    rw [← hR69] at hc69 fj69
    have sa69 : offn 21 u _ _ := fun z hz => fr69 z hz
    refine v_st (st2 := [.int R69.1]) (by rw [hR69]; rfl) ?_
    have fa70 := (sa69 (u + 243) (by omega)).trans hot
    have hb71 := sbP_fr hb (sa69 (u + 244) (by omega)) (sa69 (a) (by omega))
    have fa72 := (sa69 (u + 246) (by omega)).trans hL
    have fa73 := (sa69 (u + 247) (by omega)).trans hN
    have fr74 : frP (fun z => z < u ∨ u + 21 ≤ z) _ _ := fun z (hz : z < u ∨ u + 21 ≤ z) => sa69 z (by omega)
    refine v_iret dX6_carryOrderOut_221 rfl ?_ (Nat.le_of_ble_eq_true rfl) (Nat.le_of_ble_eq_true rfl)
    rw [hsh] at hN9
    have q0 := hN9 0 (by decide)
    rw [q0] at hR69
    have eR : dO T0 p0 C = dPass C (nI (oV T0 8 p0 0)) := by unfold dO; rw [← hLj, hsh]; first | done | rfl
    rw [eR, ← hR69]
    exact ⟨rfl, rfl, hc69, fj69, fr74⟩
  · exact absurd hsh hk9
