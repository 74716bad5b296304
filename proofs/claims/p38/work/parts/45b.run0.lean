set_option maxRecDepth 20000 in
set_option maxHeartbeats 4000000 in
theorem t_X5_readOrder0 {l : Launch} {G : vG} {h : AH} {n : Nat} {q a m mb c r : Nat} {t : Nat → Nat} (ho : h q = some (.inr (6, [.ref (q + 1), .int (nI c), .int (nI 0), .int (nI r), .ref (q + 3), .ref (q + 4)]))) (hb : sbP G h (q + 1) a m t 0 mb) : Mt l G mX5_readOrder [.ref q] (n) h 0 0 (fun r n2 h2 => r = some (.int (nI 0)) ∧ n2 = n ∧ h2 = h) := by
  refine Mt.of (by decide) (Nat.le_of_ble_eq_true rfl) rfl ?_
  refine v_ls (ls2 := [some (.ref q), none, none, none]) rfl ?_
  refine v_aload_n dX5_readOrder_0 rfl ?_
  refine fX5_22 (v := .int (nI 0)) rfl dX5_readOrder_1 ho rfl ?_
  refine v_aload_n dX5_readOrder_4 rfl ?_
  refine fX5_12 (v := .ref (q + 1)) rfl dX5_readOrder_5 ho rfl ?_
  refine v_callV (st := [.int (nI 0)]) dX5_readOrder_8 (t_SBlen hb) wX5_40 hb.1 rfl rfl ⟨Nat.le_of_ble_eq_true rfl, Nat.le_of_ble_eq_true rfl⟩ (Nat.le_of_ble_eq_true rfl) ⟨by omega, by omega⟩ (fun r n2 h2 hq => ?_)
  obtain ⟨rfl, hn9, rfl⟩ := hq; replace hn9 := hn9.symm; subst hn9
  refine v_st (st2 := [.int (nI 0), .int (nI 0)]) rfl ?_
  refine n_icmp_lt (tgt := 16) (x := 0) (y := 0) dX5_readOrder_11 (by decide) (by decide) (by decide) (fun c => absurd c (by decide)) (fun _ => ?_)
  refine v_iconst (v := nI 0) dX5_readOrder_14 (by decide) ?_
  refine v_zret (ty := .boolean) dX5_readOrder_15 rfl (by decide) ?_ (by omega) (by omega)
  exact ⟨rfl, rfl, rfl⟩
set_option maxRecDepth 20000 in
set_option maxHeartbeats 4000000 in
theorem t_X5_read0 {l : Launch} {G : vG} {h : AH} {n : Nat} {q a m mb c p rr : Nat} {t : Nat → Nat} (ho : h q = some (.inr (6, [.ref (q + 1), .int (nI c), .int (nI p), .int (nI rr), .ref (q + 3), .ref (q + 4)]))) (hb : sbP G h (q + 1) a m t 0 mb) (haq : a ≠ q) : Mt l G mX5_read [.ref q] (n) h 0 0 (fun r n2 h2 => r = some (.int (nI 0)) ∧ n2 = n ∧ h2 q = some (.inr (6, [.ref (q + 1), .int (nI 0), .int (nI 0), .int (nI rr), .ref (q + 3), .ref (q + 4)])) ∧ offn 1 q h h2) := by
  refine Mt.of (by decide) (Nat.le_of_ble_eq_true rfl) rfl ?_
  refine v_ls (ls2 := [some (.ref q)]) rfl ?_
  refine v_aload_n dX5_read_0 rfl ?_
  refine v_iconst (v := nI 0) dX5_read_1 (by decide) ?_
  refine pX5_18 rfl dX5_read_2 ho (Nat.le_of_ble_eq_true rfl) ?_
  refine nw (fun h1 f1 s1 => ?_)
  have fa21 : h1 (q) = some (.inr (6, [.ref (q + 1), .int (nI 0), .int (nI p), .int (nI rr), .ref (q + 3), .ref (q + 4)])) := f1
  have sa21 := s1
  clear f1 s1
  have hb22 := sbP_fr hb (sa21 (q + 1) (by omega)) (sa21 a (by omega))
  have fr23 : offn 1 q h _ := offn_in offn_rf sa21 (by omega)
  refine v_aload_n dX5_read_5 rfl ?_
  refine v_iconst (v := nI 0) dX5_read_6 (by decide) ?_
  refine pX5_22 rfl dX5_read_7 fa21 (Nat.le_of_ble_eq_true rfl) ?_
  refine nw (fun h1 f1 s1 => ?_)
  have fa24 : h1 (q) = some (.inr (6, [.ref (q + 1), .int (nI 0), .int (nI 0), .int (nI rr), .ref (q + 3), .ref (q + 4)])) := f1
  have sa24 := s1
  clear f1 s1
  have hb25 := sbP_fr hb22 (sa24 (q + 1) (by omega)) (sa24 a (by omega))
  have fr26 : offn 1 q h _ := offn_in fr23 sa24 (by omega)
  refine v_aload_n dX5_read_10 rfl ?_
  refine fX5_18 (v := .int (nI 0)) rfl dX5_read_11 fa24 rfl ?_
  refine v_bipush (v := nI 30) dX5_read_14 (by decide) ?_
  refine n_icmp_ge (tgt := 65) (x := 0) (y := 30) dX5_read_16 (by decide) (by decide) (by decide) (fun c => absurd c (by decide)) (fun _ => ?_)
  refine v_aload_n dX5_read_19 rfl ?_
  refine v_callV (st := []) dX5_read_20 (t_X5_readOrder0 fa24 hb25) wX5_36 fa24 rfl rfl ⟨Nat.le_of_ble_eq_true rfl, Nat.le_of_ble_eq_true rfl⟩ (Nat.le_of_ble_eq_true rfl) ⟨by omega, by omega⟩ (fun r n2 h2 hq => ?_)
  obtain ⟨rfl, hn9, rfl⟩ := hq; replace hn9 := hn9.symm; subst hn9
  refine v_st (st2 := [.int (nI 0)]) rfl ?_
  refine n_if_ne (tgt := 28) (x := 0) dX5_read_23 (by decide) (by decide) (fun c => absurd c (by decide)) (fun _ => ?_)
  refine v_iconst (v := nI 0) dX5_read_26 (by decide) ?_
  refine v_zret (ty := .boolean) dX5_read_27 rfl (by decide) ?_ (by omega) (by omega)
  exact ⟨rfl, rfl, fa24, fr26⟩
set_option maxRecDepth 20000 in
set_option maxHeartbeats 4000000 in
theorem t_X6_run0 {l : Launch} {G : vG} {h : AH} {n : Nat} {u a m mb sv c p rr : Nat} {t : Nat → Nat} {rs dt : Int32} {C B : Ct} (hj : h u = some (jc u sv rs dt)) (hc : ct G h (u + 1) C) (hbe : ct G h (u + 21) B) (hb : sbP G h (u + 244) a m t 0 mb) (ha : a = u + 245) (hm : m ≤ 142) (hot : h (u + 243) = some (.inr (6, [.ref (u + 244), .int (nI c), .int (nI p), .int (nI rr), .ref (u + 246), .ref (u + 247)]))) (hn : u + 250 ≤ n) : Mt l G mX6_run [.ref u] (n) h 1 142 (fun r n2 h2 => r = some (.int (-2000)) ∧ n2 = n ∧ ct G h2 (u + 21) C ∧ (∃ mb2 : Nat, sbP G h2 (u + 244) a m t 0 mb2) ∧ h2 (u + 243) = some (.inr (6, [.ref (u + 244), .int (nI 0), .int (nI 0), .int (nI rr), .ref (u + 246), .ref (u + 247)])) ∧ frP (fun z => z < n ∧ (z < u + 21 ∨ u + 41 ≤ z) ∧ ¬ (u + 243 ≤ z ∧ z ≤ u + 245)) h h2) := by
  refine Mt.of (by decide) (Nat.le_of_ble_eq_true rfl) rfl ?_
  refine v_ls (ls2 := [some (.ref u), none, none]) rfl ?_
  refine v_aload_n dX6_run_0 rfl ?_
  refine fX6_16 (v := .ref (u + 21)) rfl dX6_run_1 hj rfl ?_
  refine v_aload_n dX6_run_4 rfl ?_
  refine fX6_10 (v := .ref (u + 1)) rfl dX6_run_5 hj rfl ?_
  refine v_callV (st := []) dX6_run_8 (t_X1_take hbe hc (by omega)) wX6_57 (ck0 hbe) rfl rfl ⟨Nat.le_of_ble_eq_true rfl, Nat.le_of_ble_eq_true rfl⟩ (Nat.le_of_ble_eq_true rfl) ⟨by omega, by omega⟩ (fun r n2 h2 hq => ?_)
  obtain ⟨rfl, hn9, hc9, ho9⟩ := hq; replace hn9 := hn9.symm; subst hn9
  refine v_st (st2 := []) rfl ?_
  have fa21 := (ho9 (u) (by omega)).trans hj
  have hc22 : ct G _ (u + 1) C := fun i hi => (ho9 (u + 1 + i) (by omega)).trans (hc i hi)
  have fa23 := (ho9 (u + 243) (by omega)).trans hot
  have hb24 := sbP_fr hb (ho9 (u + 244) (by omega)) (ho9 a (by omega))
  have fr25 : frP (fun z => z < n ∧ (z < u + 21 ∨ u + 41 ≤ z) ∧ ¬ (u + 243 ≤ z ∧ z ≤ u + 245)) _ _ := fun z (hz : z < n ∧ (z < u + 21 ∨ u + 41 ≤ z) ∧ ¬ (u + 243 ≤ z ∧ z ≤ u + 245)) => ho9 z (by omega)
  refine v_aload_n dX6_run_11 rfl ?_
  refine fX6_35 (v := .ref (u + 243)) rfl dX6_run_12 fa21 rfl ?_
  have hot9 : (_ : Option va_E) = some (.inr (6, [.ref (u + 243 + 1), .int (nI c), .int (nI p), .int (nI rr), .ref (u + 243 + 3), .ref (u + 243 + 4)])) := fa23
  refine v_callV (st := []) dX6_run_15 (t_X5_read0 (q := u + 243) hot9 hb24 (by omega)) wX6_228 hot9 rfl rfl ⟨Nat.le_of_ble_eq_true rfl, Nat.le_of_ble_eq_true rfl⟩ (Nat.le_of_ble_eq_true rfl) ⟨by omega, by omega⟩ (fun r n2 h2 hq => ?_)
  obtain ⟨rfl, hn9, hot8, so9⟩ := hq; replace hn9 := hn9.symm; subst hn9
  refine v_st (st2 := [.int (nI 0)]) rfl ?_
  have fa26 := (so9 (u) (by omega)).trans fa21
  have hc27 : ct G _ (u + 1) C := fun i hi => (so9 (u + 1 + i) (by omega)).trans (hc22 i hi)
  have hb28 := sbP_fr hb24 (so9 (u + 244) (by omega)) (so9 a (by omega))
  have fr29 : frP (fun z => z < n ∧ (z < u + 21 ∨ u + 41 ≤ z) ∧ ¬ (u + 243 ≤ z ∧ z ≤ u + 245)) _ _ := fun z (hz : z < n ∧ (z < u + 21 ∨ u + 41 ≤ z) ∧ ¬ (u + 243 ≤ z ∧ z ≤ u + 245)) => (so9 z (by omega)).trans (fr25 z hz)
  have hc30 : ct G _ (u + 21) C := fun i hi => (so9 (u + 21 + i) (by omega)).trans (hc9 i hi)
  refine v_istore_n dX6_run_18 rfl (by decide) ?_
  refine v_ls (ls2 := [some (.ref u), some (.int (nI 0)), none]) rfl ?_
  refine v_aload_n dX6_run_19 rfl ?_
  refine fX6_35 (v := .ref (u + 243)) rfl dX6_run_20 fa26 rfl ?_
  refine fX6_218 (v := .ref (u + 244)) rfl dX6_run_23 hot8 rfl ?_
  refine v_iconst (v := nI 0) dX6_run_26 (by decide) ?_
  refine v_callV (st := []) dX6_run_27 (t_J4_setLength_d00df hb28 hm) wX6_232 hb28.1 rfl rfl ⟨Nat.le_of_ble_eq_true rfl, Nat.le_of_ble_eq_true rfl⟩ (Nat.le_of_ble_eq_true rfl) ⟨by omega, by omega⟩ (fun r n2 h2 hq => ?_)
  obtain ⟨rfl, hn9, mb2, hb2, fr9⟩ := hq; replace hn9 := hn9.symm; subst hn9
  refine v_st (st2 := []) rfl ?_
  have fa31 := (fr9 (u) (by omega)).trans fa26
  have hc32 : ct G _ (u + 1) C := fun i hi => (fr9 (u + 1 + i) (by omega)).trans (hc27 i hi)
  have fr33 : frP (fun z => z < n ∧ (z < u + 21 ∨ u + 41 ≤ z) ∧ ¬ (u + 243 ≤ z ∧ z ≤ u + 245)) _ _ := fun z (hz : z < n ∧ (z < u + 21 ∨ u + 41 ≤ z) ∧ ¬ (u + 243 ≤ z ∧ z ≤ u + 245)) => (fr9 z (by omega)).trans (fr29 z hz)
  have hc34 : ct G _ (u + 21) C := fun i hi => (fr9 (u + 21 + i) (by omega)).trans (hc30 i hi)
  have fa35 := (fr9 (u + 243) (by omega)).trans hot8
  refine v_iload_n dX6_run_30 rfl ?_
  refine n_if_ne (tgt := 46) (x := 0) dX6_run_31 (by decide) (by decide) (fun c => absurd c (by decide)) (fun _ => ?_)
  refine v_sipush (v := (-2000)) dX6_run_34 (by decide) ?_
  refine v_aload_n dX6_run_37 rfl ?_
  refine fX6_35 (v := .ref (u + 243)) rfl dX6_run_38 fa31 rfl ?_
  refine fX6_236 (v := .int (nI 0)) rfl dX6_run_41 fa35 rfl ?_
  refine v_isub dX6_run_44 ?_
  refine v_st (st2 := [.int (-2000)]) (by rw [show ((-2000 : Int32) - nI 0) = -2000 from by decide]) ?_
  refine v_iret dX6_run_45 rfl ?_ (by omega) (by omega)
  exact ⟨rfl, rfl, hc34, ⟨_, hb2⟩, fa35, fr33⟩
