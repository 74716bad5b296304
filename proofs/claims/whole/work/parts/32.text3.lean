theorem sS_le {t : Nat → Nat} {n c : Nat} {s : Bool × Nat} (hc : 0 < c) (h : s.2 ≤ n) : (sS (txt t n) c s).2 ≤ n := by
  unfold sS
  split
  · exact sg_le hc h
  · exact h
theorem sN_le {t : Nat → Nat} {n m : Nat} {s : Bool × Nat} (h : s.2 ≤ n) : (sN (txt t n) m s).2 ≤ n := by
  unfold sN
  split
  · exact dc_le h
  · exact h
theorem sPM_le {t : Nat → Nat} {n : Nat} {s : Bool × Nat} (h : s.2 ≤ n) : (sPM (txt t n) s).2 ≤ n := by
  unfold sPM
  split
  · exact pm_le h
  · exact h
theorem oS_le {t : Nat → Nat} {n p : Nat} (h : p ≤ n) : (oS (txt t n) (shI (txt t n p)) p).2 ≤ n := by
  rcases shI_cs (txt t n p) with ⟨hk, hs⟩ | ⟨hk, hs⟩ | ⟨hk, hs⟩ | ⟨hk, hs⟩ | ⟨hk, hs⟩ | ⟨hk, hs⟩ | ⟨hk, hs⟩ | ⟨hk, hs⟩ | ⟨hk, hs⟩ | hs
  all_goals first | (have h1 := txt_le (t := t) (n := n) (p := p) (by omega)) | skip
  all_goals rw [hs]
  · exact sN_le h1
  · exact sN_le h1
  · exact sN_le (sS_le (by decide) (sN_le (sS_le (by decide) (sN_le h1))))
  · exact sN_le (sS_le (by decide) (sN_le (sS_le (by decide) (sN_le (sS_le (by decide) (sN_le h1))))))
  · exact h1
  · exact sN_le h1
  · exact sN_le h1
  · exact sPM_le (sN_le h1)
  · exact sN_le h1
  · exact h
/-- where the j-th order begins -/
def op (T : Nat → Nat) : Nat → Nat
  | 0 => 0
  | j + 1 => (oS T (shI (T (op T j))) (op T j)).2 + 1
/-- reading from p: right or not, how many orders, where reading ends -/
def rdO (T : Nat → Nat) (n : Nat) : Nat → Nat → Bool × Nat × Nat
  | 0, p => (false, 0, p)
  | k + 1, p => if (oS T (shI (T p)) p).1 = true then (if (oS T (shI (T p)) p).2 = n then (true, 1, n) else if T (oS T (shI (T p)) p).2 = 59 then ((rdO T n k ((oS T (shI (T p)) p).2 + 1)).1, (rdO T n k ((oS T (shI (T p)) p).2 + 1)).2.1 + 1, (rdO T n k ((oS T (shI (T p)) p).2 + 1)).2.2) else (false, 1, (oS T (shI (T p)) p).2)) else (false, 0, (oS T (shI (T p)) p).2)
def addc (k : Nat) (s : Bool × Nat × Nat) : Bool × Nat × Nat := (s.1, s.2.1 + k, s.2.2)
theorem rdO_s {T : Nat → Nat} {n k p : Nat} (hk : k < 30) : rdO T n (30 - k) p = rdO T n ((30 - (k + 1)) + 1) p := by rw [show 30 - k = (30 - (k + 1)) + 1 by omega]
/-- the orders that stand in the rows -/
def recd (T : Nat → Nat) (L N : Nat → Nat) (k : Nat) : Prop := ∀ j, j < k → L j = T (op T j) ∧ ∀ i, i < oAr (shI (T (op T j))) → N (j * 4 + i) = oV T (shI (T (op T j))) (op T j) i
theorem oAr_le (i : Nat) : oAr i ≤ 4 := by
  unfold oAr
  split <;> decide
theorem recd_s {T : Nat → Nat} {L N L2 N2 : Nat → Nat} {k p : Nat} (h : recd T L N k) (hp : op T k = p) (h1 : ∀ j, j < k → L2 j = L j) (h2 : ∀ j, j < k * 4 → N2 j = N j) (h3 : L2 k = T p ∧ ∀ j, j < oAr (shI (T p)) → N2 (k * 4 + j) = oV T (shI (T p)) p j) : recd T L2 N2 (k + 1) := by
  intro j hj
  by_cases e : j = k
  · subst e
    rw [hp]
    exact h3
  · have h9 := h j (by omega)
    refine ⟨by rw [h1 j (by omega)]; exact h9.1, fun i hi => ?_⟩
    have := oAr_le (shI (T (op T j)))
    rw [h2 (j * 4 + i) (by omega)]
    exact h9.2 i hi
def rdI (G : vG) (q a m tn mb : Nat) (t : Nat → Nat) (h : AH) (k : Nat) (h1 : AH) : Prop := ∃ (p r : Nat) (L N : Nat → Nat), h1 q = some (.inr (6, [.ref (q + 1), .int (nI k), .int (nI p), .int (nI r), .ref (q + 3), .ref (q + 4)])) ∧ sbP G h1 (q + 1) a m t tn mb ∧ h1 (q + 3) = some (.inl (gC G 1, 30, .inl (fun i => nI (L i)))) ∧ h1 (q + 4) = some (ar G 120 N) ∧ p ≤ tn ∧ op (txt t tn) k = p ∧ rdO (txt t tn) tn 30 0 = addc k (rdO (txt t tn) tn (30 - k) p) ∧ recd (txt t tn) L N k ∧ frP (fun z => z ≠ q ∧ z ≠ q + 3 ∧ z ≠ q + 4) h h1
set_option maxRecDepth 20000 in
set_option maxHeartbeats 4000000 in
theorem t_X5_read {l : Launch} {G : vG} {h : AH} {n : Nat} {q a m tn mb c p r : Nat} {t L N : Nat → Nat} (ho : h q = some (.inr (6, [.ref (q + 1), .int (nI c), .int (nI p), .int (nI r), .ref (q + 3), .ref (q + 4)]))) (hb : sbP G h (q + 1) a m t tn mb) (hL : h (q + 3) = some (.inl (gC G 1, 30, .inl (fun i => nI (L i))))) (hN : h (q + 4) = some (ar G 120 N)) (haq : a ≠ q ∧ a ≠ q + 3 ∧ a ≠ q + 4) (hm : m ≤ 142) (htn : tn ≤ 60) (ht : ∀ i, i < tn → 32 ≤ t i ∧ t i ≤ 126) : Mt l G mX5_read [.ref q] (n) h 0 0 (fun r9 n2 h2 => ∃ (r2 : Nat) (L2 N2 : Nat → Nat), r9 = some (.int (nI (bI ((rdO (txt t tn) tn 30 0).1 = true)))) ∧ n2 = n ∧ h2 q = some (.inr (6, [.ref (q + 1), .int (nI ((rdO (txt t tn) tn 30 0).2.1)), .int (nI ((rdO (txt t tn) tn 30 0).2.2)), .int (nI r2), .ref (q + 3), .ref (q + 4)])) ∧ sbP G h2 (q + 1) a m t tn mb ∧ h2 (q + 3) = some (.inl (gC G 1, 30, .inl (fun i => nI (L2 i)))) ∧ h2 (q + 4) = some (ar G 120 N2) ∧ ((rdO (txt t tn) tn 30 0).1 = true → recd (txt t tn) L2 N2 (rdO (txt t tn) tn 30 0).2.1) ∧ (rdO (txt t tn) tn 30 0).2.1 ≤ 30 ∧ (rdO (txt t tn) tn 30 0).2.2 ≤ tn ∧ frP (fun z => z ≠ q ∧ z ≠ q + 3 ∧ z ≠ q + 4) h h2) := by
  refine Mt.of (by decide) (Nat.le_of_ble_eq_true rfl) rfl ?_
  refine v_ls (ls2 := [some (.ref q)]) rfl ?_
  refine v_aload_n dX5_read_0 rfl ?_
  refine v_iconst (v := nI 0) dX5_read_1 (by decide) ?_
  refine pX5_18 rfl dX5_read_2 ho (Nat.le_of_ble_eq_true rfl) ?_
  refine nw (fun h1 f1 s1 => ?_)
  have fa21 : h1 (q) = some (.inr (6, [.ref (q + 1), .int (nI 0), .int (nI p), .int (nI r), .ref (q + 3), .ref (q + 4)])) := f1
  have sa21 := s1
  clear f1 s1
  have hb22 := sbP_fr hb (sa21 (q + 1) (by omega)) (sa21 (a) (by omega))
  have fa23 := (sa21 (q + 3) (by omega)).trans hL
  have fa24 := (sa21 (q + 4) (by omega)).trans hN
  have fr25 : frP (fun z => z ≠ q ∧ z ≠ q + 3 ∧ z ≠ q + 4) _ _ := fun z (hz : z ≠ q ∧ z ≠ q + 3 ∧ z ≠ q + 4) => sa21 z (by omega)
  refine v_aload_n dX5_read_5 rfl ?_
  refine v_iconst (v := nI 0) dX5_read_6 (by decide) ?_
  refine pX5_22 rfl dX5_read_7 fa21 (Nat.le_of_ble_eq_true rfl) ?_
  refine nw (fun h1 f1 s1 => ?_)
  have fa26 : h1 (q) = some (.inr (6, [.ref (q + 1), .int (nI 0), .int (nI 0), .int (nI r), .ref (q + 3), .ref (q + 4)])) := f1
  have sa26 := s1
  clear f1 s1
  have hb27 := sbP_fr hb22 (sa26 (q + 1) (by omega)) (sa26 (a) (by omega))
  have fa28 := (sa26 (q + 3) (by omega)).trans fa23
  have fa29 := (sa26 (q + 4) (by omega)).trans fa24
  have fr30 : frP (fun z => z ≠ q ∧ z ≠ q + 3 ∧ z ≠ q + 4) _ _ := fun z (hz : z ≠ q ∧ z ≠ q + 3 ∧ z ≠ q + 4) => (sa26 z (by omega)).trans (fr25 z hz)
  refine loopH (fun _ => [some (.ref q)]) (rdI G q a m tn mb t h) (N := 30) 0 (by omega) rfl ⟨0, r, L, N, fa26, hb27, fa28, fa29, Nat.zero_le _, rfl, rfl, fun j hj => absurd hj (Nat.not_lt_zero j), fr30⟩ (fun k h1 hk hp0 ihk => ?_)
  clear ho hb hL hN
  obtain ⟨p, r, L, N, ho, hb, hL, hN, hp, hop, hR, hrec, fr0⟩ := hp0
  refine v_aload_n dX5_read_10 rfl ?_
  refine fX5_18 (v := .int (nI k)) rfl dX5_read_11 ho rfl ?_
  refine v_bipush (v := nI 30) dX5_read_14 (by decide) ?_
  refine n_icmp_ge (tgt := 65) (x := k) (y := 30) dX5_read_16 (by decide) (by omega) (by omega) (fun c31 => ?_) (fun c31 => ?_)
  · refine v_iconst (v := nI 0) dX5_read_65 (by decide) ?_
    refine v_zret (ty := .boolean) dX5_read_66 rfl (by decide) ?_ (Nat.le_of_ble_eq_true rfl) (Nat.le_of_ble_eq_true rfl)
    have hE : rdO (txt t tn) tn 30 0 = (false, k, p) := by rw [hR, show k = 30 by omega]; rfl
    rw [hE]
    exact ⟨r, L, N, rfl, rfl, ho, hb, hL, hN, fun z => absurd z Bool.false_ne_true, by show k ≤ 30; omega, by show p ≤ tn; omega, fr0⟩
  · refine v_aload_n dX5_read_19 rfl ?_
    refine v_callV (st := []) dX5_read_20 (t_X5_readOrder ho hb hL hN haq hm htn ht (by omega) (by omega)) wX5_36 ho rfl rfl ⟨Nat.le_of_ble_eq_true rfl, Nat.le_of_ble_eq_true rfl⟩ (Nat.le_of_ble_eq_true rfl) ⟨Nat.le_of_ble_eq_true rfl, Nat.le_of_ble_eq_true rfl⟩ (fun r n2 h2 hq => ?_)
    obtain ⟨r2, N2, L2, rfl, hn9, fO, fL, fN, hLk, hNk, hok, sO⟩ := hq; replace hn9 := hn9.symm; subst hn9
    have hel := oS_le (t := t) (n := tn) (p := p) (by omega)
    obtain ⟨e, he⟩ : ∃ e : Bool × Nat, e = oS (txt t tn) (shI (txt t tn p)) p := ⟨_, rfl⟩
    rw [← he] at fO hok hel
    refine v_st (st2 := [.int (nI (bI (e.1 = true)))]) (by rw [he]; rfl) ?_
    have hb32 := sbP_fr hb (sO (q + 1) (by omega)) (sO (a) (by omega))
    have fr33 : frP (fun z => z ≠ q ∧ z ≠ q + 3 ∧ z ≠ q + 4) _ _ := fun z (hz : z ≠ q ∧ z ≠ q + 3 ∧ z ≠ q + 4) => (sO z (by omega)).trans (fr0 z hz)
    refine n_ifb_ne (tgt := 28) (p := e.1 = true) dX5_read_23 (by decide) (fun c34 => ?_) (fun c34 => ?_)
    · refine v_aload_n dX5_read_28 rfl ?_
      refine v_dup dX5_read_29 rfl ?_
      refine fX5_18 (v := .int (nI k)) rfl dX5_read_30 fO rfl ?_
      refine v_iconst (v := nI 1) dX5_read_33 (by decide) ?_
      refine n_iadd (x := k) (y := 1) dX5_read_34 ?_
      refine pX5_18 rfl dX5_read_35 fO (Nat.le_of_ble_eq_true rfl) ?_
      refine nw (fun h1 f1 s1 => ?_)
      have fa35 : h1 (q) = some (.inr (6, [.ref (q + 1), .int (nI (k + 1)), .int (nI e.2), .int (nI r2), .ref (q + 3), .ref (q + 4)])) := f1
      have sa35 := s1
      clear f1 s1
      have hb36 := sbP_fr hb32 (sa35 (q + 1) (by omega)) (sa35 (a) (by omega))
      have fa37 := (sa35 (q + 3) (by omega)).trans fL
      have fa38 := (sa35 (q + 4) (by omega)).trans fN
      have fr39 : frP (fun z => z ≠ q ∧ z ≠ q + 3 ∧ z ≠ q + 4) _ _ := fun z (hz : z ≠ q ∧ z ≠ q + 3 ∧ z ≠ q + 4) => (sa35 z (by omega)).trans (fr33 z hz)
      refine v_aload_n dX5_read_38 rfl ?_
      refine fX5_22 (v := .int (nI e.2)) rfl dX5_read_39 fa35 rfl ?_
      refine v_aload_n dX5_read_42 rfl ?_
      refine fX5_12 (v := .ref (q + 1)) rfl dX5_read_43 fa35 rfl ?_
      refine v_callV (st := [.int (nI e.2)]) dX5_read_46 (t_SBlen hb36) wX5_40 hb36.1 rfl rfl ⟨Nat.le_of_ble_eq_true rfl, Nat.le_of_ble_eq_true rfl⟩ (Nat.le_of_ble_eq_true rfl) ⟨Nat.le_of_ble_eq_true rfl, Nat.le_of_ble_eq_true rfl⟩ (fun r n2 h2 hq => ?_)
      obtain ⟨rfl, hn9, rfl⟩ := hq; replace hn9 := hn9.symm; subst hn9
      refine v_st (st2 := [.int (nI tn), .int (nI e.2)]) rfl ?_
      refine n_icmp_ne (tgt := 54) (x := e.2) (y := tn) dX5_read_49 (by decide) (by omega) (by omega) (fun c40 => ?_) (fun c40 => ?_)
      · refine v_aload_n dX5_read_54 rfl ?_
        refine v_bipush (v := nI 59) dX5_read_55 (by decide) ?_
        refine v_callV (st := []) dX5_read_57 (t_X5_readSign (cc := 59) fa35 hb36 fa37 fa38 haq hm htn ht (by omega) (by omega) (by omega)) wX5_44 fa35 rfl rfl ⟨Nat.le_of_ble_eq_true rfl, Nat.le_of_ble_eq_true rfl⟩ (Nat.le_of_ble_eq_true rfl) ⟨Nat.le_of_ble_eq_true rfl, Nat.le_of_ble_eq_true rfl⟩ (fun r n2 h2 hq => ?_)
        obtain ⟨rfl, hn9, fa41, sa42⟩ := hq; replace hn9 := hn9.symm; subst hn9
        refine v_st (st2 := [.int (nI (bI ((txt t tn) e.2 = 59)))]) rfl ?_
        have hb43 := sbP_fr hb36 (sa42 (q + 1) (by omega)) (sa42 (a) (by omega))
        have fa44 := (sa42 (q + 3) (by omega)).trans fa37
        have fa45 := (sa42 (q + 4) (by omega)).trans fa38
        have fr46 : frP (fun z => z ≠ q ∧ z ≠ q + 3 ∧ z ≠ q + 4) _ _ := fun z (hz : z ≠ q ∧ z ≠ q + 3 ∧ z ≠ q + 4) => (sa42 z (by omega)).trans (fr39 z hz)
        have bs47 : sgP (txt t tn) 59 e.2 ≤ tn := by first | omega | exact sg_le (by omega) (by omega)
        refine n_ifb_ne (tgt := 10) (p := (txt t tn) e.2 = 59) dX5_read_60 (by decide) (fun c48 => ?_) (fun c48 => ?_)
        · have hsg : sgP (txt t tn) 59 e.2 = e.2 + 1 := if_pos c48
          have hlt := txt_le (t := t) (n := tn) (p := e.2) (by omega)
          have hE : rdO (txt t tn) tn 30 0 = addc (k + 1) (rdO (txt t tn) tn (30 - (k + 1)) (e.2 + 1)) := by rw [hR, rdO_s (by omega), rdO, ← he, if_pos c34, if_neg c40, if_pos c48]; unfold addc; simp only [Nat.add_assoc, Nat.add_comm 1 k]
          exact ihk (by omega) _ ⟨e.2 + 1, r2, L2, N2, by rw [← hsg]; exact fa41, hb43, fa44, fa45, by omega, by rw [op, hop, ← he], hE, recd_s hrec hop hLk hNk (hok c34), fr46⟩
        · refine v_iconst (v := nI 0) dX5_read_63 (by decide) ?_
          refine v_zret (ty := .boolean) dX5_read_64 rfl (by decide) ?_ (Nat.le_of_ble_eq_true rfl) (Nat.le_of_ble_eq_true rfl)
          have hE : rdO (txt t tn) tn 30 0 = (false, k + 1, e.2) := by rw [hR, rdO_s (by omega), rdO, ← he, if_pos c34, if_neg c40, if_neg c48]; unfold addc; simp only [Nat.add_comm 1 k]
          have hsg : sgP (txt t tn) 59 e.2 = e.2 := if_neg c48
          have h9 := fa41
          rw [hsg] at h9
          rw [hE]
          exact ⟨r2, L2, N2, rfl, rfl, h9, hb43, fa44, fa45, fun z => absurd z Bool.false_ne_true, by show k + 1 ≤ 30; omega, by show e.2 ≤ tn; omega, fr46⟩
      · refine v_iconst (v := nI 1) dX5_read_52 (by decide) ?_
        refine v_zret (ty := .boolean) dX5_read_53 rfl (by decide) ?_ (Nat.le_of_ble_eq_true rfl) (Nat.le_of_ble_eq_true rfl)
        have hE : rdO (txt t tn) tn 30 0 = (true, k + 1, e.2) := by rw [hR, rdO_s (by omega), rdO, ← he, if_pos c34, if_pos c40]; unfold addc; simp only [Nat.add_comm 1 k, c40]
        rw [hE]
        exact ⟨r2, L2, N2, rfl, rfl, fa35, hb36, fa37, fa38, fun z => recd_s hrec hop hLk hNk (hok c34), by show k + 1 ≤ 30; omega, by show e.2 ≤ tn; omega, fr39⟩
    · refine v_iconst (v := nI 0) dX5_read_26 (by decide) ?_
      refine v_zret (ty := .boolean) dX5_read_27 rfl (by decide) ?_ (Nat.le_of_ble_eq_true rfl) (Nat.le_of_ble_eq_true rfl)
      have hE : rdO (txt t tn) tn 30 0 = (false, k, e.2) := by rw [hR, rdO_s (by omega), rdO, ← he, if_neg c34]; unfold addc; simp only [Nat.zero_add]
      rw [hE]
      exact ⟨r2, L2, N2, rfl, rfl, fO, hb32, fL, fN, fun z => absurd z Bool.false_ne_true, by show k ≤ 30; omega, by show e.2 ≤ tn; omega, fr33⟩
set_option maxRecDepth 20000 in
set_option maxHeartbeats 4000000 in
theorem t_X5_init {l : Launch} {G : vG} {h : AH} {a : Nat} (ha : h a = some (.inr (6, [.null, .int 0, .int 0, .int 0, .null, .null]))) : Mt l G mX5_init [.ref a] (a + 1) h 4 170 (fun r n2 h2 => r = none ∧ n2 = a + 5 ∧ h2 a = some (.inr (6, [.ref (a + 1), .int (nI 0), .int (nI 0), .int (nI 0), .ref (a + 3), .ref (a + 4)])) ∧ h2 (a + 1) = some (.inr (0, [.ref (a + 2), .int (nI 0), .int 0, .int 0])) ∧ h2 (a + 2) = some (.inl (gC G 2, 16, .inl (fun _ => 0))) ∧ h2 (a + 3) = some (.inl (gC G 1, 30, .inl (fun _ => 0))) ∧ h2 (a + 4) = some (ar G 120 (fun _ => 0)) ∧ offn 5 a h h2) := by
  refine Mt.of (by decide) (Nat.le_of_ble_eq_true rfl) rfl ?_
  refine v_ls (ls2 := [some (.ref a)]) rfl ?_
  refine v_aload_n dX5_init_0 rfl ?_
  refine v_objinit dX5_init_1 q1_204 q1_26 q1_27 (Nat.le_of_ble_eq_true rfl) (Nat.le_of_ble_eq_true rfl) ?_
  refine v_aload_n dX5_init_4 rfl ?_
  refine nnJ4 dX5_init_5 q1_205 (Nat.le_of_ble_eq_true rfl) (Nat.le_of_ble_eq_true rfl) (fun h1 f1 s1 => ?_)
  have fa21 := f1
  have sa21 := s1
  clear f1 s1
  refine v_n (n2 := a + 2) rfl ?_
  have fa22 := (sa21 (a) (by omega)).trans ha
  have fr23 := offn_in (k := 5) (q := a) offn_rf sa21 (by omega)
  refine v_dup dX5_init_8 rfl ?_
  refine v_callI (st := [.ref (a + 1), .ref a]) dX5_init_9 (t_J4_init_da8c8 fa21) wX5_11 rfl rfl ⟨Nat.le_of_ble_eq_true rfl, Nat.le_of_ble_eq_true rfl⟩ (Nat.le_of_ble_eq_true rfl) ⟨Nat.le_of_ble_eq_true rfl, Nat.le_of_ble_eq_true rfl⟩ (fun r n2 h2 hq => ?_)
  obtain ⟨rfl, rfl, fa25, fa26, sa24⟩ := hq
  refine v_st (st2 := [.ref (a + 1), .ref a]) rfl ?_
  refine v_n (n2 := a + 3) rfl ?_
  have fa27 := (sa24 (a) (by omega)).trans fa22
  have fr28 := offn_in (k := 5) (q := a) fr23 sa24 (by omega)
  refine pX5_12 rfl rfl dX5_init_12 fa27 (Nat.le_of_ble_eq_true rfl) ?_
  refine nw (fun h1 f1 s1 => ?_)
  have fa29 : h1 (a) = some (.inr (6, [.ref (a + 1), .int 0, .int 0, .int 0, .null, .null])) := f1
  have sa29 := s1
  clear f1 s1
  have fr30 := offn_in (k := 5) (q := a) fr28 sa29 (by omega)
  have fa31 := (sa29 (a + 1) (by omega)).trans fa25
  have fa32 := (sa29 (a + 2) (by omega)).trans fa26
  refine v_aload_n dX5_init_15 rfl ?_
  refine v_iconst (v := nI 0) dX5_init_16 (by decide) ?_
  refine pX5_18 rfl dX5_init_17 fa29 (Nat.le_of_ble_eq_true rfl) ?_
  refine nw (fun h1 f1 s1 => ?_)
  have fa33 : h1 (a) = some (.inr (6, [.ref (a + 1), .int (nI 0), .int 0, .int 0, .null, .null])) := f1
  have sa33 := s1
  clear f1 s1
  have fr34 := offn_in (k := 5) (q := a) fr30 sa33 (by omega)
  have fa35 := (sa33 (a + 1) (by omega)).trans fa31
  have fa36 := (sa33 (a + 2) (by omega)).trans fa32
  refine v_aload_n dX5_init_20 rfl ?_
  refine v_iconst (v := nI 0) dX5_init_21 (by decide) ?_
  refine pX5_22 rfl dX5_init_22 fa33 (Nat.le_of_ble_eq_true rfl) ?_
  refine nw (fun h1 f1 s1 => ?_)
  have fa37 : h1 (a) = some (.inr (6, [.ref (a + 1), .int (nI 0), .int (nI 0), .int 0, .null, .null])) := f1
  have sa37 := s1
  clear f1 s1
  have fr38 := offn_in (k := 5) (q := a) fr34 sa37 (by omega)
  have fa39 := (sa37 (a + 1) (by omega)).trans fa35
  have fa40 := (sa37 (a + 2) (by omega)).trans fa36
  refine v_aload_n dX5_init_25 rfl ?_
  refine v_iconst (v := nI 0) dX5_init_26 (by decide) ?_
  refine pX5_25 rfl dX5_init_27 fa37 (Nat.le_of_ble_eq_true rfl) ?_
  refine nw (fun h1 f1 s1 => ?_)
  have fa41 : h1 (a) = some (.inr (6, [.ref (a + 1), .int (nI 0), .int (nI 0), .int (nI 0), .null, .null])) := f1
  have sa41 := s1
  clear f1 s1
  have fr42 := offn_in (k := 5) (q := a) fr38 sa41 (by omega)
  have fa43 := (sa41 (a + 1) (by omega)).trans fa39
  have fa44 := (sa41 (a + 2) (by omega)).trans fa40
  refine v_aload_n dX5_init_30 rfl ?_
  refine v_bipush (v := nI 30) dX5_init_31 (by decide) ?_
  refine nnc (k := 30) dX5_init_33 (by decide) (Nat.le_of_ble_eq_true rfl) (Nat.le_of_ble_eq_true rfl) (fun h1 f1 s1 => ?_)
  have fa45 := f1
  have sa45 := s1
  clear f1 s1
  refine v_n (n2 := a + 4) rfl ?_
  have fa46 := (sa45 (a) (by omega)).trans fa41
  have fr47 := offn_in (k := 5) (q := a) fr42 sa45 (by omega)
  have fa48 := (sa45 (a + 1) (by omega)).trans fa43
  have fa49 := (sa45 (a + 2) (by omega)).trans fa44
  refine pX5_28 rfl rfl dX5_init_35 fa46 (Nat.le_of_ble_eq_true rfl) ?_
  refine nw (fun h1 f1 s1 => ?_)
  have fa50 : h1 (a) = some (.inr (6, [.ref (a + 1), .int (nI 0), .int (nI 0), .int (nI 0), .ref (a + 3), .null])) := f1
  have sa50 := s1
  clear f1 s1
  have fr51 := offn_in (k := 5) (q := a) fr47 sa50 (by omega)
  have fa52 := (sa50 (a + 1) (by omega)).trans fa48
  have fa53 := (sa50 (a + 2) (by omega)).trans fa49
  have fa54 := (sa50 (a + 3) (by omega)).trans fa45
  refine v_aload_n dX5_init_38 rfl ?_
  refine v_bipush (v := nI 120) dX5_init_39 (by decide) ?_
  refine nni (k := 120) dX5_init_41 (by decide) (Nat.le_of_ble_eq_true rfl) (Nat.le_of_ble_eq_true rfl) (fun h1 f1 s1 => ?_)
  have fa55 := f1
  have sa55 := s1
  clear f1 s1
  refine v_n (n2 := a + 5) rfl ?_
  have fa56 := (sa55 (a) (by omega)).trans fa50
  have fr57 := offn_in (k := 5) (q := a) fr51 sa55 (by omega)
  have fa58 := (sa55 (a + 1) (by omega)).trans fa52
  have fa59 := (sa55 (a + 2) (by omega)).trans fa53
  have fa60 := (sa55 (a + 3) (by omega)).trans fa54
  refine pX5_32 rfl rfl dX5_init_43 fa56 (Nat.le_of_ble_eq_true rfl) ?_
  refine nw (fun h1 f1 s1 => ?_)
  have fa61 : h1 (a) = some (.inr (6, [.ref (a + 1), .int (nI 0), .int (nI 0), .int (nI 0), .ref (a + 3), .ref (a + 4)])) := f1
  have sa61 := s1
  clear f1 s1
  have fr62 := offn_in (k := 5) (q := a) fr57 sa61 (by omega)
  have fa63 := (sa61 (a + 1) (by omega)).trans fa58
  have fa64 := (sa61 (a + 2) (by omega)).trans fa59
  have fa65 := (sa61 (a + 3) (by omega)).trans fa60
  have fa66 := (sa61 (a + 4) (by omega)).trans fa55
  refine v_vret dX5_init_46 rfl ?_ (Nat.le_of_ble_eq_true rfl) (Nat.le_of_ble_eq_true rfl)
  exact ⟨rfl, rfl, fa61, fa63, fa64, fa65, fa66, fr62⟩
