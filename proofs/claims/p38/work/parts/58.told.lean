/-- texts that agree -/
def lnE (S T : Ln) : Prop := T.2 = S.2 ∧ ∀ i, i < S.2 → T.1 i = S.1 i
theorem lnE_cat {S T K L : Ln} (h : lnE S T) (k : lnE K L) : lnE (wl S K) (wl T L) := by
  obtain ⟨h1, h2⟩ := h
  obtain ⟨k1, k2⟩ := k
  refine ⟨by show T.2 + L.2 = S.2 + K.2; omega, fun i (hi : i < S.2 + K.2) => ?_⟩
  show (if i < T.2 then T.1 i else L.1 (i - T.2)) = (if i < S.2 then S.1 i else K.1 (i - S.2))
  rw [h1]
  by_cases z : i < S.2
  · rw [if_pos z, if_pos z, h2 i z]
  · rw [if_neg z, if_neg z, k2 _ (by omega)]
theorem lnE_rf {S : Ln} : lnE S S := ⟨rfl, fun _ _ => rfl⟩
theorem lnE_c {S T : Ln} {c : Nat} (h : lnE S T) : lnE (wc S c) (wc T c) := lnE_cat (K := (fun _ => c, 1)) (L := (fun _ => c, 1)) h lnE_rf
theorem lnE_i {S T : Ln} {x : Nat} (h : lnE S T) : lnE (wi S x) (wi T x) := lnE_cat (K := (sb_dec x, sb_dg x)) (L := (sb_dec x, sb_dg x)) h lnE_rf
theorem lnE_p {S T : Ln} (h : lnE S T) : ∀ k : Nat, lnE (plS k S) (plS k T)
  | 0 => h
  | k + 1 => lnE_c (lnE_p h k)
theorem lnE_tr {S T K : Ln} (h : lnE S T) (k : lnE T K) : lnE S K := ⟨k.1.trans h.1, fun i hi => (k.2 i (by rw [h.1]; exact hi)).trans (h.2 i hi)⟩
theorem lnE_0 {F : Nat → Nat} : lnE (F, 0) zL := ⟨rfl, fun i hi => absurd hi (Nat.not_lt_zero i)⟩
theorem tellL_E {C : Ct} {f : Nat} {F : Nat → Nat} : lnE (tellL C f (F, 0)) (tellL C f zL) := by
  unfold tellL
  refine lnE_p ?_ _
  split
  · exact lnE_i (lnE_c (lnE_i (lnE_c (lnE_i (lnE_c (lnE_i lnE_0))))))
  · exact lnE_i (lnE_c (lnE_i (lnE_c (lnE_i lnE_0))))
theorem bkL_E {C : Ct} {F : Nat → Nat} : ∀ {p : Nat}, lnE (bkL C (F, 0) p) (bkL C zL p)
  | 0 => lnE_0
  | p + 1 => by
    unfold bkL
    refine lnE_i (lnE_c (lnE_i (lnE_c (lnE_i (lnE_c (lnE_i ?_))))))
    split
    · exact lnE_c bkL_E
    · exact bkL_E
theorem qChr_at {L : Ln} {i : Nat} (h : i < L.2) (h2 : L.2 ≤ 120) : qChr L (nI i) = nI (L.1 i) := by
  unfold qChr
  rw [if_pos (ixb_t h (by omega)), cl_n (by omega)]
/-- a number of a joke that none may hold -/
def wJ (S : Ln) (p : Prop) [Decidable p] (x : Nat) : Ln := if p then wi S x else wl S ngL
theorem wJ_2 {S : Ln} {p : Prop} [Decidable p] {x : Nat} (h : sb_dg x ≤ 9) : (wJ S p x).2 ≤ S.2 + 9 ∧ S.2 + 1 ≤ (wJ S p x).2 := by
  have := (sb_dg_in x).1
  unfold wJ
  split
  · show S.2 + sb_dg x ≤ S.2 + 9 ∧ S.2 + 1 ≤ S.2 + sb_dg x
    omega
  · show S.2 + 5 ≤ S.2 + 9 ∧ S.2 + 1 ≤ S.2 + 5
    omega
theorem v_appJ {l : Launch} {G : vG} {M : vM} {rc rs : Nat} {Fz : vFin} {pc : Nat} {ls : List (Option Value)} {st : List Value} {n : Nat} {h : AH} {cells slots : Nat} {index s a m : Nat} {S : Ln} {p : Prop} [Decidable p] {x : Nat} (c0 s0 : Nat) (hd : decode M.2.1 pc = .ok (.invokevirtual index, 3)) (hb : sbL G h s a m S) (hx : x < 2 ^ 28) (hw : cV M.1.cls index mJ4_append_bf812 1) (hR : mJ4_append_bf812.2.2.2.2.1 + 1 ≤ M.2.2.2.2.1 ∧ 8 + (mJ4_append_bf812.2.2.1 + 11) + mJ4_append_bf812.2.2.2.2.2 ≤ M.2.2.2.2.2) (hst : (st.map fun v => v.category).sum ≤ 8) (hk : S.2 ≤ 20000) (hc1 : cells ≤ c0 + m / 16) (hs1 : slots ≤ s0 + 2 * m) (hc2 : c0 + (2 * S.2 + 34) / 16 ≤ rc) (hs2 : s0 + 2 * (2 * S.2 + 34) ≤ rs) (kk : ∀ (a2 m2 n2 : Nat) (h2 : AH), n ≤ n2 → (a2 = a ∨ n ≤ a2) → a2 < n2 → s < n2 → sbL G h2 s a2 m2 (wJ S p x) → frP (fun z => z ≠ s ∧ z ≠ a ∧ z < n) h h2 → V l G M rc rs Fz (pc + 3) ls (.ref s :: st) n2 h2 (c0 + m2 / 16) (s0 + 2 * m2)) : V l G M rc rs Fz pc ls (.int (if p then nI x else -1015) :: .ref s :: st) n h cells slots := by
  unfold wJ at kk
  by_cases hp : p
  · rw [if_pos hp]
    rw [if_pos hp] at kk
    exact v_appI c0 s0 hd hb hx hw hR hst hk hc1 hs1 hc2 hs2 kk
  · rw [if_neg hp]
    rw [if_neg hp] at kk
    exact v_appN c0 s0 hd hb hw hR hst hk hc1 hs1 (by omega) (by omega) kk
/-- a text, sign by sign -/
def cpS (L : Ln) : Nat → Ln
  | 0 => zL
  | i + 1 => wc (cpS L i) (L.1 i)
theorem cpS_2 {L : Ln} : ∀ i, (cpS L i).2 = i
  | 0 => rfl
  | i + 1 => by show (cpS L i).2 + 1 = i + 1; rw [cpS_2 i]
theorem cpS_1 {L : Ln} : ∀ i j, j < i → (cpS L i).1 j = L.1 j
  | 0, j, h => absurd h (Nat.not_lt_zero j)
  | i + 1, j, h => by
    show (if j < (cpS L i).2 then (cpS L i).1 j else L.1 i) = L.1 j
    rw [cpS_2]
    by_cases z : j < i
    · rw [if_pos z, cpS_1 i j z]
    · rw [if_neg z, show j = i by omega]
set_option maxRecDepth 20000 in
set_option maxHeartbeats 4000000 in
theorem t_L_line {l : Launch} {G : vG} {h : AH} {n : Nat} {u a : Nat} {LN : Ln} {C : Ct} {T : Hs} {Sn : Ct} {sv : Nat} {rs dt : Int32} (o : oP G u n h a LN C T Sn sv rs dt) : Mt l G mL_line [.ref u, .int (nI LN.2)] (n) h 20 660 (fun r n2 h2 => ∃ q qa : Nat, r = some (.ref q) ∧ n ≤ n2 ∧ (n ≤ q ∧ q < n2) ∧ (n ≤ qa ∧ qa < n2) ∧ strP G h2 q qa LN ∧ frP (fun z => z < n) h h2) := by
  refine Mt.of (by decide) (Nat.le_of_ble_eq_true rfl) rfl ?_
  refine v_ls (ls2 := [some (.ref u), some (.int (nI LN.2)), none, none]) rfl ?_
  have hun := o.n
  have hLN := o.2.2.2.2.2.2.1
  refine v_newSB dL_line_0 dL_line_3 dL_line_4 q4_87 wL_73 ⟨Nat.le_of_ble_eq_true rfl, Nat.le_of_ble_eq_true rfl⟩ (Nat.le_of_ble_eq_true rfl) (by omega) (by omega) (fun h21 hb21 fr21 => ?_)
  have hm21 := hb21.2
  have hz21 : (zL : Ln).2 = 0 := rfl
  have ho22 : oP G u (n + 2) _ a LN C T Sn sv rs dt := oP.fr o (by omega) (fun z hz1 hz2 => fr21 z (by omega)) (fr21 a (by omega))
  have fr23 : frP (fun z => z < n) _ _ := fun z (hz : z < n) => fr21 z (by omega)
  refine v_widen (k1 := 0 + 1 + 16 / 16) (k2 := 0 + 2 * 16) (by omega) (by omega) ?_
  refine v_astore_n dL_line_7 rfl (by decide) ?_
  refine v_ls (ls2 := [some (.ref u), some (.int (nI LN.2)), some (.ref n), none]) rfl ?_
  refine v_iconst (v := nI 0) dL_line_8 (by decide) ?_
  refine v_istore_n dL_line_9 rfl (by decide) ?_
  refine v_ls (ls2 := [some (.ref u), some (.int (nI LN.2)), some (.ref n), some (.int (nI 0))]) rfl ?_
  refine loopX (fun i => [some (.ref u), some (.int (nI LN.2)), some (.ref n), some (.int (nI i))]) (fun i x n1 h1 => ∃ aS : Nat, sbL G h1 n aS x (cpS LN i) ∧ n + 1 ≤ aS ∧ aS < n1 ∧ n + 2 ≤ n1 ∧ frP (fun z => z < n) h h1) (fun i x => 1 + x / 16) (fun i x => 0 + 2 * x) (N := LN.2) 0 16 (Nat.zero_le _) rfl ⟨_, hb21, by omega, by omega, by omega, fr23⟩ (by omega) (by omega) (fun i x n1 h1 hi hp9 ih => ?_)
  obtain ⟨aS, hb0, ha1, ha2, ha3, fr0⟩ := hp9
  have hm0 := hb0.2
  have hk0 := cpS_2 (L := LN) i
  obtain ⟨S0, hS0⟩ : ∃ S : Ln, S = cpS LN i := ⟨_, rfl⟩
  rw [← hS0] at hb0 hm0 hk0
  have o1 : oP G u n1 h1 a LN C T Sn sv rs dt := oP.fr o (by omega) (fun z hz1 hz2 => fr0 z (by omega)) (fr0 a (by omega))
  refine v_iload_n dL_line_10 rfl ?_
  refine v_iload_n dL_line_11 rfl ?_
  refine n_icmp_ge (tgt := 32) (x := i) (y := LN.2) dL_line_12 (by decide) (by omega) (by omega) (fun c24 => ?_) (fun c24 => ?_)
  · refine v_aload_n dL_line_32 rfl ?_
    refine v_toStr (st := []) dL_line_33 hb0 wL_80 ⟨Nat.le_of_ble_eq_true rfl, Nat.le_of_ble_eq_true rfl⟩ (Nat.le_of_ble_eq_true rfl) (by omega) (by omega) (by omega) (fun h25 hs25 fr25 => ?_)
    have ho26 : oP G u (n1 + 2) _ a LN C T Sn sv rs dt := oP.fr o1 (by omega) (fun z hz1 hz2 => fr25 z (by omega)) (fr25 a (by omega))
    have hb27 := sbL.fr hb0 (fr25 (n) (by omega)) (fr25 (aS) (by omega))
    have fr28 : frP (fun z => z < n) _ _ := fun z (hz : z < n) => (fr25 z (by omega)).trans (fr0 z hz)
    refine v_aret dL_line_36 rfl (Or.inl ⟨_, rfl⟩) ?_ (by omega) (by omega)
    have ei : i = LN.2 := by omega
    refine ⟨n1, n1 + 1, rfl, by omega, by omega, by omega, strP.cong hs25 (by omega) (fun j hj => ?_), fr28⟩
    rw [hS0, cpS_1 i j (by rw [hS0, cpS_2] at hj; exact hj)]
  · refine v_aload_n dL_line_15 rfl ?_
    refine v_aload_n dL_line_16 rfl ?_
    refine v_iload_n dL_line_17 rfl ?_
    refine v_ask (st := [.ref n]) (v2 := nI (LN.1 i)) dL_line_18 (o_character o1) (qChr_at (i := i) (by omega) (by omega)) wL_74 o1.he rfl rfl ⟨Nat.le_of_ble_eq_true rfl, Nat.le_of_ble_eq_true rfl⟩ (Nat.le_of_ble_eq_true rfl) ⟨by omega, by omega⟩ ?_
    have hc9 : LN.1 i < 256 := o1.2.2.2.2.2.2.2 i (by omega)
    refine n_i2c (x := LN.1 i) dL_line_21 (by omega) ?_
    refine v_appC (st := []) (c := LN.1 i) (1) (0) dL_line_22 hb0 (by omega) wL_77 ⟨Nat.le_of_ble_eq_true rfl, Nat.le_of_ble_eq_true rfl⟩ (Nat.le_of_ble_eq_true rfl) (by omega) (by omega) (by omega) (by omega) (by omega) (fun a29 m29 n29 h29 hn29 hg29 hl29 hs29 hb29 fr29 => ?_)
    obtain ⟨S29, hS29⟩ : ∃ Sx : Ln, Sx = wc S0 (LN.1 i) := ⟨_, rfl⟩
    rw [← hS29] at hb29
    have hk29 : S29.2 = S0.2 + 1 := by rw [hS29]; rfl
    have hm29 := hb29.2
    have ho30 : oP G u n29 _ a LN C T Sn sv rs dt := oP.fr o1 (by omega) (fun z hz1 hz2 => fr29 z (by omega)) (fr29 a (by omega))
    have fr31 : frP (fun z => z < n) _ _ := fun z (hz : z < n) => (fr29 z (by omega)).trans (fr0 z hz)
    refine v_widen (k1 := 1 + m29 / 16) (k2 := 0 + 2 * m29) (by omega) (by omega) ?_
    refine v_pop dL_line_25 rfl ?_
    refine n_iinc (k := 1) (x := i) dL_line_26 (by decide) rfl rfl (by decide) ?_
    refine v_ls (ls2 := [some (.ref u), some (.int (nI LN.2)), some (.ref n), some (.int (nI (i + 1)))]) rfl ?_
    refine v_goto (tgt := 10) dL_line_29 (by decide) ?_
    have e9 : S29 = cpS LN (i + 1) := by rw [cpS]; rw [hS29]; rw [hS0]
    rw [e9] at hb29
    exact ih (by omega) _ _ _ ⟨_, hb29, by omega, by omega, by omega, fr31⟩
/-- what the law tells of a court, piece by piece -/
def tA (C : Ct) (T : Hs) : Nat → Ln
  | 0 => zL
  | i + 1 => wc (wi (tA C T i) (acN C T i)) 44
def tB (C : Ct) (S : Ln) : Nat → Ln
  | 0 => S
  | i + 1 => wc (wi (wc (wi (wc (wl (tB C S i) (tellL C i zL)) 47) (C 5 i)) 44) (C 6 i)) 59
def tK (C : Ct) (j : Nat) (S : Ln) : Nat → Ln
  | 0 => S
  | k + 1 => wc (wi (tK C j S k) (C 10 (j * 4 + k))) 44
def hol (C : Ct) (j : Nat) : Nat := if hold C j then C 9 j - C 0 3 else 0
def tJ (C : Ct) (S : Ln) : Nat → Ln
  | 0 => S
  | j + 1 => wc (wi (wc (wJ (wc (wi (tK C j (tJ C S j) 4) (C 7 j)) 44) (hold C j) (C 8 j)) 44) (hol C j)) 59
def tD (C : Ct) (S : Ln) : Nat → Ln
  | 0 => S
  | k + 1 => wc (wi (tD C S k) (thN C (k / 3) (k % 3))) 44
def toldL (C : Ct) (T : Hs) : Ln := wl (tD C (tJ C (tB C (tA C T 13) (C 0 0)) (C 0 1)) 12) (bkL C zL (C 0 2))
theorem tA_T {C : Ct} {T U : Hs} : ∀ i, i ≤ 13 → tA C T i = tA C U i
  | 0, _ => rfl
  | i + 1, h => by
    unfold tA
    rw [tA_T (T := T) (U := U) i (by omega)]
    congr 2
    unfold acN
    obtain rfl | rfl | rfl | rfl | rfl | rfl | rfl | rfl | rfl | rfl | rfl | rfl | rfl := (by omega : i = 0 ∨ i = 1 ∨ i = 2 ∨ i = 3 ∨ i = 4 ∨ i = 5 ∨ i = 6 ∨ i = 7 ∨ i = 8 ∨ i = 9 ∨ i = 10 ∨ i = 11 ∨ i = 12) <;> rfl
theorem toldL_T {C : Ct} {T U : Hs} : toldL C T = toldL C U := by
  unfold toldL
  rw [tA_T (T := T) (U := U) 13 (Nat.le_refl _)]
theorem qJoke_2 {C : Ct} {j : Nat} : qJokeN C j 2 = nI (hol C j) := by
  show (if hold C j then nI (C 9 j - C 0 3) else nI 0) = nI (if hold C j then C 9 j - C 0 3 else 0)
  split <;> rfl
theorem hol_b {b j : Nat} {C : Ct} (g : gd b C) : hol C j < 2 ^ 28 := by
  have := C_b (x := 9) (y := j) g
  unfold hol
  split <;> omega
set_option maxRecDepth 20000 in
set_option maxHeartbeats 4000000 in
theorem t_L_told {l : Launch} {G : vG} {h : AH} {n : Nat} {u a : Nat} {LN : Ln} {C : Ct} {T : Hs} {Sn : Ct} {sv : Nat} {rs dt : Int32} {b : Nat} (g : gd b C) (o : oP G u n h a LN C T Sn sv rs dt) (hT : T.1 ≤ 8) : Mt l G mL_told [.ref u] (n) h 1500 60000 (fun r n2 h2 => ∃ (q qa a2 : Nat) (L2 : Ln), r = some (.ref q) ∧ n ≤ n2 ∧ (n ≤ q ∧ q < n2) ∧ (n ≤ qa ∧ qa < n2) ∧ strP G h2 q qa (toldL C T) ∧ (toldL C T).2 ≤ 5000 ∧ (a2 = a ∨ n ≤ a2) ∧ a2 < n2 ∧ qa ≠ a2 ∧ oP G u n2 h2 a2 L2 C T Sn sv rs dt ∧ frP (fun z => z < n ∧ z ≠ u + 248 ∧ z ≠ a) h h2) := by
  refine Mt.of (by decide) (Nat.le_of_ble_eq_true rfl) rfl ?_
  refine v_ls (ls2 := [some (.ref u), none, none, none]) rfl ?_
  have hun := o.n
  have hn6 := g.1.1.1.1
  have hn12 := g.1.1.1.2.1
  have hn10 := g.1.1.1.2.2.1
  refine v_newSB dL_told_0 dL_told_3 dL_told_4 q4_87 wL_73 ⟨Nat.le_of_ble_eq_true rfl, Nat.le_of_ble_eq_true rfl⟩ (Nat.le_of_ble_eq_true rfl) (by omega) (by omega) (fun h21 hb21 fr21 => ?_)
  have hm21 := hb21.2
  have hz21 : (zL : Ln).2 = 0 := rfl
  have ho22 : oP G u (n + 2) _ a LN C T Sn sv rs dt := oP.fr o (by omega) (fun z hz1 hz2 => fr21 z (by omega)) (fr21 a (by omega))
  have fr23 : frP (fun z => z < n ∧ z ≠ u + 248 ∧ z ≠ a) _ _ := fun z (hz : z < n ∧ z ≠ u + 248 ∧ z ≠ a) => fr21 z (by omega)
  refine v_widen (k1 := 0 + 1 + 16 / 16) (k2 := 0 + 2 * 16) (by omega) (by omega) ?_
  refine v_astore_n dL_told_7 rfl (by decide) ?_
  refine v_ls (ls2 := [some (.ref u), some (.ref n), none, none]) rfl ?_
  refine v_iconst (v := nI 0) dL_told_8 (by decide) ?_
  refine v_istore_n dL_told_9 rfl (by decide) ?_
  refine v_ls (ls2 := [some (.ref u), some (.ref n), some (.int (nI 0)), none]) rfl ?_
  have e24 : zL = tA C T 0 := by rfl
  rw [e24] at hb21
  have k24 : (tA C T 0).2 ≤ 0 * 10 := by rw [← e24]; omega
  refine loopX (fun i => [some (.ref u), some (.ref n), some (.int (nI i)), none]) (fun i x n1 h1 => ∃ (aS aL : Nat) (LM : Ln), sbL G h1 n aS x (tA C T i) ∧ oP G u n1 h1 aL LM C T Sn sv rs dt ∧ (n + 1 ≤ aS ∧ aS < n1 ∧ n + 2 ≤ n1 ∧ aL ≠ aS ∧ (aL = a ∨ n + 2 ≤ aL) ∧ aL < n1) ∧ (tA C T i).2 ≤ i * 10 ∧ frP (fun z => z < n ∧ z ≠ u + 248 ∧ z ≠ a) h h1) (fun i x => 1 + i * 0 + x / 16) (fun i x => 0 + i * 0 + 2 * x) (N := 13) 0 16 (Nat.zero_le _) rfl ⟨_, _, _, hb21, ho22, ⟨by omega, by omega, by omega, by omega, by omega, by omega⟩, k24, fr23⟩ (by omega) (by omega) (fun i1 x24 n24 h24 hi24 hp9 ihA => ?_)
  obtain ⟨aS24, aL24, LM24, hb24, ho24, ⟨ha24, hc24, hd24, he24, hf24, hj24⟩, hk24, fr24⟩ := hp9
  have hm24 := hb24.2
  obtain ⟨S24, hS24⟩ : ∃ S : Ln, S = tA C T i1 := ⟨_, rfl⟩
  rw [← hS24] at hb24 hm24 hk24
  refine v_iload_n dL_told_10 rfl ?_
  refine v_bipush (v := nI 13) dL_told_11 (by decide) ?_
  refine n_icmp_ge (tgt := 37) (x := i1) (y := 13) dL_told_13 (by decide) (by omega) (by omega) (fun c25 => ?_) (fun c25 => ?_)
  · refine v_iconst (v := nI 0) dL_told_37 (by decide) ?_
    refine v_istore_n dL_told_38 rfl (by decide) ?_
    refine v_ls (ls2 := [some (.ref u), some (.ref n), some (.int (nI 0)), none]) rfl ?_
    have e26 : i1 = 13 := by omega
    subst e26
    have e27 : S24 = tB C (tA C T 13) 0 := by rw [hS24]; rfl
    rw [e27] at hb24
    have k27 : (tB C (tA C T 13) 0).2 ≤ 130 + 0 * 141 := by rw [← e27]; omega
    refine loopX (fun i => [some (.ref u), some (.ref n), some (.int (nI i)), none]) (fun i x n1 h1 => ∃ (aS aL : Nat) (LM : Ln), sbL G h1 n aS x (tB C (tA C T 13) i) ∧ oP G u n1 h1 aL LM C T Sn sv rs dt ∧ (n + 1 ≤ aS ∧ aS < n1 ∧ n + 2 ≤ n1 ∧ aL ≠ aS ∧ (aL = a ∨ n + 2 ≤ aL) ∧ aL < n1) ∧ (tB C (tA C T 13) i).2 ≤ 130 + i * 141 ∧ frP (fun z => z < n ∧ z ≠ u + 248 ∧ z ≠ a) h h1) (fun i x => 1 + i * 36 + x / 16) (fun i x => 0 + i * 2932 + 2 * x) (N := C 0 0) 0 x24 (Nat.zero_le _) rfl ⟨_, _, _, hb24, ho24, ⟨by omega, by omega, by omega, by omega, by omega, by omega⟩, k27, fr24⟩ (by omega) (by omega) (fun i2 x27 n27 h27 hi27 hp9 ihB => ?_)
    obtain ⟨aS27, aL27, LM27, hb27, ho27, ⟨ha27, hc27, hd27, he27, hf27, hj27⟩, hk27, fr27⟩ := hp9
    have hm27 := hb27.2
    obtain ⟨S27, hS27⟩ : ∃ S : Ln, S = tB C (tA C T 13) i2 := ⟨_, rfl⟩
    rw [← hS27] at hb27 hm27 hk27
    refine v_iload_n dL_told_39 rfl ?_
    refine v_aload_n dL_told_40 rfl ?_
    refine v_iconst (v := nI 0) dL_told_41 (by decide) ?_
    refine v_ask (st := [.int (nI i2)]) (v2 := nI (C 0 0)) dL_told_42 (o_account g ho27) (qAcc_at (w := 0) (by decide)) wL_34 ho27.he rfl rfl ⟨Nat.le_of_ble_eq_true rfl, Nat.le_of_ble_eq_true rfl⟩ (Nat.le_of_ble_eq_true rfl) ⟨by omega, by omega⟩ ?_
    have b28 : C 0 0 < 2 ^ 28 := C_b g
    refine n_icmp_ge (tgt := 103) (x := i2) (y := C 0 0) dL_told_45 (by decide) (by omega) (by omega) (fun c29 => ?_) (fun c29 => ?_)
    · refine v_iconst (v := nI 0) dL_told_103 (by decide) ?_
      refine v_istore_n dL_told_104 rfl (by decide) ?_
      refine v_ls (ls2 := [some (.ref u), some (.ref n), some (.int (nI 0)), none]) rfl ?_
      have e30 : i2 = C 0 0 := by omega
      subst e30
      have e31 : S27 = tJ C (tB C (tA C T 13) (C 0 0)) 0 := by rw [hS27]; rfl
      rw [e31] at hb27
      have k31 : (tJ C (tB C (tA C T 13) (C 0 0)) 0).2 ≤ 130 + 846 + 0 * 70 := by rw [← e31]; omega
      refine loopX (fun i => [some (.ref u), some (.ref n), some (.int (nI i)), none]) (fun i x n1 h1 => ∃ (aS aL : Nat) (LM : Ln), sbL G h1 n aS x (tJ C (tB C (tA C T 13) (C 0 0)) i) ∧ oP G u n1 h1 aL LM C T Sn sv rs dt ∧ (n + 1 ≤ aS ∧ aS < n1 ∧ n + 2 ≤ n1 ∧ aL ≠ aS ∧ (aL = a ∨ n + 2 ≤ aL) ∧ aL < n1) ∧ (tJ C (tB C (tA C T 13) (C 0 0)) i).2 ≤ 130 + 846 + i * 70 ∧ frP (fun z => z < n ∧ z ≠ u + 248 ∧ z ≠ a) h h1) (fun i x => 217 + i * 0 + x / 16) (fun i x => 17592 + i * 0 + 2 * x) (N := C 0 1) 0 x27 (Nat.zero_le _) rfl ⟨_, _, _, hb27, ho27, ⟨by omega, by omega, by omega, by omega, by omega, by omega⟩, k31, fr27⟩ (by omega) (by omega) (fun i3 x31 n31 h31 hi31 hp9 ihJ => ?_)
      obtain ⟨aS31, aL31, LM31, hb31, ho31, ⟨ha31, hc31, hd31, he31, hf31, hj31⟩, hk31, fr31⟩ := hp9
      have hm31 := hb31.2
      obtain ⟨S31, hS31⟩ : ∃ S : Ln, S = tJ C (tB C (tA C T 13) (C 0 0)) i3 := ⟨_, rfl⟩
      rw [← hS31] at hb31 hm31 hk31
      refine v_iload_n dL_told_105 rfl ?_
      refine v_aload_n dL_told_106 rfl ?_
      refine v_iconst (v := nI 1) dL_told_107 (by decide) ?_
      refine v_ask (st := [.int (nI i3)]) (v2 := nI (C 0 1)) dL_told_108 (o_account g ho31) (qAcc_at (w := 1) (by decide)) wL_34 ho31.he rfl rfl ⟨Nat.le_of_ble_eq_true rfl, Nat.le_of_ble_eq_true rfl⟩ (Nat.le_of_ble_eq_true rfl) ⟨by omega, by omega⟩ ?_
      have b32 : C 0 1 < 2 ^ 28 := C_b g
      refine n_icmp_ge (tgt := 193) (x := i3) (y := C 0 1) dL_told_111 (by decide) (by omega) (by omega) (fun c33 => ?_) (fun c33 => ?_)
      · refine v_iconst (v := nI 0) dL_told_193 (by decide) ?_
        refine v_istore_n dL_told_194 rfl (by decide) ?_
        refine v_ls (ls2 := [some (.ref u), some (.ref n), some (.int (nI 0)), none]) rfl ?_
        have e34 : i3 = C 0 1 := by omega
        subst e34
        have e35 : S31 = tD C (tJ C (tB C (tA C T 13) (C 0 0)) (C 0 1)) 0 := by rw [hS31]; rfl
        rw [e35] at hb31
        have k35 : (tD C (tJ C (tB C (tA C T 13) (C 0 0)) (C 0 1)) 0).2 ≤ 130 + 846 + 840 + 0 * 10 := by rw [← e35]; omega
        refine loopX (fun i => [some (.ref u), some (.ref n), some (.int (nI i)), none]) (fun i x n1 h1 => ∃ (aS aL : Nat) (LM : Ln), sbL G h1 n aS x (tD C (tJ C (tB C (tA C T 13) (C 0 0)) (C 0 1)) i) ∧ oP G u n1 h1 aL LM C T Sn sv rs dt ∧ (n + 1 ≤ aS ∧ aS < n1 ∧ n + 2 ≤ n1 ∧ aL ≠ aS ∧ (aL = a ∨ n + 2 ≤ aL) ∧ aL < n1) ∧ (tD C (tJ C (tB C (tA C T 13) (C 0 0)) (C 0 1)) i).2 ≤ 130 + 846 + 840 + i * 10 ∧ frP (fun z => z < n ∧ z ≠ u + 248 ∧ z ≠ a) h h1) (fun i x => 217 + i * 0 + x / 16) (fun i x => 17592 + i * 0 + 2 * x) (N := 12) 0 x31 (Nat.zero_le _) rfl ⟨_, _, _, hb31, ho31, ⟨by omega, by omega, by omega, by omega, by omega, by omega⟩, k35, fr31⟩ (by omega) (by omega) (fun i5 x35 n35 h35 hi35 hp9 ihD => ?_)
        obtain ⟨aS35, aL35, LM35, hb35, ho35, ⟨ha35, hc35, hd35, he35, hf35, hj35⟩, hk35, fr35⟩ := hp9
        have hm35 := hb35.2
        obtain ⟨S35, hS35⟩ : ∃ S : Ln, S = tD C (tJ C (tB C (tA C T 13) (C 0 0)) (C 0 1)) i5 := ⟨_, rfl⟩
        rw [← hS35] at hb35 hm35 hk35
        refine v_iload_n dL_told_195 rfl ?_
        refine v_bipush (v := nI 12) dL_told_196 (by decide) ?_
        refine n_icmp_ge (tgt := 227) (x := i5) (y := 12) dL_told_198 (by decide) (by omega) (by omega) (fun c36 => ?_) (fun c36 => ?_)
        · have e37 : i5 = 12 := by omega
          subst e37
          refine v_aload_n dL_told_227 rfl ?_
          refine v_aload_n dL_told_228 rfl ?_
          refine v_aload_n dL_told_229 rfl ?_
          refine v_callV (st := [.ref u, .ref n]) dL_told_230 (o_tellBookings g ho35) wL_109 ho35.he rfl rfl ⟨Nat.le_of_ble_eq_true rfl, Nat.le_of_ble_eq_true rfl⟩ (Nat.le_of_ble_eq_true rfl) ⟨by omega, by omega⟩ (fun r n38 h38 hq => ?_)
          obtain ⟨rfl, a38, hn38, hg38, hl38, ho38, fr38⟩ := ob_of g ho35 hq
          refine v_st (st2 := [.int (nI ((bkL C (LM35.1, 0) (C 0 2)).2)), .ref u, .ref n]) rfl ?_
          have hb39 := sbL.fr hb35 (fr38 (n) (by omega)) (fr38 (aS35) (by omega))
          have fr40 : frP (fun z => z < n ∧ z ≠ u + 248 ∧ z ≠ a) _ _ := fun z (hz : z < n ∧ z ≠ u + 248 ∧ z ≠ a) => (fr38 z (by omega)).trans (fr35 z hz)
          refine v_widen (k1 := 217 + 12 * 0 + 82 + x35 / 16) (k2 := 17592 + 12 * 0 + 11644 + 2 * x35) (by omega) (by omega) ?_
          have hq41 := ho38.2.2.2.2.2.2.1
          refine v_callS (st := [.ref n]) dL_told_233 (t_L_line ho38) wL_90 rfl ⟨Nat.le_of_ble_eq_true rfl, Nat.le_of_ble_eq_true rfl⟩ (Nat.le_of_ble_eq_true rfl) ⟨by omega, by omega⟩ (fun r n41 h41 hq => ?_)
          obtain ⟨q41, qa41, rfl, hn41, hx41, hy41, hs41, fr41⟩ := hq
          refine v_st (st2 := [.ref q41, .ref n]) rfl ?_
          have hb42 := sbL.fr hb39 (fr41 (n) (by omega)) (fr41 (aS35) (by omega))
          have fr43 : frP (fun z => z < n ∧ z ≠ u + 248 ∧ z ≠ a) _ _ := fun z (hz : z < n ∧ z ≠ u + 248 ∧ z ≠ a) => (fr41 z (by omega)).trans (fr40 z hz)
          have ho44 : oP G u n41 _ a38 ((bkL C (LM35.1, 0) (C 0 2))) C T Sn sv rs dt := oP.fr ho38 (by omega) (fun z hz1 hz2 => fr41 z (by omega)) (fr41 a38 (by omega))
          have ht41 : strP G h41 q41 qa41 (bkL C zL (C 0 2)) := strP.cong hs41 (bkL_E (C := C) (F := LM35.1) (p := C 0 2)).1 (fun i hi => (bkL_E (C := C) (F := LM35.1) (p := C 0 2)).2 i hi)
          have hw41 : (bkL C zL (C 0 2)).2 ≤ 120 := by rw [(bkL_E (C := C) (F := LM35.1) (p := C 0 2)).1]; exact hq41
          refine v_widen (k1 := 217 + 12 * 0 + 82 + 20 + x35 / 16) (k2 := 17592 + 12 * 0 + 11644 + 660 + 2 * x35) (by omega) (by omega) ?_
          refine v_appS (st := []) (ra := qa41) (L := (bkL C zL (C 0 2))) (217 + 12 * 0 + 82 + 20) (17592 + 12 * 0 + 11644 + 660) dL_told_236 hb42 (Or.inl ht41) (by omega) (by omega) wL_94 ⟨Nat.le_of_ble_eq_true rfl, Nat.le_of_ble_eq_true rfl⟩ (Nat.le_of_ble_eq_true rfl) (by omega) (by omega) (by omega) (by omega) (by omega) (fun a45 m45 n45 h45 hn45 hg45 hl45 hs45 hb45 fr45 => ?_)
          obtain ⟨S45, hS45⟩ : ∃ Sx : Ln, Sx = wl S35 ((bkL C zL (C 0 2))) := ⟨_, rfl⟩
          rw [← hS45] at hb45
          have hk45 : S45.2 = S35.2 + ((bkL C zL (C 0 2))).2 := by rw [hS45]; rfl
          have hm45 := hb45.2
          have fr46 : frP (fun z => z < n ∧ z ≠ u + 248 ∧ z ≠ a) _ _ := fun z (hz : z < n ∧ z ≠ u + 248 ∧ z ≠ a) => (fr45 z (by omega)).trans (fr43 z hz)
          have ho47 : oP G u n45 _ a38 ((bkL C (LM35.1, 0) (C 0 2))) C T Sn sv rs dt := oP.fr ho44 (by omega) (fun z hz1 hz2 => fr45 z (by omega)) (fr45 a38 (by omega))
          have hs48 := strP.fr ht41 (fr45 (q41) (by omega)) (fr45 (qa41) (by omega))
          refine v_widen (k1 := 217 + 12 * 0 + 82 + 20 + m45 / 16) (k2 := 17592 + 12 * 0 + 11644 + 660 + 2 * m45) (by omega) (by omega) ?_
          refine v_toStr (st := []) dL_told_239 hb45 wL_80 ⟨Nat.le_of_ble_eq_true rfl, Nat.le_of_ble_eq_true rfl⟩ (Nat.le_of_ble_eq_true rfl) (by omega) (by omega) (by omega) (fun h49 hs49 fr49 => ?_)
          have hb50 := sbL.fr hb45 (fr49 (n) (by omega)) (fr49 (a45) (by omega))
          have fr51 : frP (fun z => z < n ∧ z ≠ u + 248 ∧ z ≠ a) _ _ := fun z (hz : z < n ∧ z ≠ u + 248 ∧ z ≠ a) => (fr49 z (by omega)).trans (fr46 z hz)
          have ho52 : oP G u (n45 + 2) _ a38 ((bkL C (LM35.1, 0) (C 0 2))) C T Sn sv rs dt := oP.fr ho47 (by omega) (fun z hz1 hz2 => fr49 z (by omega)) (fr49 a38 (by omega))
          have hs53 := strP.fr hs48 (fr49 (q41) (by omega)) (fr49 (qa41) (by omega))
          refine v_aret dL_told_242 rfl (Or.inl ⟨_, rfl⟩) ?_ (by omega) (by omega)
          have e54 : S45 = toldL C T := by unfold toldL; rw [hS45]; rw [hS35]
          have k54 : S45.2 ≤ 5000 := by omega
          rw [e54] at hs49 k54
          exact ⟨n45, n45 + 1, a38, _, rfl, by omega, by omega, by omega, hs49, k54, by omega, by omega, by omega, ho52, fr51⟩
        · refine v_aload_n dL_told_201 rfl ?_
          refine v_aload_n dL_told_202 rfl ?_
          refine v_iload_n dL_told_203 rfl ?_
          refine v_iconst (v := nI 3) dL_told_204 (by decide) ?_
          refine n_idiv (x := i5) (y := 3) dL_told_205 (by omega) (by omega) (by omega) ?_
          refine v_iload_n dL_told_206 rfl ?_
          refine v_iconst (v := nI 3) dL_told_207 (by decide) ?_
          refine n_irem (x := i5) (y := 3) dL_told_208 (by omega) (by omega) (by omega) ?_
          refine v_ask (st := [.ref n]) (v2 := nI (thN C (i5 / 3) (i5 % 3))) dL_told_209 (o_throneOf g ho35) (thN_at (t := i5 / 3) (w := i5 % 3) (by omega) (by omega)) wL_106 ho35.he rfl rfl ⟨Nat.le_of_ble_eq_true rfl, Nat.le_of_ble_eq_true rfl⟩ (Nat.le_of_ble_eq_true rfl) ⟨by omega, by omega⟩ ?_
          have b55 : thN C (i5 / 3) (i5 % 3) < 2 ^ 28 := thN_b g
          have hv56 : thN C (i5 / 3) (i5 % 3) < 2 ^ 28 := by omega
          have hd56 := dg9 hv56
          refine v_appI (st := []) (x := thN C (i5 / 3) (i5 % 3)) (217 + i5 * 0) (17592 + i5 * 0) dL_told_212 hb35 hv56 wL_84 ⟨Nat.le_of_ble_eq_true rfl, Nat.le_of_ble_eq_true rfl⟩ (Nat.le_of_ble_eq_true rfl) (by omega) (by omega) (by omega) (by omega) (by omega) (fun a57 m57 n57 h57 hn57 hg57 hl57 hs57 hb57 fr57 => ?_)
          obtain ⟨S57, hS57⟩ : ∃ Sx : Ln, Sx = wi S35 (thN C (i5 / 3) (i5 % 3)) := ⟨_, rfl⟩
          rw [← hS57] at hb57
          have hk57 : S57.2 = S35.2 + sb_dg (thN C (i5 / 3) (i5 % 3)) := by rw [hS57]; rfl
          have hm57 := hb57.2
          have ho58 : oP G u n57 _ aL35 LM35 C T Sn sv rs dt := oP.fr ho35 (by omega) (fun z hz1 hz2 => fr57 z (by omega)) (fr57 aL35 (by omega))
          have fr59 : frP (fun z => z < n ∧ z ≠ u + 248 ∧ z ≠ a) _ _ := fun z (hz : z < n ∧ z ≠ u + 248 ∧ z ≠ a) => (fr57 z (by omega)).trans (fr35 z hz)
          refine v_widen (k1 := 217 + i5 * 0 + m57 / 16) (k2 := 17592 + i5 * 0 + 2 * m57) (by omega) (by omega) ?_
          refine v_bipush (v := nI 44) dL_told_215 (by decide) ?_
          refine v_appC (st := []) (c := 44) (217 + i5 * 0) (17592 + i5 * 0) dL_told_217 hb57 (by omega) wL_77 ⟨Nat.le_of_ble_eq_true rfl, Nat.le_of_ble_eq_true rfl⟩ (Nat.le_of_ble_eq_true rfl) (by omega) (by omega) (by omega) (by omega) (by omega) (fun a60 m60 n60 h60 hn60 hg60 hl60 hs60 hb60 fr60 => ?_)
          obtain ⟨S60, hS60⟩ : ∃ Sx : Ln, Sx = wc S57 44 := ⟨_, rfl⟩
          rw [← hS60] at hb60
          have hk60 : S60.2 = S57.2 + 1 := by rw [hS60]; rfl
          have hm60 := hb60.2
          have ho61 : oP G u n60 _ aL35 LM35 C T Sn sv rs dt := oP.fr ho58 (by omega) (fun z hz1 hz2 => fr60 z (by omega)) (fr60 aL35 (by omega))
          have fr62 : frP (fun z => z < n ∧ z ≠ u + 248 ∧ z ≠ a) _ _ := fun z (hz : z < n ∧ z ≠ u + 248 ∧ z ≠ a) => (fr60 z (by omega)).trans (fr59 z hz)
          refine v_widen (k1 := 217 + i5 * 0 + m60 / 16) (k2 := 17592 + i5 * 0 + 2 * m60) (by omega) (by omega) ?_
          refine v_pop dL_told_220 rfl ?_
          refine n_iinc (k := 1) (x := i5) dL_told_221 (by decide) rfl rfl (by decide) ?_
          refine v_ls (ls2 := [some (.ref u), some (.ref n), some (.int (nI (i5 + 1))), none]) rfl ?_
          refine v_goto (tgt := 195) dL_told_224 (by decide) ?_
          have e63 : S60 = tD C (tJ C (tB C (tA C T 13) (C 0 0)) (C 0 1)) (i5 + 1) := by rw [tD]; rw [hS60]; rw [hS57]; rw [hS35]
          have k63 : S60.2 = S60.2 := rfl
          rw [e63] at hb60
          refine v_widen (k1 := 217 + (i5 + 1) * 0 + m60 / 16) (k2 := 17592 + (i5 + 1) * 0 + 2 * m60) (by omega) (by omega) ?_
          exact ihD (by omega) _ _ _ ⟨_, _, _, hb60, ho61, ⟨by omega, by omega, by omega, by omega, by omega, by omega⟩, by rw [← e63]; omega, fr62⟩
      · refine v_iconst (v := nI 0) dL_told_114 (by decide) ?_
        refine v_istore_n dL_told_115 rfl (by decide) ?_
        refine v_ls (ls2 := [some (.ref u), some (.ref n), some (.int (nI i3)), some (.int (nI 0))]) rfl ?_
        have e64 : S31 = tK C i3 (tJ C (tB C (tA C T 13) (C 0 0)) i3) 0 := by rw [hS31]; rfl
        rw [e64] at hb31
        have k64 : (tK C i3 (tJ C (tB C (tA C T 13) (C 0 0)) i3) 0).2 ≤ 130 + 846 + i3 * 70 + 0 * 10 := by rw [← e64]; omega
        refine loopX (fun i => [some (.ref u), some (.ref n), some (.int (nI i3)), some (.int (nI i))]) (fun i x n1 h1 => ∃ (aS aL : Nat) (LM : Ln), sbL G h1 n aS x (tK C i3 (tJ C (tB C (tA C T 13) (C 0 0)) i3) i) ∧ oP G u n1 h1 aL LM C T Sn sv rs dt ∧ (n + 1 ≤ aS ∧ aS < n1 ∧ n + 2 ≤ n1 ∧ aL ≠ aS ∧ (aL = a ∨ n + 2 ≤ aL) ∧ aL < n1) ∧ (tK C i3 (tJ C (tB C (tA C T 13) (C 0 0)) i3) i).2 ≤ 130 + 846 + i3 * 70 + i * 10 ∧ frP (fun z => z < n ∧ z ≠ u + 248 ∧ z ≠ a) h h1) (fun i x => 217 + i * 0 + x / 16) (fun i x => 17592 + i * 0 + 2 * x) (N := 4) 0 x31 (Nat.zero_le _) rfl ⟨_, _, _, hb31, ho31, ⟨by omega, by omega, by omega, by omega, by omega, by omega⟩, k64, fr31⟩ (by omega) (by omega) (fun i4 x64 n64 h64 hi64 hp9 ihK => ?_)
        obtain ⟨aS64, aL64, LM64, hb64, ho64, ⟨ha64, hc64, hd64, he64, hf64, hj64⟩, hk64, fr64⟩ := hp9
        have hm64 := hb64.2
        obtain ⟨S64, hS64⟩ : ∃ S : Ln, S = tK C i3 (tJ C (tB C (tA C T 13) (C 0 0)) i3) i4 := ⟨_, rfl⟩
        rw [← hS64] at hb64 hm64 hk64
        refine v_iload_n dL_told_116 rfl ?_
        refine v_iconst (v := nI 4) dL_told_117 (by decide) ?_
        refine n_icmp_ge (tgt := 143) (x := i4) (y := 4) dL_told_118 (by decide) (by omega) (by omega) (fun c65 => ?_) (fun c65 => ?_)
        · have e66 : i4 = 4 := by omega
          subst e66
          refine v_aload_n dL_told_143 rfl ?_
          refine v_aload_n dL_told_144 rfl ?_
          refine v_iload_n dL_told_145 rfl ?_
          refine v_iconst (v := nI 0) dL_told_146 (by decide) ?_
          refine v_ask (st := [.ref n]) (v2 := nI (C 7 i3)) dL_told_147 (o_jokeOf g ho64) (qJoke_at (j := i3) (w := 0) (by omega) (by omega) (by decide)) wL_103 ho64.he rfl rfl ⟨Nat.le_of_ble_eq_true rfl, Nat.le_of_ble_eq_true rfl⟩ (Nat.le_of_ble_eq_true rfl) ⟨by omega, by omega⟩ ?_
          have b67 : C 7 i3 < 2 ^ 28 := C_b g
          have hv68 : C 7 i3 < 2 ^ 28 := by omega
          have hd68 := dg9 hv68
          refine v_appI (st := []) (x := C 7 i3) (217 + 4 * 0) (17592 + 4 * 0) dL_told_150 hb64 hv68 wL_84 ⟨Nat.le_of_ble_eq_true rfl, Nat.le_of_ble_eq_true rfl⟩ (Nat.le_of_ble_eq_true rfl) (by omega) (by omega) (by omega) (by omega) (by omega) (fun a69 m69 n69 h69 hn69 hg69 hl69 hs69 hb69 fr69 => ?_)
          obtain ⟨S69, hS69⟩ : ∃ Sx : Ln, Sx = wi S64 (C 7 i3) := ⟨_, rfl⟩
          rw [← hS69] at hb69
          have hk69 : S69.2 = S64.2 + sb_dg (C 7 i3) := by rw [hS69]; rfl
          have hm69 := hb69.2
          have ho70 : oP G u n69 _ aL64 LM64 C T Sn sv rs dt := oP.fr ho64 (by omega) (fun z hz1 hz2 => fr69 z (by omega)) (fr69 aL64 (by omega))
          have fr71 : frP (fun z => z < n ∧ z ≠ u + 248 ∧ z ≠ a) _ _ := fun z (hz : z < n ∧ z ≠ u + 248 ∧ z ≠ a) => (fr69 z (by omega)).trans (fr64 z hz)
          refine v_widen (k1 := 217 + 4 * 0 + m69 / 16) (k2 := 17592 + 4 * 0 + 2 * m69) (by omega) (by omega) ?_
          refine v_bipush (v := nI 44) dL_told_153 (by decide) ?_
          refine v_appC (st := []) (c := 44) (217 + 4 * 0) (17592 + 4 * 0) dL_told_155 hb69 (by omega) wL_77 ⟨Nat.le_of_ble_eq_true rfl, Nat.le_of_ble_eq_true rfl⟩ (Nat.le_of_ble_eq_true rfl) (by omega) (by omega) (by omega) (by omega) (by omega) (fun a72 m72 n72 h72 hn72 hg72 hl72 hs72 hb72 fr72 => ?_)
          obtain ⟨S72, hS72⟩ : ∃ Sx : Ln, Sx = wc S69 44 := ⟨_, rfl⟩
          rw [← hS72] at hb72
          have hk72 : S72.2 = S69.2 + 1 := by rw [hS72]; rfl
          have hm72 := hb72.2
          have ho73 : oP G u n72 _ aL64 LM64 C T Sn sv rs dt := oP.fr ho70 (by omega) (fun z hz1 hz2 => fr72 z (by omega)) (fr72 aL64 (by omega))
          have fr74 : frP (fun z => z < n ∧ z ≠ u + 248 ∧ z ≠ a) _ _ := fun z (hz : z < n ∧ z ≠ u + 248 ∧ z ≠ a) => (fr72 z (by omega)).trans (fr71 z hz)
          refine v_widen (k1 := 217 + 4 * 0 + m72 / 16) (k2 := 17592 + 4 * 0 + 2 * m72) (by omega) (by omega) ?_
          refine v_aload_n dL_told_158 rfl ?_
          refine v_iload_n dL_told_159 rfl ?_
          refine v_iconst (v := nI 1) dL_told_160 (by decide) ?_
          refine v_ask (st := [.ref n]) (v2 := if hold C i3 then nI (C 8 i3) else -1015) dL_told_161 (o_jokeOf g ho73) (qJoke_at (j := i3) (w := 1) (by omega) (by omega) (by decide)) wL_103 ho73.he rfl rfl ⟨Nat.le_of_ble_eq_true rfl, Nat.le_of_ble_eq_true rfl⟩ (Nat.le_of_ble_eq_true rfl) ⟨by omega, by omega⟩ ?_
          have hv75 : (C 8 i3) < 2 ^ 28 := C_b g
          refine v_appJ (st := []) (p := hold C i3) (x := (C 8 i3)) (217 + 4 * 0) (17592 + 4 * 0) dL_told_164 hb72 hv75 wL_84 ⟨Nat.le_of_ble_eq_true rfl, Nat.le_of_ble_eq_true rfl⟩ (Nat.le_of_ble_eq_true rfl) (by omega) (by omega) (by omega) (by omega) (by omega) (fun a76 m76 n76 h76 hn76 hg76 hl76 hs76 hb76 fr76 => ?_)
          obtain ⟨S76, hS76⟩ : ∃ Sx : Ln, Sx = wJ S72 (hold C i3) (C 8 i3) := ⟨_, rfl⟩
          rw [← hS76] at hb76
          have hk76 : S76.2 ≤ S72.2 + 9 ∧ S72.2 + 1 ≤ S76.2 := by rw [hS76]; exact wJ_2 (dg9 hv75)
          have hm76 := hb76.2
          have ho77 : oP G u n76 _ aL64 LM64 C T Sn sv rs dt := oP.fr ho73 (by omega) (fun z hz1 hz2 => fr76 z (by omega)) (fr76 aL64 (by omega))
          have fr78 : frP (fun z => z < n ∧ z ≠ u + 248 ∧ z ≠ a) _ _ := fun z (hz : z < n ∧ z ≠ u + 248 ∧ z ≠ a) => (fr76 z (by omega)).trans (fr74 z hz)
          refine v_widen (k1 := 217 + 4 * 0 + m76 / 16) (k2 := 17592 + 4 * 0 + 2 * m76) (by omega) (by omega) ?_
          refine v_bipush (v := nI 44) dL_told_167 (by decide) ?_
          refine v_appC (st := []) (c := 44) (217 + 4 * 0) (17592 + 4 * 0) dL_told_169 hb76 (by omega) wL_77 ⟨Nat.le_of_ble_eq_true rfl, Nat.le_of_ble_eq_true rfl⟩ (Nat.le_of_ble_eq_true rfl) (by omega) (by omega) (by omega) (by omega) (by omega) (fun a79 m79 n79 h79 hn79 hg79 hl79 hs79 hb79 fr79 => ?_)
          obtain ⟨S79, hS79⟩ : ∃ Sx : Ln, Sx = wc S76 44 := ⟨_, rfl⟩
          rw [← hS79] at hb79
          have hk79 : S79.2 = S76.2 + 1 := by rw [hS79]; rfl
          have hm79 := hb79.2
          have ho80 : oP G u n79 _ aL64 LM64 C T Sn sv rs dt := oP.fr ho77 (by omega) (fun z hz1 hz2 => fr79 z (by omega)) (fr79 aL64 (by omega))
          have fr81 : frP (fun z => z < n ∧ z ≠ u + 248 ∧ z ≠ a) _ _ := fun z (hz : z < n ∧ z ≠ u + 248 ∧ z ≠ a) => (fr79 z (by omega)).trans (fr78 z hz)
          refine v_widen (k1 := 217 + 4 * 0 + m79 / 16) (k2 := 17592 + 4 * 0 + 2 * m79) (by omega) (by omega) ?_
          refine v_aload_n dL_told_172 rfl ?_
          refine v_iload_n dL_told_173 rfl ?_
          refine v_iconst (v := nI 2) dL_told_174 (by decide) ?_
          refine v_ask (st := [.ref n]) (v2 := nI (hol C i3)) dL_told_175 (o_jokeOf g ho80) ((qJoke_at (j := i3) (w := 2) (by omega) (by omega) (by decide)).trans qJoke_2) wL_103 ho80.he rfl rfl ⟨Nat.le_of_ble_eq_true rfl, Nat.le_of_ble_eq_true rfl⟩ (Nat.le_of_ble_eq_true rfl) ⟨by omega, by omega⟩ ?_
          have b82 : hol C i3 < 2 ^ 28 := hol_b g
          have hv83 : hol C i3 < 2 ^ 28 := by omega
          have hd83 := dg9 hv83
          refine v_appI (st := []) (x := hol C i3) (217 + 4 * 0) (17592 + 4 * 0) dL_told_178 hb79 hv83 wL_84 ⟨Nat.le_of_ble_eq_true rfl, Nat.le_of_ble_eq_true rfl⟩ (Nat.le_of_ble_eq_true rfl) (by omega) (by omega) (by omega) (by omega) (by omega) (fun a84 m84 n84 h84 hn84 hg84 hl84 hs84 hb84 fr84 => ?_)
          obtain ⟨S84, hS84⟩ : ∃ Sx : Ln, Sx = wi S79 (hol C i3) := ⟨_, rfl⟩
          rw [← hS84] at hb84
          have hk84 : S84.2 = S79.2 + sb_dg (hol C i3) := by rw [hS84]; rfl
          have hm84 := hb84.2
          have ho85 : oP G u n84 _ aL64 LM64 C T Sn sv rs dt := oP.fr ho80 (by omega) (fun z hz1 hz2 => fr84 z (by omega)) (fr84 aL64 (by omega))
          have fr86 : frP (fun z => z < n ∧ z ≠ u + 248 ∧ z ≠ a) _ _ := fun z (hz : z < n ∧ z ≠ u + 248 ∧ z ≠ a) => (fr84 z (by omega)).trans (fr81 z hz)
          refine v_widen (k1 := 217 + 4 * 0 + m84 / 16) (k2 := 17592 + 4 * 0 + 2 * m84) (by omega) (by omega) ?_
          refine v_bipush (v := nI 59) dL_told_181 (by decide) ?_
          refine v_appC (st := []) (c := 59) (217 + 4 * 0) (17592 + 4 * 0) dL_told_183 hb84 (by omega) wL_77 ⟨Nat.le_of_ble_eq_true rfl, Nat.le_of_ble_eq_true rfl⟩ (Nat.le_of_ble_eq_true rfl) (by omega) (by omega) (by omega) (by omega) (by omega) (fun a87 m87 n87 h87 hn87 hg87 hl87 hs87 hb87 fr87 => ?_)
          obtain ⟨S87, hS87⟩ : ∃ Sx : Ln, Sx = wc S84 59 := ⟨_, rfl⟩
          rw [← hS87] at hb87
          have hk87 : S87.2 = S84.2 + 1 := by rw [hS87]; rfl
          have hm87 := hb87.2
          have ho88 : oP G u n87 _ aL64 LM64 C T Sn sv rs dt := oP.fr ho85 (by omega) (fun z hz1 hz2 => fr87 z (by omega)) (fr87 aL64 (by omega))
          have fr89 : frP (fun z => z < n ∧ z ≠ u + 248 ∧ z ≠ a) _ _ := fun z (hz : z < n ∧ z ≠ u + 248 ∧ z ≠ a) => (fr87 z (by omega)).trans (fr86 z hz)
          refine v_widen (k1 := 217 + 4 * 0 + m87 / 16) (k2 := 17592 + 4 * 0 + 2 * m87) (by omega) (by omega) ?_
          refine v_pop dL_told_186 rfl ?_
          refine n_iinc (k := 1) (x := i3) dL_told_187 (by decide) rfl rfl (by decide) ?_
          refine v_ls (ls2 := [some (.ref u), some (.ref n), some (.int (nI (i3 + 1))), some (.int (nI 4))]) rfl ?_
          refine v_goto (tgt := 105) dL_told_190 (by decide) ?_
          refine v_forget 3 ?_
          refine v_ls (ls2 := [some (.ref u), some (.ref n), some (.int (nI (i3 + 1))), none]) rfl ?_
          have e90 : S87 = tJ C (tB C (tA C T 13) (C 0 0)) (i3 + 1) := by rw [tJ]; rw [hS87]; rw [hS84]; rw [hS79]; rw [hS76]; rw [hS72]; rw [hS69]; rw [hS64]
          have k90 : S87.2 = S87.2 := rfl
          rw [e90] at hb87
          refine v_widen (k1 := 217 + (i3 + 1) * 0 + m87 / 16) (k2 := 17592 + (i3 + 1) * 0 + 2 * m87) (by omega) (by omega) ?_
          exact ihJ (by omega) _ _ _ ⟨_, _, _, hb87, ho88, ⟨by omega, by omega, by omega, by omega, by omega, by omega⟩, by rw [← e90]; omega, fr89⟩
        · refine v_aload_n dL_told_121 rfl ?_
          refine v_aload_n dL_told_122 rfl ?_
          refine v_iload_n dL_told_123 rfl ?_
          refine v_iload_n dL_told_124 rfl ?_
          refine v_ask (st := [.ref n]) (v2 := nI (C 10 (i3 * 4 + i4))) dL_told_125 (o_told g ho64) (qTold_at (j := i3) (t := i4) (by omega) (by omega) (by omega)) wL_100 ho64.he rfl rfl ⟨Nat.le_of_ble_eq_true rfl, Nat.le_of_ble_eq_true rfl⟩ (Nat.le_of_ble_eq_true rfl) ⟨by omega, by omega⟩ ?_
          have b91 : C 10 (i3 * 4 + i4) < 2 ^ 28 := C_b g
          have hv92 : C 10 (i3 * 4 + i4) < 2 ^ 28 := by omega
          have hd92 := dg9 hv92
          refine v_appI (st := []) (x := C 10 (i3 * 4 + i4)) (217 + i4 * 0) (17592 + i4 * 0) dL_told_128 hb64 hv92 wL_84 ⟨Nat.le_of_ble_eq_true rfl, Nat.le_of_ble_eq_true rfl⟩ (Nat.le_of_ble_eq_true rfl) (by omega) (by omega) (by omega) (by omega) (by omega) (fun a93 m93 n93 h93 hn93 hg93 hl93 hs93 hb93 fr93 => ?_)
          obtain ⟨S93, hS93⟩ : ∃ Sx : Ln, Sx = wi S64 (C 10 (i3 * 4 + i4)) := ⟨_, rfl⟩
          rw [← hS93] at hb93
          have hk93 : S93.2 = S64.2 + sb_dg (C 10 (i3 * 4 + i4)) := by rw [hS93]; rfl
          have hm93 := hb93.2
          have ho94 : oP G u n93 _ aL64 LM64 C T Sn sv rs dt := oP.fr ho64 (by omega) (fun z hz1 hz2 => fr93 z (by omega)) (fr93 aL64 (by omega))
          have fr95 : frP (fun z => z < n ∧ z ≠ u + 248 ∧ z ≠ a) _ _ := fun z (hz : z < n ∧ z ≠ u + 248 ∧ z ≠ a) => (fr93 z (by omega)).trans (fr64 z hz)
          refine v_widen (k1 := 217 + i4 * 0 + m93 / 16) (k2 := 17592 + i4 * 0 + 2 * m93) (by omega) (by omega) ?_
          refine v_bipush (v := nI 44) dL_told_131 (by decide) ?_
          refine v_appC (st := []) (c := 44) (217 + i4 * 0) (17592 + i4 * 0) dL_told_133 hb93 (by omega) wL_77 ⟨Nat.le_of_ble_eq_true rfl, Nat.le_of_ble_eq_true rfl⟩ (Nat.le_of_ble_eq_true rfl) (by omega) (by omega) (by omega) (by omega) (by omega) (fun a96 m96 n96 h96 hn96 hg96 hl96 hs96 hb96 fr96 => ?_)
          obtain ⟨S96, hS96⟩ : ∃ Sx : Ln, Sx = wc S93 44 := ⟨_, rfl⟩
          rw [← hS96] at hb96
          have hk96 : S96.2 = S93.2 + 1 := by rw [hS96]; rfl
          have hm96 := hb96.2
          have ho97 : oP G u n96 _ aL64 LM64 C T Sn sv rs dt := oP.fr ho94 (by omega) (fun z hz1 hz2 => fr96 z (by omega)) (fr96 aL64 (by omega))
          have fr98 : frP (fun z => z < n ∧ z ≠ u + 248 ∧ z ≠ a) _ _ := fun z (hz : z < n ∧ z ≠ u + 248 ∧ z ≠ a) => (fr96 z (by omega)).trans (fr95 z hz)
          refine v_widen (k1 := 217 + i4 * 0 + m96 / 16) (k2 := 17592 + i4 * 0 + 2 * m96) (by omega) (by omega) ?_
          refine v_pop dL_told_136 rfl ?_
          refine n_iinc (k := 1) (x := i4) dL_told_137 (by decide) rfl rfl (by decide) ?_
          refine v_ls (ls2 := [some (.ref u), some (.ref n), some (.int (nI i3)), some (.int (nI (i4 + 1)))]) rfl ?_
          refine v_goto (tgt := 116) dL_told_140 (by decide) ?_
          have e99 : S96 = tK C i3 (tJ C (tB C (tA C T 13) (C 0 0)) i3) (i4 + 1) := by rw [tK]; rw [hS96]; rw [hS93]; rw [hS64]
          have k99 : S96.2 = S96.2 := rfl
          rw [e99] at hb96
          refine v_widen (k1 := 217 + (i4 + 1) * 0 + m96 / 16) (k2 := 17592 + (i4 + 1) * 0 + 2 * m96) (by omega) (by omega) ?_
          exact ihK (by omega) _ _ _ ⟨_, _, _, hb96, ho97, ⟨by omega, by omega, by omega, by omega, by omega, by omega⟩, by rw [← e99]; omega, fr98⟩
    · refine v_aload_n dL_told_48 rfl ?_
      refine v_aload_n dL_told_49 rfl ?_
      refine v_aload_n dL_told_50 rfl ?_
      refine v_iload_n dL_told_51 rfl ?_
      refine v_callV (st := [.ref u, .ref n]) dL_told_52 (o_tell (f := i2) g ho27 (by omega)) wL_87 ho27.he rfl rfl ⟨Nat.le_of_ble_eq_true rfl, Nat.le_of_ble_eq_true rfl⟩ (Nat.le_of_ble_eq_true rfl) ⟨by omega, by omega⟩ (fun r n100 h100 hq => ?_)
      obtain ⟨rfl, a100, hn100, hg100, hl100, ho100, fr100⟩ := ot_of g ho27 (by omega) hq
      refine v_st (st2 := [.int (nI ((tellL C i2 (LM27.1, 0)).2)), .ref u, .ref n]) rfl ?_
      have hb101 := sbL.fr hb27 (fr100 (n) (by omega)) (fr100 (aS27) (by omega))
      have fr102 : frP (fun z => z < n ∧ z ≠ u + 248 ∧ z ≠ a) _ _ := fun z (hz : z < n ∧ z ≠ u + 248 ∧ z ≠ a) => (fr100 z (by omega)).trans (fr27 z hz)
      refine v_widen (k1 := 1 + i2 * 36 + 16 + x27 / 16) (k2 := 0 + i2 * 2932 + 2272 + 2 * x27) (by omega) (by omega) ?_
      have hq103 := ho100.2.2.2.2.2.2.1
      refine v_callS (st := [.ref n]) dL_told_55 (t_L_line ho100) wL_90 rfl ⟨Nat.le_of_ble_eq_true rfl, Nat.le_of_ble_eq_true rfl⟩ (Nat.le_of_ble_eq_true rfl) ⟨by omega, by omega⟩ (fun r n103 h103 hq => ?_)
      obtain ⟨q103, qa103, rfl, hn103, hx103, hy103, hs103, fr103⟩ := hq
      refine v_st (st2 := [.ref q103, .ref n]) rfl ?_
      have hb104 := sbL.fr hb101 (fr103 (n) (by omega)) (fr103 (aS27) (by omega))
      have fr105 : frP (fun z => z < n ∧ z ≠ u + 248 ∧ z ≠ a) _ _ := fun z (hz : z < n ∧ z ≠ u + 248 ∧ z ≠ a) => (fr103 z (by omega)).trans (fr102 z hz)
      have ho106 : oP G u n103 _ a100 ((tellL C i2 (LM27.1, 0))) C T Sn sv rs dt := oP.fr ho100 (by omega) (fun z hz1 hz2 => fr103 z (by omega)) (fr103 a100 (by omega))
      have ht103 : strP G h103 q103 qa103 (tellL C i2 zL) := strP.cong hs103 (tellL_E (C := C) (f := i2) (F := LM27.1)).1 (fun i hi => (tellL_E (C := C) (f := i2) (F := LM27.1)).2 i hi)
      have hw103 : (tellL C i2 zL).2 ≤ 120 := by rw [(tellL_E (C := C) (f := i2) (F := LM27.1)).1]; exact hq103
      refine v_widen (k1 := 1 + i2 * 36 + 16 + 20 + x27 / 16) (k2 := 0 + i2 * 2932 + 2272 + 660 + 2 * x27) (by omega) (by omega) ?_
      refine v_appS (st := []) (ra := qa103) (L := (tellL C i2 zL)) (1 + i2 * 36 + 16 + 20) (0 + i2 * 2932 + 2272 + 660) dL_told_58 hb104 (Or.inl ht103) (by omega) (by omega) wL_94 ⟨Nat.le_of_ble_eq_true rfl, Nat.le_of_ble_eq_true rfl⟩ (Nat.le_of_ble_eq_true rfl) (by omega) (by omega) (by omega) (by omega) (by omega) (fun a107 m107 n107 h107 hn107 hg107 hl107 hs107 hb107 fr107 => ?_)
      obtain ⟨S107, hS107⟩ : ∃ Sx : Ln, Sx = wl S27 ((tellL C i2 zL)) := ⟨_, rfl⟩
      rw [← hS107] at hb107
      have hk107 : S107.2 = S27.2 + ((tellL C i2 zL)).2 := by rw [hS107]; rfl
      have hm107 := hb107.2
      have fr108 : frP (fun z => z < n ∧ z ≠ u + 248 ∧ z ≠ a) _ _ := fun z (hz : z < n ∧ z ≠ u + 248 ∧ z ≠ a) => (fr107 z (by omega)).trans (fr105 z hz)
      have ho109 : oP G u n107 _ a100 ((tellL C i2 (LM27.1, 0))) C T Sn sv rs dt := oP.fr ho106 (by omega) (fun z hz1 hz2 => fr107 z (by omega)) (fr107 a100 (by omega))
      have hs110 := strP.fr ht103 (fr107 (q103) (by omega)) (fr107 (qa103) (by omega))
      refine v_widen (k1 := 1 + i2 * 36 + 16 + 20 + m107 / 16) (k2 := 0 + i2 * 2932 + 2272 + 660 + 2 * m107) (by omega) (by omega) ?_
      refine v_bipush (v := nI 47) dL_told_61 (by decide) ?_
      refine v_appC (st := []) (c := 47) (1 + i2 * 36 + 16 + 20) (0 + i2 * 2932 + 2272 + 660) dL_told_63 hb107 (by omega) wL_77 ⟨Nat.le_of_ble_eq_true rfl, Nat.le_of_ble_eq_true rfl⟩ (Nat.le_of_ble_eq_true rfl) (by omega) (by omega) (by omega) (by omega) (by omega) (fun a111 m111 n111 h111 hn111 hg111 hl111 hs111 hb111 fr111 => ?_)
      obtain ⟨S111, hS111⟩ : ∃ Sx : Ln, Sx = wc S107 47 := ⟨_, rfl⟩
      rw [← hS111] at hb111
      have hk111 : S111.2 = S107.2 + 1 := by rw [hS111]; rfl
      have hm111 := hb111.2
      have fr112 : frP (fun z => z < n ∧ z ≠ u + 248 ∧ z ≠ a) _ _ := fun z (hz : z < n ∧ z ≠ u + 248 ∧ z ≠ a) => (fr111 z (by omega)).trans (fr108 z hz)
      have ho113 : oP G u n111 _ a100 ((tellL C i2 (LM27.1, 0))) C T Sn sv rs dt := oP.fr ho109 (by omega) (fun z hz1 hz2 => fr111 z (by omega)) (fr111 a100 (by omega))
      have hs114 := strP.fr hs110 (fr111 (q103) (by omega)) (fr111 (qa103) (by omega))
      refine v_widen (k1 := 1 + i2 * 36 + 16 + 20 + m111 / 16) (k2 := 0 + i2 * 2932 + 2272 + 660 + 2 * m111) (by omega) (by omega) ?_
      refine v_aload_n dL_told_66 rfl ?_
      refine v_iload_n dL_told_67 rfl ?_
      refine v_bipush (v := nI 6) dL_told_68 (by decide) ?_
      refine v_ask (st := [.ref n]) (v2 := nI (C 5 i2)) dL_told_70 (o_foolOf g ho113) (qFool_at (f := i2) (w := 6) (by omega) (by omega) (by decide)) wL_97 ho113.he rfl rfl ⟨Nat.le_of_ble_eq_true rfl, Nat.le_of_ble_eq_true rfl⟩ (Nat.le_of_ble_eq_true rfl) ⟨by omega, by omega⟩ ?_
      have b115 : C 5 i2 < 2 ^ 28 := C_b g
      have hv116 : C 5 i2 < 2 ^ 28 := by omega
      have hd116 := dg9 hv116
      refine v_appI (st := []) (x := C 5 i2) (1 + i2 * 36 + 16 + 20) (0 + i2 * 2932 + 2272 + 660) dL_told_73 hb111 hv116 wL_84 ⟨Nat.le_of_ble_eq_true rfl, Nat.le_of_ble_eq_true rfl⟩ (Nat.le_of_ble_eq_true rfl) (by omega) (by omega) (by omega) (by omega) (by omega) (fun a117 m117 n117 h117 hn117 hg117 hl117 hs117 hb117 fr117 => ?_)
      obtain ⟨S117, hS117⟩ : ∃ Sx : Ln, Sx = wi S111 (C 5 i2) := ⟨_, rfl⟩
      rw [← hS117] at hb117
      have hk117 : S117.2 = S111.2 + sb_dg (C 5 i2) := by rw [hS117]; rfl
      have hm117 := hb117.2
      have fr118 : frP (fun z => z < n ∧ z ≠ u + 248 ∧ z ≠ a) _ _ := fun z (hz : z < n ∧ z ≠ u + 248 ∧ z ≠ a) => (fr117 z (by omega)).trans (fr112 z hz)
      have ho119 : oP G u n117 _ a100 ((tellL C i2 (LM27.1, 0))) C T Sn sv rs dt := oP.fr ho113 (by omega) (fun z hz1 hz2 => fr117 z (by omega)) (fr117 a100 (by omega))
      have hs120 := strP.fr hs114 (fr117 (q103) (by omega)) (fr117 (qa103) (by omega))
      refine v_widen (k1 := 1 + i2 * 36 + 16 + 20 + m117 / 16) (k2 := 0 + i2 * 2932 + 2272 + 660 + 2 * m117) (by omega) (by omega) ?_
      refine v_bipush (v := nI 44) dL_told_76 (by decide) ?_
      refine v_appC (st := []) (c := 44) (1 + i2 * 36 + 16 + 20) (0 + i2 * 2932 + 2272 + 660) dL_told_78 hb117 (by omega) wL_77 ⟨Nat.le_of_ble_eq_true rfl, Nat.le_of_ble_eq_true rfl⟩ (Nat.le_of_ble_eq_true rfl) (by omega) (by omega) (by omega) (by omega) (by omega) (fun a121 m121 n121 h121 hn121 hg121 hl121 hs121 hb121 fr121 => ?_)
      obtain ⟨S121, hS121⟩ : ∃ Sx : Ln, Sx = wc S117 44 := ⟨_, rfl⟩
      rw [← hS121] at hb121
      have hk121 : S121.2 = S117.2 + 1 := by rw [hS121]; rfl
      have hm121 := hb121.2
      have fr122 : frP (fun z => z < n ∧ z ≠ u + 248 ∧ z ≠ a) _ _ := fun z (hz : z < n ∧ z ≠ u + 248 ∧ z ≠ a) => (fr121 z (by omega)).trans (fr118 z hz)
      have ho123 : oP G u n121 _ a100 ((tellL C i2 (LM27.1, 0))) C T Sn sv rs dt := oP.fr ho119 (by omega) (fun z hz1 hz2 => fr121 z (by omega)) (fr121 a100 (by omega))
      have hs124 := strP.fr hs120 (fr121 (q103) (by omega)) (fr121 (qa103) (by omega))
      refine v_widen (k1 := 1 + i2 * 36 + 16 + 20 + m121 / 16) (k2 := 0 + i2 * 2932 + 2272 + 660 + 2 * m121) (by omega) (by omega) ?_
      refine v_aload_n dL_told_81 rfl ?_
      refine v_iload_n dL_told_82 rfl ?_
      refine v_bipush (v := nI 7) dL_told_83 (by decide) ?_
      refine v_ask (st := [.ref n]) (v2 := nI (C 6 i2)) dL_told_85 (o_foolOf g ho123) (qFool_at (f := i2) (w := 7) (by omega) (by omega) (by decide)) wL_97 ho123.he rfl rfl ⟨Nat.le_of_ble_eq_true rfl, Nat.le_of_ble_eq_true rfl⟩ (Nat.le_of_ble_eq_true rfl) ⟨by omega, by omega⟩ ?_
      have b125 : C 6 i2 < 2 ^ 28 := C_b g
      have hv126 : C 6 i2 < 2 ^ 28 := by omega
      have hd126 := dg9 hv126
      refine v_appI (st := []) (x := C 6 i2) (1 + i2 * 36 + 16 + 20) (0 + i2 * 2932 + 2272 + 660) dL_told_88 hb121 hv126 wL_84 ⟨Nat.le_of_ble_eq_true rfl, Nat.le_of_ble_eq_true rfl⟩ (Nat.le_of_ble_eq_true rfl) (by omega) (by omega) (by omega) (by omega) (by omega) (fun a127 m127 n127 h127 hn127 hg127 hl127 hs127 hb127 fr127 => ?_)
      obtain ⟨S127, hS127⟩ : ∃ Sx : Ln, Sx = wi S121 (C 6 i2) := ⟨_, rfl⟩
      rw [← hS127] at hb127
      have hk127 : S127.2 = S121.2 + sb_dg (C 6 i2) := by rw [hS127]; rfl
      have hm127 := hb127.2
      have fr128 : frP (fun z => z < n ∧ z ≠ u + 248 ∧ z ≠ a) _ _ := fun z (hz : z < n ∧ z ≠ u + 248 ∧ z ≠ a) => (fr127 z (by omega)).trans (fr122 z hz)
      have ho129 : oP G u n127 _ a100 ((tellL C i2 (LM27.1, 0))) C T Sn sv rs dt := oP.fr ho123 (by omega) (fun z hz1 hz2 => fr127 z (by omega)) (fr127 a100 (by omega))
      have hs130 := strP.fr hs124 (fr127 (q103) (by omega)) (fr127 (qa103) (by omega))
      refine v_widen (k1 := 1 + i2 * 36 + 16 + 20 + m127 / 16) (k2 := 0 + i2 * 2932 + 2272 + 660 + 2 * m127) (by omega) (by omega) ?_
      refine v_bipush (v := nI 59) dL_told_91 (by decide) ?_
      refine v_appC (st := []) (c := 59) (1 + i2 * 36 + 16 + 20) (0 + i2 * 2932 + 2272 + 660) dL_told_93 hb127 (by omega) wL_77 ⟨Nat.le_of_ble_eq_true rfl, Nat.le_of_ble_eq_true rfl⟩ (Nat.le_of_ble_eq_true rfl) (by omega) (by omega) (by omega) (by omega) (by omega) (fun a131 m131 n131 h131 hn131 hg131 hl131 hs131 hb131 fr131 => ?_)
      obtain ⟨S131, hS131⟩ : ∃ Sx : Ln, Sx = wc S127 59 := ⟨_, rfl⟩
      rw [← hS131] at hb131
      have hk131 : S131.2 = S127.2 + 1 := by rw [hS131]; rfl
      have hm131 := hb131.2
      have fr132 : frP (fun z => z < n ∧ z ≠ u + 248 ∧ z ≠ a) _ _ := fun z (hz : z < n ∧ z ≠ u + 248 ∧ z ≠ a) => (fr131 z (by omega)).trans (fr128 z hz)
      have ho133 : oP G u n131 _ a100 ((tellL C i2 (LM27.1, 0))) C T Sn sv rs dt := oP.fr ho129 (by omega) (fun z hz1 hz2 => fr131 z (by omega)) (fr131 a100 (by omega))
      have hs134 := strP.fr hs130 (fr131 (q103) (by omega)) (fr131 (qa103) (by omega))
      refine v_widen (k1 := 1 + i2 * 36 + 16 + 20 + m131 / 16) (k2 := 0 + i2 * 2932 + 2272 + 660 + 2 * m131) (by omega) (by omega) ?_
      refine v_pop dL_told_96 rfl ?_
      refine n_iinc (k := 1) (x := i2) dL_told_97 (by decide) rfl rfl (by decide) ?_
      refine v_ls (ls2 := [some (.ref u), some (.ref n), some (.int (nI (i2 + 1))), none]) rfl ?_
      refine v_goto (tgt := 39) dL_told_100 (by decide) ?_
      have e135 : S131 = tB C (tA C T 13) (i2 + 1) := by rw [tB]; rw [hS131]; rw [hS127]; rw [hS121]; rw [hS117]; rw [hS111]; rw [hS107]; rw [hS27]
      have k135 : S131.2 = S131.2 := rfl
      rw [e135] at hb131
      refine v_widen (k1 := 1 + (i2 + 1) * 36 + m131 / 16) (k2 := 0 + (i2 + 1) * 2932 + 2 * m131) (by omega) (by omega) ?_
      exact ihB (by omega) _ _ _ ⟨_, _, _, hb131, ho133, ⟨by omega, by omega, by omega, by omega, by omega, by omega⟩, by rw [← e135]; omega, fr132⟩
  · refine v_aload_n dL_told_16 rfl ?_
    refine v_aload_n dL_told_17 rfl ?_
    refine v_iload_n dL_told_18 rfl ?_
    refine v_ask (st := [.ref n]) (v2 := nI (acN C T i1)) dL_told_19 (o_account g ho24) (qAcc_at (w := i1) (by omega)) wL_34 ho24.he rfl rfl ⟨Nat.le_of_ble_eq_true rfl, Nat.le_of_ble_eq_true rfl⟩ (Nat.le_of_ble_eq_true rfl) ⟨by omega, by omega⟩ ?_
    have b136 : acN C T i1 < 2 ^ 28 := acN_b (T := T) (w := i1) g hT
    have hv137 : acN C T i1 < 2 ^ 28 := by omega
    have hd137 := dg9 hv137
    refine v_appI (st := []) (x := acN C T i1) (1 + i1 * 0) (0 + i1 * 0) dL_told_22 hb24 hv137 wL_84 ⟨Nat.le_of_ble_eq_true rfl, Nat.le_of_ble_eq_true rfl⟩ (Nat.le_of_ble_eq_true rfl) (by omega) (by omega) (by omega) (by omega) (by omega) (fun a138 m138 n138 h138 hn138 hg138 hl138 hs138 hb138 fr138 => ?_)
    obtain ⟨S138, hS138⟩ : ∃ Sx : Ln, Sx = wi S24 (acN C T i1) := ⟨_, rfl⟩
    rw [← hS138] at hb138
    have hk138 : S138.2 = S24.2 + sb_dg (acN C T i1) := by rw [hS138]; rfl
    have hm138 := hb138.2
    have ho139 : oP G u n138 _ aL24 LM24 C T Sn sv rs dt := oP.fr ho24 (by omega) (fun z hz1 hz2 => fr138 z (by omega)) (fr138 aL24 (by omega))
    have fr140 : frP (fun z => z < n ∧ z ≠ u + 248 ∧ z ≠ a) _ _ := fun z (hz : z < n ∧ z ≠ u + 248 ∧ z ≠ a) => (fr138 z (by omega)).trans (fr24 z hz)
    refine v_widen (k1 := 1 + i1 * 0 + m138 / 16) (k2 := 0 + i1 * 0 + 2 * m138) (by omega) (by omega) ?_
    refine v_bipush (v := nI 44) dL_told_25 (by decide) ?_
    refine v_appC (st := []) (c := 44) (1 + i1 * 0) (0 + i1 * 0) dL_told_27 hb138 (by omega) wL_77 ⟨Nat.le_of_ble_eq_true rfl, Nat.le_of_ble_eq_true rfl⟩ (Nat.le_of_ble_eq_true rfl) (by omega) (by omega) (by omega) (by omega) (by omega) (fun a141 m141 n141 h141 hn141 hg141 hl141 hs141 hb141 fr141 => ?_)
    obtain ⟨S141, hS141⟩ : ∃ Sx : Ln, Sx = wc S138 44 := ⟨_, rfl⟩
    rw [← hS141] at hb141
    have hk141 : S141.2 = S138.2 + 1 := by rw [hS141]; rfl
    have hm141 := hb141.2
    have ho142 : oP G u n141 _ aL24 LM24 C T Sn sv rs dt := oP.fr ho139 (by omega) (fun z hz1 hz2 => fr141 z (by omega)) (fr141 aL24 (by omega))
    have fr143 : frP (fun z => z < n ∧ z ≠ u + 248 ∧ z ≠ a) _ _ := fun z (hz : z < n ∧ z ≠ u + 248 ∧ z ≠ a) => (fr141 z (by omega)).trans (fr140 z hz)
    refine v_widen (k1 := 1 + i1 * 0 + m141 / 16) (k2 := 0 + i1 * 0 + 2 * m141) (by omega) (by omega) ?_
    refine v_pop dL_told_30 rfl ?_
    refine n_iinc (k := 1) (x := i1) dL_told_31 (by decide) rfl rfl (by decide) ?_
    refine v_ls (ls2 := [some (.ref u), some (.ref n), some (.int (nI (i1 + 1))), none]) rfl ?_
    refine v_goto (tgt := 10) dL_told_34 (by decide) ?_
    have e144 : S141 = tA C T (i1 + 1) := by rw [tA]; rw [hS141]; rw [hS138]; rw [hS24]
    have k144 : S141.2 = S141.2 := rfl
    rw [e144] at hb141
    refine v_widen (k1 := 1 + (i1 + 1) * 0 + m141 / 16) (k2 := 0 + (i1 + 1) * 0 + 2 * m141) (by omega) (by omega) ?_
    exact ihA (by omega) _ _ _ ⟨_, _, _, hb141, ho142, ⟨by omega, by omega, by omega, by omega, by omega, by omega⟩, by rw [← e144]; omega, fr143⟩
