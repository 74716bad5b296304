/-- a change: its answer, the court then, what is refused -/
abbrev Rz : Type := Int32 × Ct × Option (Int32 × Int32)
def rf1 : Option (Int32 × Int32) → Int32 → Int32
  | some p, _ => p.1
  | none, d => d
def rf2 : Option (Int32 × Int32) → Int32 → Int32
  | some p, _ => p.2
  | none, d => d
abbrev rfz (C : Ct) (w d : Int32) : Rz := (-1014, C, some (w, d))
abbrev ncz (c : Int32) (C : Ct) : Rz := (c, C, none)
abbrev jc (u sv : Nat) (rs dt : Int32) : va_E := .inr (7, [.ref (u + 1), .ref (u + 21), .ref (u + 41), .ref (u + 61), .ref (u + 81), .ref (u + 243), .ref (u + 248), .int (nI sv), .int rs, .int dt])
def pz (G : vG) (u sv : Nat) (rs dt : Int32) (h : AH) (n : Nat) (R : Rz) : Option Value → Nat → AH → Prop := fun r n2 h2 => r = some (.int R.1) ∧ n2 = n ∧ ct G h2 (u + 1) R.2.1 ∧ h2 u = some (jc u sv (rf1 R.2.2 rs) (rf2 R.2.2 dt)) ∧ frP (fun z => z < u ∨ u + 21 ≤ z) h h2
/-- what holds of every court that a run of calls makes -/
def iv (C : Ct) : Prop := C 0 0 ≤ 6 ∧ C 0 1 ≤ 12 ∧ C 0 2 ≤ 10 ∧ (∀ i, C 1 i ≤ 9) ∧ (∀ i, C 2 i ≤ 99) ∧ (∀ i, C 4 i ≤ 3) ∧ (∀ i, C 7 i ≤ 9) ∧ (∀ i, C 8 i < 6) ∧ (∀ i, C 15 i ≤ 1) ∧ (∀ p, p < C 0 2 → C 11 p < C 0 0 ∧ C 12 p < C 0 1 ∧ C 13 p < 4 ∧ C 14 p ≤ 99) ∧ (∀ j, C 9 j ≤ C 0 3 + 48)
theorem rg_of {x : Int32} {a b : Nat} (h1 : ¬ x < nI a) (h2 : x ≤ nI b) (ha : a < 2 ^ 31) (hb : b < 2 ^ 31) : ∃ k, a ≤ k ∧ k ≤ b ∧ x = nI k := by
  have h3 := (i_leN hb).mp h2
  have h4 : (a : Int) ≤ x.toInt := by
    by_cases q : (a : Int) ≤ x.toInt
    · exact q
    · exact absurd ((i_ltN ha).mpr (by omega)) h1
  obtain ⟨k, hk⟩ := Int.eq_ofNat_of_zero_le (show 0 ≤ x.toInt by omega)
  exact ⟨k, by omega, by omega, (i_eqN (by omega)).mpr hk⟩
theorem nneg_of {x : Int32} (h : ¬ x < 0) : ¬ x < nI 0 := h
theorem fs_lt {p : Nat → Bool} : ∀ {k i r : Nat}, fs p i k = some r → i ≤ r ∧ r < i + k ∧ p r = true
  | 0, i, r, h => by cases h
  | k + 1, i, r, h => by
    rw [fs] at h
    by_cases hp : p i = true
    · rw [if_pos hp] at h
      cases h
      exact ⟨Nat.le_refl _, by omega, hp⟩
    · rw [if_neg hp] at h
      have := fs_lt h
      exact ⟨by omega, by omega, this.2.2⟩
theorem cnt_imp {p q : Nat → Bool} (h : ∀ k, p k = true → q k = true) : ∀ n, cnt p n ≤ cnt q n
  | 0 => Nat.le_refl _
  | n + 1 => by
    have := cnt_imp h n
    rw [cnt, cnt]
    by_cases hp : p n = true
    · rw [if_pos hp, if_pos (h n hp)]; omega
    · rw [if_neg hp]; split <;> omega
abbrev pat (C : Ct) : Nat := cnt (fun z => decide (hold C z)) (C 0 1)
def dFool (C : Ct) (s : Int32) : Rz := if s < nI 1 then ncz (-1012) C else if s ≤ nI 9 then (if C 0 0 < 6 then (nI (C 0 0), cu (cu (cu (cu C 0 4 (C 0 4 + 10)) 1 (C 0 0) s.toNatClampNeg) 2 (C 0 0) 10) 0 0 (C 0 0 + 1), none) else rfz C 1 6) else ncz (-1012) C
def dJoke (C : Ct) (s : Int32) : Rz := if s < nI 1 then ncz (-1012) C else if s ≤ nI 9 then (if C 0 1 < 12 then (nI (C 0 1), cu (cu C 7 (C 0 1) s.toNatClampNeg) 0 1 (C 0 1 + 1), none) else rfz C 1 12) else ncz (-1012) C
def dPatN (C : Ct) (f j k : Nat) : Rz := if hold C j then rfz C 6 (nI (C 8 j)) else if (k + 1) / 2 ≤ C 2 f then (nI (C 0 3 + k), cu (cu (payU C f ((k + 1) / 2)) 8 j f) 9 j (C 0 3 + k), none) else rfz C 7 (nI (C 2 f))
def dPat (C : Ct) (f j x : Int32) : Rz := if ixb f (C 0 0) = true then (if ixb j (C 0 1) = true then (if x < nI 1 then ncz (-1012) C else if x ≤ nI 48 then dPatN C f.toNatClampNeg j.toNatClampNeg x.toNatClampNeg else ncz (-1012) C) else ncz (-1011) C) else ncz (-1011) C
def dInsN (C : Ct) (f : Nat) : Rz := if C 4 f < 3 then (if 2 ≤ C 2 f then (nI (C 4 f + 1), cu (payU C f 2) 4 f (C 4 f + 1), none) else rfz C 7 (nI (C 2 f))) else rfz C 8 3
def dIns (C : Ct) (f : Int32) : Rz := if ixb f (C 0 0) = true then dInsN C f.toNatClampNeg else ncz (-1011) C
def dAudN (C : Ct) (f : Nat) : Rz := if 3 ≤ C 3 f then (if C 2 f = 0 then rfz C 7 0 else (nI (pay C f (C 3 f / 3)), cu (payU C f (C 3 f / 3)) 3 f (C 3 f - 3 * pay C f (C 3 f / 3)), none)) else rfz C 10 (nI (C 3 f))
def dAud (C : Ct) (f : Int32) : Rz := if ixb f (C 0 0) = true then dAudN C f.toNatClampNeg else ncz (-1011) C
def dExeN (C : Ct) (t e : Nat) : Rz := if C 15 t = e then rfz C 9 (nI e) else (nI (sm (va_up (C 15) t e) 4), cu C 15 t e, none)
def dExe (C : Ct) (t x : Int32) : Rz := if ixb t 4 = true then (if x = 0 then dExeN C t.toNatClampNeg 0 else if x = nI 1 then dExeN C t.toNatClampNeg 1 else ncz (-1012) C) else ncz (-1011) C
abbrev bkF (C : Ct) (f k : Nat) : Option Nat := fs (fun p => decide (C 11 p = f ∧ C 14 p = k)) 0 (C 0 2)
abbrev plc (C : Ct) (f j k : Nat) : Nat := (fs (fun p => !decide (bkA C p f j k)) 0 (C 0 2)).getD (C 0 2)
def dBookP (C : Ct) (f j t k : Nat) : Option Nat → Rz
  | some p => rfz C 5 (nI (C 12 p))
  | none => if C 0 2 < 10 then (nI (plc C f j k), insF C (plc C f j k) f j t k, none) else rfz C 1 10
def dBookN (C : Ct) (f j t k : Nat) : Rz := if C 0 3 ≤ k then (if exm C t then rfz C 4 (nI t) else if barr C f j then rfz C 3 (nI (C 8 j)) else dBookP C f j t k (bkF C f k)) else rfz C 2 (nI (C 0 3))
def dBook (C : Ct) (f j t x : Int32) : Rz := if ixb f (C 0 0) = true then (if ixb j (C 0 1) = true then (if ixb t 4 = true then (if x < 0 then ncz (-1012) C else if x ≤ nI 99 then dBookN C f.toNatClampNeg j.toNatClampNeg t.toNatClampNeg x.toNatClampNeg else ncz (-1012) C) else ncz (-1011) C) else ncz (-1011) C) else ncz (-1011) C
def dNext (C : Ct) : Rz := if C 0 2 = 0 then rfz C 11 (nI (C 0 7)) else (nI (crR C), crG C, none)
def dPs (C : Ct) (k : Nat) : Rz := (nI (pat C - pat (cu C 0 3 (C 0 3 + k))), cu C 0 3 (C 0 3 + k), none)
def dPassN (C : Ct) (k : Nat) : Rz := if 0 < C 0 2 then (if C 0 3 + k ≤ C 14 0 then dPs C k else rfz C 5 (nI (C 12 0))) else dPs C k
def dPass (C : Ct) (x : Int32) : Rz := if x < nI 1 then ncz (-1012) C else if x ≤ nI 24 then dPassN C x.toNatClampNeg else ncz (-1012) C
theorem bdk_insF {b c p f j t k : Nat} {C : Ct} (h : bdk b C) (hc : b + 500 ≤ c) (hf : f < b) (hj : j < b) (ht : t < b) (hk : k < b) : bdk c (insF C p f j t k) := by
  have h1 := h 0 2
  have a1 : bdk (b + 100) (cu (shR C p) 11 p f) := bdk_cu (bdk_shR h) (by omega) (by omega)
  have a2 : bdk (b + 200) (cu (cu (shR C p) 11 p f) 12 p j) := bdk_cu a1 (by omega) (by omega)
  have a3 : bdk (b + 300) (cu (cu (cu (shR C p) 11 p f) 12 p j) 13 p t) := bdk_cu a2 (by omega) (by omega)
  have a4 : bdk (b + 400) (cu (cu (cu (cu (shR C p) 11 p f) 12 p j) 13 p t) 14 p k) := bdk_cu a3 (by omega) (by omega)
  exact bdk_cu a4 (by omega) (by omega)
set_option maxRecDepth 20000 in
set_option maxHeartbeats 4000000 in
theorem t_X6_refuse {l : Launch} {G : vG} {h : AH} {n : Nat} {u sv : Nat} {rs dt r1 d1 : Int32} (hj : h u = some (jc u sv rs dt)) : Mt l G mX6_refuse [.ref u, .int r1, .int d1] (n) h 0 0 (fun r n2 h2 => r = some (.int (-1014)) ∧ n2 = n ∧ h2 u = some (jc u sv r1 d1) ∧ offn 1 u h h2) := by
  refine Mt.of (by decide) (Nat.le_of_ble_eq_true rfl) rfl ?_
  refine v_ls (ls2 := [some (.ref u), some (.int r1), some (.int d1)]) rfl ?_
  refine v_aload_n dX6_refuse_0 rfl ?_
  refine v_iload_n dX6_refuse_1 rfl ?_
  refine pX6_50 rfl dX6_refuse_2 hj (Nat.le_of_ble_eq_true rfl) ?_
  refine nw (fun h1 f1 s1 => ?_)
  have fa21 : h1 (u) = some (.inr (7, [.ref (u + 1), .ref (u + 21), .ref (u + 41), .ref (u + 61), .ref (u + 81), .ref (u + 243), .ref (u + 248), .int (nI sv), .int r1, .int dt])) := f1
  have sa21 := s1
  clear f1 s1
  have fr22 := offn_in (k := 1) (q := u) offn_rf sa21 (by omega)
  refine v_aload_n dX6_refuse_5 rfl ?_
  refine v_iload_n dX6_refuse_6 rfl ?_
  refine pX6_54 rfl dX6_refuse_7 fa21 (Nat.le_of_ble_eq_true rfl) ?_
  refine nw (fun h1 f1 s1 => ?_)
  have fa23 : h1 (u) = some (.inr (7, [.ref (u + 1), .ref (u + 21), .ref (u + 41), .ref (u + 61), .ref (u + 81), .ref (u + 243), .ref (u + 248), .int (nI sv), .int r1, .int d1])) := f1
  have sa23 := s1
  clear f1 s1
  have fr24 := offn_in (k := 1) (q := u) fr22 sa23 (by omega)
  refine v_sipush (v := (-1014)) dX6_refuse_10 (by decide) ?_
  refine v_iret dX6_refuse_13 rfl ?_ (Nat.le_of_ble_eq_true rfl) (Nat.le_of_ble_eq_true rfl)
  exact ⟨rfl, rfl, fa23, fr24⟩
set_option maxRecDepth 20000 in
set_option maxHeartbeats 4000000 in
theorem t_X6_admit {l : Launch} {G : vG} {h : AH} {n : Nat} {s : Int32} {u sv b : Nat} {rs dt : Int32} {C : Ct} (hj : h u = some (jc u sv rs dt)) (hc : ct G h (u + 1) C) (hK : bdk b C) (hb1 : 200 ≤ b) (hb2 : b + 5000 ≤ 2 ^ 28) (hi : iv C) : Mt l G mX6_admit [.ref u, .int s] (n) h 0 0 (pz G u sv rs dt h n (dFool C s)) := by
  refine Mt.of (by decide) (Nat.le_of_ble_eq_true rfl) rfl ?_
  refine v_ls (ls2 := [some (.ref u), some (.int s)]) rfl ?_
  have hB := hK.bd (by omega)
  obtain ⟨hF, hJ, hn, hs1, hc99, hs4, hs7, hs8, hs15, hbk9, hs9⟩ := hi
  have b00 := hB 0 0
  have b01 := hB 0 1
  have b02 := hB 0 2
  refine v_iload_n dX6_admit_0 rfl ?_
  refine v_iconst (v := nI 1) dX6_admit_1 (by decide) ?_
  refine v_icmp_lt (tgt := 11) dX6_admit_2 (by decide) (fun c21 => ?_) (fun c21 => ?_)
  · refine v_sipush (v := (-1012)) dX6_admit_11 (by decide) ?_
    refine v_iret dX6_admit_14 rfl ?_ (Nat.le_of_ble_eq_true rfl) (Nat.le_of_ble_eq_true rfl)
    have e9 : dFool C s = (((-1012) : Int32), (C : Ct), (none : Option (Int32 × Int32))) := by unfold dFool; all_goals (repeat (first | rw [if_pos (by first | assumption | omega | rfl | trivial)] | rw [if_neg (by first | assumption | omega)])); all_goals rfl
    show pz G u sv rs dt _ _ _ _ _ _
    rw [e9]
    exact ⟨rfl, rfl, hc, hj, frP_rf⟩
  · refine v_iload_n dX6_admit_5 rfl ?_
    refine v_bipush (v := nI 9) dX6_admit_6 (by decide) ?_
    refine v_icmp_le (tgt := 15) dX6_admit_8 (by decide) (fun c22 => ?_) (fun c22 => ?_)
    · obtain ⟨k, hk1, hk2, rfl⟩ := rg_of (a := 1) (b := 9) c21 c22 (by decide) (by decide)
      have ek : (nI k).toNatClampNeg = k := nI_clamp (by omega)
      refine v_aload_n dX6_admit_15 rfl ?_
      refine fX6_10 (v := .ref (u + 1)) rfl dX6_admit_16 hj rfl ?_
      refine fX6_81 (v := .ref (u + 1 + 1)) rfl dX6_admit_19 (ck0 hc) rfl ?_
      refine fX6_257 (v := .int (nI (C 0 0))) rfl dX6_admit_22 (ck1 hc) rfl ?_
      have b23 := hK 0 0
      refine v_bipush (v := nI 6) dX6_admit_25 (by decide) ?_
      refine n_icmp_lt (tgt := 38) (x := C 0 0) (y := 6) dX6_admit_27 (by decide) (by omega) (by omega) (fun c24 => ?_) (fun c24 => ?_)
      · refine v_aload_n dX6_admit_38 rfl ?_
        refine fX6_10 (v := .ref (u + 1)) rfl dX6_admit_39 hj rfl ?_
        refine v_dup dX6_admit_42 rfl ?_
        refine fX6_259 (v := .int (nI (C 0 4))) rfl dX6_admit_43 (ck0 hc) rfl ?_
        have b25 := hK 0 4
        refine v_bipush (v := nI 10) dX6_admit_46 (by decide) ?_
        refine n_iadd (x := C 0 4) (y := 10) dX6_admit_48 ?_
        refine pX6_259 rfl dX6_admit_49 (ck0 hc) (Nat.le_of_ble_eq_true rfl) ?_
        refine wr (cs4 (x := C 0 4 + 10) hc) off_rf (by omega) (fun h1 hc1 ho1 => ?_)
        have hc26 := hc1
        have sa26 := ho1
        clear hc1 ho1
        have hK26 : bdk (b + 100) (cu C 0 4 (C 0 4 + 10)) := bdk_cu hK (by omega) (by omega)
        have hD26 := hK26.bd (by omega)
        have fa27 := (sa26 (u) (by omega)).trans hj
        have fr28 := frP_tr (P := fun z => z < u ∨ u + 21 ≤ z) frP_rf sa26 (fun z (hz : z < u ∨ u + 21 ≤ z) => by omega)
        refine v_aload_n dX6_admit_52 rfl ?_
        refine fX6_10 (v := .ref (u + 1)) rfl dX6_admit_53 fa27 rfl ?_
        refine fX6_81 (v := .ref (u + 1 + 1)) rfl dX6_admit_56 (ck0 (C := cu C 0 4 (C 0 4 + 10)) hc26) rfl ?_
        refine v_iload_n dX6_admit_59 rfl ?_
        refine v_callV (st := []) dX6_admit_60 (t_X2_add (x := k) hc26 hK26 (by omega) (by first | assumption | omega) (by omega)) wX6_290 (ck1 (C := cu C 0 4 (C 0 4 + 10)) hc26) rfl rfl ⟨Nat.le_of_ble_eq_true rfl, Nat.le_of_ble_eq_true rfl⟩ (Nat.le_of_ble_eq_true rfl) ⟨Nat.le_refl _, Nat.le_refl _⟩ (fun r n2 h2 hq => ?_)
        obtain ⟨rfl, rfl, hc9, ho9⟩ := hq
        refine v_st (st2 := [.int (nI ((cu C 0 4 (C 0 4 + 10)) 0 0))]) rfl ?_
        obtain ⟨C29, hC29⟩ : ∃ C9 : Ct, C9 = cu (cu (cu (cu C 0 4 (C 0 4 + 10)) 1 ((cu C 0 4 (C 0 4 + 10)) 0 0) k) 2 ((cu C 0 4 (C 0 4 + 10)) 0 0) 10) 0 0 ((cu C 0 4 (C 0 4 + 10)) 0 0 + 1) := ⟨_, rfl⟩
        rw [← hC29] at hc9
        have hc29 := hc9
        have sa29 := ho9
        clear hc9 ho9
        have hK29 : bdk (b + 500) C29 := by rw [hC29]; exact bdk_cu (b := b + 400) (bdk_cu (b := b + 300) (c := b + 400) (bdk_cu (c := b + 300) hK26 (by omega) (by omega)) (by omega) (by omega)) (by omega) (by have := hK26 0 0; omega)
        have hD29 := hK29.bd (by omega)
        have fa30 := (sa29 (u) (by omega)).trans fa27
        have fr31 := frP_tr (P := fun z => z < u ∨ u + 21 ≤ z) fr28 sa29 (fun z (hz : z < u ∨ u + 21 ≤ z) => by omega)
        refine v_iret dX6_admit_63 rfl ?_ (Nat.le_of_ble_eq_true rfl) (Nat.le_of_ble_eq_true rfl)
        have e9 : dFool C (nI k) = ((nI ((cu C 0 4 (C 0 4 + 10)) 0 0) : Int32), (C29 : Ct), (none : Option (Int32 × Int32))) := by rw [hC29]; unfold dFool; all_goals (repeat (first | rw [if_pos (by first | assumption | omega | rfl | trivial)] | rw [if_neg (by first | assumption | omega)])); all_goals (try simp only [ek]); all_goals rfl
        show pz G u sv rs dt _ _ _ _ _ _
        rw [e9]
        exact ⟨rfl, rfl, hc29, fa30, fr31⟩
      · refine v_aload_n dX6_admit_30 rfl ?_
        refine v_iconst (v := nI 1) dX6_admit_31 (by decide) ?_
        refine v_bipush (v := nI 6) dX6_admit_32 (by decide) ?_
        refine v_callV (st := []) dX6_admit_34 (t_X6_refuse (r1 := nI 1) (d1 := nI 6) hj) wX6_243 hj rfl rfl ⟨Nat.le_of_ble_eq_true rfl, Nat.le_of_ble_eq_true rfl⟩ (Nat.le_of_ble_eq_true rfl) ⟨Nat.le_refl _, Nat.le_refl _⟩ (fun r n2 h2 hq => ?_)
        obtain ⟨rfl, rfl, fa32, sa33⟩ := hq
        refine v_st (st2 := [.int ((-1014))]) rfl ?_
        have hc34 := ct_offn hc sa33 (by omega)
        have fr35 := frP_tr (P := fun z => z < u ∨ u + 21 ≤ z) frP_rf sa33 (fun z (hz : z < u ∨ u + 21 ≤ z) => by omega)
        refine v_iret dX6_admit_37 rfl ?_ (Nat.le_of_ble_eq_true rfl) (Nat.le_of_ble_eq_true rfl)
        have e9 : dFool C (nI k) = (((-1014) : Int32), (C : Ct), (some (nI 1, nI 6) : Option (Int32 × Int32))) := by unfold dFool; all_goals (repeat (first | rw [if_pos (by first | assumption | omega | rfl | trivial)] | rw [if_neg (by first | assumption | omega)])); all_goals (try simp only [ek]); all_goals rfl
        show pz G u sv rs dt _ _ _ _ _ _
        rw [e9]
        exact ⟨rfl, rfl, hc34, fa32, fr35⟩
    · refine v_sipush (v := (-1012)) dX6_admit_11 (by decide) ?_
      refine v_iret dX6_admit_14 rfl ?_ (Nat.le_of_ble_eq_true rfl) (Nat.le_of_ble_eq_true rfl)
      have e9 : dFool C s = (((-1012) : Int32), (C : Ct), (none : Option (Int32 × Int32))) := by unfold dFool; all_goals (repeat (first | rw [if_pos (by first | assumption | omega | rfl | trivial)] | rw [if_neg (by first | assumption | omega)])); all_goals rfl
      show pz G u sv rs dt _ _ _ _ _ _
      rw [e9]
      exact ⟨rfl, rfl, hc, hj, frP_rf⟩
set_option maxRecDepth 20000 in
set_option maxHeartbeats 4000000 in
theorem t_X6_invent {l : Launch} {G : vG} {h : AH} {n : Nat} {s : Int32} {u sv b : Nat} {rs dt : Int32} {C : Ct} (hj : h u = some (jc u sv rs dt)) (hc : ct G h (u + 1) C) (hK : bdk b C) (hb1 : 200 ≤ b) (hb2 : b + 5000 ≤ 2 ^ 28) (hi : iv C) : Mt l G mX6_invent [.ref u, .int s] (n) h 0 0 (pz G u sv rs dt h n (dJoke C s)) := by
  refine Mt.of (by decide) (Nat.le_of_ble_eq_true rfl) rfl ?_
  refine v_ls (ls2 := [some (.ref u), some (.int s)]) rfl ?_
  have hB := hK.bd (by omega)
  obtain ⟨hF, hJ, hn, hs1, hc99, hs4, hs7, hs8, hs15, hbk9, hs9⟩ := hi
  have b00 := hB 0 0
  have b01 := hB 0 1
  have b02 := hB 0 2
  refine v_iload_n dX6_invent_0 rfl ?_
  refine v_iconst (v := nI 1) dX6_invent_1 (by decide) ?_
  refine v_icmp_lt (tgt := 11) dX6_invent_2 (by decide) (fun c21 => ?_) (fun c21 => ?_)
  · refine v_sipush (v := (-1012)) dX6_invent_11 (by decide) ?_
    refine v_iret dX6_invent_14 rfl ?_ (Nat.le_of_ble_eq_true rfl) (Nat.le_of_ble_eq_true rfl)
    have e9 : dJoke C s = (((-1012) : Int32), (C : Ct), (none : Option (Int32 × Int32))) := by unfold dJoke; all_goals (repeat (first | rw [if_pos (by first | assumption | omega | rfl | trivial)] | rw [if_neg (by first | assumption | omega)])); all_goals rfl
    show pz G u sv rs dt _ _ _ _ _ _
    rw [e9]
    exact ⟨rfl, rfl, hc, hj, frP_rf⟩
  · refine v_iload_n dX6_invent_5 rfl ?_
    refine v_bipush (v := nI 9) dX6_invent_6 (by decide) ?_
    refine v_icmp_le (tgt := 15) dX6_invent_8 (by decide) (fun c22 => ?_) (fun c22 => ?_)
    · obtain ⟨k, hk1, hk2, rfl⟩ := rg_of (a := 1) (b := 9) c21 c22 (by decide) (by decide)
      have ek : (nI k).toNatClampNeg = k := nI_clamp (by omega)
      refine v_aload_n dX6_invent_15 rfl ?_
      refine fX6_10 (v := .ref (u + 1)) rfl dX6_invent_16 hj rfl ?_
      refine fX6_126 (v := .ref (u + 1 + 8)) rfl dX6_invent_19 (ck0 hc) rfl ?_
      refine fX6_258 (v := .int (nI (C 0 1))) rfl dX6_invent_22 (ck8 hc) rfl ?_
      have b23 := hK 0 1
      refine v_bipush (v := nI 12) dX6_invent_25 (by decide) ?_
      refine n_icmp_lt (tgt := 38) (x := C 0 1) (y := 12) dX6_invent_27 (by decide) (by omega) (by omega) (fun c24 => ?_) (fun c24 => ?_)
      · refine v_aload_n dX6_invent_38 rfl ?_
        refine fX6_10 (v := .ref (u + 1)) rfl dX6_invent_39 hj rfl ?_
        refine fX6_126 (v := .ref (u + 1 + 8)) rfl dX6_invent_42 (ck0 hc) rfl ?_
        refine v_iload_n dX6_invent_45 rfl ?_
        refine v_callV (st := []) dX6_invent_46 (t_X4_add (x := k) hc hK (by omega) (by first | assumption | omega) (by omega)) wX6_293 (ck8 hc) rfl rfl ⟨Nat.le_of_ble_eq_true rfl, Nat.le_of_ble_eq_true rfl⟩ (Nat.le_of_ble_eq_true rfl) ⟨Nat.le_refl _, Nat.le_refl _⟩ (fun r n2 h2 hq => ?_)
        obtain ⟨rfl, rfl, hc9, ho9⟩ := hq
        refine v_st (st2 := [.int (nI (C 0 1))]) rfl ?_
        obtain ⟨C25, hC25⟩ : ∃ C9 : Ct, C9 = cu (cu C 7 (C 0 1) k) 0 1 (C 0 1 + 1) := ⟨_, rfl⟩
        rw [← hC25] at hc9
        have hc25 := hc9
        have sa25 := ho9
        clear hc9 ho9
        have hK25 : bdk (b + 400) C25 := by rw [hC25]; exact bdk_cu (b := b + 300) (bdk_cu (c := b + 300) hK (by omega) (by omega)) (by omega) (by have := hK 0 1; omega)
        have hD25 := hK25.bd (by omega)
        have fa26 := (sa25 (u) (by omega)).trans hj
        have fr27 := frP_tr (P := fun z => z < u ∨ u + 21 ≤ z) frP_rf sa25 (fun z (hz : z < u ∨ u + 21 ≤ z) => by omega)
        refine v_iret dX6_invent_49 rfl ?_ (Nat.le_of_ble_eq_true rfl) (Nat.le_of_ble_eq_true rfl)
        have e9 : dJoke C (nI k) = ((nI (C 0 1) : Int32), (C25 : Ct), (none : Option (Int32 × Int32))) := by rw [hC25]; unfold dJoke; all_goals (repeat (first | rw [if_pos (by first | assumption | omega | rfl | trivial)] | rw [if_neg (by first | assumption | omega)])); all_goals (try simp only [ek]); all_goals rfl
        show pz G u sv rs dt _ _ _ _ _ _
        rw [e9]
        exact ⟨rfl, rfl, hc25, fa26, fr27⟩
      · refine v_aload_n dX6_invent_30 rfl ?_
        refine v_iconst (v := nI 1) dX6_invent_31 (by decide) ?_
        refine v_bipush (v := nI 12) dX6_invent_32 (by decide) ?_
        refine v_callV (st := []) dX6_invent_34 (t_X6_refuse (r1 := nI 1) (d1 := nI 12) hj) wX6_243 hj rfl rfl ⟨Nat.le_of_ble_eq_true rfl, Nat.le_of_ble_eq_true rfl⟩ (Nat.le_of_ble_eq_true rfl) ⟨Nat.le_refl _, Nat.le_refl _⟩ (fun r n2 h2 hq => ?_)
        obtain ⟨rfl, rfl, fa28, sa29⟩ := hq
        refine v_st (st2 := [.int ((-1014))]) rfl ?_
        have hc30 := ct_offn hc sa29 (by omega)
        have fr31 := frP_tr (P := fun z => z < u ∨ u + 21 ≤ z) frP_rf sa29 (fun z (hz : z < u ∨ u + 21 ≤ z) => by omega)
        refine v_iret dX6_invent_37 rfl ?_ (Nat.le_of_ble_eq_true rfl) (Nat.le_of_ble_eq_true rfl)
        have e9 : dJoke C (nI k) = (((-1014) : Int32), (C : Ct), (some (nI 1, nI 12) : Option (Int32 × Int32))) := by unfold dJoke; all_goals (repeat (first | rw [if_pos (by first | assumption | omega | rfl | trivial)] | rw [if_neg (by first | assumption | omega)])); all_goals (try simp only [ek]); all_goals rfl
        show pz G u sv rs dt _ _ _ _ _ _
        rw [e9]
        exact ⟨rfl, rfl, hc30, fa28, fr31⟩
    · refine v_sipush (v := (-1012)) dX6_invent_11 (by decide) ?_
      refine v_iret dX6_invent_14 rfl ?_ (Nat.le_of_ble_eq_true rfl) (Nat.le_of_ble_eq_true rfl)
      have e9 : dJoke C s = (((-1012) : Int32), (C : Ct), (none : Option (Int32 × Int32))) := by unfold dJoke; all_goals (repeat (first | rw [if_pos (by first | assumption | omega | rfl | trivial)] | rw [if_neg (by first | assumption | omega)])); all_goals rfl
      show pz G u sv rs dt _ _ _ _ _ _
      rw [e9]
      exact ⟨rfl, rfl, hc, hj, frP_rf⟩
set_option maxRecDepth 20000 in
set_option maxHeartbeats 4000000 in
theorem t_X6_grant {l : Launch} {G : vG} {h : AH} {n : Nat} {f j x : Int32} {u sv b : Nat} {rs dt : Int32} {C : Ct} (hj : h u = some (jc u sv rs dt)) (hc : ct G h (u + 1) C) (hK : bdk b C) (hb1 : 200 ≤ b) (hb2 : b + 5000 ≤ 2 ^ 28) (hi : iv C) : Mt l G mX6_grant [.ref u, .int f, .int j, .int x] (n) h 0 0 (pz G u sv rs dt h n (dPat C f j x)) := by
  refine Mt.of (by decide) (Nat.le_of_ble_eq_true rfl) rfl ?_
  refine v_ls (ls2 := [some (.ref u), some (.int f), some (.int j), some (.int x), none]) rfl ?_
  have hB := hK.bd (by omega)
  obtain ⟨hF, hJ, hn, hs1, hc99, hs4, hs7, hs8, hs15, hbk9, hs9⟩ := hi
  have b00 := hB 0 0
  have b01 := hB 0 1
  have b02 := hB 0 2
  refine v_aload_n dX6_grant_0 rfl ?_
  refine fX6_10 (v := .ref (u + 1)) rfl dX6_grant_1 hj rfl ?_
  refine fX6_81 (v := .ref (u + 1 + 1)) rfl dX6_grant_4 (ck0 hc) rfl ?_
  refine v_iload_n dX6_grant_7 rfl ?_
  refine v_callV (st := []) dX6_grant_8 (t_X2_has (x := f) hc hB) wX6_85 (ck1 hc) rfl rfl ⟨Nat.le_of_ble_eq_true rfl, Nat.le_of_ble_eq_true rfl⟩ (Nat.le_of_ble_eq_true rfl) ⟨Nat.le_refl _, Nat.le_refl _⟩ (fun r n2 h2 hq => ?_)
  obtain ⟨rfl, rfl, rfl⟩ := hq
  refine v_st (st2 := [.int (nI (bI (ixb f (C 0 0) = true)))]) rfl ?_
  refine n_ifb_eq (tgt := 28) (p := ixb f (C 0 0) = true) dX6_grant_11 (by decide) (fun c21 => ?_) (fun c21 => ?_)
  · refine v_sipush (v := (-1011)) dX6_grant_28 (by decide) ?_
    refine v_iret dX6_grant_31 rfl ?_ (Nat.le_of_ble_eq_true rfl) (Nat.le_of_ble_eq_true rfl)
    have e9 : dPat C f j x = (((-1011) : Int32), (C : Ct), (none : Option (Int32 × Int32))) := by unfold dPat; all_goals (repeat (first | rw [if_pos (by first | assumption | omega | rfl | trivial)] | rw [if_neg (by first | assumption | omega)])); all_goals (try unfold dPatN); all_goals (repeat (first | rw [if_pos (by first | assumption | omega | rfl | trivial)] | rw [if_neg (by first | assumption | omega)])); all_goals rfl
    show pz G u sv rs dt _ _ _ _ _ _
    rw [e9]
    exact ⟨rfl, rfl, hc, hj, frP_rf⟩
  · obtain ⟨F, hF1, rfl⟩ := ix_of c21 (by omega)
    have eF : (nI F).toNatClampNeg = F := nI_clamp (by omega)
    refine v_aload_n dX6_grant_14 rfl ?_
    refine fX6_10 (v := .ref (u + 1)) rfl dX6_grant_15 hj rfl ?_
    refine fX6_126 (v := .ref (u + 1 + 8)) rfl dX6_grant_18 (ck0 hc) rfl ?_
    refine v_iload_n dX6_grant_21 rfl ?_
    refine v_callV (st := []) dX6_grant_22 (t_X4_has (x := j) hc hB) wX6_130 (ck8 hc) rfl rfl ⟨Nat.le_of_ble_eq_true rfl, Nat.le_of_ble_eq_true rfl⟩ (Nat.le_of_ble_eq_true rfl) ⟨Nat.le_refl _, Nat.le_refl _⟩ (fun r n2 h2 hq => ?_)
    obtain ⟨rfl, rfl, rfl⟩ := hq
    refine v_st (st2 := [.int (nI (bI (ixb j (C 0 1) = true)))]) rfl ?_
    refine n_ifb_ne (tgt := 32) (p := ixb j (C 0 1) = true) dX6_grant_25 (by decide) (fun c22 => ?_) (fun c22 => ?_)
    · obtain ⟨J, hJ1, rfl⟩ := ix_of c22 (by omega)
      have eJ : (nI J).toNatClampNeg = J := nI_clamp (by omega)
      refine v_iload_n dX6_grant_32 rfl ?_
      refine v_iconst (v := nI 1) dX6_grant_33 (by decide) ?_
      refine v_icmp_lt (tgt := 43) dX6_grant_34 (by decide) (fun c23 => ?_) (fun c23 => ?_)
      · refine v_sipush (v := (-1012)) dX6_grant_43 (by decide) ?_
        refine v_iret dX6_grant_46 rfl ?_ (Nat.le_of_ble_eq_true rfl) (Nat.le_of_ble_eq_true rfl)
        have e9 : dPat C (nI F) (nI J) x = (((-1012) : Int32), (C : Ct), (none : Option (Int32 × Int32))) := by unfold dPat; all_goals (repeat (first | rw [if_pos (by first | assumption | omega | rfl | trivial)] | rw [if_neg (by first | assumption | omega)])); all_goals (try simp only [eF, eJ]); all_goals (try unfold dPatN); all_goals (repeat (first | rw [if_pos (by first | assumption | omega | rfl | trivial)] | rw [if_neg (by first | assumption | omega)])); all_goals rfl
        show pz G u sv rs dt _ _ _ _ _ _
        rw [e9]
        exact ⟨rfl, rfl, hc, hj, frP_rf⟩
      · refine v_iload_n dX6_grant_37 rfl ?_
        refine v_bipush (v := nI 48) dX6_grant_38 (by decide) ?_
        refine v_icmp_le (tgt := 47) dX6_grant_40 (by decide) (fun c24 => ?_) (fun c24 => ?_)
        · obtain ⟨k, hk1, hk2, rfl⟩ := rg_of (a := 1) (b := 48) c23 c24 (by decide) (by decide)
          have ek : (nI k).toNatClampNeg = k := nI_clamp (by omega)
          refine v_aload_n dX6_grant_47 rfl ?_
          refine fX6_10 (v := .ref (u + 1)) rfl dX6_grant_48 hj rfl ?_
          refine v_iload_n dX6_grant_51 rfl ?_
          refine v_callV (st := []) dX6_grant_52 (t_X1_holds (j := J) hc hB (by omega)) wX6_136 (ck0 hc) rfl rfl ⟨Nat.le_of_ble_eq_true rfl, Nat.le_of_ble_eq_true rfl⟩ (Nat.le_of_ble_eq_true rfl) ⟨Nat.le_refl _, Nat.le_refl _⟩ (fun r n2 h2 hq => ?_)
          obtain ⟨rfl, rfl, rfl⟩ := hq
          refine v_st (st2 := [.int (nI (bI (hold C J)))]) rfl ?_
          refine n_ifb_eq (tgt := 77) (p := hold C J) dX6_grant_55 (by decide) (fun c25 => ?_) (fun c25 => ?_)
          · refine v_iload_n dX6_grant_77 rfl ?_
            refine v_iconst (v := nI 1) dX6_grant_78 (by decide) ?_
            refine n_iadd (x := k) (y := 1) dX6_grant_79 ?_
            refine v_iconst (v := nI 2) dX6_grant_80 (by decide) ?_
            refine n_idiv (x := k + 1) (y := 2) dX6_grant_81 (by omega) (by omega) (by omega) ?_
            refine v_istore dX6_grant_82 rfl (by decide) ?_
            refine v_ls (ls2 := [some (.ref u), some (.int (nI F)), some (.int (nI J)), some (.int (nI k)), some (.int (nI ((k + 1) / 2)))]) rfl ?_
            refine v_aload_n dX6_grant_84 rfl ?_
            refine fX6_10 (v := .ref (u + 1)) rfl dX6_grant_85 hj rfl ?_
            refine fX6_81 (v := .ref (u + 1 + 1)) rfl dX6_grant_88 (ck0 hc) rfl ?_
            refine fX6_95 (v := .ref (u + 1 + 3)) rfl dX6_grant_91 (ck1 hc) rfl ?_
            refine v_iload_n dX6_grant_94 rfl ?_
            refine n_ialdv (f := C 2) (j := F) (y := C 2 F) dX6_grant_95 (ck3 hc) (by omega) (by decide) rfl ?_
            have b26 := hK 2 F
            refine v_iload dX6_grant_96 rfl ?_
            refine n_icmp_ge (tgt := 120) (x := C 2 F) (y := (k + 1) / 2) dX6_grant_98 (by decide) (by omega) (by omega) (fun c27 => ?_) (fun c27 => ?_)
            · refine v_aload_n dX6_grant_120 rfl ?_
              refine fX6_10 (v := .ref (u + 1)) rfl dX6_grant_121 hj rfl ?_
              refine v_iload_n dX6_grant_124 rfl ?_
              refine v_iload dX6_grant_125 rfl ?_
              refine v_callV (st := []) dX6_grant_127 (t_X1_payUnion (f := F) (k := (k + 1) / 2) hc hK (by omega) (by omega) (by omega) (by omega)) wX6_294 (ck0 hc) rfl rfl ⟨Nat.le_of_ble_eq_true rfl, Nat.le_of_ble_eq_true rfl⟩ (Nat.le_of_ble_eq_true rfl) ⟨Nat.le_refl _, Nat.le_refl _⟩ (fun r n2 h2 hq => ?_)
              obtain ⟨rfl, rfl, hc9, ho9⟩ := hq
              refine v_st (st2 := [.int (nI (pay C F ((k + 1) / 2)))]) rfl ?_
              obtain ⟨C28, hC28⟩ : ∃ C9 : Ct, C9 = payU C F ((k + 1) / 2) := ⟨_, rfl⟩
              rw [← hC28] at hc9
              have hc28 := hc9
              have sa28 := ho9
              clear hc9 ho9
              have hK28 : bdk (b + 100) C28 := by rw [hC28]; exact bdk_payU hK (by omega) (by omega)
              have hD28 := hK28.bd (by omega)
              have fa29 := (sa28 (u) (by omega)).trans hj
              have fr30 := frP_tr (P := fun z => z < u ∨ u + 21 ≤ z) frP_rf sa28 (fun z (hz : z < u ∨ u + 21 ≤ z) => by omega)
              refine v_pop dX6_grant_130 rfl ?_
              refine v_aload_n dX6_grant_131 rfl ?_
              refine fX6_10 (v := .ref (u + 1)) rfl dX6_grant_132 fa29 rfl ?_
              refine fX6_126 (v := .ref (u + 1 + 8)) rfl dX6_grant_135 (ck0 hc28) rfl ?_
              refine fX6_139 (v := .ref (u + 1 + 10)) rfl dX6_grant_138 (ck8 hc28) rfl ?_
              refine v_iload_n dX6_grant_141 rfl ?_
              refine v_iload_n dX6_grant_142 rfl ?_
              refine n_iast (f := C28 8) (j := J) (x := F) dX6_grant_143 (ck10 hc28) (by omega) (by decide) ?_
              refine wr (cp8 (j := J) (x := F) hc28) off_rf (by omega) (fun h1 hc1 ho1 => ?_)
              have hc31 := hc1
              have sa31 := ho1
              clear hc1 ho1
              have hK31 : bdk (b + 200) (cu C28 8 J F) := bdk_cu hK28 (by omega) (by omega)
              have hD31 := hK31.bd (by omega)
              have fa32 := (sa31 (u) (by omega)).trans fa29
              have fr33 := frP_tr (P := fun z => z < u ∨ u + 21 ≤ z) fr30 sa31 (fun z (hz : z < u ∨ u + 21 ≤ z) => by omega)
              refine v_aload_n dX6_grant_144 rfl ?_
              refine fX6_10 (v := .ref (u + 1)) rfl dX6_grant_145 fa32 rfl ?_
              refine fX6_126 (v := .ref (u + 1 + 8)) rfl dX6_grant_148 (ck0 (C := cu C28 8 J F) hc31) rfl ?_
              refine fX6_142 (v := .ref (u + 1 + 11)) rfl dX6_grant_151 (ck8 (C := cu C28 8 J F) hc31) rfl ?_
              refine v_iload_n dX6_grant_154 rfl ?_
              refine v_aload_n dX6_grant_155 rfl ?_
              refine fX6_10 (v := .ref (u + 1)) rfl dX6_grant_156 fa32 rfl ?_
              refine fX6_145 (v := .int (nI (C28 0 3))) rfl dX6_grant_159 (ck0 (C := cu C28 8 J F) hc31) rfl ?_
              have b34 := hK28 0 3
              refine v_iload_n dX6_grant_162 rfl ?_
              refine n_iadd (x := C28 0 3) (y := k) dX6_grant_163 ?_
              refine n_iast (f := C28 9) (j := J) (x := C28 0 3 + k) dX6_grant_164 (ck11 (C := cu C28 8 J F) hc31) (by omega) (by decide) ?_
              refine wr (cp9 (j := J) (x := C28 0 3 + k) (C := cu C28 8 J F) hc31) off_rf (by omega) (fun h1 hc1 ho1 => ?_)
              have hc35 := hc1
              have sa35 := ho1
              clear hc1 ho1
              have hK35 : bdk (b + 300) (cu (cu C28 8 J F) 9 J (C28 0 3 + k)) := bdk_cu hK31 (by omega) (by omega)
              have hD35 := hK35.bd (by omega)
              have fa36 := (sa35 (u) (by omega)).trans fa32
              have fr37 := frP_tr (P := fun z => z < u ∨ u + 21 ≤ z) fr33 sa35 (fun z (hz : z < u ∨ u + 21 ≤ z) => by omega)
              refine v_aload_n dX6_grant_165 rfl ?_
              refine fX6_10 (v := .ref (u + 1)) rfl dX6_grant_166 fa36 rfl ?_
              refine fX6_126 (v := .ref (u + 1 + 8)) rfl dX6_grant_169 (ck0 (C := cu (cu C28 8 J F) 9 J (C28 0 3 + k)) hc35) rfl ?_
              refine fX6_142 (v := .ref (u + 1 + 11)) rfl dX6_grant_172 (ck8 (C := cu (cu C28 8 J F) 9 J (C28 0 3 + k)) hc35) rfl ?_
              refine v_iload_n dX6_grant_175 rfl ?_
              refine n_ialdv (f := va_up (C28 9) J (C28 0 3 + k)) (j := J) (y := C28 0 3 + k) dX6_grant_176 (ck11 (C := cu (cu C28 8 J F) 9 J (C28 0 3 + k)) hc35) (by omega) (by decide) nI_up ?_
              refine v_iret dX6_grant_177 rfl ?_ (Nat.le_of_ble_eq_true rfl) (Nat.le_of_ble_eq_true rfl)
              have e9 : dPat C (nI F) (nI J) (nI k) = ((nI (C28 0 3 + k) : Int32), (cu (cu C28 8 J F) 9 J (C28 0 3 + k) : Ct), (none : Option (Int32 × Int32))) := by rw [hC28]; unfold dPat; all_goals (repeat (first | rw [if_pos (by first | assumption | omega | rfl | trivial)] | rw [if_neg (by first | assumption | omega)])); all_goals (try simp only [eF, eJ, ek]); all_goals (try unfold dPatN); all_goals (repeat (first | rw [if_pos (by first | assumption | omega | rfl | trivial)] | rw [if_neg (by first | assumption | omega)])); all_goals rfl
              show pz G u sv rs dt _ _ _ _ _ _
              rw [e9]
              exact ⟨rfl, rfl, hc35, fa36, fr37⟩
            · refine v_aload_n dX6_grant_101 rfl ?_
              refine v_bipush (v := nI 7) dX6_grant_102 (by decide) ?_
              refine v_aload_n dX6_grant_104 rfl ?_
              refine fX6_10 (v := .ref (u + 1)) rfl dX6_grant_105 hj rfl ?_
              refine fX6_81 (v := .ref (u + 1 + 1)) rfl dX6_grant_108 (ck0 hc) rfl ?_
              refine fX6_95 (v := .ref (u + 1 + 3)) rfl dX6_grant_111 (ck1 hc) rfl ?_
              refine v_iload_n dX6_grant_114 rfl ?_
              refine n_ialdv (f := C 2) (j := F) (y := C 2 F) dX6_grant_115 (ck3 hc) (by omega) (by decide) rfl ?_
              refine v_callV (st := []) dX6_grant_116 (t_X6_refuse (r1 := nI 7) (d1 := nI (C 2 F)) hj) wX6_243 hj rfl rfl ⟨Nat.le_of_ble_eq_true rfl, Nat.le_of_ble_eq_true rfl⟩ (Nat.le_of_ble_eq_true rfl) ⟨Nat.le_refl _, Nat.le_refl _⟩ (fun r n2 h2 hq => ?_)
              obtain ⟨rfl, rfl, fa38, sa39⟩ := hq
              refine v_st (st2 := [.int ((-1014))]) rfl ?_
              have hc40 := ct_offn hc sa39 (by omega)
              have fr41 := frP_tr (P := fun z => z < u ∨ u + 21 ≤ z) frP_rf sa39 (fun z (hz : z < u ∨ u + 21 ≤ z) => by omega)
              refine v_iret dX6_grant_119 rfl ?_ (Nat.le_of_ble_eq_true rfl) (Nat.le_of_ble_eq_true rfl)
              have e9 : dPat C (nI F) (nI J) (nI k) = (((-1014) : Int32), (C : Ct), (some (nI 7, nI (C 2 F)) : Option (Int32 × Int32))) := by unfold dPat; all_goals (repeat (first | rw [if_pos (by first | assumption | omega | rfl | trivial)] | rw [if_neg (by first | assumption | omega)])); all_goals (try simp only [eF, eJ, ek]); all_goals (try unfold dPatN); all_goals (repeat (first | rw [if_pos (by first | assumption | omega | rfl | trivial)] | rw [if_neg (by first | assumption | omega)])); all_goals rfl
              show pz G u sv rs dt _ _ _ _ _ _
              rw [e9]
              exact ⟨rfl, rfl, hc40, fa38, fr41⟩
          · refine v_aload_n dX6_grant_58 rfl ?_
            refine v_bipush (v := nI 6) dX6_grant_59 (by decide) ?_
            refine v_aload_n dX6_grant_61 rfl ?_
            refine fX6_10 (v := .ref (u + 1)) rfl dX6_grant_62 hj rfl ?_
            refine fX6_126 (v := .ref (u + 1 + 8)) rfl dX6_grant_65 (ck0 hc) rfl ?_
            refine fX6_139 (v := .ref (u + 1 + 10)) rfl dX6_grant_68 (ck8 hc) rfl ?_
            refine v_iload_n dX6_grant_71 rfl ?_
            refine n_ialdv (f := C 8) (j := J) (y := C 8 J) dX6_grant_72 (ck10 hc) (by omega) (by decide) rfl ?_
            have b42 := hK 8 J
            refine v_callV (st := []) dX6_grant_73 (t_X6_refuse (r1 := nI 6) (d1 := nI (C 8 J)) hj) wX6_243 hj rfl rfl ⟨Nat.le_of_ble_eq_true rfl, Nat.le_of_ble_eq_true rfl⟩ (Nat.le_of_ble_eq_true rfl) ⟨Nat.le_refl _, Nat.le_refl _⟩ (fun r n2 h2 hq => ?_)
            obtain ⟨rfl, rfl, fa43, sa44⟩ := hq
            refine v_st (st2 := [.int ((-1014))]) rfl ?_
            have hc45 := ct_offn hc sa44 (by omega)
            have fr46 := frP_tr (P := fun z => z < u ∨ u + 21 ≤ z) frP_rf sa44 (fun z (hz : z < u ∨ u + 21 ≤ z) => by omega)
            refine v_iret dX6_grant_76 rfl ?_ (Nat.le_of_ble_eq_true rfl) (Nat.le_of_ble_eq_true rfl)
            have e9 : dPat C (nI F) (nI J) (nI k) = (((-1014) : Int32), (C : Ct), (some (nI 6, nI (C 8 J)) : Option (Int32 × Int32))) := by unfold dPat; all_goals (repeat (first | rw [if_pos (by first | assumption | omega | rfl | trivial)] | rw [if_neg (by first | assumption | omega)])); all_goals (try simp only [eF, eJ, ek]); all_goals (try unfold dPatN); all_goals (repeat (first | rw [if_pos (by first | assumption | omega | rfl | trivial)] | rw [if_neg (by first | assumption | omega)])); all_goals rfl
            show pz G u sv rs dt _ _ _ _ _ _
            rw [e9]
            exact ⟨rfl, rfl, hc45, fa43, fr46⟩
        · refine v_sipush (v := (-1012)) dX6_grant_43 (by decide) ?_
          refine v_iret dX6_grant_46 rfl ?_ (Nat.le_of_ble_eq_true rfl) (Nat.le_of_ble_eq_true rfl)
          have e9 : dPat C (nI F) (nI J) x = (((-1012) : Int32), (C : Ct), (none : Option (Int32 × Int32))) := by unfold dPat; all_goals (repeat (first | rw [if_pos (by first | assumption | omega | rfl | trivial)] | rw [if_neg (by first | assumption | omega)])); all_goals (try simp only [eF, eJ]); all_goals (try unfold dPatN); all_goals (repeat (first | rw [if_pos (by first | assumption | omega | rfl | trivial)] | rw [if_neg (by first | assumption | omega)])); all_goals rfl
          show pz G u sv rs dt _ _ _ _ _ _
          rw [e9]
          exact ⟨rfl, rfl, hc, hj, frP_rf⟩
    · refine v_sipush (v := (-1011)) dX6_grant_28 (by decide) ?_
      refine v_iret dX6_grant_31 rfl ?_ (Nat.le_of_ble_eq_true rfl) (Nat.le_of_ble_eq_true rfl)
      have e9 : dPat C (nI F) j x = (((-1011) : Int32), (C : Ct), (none : Option (Int32 × Int32))) := by unfold dPat; all_goals (repeat (first | rw [if_pos (by first | assumption | omega | rfl | trivial)] | rw [if_neg (by first | assumption | omega)])); all_goals (try simp only [eF]); all_goals (try unfold dPatN); all_goals (repeat (first | rw [if_pos (by first | assumption | omega | rfl | trivial)] | rw [if_neg (by first | assumption | omega)])); all_goals rfl
      show pz G u sv rs dt _ _ _ _ _ _
      rw [e9]
      exact ⟨rfl, rfl, hc, hj, frP_rf⟩
set_option maxRecDepth 20000 in
set_option maxHeartbeats 4000000 in
theorem t_X6_cover {l : Launch} {G : vG} {h : AH} {n : Nat} {f : Int32} {u sv b : Nat} {rs dt : Int32} {C : Ct} (hj : h u = some (jc u sv rs dt)) (hc : ct G h (u + 1) C) (hK : bdk b C) (hb1 : 200 ≤ b) (hb2 : b + 5000 ≤ 2 ^ 28) (hi : iv C) : Mt l G mX6_cover [.ref u, .int f] (n) h 0 0 (pz G u sv rs dt h n (dIns C f)) := by
  refine Mt.of (by decide) (Nat.le_of_ble_eq_true rfl) rfl ?_
  refine v_ls (ls2 := [some (.ref u), some (.int f)]) rfl ?_
  have hB := hK.bd (by omega)
  obtain ⟨hF, hJ, hn, hs1, hc99, hs4, hs7, hs8, hs15, hbk9, hs9⟩ := hi
  have b00 := hB 0 0
  have b01 := hB 0 1
  have b02 := hB 0 2
  refine v_aload_n dX6_cover_0 rfl ?_
  refine fX6_10 (v := .ref (u + 1)) rfl dX6_cover_1 hj rfl ?_
  refine fX6_81 (v := .ref (u + 1 + 1)) rfl dX6_cover_4 (ck0 hc) rfl ?_
  refine v_iload_n dX6_cover_7 rfl ?_
  refine v_callV (st := []) dX6_cover_8 (t_X2_has (x := f) hc hB) wX6_85 (ck1 hc) rfl rfl ⟨Nat.le_of_ble_eq_true rfl, Nat.le_of_ble_eq_true rfl⟩ (Nat.le_of_ble_eq_true rfl) ⟨Nat.le_refl _, Nat.le_refl _⟩ (fun r n2 h2 hq => ?_)
  obtain ⟨rfl, rfl, rfl⟩ := hq
  refine v_st (st2 := [.int (nI (bI (ixb f (C 0 0) = true)))]) rfl ?_
  refine n_ifb_ne (tgt := 18) (p := ixb f (C 0 0) = true) dX6_cover_11 (by decide) (fun c21 => ?_) (fun c21 => ?_)
  · obtain ⟨F, hF1, rfl⟩ := ix_of c21 (by omega)
    have eF : (nI F).toNatClampNeg = F := nI_clamp (by omega)
    refine v_aload_n dX6_cover_18 rfl ?_
    refine fX6_10 (v := .ref (u + 1)) rfl dX6_cover_19 hj rfl ?_
    refine fX6_81 (v := .ref (u + 1 + 1)) rfl dX6_cover_22 (ck0 hc) rfl ?_
    refine fX6_101 (v := .ref (u + 1 + 5)) rfl dX6_cover_25 (ck1 hc) rfl ?_
    refine v_iload_n dX6_cover_28 rfl ?_
    refine n_ialdv (f := C 4) (j := F) (y := C 4 F) dX6_cover_29 (ck5 hc) (by omega) (by decide) rfl ?_
    have b22 := hK 4 F
    refine v_iconst (v := nI 3) dX6_cover_30 (by decide) ?_
    refine n_icmp_lt (tgt := 42) (x := C 4 F) (y := 3) dX6_cover_31 (by decide) (by omega) (by omega) (fun c23 => ?_) (fun c23 => ?_)
    · refine v_aload_n dX6_cover_42 rfl ?_
      refine fX6_10 (v := .ref (u + 1)) rfl dX6_cover_43 hj rfl ?_
      refine fX6_81 (v := .ref (u + 1 + 1)) rfl dX6_cover_46 (ck0 hc) rfl ?_
      refine fX6_95 (v := .ref (u + 1 + 3)) rfl dX6_cover_49 (ck1 hc) rfl ?_
      refine v_iload_n dX6_cover_52 rfl ?_
      refine n_ialdv (f := C 2) (j := F) (y := C 2 F) dX6_cover_53 (ck3 hc) (by omega) (by decide) rfl ?_
      have b24 := hK 2 F
      refine v_iconst (v := nI 2) dX6_cover_54 (by decide) ?_
      refine n_icmp_ge (tgt := 77) (x := C 2 F) (y := 2) dX6_cover_55 (by decide) (by omega) (by omega) (fun c25 => ?_) (fun c25 => ?_)
      · refine v_aload_n dX6_cover_77 rfl ?_
        refine fX6_10 (v := .ref (u + 1)) rfl dX6_cover_78 hj rfl ?_
        refine v_iload_n dX6_cover_81 rfl ?_
        refine v_iconst (v := nI 2) dX6_cover_82 (by decide) ?_
        refine v_callV (st := []) dX6_cover_83 (t_X1_payUnion (f := F) (k := 2) hc hK (by omega) (by omega) (by omega) (by omega)) wX6_294 (ck0 hc) rfl rfl ⟨Nat.le_of_ble_eq_true rfl, Nat.le_of_ble_eq_true rfl⟩ (Nat.le_of_ble_eq_true rfl) ⟨Nat.le_refl _, Nat.le_refl _⟩ (fun r n2 h2 hq => ?_)
        obtain ⟨rfl, rfl, hc9, ho9⟩ := hq
        refine v_st (st2 := [.int (nI (pay C F 2))]) rfl ?_
        obtain ⟨C26, hC26⟩ : ∃ C9 : Ct, C9 = payU C F 2 := ⟨_, rfl⟩
        rw [← hC26] at hc9
        have hc26 := hc9
        have sa26 := ho9
        clear hc9 ho9
        have hK26 : bdk (b + 100) C26 := by rw [hC26]; exact bdk_payU hK (by omega) (by omega)
        have hD26 := hK26.bd (by omega)
        have fa27 := (sa26 (u) (by omega)).trans hj
        have fr28 := frP_tr (P := fun z => z < u ∨ u + 21 ≤ z) frP_rf sa26 (fun z (hz : z < u ∨ u + 21 ≤ z) => by omega)
        refine v_pop dX6_cover_86 rfl ?_
        refine v_aload_n dX6_cover_87 rfl ?_
        refine fX6_10 (v := .ref (u + 1)) rfl dX6_cover_88 fa27 rfl ?_
        refine fX6_81 (v := .ref (u + 1 + 1)) rfl dX6_cover_91 (ck0 hc26) rfl ?_
        refine fX6_101 (v := .ref (u + 1 + 5)) rfl dX6_cover_94 (ck1 hc26) rfl ?_
        refine v_iload_n dX6_cover_97 rfl ?_
        refine v_dup2 dX6_cover_98 rfl rfl ?_
        refine n_ialdv (f := C26 4) (j := F) (y := C26 4 F) dX6_cover_99 (ck5 hc26) (by omega) (by decide) rfl ?_
        have b29 := hK26 4 F
        refine v_iconst (v := nI 1) dX6_cover_100 (by decide) ?_
        refine n_iadd (x := C26 4 F) (y := 1) dX6_cover_101 ?_
        refine n_iast (f := C26 4) (j := F) (x := C26 4 F + 1) dX6_cover_102 (ck5 hc26) (by omega) (by decide) ?_
        refine wr (cp4 (j := F) (x := C26 4 F + 1) hc26) off_rf (by omega) (fun h1 hc1 ho1 => ?_)
        have hc30 := hc1
        have sa30 := ho1
        clear hc1 ho1
        have hK30 : bdk (b + 200) (cu C26 4 F (C26 4 F + 1)) := bdk_cu hK26 (by omega) (by omega)
        have hD30 := hK30.bd (by omega)
        have fa31 := (sa30 (u) (by omega)).trans fa27
        have fr32 := frP_tr (P := fun z => z < u ∨ u + 21 ≤ z) fr28 sa30 (fun z (hz : z < u ∨ u + 21 ≤ z) => by omega)
        refine v_aload_n dX6_cover_103 rfl ?_
        refine fX6_10 (v := .ref (u + 1)) rfl dX6_cover_104 fa31 rfl ?_
        refine fX6_81 (v := .ref (u + 1 + 1)) rfl dX6_cover_107 (ck0 (C := cu C26 4 F (C26 4 F + 1)) hc30) rfl ?_
        refine fX6_101 (v := .ref (u + 1 + 5)) rfl dX6_cover_110 (ck1 (C := cu C26 4 F (C26 4 F + 1)) hc30) rfl ?_
        refine v_iload_n dX6_cover_113 rfl ?_
        refine n_ialdv (f := va_up (C26 4) F (C26 4 F + 1)) (j := F) (y := C26 4 F + 1) dX6_cover_114 (ck5 (C := cu C26 4 F (C26 4 F + 1)) hc30) (by omega) (by decide) nI_up ?_
        refine v_iret dX6_cover_115 rfl ?_ (Nat.le_of_ble_eq_true rfl) (Nat.le_of_ble_eq_true rfl)
        have e9 : dIns C (nI F) = ((nI (C26 4 F + 1) : Int32), (cu C26 4 F (C26 4 F + 1) : Ct), (none : Option (Int32 × Int32))) := by rw [hC26]; unfold dIns; all_goals (repeat (first | rw [if_pos (by first | assumption | omega | rfl | trivial)] | rw [if_neg (by first | assumption | omega)])); all_goals (try simp only [eF]); all_goals (try unfold dInsN); all_goals (repeat (first | rw [if_pos (by first | assumption | omega | rfl | trivial)] | rw [if_neg (by first | assumption | omega)])); all_goals rfl
        show pz G u sv rs dt _ _ _ _ _ _
        rw [e9]
        exact ⟨rfl, rfl, hc30, fa31, fr32⟩
      · refine v_aload_n dX6_cover_58 rfl ?_
        refine v_bipush (v := nI 7) dX6_cover_59 (by decide) ?_
        refine v_aload_n dX6_cover_61 rfl ?_
        refine fX6_10 (v := .ref (u + 1)) rfl dX6_cover_62 hj rfl ?_
        refine fX6_81 (v := .ref (u + 1 + 1)) rfl dX6_cover_65 (ck0 hc) rfl ?_
        refine fX6_95 (v := .ref (u + 1 + 3)) rfl dX6_cover_68 (ck1 hc) rfl ?_
        refine v_iload_n dX6_cover_71 rfl ?_
        refine n_ialdv (f := C 2) (j := F) (y := C 2 F) dX6_cover_72 (ck3 hc) (by omega) (by decide) rfl ?_
        refine v_callV (st := []) dX6_cover_73 (t_X6_refuse (r1 := nI 7) (d1 := nI (C 2 F)) hj) wX6_243 hj rfl rfl ⟨Nat.le_of_ble_eq_true rfl, Nat.le_of_ble_eq_true rfl⟩ (Nat.le_of_ble_eq_true rfl) ⟨Nat.le_refl _, Nat.le_refl _⟩ (fun r n2 h2 hq => ?_)
        obtain ⟨rfl, rfl, fa33, sa34⟩ := hq
        refine v_st (st2 := [.int ((-1014))]) rfl ?_
        have hc35 := ct_offn hc sa34 (by omega)
        have fr36 := frP_tr (P := fun z => z < u ∨ u + 21 ≤ z) frP_rf sa34 (fun z (hz : z < u ∨ u + 21 ≤ z) => by omega)
        refine v_iret dX6_cover_76 rfl ?_ (Nat.le_of_ble_eq_true rfl) (Nat.le_of_ble_eq_true rfl)
        have e9 : dIns C (nI F) = (((-1014) : Int32), (C : Ct), (some (nI 7, nI (C 2 F)) : Option (Int32 × Int32))) := by unfold dIns; all_goals (repeat (first | rw [if_pos (by first | assumption | omega | rfl | trivial)] | rw [if_neg (by first | assumption | omega)])); all_goals (try simp only [eF]); all_goals (try unfold dInsN); all_goals (repeat (first | rw [if_pos (by first | assumption | omega | rfl | trivial)] | rw [if_neg (by first | assumption | omega)])); all_goals rfl
        show pz G u sv rs dt _ _ _ _ _ _
        rw [e9]
        exact ⟨rfl, rfl, hc35, fa33, fr36⟩
    · refine v_aload_n dX6_cover_34 rfl ?_
      refine v_bipush (v := nI 8) dX6_cover_35 (by decide) ?_
      refine v_iconst (v := nI 3) dX6_cover_37 (by decide) ?_
      refine v_callV (st := []) dX6_cover_38 (t_X6_refuse (r1 := nI 8) (d1 := nI 3) hj) wX6_243 hj rfl rfl ⟨Nat.le_of_ble_eq_true rfl, Nat.le_of_ble_eq_true rfl⟩ (Nat.le_of_ble_eq_true rfl) ⟨Nat.le_refl _, Nat.le_refl _⟩ (fun r n2 h2 hq => ?_)
      obtain ⟨rfl, rfl, fa37, sa38⟩ := hq
      refine v_st (st2 := [.int ((-1014))]) rfl ?_
      have hc39 := ct_offn hc sa38 (by omega)
      have fr40 := frP_tr (P := fun z => z < u ∨ u + 21 ≤ z) frP_rf sa38 (fun z (hz : z < u ∨ u + 21 ≤ z) => by omega)
      refine v_iret dX6_cover_41 rfl ?_ (Nat.le_of_ble_eq_true rfl) (Nat.le_of_ble_eq_true rfl)
      have e9 : dIns C (nI F) = (((-1014) : Int32), (C : Ct), (some (nI 8, nI 3) : Option (Int32 × Int32))) := by unfold dIns; all_goals (repeat (first | rw [if_pos (by first | assumption | omega | rfl | trivial)] | rw [if_neg (by first | assumption | omega)])); all_goals (try simp only [eF]); all_goals (try unfold dInsN); all_goals (repeat (first | rw [if_pos (by first | assumption | omega | rfl | trivial)] | rw [if_neg (by first | assumption | omega)])); all_goals rfl
      show pz G u sv rs dt _ _ _ _ _ _
      rw [e9]
      exact ⟨rfl, rfl, hc39, fa37, fr40⟩
  · refine v_sipush (v := (-1011)) dX6_cover_14 (by decide) ?_
    refine v_iret dX6_cover_17 rfl ?_ (Nat.le_of_ble_eq_true rfl) (Nat.le_of_ble_eq_true rfl)
    have e9 : dIns C f = (((-1011) : Int32), (C : Ct), (none : Option (Int32 × Int32))) := by unfold dIns; all_goals (repeat (first | rw [if_pos (by first | assumption | omega | rfl | trivial)] | rw [if_neg (by first | assumption | omega)])); all_goals (try unfold dInsN); all_goals (repeat (first | rw [if_pos (by first | assumption | omega | rfl | trivial)] | rw [if_neg (by first | assumption | omega)])); all_goals rfl
    show pz G u sv rs dt _ _ _ _ _ _
    rw [e9]
    exact ⟨rfl, rfl, hc, hj, frP_rf⟩
set_option maxRecDepth 20000 in
set_option maxHeartbeats 4000000 in
theorem t_X6_collect {l : Launch} {G : vG} {h : AH} {n : Nat} {f : Int32} {u sv b : Nat} {rs dt : Int32} {C : Ct} (hj : h u = some (jc u sv rs dt)) (hc : ct G h (u + 1) C) (hK : bdk b C) (hb1 : 200 ≤ b) (hb2 : b + 5000 ≤ 2 ^ 28) (hi : iv C) : Mt l G mX6_collect [.ref u, .int f] (n) h 0 0 (pz G u sv rs dt h n (dAud C f)) := by
  refine Mt.of (by decide) (Nat.le_of_ble_eq_true rfl) rfl ?_
  refine v_ls (ls2 := [some (.ref u), some (.int f), none, none]) rfl ?_
  have hB := hK.bd (by omega)
  obtain ⟨hF, hJ, hn, hs1, hc99, hs4, hs7, hs8, hs15, hbk9, hs9⟩ := hi
  have b00 := hB 0 0
  have b01 := hB 0 1
  have b02 := hB 0 2
  refine v_aload_n dX6_collect_0 rfl ?_
  refine fX6_10 (v := .ref (u + 1)) rfl dX6_collect_1 hj rfl ?_
  refine fX6_81 (v := .ref (u + 1 + 1)) rfl dX6_collect_4 (ck0 hc) rfl ?_
  refine v_iload_n dX6_collect_7 rfl ?_
  refine v_callV (st := []) dX6_collect_8 (t_X2_has (x := f) hc hB) wX6_85 (ck1 hc) rfl rfl ⟨Nat.le_of_ble_eq_true rfl, Nat.le_of_ble_eq_true rfl⟩ (Nat.le_of_ble_eq_true rfl) ⟨Nat.le_refl _, Nat.le_refl _⟩ (fun r n2 h2 hq => ?_)
  obtain ⟨rfl, rfl, rfl⟩ := hq
  refine v_st (st2 := [.int (nI (bI (ixb f (C 0 0) = true)))]) rfl ?_
  refine n_ifb_ne (tgt := 18) (p := ixb f (C 0 0) = true) dX6_collect_11 (by decide) (fun c21 => ?_) (fun c21 => ?_)
  · obtain ⟨F, hF1, rfl⟩ := ix_of c21 (by omega)
    have eF : (nI F).toNatClampNeg = F := nI_clamp (by omega)
    have h9F := hc99 F
    refine v_aload_n dX6_collect_18 rfl ?_
    refine fX6_10 (v := .ref (u + 1)) rfl dX6_collect_19 hj rfl ?_
    refine fX6_81 (v := .ref (u + 1 + 1)) rfl dX6_collect_22 (ck0 hc) rfl ?_
    refine fX6_98 (v := .ref (u + 1 + 4)) rfl dX6_collect_25 (ck1 hc) rfl ?_
    refine v_iload_n dX6_collect_28 rfl ?_
    refine n_ialdv (f := C 3) (j := F) (y := C 3 F) dX6_collect_29 (ck4 hc) (by omega) (by decide) rfl ?_
    have b22 := hK 3 F
    refine v_istore_n dX6_collect_30 rfl (by decide) ?_
    refine v_ls (ls2 := [some (.ref u), some (.int (nI F)), some (.int (nI (C 3 F))), none]) rfl ?_
    refine v_iload_n dX6_collect_31 rfl ?_
    refine v_iconst (v := nI 3) dX6_collect_32 (by decide) ?_
    refine n_icmp_ge (tgt := 44) (x := C 3 F) (y := 3) dX6_collect_33 (by decide) (by omega) (by omega) (fun c23 => ?_) (fun c23 => ?_)
    · refine v_aload_n dX6_collect_44 rfl ?_
      refine fX6_10 (v := .ref (u + 1)) rfl dX6_collect_45 hj rfl ?_
      refine fX6_81 (v := .ref (u + 1 + 1)) rfl dX6_collect_48 (ck0 hc) rfl ?_
      refine fX6_95 (v := .ref (u + 1 + 3)) rfl dX6_collect_51 (ck1 hc) rfl ?_
      refine v_iload_n dX6_collect_54 rfl ?_
      refine n_ialdv (f := C 2) (j := F) (y := C 2 F) dX6_collect_55 (ck3 hc) (by omega) (by decide) rfl ?_
      have b24 := hK 2 F
      refine n_if_ne (tgt := 67) (x := C 2 F) dX6_collect_56 (by decide) (by omega) (fun c25 => ?_) (fun c25 => ?_)
      · refine v_aload_n dX6_collect_67 rfl ?_
        refine fX6_10 (v := .ref (u + 1)) rfl dX6_collect_68 hj rfl ?_
        refine v_iload_n dX6_collect_71 rfl ?_
        refine v_iload_n dX6_collect_72 rfl ?_
        refine v_iconst (v := nI 3) dX6_collect_73 (by decide) ?_
        refine n_idiv (x := C 3 F) (y := 3) dX6_collect_74 (by omega) (by omega) (by omega) ?_
        refine v_callV (st := []) dX6_collect_75 (t_X1_payUnion (f := F) (k := C 3 F / 3) hc hK (by omega) (by omega) (by omega) (by omega)) wX6_294 (ck0 hc) rfl rfl ⟨Nat.le_of_ble_eq_true rfl, Nat.le_of_ble_eq_true rfl⟩ (Nat.le_of_ble_eq_true rfl) ⟨Nat.le_refl _, Nat.le_refl _⟩ (fun r n2 h2 hq => ?_)
        obtain ⟨rfl, rfl, hc9, ho9⟩ := hq
        refine v_st (st2 := [.int (nI (pay C F (C 3 F / 3)))]) rfl ?_
        obtain ⟨C26, hC26⟩ : ∃ C9 : Ct, C9 = payU C F (C 3 F / 3) := ⟨_, rfl⟩
        rw [← hC26] at hc9
        have hc26 := hc9
        have sa26 := ho9
        clear hc9 ho9
        have hK26 : bdk (b + 100) C26 := by rw [hC26]; exact bdk_payU hK (by omega) (by omega)
        have hD26 := hK26.bd (by omega)
        have fa27 := (sa26 (u) (by omega)).trans hj
        have fr28 := frP_tr (P := fun z => z < u ∨ u + 21 ≤ z) frP_rf sa26 (fun z (hz : z < u ∨ u + 21 ≤ z) => by omega)
        refine v_istore_n dX6_collect_78 rfl (by decide) ?_
        refine v_ls (ls2 := [some (.ref u), some (.int (nI F)), some (.int (nI (C 3 F))), some (.int (nI (pay C F (C 3 F / 3))))]) rfl ?_
        refine v_aload_n dX6_collect_79 rfl ?_
        refine fX6_10 (v := .ref (u + 1)) rfl dX6_collect_80 fa27 rfl ?_
        refine fX6_81 (v := .ref (u + 1 + 1)) rfl dX6_collect_83 (ck0 hc26) rfl ?_
        refine fX6_98 (v := .ref (u + 1 + 4)) rfl dX6_collect_86 (ck1 hc26) rfl ?_
        refine v_iload_n dX6_collect_89 rfl ?_
        refine v_dup2 dX6_collect_90 rfl rfl ?_
        refine n_ialdv (f := C26 3) (j := F) (y := C26 3 F) dX6_collect_91 (ck4 hc26) (by omega) (by decide) rfl ?_
        have b29 := hK26 3 F
        refine v_iconst (v := nI 3) dX6_collect_92 (by decide) ?_
        refine v_iload_n dX6_collect_93 rfl ?_
        refine n_imul (x := 3) (y := pay C F (C 3 F / 3)) dX6_collect_94 ?_
        have e3F : C26 3 F = C 3 F := by rw [hC26]; rfl
        have hp3 : pay C F (C 3 F / 3) ≤ C 3 F / 3 := Nat.min_le_left _ _
        refine n_isub (x := C26 3 F) (y := 3 * (pay C F (C 3 F / 3))) dX6_collect_95 (by omega) ?_
        refine n_iast (f := C26 3) (j := F) (x := C26 3 F - (3 * (pay C F (C 3 F / 3)))) dX6_collect_96 (ck4 hc26) (by omega) (by decide) ?_
        refine wr (cp3 (j := F) (x := C26 3 F - (3 * (pay C F (C 3 F / 3)))) hc26) off_rf (by omega) (fun h1 hc1 ho1 => ?_)
        have hc30 := hc1
        have sa30 := ho1
        clear hc1 ho1
        have hK30 : bdk (b + 200) (cu C26 3 F (C26 3 F - (3 * (pay C F (C 3 F / 3))))) := bdk_cu hK26 (by omega) (by omega)
        have hD30 := hK30.bd (by omega)
        have fa31 := (sa30 (u) (by omega)).trans fa27
        have fr32 := frP_tr (P := fun z => z < u ∨ u + 21 ≤ z) fr28 sa30 (fun z (hz : z < u ∨ u + 21 ≤ z) => by omega)
        refine v_iload_n dX6_collect_97 rfl ?_
        refine v_iret dX6_collect_98 rfl ?_ (Nat.le_of_ble_eq_true rfl) (Nat.le_of_ble_eq_true rfl)
        have e9 : dAud C (nI F) = ((nI (pay C F (C 3 F / 3)) : Int32), (cu C26 3 F (C26 3 F - (3 * (pay C F (C 3 F / 3)))) : Ct), (none : Option (Int32 × Int32))) := by rw [hC26]; unfold dAud; all_goals (repeat (first | rw [if_pos (by first | assumption | omega | rfl | trivial)] | rw [if_neg (by first | assumption | omega)])); all_goals (try simp only [eF]); all_goals (try unfold dAudN); all_goals (repeat (first | rw [if_pos (by first | assumption | omega | rfl | trivial)] | rw [if_neg (by first | assumption | omega)])); all_goals rfl
        show pz G u sv rs dt _ _ _ _ _ _
        rw [e9]
        exact ⟨rfl, rfl, hc30, fa31, fr32⟩
      · refine v_aload_n dX6_collect_59 rfl ?_
        refine v_bipush (v := nI 7) dX6_collect_60 (by decide) ?_
        refine v_iconst (v := nI 0) dX6_collect_62 (by decide) ?_
        refine v_callV (st := []) dX6_collect_63 (t_X6_refuse (r1 := nI 7) (d1 := nI 0) hj) wX6_243 hj rfl rfl ⟨Nat.le_of_ble_eq_true rfl, Nat.le_of_ble_eq_true rfl⟩ (Nat.le_of_ble_eq_true rfl) ⟨Nat.le_refl _, Nat.le_refl _⟩ (fun r n2 h2 hq => ?_)
        obtain ⟨rfl, rfl, fa33, sa34⟩ := hq
        refine v_st (st2 := [.int ((-1014))]) rfl ?_
        have hc35 := ct_offn hc sa34 (by omega)
        have fr36 := frP_tr (P := fun z => z < u ∨ u + 21 ≤ z) frP_rf sa34 (fun z (hz : z < u ∨ u + 21 ≤ z) => by omega)
        refine v_iret dX6_collect_66 rfl ?_ (Nat.le_of_ble_eq_true rfl) (Nat.le_of_ble_eq_true rfl)
        have e9 : dAud C (nI F) = (((-1014) : Int32), (C : Ct), (some (nI 7, nI 0) : Option (Int32 × Int32))) := by unfold dAud; all_goals (repeat (first | rw [if_pos (by first | assumption | omega | rfl | trivial)] | rw [if_neg (by first | assumption | omega)])); all_goals (try simp only [eF]); all_goals (try unfold dAudN); all_goals (repeat (first | rw [if_pos (by first | assumption | omega | rfl | trivial)] | rw [if_neg (by first | assumption | omega)])); all_goals rfl
        show pz G u sv rs dt _ _ _ _ _ _
        rw [e9]
        exact ⟨rfl, rfl, hc35, fa33, fr36⟩
    · refine v_aload_n dX6_collect_36 rfl ?_
      refine v_bipush (v := nI 10) dX6_collect_37 (by decide) ?_
      refine v_iload_n dX6_collect_39 rfl ?_
      refine v_callV (st := []) dX6_collect_40 (t_X6_refuse (r1 := nI 10) (d1 := nI (C 3 F)) hj) wX6_243 hj rfl rfl ⟨Nat.le_of_ble_eq_true rfl, Nat.le_of_ble_eq_true rfl⟩ (Nat.le_of_ble_eq_true rfl) ⟨Nat.le_refl _, Nat.le_refl _⟩ (fun r n2 h2 hq => ?_)
      obtain ⟨rfl, rfl, fa37, sa38⟩ := hq
      refine v_st (st2 := [.int ((-1014))]) rfl ?_
      have hc39 := ct_offn hc sa38 (by omega)
      have fr40 := frP_tr (P := fun z => z < u ∨ u + 21 ≤ z) frP_rf sa38 (fun z (hz : z < u ∨ u + 21 ≤ z) => by omega)
      refine v_iret dX6_collect_43 rfl ?_ (Nat.le_of_ble_eq_true rfl) (Nat.le_of_ble_eq_true rfl)
      have e9 : dAud C (nI F) = (((-1014) : Int32), (C : Ct), (some (nI 10, nI (C 3 F)) : Option (Int32 × Int32))) := by unfold dAud; all_goals (repeat (first | rw [if_pos (by first | assumption | omega | rfl | trivial)] | rw [if_neg (by first | assumption | omega)])); all_goals (try simp only [eF]); all_goals (try unfold dAudN); all_goals (repeat (first | rw [if_pos (by first | assumption | omega | rfl | trivial)] | rw [if_neg (by first | assumption | omega)])); all_goals rfl
      show pz G u sv rs dt _ _ _ _ _ _
      rw [e9]
      exact ⟨rfl, rfl, hc39, fa37, fr40⟩
  · refine v_sipush (v := (-1011)) dX6_collect_14 (by decide) ?_
    refine v_iret dX6_collect_17 rfl ?_ (Nat.le_of_ble_eq_true rfl) (Nat.le_of_ble_eq_true rfl)
    have e9 : dAud C f = (((-1011) : Int32), (C : Ct), (none : Option (Int32 × Int32))) := by unfold dAud; all_goals (repeat (first | rw [if_pos (by first | assumption | omega | rfl | trivial)] | rw [if_neg (by first | assumption | omega)])); all_goals (try unfold dAudN); all_goals (repeat (first | rw [if_pos (by first | assumption | omega | rfl | trivial)] | rw [if_neg (by first | assumption | omega)])); all_goals rfl
    show pz G u sv rs dt _ _ _ _ _ _
    rw [e9]
    exact ⟨rfl, rfl, hc, hj, frP_rf⟩
set_option maxRecDepth 20000 in
set_option maxHeartbeats 4000000 in
theorem t_X6_setExempt {l : Launch} {G : vG} {h : AH} {n : Nat} {t x : Int32} {u sv b : Nat} {rs dt : Int32} {C : Ct} (hj : h u = some (jc u sv rs dt)) (hc : ct G h (u + 1) C) (hK : bdk b C) (hb1 : 200 ≤ b) (hb2 : b + 5000 ≤ 2 ^ 28) (hi : iv C) : Mt l G mX6_setExempt [.ref u, .int t, .int x] (n) h 0 0 (pz G u sv rs dt h n (dExe C t x)) := by
  refine Mt.of (by decide) (Nat.le_of_ble_eq_true rfl) rfl ?_
  refine v_ls (ls2 := [some (.ref u), some (.int t), some (.int x)]) rfl ?_
  have hB := hK.bd (by omega)
  obtain ⟨hF, hJ, hn, hs1, hc99, hs4, hs7, hs8, hs15, hbk9, hs9⟩ := hi
  have b00 := hB 0 0
  have b01 := hB 0 1
  have b02 := hB 0 2
  refine v_iload_n dX6_setExempt_0 rfl ?_
  refine v_callS (st := []) dX6_setExempt_1 (t_X6_isThrone (x := t)) wX6_158 rfl ⟨Nat.le_of_ble_eq_true rfl, Nat.le_of_ble_eq_true rfl⟩ (Nat.le_of_ble_eq_true rfl) ⟨Nat.le_refl _, Nat.le_refl _⟩ (fun r n2 h2 hq => ?_)
  obtain ⟨rfl, rfl, rfl⟩ := hq
  refine v_st (st2 := [.int (nI (bI (ixb t 4 = true)))]) rfl ?_
  refine n_ifb_ne (tgt := 11) (p := ixb t 4 = true) dX6_setExempt_4 (by decide) (fun c21 => ?_) (fun c21 => ?_)
  · obtain ⟨T, hT1, rfl⟩ := ix_of c21 (by omega)
    have eT : (nI T).toNatClampNeg = T := nI_clamp (by omega)
    refine v_iload_n dX6_setExempt_11 rfl ?_
    refine v_if_eq (tgt := 24) dX6_setExempt_12 (by decide) (fun c22 => ?_) (fun c22 => ?_)
    · obtain rfl : x = nI 0 := c22
      refine v_aload_n dX6_setExempt_24 rfl ?_
      refine fX6_10 (v := .ref (u + 1)) rfl dX6_setExempt_25 hj rfl ?_
      refine fX6_161 (v := .ref (u + 1 + 18)) rfl dX6_setExempt_28 (ck0 hc) rfl ?_
      refine v_iload_n dX6_setExempt_31 rfl ?_
      refine n_ialdv (f := C 15) (j := T) (y := C 15 T) dX6_setExempt_32 (ck18 hc) (by omega) (by decide) rfl ?_
      have b23 := hK 15 T
      refine v_iload_n dX6_setExempt_33 rfl ?_
      refine n_icmp_ne (tgt := 45) (x := C 15 T) (y := 0) dX6_setExempt_34 (by decide) (by omega) (by omega) (fun c24 => ?_) (fun c24 => ?_)
      · refine v_aload_n dX6_setExempt_45 rfl ?_
        refine fX6_10 (v := .ref (u + 1)) rfl dX6_setExempt_46 hj rfl ?_
        refine fX6_161 (v := .ref (u + 1 + 18)) rfl dX6_setExempt_49 (ck0 hc) rfl ?_
        refine v_iload_n dX6_setExempt_52 rfl ?_
        refine v_iload_n dX6_setExempt_53 rfl ?_
        refine n_iast (f := C 15) (j := T) (x := 0) dX6_setExempt_54 (ck18 hc) (by omega) (by decide) ?_
        refine wr (cp15 (j := T) (x := 0) hc) off_rf (by omega) (fun h1 hc1 ho1 => ?_)
        have hc25 := hc1
        have sa25 := ho1
        clear hc1 ho1
        have hK25 : bdk (b + 100) (cu C 15 T 0) := bdk_cu hK (by omega) (by omega)
        have hD25 := hK25.bd (by omega)
        have fa26 := (sa25 (u) (by omega)).trans hj
        have fr27 := frP_tr (P := fun z => z < u ∨ u + 21 ≤ z) frP_rf sa25 (fun z (hz : z < u ∨ u + 21 ≤ z) => by omega)
        refine v_aload_n dX6_setExempt_55 rfl ?_
        refine fX6_10 (v := .ref (u + 1)) rfl dX6_setExempt_56 fa26 rfl ?_
        refine fX6_161 (v := .ref (u + 1 + 18)) rfl dX6_setExempt_59 (ck0 (C := cu C 15 T 0) hc25) rfl ?_
        refine v_callS (st := []) dX6_setExempt_62 (t_X6_sum4 (g := va_up (C 15) T 0) (ck18 (C := cu C 15 T 0) hc25) (hD25 15)) wX6_210 rfl ⟨Nat.le_of_ble_eq_true rfl, Nat.le_of_ble_eq_true rfl⟩ (Nat.le_of_ble_eq_true rfl) ⟨Nat.le_refl _, Nat.le_refl _⟩ (fun r n2 h2 hq => ?_)
        obtain ⟨rfl, rfl, rfl⟩ := hq
        refine v_st (st2 := [.int (nI (sm (va_up (C 15) T 0) 4))]) rfl ?_
        refine v_iret dX6_setExempt_65 rfl ?_ (Nat.le_of_ble_eq_true rfl) (Nat.le_of_ble_eq_true rfl)
        have e9 : dExe C (nI T) (nI 0) = ((nI (sm (va_up (C 15) T 0) 4) : Int32), (cu C 15 T 0 : Ct), (none : Option (Int32 × Int32))) := by unfold dExe; all_goals (repeat (first | rw [if_pos (by first | assumption | omega | rfl | trivial)] | rw [if_neg (by first | assumption | omega)])); all_goals (try simp only [eT]); all_goals (try unfold dExeN); all_goals (repeat (first | rw [if_pos (by first | assumption | omega | rfl | trivial)] | rw [if_neg (by first | assumption | omega)])); all_goals rfl
        show pz G u sv rs dt _ _ _ _ _ _
        rw [e9]
        exact ⟨rfl, rfl, hc25, fa26, fr27⟩
      · refine v_aload_n dX6_setExempt_37 rfl ?_
        refine v_bipush (v := nI 9) dX6_setExempt_38 (by decide) ?_
        refine v_iload_n dX6_setExempt_40 rfl ?_
        refine v_callV (st := []) dX6_setExempt_41 (t_X6_refuse (r1 := nI 9) (d1 := nI 0) hj) wX6_243 hj rfl rfl ⟨Nat.le_of_ble_eq_true rfl, Nat.le_of_ble_eq_true rfl⟩ (Nat.le_of_ble_eq_true rfl) ⟨Nat.le_refl _, Nat.le_refl _⟩ (fun r n2 h2 hq => ?_)
        obtain ⟨rfl, rfl, fa28, sa29⟩ := hq
        refine v_st (st2 := [.int ((-1014))]) rfl ?_
        have hc30 := ct_offn hc sa29 (by omega)
        have fr31 := frP_tr (P := fun z => z < u ∨ u + 21 ≤ z) frP_rf sa29 (fun z (hz : z < u ∨ u + 21 ≤ z) => by omega)
        refine v_iret dX6_setExempt_44 rfl ?_ (Nat.le_of_ble_eq_true rfl) (Nat.le_of_ble_eq_true rfl)
        have e9 : dExe C (nI T) (nI 0) = (((-1014) : Int32), (C : Ct), (some (nI 9, nI 0) : Option (Int32 × Int32))) := by unfold dExe; all_goals (repeat (first | rw [if_pos (by first | assumption | omega | rfl | trivial)] | rw [if_neg (by first | assumption | omega)])); all_goals (try simp only [eT]); all_goals (try unfold dExeN); all_goals (repeat (first | rw [if_pos (by first | assumption | omega | rfl | trivial)] | rw [if_neg (by first | assumption | omega)])); all_goals rfl
        show pz G u sv rs dt _ _ _ _ _ _
        rw [e9]
        exact ⟨rfl, rfl, hc30, fa28, fr31⟩
    · refine v_iload_n dX6_setExempt_15 rfl ?_
      refine v_iconst (v := nI 1) dX6_setExempt_16 (by decide) ?_
      refine v_icmp_eq (tgt := 24) dX6_setExempt_17 (by decide) (fun c32 => ?_) (fun c32 => ?_)
      · obtain rfl : x = nI 1 := c32
        refine v_aload_n dX6_setExempt_24 rfl ?_
        refine fX6_10 (v := .ref (u + 1)) rfl dX6_setExempt_25 hj rfl ?_
        refine fX6_161 (v := .ref (u + 1 + 18)) rfl dX6_setExempt_28 (ck0 hc) rfl ?_
        refine v_iload_n dX6_setExempt_31 rfl ?_
        refine n_ialdv (f := C 15) (j := T) (y := C 15 T) dX6_setExempt_32 (ck18 hc) (by omega) (by decide) rfl ?_
        have b33 := hK 15 T
        refine v_iload_n dX6_setExempt_33 rfl ?_
        refine n_icmp_ne (tgt := 45) (x := C 15 T) (y := 1) dX6_setExempt_34 (by decide) (by omega) (by omega) (fun c34 => ?_) (fun c34 => ?_)
        · refine v_aload_n dX6_setExempt_45 rfl ?_
          refine fX6_10 (v := .ref (u + 1)) rfl dX6_setExempt_46 hj rfl ?_
          refine fX6_161 (v := .ref (u + 1 + 18)) rfl dX6_setExempt_49 (ck0 hc) rfl ?_
          refine v_iload_n dX6_setExempt_52 rfl ?_
          refine v_iload_n dX6_setExempt_53 rfl ?_
          refine n_iast (f := C 15) (j := T) (x := 1) dX6_setExempt_54 (ck18 hc) (by omega) (by decide) ?_
          refine wr (cp15 (j := T) (x := 1) hc) off_rf (by omega) (fun h1 hc1 ho1 => ?_)
          have hc35 := hc1
          have sa35 := ho1
          clear hc1 ho1
          have hK35 : bdk (b + 100) (cu C 15 T 1) := bdk_cu hK (by omega) (by omega)
          have hD35 := hK35.bd (by omega)
          have fa36 := (sa35 (u) (by omega)).trans hj
          have fr37 := frP_tr (P := fun z => z < u ∨ u + 21 ≤ z) frP_rf sa35 (fun z (hz : z < u ∨ u + 21 ≤ z) => by omega)
          refine v_aload_n dX6_setExempt_55 rfl ?_
          refine fX6_10 (v := .ref (u + 1)) rfl dX6_setExempt_56 fa36 rfl ?_
          refine fX6_161 (v := .ref (u + 1 + 18)) rfl dX6_setExempt_59 (ck0 (C := cu C 15 T 1) hc35) rfl ?_
          refine v_callS (st := []) dX6_setExempt_62 (t_X6_sum4 (g := va_up (C 15) T 1) (ck18 (C := cu C 15 T 1) hc35) (hD35 15)) wX6_210 rfl ⟨Nat.le_of_ble_eq_true rfl, Nat.le_of_ble_eq_true rfl⟩ (Nat.le_of_ble_eq_true rfl) ⟨Nat.le_refl _, Nat.le_refl _⟩ (fun r n2 h2 hq => ?_)
          obtain ⟨rfl, rfl, rfl⟩ := hq
          refine v_st (st2 := [.int (nI (sm (va_up (C 15) T 1) 4))]) rfl ?_
          refine v_iret dX6_setExempt_65 rfl ?_ (Nat.le_of_ble_eq_true rfl) (Nat.le_of_ble_eq_true rfl)
          have e9 : dExe C (nI T) (nI 1) = ((nI (sm (va_up (C 15) T 1) 4) : Int32), (cu C 15 T 1 : Ct), (none : Option (Int32 × Int32))) := by unfold dExe; all_goals (repeat (first | rw [if_pos (by first | assumption | omega | rfl | trivial)] | rw [if_neg (by first | assumption | omega)])); all_goals (try simp only [eT]); all_goals (try unfold dExeN); all_goals (repeat (first | rw [if_pos (by first | assumption | omega | rfl | trivial)] | rw [if_neg (by first | assumption | omega)])); all_goals rfl
          show pz G u sv rs dt _ _ _ _ _ _
          rw [e9]
          exact ⟨rfl, rfl, hc35, fa36, fr37⟩
        · refine v_aload_n dX6_setExempt_37 rfl ?_
          refine v_bipush (v := nI 9) dX6_setExempt_38 (by decide) ?_
          refine v_iload_n dX6_setExempt_40 rfl ?_
          refine v_callV (st := []) dX6_setExempt_41 (t_X6_refuse (r1 := nI 9) (d1 := nI 1) hj) wX6_243 hj rfl rfl ⟨Nat.le_of_ble_eq_true rfl, Nat.le_of_ble_eq_true rfl⟩ (Nat.le_of_ble_eq_true rfl) ⟨Nat.le_refl _, Nat.le_refl _⟩ (fun r n2 h2 hq => ?_)
          obtain ⟨rfl, rfl, fa38, sa39⟩ := hq
          refine v_st (st2 := [.int ((-1014))]) rfl ?_
          have hc40 := ct_offn hc sa39 (by omega)
          have fr41 := frP_tr (P := fun z => z < u ∨ u + 21 ≤ z) frP_rf sa39 (fun z (hz : z < u ∨ u + 21 ≤ z) => by omega)
          refine v_iret dX6_setExempt_44 rfl ?_ (Nat.le_of_ble_eq_true rfl) (Nat.le_of_ble_eq_true rfl)
          have e9 : dExe C (nI T) (nI 1) = (((-1014) : Int32), (C : Ct), (some (nI 9, nI 1) : Option (Int32 × Int32))) := by unfold dExe; all_goals (repeat (first | rw [if_pos (by first | assumption | omega | rfl | trivial)] | rw [if_neg (by first | assumption | omega)])); all_goals (try simp only [eT]); all_goals (try unfold dExeN); all_goals (repeat (first | rw [if_pos (by first | assumption | omega | rfl | trivial)] | rw [if_neg (by first | assumption | omega)])); all_goals rfl
          show pz G u sv rs dt _ _ _ _ _ _
          rw [e9]
          exact ⟨rfl, rfl, hc40, fa38, fr41⟩
      · refine v_sipush (v := (-1012)) dX6_setExempt_20 (by decide) ?_
        refine v_iret dX6_setExempt_23 rfl ?_ (Nat.le_of_ble_eq_true rfl) (Nat.le_of_ble_eq_true rfl)
        have e9 : dExe C (nI T) x = (((-1012) : Int32), (C : Ct), (none : Option (Int32 × Int32))) := by unfold dExe; all_goals (repeat (first | rw [if_pos (by first | assumption | omega | rfl | trivial)] | rw [if_neg (by first | assumption | omega)])); all_goals (try simp only [eT]); all_goals (try unfold dExeN); all_goals (repeat (first | rw [if_pos (by first | assumption | omega | rfl | trivial)] | rw [if_neg (by first | assumption | omega)])); all_goals rfl
        show pz G u sv rs dt _ _ _ _ _ _
        rw [e9]
        exact ⟨rfl, rfl, hc, hj, frP_rf⟩
  · refine v_sipush (v := (-1011)) dX6_setExempt_7 (by decide) ?_
    refine v_iret dX6_setExempt_10 rfl ?_ (Nat.le_of_ble_eq_true rfl) (Nat.le_of_ble_eq_true rfl)
    have e9 : dExe C t x = (((-1011) : Int32), (C : Ct), (none : Option (Int32 × Int32))) := by unfold dExe; all_goals (repeat (first | rw [if_pos (by first | assumption | omega | rfl | trivial)] | rw [if_neg (by first | assumption | omega)])); all_goals (try unfold dExeN); all_goals (repeat (first | rw [if_pos (by first | assumption | omega | rfl | trivial)] | rw [if_neg (by first | assumption | omega)])); all_goals rfl
    show pz G u sv rs dt _ _ _ _ _ _
    rw [e9]
    exact ⟨rfl, rfl, hc, hj, frP_rf⟩
set_option maxRecDepth 20000 in
set_option maxHeartbeats 4000000 in
theorem t_X6_elapse {l : Launch} {G : vG} {h : AH} {n : Nat} {x : Int32} {u sv b : Nat} {rs dt : Int32} {C : Ct} (hj : h u = some (jc u sv rs dt)) (hc : ct G h (u + 1) C) (hK : bdk b C) (hb1 : 200 ≤ b) (hb2 : b + 5000 ≤ 2 ^ 28) (hi : iv C) : Mt l G mX6_elapse [.ref u, .int x] (n) h 0 0 (pz G u sv rs dt h n (dPass C x)) := by
  refine Mt.of (by decide) (Nat.le_of_ble_eq_true rfl) rfl ?_
  refine v_ls (ls2 := [some (.ref u), some (.int x), none]) rfl ?_
  have hB := hK.bd (by omega)
  obtain ⟨hF, hJ, hn, hs1, hc99, hs4, hs7, hs8, hs15, hbk9, hs9⟩ := hi
  have b00 := hB 0 0
  have b01 := hB 0 1
  have b02 := hB 0 2
  refine v_iload_n dX6_elapse_0 rfl ?_
  refine v_iconst (v := nI 1) dX6_elapse_1 (by decide) ?_
  refine v_icmp_lt (tgt := 11) dX6_elapse_2 (by decide) (fun c21 => ?_) (fun c21 => ?_)
  · refine v_sipush (v := (-1012)) dX6_elapse_11 (by decide) ?_
    refine v_iret dX6_elapse_14 rfl ?_ (Nat.le_of_ble_eq_true rfl) (Nat.le_of_ble_eq_true rfl)
    have e9 : dPass C x = (((-1012) : Int32), (C : Ct), (none : Option (Int32 × Int32))) := by unfold dPass; all_goals (repeat (first | rw [if_pos (by first | assumption | omega | rfl | trivial)] | rw [if_neg (by first | assumption | omega)])); all_goals (try unfold dPassN); all_goals (repeat (first | rw [if_pos (by first | assumption | omega | rfl | trivial)] | rw [if_neg (by first | assumption | omega)])); all_goals (try unfold dPs); all_goals (repeat (first | rw [if_pos (by first | assumption | omega | rfl | trivial)] | rw [if_neg (by first | assumption | omega)])); all_goals rfl
    show pz G u sv rs dt _ _ _ _ _ _
    rw [e9]
    exact ⟨rfl, rfl, hc, hj, frP_rf⟩
  · refine v_iload_n dX6_elapse_5 rfl ?_
    refine v_bipush (v := nI 24) dX6_elapse_6 (by decide) ?_
    refine v_icmp_le (tgt := 15) dX6_elapse_8 (by decide) (fun c22 => ?_) (fun c22 => ?_)
    · obtain ⟨k, hk1, hk2, rfl⟩ := rg_of (a := 1) (b := 24) c21 c22 (by decide) (by decide)
      have ek : (nI k).toNatClampNeg = k := nI_clamp (by omega)
      refine v_aload_n dX6_elapse_15 rfl ?_
      refine fX6_10 (v := .ref (u + 1)) rfl dX6_elapse_16 hj rfl ?_
      refine fX6_107 (v := .ref (u + 1 + 13)) rfl dX6_elapse_19 (ck0 hc) rfl ?_
      refine fX6_187 (v := .int (nI (C 0 2))) rfl dX6_elapse_22 (ck13 hc) rfl ?_
      have b23 := hK 0 2
      refine n_if_le (tgt := 70) (x := C 0 2) dX6_elapse_25 (by decide) (by omega) (fun c24 => ?_) (fun c24 => ?_)
      · refine v_aload_n dX6_elapse_70 rfl ?_
        refine fX6_10 (v := .ref (u + 1)) rfl dX6_elapse_71 hj rfl ?_
        refine v_callV (st := []) dX6_elapse_74 (t_X1_patents hc hB hJ) wX6_271 (ck0 hc) rfl rfl ⟨Nat.le_of_ble_eq_true rfl, Nat.le_of_ble_eq_true rfl⟩ (Nat.le_of_ble_eq_true rfl) ⟨Nat.le_refl _, Nat.le_refl _⟩ (fun r n2 h2 hq => ?_)
        obtain ⟨rfl, rfl, rfl⟩ := hq
        refine v_st (st2 := [.int (nI (cnt (fun z => decide (hold C z)) (C 0 1)))]) rfl ?_
        refine v_istore_n dX6_elapse_77 rfl (by decide) ?_
        refine v_ls (ls2 := [some (.ref u), some (.int (nI k)), some (.int (nI (cnt (fun z => decide (hold C z)) (C 0 1))))]) rfl ?_
        refine v_aload_n dX6_elapse_78 rfl ?_
        refine fX6_10 (v := .ref (u + 1)) rfl dX6_elapse_79 hj rfl ?_
        refine v_dup dX6_elapse_82 rfl ?_
        refine fX6_145 (v := .int (nI (C 0 3))) rfl dX6_elapse_83 (ck0 hc) rfl ?_
        have b25 := hK 0 3
        refine v_iload_n dX6_elapse_86 rfl ?_
        refine n_iadd (x := C 0 3) (y := k) dX6_elapse_87 ?_
        refine pX6_145 rfl dX6_elapse_88 (ck0 hc) (Nat.le_of_ble_eq_true rfl) ?_
        refine wr (cs3 (x := C 0 3 + k) hc) off_rf (by omega) (fun h1 hc1 ho1 => ?_)
        have hc26 := hc1
        have sa26 := ho1
        clear hc1 ho1
        have hK26 : bdk (b + 100) (cu C 0 3 (C 0 3 + k)) := bdk_cu hK (by omega) (by omega)
        have hD26 := hK26.bd (by omega)
        have fa27 := (sa26 (u) (by omega)).trans hj
        have fr28 := frP_tr (P := fun z => z < u ∨ u + 21 ≤ z) frP_rf sa26 (fun z (hz : z < u ∨ u + 21 ≤ z) => by omega)
        refine v_iload_n dX6_elapse_91 rfl ?_
        refine v_aload_n dX6_elapse_92 rfl ?_
        refine fX6_10 (v := .ref (u + 1)) rfl dX6_elapse_93 fa27 rfl ?_
        refine v_callV (st := [.int (nI (cnt (fun z => decide (hold C z)) (C 0 1)))]) dX6_elapse_96 (t_X1_patents hc26 hD26 hJ) wX6_271 (ck0 (C := cu C 0 3 (C 0 3 + k)) hc26) rfl rfl ⟨Nat.le_of_ble_eq_true rfl, Nat.le_of_ble_eq_true rfl⟩ (Nat.le_of_ble_eq_true rfl) ⟨Nat.le_refl _, Nat.le_refl _⟩ (fun r n2 h2 hq => ?_)
        obtain ⟨rfl, rfl, rfl⟩ := hq
        refine v_st (st2 := [.int (nI (cnt (fun z => decide (hold (cu C 0 3 (C 0 3 + k)) z)) (C 0 1))), .int (nI (cnt (fun z => decide (hold C z)) (C 0 1)))]) rfl ?_
        have hle : cnt (fun z => decide (hold (cu C 0 3 (C 0 3 + k)) z)) (C 0 1) ≤ cnt (fun z => decide (hold C z)) (C 0 1) := cnt_imp (fun z hz => decide_eq_true (Nat.lt_of_le_of_lt (Nat.le_add_right _ _) (of_decide_eq_true hz))) _
        refine n_isub (x := cnt (fun z => decide (hold C z)) (C 0 1)) (y := cnt (fun z => decide (hold (cu C 0 3 (C 0 3 + k)) z)) (C 0 1)) dX6_elapse_99 (by omega) ?_
        refine v_iret dX6_elapse_100 rfl ?_ (Nat.le_of_ble_eq_true rfl) (Nat.le_of_ble_eq_true rfl)
        have e9 : dPass C (nI k) = ((nI ((cnt (fun z => decide (hold C z)) (C 0 1)) - (cnt (fun z => decide (hold (cu C 0 3 (C 0 3 + k)) z)) (C 0 1))) : Int32), (cu C 0 3 (C 0 3 + k) : Ct), (none : Option (Int32 × Int32))) := by unfold dPass; all_goals (repeat (first | rw [if_pos (by first | assumption | omega | rfl | trivial)] | rw [if_neg (by first | assumption | omega)])); all_goals (try simp only [ek]); all_goals (try unfold dPassN); all_goals (repeat (first | rw [if_pos (by first | assumption | omega | rfl | trivial)] | rw [if_neg (by first | assumption | omega)])); all_goals (try unfold dPs); all_goals (repeat (first | rw [if_pos (by first | assumption | omega | rfl | trivial)] | rw [if_neg (by first | assumption | omega)])); all_goals rfl
        show pz G u sv rs dt _ _ _ _ _ _
        rw [e9]
        exact ⟨rfl, rfl, hc26, fa27, fr28⟩
      · refine v_aload_n dX6_elapse_28 rfl ?_
        refine fX6_10 (v := .ref (u + 1)) rfl dX6_elapse_29 hj rfl ?_
        refine fX6_107 (v := .ref (u + 1 + 13)) rfl dX6_elapse_32 (ck0 hc) rfl ?_
        refine fX6_190 (v := .ref (u + 1 + 17)) rfl dX6_elapse_35 (ck13 hc) rfl ?_
        refine v_iconst (v := nI 0) dX6_elapse_38 (by decide) ?_
        refine n_ialdv (f := C 14) (j := 0) (y := C 14 0) dX6_elapse_39 (ck17 hc) (by omega) (by decide) rfl ?_
        have b29 := hK 14 0
        refine v_aload_n dX6_elapse_40 rfl ?_
        refine fX6_10 (v := .ref (u + 1)) rfl dX6_elapse_41 hj rfl ?_
        refine fX6_145 (v := .int (nI (C 0 3))) rfl dX6_elapse_44 (ck0 hc) rfl ?_
        have b30 := hK 0 3
        refine v_iload_n dX6_elapse_47 rfl ?_
        refine n_iadd (x := C 0 3) (y := k) dX6_elapse_48 ?_
        refine n_icmp_ge (tgt := 70) (x := C 14 0) (y := C 0 3 + k) dX6_elapse_49 (by decide) (by omega) (by omega) (fun c31 => ?_) (fun c31 => ?_)
        · refine v_aload_n dX6_elapse_70 rfl ?_
          refine fX6_10 (v := .ref (u + 1)) rfl dX6_elapse_71 hj rfl ?_
          refine v_callV (st := []) dX6_elapse_74 (t_X1_patents hc hB hJ) wX6_271 (ck0 hc) rfl rfl ⟨Nat.le_of_ble_eq_true rfl, Nat.le_of_ble_eq_true rfl⟩ (Nat.le_of_ble_eq_true rfl) ⟨Nat.le_refl _, Nat.le_refl _⟩ (fun r n2 h2 hq => ?_)
          obtain ⟨rfl, rfl, rfl⟩ := hq
          refine v_st (st2 := [.int (nI (cnt (fun z => decide (hold C z)) (C 0 1)))]) rfl ?_
          refine v_istore_n dX6_elapse_77 rfl (by decide) ?_
          refine v_ls (ls2 := [some (.ref u), some (.int (nI k)), some (.int (nI (cnt (fun z => decide (hold C z)) (C 0 1))))]) rfl ?_
          refine v_aload_n dX6_elapse_78 rfl ?_
          refine fX6_10 (v := .ref (u + 1)) rfl dX6_elapse_79 hj rfl ?_
          refine v_dup dX6_elapse_82 rfl ?_
          refine fX6_145 (v := .int (nI (C 0 3))) rfl dX6_elapse_83 (ck0 hc) rfl ?_
          refine v_iload_n dX6_elapse_86 rfl ?_
          refine n_iadd (x := C 0 3) (y := k) dX6_elapse_87 ?_
          refine pX6_145 rfl dX6_elapse_88 (ck0 hc) (Nat.le_of_ble_eq_true rfl) ?_
          refine wr (cs3 (x := C 0 3 + k) hc) off_rf (by omega) (fun h1 hc1 ho1 => ?_)
          have hc32 := hc1
          have sa32 := ho1
          clear hc1 ho1
          have hK32 : bdk (b + 100) (cu C 0 3 (C 0 3 + k)) := bdk_cu hK (by omega) (by omega)
          have hD32 := hK32.bd (by omega)
          have fa33 := (sa32 (u) (by omega)).trans hj
          have fr34 := frP_tr (P := fun z => z < u ∨ u + 21 ≤ z) frP_rf sa32 (fun z (hz : z < u ∨ u + 21 ≤ z) => by omega)
          refine v_iload_n dX6_elapse_91 rfl ?_
          refine v_aload_n dX6_elapse_92 rfl ?_
          refine fX6_10 (v := .ref (u + 1)) rfl dX6_elapse_93 fa33 rfl ?_
          refine v_callV (st := [.int (nI (cnt (fun z => decide (hold C z)) (C 0 1)))]) dX6_elapse_96 (t_X1_patents hc32 hD32 hJ) wX6_271 (ck0 (C := cu C 0 3 (C 0 3 + k)) hc32) rfl rfl ⟨Nat.le_of_ble_eq_true rfl, Nat.le_of_ble_eq_true rfl⟩ (Nat.le_of_ble_eq_true rfl) ⟨Nat.le_refl _, Nat.le_refl _⟩ (fun r n2 h2 hq => ?_)
          obtain ⟨rfl, rfl, rfl⟩ := hq
          refine v_st (st2 := [.int (nI (cnt (fun z => decide (hold (cu C 0 3 (C 0 3 + k)) z)) (C 0 1))), .int (nI (cnt (fun z => decide (hold C z)) (C 0 1)))]) rfl ?_
          have hle : cnt (fun z => decide (hold (cu C 0 3 (C 0 3 + k)) z)) (C 0 1) ≤ cnt (fun z => decide (hold C z)) (C 0 1) := cnt_imp (fun z hz => decide_eq_true (Nat.lt_of_le_of_lt (Nat.le_add_right _ _) (of_decide_eq_true hz))) _
          refine n_isub (x := cnt (fun z => decide (hold C z)) (C 0 1)) (y := cnt (fun z => decide (hold (cu C 0 3 (C 0 3 + k)) z)) (C 0 1)) dX6_elapse_99 (by omega) ?_
          refine v_iret dX6_elapse_100 rfl ?_ (Nat.le_of_ble_eq_true rfl) (Nat.le_of_ble_eq_true rfl)
          have e9 : dPass C (nI k) = ((nI ((cnt (fun z => decide (hold C z)) (C 0 1)) - (cnt (fun z => decide (hold (cu C 0 3 (C 0 3 + k)) z)) (C 0 1))) : Int32), (cu C 0 3 (C 0 3 + k) : Ct), (none : Option (Int32 × Int32))) := by unfold dPass; all_goals (repeat (first | rw [if_pos (by first | assumption | omega | rfl | trivial)] | rw [if_neg (by first | assumption | omega)])); all_goals (try simp only [ek]); all_goals (try unfold dPassN); all_goals (repeat (first | rw [if_pos (by first | assumption | omega | rfl | trivial)] | rw [if_neg (by first | assumption | omega)])); all_goals (try unfold dPs); all_goals (repeat (first | rw [if_pos (by first | assumption | omega | rfl | trivial)] | rw [if_neg (by first | assumption | omega)])); all_goals rfl
          show pz G u sv rs dt _ _ _ _ _ _
          rw [e9]
          exact ⟨rfl, rfl, hc32, fa33, fr34⟩
        · refine v_aload_n dX6_elapse_52 rfl ?_
          refine v_iconst (v := nI 5) dX6_elapse_53 (by decide) ?_
          refine v_aload_n dX6_elapse_54 rfl ?_
          refine fX6_10 (v := .ref (u + 1)) rfl dX6_elapse_55 hj rfl ?_
          refine fX6_107 (v := .ref (u + 1 + 13)) rfl dX6_elapse_58 (ck0 hc) rfl ?_
          refine fX6_151 (v := .ref (u + 1 + 15)) rfl dX6_elapse_61 (ck13 hc) rfl ?_
          refine v_iconst (v := nI 0) dX6_elapse_64 (by decide) ?_
          refine n_ialdv (f := C 12) (j := 0) (y := C 12 0) dX6_elapse_65 (ck15 hc) (by omega) (by decide) rfl ?_
          have b35 := hK 12 0
          refine v_callV (st := []) dX6_elapse_66 (t_X6_refuse (r1 := nI 5) (d1 := nI (C 12 0)) hj) wX6_243 hj rfl rfl ⟨Nat.le_of_ble_eq_true rfl, Nat.le_of_ble_eq_true rfl⟩ (Nat.le_of_ble_eq_true rfl) ⟨Nat.le_refl _, Nat.le_refl _⟩ (fun r n2 h2 hq => ?_)
          obtain ⟨rfl, rfl, fa36, sa37⟩ := hq
          refine v_st (st2 := [.int ((-1014))]) rfl ?_
          have hc38 := ct_offn hc sa37 (by omega)
          have fr39 := frP_tr (P := fun z => z < u ∨ u + 21 ≤ z) frP_rf sa37 (fun z (hz : z < u ∨ u + 21 ≤ z) => by omega)
          refine v_iret dX6_elapse_69 rfl ?_ (Nat.le_of_ble_eq_true rfl) (Nat.le_of_ble_eq_true rfl)
          have e9 : dPass C (nI k) = (((-1014) : Int32), (C : Ct), (some (nI 5, nI (C 12 0)) : Option (Int32 × Int32))) := by unfold dPass; all_goals (repeat (first | rw [if_pos (by first | assumption | omega | rfl | trivial)] | rw [if_neg (by first | assumption | omega)])); all_goals (try simp only [ek]); all_goals (try unfold dPassN); all_goals (repeat (first | rw [if_pos (by first | assumption | omega | rfl | trivial)] | rw [if_neg (by first | assumption | omega)])); all_goals (try unfold dPs); all_goals (repeat (first | rw [if_pos (by first | assumption | omega | rfl | trivial)] | rw [if_neg (by first | assumption | omega)])); all_goals rfl
          show pz G u sv rs dt _ _ _ _ _ _
          rw [e9]
          exact ⟨rfl, rfl, hc38, fa36, fr39⟩
    · refine v_sipush (v := (-1012)) dX6_elapse_11 (by decide) ?_
      refine v_iret dX6_elapse_14 rfl ?_ (Nat.le_of_ble_eq_true rfl) (Nat.le_of_ble_eq_true rfl)
      have e9 : dPass C x = (((-1012) : Int32), (C : Ct), (none : Option (Int32 × Int32))) := by unfold dPass; all_goals (repeat (first | rw [if_pos (by first | assumption | omega | rfl | trivial)] | rw [if_neg (by first | assumption | omega)])); all_goals (try unfold dPassN); all_goals (repeat (first | rw [if_pos (by first | assumption | omega | rfl | trivial)] | rw [if_neg (by first | assumption | omega)])); all_goals (try unfold dPs); all_goals (repeat (first | rw [if_pos (by first | assumption | omega | rfl | trivial)] | rw [if_neg (by first | assumption | omega)])); all_goals rfl
      show pz G u sv rs dt _ _ _ _ _ _
      rw [e9]
      exact ⟨rfl, rfl, hc, hj, frP_rf⟩
