theorem loopW {l : Launch} {G : vG} {M : vM} {rc rs : Nat} {Fz : vFin} {pc : Nat} {ls : List (Option Value)} {st : List Value} {n : Nat} {h : AH} {cells slots : Nat} {σ : Type} (Ls : Nat → σ → List (Option Value)) (Pre : Nat → σ → Prop) (w0 : Nat) (s0 : σ) (he : ls = Ls w0 s0) (hp : Pre w0 s0) (hs : ∀ (w : Nat) (s : σ), Pre w s → (∀ (w2 : Nat) (s2 : σ), w = w2 + 1 → Pre w2 s2 → V l G M rc rs Fz pc (Ls w2 s2) st n h cells slots) → V l G M rc rs Fz pc (Ls w s) st n h cells slots) : V l G M rc rs Fz pc ls st n h cells slots := by
  rw [he]
  have key : ∀ (w : Nat) (s : σ), Pre w s → V l G M rc rs Fz pc (Ls w s) st n h cells slots := by
    intro w
    induction w with
    | zero => intro s hp; exact hs 0 s hp (fun w2 s2 e => by omega)
    | succ k ih => intro s hp; exact hs (k + 1) s hp (fun w2 s2 e hp2 => by rw [show w2 = k by omega] at hp2 ⊢; exact ih s2 hp2)
  exact key w0 s0 hp
theorem nI_geg {j : Nat} (h : j < 2 ^ 31) {z : Int32} (hz : z.toInt < 0) : z ≤ nI j := by
  rw [Int32.le_iff_toInt_le, nI_toInt h]
  omega
def ltB (i : Nat) : Option Nat → Bool
  | none => false
  | some b => decide (i < b)
def stp (C : Ct) (f t w i : Nat) (r : Option Nat × Nat) : Option Nat × Nat := if r.2 < (if C 7 i = w then lauN C f i t else 0) ∨ ((if C 7 i = w then lauN C f i t else 0) = r.2 ∧ ltB i r.1 = true) then (some i, (if C 7 i = w then lauN C f i t else 0)) else r
def bwI (C : Ct) (f t w : Nat) : Nat → Option Nat × Nat → Option Nat × Nat
  | 0, s => s
  | i + 1, s => stp C f t w i (bwI C f t w i s)
def bwO (C : Ct) (f t : Nat) : Nat → Option Nat × Nat → Option Nat × Nat
  | 0, s => s
  | w + 1, s => if s.2 ≤ w + 1 + C 1 f then bwO C f t w (bwI C f t (w + 1) (C 0 1) s) else s
theorem stp_t {C : Ct} {f t w i L : Nat} {r : Option Nat × Nat} (hL : (if C 7 i = w then lauN C f i t else 0) = L) (h : r.2 < L ∨ (L = r.2 ∧ ltB i r.1 = true)) : stp C f t w i r = (some i, L) := by
  unfold stp
  rw [hL, if_pos h]
theorem stp_f {C : Ct} {f t w i L : Nat} {r : Option Nat × Nat} (hL : (if C 7 i = w then lauN C f i t else 0) = L) (h1 : L ≤ r.2) (h2 : L = r.2 → ltB i r.1 = false) : stp C f t w i r = r := by
  unfold stp
  rw [hL, if_neg]
  rintro (h | ⟨h3, h4⟩)
  · omega
  · rw [h2 h3] at h4
    cases h4
def okS (s : Option Nat × Nat) : Prop := s.2 < 2 ^ 31 ∧ ∀ b, s.1 = some b → b < 12
theorem stp_ok {C : Ct} {f t w i : Nat} {r : Option Nat × Nat} (hB : bd C) (hi : i < 12) (h : okS r) : okS (stp C f t w i r) := by
  have hL : (if C 7 i = w then lauN C f i t else 0) < 2 ^ 31 := by
    split
    · exact lauN_bd hB _ _ _
    · decide
  unfold stp
  by_cases h9 : r.2 < (if C 7 i = w then lauN C f i t else 0) ∨ ((if C 7 i = w then lauN C f i t else 0) = r.2 ∧ ltB i r.1 = true)
  · rw [if_pos h9]
    exact ⟨hL, fun b hb => by cases hb; exact hi⟩
  · rw [if_neg h9]
    exact h
theorem bwI_ok {C : Ct} {f t w : Nat} {s : Option Nat × Nat} (hB : bd C) (h : okS s) : ∀ {i : Nat}, i ≤ 12 → okS (bwI C f t w i s)
  | 0, _ => h
  | i + 1, hi => stp_ok hB (by omega) (bwI_ok hB h (by omega))
theorem tlS_bd {C : Ct} (hB : bd C) (j : Nat) : tlS C j < 2 ^ 31 := by
  have := sm_le (f := fun t => C 10 (j * 4 + t)) (b := 2 ^ 28) (n := 4) (fun k _ => Nat.le_of_lt (hB 10 _))
  unfold tlS
  omega
set_option maxRecDepth 20000 in
set_option maxHeartbeats 4000000 in
theorem t_X1_endJokeByJoke {l : Launch} {G : vG} {n : Nat} {h : AH}  {q : Nat} {C : Ct} (hc : ct G h q C) (hB : bd C) (hJ : C 0 1 ≤ 12) : Mt l G mX1_endJokeByJoke [.ref q] n h 0 0 (fun r n2 h2 => r = some (.int (oN (-1015) (endF C (C 0 1)))) ∧ n2 = n ∧ h2 = h) := by
  refine Mt.of (by decide) (Nat.le_of_ble_eq_true rfl) rfl ?_
  refine v_ls (ls2 := [some (.ref q), none, none]) rfl ?_
  refine v_sipush (v := (-1015)) dX1_endJokeByJoke_0 (by decide) ?_
  refine v_istore_n dX1_endJokeByJoke_3 rfl (by decide) ?_
  refine v_ls (ls2 := [some (.ref q), some (.int ((-1015))), none]) rfl ?_
  refine v_iconst (v := nI 0) dX1_endJokeByJoke_4 (by decide) ?_
  refine v_istore_n dX1_endJokeByJoke_5 rfl (by decide) ?_
  refine v_ls (ls2 := [some (.ref q), some (.int ((-1015))), some (.int (nI 0))]) rfl ?_
  refine loopV (fun i6 => [some (.ref q), some (.int (oN (-1015) (endF C i6))), some (.int (nI i6))]) (fun _ => True) (N := C 0 1) 0 (by omega) rfl trivial (fun i6 hi6 hp6 ih6 => ?_)
  rcases ho : endF C i6 with _ | e
  · refine v_ls (ls2 := [some (.ref q), some (.int ((-1015))), some (.int (nI i6))]) rfl ?_
    refine v_iload_n dX1_endJokeByJoke_6 rfl ?_
    refine v_aload_n dX1_endJokeByJoke_7 rfl ?_
    refine fX1_21 (v := .ref (q + 8)) rfl dX1_endJokeByJoke_8 (ck0 hc) rfl ?_
    refine fX1_79 (v := .int (nI (C 0 1))) rfl dX1_endJokeByJoke_11 (ck8 hc) rfl ?_
    have b1 := hB 0 1
    refine n_icmp_ge (tgt := 61) (x := i6) (y := C 0 1) dX1_endJokeByJoke_14 (by decide) (by omega) (by omega) (fun c2 => ?_) (fun c2 => ?_)
    · refine v_iload_n dX1_endJokeByJoke_61 rfl ?_
      refine v_iret dX1_endJokeByJoke_62 rfl ?_ (Nat.le_refl _) (Nat.le_refl _)
      have e9 : i6 = C 0 1 := by omega
      subst e9
      exact ⟨by rw [ho]; rfl, rfl, rfl⟩
    · refine v_aload_n dX1_endJokeByJoke_17 rfl ?_
      refine v_iload_n dX1_endJokeByJoke_18 rfl ?_
      refine v_callV (st := []) dX1_endJokeByJoke_19 (t_X1_holds (j := i6) hc hB (by omega)) wX1_72 (ck0 hc) rfl rfl ⟨Nat.le_of_ble_eq_true rfl, Nat.le_of_ble_eq_true rfl⟩ (Nat.le_of_ble_eq_true rfl) ⟨Nat.le_refl _, Nat.le_refl _⟩ (fun r n2 h2 hq => ?_)
      obtain ⟨rfl, rfl, rfl⟩ := hq
      refine v_st (st2 := [.int (nI (bI (hold C i6)))]) rfl ?_
      refine n_ifb_eq (tgt := 55) (p := hold C i6) dX1_endJokeByJoke_22 (by decide) (fun c3 => ?_) (fun c3 => ?_)
      · refine n_iinc (k := 1) (x := i6) dX1_endJokeByJoke_55 (by decide) rfl rfl (by decide) ?_
        refine v_ls (ls2 := [some (.ref q), some (.int ((-1015))), some (.int (nI (i6 + 1)))]) rfl ?_
        refine v_goto (tgt := 6) dX1_endJokeByJoke_58 (by decide) ?_
        refine v_ls (ls2 := [some (.ref q), some (.int (oN (-1015) (endF C ((i6 + 1))))), some (.int (nI ((i6 + 1))))]) ?_ (ih6 (by omega) trivial)
        rw [show endF C (i6 + 1) = none from by rw [endF, ho]; first | rfl | exact if_pos (by omega) | exact if_neg (by omega)]
        rfl
      · refine v_iload_n dX1_endJokeByJoke_25 rfl ?_
        refine v_sipush (v := (-1015)) dX1_endJokeByJoke_26 (by decide) ?_
        refine v_icmp_eq (tgt := 45) dX1_endJokeByJoke_29 (by decide) (fun _ => ?_) (fun z => absurd rfl z)
        refine v_aload_n dX1_endJokeByJoke_45 rfl ?_
        refine fX1_21 (v := .ref (q + 8)) rfl dX1_endJokeByJoke_46 (ck0 hc) rfl ?_
        refine fX1_69 (v := .ref (q + 11)) rfl dX1_endJokeByJoke_49 (ck8 hc) rfl ?_
        refine v_iload_n dX1_endJokeByJoke_52 rfl ?_
        refine n_ialdv (f := C 9) (j := i6) (y := C 9 i6) dX1_endJokeByJoke_53 (ck11 hc) (by omega) (by decide) rfl ?_
        have b4 := hB 9 i6
        refine v_istore_n dX1_endJokeByJoke_54 rfl (by decide) ?_
        refine v_ls (ls2 := [some (.ref q), some (.int (nI (C 9 i6))), some (.int (nI i6))]) rfl ?_
        refine n_iinc (k := 1) (x := i6) dX1_endJokeByJoke_55 (by decide) rfl rfl (by decide) ?_
        refine v_ls (ls2 := [some (.ref q), some (.int (nI (C 9 i6))), some (.int (nI (i6 + 1)))]) rfl ?_
        refine v_goto (tgt := 6) dX1_endJokeByJoke_58 (by decide) ?_
        refine v_ls (ls2 := [some (.ref q), some (.int (oN (-1015) (endF C ((i6 + 1))))), some (.int (nI ((i6 + 1))))]) ?_ (ih6 (by omega) trivial)
        rw [show endF C (i6 + 1) = some (C 9 i6) from by rw [endF, ho]; first | rfl | exact if_pos (by omega) | exact if_neg (by omega)]
        rfl
  · have hbe := endF_bd hB ho
    refine v_ls (ls2 := [some (.ref q), some (.int (nI e)), some (.int (nI i6))]) rfl ?_
    refine v_iload_n dX1_endJokeByJoke_6 rfl ?_
    refine v_aload_n dX1_endJokeByJoke_7 rfl ?_
    refine fX1_21 (v := .ref (q + 8)) rfl dX1_endJokeByJoke_8 (ck0 hc) rfl ?_
    refine fX1_79 (v := .int (nI (C 0 1))) rfl dX1_endJokeByJoke_11 (ck8 hc) rfl ?_
    have b5 := hB 0 1
    refine n_icmp_ge (tgt := 61) (x := i6) (y := C 0 1) dX1_endJokeByJoke_14 (by decide) (by omega) (by omega) (fun c6 => ?_) (fun c6 => ?_)
    · refine v_iload_n dX1_endJokeByJoke_61 rfl ?_
      refine v_iret dX1_endJokeByJoke_62 rfl ?_ (Nat.le_refl _) (Nat.le_refl _)
      have e9 : i6 = C 0 1 := by omega
      subst e9
      exact ⟨by rw [ho]; rfl, rfl, rfl⟩
    · refine v_aload_n dX1_endJokeByJoke_17 rfl ?_
      refine v_iload_n dX1_endJokeByJoke_18 rfl ?_
      refine v_callV (st := []) dX1_endJokeByJoke_19 (t_X1_holds (j := i6) hc hB (by omega)) wX1_72 (ck0 hc) rfl rfl ⟨Nat.le_of_ble_eq_true rfl, Nat.le_of_ble_eq_true rfl⟩ (Nat.le_of_ble_eq_true rfl) ⟨Nat.le_refl _, Nat.le_refl _⟩ (fun r n2 h2 hq => ?_)
      obtain ⟨rfl, rfl, rfl⟩ := hq
      refine v_st (st2 := [.int (nI (bI (hold C i6)))]) rfl ?_
      refine n_ifb_eq (tgt := 55) (p := hold C i6) dX1_endJokeByJoke_22 (by decide) (fun c7 => ?_) (fun c7 => ?_)
      · refine n_iinc (k := 1) (x := i6) dX1_endJokeByJoke_55 (by decide) rfl rfl (by decide) ?_
        refine v_ls (ls2 := [some (.ref q), some (.int (nI e)), some (.int (nI (i6 + 1)))]) rfl ?_
        refine v_goto (tgt := 6) dX1_endJokeByJoke_58 (by decide) ?_
        refine v_ls (ls2 := [some (.ref q), some (.int (oN (-1015) (endF C ((i6 + 1))))), some (.int (nI ((i6 + 1))))]) ?_ (ih6 (by omega) trivial)
        rw [show endF C (i6 + 1) = some (e) from by rw [endF, ho]; first | rfl | exact if_pos (by omega) | exact if_neg (by omega)]
        rfl
      · refine v_iload_n dX1_endJokeByJoke_25 rfl ?_
        refine v_sipush (v := (-1015)) dX1_endJokeByJoke_26 (by decide) ?_
        refine v_icmp_eq (tgt := 45) dX1_endJokeByJoke_29 (by decide) (fun z => absurd z (nI_ng (by omega) (by decide))) (fun _ => ?_)
        refine v_aload_n dX1_endJokeByJoke_32 rfl ?_
        refine fX1_21 (v := .ref (q + 8)) rfl dX1_endJokeByJoke_33 (ck0 hc) rfl ?_
        refine fX1_69 (v := .ref (q + 11)) rfl dX1_endJokeByJoke_36 (ck8 hc) rfl ?_
        refine v_iload_n dX1_endJokeByJoke_39 rfl ?_
        refine n_ialdv (f := C 9) (j := i6) (y := C 9 i6) dX1_endJokeByJoke_40 (ck11 hc) (by omega) (by decide) rfl ?_
        have b8 := hB 9 i6
        refine v_iload_n dX1_endJokeByJoke_41 rfl ?_
        refine n_icmp_ge (tgt := 55) (x := C 9 i6) (y := e) dX1_endJokeByJoke_42 (by decide) (by omega) (by omega) (fun c9 => ?_) (fun c9 => ?_)
        · refine n_iinc (k := 1) (x := i6) dX1_endJokeByJoke_55 (by decide) rfl rfl (by decide) ?_
          refine v_ls (ls2 := [some (.ref q), some (.int (nI e)), some (.int (nI (i6 + 1)))]) rfl ?_
          refine v_goto (tgt := 6) dX1_endJokeByJoke_58 (by decide) ?_
          refine v_ls (ls2 := [some (.ref q), some (.int (oN (-1015) (endF C ((i6 + 1))))), some (.int (nI ((i6 + 1))))]) ?_ (ih6 (by omega) trivial)
          rw [show endF C (i6 + 1) = some (e) from by rw [endF, ho]; first | rfl | exact if_pos (by omega) | exact if_neg (by omega)]
          rfl
        · refine v_aload_n dX1_endJokeByJoke_45 rfl ?_
          refine fX1_21 (v := .ref (q + 8)) rfl dX1_endJokeByJoke_46 (ck0 hc) rfl ?_
          refine fX1_69 (v := .ref (q + 11)) rfl dX1_endJokeByJoke_49 (ck8 hc) rfl ?_
          refine v_iload_n dX1_endJokeByJoke_52 rfl ?_
          refine n_ialdv (f := C 9) (j := i6) (y := C 9 i6) dX1_endJokeByJoke_53 (ck11 hc) (by omega) (by decide) rfl ?_
          refine v_istore_n dX1_endJokeByJoke_54 rfl (by decide) ?_
          refine v_ls (ls2 := [some (.ref q), some (.int (nI (C 9 i6))), some (.int (nI i6))]) rfl ?_
          refine n_iinc (k := 1) (x := i6) dX1_endJokeByJoke_55 (by decide) rfl rfl (by decide) ?_
          refine v_ls (ls2 := [some (.ref q), some (.int (nI (C 9 i6))), some (.int (nI (i6 + 1)))]) rfl ?_
          refine v_goto (tgt := 6) dX1_endJokeByJoke_58 (by decide) ?_
          refine v_ls (ls2 := [some (.ref q), some (.int (oN (-1015) (endF C ((i6 + 1))))), some (.int (nI ((i6 + 1))))]) ?_ (ih6 (by omega) trivial)
          rw [show endF C (i6 + 1) = some (C 9 i6) from by rw [endF, ho]; first | rfl | exact if_pos (by omega) | exact if_neg (by omega)]
          rfl
set_option maxRecDepth 20000 in
set_option maxHeartbeats 4000000 in
theorem t_X1_bestByWit {l : Launch} {G : vG} {n : Nat} {h : AH} {f t : Nat} {q : Nat} {C : Ct} (hc : ct G h q C) (hB : bd C) (hf : f < 6) (ht : t < 4) (hJ : C 0 1 ≤ 12) : Mt l G mX1_bestByWit [.ref q, .int (nI f), .int (nI t)] n h 0 0 (fun r n2 h2 => r = some (.int (oN (-1015) (bwO C f t 9 (none, 0)).1)) ∧ n2 = n ∧ h2 = h) := by
  refine Mt.of (by decide) (Nat.le_of_ble_eq_true rfl) rfl ?_
  refine v_ls (ls2 := [some (.ref q), some (.int (nI f)), some (.int (nI t)), none, none, none, none, none, none]) rfl ?_
  refine v_sipush (v := (-1015)) dX1_bestByWit_0 (by decide) ?_
  refine v_istore_n dX1_bestByWit_3 rfl (by decide) ?_
  refine v_ls (ls2 := [some (.ref q), some (.int (nI f)), some (.int (nI t)), some (.int ((-1015))), none, none, none, none, none]) rfl ?_
  refine v_iconst (v := nI 0) dX1_bestByWit_4 (by decide) ?_
  refine v_istore dX1_bestByWit_5 rfl (by decide) ?_
  refine v_ls (ls2 := [some (.ref q), some (.int (nI f)), some (.int (nI t)), some (.int ((-1015))), some (.int (nI 0)), none, none, none, none]) rfl ?_
  refine v_bipush (v := nI 9) dX1_bestByWit_7 (by decide) ?_
  refine v_istore dX1_bestByWit_9 rfl (by decide) ?_
  refine v_ls (ls2 := [some (.ref q), some (.int (nI f)), some (.int (nI t)), some (.int ((-1015))), some (.int (nI 0)), some (.int (nI 9)), none, none, none]) rfl ?_
  refine loopW (fun w s => [some (.ref q), some (.int (nI f)), some (.int (nI t)), some (.int (oN (-1015) s.1)), some (.int (nI s.2)), some (.int (nI w)), none, none, none]) (fun w s => w ≤ 9 ∧ okS s ∧ bwO C f t w s = bwO C f t 9 (none, 0)) 9 (none, 0) rfl ⟨by omega, ⟨by decide, fun b hb => by cases hb⟩, rfl⟩ (fun w s hp ihw => ?_)
  obtain ⟨hw9, hok, hpe⟩ := hp
  have hs2 := hok.1
  refine v_iload dX1_bestByWit_11 rfl ?_
  refine v_iconst (v := nI 1) dX1_bestByWit_13 (by decide) ?_
  refine n_icmp_lt (tgt := 129) (x := w) (y := 1) dX1_bestByWit_14 (by decide) (by omega) (by omega) (fun c1 => ?_) (fun c1 => ?_)
  · refine v_iload_n dX1_bestByWit_129 rfl ?_
    refine v_iret dX1_bestByWit_130 rfl ?_ (Nat.le_refl _) (Nat.le_refl _)
    have e9 : bwO C f t w s = s := by
      cases w with
      | zero => rfl
      | succ w2 => rw [bwO, if_neg (by omega)]
    exact ⟨by rw [← hpe, e9], rfl, rfl⟩
  · refine v_iload dX1_bestByWit_17 rfl ?_
    refine v_aload_n dX1_bestByWit_19 rfl ?_
    refine fX1_12 (v := .ref (q + 1)) rfl dX1_bestByWit_20 (ck0 hc) rfl ?_
    refine fX1_92 (v := .ref (q + 2)) rfl dX1_bestByWit_23 (ck1 hc) rfl ?_
    refine v_iload_n dX1_bestByWit_26 rfl ?_
    refine n_ialdv (f := C 1) (j := f) (y := C 1 f) dX1_bestByWit_27 (ck2 hc) (by omega) (by decide) rfl ?_
    have b2 := hB 1 f
    refine n_iadd (x := w) (y := C 1 f) dX1_bestByWit_28 ?_
    refine v_iload dX1_bestByWit_29 rfl ?_
    refine n_icmp_lt (tgt := 129) (x := w + C 1 f) (y := s.2) dX1_bestByWit_31 (by decide) (by omega) (by omega) (fun c3 => ?_) (fun c3 => ?_)
    · refine v_iload_n dX1_bestByWit_129 rfl ?_
      refine v_iret dX1_bestByWit_130 rfl ?_ (Nat.le_refl _) (Nat.le_refl _)
      have e9 : bwO C f t w s = s := by
        cases w with
        | zero => rfl
        | succ w2 => rw [bwO, if_neg (by omega)]
      exact ⟨by rw [← hpe, e9], rfl, rfl⟩
    · refine v_iconst (v := nI 0) dX1_bestByWit_34 (by decide) ?_
      refine v_istore dX1_bestByWit_35 rfl (by decide) ?_
      refine v_ls (ls2 := [some (.ref q), some (.int (nI f)), some (.int (nI t)), some (.int (oN (-1015) s.1)), some (.int (nI s.2)), some (.int (nI w)), some (.int (nI 0)), none, none]) rfl ?_
      refine loopV (fun i37 => [some (.ref q), some (.int (nI f)), some (.int (nI t)), some (.int (oN (-1015) (bwI C f t w i37 s).1)), some (.int (nI ((bwI C f t w i37 s).2))), some (.int (nI w)), some (.int (nI i37)), none, none]) (fun _ => True) (N := C 0 1) 0 (by omega) rfl trivial (fun i37 hi37 hp37 ih37 => ?_)
      obtain ⟨hr2, hr1⟩ := bwI_ok (f := f) (t := t) (w := w) (i := i37) hB hok (by omega)
      rcases hr : (bwI C f t w i37 s).1 with _ | b
      · refine v_ls (ls2 := [some (.ref q), some (.int (nI f)), some (.int (nI t)), some (.int ((-1015))), some (.int (nI ((bwI C f t w i37 s).2))), some (.int (nI w)), some (.int (nI i37)), none, none]) rfl ?_
        refine v_iload dX1_bestByWit_37 rfl ?_
        refine v_aload_n dX1_bestByWit_39 rfl ?_
        refine fX1_21 (v := .ref (q + 8)) rfl dX1_bestByWit_40 (ck0 hc) rfl ?_
        refine fX1_79 (v := .int (nI (C 0 1))) rfl dX1_bestByWit_43 (ck8 hc) rfl ?_
        have b4 := hB 0 1
        refine n_icmp_ge (tgt := 123) (x := i37) (y := C 0 1) dX1_bestByWit_46 (by decide) (by omega) (by omega) (fun c5 => ?_) (fun c5 => ?_)
        · obtain ⟨w2, rfl⟩ : ∃ w2, w = w2 + 1 := ⟨w - 1, by omega⟩
          have e9 : i37 = C 0 1 := by omega
          subst e9
          refine n_idec (x := w2) dX1_bestByWit_123 (by decide) rfl rfl (by decide) ?_
          refine v_goto (tgt := 11) dX1_bestByWit_126 (by decide) ?_
          refine v_forget 6 ?_
          refine v_ls (ls2 := [some (.ref q), some (.int (nI f)), some (.int (nI t)), some (.int (oN (-1015) (bwI C f t (w2 + 1) (C 0 1) s).1)), some (.int (nI ((bwI C f t (w2 + 1) (C 0 1) s).2))), some (.int (nI w2)), none, none, none]) (by rw [hr]; rfl) ?_
          exact ihw w2 (bwI C f t (w2 + 1) (C 0 1) s) rfl ⟨by omega, bwI_ok hB hok hJ, by rw [← hpe, bwO, if_pos (by omega)]⟩
        · refine v_aload_n dX1_bestByWit_49 rfl ?_
          refine fX1_21 (v := .ref (q + 8)) rfl dX1_bestByWit_50 (ck0 hc) rfl ?_
          refine fX1_89 (v := .ref (q + 9)) rfl dX1_bestByWit_53 (ck8 hc) rfl ?_
          refine v_iload dX1_bestByWit_56 rfl ?_
          refine n_ialdv (f := C 7) (j := i37) (y := C 7 i37) dX1_bestByWit_58 (ck9 hc) (by omega) (by decide) rfl ?_
          have b6 := hB 7 i37
          refine v_iload dX1_bestByWit_59 rfl ?_
          refine n_icmp_ne (tgt := 75) (x := C 7 i37) (y := w) dX1_bestByWit_61 (by decide) (by omega) (by omega) (fun c7 => ?_) (fun c7 => ?_)
          · refine v_iconst (v := nI 0) dX1_bestByWit_75 (by decide) ?_
            refine v_istore dX1_bestByWit_76 rfl (by decide) ?_
            refine v_ls (ls2 := [some (.ref q), some (.int (nI f)), some (.int (nI t)), some (.int ((-1015))), some (.int (nI ((bwI C f t w i37 s).2))), some (.int (nI w)), some (.int (nI i37)), some (.int (nI 0)), none]) rfl ?_
            refine v_iload dX1_bestByWit_78 rfl ?_
            refine v_iload dX1_bestByWit_80 rfl ?_
            refine n_icmp_ne (tgt := 95) (x := 0) (y := (bwI C f t w i37 s).2) dX1_bestByWit_82 (by decide) (by omega) (by omega) (fun c8 => ?_) (fun c8 => ?_)
            · refine v_iconst (v := nI 0) dX1_bestByWit_95 (by decide) ?_
              refine v_istore dX1_bestByWit_96 rfl (by decide) ?_
              refine v_ls (ls2 := [some (.ref q), some (.int (nI f)), some (.int (nI t)), some (.int ((-1015))), some (.int (nI ((bwI C f t w i37 s).2))), some (.int (nI w)), some (.int (nI i37)), some (.int (nI 0)), some (.int (nI 0))]) rfl ?_
              refine v_iload dX1_bestByWit_98 rfl ?_
              refine v_iload dX1_bestByWit_100 rfl ?_
              refine n_icmp_gt (tgt := 110) (x := 0) (y := (bwI C f t w i37 s).2) dX1_bestByWit_102 (by decide) (by omega) (by omega) (fun c9 => ?_) (fun c9 => ?_)
              · refine v_iload dX1_bestByWit_110 rfl ?_
                refine v_istore_n dX1_bestByWit_112 rfl (by decide) ?_
                refine v_ls (ls2 := [some (.ref q), some (.int (nI f)), some (.int (nI t)), some (.int (nI i37)), some (.int (nI ((bwI C f t w i37 s).2))), some (.int (nI w)), some (.int (nI i37)), some (.int (nI 0)), some (.int (nI 0))]) rfl ?_
                refine v_iload dX1_bestByWit_113 rfl ?_
                refine v_istore dX1_bestByWit_115 rfl (by decide) ?_
                refine v_ls (ls2 := [some (.ref q), some (.int (nI f)), some (.int (nI t)), some (.int (nI i37)), some (.int (nI 0)), some (.int (nI w)), some (.int (nI i37)), some (.int (nI 0)), some (.int (nI 0))]) rfl ?_
                refine n_iinc (k := 1) (x := i37) dX1_bestByWit_117 (by decide) rfl rfl (by decide) ?_
                refine v_ls (ls2 := [some (.ref q), some (.int (nI f)), some (.int (nI t)), some (.int (nI i37)), some (.int (nI 0)), some (.int (nI w)), some (.int (nI (i37 + 1))), some (.int (nI 0)), some (.int (nI 0))]) rfl ?_
                refine v_goto (tgt := 37) dX1_bestByWit_120 (by decide) ?_
                have hL : (if C 7 i37 = w then lauN C f i37 t else 0) = 0 := if_neg (by assumption)
                have hS : stp C f t w i37 (bwI C f t w i37 s) = (some i37, 0) := by first | exact stp_t hL (Or.inl (by omega)) | exact stp_t hL (Or.inr ⟨by omega, by simp only [ltB, hr]; exact decide_eq_true (by omega)⟩)
                refine v_forget 7 ?_
                refine v_forget 8 ?_
                refine v_ls (ls2 := [some (.ref q), some (.int (nI f)), some (.int (nI t)), some (.int (oN (-1015) (bwI C f t w ((i37 + 1)) s).1)), some (.int (nI ((bwI C f t w ((i37 + 1)) s).2))), some (.int (nI w)), some (.int (nI ((i37 + 1)))), none, none]) ?_ (ih37 (by omega) trivial)
                rw [show bwI C f t w (i37 + 1) s = stp C f t w i37 (bwI C f t w i37 s) from rfl, hS]
                rfl
              · refine v_iload dX1_bestByWit_105 rfl ?_
                refine n_if_eq (tgt := 117) (x := 0) dX1_bestByWit_107 (by decide) (by omega) (fun c10 => ?_) (fun c10 => ?_)
                · refine n_iinc (k := 1) (x := i37) dX1_bestByWit_117 (by decide) rfl rfl (by decide) ?_
                  refine v_ls (ls2 := [some (.ref q), some (.int (nI f)), some (.int (nI t)), some (.int ((-1015))), some (.int (nI ((bwI C f t w i37 s).2))), some (.int (nI w)), some (.int (nI (i37 + 1))), some (.int (nI 0)), some (.int (nI 0))]) rfl ?_
                  refine v_goto (tgt := 37) dX1_bestByWit_120 (by decide) ?_
                  have hL : (if C 7 i37 = w then lauN C f i37 t else 0) = 0 := if_neg (by assumption)
                  have hS : stp C f t w i37 (bwI C f t w i37 s) = bwI C f t w i37 s := stp_f hL (by omega) (fun z => by first | (exfalso; omega) | (simp only [ltB, hr]; done) | (simp only [ltB, hr]; exact decide_eq_false (by omega)))
                  refine v_forget 7 ?_
                  refine v_forget 8 ?_
                  refine v_ls (ls2 := [some (.ref q), some (.int (nI f)), some (.int (nI t)), some (.int (oN (-1015) (bwI C f t w ((i37 + 1)) s).1)), some (.int (nI ((bwI C f t w ((i37 + 1)) s).2))), some (.int (nI w)), some (.int (nI ((i37 + 1)))), none, none]) ?_ (ih37 (by omega) trivial)
                  rw [show bwI C f t w (i37 + 1) s = stp C f t w i37 (bwI C f t w i37 s) from rfl, hS]
                  rw [hr]
                  rfl
                · refine v_iload dX1_bestByWit_110 rfl ?_
                  refine v_istore_n dX1_bestByWit_112 rfl (by decide) ?_
                  refine v_ls (ls2 := [some (.ref q), some (.int (nI f)), some (.int (nI t)), some (.int (nI i37)), some (.int (nI ((bwI C f t w i37 s).2))), some (.int (nI w)), some (.int (nI i37)), some (.int (nI 0)), some (.int (nI 0))]) rfl ?_
                  refine v_iload dX1_bestByWit_113 rfl ?_
                  refine v_istore dX1_bestByWit_115 rfl (by decide) ?_
                  refine v_ls (ls2 := [some (.ref q), some (.int (nI f)), some (.int (nI t)), some (.int (nI i37)), some (.int (nI 0)), some (.int (nI w)), some (.int (nI i37)), some (.int (nI 0)), some (.int (nI 0))]) rfl ?_
                  refine n_iinc (k := 1) (x := i37) dX1_bestByWit_117 (by decide) rfl rfl (by decide) ?_
                  refine v_ls (ls2 := [some (.ref q), some (.int (nI f)), some (.int (nI t)), some (.int (nI i37)), some (.int (nI 0)), some (.int (nI w)), some (.int (nI (i37 + 1))), some (.int (nI 0)), some (.int (nI 0))]) rfl ?_
                  refine v_goto (tgt := 37) dX1_bestByWit_120 (by decide) ?_
                  have hL : (if C 7 i37 = w then lauN C f i37 t else 0) = 0 := if_neg (by assumption)
                  have hS : stp C f t w i37 (bwI C f t w i37 s) = (some i37, 0) := by first | exact stp_t hL (Or.inl (by omega)) | exact stp_t hL (Or.inr ⟨by omega, by simp only [ltB, hr]; exact decide_eq_true (by omega)⟩)
                  refine v_forget 7 ?_
                  refine v_forget 8 ?_
                  refine v_ls (ls2 := [some (.ref q), some (.int (nI f)), some (.int (nI t)), some (.int (oN (-1015) (bwI C f t w ((i37 + 1)) s).1)), some (.int (nI ((bwI C f t w ((i37 + 1)) s).2))), some (.int (nI w)), some (.int (nI ((i37 + 1)))), none, none]) ?_ (ih37 (by omega) trivial)
                  rw [show bwI C f t w (i37 + 1) s = stp C f t w i37 (bwI C f t w i37 s) from rfl, hS]
                  rfl
            · refine v_iload dX1_bestByWit_85 rfl ?_
              refine v_iload_n dX1_bestByWit_87 rfl ?_
              refine v_icmp_ge (tgt := 95) dX1_bestByWit_88 (by decide) (fun _ => ?_) (fun z => absurd (nI_geg (by omega) (by decide)) z)
              refine v_iconst (v := nI 0) dX1_bestByWit_95 (by decide) ?_
              refine v_istore dX1_bestByWit_96 rfl (by decide) ?_
              refine v_ls (ls2 := [some (.ref q), some (.int (nI f)), some (.int (nI t)), some (.int ((-1015))), some (.int (nI ((bwI C f t w i37 s).2))), some (.int (nI w)), some (.int (nI i37)), some (.int (nI 0)), some (.int (nI 0))]) rfl ?_
              refine v_iload dX1_bestByWit_98 rfl ?_
              refine v_iload dX1_bestByWit_100 rfl ?_
              refine n_icmp_gt (tgt := 110) (x := 0) (y := (bwI C f t w i37 s).2) dX1_bestByWit_102 (by decide) (by omega) (by omega) (fun c11 => ?_) (fun c11 => ?_)
              · refine v_iload dX1_bestByWit_110 rfl ?_
                refine v_istore_n dX1_bestByWit_112 rfl (by decide) ?_
                refine v_ls (ls2 := [some (.ref q), some (.int (nI f)), some (.int (nI t)), some (.int (nI i37)), some (.int (nI ((bwI C f t w i37 s).2))), some (.int (nI w)), some (.int (nI i37)), some (.int (nI 0)), some (.int (nI 0))]) rfl ?_
                refine v_iload dX1_bestByWit_113 rfl ?_
                refine v_istore dX1_bestByWit_115 rfl (by decide) ?_
                refine v_ls (ls2 := [some (.ref q), some (.int (nI f)), some (.int (nI t)), some (.int (nI i37)), some (.int (nI 0)), some (.int (nI w)), some (.int (nI i37)), some (.int (nI 0)), some (.int (nI 0))]) rfl ?_
                refine n_iinc (k := 1) (x := i37) dX1_bestByWit_117 (by decide) rfl rfl (by decide) ?_
                refine v_ls (ls2 := [some (.ref q), some (.int (nI f)), some (.int (nI t)), some (.int (nI i37)), some (.int (nI 0)), some (.int (nI w)), some (.int (nI (i37 + 1))), some (.int (nI 0)), some (.int (nI 0))]) rfl ?_
                refine v_goto (tgt := 37) dX1_bestByWit_120 (by decide) ?_
                have hL : (if C 7 i37 = w then lauN C f i37 t else 0) = 0 := if_neg (by assumption)
                have hS : stp C f t w i37 (bwI C f t w i37 s) = (some i37, 0) := by first | exact stp_t hL (Or.inl (by omega)) | exact stp_t hL (Or.inr ⟨by omega, by simp only [ltB, hr]; exact decide_eq_true (by omega)⟩)
                refine v_forget 7 ?_
                refine v_forget 8 ?_
                refine v_ls (ls2 := [some (.ref q), some (.int (nI f)), some (.int (nI t)), some (.int (oN (-1015) (bwI C f t w ((i37 + 1)) s).1)), some (.int (nI ((bwI C f t w ((i37 + 1)) s).2))), some (.int (nI w)), some (.int (nI ((i37 + 1)))), none, none]) ?_ (ih37 (by omega) trivial)
                rw [show bwI C f t w (i37 + 1) s = stp C f t w i37 (bwI C f t w i37 s) from rfl, hS]
                rfl
              · refine v_iload dX1_bestByWit_105 rfl ?_
                refine n_if_eq (tgt := 117) (x := 0) dX1_bestByWit_107 (by decide) (by omega) (fun c12 => ?_) (fun c12 => ?_)
                · refine n_iinc (k := 1) (x := i37) dX1_bestByWit_117 (by decide) rfl rfl (by decide) ?_
                  refine v_ls (ls2 := [some (.ref q), some (.int (nI f)), some (.int (nI t)), some (.int ((-1015))), some (.int (nI ((bwI C f t w i37 s).2))), some (.int (nI w)), some (.int (nI (i37 + 1))), some (.int (nI 0)), some (.int (nI 0))]) rfl ?_
                  refine v_goto (tgt := 37) dX1_bestByWit_120 (by decide) ?_
                  have hL : (if C 7 i37 = w then lauN C f i37 t else 0) = 0 := if_neg (by assumption)
                  have hS : stp C f t w i37 (bwI C f t w i37 s) = bwI C f t w i37 s := stp_f hL (by omega) (fun z => by first | (exfalso; omega) | (simp only [ltB, hr]; done) | (simp only [ltB, hr]; exact decide_eq_false (by omega)))
                  refine v_forget 7 ?_
                  refine v_forget 8 ?_
                  refine v_ls (ls2 := [some (.ref q), some (.int (nI f)), some (.int (nI t)), some (.int (oN (-1015) (bwI C f t w ((i37 + 1)) s).1)), some (.int (nI ((bwI C f t w ((i37 + 1)) s).2))), some (.int (nI w)), some (.int (nI ((i37 + 1)))), none, none]) ?_ (ih37 (by omega) trivial)
                  rw [show bwI C f t w (i37 + 1) s = stp C f t w i37 (bwI C f t w i37 s) from rfl, hS]
                  rw [hr]
                  rfl
                · refine v_iload dX1_bestByWit_110 rfl ?_
                  refine v_istore_n dX1_bestByWit_112 rfl (by decide) ?_
                  refine v_ls (ls2 := [some (.ref q), some (.int (nI f)), some (.int (nI t)), some (.int (nI i37)), some (.int (nI ((bwI C f t w i37 s).2))), some (.int (nI w)), some (.int (nI i37)), some (.int (nI 0)), some (.int (nI 0))]) rfl ?_
                  refine v_iload dX1_bestByWit_113 rfl ?_
                  refine v_istore dX1_bestByWit_115 rfl (by decide) ?_
                  refine v_ls (ls2 := [some (.ref q), some (.int (nI f)), some (.int (nI t)), some (.int (nI i37)), some (.int (nI 0)), some (.int (nI w)), some (.int (nI i37)), some (.int (nI 0)), some (.int (nI 0))]) rfl ?_
                  refine n_iinc (k := 1) (x := i37) dX1_bestByWit_117 (by decide) rfl rfl (by decide) ?_
                  refine v_ls (ls2 := [some (.ref q), some (.int (nI f)), some (.int (nI t)), some (.int (nI i37)), some (.int (nI 0)), some (.int (nI w)), some (.int (nI (i37 + 1))), some (.int (nI 0)), some (.int (nI 0))]) rfl ?_
                  refine v_goto (tgt := 37) dX1_bestByWit_120 (by decide) ?_
                  have hL : (if C 7 i37 = w then lauN C f i37 t else 0) = 0 := if_neg (by assumption)
                  have hS : stp C f t w i37 (bwI C f t w i37 s) = (some i37, 0) := by first | exact stp_t hL (Or.inl (by omega)) | exact stp_t hL (Or.inr ⟨by omega, by simp only [ltB, hr]; exact decide_eq_true (by omega)⟩)
                  refine v_forget 7 ?_
                  refine v_forget 8 ?_
                  refine v_ls (ls2 := [some (.ref q), some (.int (nI f)), some (.int (nI t)), some (.int (oN (-1015) (bwI C f t w ((i37 + 1)) s).1)), some (.int (nI ((bwI C f t w ((i37 + 1)) s).2))), some (.int (nI w)), some (.int (nI ((i37 + 1)))), none, none]) ?_ (ih37 (by omega) trivial)
                  rw [show bwI C f t w (i37 + 1) s = stp C f t w i37 (bwI C f t w i37 s) from rfl, hS]
                  rfl
          · refine v_aload_n dX1_bestByWit_64 rfl ?_
            refine v_iload_n dX1_bestByWit_65 rfl ?_
            refine v_iload dX1_bestByWit_66 rfl ?_
            refine v_iload_n dX1_bestByWit_68 rfl ?_
            refine v_callV (st := []) dX1_bestByWit_69 (t_X1_laughsNow (f := f) (j := i37) (t := t) hc hB (by omega) (by omega) (by omega)) wX1_108 (ck0 hc) rfl rfl ⟨Nat.le_of_ble_eq_true rfl, Nat.le_of_ble_eq_true rfl⟩ (Nat.le_of_ble_eq_true rfl) ⟨Nat.le_refl _, Nat.le_refl _⟩ (fun r n2 h2 hq => ?_)
            obtain ⟨rfl, rfl, rfl⟩ := hq
            have bl13 := lauN_bd hB f i37 t
            refine v_st (st2 := [.int (nI (lauN C f i37 t))]) rfl ?_
            refine v_goto (tgt := 76) dX1_bestByWit_72 (by decide) ?_
            refine v_istore dX1_bestByWit_76 rfl (by decide) ?_
            refine v_ls (ls2 := [some (.ref q), some (.int (nI f)), some (.int (nI t)), some (.int ((-1015))), some (.int (nI ((bwI C f t w i37 s).2))), some (.int (nI w)), some (.int (nI i37)), some (.int (nI (lauN C f i37 t))), none]) rfl ?_
            refine v_iload dX1_bestByWit_78 rfl ?_
            refine v_iload dX1_bestByWit_80 rfl ?_
            refine n_icmp_ne (tgt := 95) (x := lauN C f i37 t) (y := (bwI C f t w i37 s).2) dX1_bestByWit_82 (by decide) (by omega) (by omega) (fun c14 => ?_) (fun c14 => ?_)
            · refine v_iconst (v := nI 0) dX1_bestByWit_95 (by decide) ?_
              refine v_istore dX1_bestByWit_96 rfl (by decide) ?_
              refine v_ls (ls2 := [some (.ref q), some (.int (nI f)), some (.int (nI t)), some (.int ((-1015))), some (.int (nI ((bwI C f t w i37 s).2))), some (.int (nI w)), some (.int (nI i37)), some (.int (nI (lauN C f i37 t))), some (.int (nI 0))]) rfl ?_
              refine v_iload dX1_bestByWit_98 rfl ?_
              refine v_iload dX1_bestByWit_100 rfl ?_
              refine n_icmp_gt (tgt := 110) (x := lauN C f i37 t) (y := (bwI C f t w i37 s).2) dX1_bestByWit_102 (by decide) (by omega) (by omega) (fun c15 => ?_) (fun c15 => ?_)
              · refine v_iload dX1_bestByWit_110 rfl ?_
                refine v_istore_n dX1_bestByWit_112 rfl (by decide) ?_
                refine v_ls (ls2 := [some (.ref q), some (.int (nI f)), some (.int (nI t)), some (.int (nI i37)), some (.int (nI ((bwI C f t w i37 s).2))), some (.int (nI w)), some (.int (nI i37)), some (.int (nI (lauN C f i37 t))), some (.int (nI 0))]) rfl ?_
                refine v_iload dX1_bestByWit_113 rfl ?_
                refine v_istore dX1_bestByWit_115 rfl (by decide) ?_
                refine v_ls (ls2 := [some (.ref q), some (.int (nI f)), some (.int (nI t)), some (.int (nI i37)), some (.int (nI (lauN C f i37 t))), some (.int (nI w)), some (.int (nI i37)), some (.int (nI (lauN C f i37 t))), some (.int (nI 0))]) rfl ?_
                refine n_iinc (k := 1) (x := i37) dX1_bestByWit_117 (by decide) rfl rfl (by decide) ?_
                refine v_ls (ls2 := [some (.ref q), some (.int (nI f)), some (.int (nI t)), some (.int (nI i37)), some (.int (nI (lauN C f i37 t))), some (.int (nI w)), some (.int (nI (i37 + 1))), some (.int (nI (lauN C f i37 t))), some (.int (nI 0))]) rfl ?_
                refine v_goto (tgt := 37) dX1_bestByWit_120 (by decide) ?_
                have hL : (if C 7 i37 = w then lauN C f i37 t else 0) = lauN C f i37 t := if_pos (by assumption)
                have hS : stp C f t w i37 (bwI C f t w i37 s) = (some i37, lauN C f i37 t) := by first | exact stp_t hL (Or.inl (by omega)) | exact stp_t hL (Or.inr ⟨by omega, by simp only [ltB, hr]; exact decide_eq_true (by omega)⟩)
                refine v_forget 7 ?_
                refine v_forget 8 ?_
                refine v_ls (ls2 := [some (.ref q), some (.int (nI f)), some (.int (nI t)), some (.int (oN (-1015) (bwI C f t w ((i37 + 1)) s).1)), some (.int (nI ((bwI C f t w ((i37 + 1)) s).2))), some (.int (nI w)), some (.int (nI ((i37 + 1)))), none, none]) ?_ (ih37 (by omega) trivial)
                rw [show bwI C f t w (i37 + 1) s = stp C f t w i37 (bwI C f t w i37 s) from rfl, hS]
                rfl
              · refine v_iload dX1_bestByWit_105 rfl ?_
                refine n_if_eq (tgt := 117) (x := 0) dX1_bestByWit_107 (by decide) (by omega) (fun c16 => ?_) (fun c16 => ?_)
                · refine n_iinc (k := 1) (x := i37) dX1_bestByWit_117 (by decide) rfl rfl (by decide) ?_
                  refine v_ls (ls2 := [some (.ref q), some (.int (nI f)), some (.int (nI t)), some (.int ((-1015))), some (.int (nI ((bwI C f t w i37 s).2))), some (.int (nI w)), some (.int (nI (i37 + 1))), some (.int (nI (lauN C f i37 t))), some (.int (nI 0))]) rfl ?_
                  refine v_goto (tgt := 37) dX1_bestByWit_120 (by decide) ?_
                  have hL : (if C 7 i37 = w then lauN C f i37 t else 0) = lauN C f i37 t := if_pos (by assumption)
                  have hS : stp C f t w i37 (bwI C f t w i37 s) = bwI C f t w i37 s := stp_f hL (by omega) (fun z => by first | (exfalso; omega) | (simp only [ltB, hr]; done) | (simp only [ltB, hr]; exact decide_eq_false (by omega)))
                  refine v_forget 7 ?_
                  refine v_forget 8 ?_
                  refine v_ls (ls2 := [some (.ref q), some (.int (nI f)), some (.int (nI t)), some (.int (oN (-1015) (bwI C f t w ((i37 + 1)) s).1)), some (.int (nI ((bwI C f t w ((i37 + 1)) s).2))), some (.int (nI w)), some (.int (nI ((i37 + 1)))), none, none]) ?_ (ih37 (by omega) trivial)
                  rw [show bwI C f t w (i37 + 1) s = stp C f t w i37 (bwI C f t w i37 s) from rfl, hS]
                  rw [hr]
                  rfl
                · refine v_iload dX1_bestByWit_110 rfl ?_
                  refine v_istore_n dX1_bestByWit_112 rfl (by decide) ?_
                  refine v_ls (ls2 := [some (.ref q), some (.int (nI f)), some (.int (nI t)), some (.int (nI i37)), some (.int (nI ((bwI C f t w i37 s).2))), some (.int (nI w)), some (.int (nI i37)), some (.int (nI (lauN C f i37 t))), some (.int (nI 0))]) rfl ?_
                  refine v_iload dX1_bestByWit_113 rfl ?_
                  refine v_istore dX1_bestByWit_115 rfl (by decide) ?_
                  refine v_ls (ls2 := [some (.ref q), some (.int (nI f)), some (.int (nI t)), some (.int (nI i37)), some (.int (nI (lauN C f i37 t))), some (.int (nI w)), some (.int (nI i37)), some (.int (nI (lauN C f i37 t))), some (.int (nI 0))]) rfl ?_
                  refine n_iinc (k := 1) (x := i37) dX1_bestByWit_117 (by decide) rfl rfl (by decide) ?_
                  refine v_ls (ls2 := [some (.ref q), some (.int (nI f)), some (.int (nI t)), some (.int (nI i37)), some (.int (nI (lauN C f i37 t))), some (.int (nI w)), some (.int (nI (i37 + 1))), some (.int (nI (lauN C f i37 t))), some (.int (nI 0))]) rfl ?_
                  refine v_goto (tgt := 37) dX1_bestByWit_120 (by decide) ?_
                  have hL : (if C 7 i37 = w then lauN C f i37 t else 0) = lauN C f i37 t := if_pos (by assumption)
                  have hS : stp C f t w i37 (bwI C f t w i37 s) = (some i37, lauN C f i37 t) := by first | exact stp_t hL (Or.inl (by omega)) | exact stp_t hL (Or.inr ⟨by omega, by simp only [ltB, hr]; exact decide_eq_true (by omega)⟩)
                  refine v_forget 7 ?_
                  refine v_forget 8 ?_
                  refine v_ls (ls2 := [some (.ref q), some (.int (nI f)), some (.int (nI t)), some (.int (oN (-1015) (bwI C f t w ((i37 + 1)) s).1)), some (.int (nI ((bwI C f t w ((i37 + 1)) s).2))), some (.int (nI w)), some (.int (nI ((i37 + 1)))), none, none]) ?_ (ih37 (by omega) trivial)
                  rw [show bwI C f t w (i37 + 1) s = stp C f t w i37 (bwI C f t w i37 s) from rfl, hS]
                  rfl
            · refine v_iload dX1_bestByWit_85 rfl ?_
              refine v_iload_n dX1_bestByWit_87 rfl ?_
              refine v_icmp_ge (tgt := 95) dX1_bestByWit_88 (by decide) (fun _ => ?_) (fun z => absurd (nI_geg (by omega) (by decide)) z)
              refine v_iconst (v := nI 0) dX1_bestByWit_95 (by decide) ?_
              refine v_istore dX1_bestByWit_96 rfl (by decide) ?_
              refine v_ls (ls2 := [some (.ref q), some (.int (nI f)), some (.int (nI t)), some (.int ((-1015))), some (.int (nI ((bwI C f t w i37 s).2))), some (.int (nI w)), some (.int (nI i37)), some (.int (nI (lauN C f i37 t))), some (.int (nI 0))]) rfl ?_
              refine v_iload dX1_bestByWit_98 rfl ?_
              refine v_iload dX1_bestByWit_100 rfl ?_
              refine n_icmp_gt (tgt := 110) (x := lauN C f i37 t) (y := (bwI C f t w i37 s).2) dX1_bestByWit_102 (by decide) (by omega) (by omega) (fun c17 => ?_) (fun c17 => ?_)
              · refine v_iload dX1_bestByWit_110 rfl ?_
                refine v_istore_n dX1_bestByWit_112 rfl (by decide) ?_
                refine v_ls (ls2 := [some (.ref q), some (.int (nI f)), some (.int (nI t)), some (.int (nI i37)), some (.int (nI ((bwI C f t w i37 s).2))), some (.int (nI w)), some (.int (nI i37)), some (.int (nI (lauN C f i37 t))), some (.int (nI 0))]) rfl ?_
                refine v_iload dX1_bestByWit_113 rfl ?_
                refine v_istore dX1_bestByWit_115 rfl (by decide) ?_
                refine v_ls (ls2 := [some (.ref q), some (.int (nI f)), some (.int (nI t)), some (.int (nI i37)), some (.int (nI (lauN C f i37 t))), some (.int (nI w)), some (.int (nI i37)), some (.int (nI (lauN C f i37 t))), some (.int (nI 0))]) rfl ?_
                refine n_iinc (k := 1) (x := i37) dX1_bestByWit_117 (by decide) rfl rfl (by decide) ?_
                refine v_ls (ls2 := [some (.ref q), some (.int (nI f)), some (.int (nI t)), some (.int (nI i37)), some (.int (nI (lauN C f i37 t))), some (.int (nI w)), some (.int (nI (i37 + 1))), some (.int (nI (lauN C f i37 t))), some (.int (nI 0))]) rfl ?_
                refine v_goto (tgt := 37) dX1_bestByWit_120 (by decide) ?_
                have hL : (if C 7 i37 = w then lauN C f i37 t else 0) = lauN C f i37 t := if_pos (by assumption)
                have hS : stp C f t w i37 (bwI C f t w i37 s) = (some i37, lauN C f i37 t) := by first | exact stp_t hL (Or.inl (by omega)) | exact stp_t hL (Or.inr ⟨by omega, by simp only [ltB, hr]; exact decide_eq_true (by omega)⟩)
                refine v_forget 7 ?_
                refine v_forget 8 ?_
                refine v_ls (ls2 := [some (.ref q), some (.int (nI f)), some (.int (nI t)), some (.int (oN (-1015) (bwI C f t w ((i37 + 1)) s).1)), some (.int (nI ((bwI C f t w ((i37 + 1)) s).2))), some (.int (nI w)), some (.int (nI ((i37 + 1)))), none, none]) ?_ (ih37 (by omega) trivial)
                rw [show bwI C f t w (i37 + 1) s = stp C f t w i37 (bwI C f t w i37 s) from rfl, hS]
                rfl
              · refine v_iload dX1_bestByWit_105 rfl ?_
                refine n_if_eq (tgt := 117) (x := 0) dX1_bestByWit_107 (by decide) (by omega) (fun c18 => ?_) (fun c18 => ?_)
                · refine n_iinc (k := 1) (x := i37) dX1_bestByWit_117 (by decide) rfl rfl (by decide) ?_
                  refine v_ls (ls2 := [some (.ref q), some (.int (nI f)), some (.int (nI t)), some (.int ((-1015))), some (.int (nI ((bwI C f t w i37 s).2))), some (.int (nI w)), some (.int (nI (i37 + 1))), some (.int (nI (lauN C f i37 t))), some (.int (nI 0))]) rfl ?_
                  refine v_goto (tgt := 37) dX1_bestByWit_120 (by decide) ?_
                  have hL : (if C 7 i37 = w then lauN C f i37 t else 0) = lauN C f i37 t := if_pos (by assumption)
                  have hS : stp C f t w i37 (bwI C f t w i37 s) = bwI C f t w i37 s := stp_f hL (by omega) (fun z => by first | (exfalso; omega) | (simp only [ltB, hr]; done) | (simp only [ltB, hr]; exact decide_eq_false (by omega)))
                  refine v_forget 7 ?_
                  refine v_forget 8 ?_
                  refine v_ls (ls2 := [some (.ref q), some (.int (nI f)), some (.int (nI t)), some (.int (oN (-1015) (bwI C f t w ((i37 + 1)) s).1)), some (.int (nI ((bwI C f t w ((i37 + 1)) s).2))), some (.int (nI w)), some (.int (nI ((i37 + 1)))), none, none]) ?_ (ih37 (by omega) trivial)
                  rw [show bwI C f t w (i37 + 1) s = stp C f t w i37 (bwI C f t w i37 s) from rfl, hS]
                  rw [hr]
                  rfl
                · refine v_iload dX1_bestByWit_110 rfl ?_
                  refine v_istore_n dX1_bestByWit_112 rfl (by decide) ?_
                  refine v_ls (ls2 := [some (.ref q), some (.int (nI f)), some (.int (nI t)), some (.int (nI i37)), some (.int (nI ((bwI C f t w i37 s).2))), some (.int (nI w)), some (.int (nI i37)), some (.int (nI (lauN C f i37 t))), some (.int (nI 0))]) rfl ?_
                  refine v_iload dX1_bestByWit_113 rfl ?_
                  refine v_istore dX1_bestByWit_115 rfl (by decide) ?_
                  refine v_ls (ls2 := [some (.ref q), some (.int (nI f)), some (.int (nI t)), some (.int (nI i37)), some (.int (nI (lauN C f i37 t))), some (.int (nI w)), some (.int (nI i37)), some (.int (nI (lauN C f i37 t))), some (.int (nI 0))]) rfl ?_
                  refine n_iinc (k := 1) (x := i37) dX1_bestByWit_117 (by decide) rfl rfl (by decide) ?_
                  refine v_ls (ls2 := [some (.ref q), some (.int (nI f)), some (.int (nI t)), some (.int (nI i37)), some (.int (nI (lauN C f i37 t))), some (.int (nI w)), some (.int (nI (i37 + 1))), some (.int (nI (lauN C f i37 t))), some (.int (nI 0))]) rfl ?_
                  refine v_goto (tgt := 37) dX1_bestByWit_120 (by decide) ?_
                  have hL : (if C 7 i37 = w then lauN C f i37 t else 0) = lauN C f i37 t := if_pos (by assumption)
                  have hS : stp C f t w i37 (bwI C f t w i37 s) = (some i37, lauN C f i37 t) := by first | exact stp_t hL (Or.inl (by omega)) | exact stp_t hL (Or.inr ⟨by omega, by simp only [ltB, hr]; exact decide_eq_true (by omega)⟩)
                  refine v_forget 7 ?_
                  refine v_forget 8 ?_
                  refine v_ls (ls2 := [some (.ref q), some (.int (nI f)), some (.int (nI t)), some (.int (oN (-1015) (bwI C f t w ((i37 + 1)) s).1)), some (.int (nI ((bwI C f t w ((i37 + 1)) s).2))), some (.int (nI w)), some (.int (nI ((i37 + 1)))), none, none]) ?_ (ih37 (by omega) trivial)
                  rw [show bwI C f t w (i37 + 1) s = stp C f t w i37 (bwI C f t w i37 s) from rfl, hS]
                  rfl
      · have hb12 := hr1 b hr
        refine v_ls (ls2 := [some (.ref q), some (.int (nI f)), some (.int (nI t)), some (.int (nI b)), some (.int (nI ((bwI C f t w i37 s).2))), some (.int (nI w)), some (.int (nI i37)), none, none]) rfl ?_
        refine v_iload dX1_bestByWit_37 rfl ?_
        refine v_aload_n dX1_bestByWit_39 rfl ?_
        refine fX1_21 (v := .ref (q + 8)) rfl dX1_bestByWit_40 (ck0 hc) rfl ?_
        refine fX1_79 (v := .int (nI (C 0 1))) rfl dX1_bestByWit_43 (ck8 hc) rfl ?_
        have b19 := hB 0 1
        refine n_icmp_ge (tgt := 123) (x := i37) (y := C 0 1) dX1_bestByWit_46 (by decide) (by omega) (by omega) (fun c20 => ?_) (fun c20 => ?_)
        · obtain ⟨w2, rfl⟩ : ∃ w2, w = w2 + 1 := ⟨w - 1, by omega⟩
          have e9 : i37 = C 0 1 := by omega
          subst e9
          refine n_idec (x := w2) dX1_bestByWit_123 (by decide) rfl rfl (by decide) ?_
          refine v_goto (tgt := 11) dX1_bestByWit_126 (by decide) ?_
          refine v_forget 6 ?_
          refine v_ls (ls2 := [some (.ref q), some (.int (nI f)), some (.int (nI t)), some (.int (oN (-1015) (bwI C f t (w2 + 1) (C 0 1) s).1)), some (.int (nI ((bwI C f t (w2 + 1) (C 0 1) s).2))), some (.int (nI w2)), none, none, none]) (by rw [hr]; rfl) ?_
          exact ihw w2 (bwI C f t (w2 + 1) (C 0 1) s) rfl ⟨by omega, bwI_ok hB hok hJ, by rw [← hpe, bwO, if_pos (by omega)]⟩
        · refine v_aload_n dX1_bestByWit_49 rfl ?_
          refine fX1_21 (v := .ref (q + 8)) rfl dX1_bestByWit_50 (ck0 hc) rfl ?_
          refine fX1_89 (v := .ref (q + 9)) rfl dX1_bestByWit_53 (ck8 hc) rfl ?_
          refine v_iload dX1_bestByWit_56 rfl ?_
          refine n_ialdv (f := C 7) (j := i37) (y := C 7 i37) dX1_bestByWit_58 (ck9 hc) (by omega) (by decide) rfl ?_
          have b21 := hB 7 i37
          refine v_iload dX1_bestByWit_59 rfl ?_
          refine n_icmp_ne (tgt := 75) (x := C 7 i37) (y := w) dX1_bestByWit_61 (by decide) (by omega) (by omega) (fun c22 => ?_) (fun c22 => ?_)
          · refine v_iconst (v := nI 0) dX1_bestByWit_75 (by decide) ?_
            refine v_istore dX1_bestByWit_76 rfl (by decide) ?_
            refine v_ls (ls2 := [some (.ref q), some (.int (nI f)), some (.int (nI t)), some (.int (nI b)), some (.int (nI ((bwI C f t w i37 s).2))), some (.int (nI w)), some (.int (nI i37)), some (.int (nI 0)), none]) rfl ?_
            refine v_iload dX1_bestByWit_78 rfl ?_
            refine v_iload dX1_bestByWit_80 rfl ?_
            refine n_icmp_ne (tgt := 95) (x := 0) (y := (bwI C f t w i37 s).2) dX1_bestByWit_82 (by decide) (by omega) (by omega) (fun c23 => ?_) (fun c23 => ?_)
            · refine v_iconst (v := nI 0) dX1_bestByWit_95 (by decide) ?_
              refine v_istore dX1_bestByWit_96 rfl (by decide) ?_
              refine v_ls (ls2 := [some (.ref q), some (.int (nI f)), some (.int (nI t)), some (.int (nI b)), some (.int (nI ((bwI C f t w i37 s).2))), some (.int (nI w)), some (.int (nI i37)), some (.int (nI 0)), some (.int (nI 0))]) rfl ?_
              refine v_iload dX1_bestByWit_98 rfl ?_
              refine v_iload dX1_bestByWit_100 rfl ?_
              refine n_icmp_gt (tgt := 110) (x := 0) (y := (bwI C f t w i37 s).2) dX1_bestByWit_102 (by decide) (by omega) (by omega) (fun c24 => ?_) (fun c24 => ?_)
              · refine v_iload dX1_bestByWit_110 rfl ?_
                refine v_istore_n dX1_bestByWit_112 rfl (by decide) ?_
                refine v_ls (ls2 := [some (.ref q), some (.int (nI f)), some (.int (nI t)), some (.int (nI i37)), some (.int (nI ((bwI C f t w i37 s).2))), some (.int (nI w)), some (.int (nI i37)), some (.int (nI 0)), some (.int (nI 0))]) rfl ?_
                refine v_iload dX1_bestByWit_113 rfl ?_
                refine v_istore dX1_bestByWit_115 rfl (by decide) ?_
                refine v_ls (ls2 := [some (.ref q), some (.int (nI f)), some (.int (nI t)), some (.int (nI i37)), some (.int (nI 0)), some (.int (nI w)), some (.int (nI i37)), some (.int (nI 0)), some (.int (nI 0))]) rfl ?_
                refine n_iinc (k := 1) (x := i37) dX1_bestByWit_117 (by decide) rfl rfl (by decide) ?_
                refine v_ls (ls2 := [some (.ref q), some (.int (nI f)), some (.int (nI t)), some (.int (nI i37)), some (.int (nI 0)), some (.int (nI w)), some (.int (nI (i37 + 1))), some (.int (nI 0)), some (.int (nI 0))]) rfl ?_
                refine v_goto (tgt := 37) dX1_bestByWit_120 (by decide) ?_
                have hL : (if C 7 i37 = w then lauN C f i37 t else 0) = 0 := if_neg (by assumption)
                have hS : stp C f t w i37 (bwI C f t w i37 s) = (some i37, 0) := by first | exact stp_t hL (Or.inl (by omega)) | exact stp_t hL (Or.inr ⟨by omega, by simp only [ltB, hr]; exact decide_eq_true (by omega)⟩)
                refine v_forget 7 ?_
                refine v_forget 8 ?_
                refine v_ls (ls2 := [some (.ref q), some (.int (nI f)), some (.int (nI t)), some (.int (oN (-1015) (bwI C f t w ((i37 + 1)) s).1)), some (.int (nI ((bwI C f t w ((i37 + 1)) s).2))), some (.int (nI w)), some (.int (nI ((i37 + 1)))), none, none]) ?_ (ih37 (by omega) trivial)
                rw [show bwI C f t w (i37 + 1) s = stp C f t w i37 (bwI C f t w i37 s) from rfl, hS]
                rfl
              · refine v_iload dX1_bestByWit_105 rfl ?_
                refine n_if_eq (tgt := 117) (x := 0) dX1_bestByWit_107 (by decide) (by omega) (fun c25 => ?_) (fun c25 => ?_)
                · refine n_iinc (k := 1) (x := i37) dX1_bestByWit_117 (by decide) rfl rfl (by decide) ?_
                  refine v_ls (ls2 := [some (.ref q), some (.int (nI f)), some (.int (nI t)), some (.int (nI b)), some (.int (nI ((bwI C f t w i37 s).2))), some (.int (nI w)), some (.int (nI (i37 + 1))), some (.int (nI 0)), some (.int (nI 0))]) rfl ?_
                  refine v_goto (tgt := 37) dX1_bestByWit_120 (by decide) ?_
                  have hL : (if C 7 i37 = w then lauN C f i37 t else 0) = 0 := if_neg (by assumption)
                  have hS : stp C f t w i37 (bwI C f t w i37 s) = bwI C f t w i37 s := stp_f hL (by omega) (fun z => by first | (exfalso; omega) | (simp only [ltB, hr]; done) | (simp only [ltB, hr]; exact decide_eq_false (by omega)))
                  refine v_forget 7 ?_
                  refine v_forget 8 ?_
                  refine v_ls (ls2 := [some (.ref q), some (.int (nI f)), some (.int (nI t)), some (.int (oN (-1015) (bwI C f t w ((i37 + 1)) s).1)), some (.int (nI ((bwI C f t w ((i37 + 1)) s).2))), some (.int (nI w)), some (.int (nI ((i37 + 1)))), none, none]) ?_ (ih37 (by omega) trivial)
                  rw [show bwI C f t w (i37 + 1) s = stp C f t w i37 (bwI C f t w i37 s) from rfl, hS]
                  rw [hr]
                  rfl
                · refine v_iload dX1_bestByWit_110 rfl ?_
                  refine v_istore_n dX1_bestByWit_112 rfl (by decide) ?_
                  refine v_ls (ls2 := [some (.ref q), some (.int (nI f)), some (.int (nI t)), some (.int (nI i37)), some (.int (nI ((bwI C f t w i37 s).2))), some (.int (nI w)), some (.int (nI i37)), some (.int (nI 0)), some (.int (nI 0))]) rfl ?_
                  refine v_iload dX1_bestByWit_113 rfl ?_
                  refine v_istore dX1_bestByWit_115 rfl (by decide) ?_
                  refine v_ls (ls2 := [some (.ref q), some (.int (nI f)), some (.int (nI t)), some (.int (nI i37)), some (.int (nI 0)), some (.int (nI w)), some (.int (nI i37)), some (.int (nI 0)), some (.int (nI 0))]) rfl ?_
                  refine n_iinc (k := 1) (x := i37) dX1_bestByWit_117 (by decide) rfl rfl (by decide) ?_
                  refine v_ls (ls2 := [some (.ref q), some (.int (nI f)), some (.int (nI t)), some (.int (nI i37)), some (.int (nI 0)), some (.int (nI w)), some (.int (nI (i37 + 1))), some (.int (nI 0)), some (.int (nI 0))]) rfl ?_
                  refine v_goto (tgt := 37) dX1_bestByWit_120 (by decide) ?_
                  have hL : (if C 7 i37 = w then lauN C f i37 t else 0) = 0 := if_neg (by assumption)
                  have hS : stp C f t w i37 (bwI C f t w i37 s) = (some i37, 0) := by first | exact stp_t hL (Or.inl (by omega)) | exact stp_t hL (Or.inr ⟨by omega, by simp only [ltB, hr]; exact decide_eq_true (by omega)⟩)
                  refine v_forget 7 ?_
                  refine v_forget 8 ?_
                  refine v_ls (ls2 := [some (.ref q), some (.int (nI f)), some (.int (nI t)), some (.int (oN (-1015) (bwI C f t w ((i37 + 1)) s).1)), some (.int (nI ((bwI C f t w ((i37 + 1)) s).2))), some (.int (nI w)), some (.int (nI ((i37 + 1)))), none, none]) ?_ (ih37 (by omega) trivial)
                  rw [show bwI C f t w (i37 + 1) s = stp C f t w i37 (bwI C f t w i37 s) from rfl, hS]
                  rfl
            · refine v_iload dX1_bestByWit_85 rfl ?_
              refine v_iload_n dX1_bestByWit_87 rfl ?_
              refine n_icmp_ge (tgt := 95) (x := i37) (y := b) dX1_bestByWit_88 (by decide) (by omega) (by omega) (fun c26 => ?_) (fun c26 => ?_)
              · refine v_iconst (v := nI 0) dX1_bestByWit_95 (by decide) ?_
                refine v_istore dX1_bestByWit_96 rfl (by decide) ?_
                refine v_ls (ls2 := [some (.ref q), some (.int (nI f)), some (.int (nI t)), some (.int (nI b)), some (.int (nI ((bwI C f t w i37 s).2))), some (.int (nI w)), some (.int (nI i37)), some (.int (nI 0)), some (.int (nI 0))]) rfl ?_
                refine v_iload dX1_bestByWit_98 rfl ?_
                refine v_iload dX1_bestByWit_100 rfl ?_
                refine n_icmp_gt (tgt := 110) (x := 0) (y := (bwI C f t w i37 s).2) dX1_bestByWit_102 (by decide) (by omega) (by omega) (fun c27 => ?_) (fun c27 => ?_)
                · refine v_iload dX1_bestByWit_110 rfl ?_
                  refine v_istore_n dX1_bestByWit_112 rfl (by decide) ?_
                  refine v_ls (ls2 := [some (.ref q), some (.int (nI f)), some (.int (nI t)), some (.int (nI i37)), some (.int (nI ((bwI C f t w i37 s).2))), some (.int (nI w)), some (.int (nI i37)), some (.int (nI 0)), some (.int (nI 0))]) rfl ?_
                  refine v_iload dX1_bestByWit_113 rfl ?_
                  refine v_istore dX1_bestByWit_115 rfl (by decide) ?_
                  refine v_ls (ls2 := [some (.ref q), some (.int (nI f)), some (.int (nI t)), some (.int (nI i37)), some (.int (nI 0)), some (.int (nI w)), some (.int (nI i37)), some (.int (nI 0)), some (.int (nI 0))]) rfl ?_
                  refine n_iinc (k := 1) (x := i37) dX1_bestByWit_117 (by decide) rfl rfl (by decide) ?_
                  refine v_ls (ls2 := [some (.ref q), some (.int (nI f)), some (.int (nI t)), some (.int (nI i37)), some (.int (nI 0)), some (.int (nI w)), some (.int (nI (i37 + 1))), some (.int (nI 0)), some (.int (nI 0))]) rfl ?_
                  refine v_goto (tgt := 37) dX1_bestByWit_120 (by decide) ?_
                  have hL : (if C 7 i37 = w then lauN C f i37 t else 0) = 0 := if_neg (by assumption)
                  have hS : stp C f t w i37 (bwI C f t w i37 s) = (some i37, 0) := by first | exact stp_t hL (Or.inl (by omega)) | exact stp_t hL (Or.inr ⟨by omega, by simp only [ltB, hr]; exact decide_eq_true (by omega)⟩)
                  refine v_forget 7 ?_
                  refine v_forget 8 ?_
                  refine v_ls (ls2 := [some (.ref q), some (.int (nI f)), some (.int (nI t)), some (.int (oN (-1015) (bwI C f t w ((i37 + 1)) s).1)), some (.int (nI ((bwI C f t w ((i37 + 1)) s).2))), some (.int (nI w)), some (.int (nI ((i37 + 1)))), none, none]) ?_ (ih37 (by omega) trivial)
                  rw [show bwI C f t w (i37 + 1) s = stp C f t w i37 (bwI C f t w i37 s) from rfl, hS]
                  rfl
                · refine v_iload dX1_bestByWit_105 rfl ?_
                  refine n_if_eq (tgt := 117) (x := 0) dX1_bestByWit_107 (by decide) (by omega) (fun c28 => ?_) (fun c28 => ?_)
                  · refine n_iinc (k := 1) (x := i37) dX1_bestByWit_117 (by decide) rfl rfl (by decide) ?_
                    refine v_ls (ls2 := [some (.ref q), some (.int (nI f)), some (.int (nI t)), some (.int (nI b)), some (.int (nI ((bwI C f t w i37 s).2))), some (.int (nI w)), some (.int (nI (i37 + 1))), some (.int (nI 0)), some (.int (nI 0))]) rfl ?_
                    refine v_goto (tgt := 37) dX1_bestByWit_120 (by decide) ?_
                    have hL : (if C 7 i37 = w then lauN C f i37 t else 0) = 0 := if_neg (by assumption)
                    have hS : stp C f t w i37 (bwI C f t w i37 s) = bwI C f t w i37 s := stp_f hL (by omega) (fun z => by first | (exfalso; omega) | (simp only [ltB, hr]; done) | (simp only [ltB, hr]; exact decide_eq_false (by omega)))
                    refine v_forget 7 ?_
                    refine v_forget 8 ?_
                    refine v_ls (ls2 := [some (.ref q), some (.int (nI f)), some (.int (nI t)), some (.int (oN (-1015) (bwI C f t w ((i37 + 1)) s).1)), some (.int (nI ((bwI C f t w ((i37 + 1)) s).2))), some (.int (nI w)), some (.int (nI ((i37 + 1)))), none, none]) ?_ (ih37 (by omega) trivial)
                    rw [show bwI C f t w (i37 + 1) s = stp C f t w i37 (bwI C f t w i37 s) from rfl, hS]
                    rw [hr]
                    rfl
                  · refine v_iload dX1_bestByWit_110 rfl ?_
                    refine v_istore_n dX1_bestByWit_112 rfl (by decide) ?_
                    refine v_ls (ls2 := [some (.ref q), some (.int (nI f)), some (.int (nI t)), some (.int (nI i37)), some (.int (nI ((bwI C f t w i37 s).2))), some (.int (nI w)), some (.int (nI i37)), some (.int (nI 0)), some (.int (nI 0))]) rfl ?_
                    refine v_iload dX1_bestByWit_113 rfl ?_
                    refine v_istore dX1_bestByWit_115 rfl (by decide) ?_
                    refine v_ls (ls2 := [some (.ref q), some (.int (nI f)), some (.int (nI t)), some (.int (nI i37)), some (.int (nI 0)), some (.int (nI w)), some (.int (nI i37)), some (.int (nI 0)), some (.int (nI 0))]) rfl ?_
                    refine n_iinc (k := 1) (x := i37) dX1_bestByWit_117 (by decide) rfl rfl (by decide) ?_
                    refine v_ls (ls2 := [some (.ref q), some (.int (nI f)), some (.int (nI t)), some (.int (nI i37)), some (.int (nI 0)), some (.int (nI w)), some (.int (nI (i37 + 1))), some (.int (nI 0)), some (.int (nI 0))]) rfl ?_
                    refine v_goto (tgt := 37) dX1_bestByWit_120 (by decide) ?_
                    have hL : (if C 7 i37 = w then lauN C f i37 t else 0) = 0 := if_neg (by assumption)
                    have hS : stp C f t w i37 (bwI C f t w i37 s) = (some i37, 0) := by first | exact stp_t hL (Or.inl (by omega)) | exact stp_t hL (Or.inr ⟨by omega, by simp only [ltB, hr]; exact decide_eq_true (by omega)⟩)
                    refine v_forget 7 ?_
                    refine v_forget 8 ?_
                    refine v_ls (ls2 := [some (.ref q), some (.int (nI f)), some (.int (nI t)), some (.int (oN (-1015) (bwI C f t w ((i37 + 1)) s).1)), some (.int (nI ((bwI C f t w ((i37 + 1)) s).2))), some (.int (nI w)), some (.int (nI ((i37 + 1)))), none, none]) ?_ (ih37 (by omega) trivial)
                    rw [show bwI C f t w (i37 + 1) s = stp C f t w i37 (bwI C f t w i37 s) from rfl, hS]
                    rfl
              · refine v_iconst (v := nI 1) dX1_bestByWit_91 (by decide) ?_
                refine v_goto (tgt := 96) dX1_bestByWit_92 (by decide) ?_
                refine v_istore dX1_bestByWit_96 rfl (by decide) ?_
                refine v_ls (ls2 := [some (.ref q), some (.int (nI f)), some (.int (nI t)), some (.int (nI b)), some (.int (nI ((bwI C f t w i37 s).2))), some (.int (nI w)), some (.int (nI i37)), some (.int (nI 0)), some (.int (nI 1))]) rfl ?_
                refine v_iload dX1_bestByWit_98 rfl ?_
                refine v_iload dX1_bestByWit_100 rfl ?_
                refine n_icmp_gt (tgt := 110) (x := 0) (y := (bwI C f t w i37 s).2) dX1_bestByWit_102 (by decide) (by omega) (by omega) (fun c29 => ?_) (fun c29 => ?_)
                · refine v_iload dX1_bestByWit_110 rfl ?_
                  refine v_istore_n dX1_bestByWit_112 rfl (by decide) ?_
                  refine v_ls (ls2 := [some (.ref q), some (.int (nI f)), some (.int (nI t)), some (.int (nI i37)), some (.int (nI ((bwI C f t w i37 s).2))), some (.int (nI w)), some (.int (nI i37)), some (.int (nI 0)), some (.int (nI 1))]) rfl ?_
                  refine v_iload dX1_bestByWit_113 rfl ?_
                  refine v_istore dX1_bestByWit_115 rfl (by decide) ?_
                  refine v_ls (ls2 := [some (.ref q), some (.int (nI f)), some (.int (nI t)), some (.int (nI i37)), some (.int (nI 0)), some (.int (nI w)), some (.int (nI i37)), some (.int (nI 0)), some (.int (nI 1))]) rfl ?_
                  refine n_iinc (k := 1) (x := i37) dX1_bestByWit_117 (by decide) rfl rfl (by decide) ?_
                  refine v_ls (ls2 := [some (.ref q), some (.int (nI f)), some (.int (nI t)), some (.int (nI i37)), some (.int (nI 0)), some (.int (nI w)), some (.int (nI (i37 + 1))), some (.int (nI 0)), some (.int (nI 1))]) rfl ?_
                  refine v_goto (tgt := 37) dX1_bestByWit_120 (by decide) ?_
                  have hL : (if C 7 i37 = w then lauN C f i37 t else 0) = 0 := if_neg (by assumption)
                  have hS : stp C f t w i37 (bwI C f t w i37 s) = (some i37, 0) := by first | exact stp_t hL (Or.inl (by omega)) | exact stp_t hL (Or.inr ⟨by omega, by simp only [ltB, hr]; exact decide_eq_true (by omega)⟩)
                  refine v_forget 7 ?_
                  refine v_forget 8 ?_
                  refine v_ls (ls2 := [some (.ref q), some (.int (nI f)), some (.int (nI t)), some (.int (oN (-1015) (bwI C f t w ((i37 + 1)) s).1)), some (.int (nI ((bwI C f t w ((i37 + 1)) s).2))), some (.int (nI w)), some (.int (nI ((i37 + 1)))), none, none]) ?_ (ih37 (by omega) trivial)
                  rw [show bwI C f t w (i37 + 1) s = stp C f t w i37 (bwI C f t w i37 s) from rfl, hS]
                  rfl
                · refine v_iload dX1_bestByWit_105 rfl ?_
                  refine n_if_eq (tgt := 117) (x := 1) dX1_bestByWit_107 (by decide) (by omega) (fun c30 => ?_) (fun c30 => ?_)
                  · refine n_iinc (k := 1) (x := i37) dX1_bestByWit_117 (by decide) rfl rfl (by decide) ?_
                    refine v_ls (ls2 := [some (.ref q), some (.int (nI f)), some (.int (nI t)), some (.int (nI b)), some (.int (nI ((bwI C f t w i37 s).2))), some (.int (nI w)), some (.int (nI (i37 + 1))), some (.int (nI 0)), some (.int (nI 1))]) rfl ?_
                    refine v_goto (tgt := 37) dX1_bestByWit_120 (by decide) ?_
                    have hL : (if C 7 i37 = w then lauN C f i37 t else 0) = 0 := if_neg (by assumption)
                    have hS : stp C f t w i37 (bwI C f t w i37 s) = bwI C f t w i37 s := stp_f hL (by omega) (fun z => by first | (exfalso; omega) | (simp only [ltB, hr]; done) | (simp only [ltB, hr]; exact decide_eq_false (by omega)))
                    refine v_forget 7 ?_
                    refine v_forget 8 ?_
                    refine v_ls (ls2 := [some (.ref q), some (.int (nI f)), some (.int (nI t)), some (.int (oN (-1015) (bwI C f t w ((i37 + 1)) s).1)), some (.int (nI ((bwI C f t w ((i37 + 1)) s).2))), some (.int (nI w)), some (.int (nI ((i37 + 1)))), none, none]) ?_ (ih37 (by omega) trivial)
                    rw [show bwI C f t w (i37 + 1) s = stp C f t w i37 (bwI C f t w i37 s) from rfl, hS]
                    rw [hr]
                    rfl
                  · refine v_iload dX1_bestByWit_110 rfl ?_
                    refine v_istore_n dX1_bestByWit_112 rfl (by decide) ?_
                    refine v_ls (ls2 := [some (.ref q), some (.int (nI f)), some (.int (nI t)), some (.int (nI i37)), some (.int (nI ((bwI C f t w i37 s).2))), some (.int (nI w)), some (.int (nI i37)), some (.int (nI 0)), some (.int (nI 1))]) rfl ?_
                    refine v_iload dX1_bestByWit_113 rfl ?_
                    refine v_istore dX1_bestByWit_115 rfl (by decide) ?_
                    refine v_ls (ls2 := [some (.ref q), some (.int (nI f)), some (.int (nI t)), some (.int (nI i37)), some (.int (nI 0)), some (.int (nI w)), some (.int (nI i37)), some (.int (nI 0)), some (.int (nI 1))]) rfl ?_
                    refine n_iinc (k := 1) (x := i37) dX1_bestByWit_117 (by decide) rfl rfl (by decide) ?_
                    refine v_ls (ls2 := [some (.ref q), some (.int (nI f)), some (.int (nI t)), some (.int (nI i37)), some (.int (nI 0)), some (.int (nI w)), some (.int (nI (i37 + 1))), some (.int (nI 0)), some (.int (nI 1))]) rfl ?_
                    refine v_goto (tgt := 37) dX1_bestByWit_120 (by decide) ?_
                    have hL : (if C 7 i37 = w then lauN C f i37 t else 0) = 0 := if_neg (by assumption)
                    have hS : stp C f t w i37 (bwI C f t w i37 s) = (some i37, 0) := by first | exact stp_t hL (Or.inl (by omega)) | exact stp_t hL (Or.inr ⟨by omega, by simp only [ltB, hr]; exact decide_eq_true (by omega)⟩)
                    refine v_forget 7 ?_
                    refine v_forget 8 ?_
                    refine v_ls (ls2 := [some (.ref q), some (.int (nI f)), some (.int (nI t)), some (.int (oN (-1015) (bwI C f t w ((i37 + 1)) s).1)), some (.int (nI ((bwI C f t w ((i37 + 1)) s).2))), some (.int (nI w)), some (.int (nI ((i37 + 1)))), none, none]) ?_ (ih37 (by omega) trivial)
                    rw [show bwI C f t w (i37 + 1) s = stp C f t w i37 (bwI C f t w i37 s) from rfl, hS]
                    rfl
          · refine v_aload_n dX1_bestByWit_64 rfl ?_
            refine v_iload_n dX1_bestByWit_65 rfl ?_
            refine v_iload dX1_bestByWit_66 rfl ?_
            refine v_iload_n dX1_bestByWit_68 rfl ?_
            refine v_callV (st := []) dX1_bestByWit_69 (t_X1_laughsNow (f := f) (j := i37) (t := t) hc hB (by omega) (by omega) (by omega)) wX1_108 (ck0 hc) rfl rfl ⟨Nat.le_of_ble_eq_true rfl, Nat.le_of_ble_eq_true rfl⟩ (Nat.le_of_ble_eq_true rfl) ⟨Nat.le_refl _, Nat.le_refl _⟩ (fun r n2 h2 hq => ?_)
            obtain ⟨rfl, rfl, rfl⟩ := hq
            have bl31 := lauN_bd hB f i37 t
            refine v_st (st2 := [.int (nI (lauN C f i37 t))]) rfl ?_
            refine v_goto (tgt := 76) dX1_bestByWit_72 (by decide) ?_
            refine v_istore dX1_bestByWit_76 rfl (by decide) ?_
            refine v_ls (ls2 := [some (.ref q), some (.int (nI f)), some (.int (nI t)), some (.int (nI b)), some (.int (nI ((bwI C f t w i37 s).2))), some (.int (nI w)), some (.int (nI i37)), some (.int (nI (lauN C f i37 t))), none]) rfl ?_
            refine v_iload dX1_bestByWit_78 rfl ?_
            refine v_iload dX1_bestByWit_80 rfl ?_
            refine n_icmp_ne (tgt := 95) (x := lauN C f i37 t) (y := (bwI C f t w i37 s).2) dX1_bestByWit_82 (by decide) (by omega) (by omega) (fun c32 => ?_) (fun c32 => ?_)
            · refine v_iconst (v := nI 0) dX1_bestByWit_95 (by decide) ?_
              refine v_istore dX1_bestByWit_96 rfl (by decide) ?_
              refine v_ls (ls2 := [some (.ref q), some (.int (nI f)), some (.int (nI t)), some (.int (nI b)), some (.int (nI ((bwI C f t w i37 s).2))), some (.int (nI w)), some (.int (nI i37)), some (.int (nI (lauN C f i37 t))), some (.int (nI 0))]) rfl ?_
              refine v_iload dX1_bestByWit_98 rfl ?_
              refine v_iload dX1_bestByWit_100 rfl ?_
              refine n_icmp_gt (tgt := 110) (x := lauN C f i37 t) (y := (bwI C f t w i37 s).2) dX1_bestByWit_102 (by decide) (by omega) (by omega) (fun c33 => ?_) (fun c33 => ?_)
              · refine v_iload dX1_bestByWit_110 rfl ?_
                refine v_istore_n dX1_bestByWit_112 rfl (by decide) ?_
                refine v_ls (ls2 := [some (.ref q), some (.int (nI f)), some (.int (nI t)), some (.int (nI i37)), some (.int (nI ((bwI C f t w i37 s).2))), some (.int (nI w)), some (.int (nI i37)), some (.int (nI (lauN C f i37 t))), some (.int (nI 0))]) rfl ?_
                refine v_iload dX1_bestByWit_113 rfl ?_
                refine v_istore dX1_bestByWit_115 rfl (by decide) ?_
                refine v_ls (ls2 := [some (.ref q), some (.int (nI f)), some (.int (nI t)), some (.int (nI i37)), some (.int (nI (lauN C f i37 t))), some (.int (nI w)), some (.int (nI i37)), some (.int (nI (lauN C f i37 t))), some (.int (nI 0))]) rfl ?_
                refine n_iinc (k := 1) (x := i37) dX1_bestByWit_117 (by decide) rfl rfl (by decide) ?_
                refine v_ls (ls2 := [some (.ref q), some (.int (nI f)), some (.int (nI t)), some (.int (nI i37)), some (.int (nI (lauN C f i37 t))), some (.int (nI w)), some (.int (nI (i37 + 1))), some (.int (nI (lauN C f i37 t))), some (.int (nI 0))]) rfl ?_
                refine v_goto (tgt := 37) dX1_bestByWit_120 (by decide) ?_
                have hL : (if C 7 i37 = w then lauN C f i37 t else 0) = lauN C f i37 t := if_pos (by assumption)
                have hS : stp C f t w i37 (bwI C f t w i37 s) = (some i37, lauN C f i37 t) := by first | exact stp_t hL (Or.inl (by omega)) | exact stp_t hL (Or.inr ⟨by omega, by simp only [ltB, hr]; exact decide_eq_true (by omega)⟩)
                refine v_forget 7 ?_
                refine v_forget 8 ?_
                refine v_ls (ls2 := [some (.ref q), some (.int (nI f)), some (.int (nI t)), some (.int (oN (-1015) (bwI C f t w ((i37 + 1)) s).1)), some (.int (nI ((bwI C f t w ((i37 + 1)) s).2))), some (.int (nI w)), some (.int (nI ((i37 + 1)))), none, none]) ?_ (ih37 (by omega) trivial)
                rw [show bwI C f t w (i37 + 1) s = stp C f t w i37 (bwI C f t w i37 s) from rfl, hS]
                rfl
              · refine v_iload dX1_bestByWit_105 rfl ?_
                refine n_if_eq (tgt := 117) (x := 0) dX1_bestByWit_107 (by decide) (by omega) (fun c34 => ?_) (fun c34 => ?_)
                · refine n_iinc (k := 1) (x := i37) dX1_bestByWit_117 (by decide) rfl rfl (by decide) ?_
                  refine v_ls (ls2 := [some (.ref q), some (.int (nI f)), some (.int (nI t)), some (.int (nI b)), some (.int (nI ((bwI C f t w i37 s).2))), some (.int (nI w)), some (.int (nI (i37 + 1))), some (.int (nI (lauN C f i37 t))), some (.int (nI 0))]) rfl ?_
                  refine v_goto (tgt := 37) dX1_bestByWit_120 (by decide) ?_
                  have hL : (if C 7 i37 = w then lauN C f i37 t else 0) = lauN C f i37 t := if_pos (by assumption)
                  have hS : stp C f t w i37 (bwI C f t w i37 s) = bwI C f t w i37 s := stp_f hL (by omega) (fun z => by first | (exfalso; omega) | (simp only [ltB, hr]; done) | (simp only [ltB, hr]; exact decide_eq_false (by omega)))
                  refine v_forget 7 ?_
                  refine v_forget 8 ?_
                  refine v_ls (ls2 := [some (.ref q), some (.int (nI f)), some (.int (nI t)), some (.int (oN (-1015) (bwI C f t w ((i37 + 1)) s).1)), some (.int (nI ((bwI C f t w ((i37 + 1)) s).2))), some (.int (nI w)), some (.int (nI ((i37 + 1)))), none, none]) ?_ (ih37 (by omega) trivial)
                  rw [show bwI C f t w (i37 + 1) s = stp C f t w i37 (bwI C f t w i37 s) from rfl, hS]
                  rw [hr]
                  rfl
                · refine v_iload dX1_bestByWit_110 rfl ?_
                  refine v_istore_n dX1_bestByWit_112 rfl (by decide) ?_
                  refine v_ls (ls2 := [some (.ref q), some (.int (nI f)), some (.int (nI t)), some (.int (nI i37)), some (.int (nI ((bwI C f t w i37 s).2))), some (.int (nI w)), some (.int (nI i37)), some (.int (nI (lauN C f i37 t))), some (.int (nI 0))]) rfl ?_
                  refine v_iload dX1_bestByWit_113 rfl ?_
                  refine v_istore dX1_bestByWit_115 rfl (by decide) ?_
                  refine v_ls (ls2 := [some (.ref q), some (.int (nI f)), some (.int (nI t)), some (.int (nI i37)), some (.int (nI (lauN C f i37 t))), some (.int (nI w)), some (.int (nI i37)), some (.int (nI (lauN C f i37 t))), some (.int (nI 0))]) rfl ?_
                  refine n_iinc (k := 1) (x := i37) dX1_bestByWit_117 (by decide) rfl rfl (by decide) ?_
                  refine v_ls (ls2 := [some (.ref q), some (.int (nI f)), some (.int (nI t)), some (.int (nI i37)), some (.int (nI (lauN C f i37 t))), some (.int (nI w)), some (.int (nI (i37 + 1))), some (.int (nI (lauN C f i37 t))), some (.int (nI 0))]) rfl ?_
                  refine v_goto (tgt := 37) dX1_bestByWit_120 (by decide) ?_
                  have hL : (if C 7 i37 = w then lauN C f i37 t else 0) = lauN C f i37 t := if_pos (by assumption)
                  have hS : stp C f t w i37 (bwI C f t w i37 s) = (some i37, lauN C f i37 t) := by first | exact stp_t hL (Or.inl (by omega)) | exact stp_t hL (Or.inr ⟨by omega, by simp only [ltB, hr]; exact decide_eq_true (by omega)⟩)
                  refine v_forget 7 ?_
                  refine v_forget 8 ?_
                  refine v_ls (ls2 := [some (.ref q), some (.int (nI f)), some (.int (nI t)), some (.int (oN (-1015) (bwI C f t w ((i37 + 1)) s).1)), some (.int (nI ((bwI C f t w ((i37 + 1)) s).2))), some (.int (nI w)), some (.int (nI ((i37 + 1)))), none, none]) ?_ (ih37 (by omega) trivial)
                  rw [show bwI C f t w (i37 + 1) s = stp C f t w i37 (bwI C f t w i37 s) from rfl, hS]
                  rfl
            · refine v_iload dX1_bestByWit_85 rfl ?_
              refine v_iload_n dX1_bestByWit_87 rfl ?_
              refine n_icmp_ge (tgt := 95) (x := i37) (y := b) dX1_bestByWit_88 (by decide) (by omega) (by omega) (fun c35 => ?_) (fun c35 => ?_)
              · refine v_iconst (v := nI 0) dX1_bestByWit_95 (by decide) ?_
                refine v_istore dX1_bestByWit_96 rfl (by decide) ?_
                refine v_ls (ls2 := [some (.ref q), some (.int (nI f)), some (.int (nI t)), some (.int (nI b)), some (.int (nI ((bwI C f t w i37 s).2))), some (.int (nI w)), some (.int (nI i37)), some (.int (nI (lauN C f i37 t))), some (.int (nI 0))]) rfl ?_
                refine v_iload dX1_bestByWit_98 rfl ?_
                refine v_iload dX1_bestByWit_100 rfl ?_
                refine n_icmp_gt (tgt := 110) (x := lauN C f i37 t) (y := (bwI C f t w i37 s).2) dX1_bestByWit_102 (by decide) (by omega) (by omega) (fun c36 => ?_) (fun c36 => ?_)
                · refine v_iload dX1_bestByWit_110 rfl ?_
                  refine v_istore_n dX1_bestByWit_112 rfl (by decide) ?_
                  refine v_ls (ls2 := [some (.ref q), some (.int (nI f)), some (.int (nI t)), some (.int (nI i37)), some (.int (nI ((bwI C f t w i37 s).2))), some (.int (nI w)), some (.int (nI i37)), some (.int (nI (lauN C f i37 t))), some (.int (nI 0))]) rfl ?_
                  refine v_iload dX1_bestByWit_113 rfl ?_
                  refine v_istore dX1_bestByWit_115 rfl (by decide) ?_
                  refine v_ls (ls2 := [some (.ref q), some (.int (nI f)), some (.int (nI t)), some (.int (nI i37)), some (.int (nI (lauN C f i37 t))), some (.int (nI w)), some (.int (nI i37)), some (.int (nI (lauN C f i37 t))), some (.int (nI 0))]) rfl ?_
                  refine n_iinc (k := 1) (x := i37) dX1_bestByWit_117 (by decide) rfl rfl (by decide) ?_
                  refine v_ls (ls2 := [some (.ref q), some (.int (nI f)), some (.int (nI t)), some (.int (nI i37)), some (.int (nI (lauN C f i37 t))), some (.int (nI w)), some (.int (nI (i37 + 1))), some (.int (nI (lauN C f i37 t))), some (.int (nI 0))]) rfl ?_
                  refine v_goto (tgt := 37) dX1_bestByWit_120 (by decide) ?_
                  have hL : (if C 7 i37 = w then lauN C f i37 t else 0) = lauN C f i37 t := if_pos (by assumption)
                  have hS : stp C f t w i37 (bwI C f t w i37 s) = (some i37, lauN C f i37 t) := by first | exact stp_t hL (Or.inl (by omega)) | exact stp_t hL (Or.inr ⟨by omega, by simp only [ltB, hr]; exact decide_eq_true (by omega)⟩)
                  refine v_forget 7 ?_
                  refine v_forget 8 ?_
                  refine v_ls (ls2 := [some (.ref q), some (.int (nI f)), some (.int (nI t)), some (.int (oN (-1015) (bwI C f t w ((i37 + 1)) s).1)), some (.int (nI ((bwI C f t w ((i37 + 1)) s).2))), some (.int (nI w)), some (.int (nI ((i37 + 1)))), none, none]) ?_ (ih37 (by omega) trivial)
                  rw [show bwI C f t w (i37 + 1) s = stp C f t w i37 (bwI C f t w i37 s) from rfl, hS]
                  rfl
                · refine v_iload dX1_bestByWit_105 rfl ?_
                  refine n_if_eq (tgt := 117) (x := 0) dX1_bestByWit_107 (by decide) (by omega) (fun c37 => ?_) (fun c37 => ?_)
                  · refine n_iinc (k := 1) (x := i37) dX1_bestByWit_117 (by decide) rfl rfl (by decide) ?_
                    refine v_ls (ls2 := [some (.ref q), some (.int (nI f)), some (.int (nI t)), some (.int (nI b)), some (.int (nI ((bwI C f t w i37 s).2))), some (.int (nI w)), some (.int (nI (i37 + 1))), some (.int (nI (lauN C f i37 t))), some (.int (nI 0))]) rfl ?_
                    refine v_goto (tgt := 37) dX1_bestByWit_120 (by decide) ?_
                    have hL : (if C 7 i37 = w then lauN C f i37 t else 0) = lauN C f i37 t := if_pos (by assumption)
                    have hS : stp C f t w i37 (bwI C f t w i37 s) = bwI C f t w i37 s := stp_f hL (by omega) (fun z => by first | (exfalso; omega) | (simp only [ltB, hr]; done) | (simp only [ltB, hr]; exact decide_eq_false (by omega)))
                    refine v_forget 7 ?_
                    refine v_forget 8 ?_
                    refine v_ls (ls2 := [some (.ref q), some (.int (nI f)), some (.int (nI t)), some (.int (oN (-1015) (bwI C f t w ((i37 + 1)) s).1)), some (.int (nI ((bwI C f t w ((i37 + 1)) s).2))), some (.int (nI w)), some (.int (nI ((i37 + 1)))), none, none]) ?_ (ih37 (by omega) trivial)
                    rw [show bwI C f t w (i37 + 1) s = stp C f t w i37 (bwI C f t w i37 s) from rfl, hS]
                    rw [hr]
                    rfl
                  · refine v_iload dX1_bestByWit_110 rfl ?_
                    refine v_istore_n dX1_bestByWit_112 rfl (by decide) ?_
                    refine v_ls (ls2 := [some (.ref q), some (.int (nI f)), some (.int (nI t)), some (.int (nI i37)), some (.int (nI ((bwI C f t w i37 s).2))), some (.int (nI w)), some (.int (nI i37)), some (.int (nI (lauN C f i37 t))), some (.int (nI 0))]) rfl ?_
                    refine v_iload dX1_bestByWit_113 rfl ?_
                    refine v_istore dX1_bestByWit_115 rfl (by decide) ?_
                    refine v_ls (ls2 := [some (.ref q), some (.int (nI f)), some (.int (nI t)), some (.int (nI i37)), some (.int (nI (lauN C f i37 t))), some (.int (nI w)), some (.int (nI i37)), some (.int (nI (lauN C f i37 t))), some (.int (nI 0))]) rfl ?_
                    refine n_iinc (k := 1) (x := i37) dX1_bestByWit_117 (by decide) rfl rfl (by decide) ?_
                    refine v_ls (ls2 := [some (.ref q), some (.int (nI f)), some (.int (nI t)), some (.int (nI i37)), some (.int (nI (lauN C f i37 t))), some (.int (nI w)), some (.int (nI (i37 + 1))), some (.int (nI (lauN C f i37 t))), some (.int (nI 0))]) rfl ?_
                    refine v_goto (tgt := 37) dX1_bestByWit_120 (by decide) ?_
                    have hL : (if C 7 i37 = w then lauN C f i37 t else 0) = lauN C f i37 t := if_pos (by assumption)
                    have hS : stp C f t w i37 (bwI C f t w i37 s) = (some i37, lauN C f i37 t) := by first | exact stp_t hL (Or.inl (by omega)) | exact stp_t hL (Or.inr ⟨by omega, by simp only [ltB, hr]; exact decide_eq_true (by omega)⟩)
                    refine v_forget 7 ?_
                    refine v_forget 8 ?_
                    refine v_ls (ls2 := [some (.ref q), some (.int (nI f)), some (.int (nI t)), some (.int (oN (-1015) (bwI C f t w ((i37 + 1)) s).1)), some (.int (nI ((bwI C f t w ((i37 + 1)) s).2))), some (.int (nI w)), some (.int (nI ((i37 + 1)))), none, none]) ?_ (ih37 (by omega) trivial)
                    rw [show bwI C f t w (i37 + 1) s = stp C f t w i37 (bwI C f t w i37 s) from rfl, hS]
                    rfl
              · refine v_iconst (v := nI 1) dX1_bestByWit_91 (by decide) ?_
                refine v_goto (tgt := 96) dX1_bestByWit_92 (by decide) ?_
                refine v_istore dX1_bestByWit_96 rfl (by decide) ?_
                refine v_ls (ls2 := [some (.ref q), some (.int (nI f)), some (.int (nI t)), some (.int (nI b)), some (.int (nI ((bwI C f t w i37 s).2))), some (.int (nI w)), some (.int (nI i37)), some (.int (nI (lauN C f i37 t))), some (.int (nI 1))]) rfl ?_
                refine v_iload dX1_bestByWit_98 rfl ?_
                refine v_iload dX1_bestByWit_100 rfl ?_
                refine n_icmp_gt (tgt := 110) (x := lauN C f i37 t) (y := (bwI C f t w i37 s).2) dX1_bestByWit_102 (by decide) (by omega) (by omega) (fun c38 => ?_) (fun c38 => ?_)
                · refine v_iload dX1_bestByWit_110 rfl ?_
                  refine v_istore_n dX1_bestByWit_112 rfl (by decide) ?_
                  refine v_ls (ls2 := [some (.ref q), some (.int (nI f)), some (.int (nI t)), some (.int (nI i37)), some (.int (nI ((bwI C f t w i37 s).2))), some (.int (nI w)), some (.int (nI i37)), some (.int (nI (lauN C f i37 t))), some (.int (nI 1))]) rfl ?_
                  refine v_iload dX1_bestByWit_113 rfl ?_
                  refine v_istore dX1_bestByWit_115 rfl (by decide) ?_
                  refine v_ls (ls2 := [some (.ref q), some (.int (nI f)), some (.int (nI t)), some (.int (nI i37)), some (.int (nI (lauN C f i37 t))), some (.int (nI w)), some (.int (nI i37)), some (.int (nI (lauN C f i37 t))), some (.int (nI 1))]) rfl ?_
                  refine n_iinc (k := 1) (x := i37) dX1_bestByWit_117 (by decide) rfl rfl (by decide) ?_
                  refine v_ls (ls2 := [some (.ref q), some (.int (nI f)), some (.int (nI t)), some (.int (nI i37)), some (.int (nI (lauN C f i37 t))), some (.int (nI w)), some (.int (nI (i37 + 1))), some (.int (nI (lauN C f i37 t))), some (.int (nI 1))]) rfl ?_
                  refine v_goto (tgt := 37) dX1_bestByWit_120 (by decide) ?_
                  have hL : (if C 7 i37 = w then lauN C f i37 t else 0) = lauN C f i37 t := if_pos (by assumption)
                  have hS : stp C f t w i37 (bwI C f t w i37 s) = (some i37, lauN C f i37 t) := by first | exact stp_t hL (Or.inl (by omega)) | exact stp_t hL (Or.inr ⟨by omega, by simp only [ltB, hr]; exact decide_eq_true (by omega)⟩)
                  refine v_forget 7 ?_
                  refine v_forget 8 ?_
                  refine v_ls (ls2 := [some (.ref q), some (.int (nI f)), some (.int (nI t)), some (.int (oN (-1015) (bwI C f t w ((i37 + 1)) s).1)), some (.int (nI ((bwI C f t w ((i37 + 1)) s).2))), some (.int (nI w)), some (.int (nI ((i37 + 1)))), none, none]) ?_ (ih37 (by omega) trivial)
                  rw [show bwI C f t w (i37 + 1) s = stp C f t w i37 (bwI C f t w i37 s) from rfl, hS]
                  rfl
                · refine v_iload dX1_bestByWit_105 rfl ?_
                  refine n_if_eq (tgt := 117) (x := 1) dX1_bestByWit_107 (by decide) (by omega) (fun c39 => ?_) (fun c39 => ?_)
                  · refine n_iinc (k := 1) (x := i37) dX1_bestByWit_117 (by decide) rfl rfl (by decide) ?_
                    refine v_ls (ls2 := [some (.ref q), some (.int (nI f)), some (.int (nI t)), some (.int (nI b)), some (.int (nI ((bwI C f t w i37 s).2))), some (.int (nI w)), some (.int (nI (i37 + 1))), some (.int (nI (lauN C f i37 t))), some (.int (nI 1))]) rfl ?_
                    refine v_goto (tgt := 37) dX1_bestByWit_120 (by decide) ?_
                    have hL : (if C 7 i37 = w then lauN C f i37 t else 0) = lauN C f i37 t := if_pos (by assumption)
                    have hS : stp C f t w i37 (bwI C f t w i37 s) = bwI C f t w i37 s := stp_f hL (by omega) (fun z => by first | (exfalso; omega) | (simp only [ltB, hr]; done) | (simp only [ltB, hr]; exact decide_eq_false (by omega)))
                    refine v_forget 7 ?_
                    refine v_forget 8 ?_
                    refine v_ls (ls2 := [some (.ref q), some (.int (nI f)), some (.int (nI t)), some (.int (oN (-1015) (bwI C f t w ((i37 + 1)) s).1)), some (.int (nI ((bwI C f t w ((i37 + 1)) s).2))), some (.int (nI w)), some (.int (nI ((i37 + 1)))), none, none]) ?_ (ih37 (by omega) trivial)
                    rw [show bwI C f t w (i37 + 1) s = stp C f t w i37 (bwI C f t w i37 s) from rfl, hS]
                    rw [hr]
                    rfl
                  · refine v_iload dX1_bestByWit_110 rfl ?_
                    refine v_istore_n dX1_bestByWit_112 rfl (by decide) ?_
                    refine v_ls (ls2 := [some (.ref q), some (.int (nI f)), some (.int (nI t)), some (.int (nI i37)), some (.int (nI ((bwI C f t w i37 s).2))), some (.int (nI w)), some (.int (nI i37)), some (.int (nI (lauN C f i37 t))), some (.int (nI 1))]) rfl ?_
                    refine v_iload dX1_bestByWit_113 rfl ?_
                    refine v_istore dX1_bestByWit_115 rfl (by decide) ?_
                    refine v_ls (ls2 := [some (.ref q), some (.int (nI f)), some (.int (nI t)), some (.int (nI i37)), some (.int (nI (lauN C f i37 t))), some (.int (nI w)), some (.int (nI i37)), some (.int (nI (lauN C f i37 t))), some (.int (nI 1))]) rfl ?_
                    refine n_iinc (k := 1) (x := i37) dX1_bestByWit_117 (by decide) rfl rfl (by decide) ?_
                    refine v_ls (ls2 := [some (.ref q), some (.int (nI f)), some (.int (nI t)), some (.int (nI i37)), some (.int (nI (lauN C f i37 t))), some (.int (nI w)), some (.int (nI (i37 + 1))), some (.int (nI (lauN C f i37 t))), some (.int (nI 1))]) rfl ?_
                    refine v_goto (tgt := 37) dX1_bestByWit_120 (by decide) ?_
                    have hL : (if C 7 i37 = w then lauN C f i37 t else 0) = lauN C f i37 t := if_pos (by assumption)
                    have hS : stp C f t w i37 (bwI C f t w i37 s) = (some i37, lauN C f i37 t) := by first | exact stp_t hL (Or.inl (by omega)) | exact stp_t hL (Or.inr ⟨by omega, by simp only [ltB, hr]; exact decide_eq_true (by omega)⟩)
                    refine v_forget 7 ?_
                    refine v_forget 8 ?_
                    refine v_ls (ls2 := [some (.ref q), some (.int (nI f)), some (.int (nI t)), some (.int (oN (-1015) (bwI C f t w ((i37 + 1)) s).1)), some (.int (nI ((bwI C f t w ((i37 + 1)) s).2))), some (.int (nI w)), some (.int (nI ((i37 + 1)))), none, none]) ?_ (ih37 (by omega) trivial)
                    rw [show bwI C f t w (i37 + 1) s = stp C f t w i37 (bwI C f t w i37 s) from rfl, hS]
                    rfl
set_option maxRecDepth 20000 in
set_option maxHeartbeats 4000000 in
theorem t_X4_isAhead {l : Launch} {G : vG} {n : Nat} {h : AH} {a b : Nat} {q : Nat} {C : Ct} (hc : ct G h q C) (hB : bd C) (ha : a < 12) (hb : b < 12) : Mt l G mX4_isAhead [.ref (q + 8), .int (nI a), .int (nI b)] n h 0 0 (fun r n2 h2 => r = some (.int (nI (bI (jkA C a b)))) ∧ n2 = n ∧ h2 = h) := by
  refine Mt.of (by decide) (Nat.le_of_ble_eq_true rfl) rfl ?_
  refine v_ls (ls2 := [some (.ref (q + 8)), some (.int (nI a)), some (.int (nI b)), none, none]) rfl ?_
  have bs1 := tlS_bd hB a
  have bs2 := tlS_bd hB b
  refine v_aload_n dX4_isAhead_0 rfl ?_
  refine v_iload_n dX4_isAhead_1 rfl ?_
  refine v_callV (st := []) dX4_isAhead_2 (t_X4_tellings (j := a) hc hB (by omega)) wX4_44 (ck8 hc) rfl rfl ⟨Nat.le_of_ble_eq_true rfl, Nat.le_of_ble_eq_true rfl⟩ (Nat.le_of_ble_eq_true rfl) ⟨Nat.le_refl _, Nat.le_refl _⟩ (fun r n2 h2 hq => ?_)
  obtain ⟨rfl, rfl, rfl⟩ := hq
  refine v_st (st2 := [.int (nI (tlS C a))]) rfl ?_
  refine v_istore_n dX4_isAhead_5 rfl (by decide) ?_
  refine v_ls (ls2 := [some (.ref (q + 8)), some (.int (nI a)), some (.int (nI b)), some (.int (nI (tlS C a))), none]) rfl ?_
  refine v_aload_n dX4_isAhead_6 rfl ?_
  refine v_iload_n dX4_isAhead_7 rfl ?_
  refine v_callV (st := []) dX4_isAhead_8 (t_X4_tellings (j := b) hc hB (by omega)) wX4_44 (ck8 hc) rfl rfl ⟨Nat.le_of_ble_eq_true rfl, Nat.le_of_ble_eq_true rfl⟩ (Nat.le_of_ble_eq_true rfl) ⟨Nat.le_refl _, Nat.le_refl _⟩ (fun r n2 h2 hq => ?_)
  obtain ⟨rfl, rfl, rfl⟩ := hq
  refine v_st (st2 := [.int (nI (tlS C b))]) rfl ?_
  refine v_istore dX4_isAhead_11 rfl (by decide) ?_
  refine v_ls (ls2 := [some (.ref (q + 8)), some (.int (nI a)), some (.int (nI b)), some (.int (nI (tlS C a))), some (.int (nI (tlS C b)))]) rfl ?_
  refine v_iload_n dX4_isAhead_13 rfl ?_
  refine v_iload dX4_isAhead_14 rfl ?_
  refine n_icmp_eq (tgt := 31) (x := tlS C a) (y := tlS C b) dX4_isAhead_16 (by decide) (by omega) (by omega) (fun c1 => ?_) (fun c1 => ?_)
  · refine v_aload_n dX4_isAhead_31 rfl ?_
    refine fX4_15 (v := .ref (q + 9)) rfl dX4_isAhead_32 (ck8 hc) rfl ?_
    refine v_iload_n dX4_isAhead_35 rfl ?_
    refine n_ialdv (f := C 7) (j := a) (y := C 7 a) dX4_isAhead_36 (ck9 hc) (by omega) (by decide) rfl ?_
    have b2 := hB 7 a
    refine v_aload_n dX4_isAhead_37 rfl ?_
    refine fX4_15 (v := .ref (q + 9)) rfl dX4_isAhead_38 (ck8 hc) rfl ?_
    refine v_iload_n dX4_isAhead_41 rfl ?_
    refine n_ialdv (f := C 7) (j := b) (y := C 7 b) dX4_isAhead_42 (ck9 hc) (by omega) (by decide) rfl ?_
    have b3 := hB 7 b
    refine n_icmp_eq (tgt := 67) (x := C 7 a) (y := C 7 b) dX4_isAhead_43 (by decide) (by omega) (by omega) (fun c4 => ?_) (fun c4 => ?_)
    · refine v_iload_n dX4_isAhead_67 rfl ?_
      refine v_iload_n dX4_isAhead_68 rfl ?_
      refine n_icmp_ge (tgt := 76) (x := a) (y := b) dX4_isAhead_69 (by decide) (by omega) (by omega) (fun c5 => ?_) (fun c5 => ?_)
      · refine v_iconst (v := nI 0) dX4_isAhead_76 (by decide) ?_
        refine v_zret (ty := .boolean) dX4_isAhead_77 rfl (by decide) ?_ (Nat.le_refl _) (Nat.le_refl _)
        exact ⟨by rw [bI_f (by (first | unfold bkA | unfold flA | unfold jkA); split <;> (try split) <;> omega)], rfl, rfl⟩
      · refine v_iconst (v := nI 1) dX4_isAhead_72 (by decide) ?_
        refine v_goto (tgt := 77) dX4_isAhead_73 (by decide) ?_
        refine v_zret (ty := .boolean) dX4_isAhead_77 rfl (by decide) ?_ (Nat.le_refl _) (Nat.le_refl _)
        exact ⟨by rw [bI_t (by (first | unfold bkA | unfold flA | unfold jkA); split <;> (try split) <;> omega)], rfl, rfl⟩
    · refine v_aload_n dX4_isAhead_46 rfl ?_
      refine fX4_15 (v := .ref (q + 9)) rfl dX4_isAhead_47 (ck8 hc) rfl ?_
      refine v_iload_n dX4_isAhead_50 rfl ?_
      refine n_ialdv (f := C 7) (j := a) (y := C 7 a) dX4_isAhead_51 (ck9 hc) (by omega) (by decide) rfl ?_
      refine v_aload_n dX4_isAhead_52 rfl ?_
      refine fX4_15 (v := .ref (q + 9)) rfl dX4_isAhead_53 (ck8 hc) rfl ?_
      refine v_iload_n dX4_isAhead_56 rfl ?_
      refine n_ialdv (f := C 7) (j := b) (y := C 7 b) dX4_isAhead_57 (ck9 hc) (by omega) (by decide) rfl ?_
      refine n_icmp_le (tgt := 65) (x := C 7 a) (y := C 7 b) dX4_isAhead_58 (by decide) (by omega) (by omega) (fun c6 => ?_) (fun c6 => ?_)
      · refine v_iconst (v := nI 0) dX4_isAhead_65 (by decide) ?_
        refine v_zret (ty := .boolean) dX4_isAhead_66 rfl (by decide) ?_ (Nat.le_refl _) (Nat.le_refl _)
        exact ⟨by rw [bI_f (by (first | unfold bkA | unfold flA | unfold jkA); split <;> (try split) <;> omega)], rfl, rfl⟩
      · refine v_iconst (v := nI 1) dX4_isAhead_61 (by decide) ?_
        refine v_goto (tgt := 66) dX4_isAhead_62 (by decide) ?_
        refine v_zret (ty := .boolean) dX4_isAhead_66 rfl (by decide) ?_ (Nat.le_refl _) (Nat.le_refl _)
        exact ⟨by rw [bI_t (by (first | unfold bkA | unfold flA | unfold jkA); split <;> (try split) <;> omega)], rfl, rfl⟩
  · refine v_iload_n dX4_isAhead_19 rfl ?_
    refine v_iload dX4_isAhead_20 rfl ?_
    refine n_icmp_le (tgt := 29) (x := tlS C a) (y := tlS C b) dX4_isAhead_22 (by decide) (by omega) (by omega) (fun c7 => ?_) (fun c7 => ?_)
    · refine v_iconst (v := nI 0) dX4_isAhead_29 (by decide) ?_
      refine v_zret (ty := .boolean) dX4_isAhead_30 rfl (by decide) ?_ (Nat.le_refl _) (Nat.le_refl _)
      exact ⟨by rw [bI_f (by (first | unfold bkA | unfold flA | unfold jkA); split <;> (try split) <;> omega)], rfl, rfl⟩
    · refine v_iconst (v := nI 1) dX4_isAhead_25 (by decide) ?_
      refine v_goto (tgt := 30) dX4_isAhead_26 (by decide) ?_
      refine v_zret (ty := .boolean) dX4_isAhead_30 rfl (by decide) ?_ (Nat.le_refl _) (Nat.le_refl _)
      exact ⟨by rw [bI_t (by (first | unfold bkA | unfold flA | unfold jkA); split <;> (try split) <;> omega)], rfl, rfl⟩
set_option maxRecDepth 20000 in
set_option maxHeartbeats 4000000 in
theorem t_X4_countAhead {l : Launch} {G : vG} {n : Nat} {h : AH} {f : Nat} {q : Nat} {C : Ct} (hc : ct G h q C) (hB : bd C) (hJ : C 0 1 ≤ 12) (hf : f < 12) : Mt l G mX4_countAhead [.ref (q + 8), .int (nI f)] n h 0 0 (fun r n2 h2 => r = some (.int (nI (jkN C f))) ∧ n2 = n ∧ h2 = h) := by
  refine Mt.of (by decide) (Nat.le_of_ble_eq_true rfl) rfl ?_
  refine v_ls (ls2 := [some (.ref (q + 8)), some (.int (nI f)), none, none]) rfl ?_
  refine v_iconst (v := nI 0) dX4_countAhead_0 (by decide) ?_
  refine v_istore_n dX4_countAhead_1 rfl (by decide) ?_
  refine v_ls (ls2 := [some (.ref (q + 8)), some (.int (nI f)), some (.int (nI 0)), none]) rfl ?_
  refine v_iconst (v := nI 0) dX4_countAhead_2 (by decide) ?_
  refine v_istore_n dX4_countAhead_3 rfl (by decide) ?_
  refine v_ls (ls2 := [some (.ref (q + 8)), some (.int (nI f)), some (.int (nI 0)), some (.int (nI 0))]) rfl ?_
  refine loopV (fun i4 => [some (.ref (q + 8)), some (.int (nI f)), some (.int (nI (cnt (fun z => decide (jkA C z f)) i4))), some (.int (nI i4))]) (fun i4 => True) (N := C 0 1) 0 (by omega) rfl trivial (fun i4 hi4 hp4 ih4 => ?_)
  refine v_iload_n dX4_countAhead_4 rfl ?_
  refine v_aload_n dX4_countAhead_5 rfl ?_
  refine fX4_9 (v := .int (nI (C 0 1))) rfl dX4_countAhead_6 (ck8 hc) rfl ?_
  have b1 := hB 0 1
  refine n_icmp_ge (tgt := 30) (x := i4) (y := C 0 1) dX4_countAhead_9 (by decide) (by omega) (by omega) (fun c2 => ?_) (fun c2 => ?_)
  · refine v_iload_n dX4_countAhead_30 rfl ?_
    refine v_iret dX4_countAhead_31 rfl ?_ (Nat.le_refl _) (Nat.le_refl _)
    have e : i4 = C 0 1 := by omega
    subst e
    exact ⟨rfl, rfl, rfl⟩
  · refine v_aload_n dX4_countAhead_12 rfl ?_
    refine v_iload_n dX4_countAhead_13 rfl ?_
    refine v_iload_n dX4_countAhead_14 rfl ?_
    refine v_callV (st := []) dX4_countAhead_15 (t_X4_isAhead (a := i4) (b := f) hc hB (by omega) (by omega)) wX4_40 (ck8 hc) rfl rfl ⟨Nat.le_of_ble_eq_true rfl, Nat.le_of_ble_eq_true rfl⟩ (Nat.le_of_ble_eq_true rfl) ⟨Nat.le_refl _, Nat.le_refl _⟩ (fun r n2 h2 hq => ?_)
    obtain ⟨rfl, rfl, rfl⟩ := hq
    refine v_st (st2 := [.int (nI (bI (jkA C i4 f)))]) rfl ?_
    refine n_ifb_eq (tgt := 24) (p := jkA C i4 f) dX4_countAhead_18 (by decide) (fun c3 => ?_) (fun c3 => ?_)
    · refine n_iinc (k := 1) (x := i4) dX4_countAhead_24 (by decide) rfl rfl (by decide) ?_
      refine v_ls (ls2 := [some (.ref (q + 8)), some (.int (nI f)), some (.int (nI (cnt (fun z => decide (jkA C z f)) i4))), some (.int (nI (i4 + 1)))]) rfl ?_
      refine v_goto (tgt := 4) dX4_countAhead_27 (by decide) ?_
      refine v_ls (ls2 := [some (.ref (q + 8)), some (.int (nI f)), some (.int (nI (cnt (fun z => decide (jkA C z f)) ((i4 + 1))))), some (.int (nI ((i4 + 1))))]) ?_ (ih4 (by omega) trivial)
      rw [cnt_f (decide_eq_false (by assumption))]
    · refine n_iinc (k := 1) (x := cnt (fun z => decide (jkA C z f)) i4) dX4_countAhead_21 (by decide) rfl rfl (by decide) ?_
      refine v_ls (ls2 := [some (.ref (q + 8)), some (.int (nI f)), some (.int (nI (cnt (fun z => decide (jkA C z f)) i4 + 1))), some (.int (nI i4))]) rfl ?_
      refine n_iinc (k := 1) (x := i4) dX4_countAhead_24 (by decide) rfl rfl (by decide) ?_
      refine v_ls (ls2 := [some (.ref (q + 8)), some (.int (nI f)), some (.int (nI (cnt (fun z => decide (jkA C z f)) i4 + 1))), some (.int (nI (i4 + 1)))]) rfl ?_
      refine v_goto (tgt := 4) dX4_countAhead_27 (by decide) ?_
      refine v_ls (ls2 := [some (.ref (q + 8)), some (.int (nI f)), some (.int (nI (cnt (fun z => decide (jkA C z f)) ((i4 + 1))))), some (.int (nI ((i4 + 1))))]) ?_ (ih4 (by omega) trivial)
      rw [cnt_t (decide_eq_true (by assumption))]
set_option maxRecDepth 20000 in
set_option maxHeartbeats 4000000 in
theorem t_X4_atRank {l : Launch} {G : vG} {n : Nat} {h : AH} {x : Int32} {q : Nat} {C : Ct} (hc : ct G h q C) (hB : bd C) (hJ : C 0 1 ≤ 12) : Mt l G mX4_atRank [.ref (q + 8), .int x] n h 0 0 (fun r n2 h2 => r = some (.int (oN (-1011) (fs (fun z => decide (nI (jkN C z) = x)) 0 (C 0 1)))) ∧ n2 = n ∧ h2 = h) := by
  refine Mt.of (by decide) (Nat.le_of_ble_eq_true rfl) rfl ?_
  refine v_ls (ls2 := [some (.ref (q + 8)), some (.int x), none]) rfl ?_
  refine v_iconst (v := nI 0) dX4_atRank_0 (by decide) ?_
  refine v_istore_n dX4_atRank_1 rfl (by decide) ?_
  refine v_ls (ls2 := [some (.ref (q + 8)), some (.int x), some (.int (nI 0))]) rfl ?_
  refine loopV (fun i2 => [some (.ref (q + 8)), some (.int x), some (.int (nI i2))]) (fun i2 => fs (fun z => decide (nI (jkN C z) = x)) 0 (C 0 1) = fs (fun z => decide (nI (jkN C z) = x)) i2 (C 0 1 - i2)) (N := C 0 1) 0 (by omega) rfl rfl (fun i2 hi2 hp2 ih2 => ?_)
  refine v_iload_n dX4_atRank_2 rfl ?_
  refine v_aload_n dX4_atRank_3 rfl ?_
  refine fX4_9 (v := .int (nI (C 0 1))) rfl dX4_atRank_4 (ck8 hc) rfl ?_
  have b1 := hB 0 1
  refine n_icmp_ge (tgt := 27) (x := i2) (y := C 0 1) dX4_atRank_7 (by decide) (by omega) (by omega) (fun c2 => ?_) (fun c2 => ?_)
  · refine v_sipush (v := (-1011)) dX4_atRank_27 (by decide) ?_
    refine v_iret dX4_atRank_30 rfl ?_ (Nat.le_refl _) (Nat.le_refl _)
    exact ⟨by rw [hp2, fs_end (by omega)]; rfl, rfl, rfl⟩
  · refine v_aload_n dX4_atRank_10 rfl ?_
    refine v_iload_n dX4_atRank_11 rfl ?_
    refine v_callV (st := []) dX4_atRank_12 (t_X4_countAhead (f := i2) hc hB hJ (by omega)) wX4_36 (ck8 hc) rfl rfl ⟨Nat.le_of_ble_eq_true rfl, Nat.le_of_ble_eq_true rfl⟩ (Nat.le_of_ble_eq_true rfl) ⟨Nat.le_refl _, Nat.le_refl _⟩ (fun r n2 h2 hq => ?_)
    obtain ⟨rfl, rfl, rfl⟩ := hq
    refine v_st (st2 := [.int (nI (jkN C i2))]) rfl ?_
    refine v_iload_n dX4_atRank_15 rfl ?_
    refine v_icmp_ne (tgt := 21) dX4_atRank_16 (by decide) (fun c3 => ?_) (fun c3 => ?_)
    · refine n_iinc (k := 1) (x := i2) dX4_atRank_21 (by decide) rfl rfl (by decide) ?_
      refine v_ls (ls2 := [some (.ref (q + 8)), some (.int x), some (.int (nI (i2 + 1)))]) rfl ?_
      refine v_goto (tgt := 2) dX4_atRank_24 (by decide) ?_
      exact ih2 (by omega) (hp2.trans (fs_step (by omega) (decide_eq_false (by assumption))))
    · refine v_iload_n dX4_atRank_19 rfl ?_
      refine v_iret dX4_atRank_20 rfl ?_ (Nat.le_refl _) (Nat.le_refl _)
      exact ⟨by rw [hp2, fs_hit (by omega) (decide_eq_true (by assumption))]; rfl, rfl, rfl⟩
set_option maxRecDepth 20000 in
set_option maxHeartbeats 4000000 in
theorem t_X0_with {l : Launch} {G : vG} {n : Nat} {h : AH} {a x : Nat} {g : Nat → Nat} {q : Nat} {C : Ct} (hc : ct G h q C) (hB : bd C) (hn : C 0 2 ≤ 10) (hr : h a = some (ar G 10 g)) (hg : ∀ j, g j < 2 ^ 28) (hx : x < 2 ^ 31) : Mt l G mX0_with [.ref (q + 13), .ref a, .int (nI x)] n h 0 0 (fun r n2 h2 => r = some (.int (nI (cnt (fun z => decide (g z = x)) (C 0 2)))) ∧ n2 = n ∧ h2 = h) := by
  refine Mt.of (by decide) (Nat.le_of_ble_eq_true rfl) rfl ?_
  refine v_ls (ls2 := [some (.ref (q + 13)), some (.ref a), some (.int (nI x)), none, none]) rfl ?_
  refine v_iconst (v := nI 0) dX0_with_0 (by decide) ?_
  refine v_istore_n dX0_with_1 rfl (by decide) ?_
  refine v_ls (ls2 := [some (.ref (q + 13)), some (.ref a), some (.int (nI x)), some (.int (nI 0)), none]) rfl ?_
  refine v_iconst (v := nI 0) dX0_with_2 (by decide) ?_
  refine v_istore dX0_with_3 rfl (by decide) ?_
  refine v_ls (ls2 := [some (.ref (q + 13)), some (.ref a), some (.int (nI x)), some (.int (nI 0)), some (.int (nI 0))]) rfl ?_
  refine loopV (fun i5 => [some (.ref (q + 13)), some (.ref a), some (.int (nI x)), some (.int (nI (cnt (fun z => decide (g z = x)) i5))), some (.int (nI i5))]) (fun i5 => True) (N := C 0 2) 0 (by omega) rfl trivial (fun i5 hi5 hp5 ih5 => ?_)
  refine v_iload dX0_with_5 rfl ?_
  refine v_aload_n dX0_with_7 rfl ?_
  refine fX0_9 (v := .int (nI (C 0 2))) rfl dX0_with_8 (ck13 hc) rfl ?_
  have b1 := hB 0 2
  refine n_icmp_ge (tgt := 31) (x := i5) (y := C 0 2) dX0_with_11 (by decide) (by omega) (by omega) (fun c2 => ?_) (fun c2 => ?_)
  · refine v_iload_n dX0_with_31 rfl ?_
    refine v_iret dX0_with_32 rfl ?_ (Nat.le_refl _) (Nat.le_refl _)
    have e : i5 = C 0 2 := by omega
    subst e
    exact ⟨rfl, rfl, rfl⟩
  · refine v_aload_n dX0_with_14 rfl ?_
    refine v_iload dX0_with_15 rfl ?_
    refine n_ialdv (f := g) (j := i5) (y := g i5) dX0_with_17 hr (by omega) (by decide) rfl ?_
    have b3 := hg i5
    refine v_iload_n dX0_with_18 rfl ?_
    refine n_icmp_ne (tgt := 25) (x := g i5) (y := x) dX0_with_19 (by decide) (by omega) (by omega) (fun c4 => ?_) (fun c4 => ?_)
    · refine n_iinc (k := 1) (x := i5) dX0_with_25 (by decide) rfl rfl (by decide) ?_
      refine v_ls (ls2 := [some (.ref (q + 13)), some (.ref a), some (.int (nI x)), some (.int (nI (cnt (fun z => decide (g z = x)) i5))), some (.int (nI (i5 + 1)))]) rfl ?_
      refine v_goto (tgt := 5) dX0_with_28 (by decide) ?_
      refine v_ls (ls2 := [some (.ref (q + 13)), some (.ref a), some (.int (nI x)), some (.int (nI (cnt (fun z => decide (g z = x)) ((i5 + 1))))), some (.int (nI ((i5 + 1))))]) ?_ (ih5 (by omega) trivial)
      rw [cnt_f (decide_eq_false (by assumption))]
    · refine n_iinc (k := 1) (x := cnt (fun z => decide (g z = x)) i5) dX0_with_22 (by decide) rfl rfl (by decide) ?_
      refine v_ls (ls2 := [some (.ref (q + 13)), some (.ref a), some (.int (nI x)), some (.int (nI (cnt (fun z => decide (g z = x)) i5 + 1))), some (.int (nI i5))]) rfl ?_
      refine n_iinc (k := 1) (x := i5) dX0_with_25 (by decide) rfl rfl (by decide) ?_
      refine v_ls (ls2 := [some (.ref (q + 13)), some (.ref a), some (.int (nI x)), some (.int (nI (cnt (fun z => decide (g z = x)) i5 + 1))), some (.int (nI (i5 + 1)))]) rfl ?_
      refine v_goto (tgt := 5) dX0_with_28 (by decide) ?_
      refine v_ls (ls2 := [some (.ref (q + 13)), some (.ref a), some (.int (nI x)), some (.int (nI (cnt (fun z => decide (g z = x)) ((i5 + 1))))), some (.int (nI ((i5 + 1))))]) ?_ (ih5 (by omega) trivial)
      rw [cnt_t (decide_eq_true (by assumption))]
set_option maxRecDepth 20000 in
set_option maxHeartbeats 4000000 in
theorem t_X6_sum4 {l : Launch} {G : vG} {n : Nat} {h : AH} {a : Nat} {g : Nat → Nat} (hr : h a = some (ar G 4 g)) (hg : ∀ j, g j < 2 ^ 28) : Mt l G mX6_sum [.ref a] n h 0 0 (fun r n2 h2 => r = some (.int (nI (sm g 4))) ∧ n2 = n ∧ h2 = h) := by
  refine Mt.of (by decide) (Nat.le_of_ble_eq_true rfl) rfl ?_
  refine v_ls (ls2 := [some (.ref a), none, none, none, none, none]) rfl ?_
  refine v_iconst (v := nI 0) dX6_sum_0 (by decide) ?_
  refine v_istore_n dX6_sum_1 rfl (by decide) ?_
  refine v_ls (ls2 := [some (.ref a), some (.int (nI 0)), none, none, none, none]) rfl ?_
  refine v_aload_n dX6_sum_2 rfl ?_
  refine v_astore_n dX6_sum_3 rfl (by decide) ?_
  refine v_ls (ls2 := [some (.ref a), some (.int (nI 0)), some (.ref a), none, none, none]) rfl ?_
  refine v_aload_n dX6_sum_4 rfl ?_
  refine v_alen (t := 0) dX6_sum_5 hr (by decide) ?_
  refine v_st (st2 := [.int (nI 4)]) rfl ?_
  refine v_istore_n dX6_sum_6 rfl (by decide) ?_
  refine v_ls (ls2 := [some (.ref a), some (.int (nI 0)), some (.ref a), some (.int (nI 4)), none, none]) rfl ?_
  refine v_iconst (v := nI 0) dX6_sum_7 (by decide) ?_
  refine v_istore dX6_sum_8 rfl (by decide) ?_
  refine v_ls (ls2 := [some (.ref a), some (.int (nI 0)), some (.ref a), some (.int (nI 4)), some (.int (nI 0)), none]) rfl ?_
  refine loopV (fun i10 => [some (.ref a), some (.int (nI (sm g i10))), some (.ref a), some (.int (nI 4)), some (.int (nI i10)), none]) (fun i10 => True) (N := 4) 0 (by omega) rfl trivial (fun i10 hi10 hp10 ih10 => ?_)
  refine v_iload dX6_sum_10 rfl ?_
  refine v_iload_n dX6_sum_12 rfl ?_
  refine n_icmp_ge (tgt := 33) (x := i10) (y := 4) dX6_sum_13 (by decide) (by omega) (by omega) (fun c1 => ?_) (fun c1 => ?_)
  · refine v_iload_n dX6_sum_33 rfl ?_
    refine v_iret dX6_sum_34 rfl ?_ (Nat.le_refl _) (Nat.le_refl _)
    have e : i10 = 4 := by omega
    subst e
    exact ⟨rfl, rfl, rfl⟩
  · refine v_aload_n dX6_sum_16 rfl ?_
    refine v_iload dX6_sum_17 rfl ?_
    refine n_ialdv (f := g) (j := i10) (y := g i10) dX6_sum_19 hr (by omega) (by decide) rfl ?_
    have b2 := hg i10
    refine v_istore dX6_sum_20 rfl (by decide) ?_
    refine v_ls (ls2 := [some (.ref a), some (.int (nI (sm g i10))), some (.ref a), some (.int (nI 4)), some (.int (nI i10)), some (.int (nI (g i10)))]) rfl ?_
    refine v_iload_n dX6_sum_22 rfl ?_
    refine v_iload dX6_sum_23 rfl ?_
    refine n_iadd (x := sm g i10) (y := g i10) dX6_sum_25 ?_
    refine v_istore_n dX6_sum_26 rfl (by decide) ?_
    refine v_ls (ls2 := [some (.ref a), some (.int (nI (sm g i10 + g i10))), some (.ref a), some (.int (nI 4)), some (.int (nI i10)), some (.int (nI (g i10)))]) rfl ?_
    refine n_iinc (k := 1) (x := i10) dX6_sum_27 (by decide) rfl rfl (by decide) ?_
    refine v_ls (ls2 := [some (.ref a), some (.int (nI (sm g i10 + g i10))), some (.ref a), some (.int (nI 4)), some (.int (nI (i10 + 1))), some (.int (nI (g i10)))]) rfl ?_
    refine v_goto (tgt := 10) dX6_sum_30 (by decide) ?_
    refine v_forget 5 ?_
    refine v_ls (ls2 := [some (.ref a), some (.int (nI (sm g ((i10 + 1))))), some (.ref a), some (.int (nI 4)), some (.int (nI ((i10 + 1)))), none]) rfl (ih10 (by omega) trivial)
set_option maxRecDepth 20000 in
set_option maxHeartbeats 4000000 in
theorem t_X6_sum6 {l : Launch} {G : vG} {n : Nat} {h : AH} {a : Nat} {g : Nat → Nat} (hr : h a = some (ar G 6 g)) (hg : ∀ j, g j < 2 ^ 28) : Mt l G mX6_sum [.ref a] n h 0 0 (fun r n2 h2 => r = some (.int (nI (sm g 6))) ∧ n2 = n ∧ h2 = h) := by
  refine Mt.of (by decide) (Nat.le_of_ble_eq_true rfl) rfl ?_
  refine v_ls (ls2 := [some (.ref a), none, none, none, none, none]) rfl ?_
  refine v_iconst (v := nI 0) dX6_sum_0 (by decide) ?_
  refine v_istore_n dX6_sum_1 rfl (by decide) ?_
  refine v_ls (ls2 := [some (.ref a), some (.int (nI 0)), none, none, none, none]) rfl ?_
  refine v_aload_n dX6_sum_2 rfl ?_
  refine v_astore_n dX6_sum_3 rfl (by decide) ?_
  refine v_ls (ls2 := [some (.ref a), some (.int (nI 0)), some (.ref a), none, none, none]) rfl ?_
  refine v_aload_n dX6_sum_4 rfl ?_
  refine v_alen (t := 0) dX6_sum_5 hr (by decide) ?_
  refine v_st (st2 := [.int (nI 6)]) rfl ?_
  refine v_istore_n dX6_sum_6 rfl (by decide) ?_
  refine v_ls (ls2 := [some (.ref a), some (.int (nI 0)), some (.ref a), some (.int (nI 6)), none, none]) rfl ?_
  refine v_iconst (v := nI 0) dX6_sum_7 (by decide) ?_
  refine v_istore dX6_sum_8 rfl (by decide) ?_
  refine v_ls (ls2 := [some (.ref a), some (.int (nI 0)), some (.ref a), some (.int (nI 6)), some (.int (nI 0)), none]) rfl ?_
  refine loopV (fun i10 => [some (.ref a), some (.int (nI (sm g i10))), some (.ref a), some (.int (nI 6)), some (.int (nI i10)), none]) (fun i10 => True) (N := 6) 0 (by omega) rfl trivial (fun i10 hi10 hp10 ih10 => ?_)
  refine v_iload dX6_sum_10 rfl ?_
  refine v_iload_n dX6_sum_12 rfl ?_
  refine n_icmp_ge (tgt := 33) (x := i10) (y := 6) dX6_sum_13 (by decide) (by omega) (by omega) (fun c1 => ?_) (fun c1 => ?_)
  · refine v_iload_n dX6_sum_33 rfl ?_
    refine v_iret dX6_sum_34 rfl ?_ (Nat.le_refl _) (Nat.le_refl _)
    have e : i10 = 6 := by omega
    subst e
    exact ⟨rfl, rfl, rfl⟩
  · refine v_aload_n dX6_sum_16 rfl ?_
    refine v_iload dX6_sum_17 rfl ?_
    refine n_ialdv (f := g) (j := i10) (y := g i10) dX6_sum_19 hr (by omega) (by decide) rfl ?_
    have b2 := hg i10
    refine v_istore dX6_sum_20 rfl (by decide) ?_
    refine v_ls (ls2 := [some (.ref a), some (.int (nI (sm g i10))), some (.ref a), some (.int (nI 6)), some (.int (nI i10)), some (.int (nI (g i10)))]) rfl ?_
    refine v_iload_n dX6_sum_22 rfl ?_
    refine v_iload dX6_sum_23 rfl ?_
    refine n_iadd (x := sm g i10) (y := g i10) dX6_sum_25 ?_
    refine v_istore_n dX6_sum_26 rfl (by decide) ?_
    refine v_ls (ls2 := [some (.ref a), some (.int (nI (sm g i10 + g i10))), some (.ref a), some (.int (nI 6)), some (.int (nI i10)), some (.int (nI (g i10)))]) rfl ?_
    refine n_iinc (k := 1) (x := i10) dX6_sum_27 (by decide) rfl rfl (by decide) ?_
    refine v_ls (ls2 := [some (.ref a), some (.int (nI (sm g i10 + g i10))), some (.ref a), some (.int (nI 6)), some (.int (nI (i10 + 1))), some (.int (nI (g i10)))]) rfl ?_
    refine v_goto (tgt := 10) dX6_sum_30 (by decide) ?_
    refine v_forget 5 ?_
    refine v_ls (ls2 := [some (.ref a), some (.int (nI (sm g ((i10 + 1))))), some (.ref a), some (.int (nI 6)), some (.int (nI ((i10 + 1)))), none]) rfl (ih10 (by omega) trivial)
set_option maxRecDepth 20000 in
set_option maxHeartbeats 4000000 in
theorem t_X6_sum12 {l : Launch} {G : vG} {n : Nat} {h : AH} {a : Nat} {g : Nat → Nat} (hr : h a = some (ar G 12 g)) (hg : ∀ j, g j < 2 ^ 28) : Mt l G mX6_sum [.ref a] n h 0 0 (fun r n2 h2 => r = some (.int (nI (sm g 12))) ∧ n2 = n ∧ h2 = h) := by
  refine Mt.of (by decide) (Nat.le_of_ble_eq_true rfl) rfl ?_
  refine v_ls (ls2 := [some (.ref a), none, none, none, none, none]) rfl ?_
  refine v_iconst (v := nI 0) dX6_sum_0 (by decide) ?_
  refine v_istore_n dX6_sum_1 rfl (by decide) ?_
  refine v_ls (ls2 := [some (.ref a), some (.int (nI 0)), none, none, none, none]) rfl ?_
  refine v_aload_n dX6_sum_2 rfl ?_
  refine v_astore_n dX6_sum_3 rfl (by decide) ?_
  refine v_ls (ls2 := [some (.ref a), some (.int (nI 0)), some (.ref a), none, none, none]) rfl ?_
  refine v_aload_n dX6_sum_4 rfl ?_
  refine v_alen (t := 0) dX6_sum_5 hr (by decide) ?_
  refine v_st (st2 := [.int (nI 12)]) rfl ?_
  refine v_istore_n dX6_sum_6 rfl (by decide) ?_
  refine v_ls (ls2 := [some (.ref a), some (.int (nI 0)), some (.ref a), some (.int (nI 12)), none, none]) rfl ?_
  refine v_iconst (v := nI 0) dX6_sum_7 (by decide) ?_
  refine v_istore dX6_sum_8 rfl (by decide) ?_
  refine v_ls (ls2 := [some (.ref a), some (.int (nI 0)), some (.ref a), some (.int (nI 12)), some (.int (nI 0)), none]) rfl ?_
  refine loopV (fun i10 => [some (.ref a), some (.int (nI (sm g i10))), some (.ref a), some (.int (nI 12)), some (.int (nI i10)), none]) (fun i10 => True) (N := 12) 0 (by omega) rfl trivial (fun i10 hi10 hp10 ih10 => ?_)
  refine v_iload dX6_sum_10 rfl ?_
  refine v_iload_n dX6_sum_12 rfl ?_
  refine n_icmp_ge (tgt := 33) (x := i10) (y := 12) dX6_sum_13 (by decide) (by omega) (by omega) (fun c1 => ?_) (fun c1 => ?_)
  · refine v_iload_n dX6_sum_33 rfl ?_
    refine v_iret dX6_sum_34 rfl ?_ (Nat.le_refl _) (Nat.le_refl _)
    have e : i10 = 12 := by omega
    subst e
    exact ⟨rfl, rfl, rfl⟩
  · refine v_aload_n dX6_sum_16 rfl ?_
    refine v_iload dX6_sum_17 rfl ?_
    refine n_ialdv (f := g) (j := i10) (y := g i10) dX6_sum_19 hr (by omega) (by decide) rfl ?_
    have b2 := hg i10
    refine v_istore dX6_sum_20 rfl (by decide) ?_
    refine v_ls (ls2 := [some (.ref a), some (.int (nI (sm g i10))), some (.ref a), some (.int (nI 12)), some (.int (nI i10)), some (.int (nI (g i10)))]) rfl ?_
    refine v_iload_n dX6_sum_22 rfl ?_
    refine v_iload dX6_sum_23 rfl ?_
    refine n_iadd (x := sm g i10) (y := g i10) dX6_sum_25 ?_
    refine v_istore_n dX6_sum_26 rfl (by decide) ?_
    refine v_ls (ls2 := [some (.ref a), some (.int (nI (sm g i10 + g i10))), some (.ref a), some (.int (nI 12)), some (.int (nI i10)), some (.int (nI (g i10)))]) rfl ?_
    refine n_iinc (k := 1) (x := i10) dX6_sum_27 (by decide) rfl rfl (by decide) ?_
    refine v_ls (ls2 := [some (.ref a), some (.int (nI (sm g i10 + g i10))), some (.ref a), some (.int (nI 12)), some (.int (nI (i10 + 1))), some (.int (nI (g i10)))]) rfl ?_
    refine v_goto (tgt := 10) dX6_sum_30 (by decide) ?_
    refine v_forget 5 ?_
    refine v_ls (ls2 := [some (.ref a), some (.int (nI (sm g ((i10 + 1))))), some (.ref a), some (.int (nI 12)), some (.int (nI ((i10 + 1)))), none]) rfl (ih10 (by omega) trivial)
set_option maxRecDepth 20000 in
set_option maxHeartbeats 4000000 in
theorem t_X6_isThrone {l : Launch} {G : vG} {n : Nat} {h : AH} {x : Int32}  : Mt l G mX6_isThrone [.int x] n h 0 0 (fun r n2 h2 => r = some (.int (nI (bI (ixb x 4 = true)))) ∧ n2 = n ∧ h2 = h) := by
  refine Mt.of (by decide) (Nat.le_of_ble_eq_true rfl) rfl ?_
  refine v_ls (ls2 := [some (.int x)]) rfl ?_
  refine v_iload_n dX6_isThrone_0 rfl ?_
  refine v_if_lt (tgt := 13) dX6_isThrone_1 (by decide) (fun c1 => ?_) (fun c1 => ?_)
  · refine v_iconst (v := nI 0) dX6_isThrone_13 (by decide) ?_
    refine v_zret (ty := .boolean) dX6_isThrone_14 rfl (by decide) ?_ (Nat.le_refl _) (Nat.le_refl _)
    refine ⟨?_, rfl, rfl⟩
    rw [bI_f (by rw [ixb_iff]; unfold ix; rw [i_neg] at c1; omega)]
  · refine v_iload_n dX6_isThrone_4 rfl ?_
    refine v_iconst (v := nI 4) dX6_isThrone_5 (by decide) ?_
    refine v_icmp_ge (tgt := 13) dX6_isThrone_6 (by decide) (fun c2 => ?_) (fun c2 => ?_)
    · refine v_iconst (v := nI 0) dX6_isThrone_13 (by decide) ?_
      refine v_zret (ty := .boolean) dX6_isThrone_14 rfl (by decide) ?_ (Nat.le_refl _) (Nat.le_refl _)
      refine ⟨?_, rfl, rfl⟩
      rw [bI_f (by rw [ixb_iff]; unfold ix; rw [i_neg] at c1; rw [i_geN (by decide)] at c2; omega)]
    · refine v_iconst (v := nI 1) dX6_isThrone_9 (by decide) ?_
      refine v_goto (tgt := 14) dX6_isThrone_10 (by decide) ?_
      refine v_zret (ty := .boolean) dX6_isThrone_14 rfl (by decide) ?_ (Nat.le_refl _) (Nat.le_refl _)
      refine ⟨?_, rfl, rfl⟩
      rw [bI_t (by rw [ixb_iff]; unfold ix; rw [i_neg] at c1; rw [i_geN (by decide)] at c2; omega)]
