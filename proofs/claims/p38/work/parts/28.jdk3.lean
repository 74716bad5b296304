theorem loopM {l : Launch} {G : vG} {M : vM} {rc rs : Nat} {Fz : vFin} {pc : Nat} {ls : List (Option Value)} {st : List Value} {n : Nat} {h : AH} {cells slots : Nat} {σ : Type} (Ls : σ → List (Option Value)) (Inv : σ → AH → Prop) (μ : σ → Nat) (s0 : σ) (he : ls = Ls s0) (hp : Inv s0 h) (hs : ∀ (s : σ) (h1 : AH), Inv s h1 → (∀ (s2 : σ) (h2 : AH), μ s2 < μ s → Inv s2 h2 → V l G M rc rs Fz pc (Ls s2) st n h2 cells slots) → V l G M rc rs Fz pc (Ls s) st n h1 cells slots) : V l G M rc rs Fz pc ls st n h cells slots := by
  rw [he]
  have key : ∀ (k : Nat) (s : σ) (h1 : AH), μ s < k → Inv s h1 → V l G M rc rs Fz pc (Ls s) st n h1 cells slots := by
    intro k
    induction k with
    | zero => intro s h1 hk; omega
    | succ k ih => intro s h1 hk hp; exact hs s h1 hp (fun s2 h2 h3 hp2 => ih s2 h2 (by omega) hp2)
  exact key _ s0 h (Nat.lt_succ_self _) hp
theorem n255 : ∀ c, c < 128 → nI c &&& nI 255 = nI c := by decide +kernel
def st_chs : List (List Nat) := [[126], [], [32]]
def st_ch (i j : Nat) : Nat := (st_chs.getD i []).getD j 0
theorem st_b : ∀ i, i < 3 → ∀ j, j < 9 → (st_byt.getD i []).getD j 0 = nI (st_ch i j) ∧ st_ch i j < 128 := by decide +kernel
theorem st_l9 : ∀ i, i < 3 → st_len.getD i 0 < 9 := by decide +kernel
/-- Integer.getChars, on its way: e digits stand -/
def gcI (G : vG) (h : AH) (a m k x : Nat) (f : Nat → Int32) (s : Nat × Nat) (h1 : AH) : Prop := s.1 = x / 10 ^ s.2 ∧ sb_dg s.1 + s.2 = sb_dg x ∧ offn 1 a h h1 ∧ ∃ g : Nat → Int32, h1 a = some (.inl (gC G 2, m, .inl g)) ∧ (sb_Fit f → sb_Fit g) ∧ (∀ j, j < k → g j = f j) ∧ ∀ i, i < s.2 → g (k + sb_dg x - 1 - i) = sb_b (48 + x / 10 ^ i % 10)
theorem dv100 (x e : Nat) : x / 10 ^ e / 100 = x / 10 ^ (e + 2) := by rw [Nat.div_div_eq_div_mul, Nat.pow_succ, Nat.pow_succ, Nat.mul_assoc]
theorem dv10 (x e : Nat) : x / 10 ^ e / 10 = x / 10 ^ (e + 1) := by rw [Nat.div_div_eq_div_mul, Nat.pow_succ]
set_option maxRecDepth 20000 in
set_option maxHeartbeats 4000000 in
theorem t_J6_stringSize_0f7a4 {l : Launch} {G : vG} {h : AH} {n : Nat} {x : Nat} (hx : x < 2 ^ 28) : Mt l G mJ6_stringSize_0f7a4 [.int (nI x)] (n) h 0 0 (fun r n2 h2 => r = some (.int (nI (sb_dg x))) ∧ n2 = n ∧ h2 = h) := by
  refine Mt.of (by decide) (Nat.le_of_ble_eq_true rfl) rfl ?_
  refine v_ls (ls2 := [some (.int (nI x)), none, none, none]) rfl ?_
  refine v_iconst (v := nI 1) dJ6_stringSize_0f7a4_0 (by decide) ?_
  refine v_istore_n dJ6_stringSize_0f7a4_1 rfl (by decide) ?_
  refine v_ls (ls2 := [some (.int (nI x)), some (.int (nI 1)), none, none]) rfl ?_
  refine v_iload_n dJ6_stringSize_0f7a4_2 rfl ?_
  refine n_if_lt (tgt := 11) (x := x) dJ6_stringSize_0f7a4_3 (by decide) (by omega) ?_
  refine v_iconst (v := nI 0) dJ6_stringSize_0f7a4_6 (by decide) ?_
  refine v_istore_n dJ6_stringSize_0f7a4_7 rfl (by decide) ?_
  refine v_ls (ls2 := [some (.int (nI x)), some (.int (nI 0)), none, none]) rfl ?_
  refine v_iload_n dJ6_stringSize_0f7a4_8 rfl ?_
  refine v_ineg dJ6_stringSize_0f7a4_9 ?_
  refine v_istore_n dJ6_stringSize_0f7a4_10 rfl (by decide) ?_
  refine v_ls (ls2 := [some (.int ((-nI x))), some (.int (nI 0)), none, none]) rfl ?_
  refine v_bipush (v := (-10)) dJ6_stringSize_0f7a4_11 (by decide) ?_
  refine v_istore_n dJ6_stringSize_0f7a4_13 rfl (by decide) ?_
  refine v_ls (ls2 := [some (.int ((-nI x))), some (.int (nI 0)), some (.int ((-10))), none]) rfl ?_
  refine v_iconst (v := nI 1) dJ6_stringSize_0f7a4_14 (by decide) ?_
  refine v_istore_n dJ6_stringSize_0f7a4_15 rfl (by decide) ?_
  refine v_ls (ls2 := [some (.int ((-nI x))), some (.int (nI 0)), some (.int ((-10))), some (.int (nI 1))]) rfl ?_
  refine v_iload_n dJ6_stringSize_0f7a4_16 rfl ?_
  refine v_bipush (v := nI 10) dJ6_stringSize_0f7a4_17 (by decide) ?_
  refine n_icmp_ge (tgt := 42) (x := 1) (y := 10) dJ6_stringSize_0f7a4_19 (by decide) (by decide) (by decide) (fun c => absurd c (by decide)) (fun _ => ?_)
  refine v_iload_n dJ6_stringSize_0f7a4_22 rfl ?_
  refine v_iload_n dJ6_stringSize_0f7a4_23 rfl ?_
  refine v_icmp_le (tgt := 31) dJ6_stringSize_0f7a4_24 (by decide) (fun c21 => ?_) (fun c21 => ?_)
  · refine v_bipush (v := nI 10) dJ6_stringSize_0f7a4_31 (by decide) ?_
    refine v_iload_n dJ6_stringSize_0f7a4_33 rfl ?_
    refine v_imul dJ6_stringSize_0f7a4_34 ?_
    refine v_st (st2 := [.int ((-100))]) (by rw [show (nI 10 * (-10) : Int32) = (-100) from by decide]) ?_
    refine v_istore_n dJ6_stringSize_0f7a4_35 rfl (by decide) ?_
    refine v_ls (ls2 := [some (.int ((-nI x))), some (.int (nI 0)), some (.int ((-100))), some (.int (nI 1))]) rfl ?_
    refine n_iinc (k := 1) (x := 1) dJ6_stringSize_0f7a4_36 (by decide) rfl rfl (by decide) ?_
    refine v_ls (ls2 := [some (.int ((-nI x))), some (.int (nI 0)), some (.int ((-100))), some (.int (nI 2))]) rfl ?_
    refine v_goto (tgt := 16) dJ6_stringSize_0f7a4_39 (by decide) ?_
    refine v_iload_n dJ6_stringSize_0f7a4_16 rfl ?_
    refine v_bipush (v := nI 10) dJ6_stringSize_0f7a4_17 (by decide) ?_
    refine n_icmp_ge (tgt := 42) (x := 2) (y := 10) dJ6_stringSize_0f7a4_19 (by decide) (by decide) (by decide) (fun c => absurd c (by decide)) (fun _ => ?_)
    refine v_iload_n dJ6_stringSize_0f7a4_22 rfl ?_
    refine v_iload_n dJ6_stringSize_0f7a4_23 rfl ?_
    refine v_icmp_le (tgt := 31) dJ6_stringSize_0f7a4_24 (by decide) (fun c22 => ?_) (fun c22 => ?_)
    · refine v_bipush (v := nI 10) dJ6_stringSize_0f7a4_31 (by decide) ?_
      refine v_iload_n dJ6_stringSize_0f7a4_33 rfl ?_
      refine v_imul dJ6_stringSize_0f7a4_34 ?_
      refine v_st (st2 := [.int ((-1000))]) (by rw [show (nI 10 * (-100) : Int32) = (-1000) from by decide]) ?_
      refine v_istore_n dJ6_stringSize_0f7a4_35 rfl (by decide) ?_
      refine v_ls (ls2 := [some (.int ((-nI x))), some (.int (nI 0)), some (.int ((-1000))), some (.int (nI 2))]) rfl ?_
      refine n_iinc (k := 1) (x := 2) dJ6_stringSize_0f7a4_36 (by decide) rfl rfl (by decide) ?_
      refine v_ls (ls2 := [some (.int ((-nI x))), some (.int (nI 0)), some (.int ((-1000))), some (.int (nI 3))]) rfl ?_
      refine v_goto (tgt := 16) dJ6_stringSize_0f7a4_39 (by decide) ?_
      refine v_iload_n dJ6_stringSize_0f7a4_16 rfl ?_
      refine v_bipush (v := nI 10) dJ6_stringSize_0f7a4_17 (by decide) ?_
      refine n_icmp_ge (tgt := 42) (x := 3) (y := 10) dJ6_stringSize_0f7a4_19 (by decide) (by decide) (by decide) (fun c => absurd c (by decide)) (fun _ => ?_)
      refine v_iload_n dJ6_stringSize_0f7a4_22 rfl ?_
      refine v_iload_n dJ6_stringSize_0f7a4_23 rfl ?_
      refine v_icmp_le (tgt := 31) dJ6_stringSize_0f7a4_24 (by decide) (fun c23 => ?_) (fun c23 => ?_)
      · refine v_bipush (v := nI 10) dJ6_stringSize_0f7a4_31 (by decide) ?_
        refine v_iload_n dJ6_stringSize_0f7a4_33 rfl ?_
        refine v_imul dJ6_stringSize_0f7a4_34 ?_
        refine v_st (st2 := [.int ((-10000))]) (by rw [show (nI 10 * (-1000) : Int32) = (-10000) from by decide]) ?_
        refine v_istore_n dJ6_stringSize_0f7a4_35 rfl (by decide) ?_
        refine v_ls (ls2 := [some (.int ((-nI x))), some (.int (nI 0)), some (.int ((-10000))), some (.int (nI 3))]) rfl ?_
        refine n_iinc (k := 1) (x := 3) dJ6_stringSize_0f7a4_36 (by decide) rfl rfl (by decide) ?_
        refine v_ls (ls2 := [some (.int ((-nI x))), some (.int (nI 0)), some (.int ((-10000))), some (.int (nI 4))]) rfl ?_
        refine v_goto (tgt := 16) dJ6_stringSize_0f7a4_39 (by decide) ?_
        refine v_iload_n dJ6_stringSize_0f7a4_16 rfl ?_
        refine v_bipush (v := nI 10) dJ6_stringSize_0f7a4_17 (by decide) ?_
        refine n_icmp_ge (tgt := 42) (x := 4) (y := 10) dJ6_stringSize_0f7a4_19 (by decide) (by decide) (by decide) (fun c => absurd c (by decide)) (fun _ => ?_)
        refine v_iload_n dJ6_stringSize_0f7a4_22 rfl ?_
        refine v_iload_n dJ6_stringSize_0f7a4_23 rfl ?_
        refine v_icmp_le (tgt := 31) dJ6_stringSize_0f7a4_24 (by decide) (fun c24 => ?_) (fun c24 => ?_)
        · refine v_bipush (v := nI 10) dJ6_stringSize_0f7a4_31 (by decide) ?_
          refine v_iload_n dJ6_stringSize_0f7a4_33 rfl ?_
          refine v_imul dJ6_stringSize_0f7a4_34 ?_
          refine v_st (st2 := [.int ((-100000))]) (by rw [show (nI 10 * (-10000) : Int32) = (-100000) from by decide]) ?_
          refine v_istore_n dJ6_stringSize_0f7a4_35 rfl (by decide) ?_
          refine v_ls (ls2 := [some (.int ((-nI x))), some (.int (nI 0)), some (.int ((-100000))), some (.int (nI 4))]) rfl ?_
          refine n_iinc (k := 1) (x := 4) dJ6_stringSize_0f7a4_36 (by decide) rfl rfl (by decide) ?_
          refine v_ls (ls2 := [some (.int ((-nI x))), some (.int (nI 0)), some (.int ((-100000))), some (.int (nI 5))]) rfl ?_
          refine v_goto (tgt := 16) dJ6_stringSize_0f7a4_39 (by decide) ?_
          refine v_iload_n dJ6_stringSize_0f7a4_16 rfl ?_
          refine v_bipush (v := nI 10) dJ6_stringSize_0f7a4_17 (by decide) ?_
          refine n_icmp_ge (tgt := 42) (x := 5) (y := 10) dJ6_stringSize_0f7a4_19 (by decide) (by decide) (by decide) (fun c => absurd c (by decide)) (fun _ => ?_)
          refine v_iload_n dJ6_stringSize_0f7a4_22 rfl ?_
          refine v_iload_n dJ6_stringSize_0f7a4_23 rfl ?_
          refine v_icmp_le (tgt := 31) dJ6_stringSize_0f7a4_24 (by decide) (fun c25 => ?_) (fun c25 => ?_)
          · refine v_bipush (v := nI 10) dJ6_stringSize_0f7a4_31 (by decide) ?_
            refine v_iload_n dJ6_stringSize_0f7a4_33 rfl ?_
            refine v_imul dJ6_stringSize_0f7a4_34 ?_
            refine v_st (st2 := [.int ((-1000000))]) (by rw [show (nI 10 * (-100000) : Int32) = (-1000000) from by decide]) ?_
            refine v_istore_n dJ6_stringSize_0f7a4_35 rfl (by decide) ?_
            refine v_ls (ls2 := [some (.int ((-nI x))), some (.int (nI 0)), some (.int ((-1000000))), some (.int (nI 5))]) rfl ?_
            refine n_iinc (k := 1) (x := 5) dJ6_stringSize_0f7a4_36 (by decide) rfl rfl (by decide) ?_
            refine v_ls (ls2 := [some (.int ((-nI x))), some (.int (nI 0)), some (.int ((-1000000))), some (.int (nI 6))]) rfl ?_
            refine v_goto (tgt := 16) dJ6_stringSize_0f7a4_39 (by decide) ?_
            refine v_iload_n dJ6_stringSize_0f7a4_16 rfl ?_
            refine v_bipush (v := nI 10) dJ6_stringSize_0f7a4_17 (by decide) ?_
            refine n_icmp_ge (tgt := 42) (x := 6) (y := 10) dJ6_stringSize_0f7a4_19 (by decide) (by decide) (by decide) (fun c => absurd c (by decide)) (fun _ => ?_)
            refine v_iload_n dJ6_stringSize_0f7a4_22 rfl ?_
            refine v_iload_n dJ6_stringSize_0f7a4_23 rfl ?_
            refine v_icmp_le (tgt := 31) dJ6_stringSize_0f7a4_24 (by decide) (fun c26 => ?_) (fun c26 => ?_)
            · refine v_bipush (v := nI 10) dJ6_stringSize_0f7a4_31 (by decide) ?_
              refine v_iload_n dJ6_stringSize_0f7a4_33 rfl ?_
              refine v_imul dJ6_stringSize_0f7a4_34 ?_
              refine v_st (st2 := [.int ((-10000000))]) (by rw [show (nI 10 * (-1000000) : Int32) = (-10000000) from by decide]) ?_
              refine v_istore_n dJ6_stringSize_0f7a4_35 rfl (by decide) ?_
              refine v_ls (ls2 := [some (.int ((-nI x))), some (.int (nI 0)), some (.int ((-10000000))), some (.int (nI 6))]) rfl ?_
              refine n_iinc (k := 1) (x := 6) dJ6_stringSize_0f7a4_36 (by decide) rfl rfl (by decide) ?_
              refine v_ls (ls2 := [some (.int ((-nI x))), some (.int (nI 0)), some (.int ((-10000000))), some (.int (nI 7))]) rfl ?_
              refine v_goto (tgt := 16) dJ6_stringSize_0f7a4_39 (by decide) ?_
              refine v_iload_n dJ6_stringSize_0f7a4_16 rfl ?_
              refine v_bipush (v := nI 10) dJ6_stringSize_0f7a4_17 (by decide) ?_
              refine n_icmp_ge (tgt := 42) (x := 7) (y := 10) dJ6_stringSize_0f7a4_19 (by decide) (by decide) (by decide) (fun c => absurd c (by decide)) (fun _ => ?_)
              refine v_iload_n dJ6_stringSize_0f7a4_22 rfl ?_
              refine v_iload_n dJ6_stringSize_0f7a4_23 rfl ?_
              refine v_icmp_le (tgt := 31) dJ6_stringSize_0f7a4_24 (by decide) (fun c27 => ?_) (fun c27 => ?_)
              · refine v_bipush (v := nI 10) dJ6_stringSize_0f7a4_31 (by decide) ?_
                refine v_iload_n dJ6_stringSize_0f7a4_33 rfl ?_
                refine v_imul dJ6_stringSize_0f7a4_34 ?_
                refine v_st (st2 := [.int ((-100000000))]) (by rw [show (nI 10 * (-10000000) : Int32) = (-100000000) from by decide]) ?_
                refine v_istore_n dJ6_stringSize_0f7a4_35 rfl (by decide) ?_
                refine v_ls (ls2 := [some (.int ((-nI x))), some (.int (nI 0)), some (.int ((-100000000))), some (.int (nI 7))]) rfl ?_
                refine n_iinc (k := 1) (x := 7) dJ6_stringSize_0f7a4_36 (by decide) rfl rfl (by decide) ?_
                refine v_ls (ls2 := [some (.int ((-nI x))), some (.int (nI 0)), some (.int ((-100000000))), some (.int (nI 8))]) rfl ?_
                refine v_goto (tgt := 16) dJ6_stringSize_0f7a4_39 (by decide) ?_
                refine v_iload_n dJ6_stringSize_0f7a4_16 rfl ?_
                refine v_bipush (v := nI 10) dJ6_stringSize_0f7a4_17 (by decide) ?_
                refine n_icmp_ge (tgt := 42) (x := 8) (y := 10) dJ6_stringSize_0f7a4_19 (by decide) (by decide) (by decide) (fun c => absurd c (by decide)) (fun _ => ?_)
                refine v_iload_n dJ6_stringSize_0f7a4_22 rfl ?_
                refine v_iload_n dJ6_stringSize_0f7a4_23 rfl ?_
                refine v_icmp_le (tgt := 31) dJ6_stringSize_0f7a4_24 (by decide) (fun c28 => ?_) (fun c28 => ?_)
                · refine v_bipush (v := nI 10) dJ6_stringSize_0f7a4_31 (by decide) ?_
                  refine v_iload_n dJ6_stringSize_0f7a4_33 rfl ?_
                  refine v_imul dJ6_stringSize_0f7a4_34 ?_
                  refine v_st (st2 := [.int ((-1000000000))]) (by rw [show (nI 10 * (-100000000) : Int32) = (-1000000000) from by decide]) ?_
                  refine v_istore_n dJ6_stringSize_0f7a4_35 rfl (by decide) ?_
                  refine v_ls (ls2 := [some (.int ((-nI x))), some (.int (nI 0)), some (.int ((-1000000000))), some (.int (nI 8))]) rfl ?_
                  refine n_iinc (k := 1) (x := 8) dJ6_stringSize_0f7a4_36 (by decide) rfl rfl (by decide) ?_
                  refine v_ls (ls2 := [some (.int ((-nI x))), some (.int (nI 0)), some (.int ((-1000000000))), some (.int (nI 9))]) rfl ?_
                  refine v_goto (tgt := 16) dJ6_stringSize_0f7a4_39 (by decide) ?_
                  refine v_iload_n dJ6_stringSize_0f7a4_16 rfl ?_
                  refine v_bipush (v := nI 10) dJ6_stringSize_0f7a4_17 (by decide) ?_
                  refine n_icmp_ge (tgt := 42) (x := 9) (y := 10) dJ6_stringSize_0f7a4_19 (by decide) (by decide) (by decide) (fun c => absurd c (by decide)) (fun _ => ?_)
                  refine v_iload_n dJ6_stringSize_0f7a4_22 rfl ?_
                  refine v_iload_n dJ6_stringSize_0f7a4_23 rfl ?_
                  refine v_icmp_le (tgt := 31) dJ6_stringSize_0f7a4_24 (by decide) (fun c29 => ?_) (fun c29 => ?_)
                  · exact absurd ((sb_nle (a := x) (b := 1000000000) (by omega) (by decide)).mp c29) (by omega)
                  · refine v_iload_n dJ6_stringSize_0f7a4_27 rfl ?_
                    refine v_iload_n dJ6_stringSize_0f7a4_28 rfl ?_
                    refine n_iadd (x := 9) (y := 0) dJ6_stringSize_0f7a4_29 ?_
                    refine v_iret dJ6_stringSize_0f7a4_30 rfl ?_ (Nat.le_of_ble_eq_true rfl) (Nat.le_of_ble_eq_true rfl)
                    have q0 : 10 ≤ x := (sb_nle (a := x) (b := 10) (by omega) (by decide)).mp c21
                    have q1 : 100 ≤ x := (sb_nle (a := x) (b := 100) (by omega) (by decide)).mp c22
                    have q2 : 1000 ≤ x := (sb_nle (a := x) (b := 1000) (by omega) (by decide)).mp c23
                    have q3 : 10000 ≤ x := (sb_nle (a := x) (b := 10000) (by omega) (by decide)).mp c24
                    have q4 : 100000 ≤ x := (sb_nle (a := x) (b := 100000) (by omega) (by decide)).mp c25
                    have q5 : 1000000 ≤ x := (sb_nle (a := x) (b := 1000000) (by omega) (by decide)).mp c26
                    have q6 : 10000000 ≤ x := (sb_nle (a := x) (b := 10000000) (by omega) (by decide)).mp c27
                    have q7 : 100000000 ≤ x := (sb_nle (a := x) (b := 100000000) (by omega) (by decide)).mp c28
                    have q8 : x < 1000000000 := Nat.not_le.mp (fun z => c29 ((sb_nle (a := x) (b := 1000000000) (by omega) (by decide)).mpr z))
                    exact ⟨by rw [show sb_dg x = 9 from by unfold sb_dg; (repeat' split) <;> omega], rfl, rfl⟩
                · refine v_iload_n dJ6_stringSize_0f7a4_27 rfl ?_
                  refine v_iload_n dJ6_stringSize_0f7a4_28 rfl ?_
                  refine n_iadd (x := 8) (y := 0) dJ6_stringSize_0f7a4_29 ?_
                  refine v_iret dJ6_stringSize_0f7a4_30 rfl ?_ (Nat.le_of_ble_eq_true rfl) (Nat.le_of_ble_eq_true rfl)
                  have q0 : 10 ≤ x := (sb_nle (a := x) (b := 10) (by omega) (by decide)).mp c21
                  have q1 : 100 ≤ x := (sb_nle (a := x) (b := 100) (by omega) (by decide)).mp c22
                  have q2 : 1000 ≤ x := (sb_nle (a := x) (b := 1000) (by omega) (by decide)).mp c23
                  have q3 : 10000 ≤ x := (sb_nle (a := x) (b := 10000) (by omega) (by decide)).mp c24
                  have q4 : 100000 ≤ x := (sb_nle (a := x) (b := 100000) (by omega) (by decide)).mp c25
                  have q5 : 1000000 ≤ x := (sb_nle (a := x) (b := 1000000) (by omega) (by decide)).mp c26
                  have q6 : 10000000 ≤ x := (sb_nle (a := x) (b := 10000000) (by omega) (by decide)).mp c27
                  have q7 : x < 100000000 := Nat.not_le.mp (fun z => c28 ((sb_nle (a := x) (b := 100000000) (by omega) (by decide)).mpr z))
                  exact ⟨by rw [show sb_dg x = 8 from by unfold sb_dg; (repeat' split) <;> omega], rfl, rfl⟩
              · refine v_iload_n dJ6_stringSize_0f7a4_27 rfl ?_
                refine v_iload_n dJ6_stringSize_0f7a4_28 rfl ?_
                refine n_iadd (x := 7) (y := 0) dJ6_stringSize_0f7a4_29 ?_
                refine v_iret dJ6_stringSize_0f7a4_30 rfl ?_ (Nat.le_of_ble_eq_true rfl) (Nat.le_of_ble_eq_true rfl)
                have q0 : 10 ≤ x := (sb_nle (a := x) (b := 10) (by omega) (by decide)).mp c21
                have q1 : 100 ≤ x := (sb_nle (a := x) (b := 100) (by omega) (by decide)).mp c22
                have q2 : 1000 ≤ x := (sb_nle (a := x) (b := 1000) (by omega) (by decide)).mp c23
                have q3 : 10000 ≤ x := (sb_nle (a := x) (b := 10000) (by omega) (by decide)).mp c24
                have q4 : 100000 ≤ x := (sb_nle (a := x) (b := 100000) (by omega) (by decide)).mp c25
                have q5 : 1000000 ≤ x := (sb_nle (a := x) (b := 1000000) (by omega) (by decide)).mp c26
                have q6 : x < 10000000 := Nat.not_le.mp (fun z => c27 ((sb_nle (a := x) (b := 10000000) (by omega) (by decide)).mpr z))
                exact ⟨by rw [show sb_dg x = 7 from by unfold sb_dg; (repeat' split) <;> omega], rfl, rfl⟩
            · refine v_iload_n dJ6_stringSize_0f7a4_27 rfl ?_
              refine v_iload_n dJ6_stringSize_0f7a4_28 rfl ?_
              refine n_iadd (x := 6) (y := 0) dJ6_stringSize_0f7a4_29 ?_
              refine v_iret dJ6_stringSize_0f7a4_30 rfl ?_ (Nat.le_of_ble_eq_true rfl) (Nat.le_of_ble_eq_true rfl)
              have q0 : 10 ≤ x := (sb_nle (a := x) (b := 10) (by omega) (by decide)).mp c21
              have q1 : 100 ≤ x := (sb_nle (a := x) (b := 100) (by omega) (by decide)).mp c22
              have q2 : 1000 ≤ x := (sb_nle (a := x) (b := 1000) (by omega) (by decide)).mp c23
              have q3 : 10000 ≤ x := (sb_nle (a := x) (b := 10000) (by omega) (by decide)).mp c24
              have q4 : 100000 ≤ x := (sb_nle (a := x) (b := 100000) (by omega) (by decide)).mp c25
              have q5 : x < 1000000 := Nat.not_le.mp (fun z => c26 ((sb_nle (a := x) (b := 1000000) (by omega) (by decide)).mpr z))
              exact ⟨by rw [show sb_dg x = 6 from by unfold sb_dg; (repeat' split) <;> omega], rfl, rfl⟩
          · refine v_iload_n dJ6_stringSize_0f7a4_27 rfl ?_
            refine v_iload_n dJ6_stringSize_0f7a4_28 rfl ?_
            refine n_iadd (x := 5) (y := 0) dJ6_stringSize_0f7a4_29 ?_
            refine v_iret dJ6_stringSize_0f7a4_30 rfl ?_ (Nat.le_of_ble_eq_true rfl) (Nat.le_of_ble_eq_true rfl)
            have q0 : 10 ≤ x := (sb_nle (a := x) (b := 10) (by omega) (by decide)).mp c21
            have q1 : 100 ≤ x := (sb_nle (a := x) (b := 100) (by omega) (by decide)).mp c22
            have q2 : 1000 ≤ x := (sb_nle (a := x) (b := 1000) (by omega) (by decide)).mp c23
            have q3 : 10000 ≤ x := (sb_nle (a := x) (b := 10000) (by omega) (by decide)).mp c24
            have q4 : x < 100000 := Nat.not_le.mp (fun z => c25 ((sb_nle (a := x) (b := 100000) (by omega) (by decide)).mpr z))
            exact ⟨by rw [show sb_dg x = 5 from by unfold sb_dg; (repeat' split) <;> omega], rfl, rfl⟩
        · refine v_iload_n dJ6_stringSize_0f7a4_27 rfl ?_
          refine v_iload_n dJ6_stringSize_0f7a4_28 rfl ?_
          refine n_iadd (x := 4) (y := 0) dJ6_stringSize_0f7a4_29 ?_
          refine v_iret dJ6_stringSize_0f7a4_30 rfl ?_ (Nat.le_of_ble_eq_true rfl) (Nat.le_of_ble_eq_true rfl)
          have q0 : 10 ≤ x := (sb_nle (a := x) (b := 10) (by omega) (by decide)).mp c21
          have q1 : 100 ≤ x := (sb_nle (a := x) (b := 100) (by omega) (by decide)).mp c22
          have q2 : 1000 ≤ x := (sb_nle (a := x) (b := 1000) (by omega) (by decide)).mp c23
          have q3 : x < 10000 := Nat.not_le.mp (fun z => c24 ((sb_nle (a := x) (b := 10000) (by omega) (by decide)).mpr z))
          exact ⟨by rw [show sb_dg x = 4 from by unfold sb_dg; (repeat' split) <;> omega], rfl, rfl⟩
      · refine v_iload_n dJ6_stringSize_0f7a4_27 rfl ?_
        refine v_iload_n dJ6_stringSize_0f7a4_28 rfl ?_
        refine n_iadd (x := 3) (y := 0) dJ6_stringSize_0f7a4_29 ?_
        refine v_iret dJ6_stringSize_0f7a4_30 rfl ?_ (Nat.le_of_ble_eq_true rfl) (Nat.le_of_ble_eq_true rfl)
        have q0 : 10 ≤ x := (sb_nle (a := x) (b := 10) (by omega) (by decide)).mp c21
        have q1 : 100 ≤ x := (sb_nle (a := x) (b := 100) (by omega) (by decide)).mp c22
        have q2 : x < 1000 := Nat.not_le.mp (fun z => c23 ((sb_nle (a := x) (b := 1000) (by omega) (by decide)).mpr z))
        exact ⟨by rw [show sb_dg x = 3 from by unfold sb_dg; (repeat' split) <;> omega], rfl, rfl⟩
    · refine v_iload_n dJ6_stringSize_0f7a4_27 rfl ?_
      refine v_iload_n dJ6_stringSize_0f7a4_28 rfl ?_
      refine n_iadd (x := 2) (y := 0) dJ6_stringSize_0f7a4_29 ?_
      refine v_iret dJ6_stringSize_0f7a4_30 rfl ?_ (Nat.le_of_ble_eq_true rfl) (Nat.le_of_ble_eq_true rfl)
      have q0 : 10 ≤ x := (sb_nle (a := x) (b := 10) (by omega) (by decide)).mp c21
      have q1 : x < 100 := Nat.not_le.mp (fun z => c22 ((sb_nle (a := x) (b := 100) (by omega) (by decide)).mpr z))
      exact ⟨by rw [show sb_dg x = 2 from by unfold sb_dg; (repeat' split) <;> omega], rfl, rfl⟩
  · refine v_iload_n dJ6_stringSize_0f7a4_27 rfl ?_
    refine v_iload_n dJ6_stringSize_0f7a4_28 rfl ?_
    refine n_iadd (x := 1) (y := 0) dJ6_stringSize_0f7a4_29 ?_
    refine v_iret dJ6_stringSize_0f7a4_30 rfl ?_ (Nat.le_of_ble_eq_true rfl) (Nat.le_of_ble_eq_true rfl)
    have q0 : x < 10 := Nat.not_le.mp (fun z => c21 ((sb_nle (a := x) (b := 10) (by omega) (by decide)).mpr z))
    exact ⟨by rw [show sb_dg x = 1 from by unfold sb_dg; (repeat' split) <;> omega], rfl, rfl⟩
set_option maxRecDepth 20000 in
set_option maxHeartbeats 4000000 in
theorem t_J6_getChars_ba4f3 {l : Launch} {G : vG} {h : AH} {n : Nat} {a m k x : Nat} {f : Nat → Int32} (hx : x < 2 ^ 28) (ha : h a = some (.inl (gC G 2, m, .inl f))) (hm : k + sb_dg x ≤ m) (hm2 : m ≤ 60000) : Mt l G mJ6_getChars_ba4f3 [.int (nI x), .int (nI (k + sb_dg x)), .ref a] (n) h 0 0 (fun r n2 h2 => r = some (.int (nI k)) ∧ n2 = n ∧ ∃ g : Nat → Int32, h2 a = some (.inl (gC G 2, m, .inl g)) ∧ (sb_Fit f → sb_Fit g) ∧ (∀ j, j < k → g j = f j) ∧ (∀ i, i < sb_dg x → g (k + sb_dg x - 1 - i) = sb_b (48 + x / 10 ^ i % 10)) ∧ offn 1 a h h2) := by
  refine Mt.of (by decide) (Nat.le_of_ble_eq_true rfl) rfl ?_
  refine v_ls (ls2 := [some (.int (nI x)), some (.int (nI (k + sb_dg x))), some (.ref a), none, none, none, none]) rfl ?_
  have hdx := (sb_dg_in x).1
  refine v_iload_n dJ6_getChars_ba4f3_0 rfl ?_
  refine v_istore dJ6_getChars_ba4f3_1 rfl (by decide) ?_
  refine v_ls (ls2 := [some (.int (nI x)), some (.int (nI (k + sb_dg x))), some (.ref a), none, none, some (.int (nI (k + sb_dg x))), none]) rfl ?_
  refine v_iload_n dJ6_getChars_ba4f3_3 rfl ?_
  refine n_if_ge (tgt := 11) (x := x) dJ6_getChars_ba4f3_4 (by decide) (by omega) ?_
  refine v_iconst (v := nI 0) dJ6_getChars_ba4f3_11 (by decide) ?_
  refine v_istore dJ6_getChars_ba4f3_12 rfl (by decide) ?_
  refine v_ls (ls2 := [some (.int (nI x)), some (.int (nI (k + sb_dg x))), some (.ref a), none, none, some (.int (nI (k + sb_dg x))), some (.int (nI 0))]) rfl ?_
  refine v_iload dJ6_getChars_ba4f3_14 rfl ?_
  refine n_if_ne (tgt := 22) (x := 0) dJ6_getChars_ba4f3_16 (by decide) (by decide) (fun c => absurd c (by decide)) (fun _ => ?_)
  refine v_iload_n dJ6_getChars_ba4f3_19 rfl ?_
  refine v_ineg dJ6_getChars_ba4f3_20 ?_
  refine v_istore_n dJ6_getChars_ba4f3_21 rfl (by decide) ?_
  refine v_ls (ls2 := [some (.int ((-nI x))), some (.int (nI (k + sb_dg x))), some (.ref a), none, none, some (.int (nI (k + sb_dg x))), some (.int (nI 0))]) rfl ?_
  refine loopM (fun s : Nat × Nat => [some (.int ((-nI s.1))), some (.int (nI (k + sb_dg x))), some (.ref a), none, none, some (.int (nI (k + sb_dg s.1))), some (.int (nI 0))]) (gcI G h a m k x f) (fun s => s.1) (x, 0) rfl ⟨(Nat.div_one x).symm, rfl, offn_rf, f, ha, id, fun _ _ => rfl, fun i hi => absurd hi (Nat.not_lt_zero i)⟩ (fun s h1 hp ih => ?_)
  obtain ⟨w, e⟩ := s
  obtain ⟨hw, he, hof, g, hg, hgf, hgk, hgd⟩ := hp
  have hw : w = x / 10 ^ e := hw
  have he : sb_dg w + e = sb_dg x := he
  have hwx : w ≤ x := by rw [hw]; exact Nat.div_le_self _ _
  have hd1 := (sb_dg_in w).1
  refine v_ls (ls2 := [some (.int ((-nI w))), some (.int (nI (k + sb_dg x))), some (.ref a), none, none, some (.int (nI (k + sb_dg w))), some (.int (nI 0))]) rfl ?_
  refine v_iload_n dJ6_getChars_ba4f3_22 rfl ?_
  refine v_bipush (v := (-100)) dJ6_getChars_ba4f3_23 (by decide) ?_
  refine v_icmp_gt (tgt := 72) dJ6_getChars_ba4f3_25 (by decide) (fun c21 => ?_) (fun c21 => ?_)
  · have hw100 : w < 100 := (sb_nlt (a := 100) (b := w) (by decide) (by omega)).mp c21
    obtain ⟨P, hP⟩ : ∃ P, k + sb_dg w = P + 1 := ⟨k + sb_dg w - 1, by omega⟩
    refine v_ls (ls2 := [some (.int ((-nI w))), some (.int (nI (k + sb_dg x))), some (.ref a), none, none, some (.int (nI (P + 1))), some (.int (nI 0))]) (by rw [hP]) ?_
    refine v_aload_n dJ6_getChars_ba4f3_72 rfl ?_
    refine n_idec (x := P) dJ6_getChars_ba4f3_73 (by decide) rfl rfl (by decide) ?_
    refine v_ls (ls2 := [some (.int ((-nI w))), some (.int (nI (k + sb_dg x))), some (.ref a), none, none, some (.int (nI P)), some (.int (nI 0))]) rfl ?_
    refine v_iload dJ6_getChars_ba4f3_76 rfl ?_
    refine v_gs1 dJ6_getChars_ba4f3_78 q4_102 ?_
    refine v_iload_n dJ6_getChars_ba4f3_81 rfl ?_
    refine v_ineg dJ6_getChars_ba4f3_82 ?_
    refine v_st (st2 := [.int (nI w), .ref (gA G 2 0), .int (nI P), .ref a]) (by rw [Int32.neg_neg]) ?_
    refine v_t1 (j := w) dJ6_getChars_ba4f3_83 (by omega) ?_
    refine v_st (st2 := [.int (nI (48 + w % 10)), .int (nI P), .ref a]) rfl ?_
    refine n_bastN (j := P) (v := 48 + w % 10) dJ6_getChars_ba4f3_84 hg (by omega) (by omega) ?_
    refine nw (fun h1 f1 s1 => ?_)
    have fa22 : h1 (a) = some (.inl (gC G 2, m, .inl (upd g P (sb_b (48 + w % 10))))) := f1
    have sa22 := s1
    clear f1 s1
    have fr23 := offn_in (k := 1) (q := a) hof sa22 (by omega)
    refine v_iload_n dJ6_getChars_ba4f3_85 rfl ?_
    refine v_bipush (v := (-9)) dJ6_getChars_ba4f3_86 (by decide) ?_
    refine v_icmp_ge (tgt := 104) dJ6_getChars_ba4f3_88 (by decide) (fun c24 => ?_) (fun c24 => ?_)
    · refine v_iload dJ6_getChars_ba4f3_104 rfl ?_
      refine n_if_eq (tgt := 118) (x := 0) dJ6_getChars_ba4f3_106 (by decide) (by decide) (fun _ => ?_) (fun c => absurd c (by decide))
      refine v_iload dJ6_getChars_ba4f3_118 rfl ?_
      refine v_iret dJ6_getChars_ba4f3_120 rfl ?_ (Nat.le_of_ble_eq_true rfl) (Nat.le_of_ble_eq_true rfl)
      have hw10 : w < 10 := by have := (sb_nle (a := 9) (b := w) (by decide) (by omega)).mp c24; omega
      have hdw : sb_dg w = 1 := if_pos hw10
      have hPk : P = k := by omega
      refine ⟨by rw [hPk], rfl, _, fa22, fun z => sb_fitU (hgf z) (sb_fitB _), fun j hj => by rw [pk_un (by omega)]; exact hgk j hj, fun i hi => ?_, fr23⟩
      by_cases i0 : i < e
      · rw [pk_un (by omega)]; exact hgd i i0
      · have i1 : i = e := by omega
        subst i1; rw [show k + sb_dg x - 1 - i = P by omega, pk_us, ← hw]
    · have hw10 : 10 ≤ w := Nat.not_lt.mp (fun z => c24 ((sb_nle (a := 9) (b := w) (by decide) (by omega)).mpr (by omega)))
      have hdw : sb_dg w = 2 := by unfold sb_dg; rw [if_neg (by omega), if_pos hw100]
      obtain ⟨P2, hP2⟩ : ∃ P2, P = P2 + 1 := ⟨P - 1, by omega⟩
      refine v_ls (ls2 := [some (.int ((-nI w))), some (.int (nI (k + sb_dg x))), some (.ref a), none, none, some (.int (nI (P2 + 1))), some (.int (nI 0))]) (by rw [hP2]) ?_
      refine v_aload_n dJ6_getChars_ba4f3_91 rfl ?_
      refine n_idec (x := P2) dJ6_getChars_ba4f3_92 (by decide) rfl rfl (by decide) ?_
      refine v_ls (ls2 := [some (.int ((-nI w))), some (.int (nI (k + sb_dg x))), some (.ref a), none, none, some (.int (nI P2)), some (.int (nI 0))]) rfl ?_
      refine v_iload dJ6_getChars_ba4f3_95 rfl ?_
      refine v_gsT dJ6_getChars_ba4f3_97 q4_104 ?_
      refine v_iload_n dJ6_getChars_ba4f3_100 rfl ?_
      refine v_ineg dJ6_getChars_ba4f3_101 ?_
      refine v_st (st2 := [.int (nI w), .ref (gA G 2 1), .int (nI P2), .ref a]) (by rw [Int32.neg_neg]) ?_
      refine v_tT (j := w) dJ6_getChars_ba4f3_102 (by omega) ?_
      refine v_st (st2 := [.int (nI (48 + w / 10)), .int (nI P2), .ref a]) rfl ?_
      refine n_bastN (j := P2) (v := 48 + w / 10) dJ6_getChars_ba4f3_103 fa22 (by omega) (by omega) ?_
      refine nw (fun h1 f1 s1 => ?_)
      have fa25 : h1 (a) = some (.inl (gC G 2, m, .inl (upd (upd g P (sb_b (48 + w % 10))) P2 (sb_b (48 + w / 10))))) := f1
      have sa25 := s1
      clear f1 s1
      have fr26 := offn_in (k := 1) (q := a) fr23 sa25 (by omega)
      refine v_iload dJ6_getChars_ba4f3_104 rfl ?_
      refine n_if_eq (tgt := 118) (x := 0) dJ6_getChars_ba4f3_106 (by decide) (by decide) (fun _ => ?_) (fun c => absurd c (by decide))
      refine v_iload dJ6_getChars_ba4f3_118 rfl ?_
      refine v_iret dJ6_getChars_ba4f3_120 rfl ?_ (Nat.le_of_ble_eq_true rfl) (Nat.le_of_ble_eq_true rfl)
      have hPk : P2 = k := by omega
      refine ⟨by rw [hPk], rfl, _, fa25, fun z => sb_fitU (sb_fitU (hgf z) (sb_fitB _)) (sb_fitB _), fun j hj => by rw [pk_un (by omega), pk_un (by omega)]; exact hgk j hj, fun i hi => ?_, fr26⟩
      by_cases i0 : i < e
      · rw [pk_un (by omega), pk_un (by omega)]; exact hgd i i0
      by_cases i1 : i = e
      · subst i1; rw [show k + sb_dg x - 1 - i = P by omega, pk_un (by omega), pk_us, ← hw]
      · have i2 : i = e + 1 := by omega
        subst i2; rw [show k + sb_dg x - 1 - (e + 1) = P2 by omega, pk_us, ← dv10, ← hw]; congr 1; omega
  · have hw100 : 100 ≤ w := Nat.not_lt.mp (fun z => c21 ((sb_nlt (a := 100) (b := w) (by decide) (by omega)).mpr z))
    have hd2 := sb_dg100 hw100 (by omega)
    have hd3 := (sb_dg_in (w / 100)).1
    obtain ⟨P, hP⟩ : ∃ P, k + sb_dg w = P + 2 := ⟨k + sb_dg w - 2, by omega⟩
    have hPd : P = k + sb_dg (w / 100) := by omega
    refine v_ls (ls2 := [some (.int ((-nI w))), some (.int (nI (k + sb_dg x))), some (.ref a), none, none, some (.int (nI ((P + 1) + 1))), some (.int (nI 0))]) (by rw [hP]) ?_
    refine v_iload_n dJ6_getChars_ba4f3_28 rfl ?_
    refine v_bipush (v := nI 100) dJ6_getChars_ba4f3_29 (by decide) ?_
    refine v_idiv dJ6_getChars_ba4f3_31 (by decide) ?_
    refine v_st (st2 := [.int ((-nI (w / 100)))]) (by rw [show (-nI w) / nI 100 = -nI (w / 100) from sb_ndiv (by omega)]) ?_
    refine v_istore_n dJ6_getChars_ba4f3_32 rfl (by decide) ?_
    refine v_ls (ls2 := [some (.int ((-nI w))), some (.int (nI (k + sb_dg x))), some (.ref a), some (.int ((-nI (w / 100)))), none, some (.int (nI ((P + 1) + 1))), some (.int (nI 0))]) rfl ?_
    refine v_iload_n dJ6_getChars_ba4f3_33 rfl ?_
    refine v_bipush (v := nI 100) dJ6_getChars_ba4f3_34 (by decide) ?_
    refine v_imul dJ6_getChars_ba4f3_36 ?_
    refine v_st (st2 := [.int (((-nI (w / 100)) * nI 100))]) rfl ?_
    refine v_iload_n dJ6_getChars_ba4f3_37 rfl ?_
    refine v_isub dJ6_getChars_ba4f3_38 ?_
    refine v_st (st2 := [.int (nI (w % 100))]) (by rw [show (-nI (w / 100)) * nI 100 - (-nI w) = nI (w % 100) from sb_nrem (by omega)]) ?_
    refine v_istore dJ6_getChars_ba4f3_39 rfl (by decide) ?_
    refine v_ls (ls2 := [some (.int ((-nI w))), some (.int (nI (k + sb_dg x))), some (.ref a), some (.int ((-nI (w / 100)))), some (.int (nI (w % 100))), some (.int (nI ((P + 1) + 1))), some (.int (nI 0))]) rfl ?_
    refine v_iload_n dJ6_getChars_ba4f3_41 rfl ?_
    refine v_istore_n dJ6_getChars_ba4f3_42 rfl (by decide) ?_
    refine v_ls (ls2 := [some (.int ((-nI (w / 100)))), some (.int (nI (k + sb_dg x))), some (.ref a), some (.int ((-nI (w / 100)))), some (.int (nI (w % 100))), some (.int (nI ((P + 1) + 1))), some (.int (nI 0))]) rfl ?_
    refine v_aload_n dJ6_getChars_ba4f3_43 rfl ?_
    refine n_idec (x := P + 1) dJ6_getChars_ba4f3_44 (by decide) rfl rfl (by decide) ?_
    refine v_ls (ls2 := [some (.int ((-nI (w / 100)))), some (.int (nI (k + sb_dg x))), some (.ref a), some (.int ((-nI (w / 100)))), some (.int (nI (w % 100))), some (.int (nI (P + 1))), some (.int (nI 0))]) rfl ?_
    refine v_iload dJ6_getChars_ba4f3_47 rfl ?_
    refine v_gs1 dJ6_getChars_ba4f3_49 q4_102 ?_
    refine v_iload dJ6_getChars_ba4f3_52 rfl ?_
    refine v_t1 (j := w % 100) dJ6_getChars_ba4f3_54 (by omega) ?_
    refine v_st (st2 := [.int (nI (48 + (w % 100) % 10)), .int (nI (P + 1)), .ref a]) rfl ?_
    refine n_bastN (j := P + 1) (v := 48 + (w % 100) % 10) dJ6_getChars_ba4f3_55 hg (by omega) (by omega) ?_
    refine nw (fun h1 f1 s1 => ?_)
    have fa27 : h1 (a) = some (.inl (gC G 2, m, .inl (upd g (P + 1) (sb_b (48 + (w % 100) % 10))))) := f1
    have sa27 := s1
    clear f1 s1
    have fr28 := offn_in (k := 1) (q := a) hof sa27 (by omega)
    refine v_aload_n dJ6_getChars_ba4f3_56 rfl ?_
    refine n_idec (x := P) dJ6_getChars_ba4f3_57 (by decide) rfl rfl (by decide) ?_
    refine v_ls (ls2 := [some (.int ((-nI (w / 100)))), some (.int (nI (k + sb_dg x))), some (.ref a), some (.int ((-nI (w / 100)))), some (.int (nI (w % 100))), some (.int (nI P)), some (.int (nI 0))]) rfl ?_
    refine v_iload dJ6_getChars_ba4f3_60 rfl ?_
    refine v_gsT dJ6_getChars_ba4f3_62 q4_104 ?_
    refine v_iload dJ6_getChars_ba4f3_65 rfl ?_
    refine v_tT (j := w % 100) dJ6_getChars_ba4f3_67 (by omega) ?_
    refine v_st (st2 := [.int (nI (48 + (w % 100) / 10)), .int (nI P), .ref a]) rfl ?_
    refine n_bastN (j := P) (v := 48 + (w % 100) / 10) dJ6_getChars_ba4f3_68 fa27 (by omega) (by omega) ?_
    refine nw (fun h1 f1 s1 => ?_)
    have fa29 : h1 (a) = some (.inl (gC G 2, m, .inl (upd (upd g (P + 1) (sb_b (48 + (w % 100) % 10))) P (sb_b (48 + (w % 100) / 10))))) := f1
    have sa29 := s1
    clear f1 s1
    have fr30 := offn_in (k := 1) (q := a) fr28 sa29 (by omega)
    refine v_goto (tgt := 22) dJ6_getChars_ba4f3_69 (by decide) ?_
    refine v_forget 3 ?_
    refine v_forget 4 ?_
    refine v_ls (ls2 := [some (.int ((-nI ((w / 100))))), some (.int (nI (k + sb_dg x))), some (.ref a), none, none, some (.int (nI (k + sb_dg ((w / 100))))), some (.int (nI 0))]) (by rw [hPd]; rfl) (ih (w / 100, e + 2) _ (by show w / 100 < w; omega) ⟨by show w / 100 = _; rw [hw]; exact dv100 _ _, by show sb_dg (w / 100) + (e + 2) = _; omega, fr30, _, fa29, fun z => sb_fitU (sb_fitU (hgf z) (sb_fitB _)) (sb_fitB _), fun j hj => by rw [pk_un (by omega), pk_un (by omega)]; exact hgk j hj, fun i hi => ?_⟩)
    have hi : i < e + 2 := hi
    by_cases i0 : i < e
    · rw [pk_un (by omega), pk_un (by omega)]; exact hgd i i0
    by_cases i1 : i = e
    · subst i1; rw [show k + sb_dg x - 1 - i = P + 1 by omega, pk_un (by omega), pk_us, ← hw]; congr 1; omega
    · have i2 : i = e + 1 := by omega
      subst i2; rw [show k + sb_dg x - 1 - (e + 1) = P by omega, pk_us, ← dv10, ← hw]; congr 1; omega
