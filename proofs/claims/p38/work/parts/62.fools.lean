set_option maxRecDepth 20000 in
set_option maxHeartbeats 12000000 in
theorem t_L_fools {l : Launch} {G : vG} {h : AH} {n : Nat} {u a : Nat} {LN : Ln} {C : Ct} {T : Hs} {Sn : Ct} {sv : Nat} {rs dt : Int32} {b : Nat} (g : gd b C) (o : oP G u n h a LN C T Sn sv rs dt) (hT : T.1 ≤ 8) (hb9 : b ≤ 145000) : Mt l G mL_fools [.ref u] (n) h 500 27000 (fun r n2 h2 => r = some (.int (nI 1)) ∧ ∃ (a2 : Nat) (L2 : Ln), n ≤ n2 ∧ (a2 = a ∨ n ≤ a2) ∧ a2 < n2 ∧ oP G u n2 h2 a2 L2 C T Sn sv rs dt ∧ frP (fun z => z < n ∧ z ≠ u + 248 ∧ z ≠ a) h h2) := by
  refine Mt.of (by decide) (Nat.le_of_ble_eq_true rfl) rfl ?_
  refine v_ls (ls2 := [some (.ref u), none, none, none, none, none, none, none, none, none, none, none, none, none, none]) rfl ?_
  have hun := o.n
  have hn6 := g.1.1.1.1
  have hn12 := g.1.1.1.2.1
  have hn10 := g.1.1.1.2.2.1
  have hc0 : (cstL 0).2 = 1 := rfl
  have hc1 : (cstL 1).2 = 0 := rfl
  have hc2 : (cstL 2).2 = 1 := rfl
  refine v_aload_n dL_fools_0 rfl ?_
  refine v_iconst (v := nI 0) dL_fools_1 (by decide) ?_
  refine v_ask (st := []) (v2 := nI (C 0 0)) dL_fools_2 (o_account g o) (qAcc_at (w := 0) (by decide)) wL_34 o.he rfl rfl ⟨Nat.le_of_ble_eq_true rfl, Nat.le_of_ble_eq_true rfl⟩ (Nat.le_of_ble_eq_true rfl) ⟨by omega, by omega⟩ ?_
  have b21 : C 0 0 < 2 ^ 28 := C_b g
  refine v_istore_n dL_fools_5 rfl (by decide) ?_
  refine v_ls (ls2 := [some (.ref u), some (.int (nI (C 0 0))), none, none, none, none, none, none, none, none, none, none, none, none, none]) rfl ?_
  refine v_iconst (v := nI 0) dL_fools_6 (by decide) ?_
  refine v_istore_n dL_fools_7 rfl (by decide) ?_
  refine v_ls (ls2 := [some (.ref u), some (.int (nI (C 0 0))), some (.int (nI 0)), none, none, none, none, none, none, none, none, none, none, none, none]) rfl ?_
  refine v_iconst (v := nI 0) dL_fools_8 (by decide) ?_
  refine v_istore_n dL_fools_9 rfl (by decide) ?_
  refine v_ls (ls2 := [some (.ref u), some (.int (nI (C 0 0))), some (.int (nI 0)), some (.int (nI 0)), none, none, none, none, none, none, none, none, none, none, none]) rfl ?_
  refine v_iconst (v := nI 0) dL_fools_10 (by decide) ?_
  refine v_istore dL_fools_11 rfl (by decide) ?_
  refine v_ls (ls2 := [some (.ref u), some (.int (nI (C 0 0))), some (.int (nI 0)), some (.int (nI 0)), some (.int (nI 0)), none, none, none, none, none, none, none, none, none, none]) rfl ?_
  refine v_iconst (v := nI 0) dL_fools_13 (by decide) ?_
  refine v_istore dL_fools_14 rfl (by decide) ?_
  refine v_ls (ls2 := [some (.ref u), some (.int (nI (C 0 0))), some (.int (nI 0)), some (.int (nI 0)), some (.int (nI 0)), some (.int (nI 0)), none, none, none, none, none, none, none, none, none]) rfl ?_
  refine v_iconst (v := nI 0) dL_fools_16 (by decide) ?_
  refine v_istore dL_fools_17 rfl (by decide) ?_
  refine v_ls (ls2 := [some (.ref u), some (.int (nI (C 0 0))), some (.int (nI 0)), some (.int (nI 0)), some (.int (nI 0)), some (.int (nI 0)), some (.int (nI 0)), none, none, none, none, none, none, none, none]) rfl ?_
  refine v_iconst (v := (-1)) dL_fools_19 (by decide) ?_
  refine v_istore dL_fools_20 rfl (by decide) ?_
  refine v_ls (ls2 := [some (.ref u), some (.int (nI (C 0 0))), some (.int (nI 0)), some (.int (nI 0)), some (.int (nI 0)), some (.int (nI 0)), some (.int (nI 0)), some (.int ((-1))), none, none, none, none, none, none, none]) rfl ?_
  refine v_iconst (v := nI 0) dL_fools_22 (by decide) ?_
  refine v_istore dL_fools_23 rfl (by decide) ?_
  refine v_ls (ls2 := [some (.ref u), some (.int (nI (C 0 0))), some (.int (nI 0)), some (.int (nI 0)), some (.int (nI 0)), some (.int (nI 0)), some (.int (nI 0)), some (.int ((-1))), some (.int (nI 0)), none, none, none, none, none, none]) rfl ?_
  refine loopX (fun f => [some (.ref u), some (.int (nI (C 0 0))), some (.int (nI (sm (C 2) f))), some (.int (nI (sm (C 3) f))), some (.int (nI (sm (C 5) f))), some (.int (nI (sm (C 6) f))), some (.int (nI 0)), some (.int ((lastF C f))), some (.int (nI f)), none, none, none, none, none, none]) (fun f x n1 h1 => ∃ (aL : Nat) (LM : Ln), oP G u n1 h1 aL LM C T Sn sv rs dt ∧ (n ≤ n1 ∧ (aL = a ∨ n ≤ aL) ∧ aL < n1) ∧ frP (fun z => z < n ∧ z ≠ u + 248 ∧ z ≠ a) h h1) (fun f x => f * 80) (fun f x => f * 4000) (N := C 0 0) 0 0 (Nat.zero_le _) rfl ⟨_, _, o, ⟨by omega, by omega, by omega⟩, fun z _ => rfl⟩ (by omega) (by omega) (fun f x n1 h1 hf hp9 ihF => ?_)
  obtain ⟨aL, LM, ho1, ⟨hq1, hq2, hq3⟩, fr1⟩ := hp9
  have hC4 := g.1.1.1.2.2.2.2.2.1 f
  have hC2 := g.1.1.1.2.2.2.2.1 f
  have hC6 := g.1.2.2.1 f
  have hB5 := C_b (x := 5) (y := f) g
  have hB3 := C_b (x := 3) (y := f) g
  refine v_iload dL_fools_25 rfl ?_
  refine v_iload_n dL_fools_27 rfl ?_
  refine n_icmp_ge (tgt := 490) (x := f) (y := C 0 0) dL_fools_28 (by decide) (by omega) (by omega) (fun c22 => ?_) (fun c22 => ?_)
  · have e23 : f = C 0 0 := by omega
    subst e23
    refine v_forget 7 ?_
    refine v_ls (ls2 := [some (.ref u), some (.int (nI (C 0 0))), some (.int (nI (sm (C 2) (C 0 0)))), some (.int (nI (sm (C 3) (C 0 0)))), some (.int (nI (sm (C 5) (C 0 0)))), some (.int (nI (sm (C 6) (C 0 0)))), some (.int (nI 0)), none, some (.int (nI ((C 0 0)))), none, none, none, none, none, none]) rfl ?_
    refine v_iconst (v := nI 0) dL_fools_490 (by decide) ?_
    refine v_istore dL_fools_491 rfl (by decide) ?_
    refine v_ls (ls2 := [some (.ref u), some (.int (nI (C 0 0))), some (.int (nI (sm (C 2) (C 0 0)))), some (.int (nI (sm (C 3) (C 0 0)))), some (.int (nI (sm (C 5) (C 0 0)))), some (.int (nI (sm (C 6) (C 0 0)))), some (.int (nI 0)), none, some (.int (nI 0)), none, none, none, none, none, none]) rfl ?_
    refine loopV (fun t => [some (.ref u), some (.int (nI (C 0 0))), some (.int (nI (sm (C 2) (C 0 0)))), some (.int (nI (sm (C 3) (C 0 0)))), some (.int (nI (sm (C 5) (C 0 0)))), some (.int (nI (sm (C 6) (C 0 0)))), some (.int (nI (sm (fun tt => sm (fun j => C 10 (j * 4 + tt)) (C 0 1)) t))), none, some (.int (nI t)), none, none, none, none, none, none]) (fun _ => True) (N := 4) 0 (Nat.zero_le _) rfl trivial (fun t ht _ ihT => ?_)
    refine v_iload dL_fools_493 rfl ?_
    refine v_iconst (v := nI 4) dL_fools_495 (by decide) ?_
    refine n_icmp_ge (tgt := 517) (x := t) (y := 4) dL_fools_496 (by decide) (by omega) (by omega) (fun c24 => ?_) (fun c24 => ?_)
    · have e25 : t = 4 := by omega
      subst e25
      obtain ⟨-, -, te, he9, -, -, c10, -, -, z2, z3, z5, z6, -⟩ := g.1.1
      have e2 : sm (C 2) 6 = sm (C 2) (C 0 0) := sm_tail z2 hn6
      have e3 : sm (C 3) 6 = sm (C 3) (C 0 0) := sm_tail z3 hn6
      have e5 : sm (C 5) 6 = sm (C 5) (C 0 0) := sm_tail z5 hn6
      have e6 : sm (C 6) 6 = sm (C 6) (C 0 0) := sm_tail z6 hn6
      have e1 : sm (C 18) 4 = sm (fun tt => sm (fun j => C 10 (j * 4 + tt)) (C 0 1)) 4 := sm_cong he9
      have j1 := g.1.2.1
      have j3 := g.1.2.2.2.1
      have j7 := C_b (x := 0) (y := 7) g
      refine v_forget 8 ?_
      refine v_ls (ls2 := [some (.ref u), some (.int (nI (C 0 0))), some (.int (nI (sm (C 2) (C 0 0)))), some (.int (nI (sm (C 3) (C 0 0)))), some (.int (nI (sm (C 5) (C 0 0)))), some (.int (nI (sm (C 6) (C 0 0)))), some (.int (nI (sm (fun tt => sm (fun j => C 10 (j * 4 + tt)) (C 0 1)) 4))), none, none, none, none, none, none, none, none]) rfl ?_
      refine v_iload dL_fools_517 rfl ?_
      refine n_if_ne (tgt := 526) (x := sm (C 5) (C 0 0)) dL_fools_519 (by decide) (by omega) (fun c26 => ?_) (fun c26 => ?_)
      · refine v_iload dL_fools_526 rfl ?_
        refine v_i2f dL_fools_528 ?_
        refine v_iload dL_fools_529 rfl ?_
        refine v_i2f dL_fools_531 ?_
        refine v_fdiv dL_fools_532 (fun w27 alw27 => ?_)
        refine v_fstore dL_fools_533 rfl (by decide) ?_
        refine v_ls (ls2 := [some (.ref u), some (.int (nI (C 0 0))), some (.int (nI (sm (C 2) (C 0 0)))), some (.int (nI (sm (C 3) (C 0 0)))), some (.int (nI (sm (C 5) (C 0 0)))), some (.int (nI (sm (C 6) (C 0 0)))), some (.int (nI (sm (fun tt => sm (fun j => C 10 (j * 4 + tt)) (C 0 1)) 4))), none, some (.float w27), none, none, none, none, none, none]) rfl ?_
        refine v_aload_n dL_fools_535 rfl ?_
        refine v_iconst (v := nI 4) dL_fools_536 (by decide) ?_
        refine v_ask (st := []) (v2 := nI (sm (C 2) 6)) dL_fools_537 (o_account g ho1) (qAcc_at (w := 4) (by decide)) wL_34 ho1.he rfl rfl ⟨Nat.le_of_ble_eq_true rfl, Nat.le_of_ble_eq_true rfl⟩ (Nat.le_of_ble_eq_true rfl) ⟨by omega, by omega⟩ ?_
        have b28 : sm (C 2) 6 < 2 ^ 28 := acN_b (T := T) (w := 4) g hT
        refine v_iload_n dL_fools_540 rfl ?_
        refine n_icmp_ne (tgt := 599) (x := sm (C 2) 6) (y := sm (C 2) (C 0 0)) dL_fools_541 (by decide) (by omega) (by omega) (fun c => (by exfalso; omega)) (fun _ => ?_)
        refine v_aload_n dL_fools_544 rfl ?_
        refine v_iconst (v := nI 5) dL_fools_545 (by decide) ?_
        refine v_ask (st := []) (v2 := nI (C 0 4)) dL_fools_546 (o_account g ho1) (qAcc_at (w := 5) (by decide)) wL_34 ho1.he rfl rfl ⟨Nat.le_of_ble_eq_true rfl, Nat.le_of_ble_eq_true rfl⟩ (Nat.le_of_ble_eq_true rfl) ⟨by omega, by omega⟩ ?_
        have b29 : C 0 4 < 2 ^ 28 := C_b g
        refine v_bipush (v := nI 10) dL_fools_549 (by decide) ?_
        refine v_iload_n dL_fools_551 rfl ?_
        refine n_imul (x := 10) (y := C 0 0) dL_fools_552 ?_
        refine n_icmp_ne (tgt := 599) (x := C 0 4) (y := 10 * C 0 0) dL_fools_553 (by decide) (by omega) (by omega) (fun c => (by exfalso; omega)) (fun _ => ?_)
        refine v_aload_n dL_fools_556 rfl ?_
        refine v_bipush (v := nI 9) dL_fools_557 (by decide) ?_
        refine v_ask (st := []) (v2 := nI (sm (C 3) 6)) dL_fools_559 (o_account g ho1) (qAcc_at (w := 9) (by decide)) wL_34 ho1.he rfl rfl ⟨Nat.le_of_ble_eq_true rfl, Nat.le_of_ble_eq_true rfl⟩ (Nat.le_of_ble_eq_true rfl) ⟨by omega, by omega⟩ ?_
        have b30 : sm (C 3) 6 < 2 ^ 28 := acN_b (T := T) (w := 9) g hT
        refine v_iload_n dL_fools_562 rfl ?_
        refine n_icmp_ne (tgt := 599) (x := sm (C 3) 6) (y := sm (C 3) (C 0 0)) dL_fools_563 (by decide) (by omega) (by omega) (fun c => (by exfalso; omega)) (fun _ => ?_)
        refine v_aload_n dL_fools_566 rfl ?_
        refine v_bipush (v := nI 11) dL_fools_567 (by decide) ?_
        refine v_ask (st := []) (v2 := nI (sm (C 6) 6)) dL_fools_569 (o_account g ho1) (qAcc_at (w := 11) (by decide)) wL_34 ho1.he rfl rfl ⟨Nat.le_of_ble_eq_true rfl, Nat.le_of_ble_eq_true rfl⟩ (Nat.le_of_ble_eq_true rfl) ⟨by omega, by omega⟩ ?_
        have b31 : sm (C 6) 6 < 2 ^ 28 := acN_b (T := T) (w := 11) g hT
        refine v_iload dL_fools_572 rfl ?_
        refine n_icmp_ne (tgt := 599) (x := sm (C 6) 6) (y := sm (C 6) (C 0 0)) dL_fools_574 (by decide) (by omega) (by omega) (fun c => (by exfalso; omega)) (fun _ => ?_)
        refine v_iload dL_fools_577 rfl ?_
        refine v_iload dL_fools_579 rfl ?_
        refine n_icmp_ne (tgt := 599) (x := sm (C 5) (C 0 0)) (y := sm (fun tt => sm (fun j => C 10 (j * 4 + tt)) (C 0 1)) 4) dL_fools_581 (by decide) (by omega) (by omega) (fun c => (by exfalso; omega)) (fun _ => ?_)
        refine v_iload dL_fools_584 rfl ?_
        refine v_aload_n dL_fools_586 rfl ?_
        refine v_bipush (v := nI 10) dL_fools_587 (by decide) ?_
        refine v_ask (st := [.int (nI (sm (C 5) (C 0 0)))]) (v2 := nI (C 0 7)) dL_fools_589 (o_account g ho1) (qAcc_at (w := 10) (by decide)) wL_34 ho1.he rfl rfl ⟨Nat.le_of_ble_eq_true rfl, Nat.le_of_ble_eq_true rfl⟩ (Nat.le_of_ble_eq_true rfl) ⟨by omega, by omega⟩ ?_
        have b32 : C 0 7 < 2 ^ 28 := C_b g
        refine n_icmp_gt (tgt := 599) (x := sm (C 5) (C 0 0)) (y := C 0 7) dL_fools_592 (by decide) (by omega) (by omega) (fun c => (by exfalso; omega)) (fun _ => ?_)
        refine v_iconst (v := nI 1) dL_fools_595 (by decide) ?_
        refine v_goto (tgt := 600) dL_fools_596 (by decide) ?_
        refine v_istore dL_fools_600 rfl (by decide) ?_
        refine v_ls (ls2 := [some (.ref u), some (.int (nI (C 0 0))), some (.int (nI (sm (C 2) (C 0 0)))), some (.int (nI (sm (C 3) (C 0 0)))), some (.int (nI (sm (C 5) (C 0 0)))), some (.int (nI (sm (C 6) (C 0 0)))), some (.int (nI (sm (fun tt => sm (fun j => C 10 (j * 4 + tt)) (C 0 1)) 4))), none, some (.float w27), some (.int (nI 1)), none, none, none, none, none]) rfl ?_
        refine v_iload dL_fools_602 rfl ?_
        refine n_if_eq (tgt := 680) (x := 1) dL_fools_604 (by decide) (by omega) (fun c => (by exfalso; omega)) (fun _ => ?_)
        refine v_bipush (v := nI 10) dL_fools_607 (by decide) ?_
        refine v_iload_n dL_fools_609 rfl ?_
        refine n_imul (x := 10) (y := C 0 0) dL_fools_610 ?_
        refine v_aload_n dL_fools_611 rfl ?_
        refine v_bipush (v := nI 6) dL_fools_612 (by decide) ?_
        refine v_ask (st := [.int (nI (10 * C 0 0))]) (v2 := nI (sm (C 16) 4)) dL_fools_614 (o_account g ho1) (qAcc_at (w := 6) (by decide)) wL_34 ho1.he rfl rfl ⟨Nat.le_of_ble_eq_true rfl, Nat.le_of_ble_eq_true rfl⟩ (Nat.le_of_ble_eq_true rfl) ⟨by omega, by omega⟩ ?_
        have b33 : sm (C 16) 4 < 2 ^ 28 := acN_b (T := T) (w := 6) g hT
        refine n_iadd (x := 10 * C 0 0) (y := sm (C 16) 4) dL_fools_617 ?_
        refine v_iload_n dL_fools_618 rfl ?_
        refine v_aload_n dL_fools_619 rfl ?_
        refine v_bipush (v := nI 7) dL_fools_620 (by decide) ?_
        refine v_ask (st := [.int (nI (sm (C 2) (C 0 0))), .int (nI ((10 * C 0 0) + sm (C 16) 4))]) (v2 := nI (C 0 5)) dL_fools_622 (o_account g ho1) (qAcc_at (w := 7) (by decide)) wL_34 ho1.he rfl rfl ⟨Nat.le_of_ble_eq_true rfl, Nat.le_of_ble_eq_true rfl⟩ (Nat.le_of_ble_eq_true rfl) ⟨by omega, by omega⟩ ?_
        have b34 : C 0 5 < 2 ^ 28 := C_b g
        refine n_iadd (x := sm (C 2) (C 0 0)) (y := C 0 5) dL_fools_625 ?_
        refine v_aload_n dL_fools_626 rfl ?_
        refine v_bipush (v := nI 8) dL_fools_627 (by decide) ?_
        refine v_ask (st := [.int (nI (sm (C 2) (C 0 0) + C 0 5)), .int (nI ((10 * C 0 0) + sm (C 16) 4))]) (v2 := nI (C 0 6)) dL_fools_629 (o_account g ho1) (qAcc_at (w := 8) (by decide)) wL_34 ho1.he rfl rfl ⟨Nat.le_of_ble_eq_true rfl, Nat.le_of_ble_eq_true rfl⟩ (Nat.le_of_ble_eq_true rfl) ⟨by omega, by omega⟩ ?_
        have b35 : C 0 6 < 2 ^ 28 := C_b g
        refine n_iadd (x := sm (C 2) (C 0 0) + C 0 5) (y := C 0 6) dL_fools_632 ?_
        refine n_icmp_ne (tgt := 680) (x := (10 * C 0 0) + sm (C 16) 4) (y := (sm (C 2) (C 0 0) + C 0 5) + C 0 6) dL_fools_633 (by decide) (by omega) (by omega) (fun c => (by exfalso; omega)) (fun _ => ?_)
        refine v_aload_n dL_fools_636 rfl ?_
        refine v_callV (st := []) dL_fools_637 (o_slipShare g ho1) wL_139 ho1.he rfl rfl ⟨Nat.le_of_ble_eq_true rfl, Nat.le_of_ble_eq_true rfl⟩ (Nat.le_of_ble_eq_true rfl) ⟨by omega, by omega⟩ (fun r n2 h2 hq => ?_)
        obtain ⟨⟨z36, rfl, hz36⟩, hn9, rfl⟩ := hq; replace hn9 := hn9.symm; subst hn9
        refine v_st (st2 := [.float z36]) rfl ?_
        refine v_fload dL_fools_640 rfl ?_
        refine v_fcmp dL_fools_642 ?_
        refine v_st (st2 := [.int (nI 0)]) (by rw [share_ok g hb9 (by omega) hz36 alw27]; rfl) ?_
        refine n_if_ne (tgt := 680) (x := 0) dL_fools_643 (by decide) (by decide) (fun c => absurd c (by decide)) (fun _ => ?_)
        refine v_aload_n dL_fools_646 rfl ?_
        refine v_ask (st := []) (v2 := nI 1) dL_fools_647 (o_isBalanced g ho1) (rfl) wL_143 ho1.he rfl rfl ⟨Nat.le_of_ble_eq_true rfl, Nat.le_of_ble_eq_true rfl⟩ (Nat.le_of_ble_eq_true rfl) ⟨by omega, by omega⟩ ?_
        refine v_iconst (v := nI 1) dL_fools_650 (by decide) ?_
        refine n_icmp_ne (tgt := 680) (x := 1) (y := 1) dL_fools_651 (by decide) (by decide) (by decide) (fun c => absurd c (by decide)) (fun _ => ?_)
        refine v_aload_n dL_fools_654 rfl ?_
        refine v_iload_n dL_fools_655 rfl ?_
        refine v_ask (st := []) (v2 := -1011) dL_fools_656 (o_ranked g ho1) (fl_no (by omega)) wL_132 ho1.he rfl rfl ⟨Nat.le_of_ble_eq_true rfl, Nat.le_of_ble_eq_true rfl⟩ (Nat.le_of_ble_eq_true rfl) ⟨by omega, by omega⟩ ?_
        refine v_sipush (v := (-1011)) dL_fools_659 (by decide) ?_
        refine v_icmp_ne (tgt := 680) dL_fools_662 (by decide) (fun c37 => ?_) (fun c37 => ?_)
        · exfalso
          first | exact c37 rfl | exact c26 rfl | omega | exact absurd (by assumption) c37
        · refine v_aload_n dL_fools_665 rfl ?_
          refine v_iload_n dL_fools_666 rfl ?_
          refine v_callV (st := []) dL_fools_667 (o_tellNo g ho1) wL_87 ho1.he rfl rfl ⟨Nat.le_of_ble_eq_true rfl, Nat.le_of_ble_eq_true rfl⟩ (Nat.le_of_ble_eq_true rfl) ⟨by omega, by omega⟩ (fun r n38 h38 hq => ?_)
          obtain ⟨rfl, a38, hn38, hg38, hl38, ho38, fr38⟩ := otn_of g ho1 hq
          refine v_st (st2 := [.int ((-1011))]) rfl ?_
          have fr39 : frP (fun z => z < n ∧ z ≠ u + 248 ∧ z ≠ a) _ _ := fun z (hz : z < n ∧ z ≠ u + 248 ∧ z ≠ a) => (fr38 z (by omega)).trans (fr1 z hz)
          refine v_widen (k1 := (C 0 0) * 80 + 16) (k2 := (C 0 0) * 4000 + 2272) (by omega) (by omega) ?_
          refine v_sipush (v := (-1011)) dL_fools_670 (by decide) ?_
          refine v_icmp_ne (tgt := 680) dL_fools_673 (by decide) (fun c40 => ?_) (fun c40 => ?_)
          · exfalso
            first | exact c40 rfl | exact c37 rfl | omega | exact absurd (by assumption) c40
          · refine v_iconst (v := nI 1) dL_fools_676 (by decide) ?_
            refine v_goto (tgt := 681) dL_fools_677 (by decide) ?_
            refine v_zret (ty := .boolean) dL_fools_681 rfl (by decide) ?_ (by omega) (by omega)
            exact ⟨rfl, a38, LM, by omega, by omega, by omega, ho38, fr39⟩
      · refine v_fconst0 dL_fools_522 ?_
        refine v_goto (tgt := 533) dL_fools_523 (by decide) ?_
        refine v_fstore dL_fools_533 rfl (by decide) ?_
        refine v_ls (ls2 := [some (.ref u), some (.int (nI (C 0 0))), some (.int (nI (sm (C 2) (C 0 0)))), some (.int (nI (sm (C 3) (C 0 0)))), some (.int (nI (sm (C 5) (C 0 0)))), some (.int (nI (sm (C 6) (C 0 0)))), some (.int (nI (sm (fun tt => sm (fun j => C 10 (j * 4 + tt)) (C 0 1)) 4))), none, some (.float FP.fconst0), none, none, none, none, none, none]) rfl ?_
        refine v_aload_n dL_fools_535 rfl ?_
        refine v_iconst (v := nI 4) dL_fools_536 (by decide) ?_
        refine v_ask (st := []) (v2 := nI (sm (C 2) 6)) dL_fools_537 (o_account g ho1) (qAcc_at (w := 4) (by decide)) wL_34 ho1.he rfl rfl ⟨Nat.le_of_ble_eq_true rfl, Nat.le_of_ble_eq_true rfl⟩ (Nat.le_of_ble_eq_true rfl) ⟨by omega, by omega⟩ ?_
        have b41 : sm (C 2) 6 < 2 ^ 28 := acN_b (T := T) (w := 4) g hT
        refine v_iload_n dL_fools_540 rfl ?_
        refine n_icmp_ne (tgt := 599) (x := sm (C 2) 6) (y := sm (C 2) (C 0 0)) dL_fools_541 (by decide) (by omega) (by omega) (fun c => (by exfalso; omega)) (fun _ => ?_)
        refine v_aload_n dL_fools_544 rfl ?_
        refine v_iconst (v := nI 5) dL_fools_545 (by decide) ?_
        refine v_ask (st := []) (v2 := nI (C 0 4)) dL_fools_546 (o_account g ho1) (qAcc_at (w := 5) (by decide)) wL_34 ho1.he rfl rfl ⟨Nat.le_of_ble_eq_true rfl, Nat.le_of_ble_eq_true rfl⟩ (Nat.le_of_ble_eq_true rfl) ⟨by omega, by omega⟩ ?_
        have b42 : C 0 4 < 2 ^ 28 := C_b g
        refine v_bipush (v := nI 10) dL_fools_549 (by decide) ?_
        refine v_iload_n dL_fools_551 rfl ?_
        refine n_imul (x := 10) (y := C 0 0) dL_fools_552 ?_
        refine n_icmp_ne (tgt := 599) (x := C 0 4) (y := 10 * C 0 0) dL_fools_553 (by decide) (by omega) (by omega) (fun c => (by exfalso; omega)) (fun _ => ?_)
        refine v_aload_n dL_fools_556 rfl ?_
        refine v_bipush (v := nI 9) dL_fools_557 (by decide) ?_
        refine v_ask (st := []) (v2 := nI (sm (C 3) 6)) dL_fools_559 (o_account g ho1) (qAcc_at (w := 9) (by decide)) wL_34 ho1.he rfl rfl ⟨Nat.le_of_ble_eq_true rfl, Nat.le_of_ble_eq_true rfl⟩ (Nat.le_of_ble_eq_true rfl) ⟨by omega, by omega⟩ ?_
        have b43 : sm (C 3) 6 < 2 ^ 28 := acN_b (T := T) (w := 9) g hT
        refine v_iload_n dL_fools_562 rfl ?_
        refine n_icmp_ne (tgt := 599) (x := sm (C 3) 6) (y := sm (C 3) (C 0 0)) dL_fools_563 (by decide) (by omega) (by omega) (fun c => (by exfalso; omega)) (fun _ => ?_)
        refine v_aload_n dL_fools_566 rfl ?_
        refine v_bipush (v := nI 11) dL_fools_567 (by decide) ?_
        refine v_ask (st := []) (v2 := nI (sm (C 6) 6)) dL_fools_569 (o_account g ho1) (qAcc_at (w := 11) (by decide)) wL_34 ho1.he rfl rfl ⟨Nat.le_of_ble_eq_true rfl, Nat.le_of_ble_eq_true rfl⟩ (Nat.le_of_ble_eq_true rfl) ⟨by omega, by omega⟩ ?_
        have b44 : sm (C 6) 6 < 2 ^ 28 := acN_b (T := T) (w := 11) g hT
        refine v_iload dL_fools_572 rfl ?_
        refine n_icmp_ne (tgt := 599) (x := sm (C 6) 6) (y := sm (C 6) (C 0 0)) dL_fools_574 (by decide) (by omega) (by omega) (fun c => (by exfalso; omega)) (fun _ => ?_)
        refine v_iload dL_fools_577 rfl ?_
        refine v_iload dL_fools_579 rfl ?_
        refine n_icmp_ne (tgt := 599) (x := sm (C 5) (C 0 0)) (y := sm (fun tt => sm (fun j => C 10 (j * 4 + tt)) (C 0 1)) 4) dL_fools_581 (by decide) (by omega) (by omega) (fun c => (by exfalso; omega)) (fun _ => ?_)
        refine v_iload dL_fools_584 rfl ?_
        refine v_aload_n dL_fools_586 rfl ?_
        refine v_bipush (v := nI 10) dL_fools_587 (by decide) ?_
        refine v_ask (st := [.int (nI (sm (C 5) (C 0 0)))]) (v2 := nI (C 0 7)) dL_fools_589 (o_account g ho1) (qAcc_at (w := 10) (by decide)) wL_34 ho1.he rfl rfl ⟨Nat.le_of_ble_eq_true rfl, Nat.le_of_ble_eq_true rfl⟩ (Nat.le_of_ble_eq_true rfl) ⟨by omega, by omega⟩ ?_
        have b45 : C 0 7 < 2 ^ 28 := C_b g
        refine n_icmp_gt (tgt := 599) (x := sm (C 5) (C 0 0)) (y := C 0 7) dL_fools_592 (by decide) (by omega) (by omega) (fun c => (by exfalso; omega)) (fun _ => ?_)
        refine v_iconst (v := nI 1) dL_fools_595 (by decide) ?_
        refine v_goto (tgt := 600) dL_fools_596 (by decide) ?_
        refine v_istore dL_fools_600 rfl (by decide) ?_
        refine v_ls (ls2 := [some (.ref u), some (.int (nI (C 0 0))), some (.int (nI (sm (C 2) (C 0 0)))), some (.int (nI (sm (C 3) (C 0 0)))), some (.int (nI (sm (C 5) (C 0 0)))), some (.int (nI (sm (C 6) (C 0 0)))), some (.int (nI (sm (fun tt => sm (fun j => C 10 (j * 4 + tt)) (C 0 1)) 4))), none, some (.float FP.fconst0), some (.int (nI 1)), none, none, none, none, none]) rfl ?_
        refine v_iload dL_fools_602 rfl ?_
        refine n_if_eq (tgt := 680) (x := 1) dL_fools_604 (by decide) (by omega) (fun c => (by exfalso; omega)) (fun _ => ?_)
        refine v_bipush (v := nI 10) dL_fools_607 (by decide) ?_
        refine v_iload_n dL_fools_609 rfl ?_
        refine n_imul (x := 10) (y := C 0 0) dL_fools_610 ?_
        refine v_aload_n dL_fools_611 rfl ?_
        refine v_bipush (v := nI 6) dL_fools_612 (by decide) ?_
        refine v_ask (st := [.int (nI (10 * C 0 0))]) (v2 := nI (sm (C 16) 4)) dL_fools_614 (o_account g ho1) (qAcc_at (w := 6) (by decide)) wL_34 ho1.he rfl rfl ⟨Nat.le_of_ble_eq_true rfl, Nat.le_of_ble_eq_true rfl⟩ (Nat.le_of_ble_eq_true rfl) ⟨by omega, by omega⟩ ?_
        have b46 : sm (C 16) 4 < 2 ^ 28 := acN_b (T := T) (w := 6) g hT
        refine n_iadd (x := 10 * C 0 0) (y := sm (C 16) 4) dL_fools_617 ?_
        refine v_iload_n dL_fools_618 rfl ?_
        refine v_aload_n dL_fools_619 rfl ?_
        refine v_bipush (v := nI 7) dL_fools_620 (by decide) ?_
        refine v_ask (st := [.int (nI (sm (C 2) (C 0 0))), .int (nI ((10 * C 0 0) + sm (C 16) 4))]) (v2 := nI (C 0 5)) dL_fools_622 (o_account g ho1) (qAcc_at (w := 7) (by decide)) wL_34 ho1.he rfl rfl ⟨Nat.le_of_ble_eq_true rfl, Nat.le_of_ble_eq_true rfl⟩ (Nat.le_of_ble_eq_true rfl) ⟨by omega, by omega⟩ ?_
        have b47 : C 0 5 < 2 ^ 28 := C_b g
        refine n_iadd (x := sm (C 2) (C 0 0)) (y := C 0 5) dL_fools_625 ?_
        refine v_aload_n dL_fools_626 rfl ?_
        refine v_bipush (v := nI 8) dL_fools_627 (by decide) ?_
        refine v_ask (st := [.int (nI (sm (C 2) (C 0 0) + C 0 5)), .int (nI ((10 * C 0 0) + sm (C 16) 4))]) (v2 := nI (C 0 6)) dL_fools_629 (o_account g ho1) (qAcc_at (w := 8) (by decide)) wL_34 ho1.he rfl rfl ⟨Nat.le_of_ble_eq_true rfl, Nat.le_of_ble_eq_true rfl⟩ (Nat.le_of_ble_eq_true rfl) ⟨by omega, by omega⟩ ?_
        have b48 : C 0 6 < 2 ^ 28 := C_b g
        refine n_iadd (x := sm (C 2) (C 0 0) + C 0 5) (y := C 0 6) dL_fools_632 ?_
        refine n_icmp_ne (tgt := 680) (x := (10 * C 0 0) + sm (C 16) 4) (y := (sm (C 2) (C 0 0) + C 0 5) + C 0 6) dL_fools_633 (by decide) (by omega) (by omega) (fun c => (by exfalso; omega)) (fun _ => ?_)
        refine v_aload_n dL_fools_636 rfl ?_
        refine v_callV (st := []) dL_fools_637 (o_slipShare g ho1) wL_139 ho1.he rfl rfl ⟨Nat.le_of_ble_eq_true rfl, Nat.le_of_ble_eq_true rfl⟩ (Nat.le_of_ble_eq_true rfl) ⟨by omega, by omega⟩ (fun r n2 h2 hq => ?_)
        obtain ⟨⟨z49, rfl, hz49⟩, hn9, rfl⟩ := hq; replace hn9 := hn9.symm; subst hn9
        refine v_st (st2 := [.float z49]) rfl ?_
        refine v_fload dL_fools_640 rfl ?_
        refine v_fcmp dL_fools_642 ?_
        refine v_st (st2 := [.int (nI 0)]) (by rw [show z49 = FP.fconst0 from by have q := hz49; unfold ssz at q; rw [if_pos (by omega)] at q; exact q, f0_ok]; rfl) ?_
        refine n_if_ne (tgt := 680) (x := 0) dL_fools_643 (by decide) (by decide) (fun c => absurd c (by decide)) (fun _ => ?_)
        refine v_aload_n dL_fools_646 rfl ?_
        refine v_ask (st := []) (v2 := nI 1) dL_fools_647 (o_isBalanced g ho1) (rfl) wL_143 ho1.he rfl rfl ⟨Nat.le_of_ble_eq_true rfl, Nat.le_of_ble_eq_true rfl⟩ (Nat.le_of_ble_eq_true rfl) ⟨by omega, by omega⟩ ?_
        refine v_iconst (v := nI 1) dL_fools_650 (by decide) ?_
        refine n_icmp_ne (tgt := 680) (x := 1) (y := 1) dL_fools_651 (by decide) (by decide) (by decide) (fun c => absurd c (by decide)) (fun _ => ?_)
        refine v_aload_n dL_fools_654 rfl ?_
        refine v_iload_n dL_fools_655 rfl ?_
        refine v_ask (st := []) (v2 := -1011) dL_fools_656 (o_ranked g ho1) (fl_no (by omega)) wL_132 ho1.he rfl rfl ⟨Nat.le_of_ble_eq_true rfl, Nat.le_of_ble_eq_true rfl⟩ (Nat.le_of_ble_eq_true rfl) ⟨by omega, by omega⟩ ?_
        refine v_sipush (v := (-1011)) dL_fools_659 (by decide) ?_
        refine v_icmp_ne (tgt := 680) dL_fools_662 (by decide) (fun c50 => ?_) (fun c50 => ?_)
        · exfalso
          first | exact c50 rfl | exact c26 rfl | omega | exact absurd (by assumption) c50
        · refine v_aload_n dL_fools_665 rfl ?_
          refine v_iload_n dL_fools_666 rfl ?_
          refine v_callV (st := []) dL_fools_667 (o_tellNo g ho1) wL_87 ho1.he rfl rfl ⟨Nat.le_of_ble_eq_true rfl, Nat.le_of_ble_eq_true rfl⟩ (Nat.le_of_ble_eq_true rfl) ⟨by omega, by omega⟩ (fun r n51 h51 hq => ?_)
          obtain ⟨rfl, a51, hn51, hg51, hl51, ho51, fr51⟩ := otn_of g ho1 hq
          refine v_st (st2 := [.int ((-1011))]) rfl ?_
          have fr52 : frP (fun z => z < n ∧ z ≠ u + 248 ∧ z ≠ a) _ _ := fun z (hz : z < n ∧ z ≠ u + 248 ∧ z ≠ a) => (fr51 z (by omega)).trans (fr1 z hz)
          refine v_widen (k1 := (C 0 0) * 80 + 16) (k2 := (C 0 0) * 4000 + 2272) (by omega) (by omega) ?_
          refine v_sipush (v := (-1011)) dL_fools_670 (by decide) ?_
          refine v_icmp_ne (tgt := 680) dL_fools_673 (by decide) (fun c53 => ?_) (fun c53 => ?_)
          · exfalso
            first | exact c53 rfl | exact c50 rfl | omega | exact absurd (by assumption) c53
          · refine v_iconst (v := nI 1) dL_fools_676 (by decide) ?_
            refine v_goto (tgt := 681) dL_fools_677 (by decide) ?_
            refine v_zret (ty := .boolean) dL_fools_681 rfl (by decide) ?_ (by omega) (by omega)
            exact ⟨rfl, a51, LM, by omega, by omega, by omega, ho51, fr52⟩
    · refine v_iload dL_fools_499 rfl ?_
      refine v_aload_n dL_fools_501 rfl ?_
      refine v_iload dL_fools_502 rfl ?_
      refine v_iconst (v := nI 1) dL_fools_504 (by decide) ?_
      refine v_ask (st := [.int (nI (sm (fun tt => sm (fun j => C 10 (j * 4 + tt)) (C 0 1)) t))]) (v2 := nI (sm (fun j => C 10 (j * 4 + t)) (C 0 1))) dL_fools_505 (o_throneOf g ho1) (qThr_at (t := t) (w := 1) (by omega) (by decide)) wL_106 ho1.he rfl rfl ⟨Nat.le_of_ble_eq_true rfl, Nat.le_of_ble_eq_true rfl⟩ (Nat.le_of_ble_eq_true rfl) ⟨by omega, by omega⟩ ?_
      have b54 : sm (fun j => C 10 (j * 4 + t)) (C 0 1) < 2 ^ 28 := sm_b (fun i => g.2.1 10 _) g.2.2.2 (by omega)
      refine n_iadd (x := sm (fun tt => sm (fun j => C 10 (j * 4 + tt)) (C 0 1)) t) (y := sm (fun j => C 10 (j * 4 + t)) (C 0 1)) dL_fools_508 ?_
      refine v_istore dL_fools_509 rfl (by decide) ?_
      refine v_ls (ls2 := [some (.ref u), some (.int (nI (C 0 0))), some (.int (nI (sm (C 2) (C 0 0)))), some (.int (nI (sm (C 3) (C 0 0)))), some (.int (nI (sm (C 5) (C 0 0)))), some (.int (nI (sm (C 6) (C 0 0)))), some (.int (nI ((sm (fun tt => sm (fun j => C 10 (j * 4 + tt)) (C 0 1)) t) + (sm (fun j => C 10 (j * 4 + t)) (C 0 1))))), none, some (.int (nI t)), none, none, none, none, none, none]) rfl ?_
      refine n_iinc (k := 1) (x := t) dL_fools_511 (by decide) rfl rfl (by decide) ?_
      refine v_ls (ls2 := [some (.ref u), some (.int (nI (C 0 0))), some (.int (nI (sm (C 2) (C 0 0)))), some (.int (nI (sm (C 3) (C 0 0)))), some (.int (nI (sm (C 5) (C 0 0)))), some (.int (nI (sm (C 6) (C 0 0)))), some (.int (nI ((sm (fun tt => sm (fun j => C 10 (j * 4 + tt)) (C 0 1)) t) + (sm (fun j => C 10 (j * 4 + t)) (C 0 1))))), none, some (.int (nI (t + 1))), none, none, none, none, none, none]) rfl ?_
      refine v_goto (tgt := 493) dL_fools_514 (by decide) ?_
      refine v_ls (ls2 := [some (.ref u), some (.int (nI (C 0 0))), some (.int (nI (sm (C 2) (C 0 0)))), some (.int (nI (sm (C 3) (C 0 0)))), some (.int (nI (sm (C 5) (C 0 0)))), some (.int (nI (sm (C 6) (C 0 0)))), some (.int (nI (sm (fun tt => sm (fun j => C 10 (j * 4 + tt)) (C 0 1)) (t + 1)))), none, some (.int (nI (t + 1))), none, none, none, none, none, none]) rfl ?_
      exact ihT (by omega) trivial
  · refine v_iconst (v := nI 0) dL_fools_31 (by decide) ?_
    refine v_istore dL_fools_32 rfl (by decide) ?_
    refine v_ls (ls2 := [some (.ref u), some (.int (nI (C 0 0))), some (.int (nI (sm (C 2) f))), some (.int (nI (sm (C 3) f))), some (.int (nI (sm (C 5) f))), some (.int (nI (sm (C 6) f))), some (.int (nI 0)), some (.int ((lastF C f))), some (.int (nI f)), some (.int (nI 0)), none, none, none, none, none]) rfl ?_
    refine v_iconst (v := nI 0) dL_fools_34 (by decide) ?_
    refine v_istore dL_fools_35 rfl (by decide) ?_
    refine v_ls (ls2 := [some (.ref u), some (.int (nI (C 0 0))), some (.int (nI (sm (C 2) f))), some (.int (nI (sm (C 3) f))), some (.int (nI (sm (C 5) f))), some (.int (nI (sm (C 6) f))), some (.int (nI 0)), some (.int ((lastF C f))), some (.int (nI f)), some (.int (nI 0)), some (.int (nI 0)), none, none, none, none]) rfl ?_
    refine v_iconst (v := nI 0) dL_fools_37 (by decide) ?_
    refine v_istore dL_fools_38 rfl (by decide) ?_
    refine v_ls (ls2 := [some (.ref u), some (.int (nI (C 0 0))), some (.int (nI (sm (C 2) f))), some (.int (nI (sm (C 3) f))), some (.int (nI (sm (C 5) f))), some (.int (nI (sm (C 6) f))), some (.int (nI 0)), some (.int ((lastF C f))), some (.int (nI f)), some (.int (nI 0)), some (.int (nI 0)), some (.int (nI 0)), none, none, none]) rfl ?_
    refine loopV (fun j => [some (.ref u), some (.int (nI (C 0 0))), some (.int (nI (sm (C 2) f))), some (.int (nI (sm (C 3) f))), some (.int (nI (sm (C 5) f))), some (.int (nI (sm (C 6) f))), some (.int (nI 0)), some (.int ((lastF C f))), some (.int (nI f)), some (.int (nI (cnt (fun z => decide (hold C z ∧ C 8 z = f)) j))), some (.int (nI 0)), some (.int (nI j)), none, none, none]) (fun _ => True) (N := C 0 1) 0 (Nat.zero_le _) rfl trivial (fun j hj _ ihP => ?_)
    have bkP := cnt_le (fun z => decide (hold C z ∧ C 8 z = f)) j
    refine v_iload dL_fools_40 rfl ?_
    refine v_aload_n dL_fools_42 rfl ?_
    refine v_iconst (v := nI 1) dL_fools_43 (by decide) ?_
    refine v_ask (st := [.int (nI j)]) (v2 := nI (C 0 1)) dL_fools_44 (o_account g ho1) (qAcc_at (w := 1) (by decide)) wL_34 ho1.he rfl rfl ⟨Nat.le_of_ble_eq_true rfl, Nat.le_of_ble_eq_true rfl⟩ (Nat.le_of_ble_eq_true rfl) ⟨by omega, by omega⟩ ?_
    have b55 : C 0 1 < 2 ^ 28 := C_b g
    refine n_icmp_ge (tgt := 78) (x := j) (y := C 0 1) dL_fools_47 (by decide) (by omega) (by omega) (fun c56 => ?_) (fun c56 => ?_)
    · have ej : j = C 0 1 := by omega
      subst ej
      refine v_forget 11 ?_
      refine v_ls (ls2 := [some (.ref u), some (.int (nI (C 0 0))), some (.int (nI (sm (C 2) f))), some (.int (nI (sm (C 3) f))), some (.int (nI (sm (C 5) f))), some (.int (nI (sm (C 6) f))), some (.int (nI 0)), some (.int ((lastF C f))), some (.int (nI f)), some (.int (nI (cnt (fun z => decide (hold C z ∧ C 8 z = f)) (C 0 1)))), some (.int (nI 0)), none, none, none, none]) rfl ?_
      refine v_iconst (v := nI 0) dL_fools_78 (by decide) ?_
      refine v_istore dL_fools_79 rfl (by decide) ?_
      refine v_ls (ls2 := [some (.ref u), some (.int (nI (C 0 0))), some (.int (nI (sm (C 2) f))), some (.int (nI (sm (C 3) f))), some (.int (nI (sm (C 5) f))), some (.int (nI (sm (C 6) f))), some (.int (nI 0)), some (.int ((lastF C f))), some (.int (nI f)), some (.int (nI (cnt (fun z => decide (hold C z ∧ C 8 z = f)) (C 0 1)))), some (.int (nI 0)), some (.int (nI 0)), none, none, none]) rfl ?_
      refine loopV (fun k => [some (.ref u), some (.int (nI (C 0 0))), some (.int (nI (sm (C 2) f))), some (.int (nI (sm (C 3) f))), some (.int (nI (sm (C 5) f))), some (.int (nI (sm (C 6) f))), some (.int (nI 0)), some (.int ((lastF C f))), some (.int (nI f)), some (.int (nI (cnt (fun z => decide (hold C z ∧ C 8 z = f)) (C 0 1)))), some (.int (nI (cnt (fun z => decide (C 11 z = f)) k))), some (.int (nI k)), none, none, none]) (fun _ => True) (N := C 0 2) 0 (Nat.zero_le _) rfl trivial (fun k hk _ ihW => ?_)
      have bkW := cnt_le (fun z => decide (C 11 z = f)) k
      refine v_iload dL_fools_81 rfl ?_
      refine v_aload_n dL_fools_83 rfl ?_
      refine v_iconst (v := nI 2) dL_fools_84 (by decide) ?_
      refine v_ask (st := [.int (nI k)]) (v2 := nI (C 0 2)) dL_fools_85 (o_account g ho1) (qAcc_at (w := 2) (by decide)) wL_34 ho1.he rfl rfl ⟨Nat.le_of_ble_eq_true rfl, Nat.le_of_ble_eq_true rfl⟩ (Nat.le_of_ble_eq_true rfl) ⟨by omega, by omega⟩ ?_
      have b57 : C 0 2 < 2 ^ 28 := C_b g
      refine n_icmp_ge (tgt := 119) (x := k) (y := C 0 2) dL_fools_88 (by decide) (by omega) (by omega) (fun c58 => ?_) (fun c58 => ?_)
      · have ek : k = C 0 2 := by omega
        subst ek
        refine v_forget 11 ?_
        refine v_ls (ls2 := [some (.ref u), some (.int (nI (C 0 0))), some (.int (nI (sm (C 2) f))), some (.int (nI (sm (C 3) f))), some (.int (nI (sm (C 5) f))), some (.int (nI (sm (C 6) f))), some (.int (nI 0)), some (.int ((lastF C f))), some (.int (nI f)), some (.int (nI (cnt (fun z => decide (hold C z ∧ C 8 z = f)) (C 0 1)))), some (.int (nI (cnt (fun z => decide (C 11 z = f)) (C 0 2)))), none, none, none, none]) rfl ?_
        refine v_cutX (fun n2 h2 c2 s2 => ∃ aS x2 : Nat, sbL G h2 n1 aS x2 (tU C f) ∧ oP G u n2 h2 aL LM C T Sn sv rs dt ∧ (n1 + 2 ≤ n2 ∧ n1 < aS ∧ aS < n2) ∧ frP (fun z => z < n ∧ z ≠ u + 248 ∧ z ≠ a) h h2 ∧ c2 ≤ f * 80 + 12 + x2 / 16 ∧ s2 ≤ f * 4000 + 300 + 2 * x2 ∧ (tU C f).2 ≤ 60) 209 [some (.ref u), some (.int (nI (C 0 0))), some (.int (nI (sm (C 2) f))), some (.int (nI (sm (C 3) f))), some (.int (nI (sm (C 5) f))), some (.int (nI (sm (C 6) f))), some (.int (nI 0)), some (.int ((lastF C f))), some (.int (nI f)), some (.int (nI (cnt (fun z => decide (hold C z ∧ C 8 z = f)) (C 0 1)))), some (.int (nI (cnt (fun z => decide (C 11 z = f)) (C 0 2)))), some (.ref n1), some (.int (nI 0)), none, none] [] (fun n3 h3 c3 s3 hp3 => ?_) (fun K209 => ?_)
        · obtain ⟨aS3, x3, hb3, ho3, ⟨hv1, hv2, hv3⟩, fr3, hv4, hv5, hv6⟩ := hp3
          refine v_widen hv4 hv5 ?_
          clear hv4 hv5
          have hm3 := hb3.2
          obtain ⟨SU, hSU⟩ : ∃ S : Ln, S = tU C f := ⟨_, rfl⟩
          rw [← hSU] at hb3 hm3 hv6
          refine loopX (fun k => [some (.ref u), some (.int (nI (C 0 0))), some (.int (nI (sm (C 2) f))), some (.int (nI (sm (C 3) f))), some (.int (nI (sm (C 5) f))), some (.int (nI (sm (C 6) f))), some (.int (nI 0)), some (.int ((lastF C f))), some (.int (nI f)), some (.int (nI (cnt (fun z => decide (hold C z ∧ C 8 z = f)) (C 0 1)))), some (.int (nI (cnt (fun z => decide (C 11 z = f)) (C 0 2)))), some (.ref n1), some (.int (nI k)), none, none]) (fun k x n2 h2 => ∃ aS : Nat, sbL G h2 n1 aS x (plS k SU) ∧ oP G u n2 h2 aL LM C T Sn sv rs dt ∧ (n1 + 2 ≤ n2 ∧ n1 < aS ∧ aS < n2) ∧ frP (fun z => z < n ∧ z ≠ u + 248 ∧ z ≠ a) h h2) (fun k x => f * 80 + 12 + x / 16) (fun k x => f * 4000 + 300 + 2 * x) (N := C 4 f) 0 x3 (Nat.zero_le _) rfl ⟨_, hb3, ho3, ⟨by omega, by omega, by omega⟩, fr3⟩ (by omega) (by omega) (fun k x2 n2 h2 hk hp9 ihL => ?_)
          obtain ⟨aS, hb5, ho5, ⟨hd1, hd2, hd3⟩, fr5⟩ := hp9
          have hk5 := plS_2 k SU
          obtain ⟨S5, hS5⟩ : ∃ S : Ln, S = plS k SU := ⟨_, rfl⟩
          rw [← hS5] at hb5 hk5
          have hm5 := hb5.2
          refine v_iload dL_fools_209 rfl ?_
          refine v_aload_n dL_fools_211 rfl ?_
          refine v_iload dL_fools_212 rfl ?_
          refine v_iconst (v := nI 3) dL_fools_214 (by decide) ?_
          refine v_ask (st := [.int (nI k)]) (v2 := nI (C 4 f)) dL_fools_215 (o_foolOf g ho5) (qFool_at (f := f) (w := 3) (by omega) (by omega) (by decide)) wL_97 ho5.he rfl rfl ⟨Nat.le_of_ble_eq_true rfl, Nat.le_of_ble_eq_true rfl⟩ (Nat.le_of_ble_eq_true rfl) ⟨by omega, by omega⟩ ?_
          have b59 : C 4 f < 2 ^ 28 := C_b g
          refine n_icmp_ge (tgt := 235) (x := k) (y := C 4 f) dL_fools_218 (by decide) (by omega) (by omega) (fun c60 => ?_) (fun c60 => ?_)
          · have e61 : k = C 4 f := by omega
            subst e61
            have e8 : S5 = tellL C f zL := by rw [hS5, hSU]; rfl
            rw [e8] at hb5 hk5 hm5
            refine v_forget 12 ?_
            refine v_ls (ls2 := [some (.ref u), some (.int (nI (C 0 0))), some (.int (nI (sm (C 2) f))), some (.int (nI (sm (C 3) f))), some (.int (nI (sm (C 5) f))), some (.int (nI (sm (C 6) f))), some (.int (nI 0)), some (.int ((lastF C f))), some (.int (nI f)), some (.int (nI (cnt (fun z => decide (hold C z ∧ C 8 z = f)) (C 0 1)))), some (.int (nI (cnt (fun z => decide (C 11 z = f)) (C 0 2)))), some (.ref n1), none, none, none]) rfl ?_
            refine v_iload_n dL_fools_235 rfl ?_
            refine v_aload_n dL_fools_236 rfl ?_
            refine v_iload dL_fools_237 rfl ?_
            refine v_iconst (v := nI 1) dL_fools_239 (by decide) ?_
            refine v_ask (st := [.int (nI (sm (C 2) f))]) (v2 := nI (C 2 f)) dL_fools_240 (o_foolOf g ho5) (qFool_at (f := f) (w := 1) (by omega) (by omega) (by decide)) wL_97 ho5.he rfl rfl ⟨Nat.le_of_ble_eq_true rfl, Nat.le_of_ble_eq_true rfl⟩ (Nat.le_of_ble_eq_true rfl) ⟨by omega, by omega⟩ ?_
            have b62 : C 2 f < 2 ^ 28 := C_b g
            refine n_iadd (x := sm (C 2) f) (y := C 2 f) dL_fools_243 ?_
            refine v_istore_n dL_fools_244 rfl (by decide) ?_
            refine v_ls (ls2 := [some (.ref u), some (.int (nI (C 0 0))), some (.int (nI (sm (C 2) f + C 2 f))), some (.int (nI (sm (C 3) f))), some (.int (nI (sm (C 5) f))), some (.int (nI (sm (C 6) f))), some (.int (nI 0)), some (.int ((lastF C f))), some (.int (nI f)), some (.int (nI (cnt (fun z => decide (hold C z ∧ C 8 z = f)) (C 0 1)))), some (.int (nI (cnt (fun z => decide (C 11 z = f)) (C 0 2)))), some (.ref n1), none, none, none]) rfl ?_
            refine v_iload_n dL_fools_245 rfl ?_
            refine v_aload_n dL_fools_246 rfl ?_
            refine v_iload dL_fools_247 rfl ?_
            refine v_iconst (v := nI 2) dL_fools_249 (by decide) ?_
            refine v_ask (st := [.int (nI (sm (C 3) f))]) (v2 := nI (C 3 f)) dL_fools_250 (o_foolOf g ho5) (qFool_at (f := f) (w := 2) (by omega) (by omega) (by decide)) wL_97 ho5.he rfl rfl ⟨Nat.le_of_ble_eq_true rfl, Nat.le_of_ble_eq_true rfl⟩ (Nat.le_of_ble_eq_true rfl) ⟨by omega, by omega⟩ ?_
            have b63 : C 3 f < 2 ^ 28 := C_b g
            refine n_iadd (x := sm (C 3) f) (y := C 3 f) dL_fools_253 ?_
            refine v_istore_n dL_fools_254 rfl (by decide) ?_
            refine v_ls (ls2 := [some (.ref u), some (.int (nI (C 0 0))), some (.int (nI (sm (C 2) f + C 2 f))), some (.int (nI (sm (C 3) f + C 3 f))), some (.int (nI (sm (C 5) f))), some (.int (nI (sm (C 6) f))), some (.int (nI 0)), some (.int ((lastF C f))), some (.int (nI f)), some (.int (nI (cnt (fun z => decide (hold C z ∧ C 8 z = f)) (C 0 1)))), some (.int (nI (cnt (fun z => decide (C 11 z = f)) (C 0 2)))), some (.ref n1), none, none, none]) rfl ?_
            refine v_iload dL_fools_255 rfl ?_
            refine v_aload_n dL_fools_257 rfl ?_
            refine v_iload dL_fools_258 rfl ?_
            refine v_bipush (v := nI 6) dL_fools_260 (by decide) ?_
            refine v_ask (st := [.int (nI (sm (C 5) f))]) (v2 := nI (C 5 f)) dL_fools_262 (o_foolOf g ho5) (qFool_at (f := f) (w := 6) (by omega) (by omega) (by decide)) wL_97 ho5.he rfl rfl ⟨Nat.le_of_ble_eq_true rfl, Nat.le_of_ble_eq_true rfl⟩ (Nat.le_of_ble_eq_true rfl) ⟨by omega, by omega⟩ ?_
            have b64 : C 5 f < 2 ^ 28 := C_b g
            refine n_iadd (x := sm (C 5) f) (y := C 5 f) dL_fools_265 ?_
            refine v_istore dL_fools_266 rfl (by decide) ?_
            refine v_ls (ls2 := [some (.ref u), some (.int (nI (C 0 0))), some (.int (nI (sm (C 2) f + C 2 f))), some (.int (nI (sm (C 3) f + C 3 f))), some (.int (nI (sm (C 5) f + C 5 f))), some (.int (nI (sm (C 6) f))), some (.int (nI 0)), some (.int ((lastF C f))), some (.int (nI f)), some (.int (nI (cnt (fun z => decide (hold C z ∧ C 8 z = f)) (C 0 1)))), some (.int (nI (cnt (fun z => decide (C 11 z = f)) (C 0 2)))), some (.ref n1), none, none, none]) rfl ?_
            refine v_iload dL_fools_268 rfl ?_
            refine v_aload_n dL_fools_270 rfl ?_
            refine v_iload dL_fools_271 rfl ?_
            refine v_bipush (v := nI 7) dL_fools_273 (by decide) ?_
            refine v_ask (st := [.int (nI (sm (C 6) f))]) (v2 := nI (C 6 f)) dL_fools_275 (o_foolOf g ho5) (qFool_at (f := f) (w := 7) (by omega) (by omega) (by decide)) wL_97 ho5.he rfl rfl ⟨Nat.le_of_ble_eq_true rfl, Nat.le_of_ble_eq_true rfl⟩ (Nat.le_of_ble_eq_true rfl) ⟨by omega, by omega⟩ ?_
            have b65 : C 6 f < 2 ^ 28 := C_b g
            refine n_iadd (x := sm (C 6) f) (y := C 6 f) dL_fools_278 ?_
            refine v_istore dL_fools_279 rfl (by decide) ?_
            refine v_ls (ls2 := [some (.ref u), some (.int (nI (C 0 0))), some (.int (nI (sm (C 2) f + C 2 f))), some (.int (nI (sm (C 3) f + C 3 f))), some (.int (nI (sm (C 5) f + C 5 f))), some (.int (nI (sm (C 6) f + C 6 f))), some (.int (nI 0)), some (.int ((lastF C f))), some (.int (nI f)), some (.int (nI (cnt (fun z => decide (hold C z ∧ C 8 z = f)) (C 0 1)))), some (.int (nI (cnt (fun z => decide (C 11 z = f)) (C 0 2)))), some (.ref n1), none, none, none]) rfl ?_
            refine v_aload_n dL_fools_281 rfl ?_
            refine v_iload dL_fools_282 rfl ?_
            refine v_ask (st := []) (v2 := nI (flR C f)) dL_fools_284 (o_ranked g ho5) ((fl_at (r := f) (by omega) (by omega)).1) wL_132 ho5.he rfl rfl ⟨Nat.le_of_ble_eq_true rfl, Nat.le_of_ble_eq_true rfl⟩ (Nat.le_of_ble_eq_true rfl) ⟨by omega, by omega⟩ ?_
            obtain ⟨-, rk66, -⟩ := fl_at (C := C) (r := f) (by omega) (by omega)
            refine v_istore dL_fools_287 rfl (by decide) ?_
            refine v_ls (ls2 := [some (.ref u), some (.int (nI (C 0 0))), some (.int (nI (sm (C 2) f + C 2 f))), some (.int (nI (sm (C 3) f + C 3 f))), some (.int (nI (sm (C 5) f + C 5 f))), some (.int (nI (sm (C 6) f + C 6 f))), some (.int (nI 0)), some (.int ((lastF C f))), some (.int (nI f)), some (.int (nI (cnt (fun z => decide (hold C z ∧ C 8 z = f)) (C 0 1)))), some (.int (nI (cnt (fun z => decide (C 11 z = f)) (C 0 2)))), some (.ref n1), some (.int (nI (flR C f))), none, none]) rfl ?_
            refine v_cut 428 [some (.ref u), some (.int (nI (C 0 0))), some (.int (nI (sm (C 2) f + C 2 f))), some (.int (nI (sm (C 3) f + C 3 f))), some (.int (nI (sm (C 5) f + C 5 f))), some (.int (nI (sm (C 6) f + C 6 f))), some (.int (nI 0)), some (.int ((lastF C f))), some (.int (nI f)), some (.int (nI (cnt (fun z => decide (hold C z ∧ C 8 z = f)) (C 0 1)))), some (.int (nI (cnt (fun z => decide (C 11 z = f)) (C 0 2)))), some (.ref n1), some (.int (nI (flR C f))), none, some (.int (nI 1))] [] (fun K428 => ?_) ?_
            · rcases Nat.eq_zero_or_pos f with hj0 | hj0
              · refine v_ls (ls2 := [some (.ref u), some (.int (nI (C 0 0))), some (.int (nI (sm (C 2) f + C 2 f))), some (.int (nI (sm (C 3) f + C 3 f))), some (.int (nI (sm (C 5) f + C 5 f))), some (.int (nI (sm (C 6) f + C 6 f))), some (.int (nI 0)), some (.int ((-1))), some (.int (nI f)), some (.int (nI (cnt (fun z => decide (hold C z ∧ C 8 z = f)) (C 0 1)))), some (.int (nI (cnt (fun z => decide (C 11 z = f)) (C 0 2)))), some (.ref n1), some (.int (nI (flR C f))), none, none]) (by rw [show lastF C f = -1 from if_pos hj0]) ?_
                refine v_iload dL_fools_289 rfl ?_
                refine v_if_ge (tgt := 298) dL_fools_291 (by decide) (fun c => absurd c (by decide)) (fun _ => ?_)
                refine v_iconst (v := nI 1) dL_fools_294 (by decide) ?_
                refine v_goto (tgt := 313) dL_fools_295 (by decide) ?_
                refine v_istore dL_fools_313 rfl (by decide) ?_
                refine v_ls (ls2 := [some (.ref u), some (.int (nI (C 0 0))), some (.int (nI (sm (C 2) f + C 2 f))), some (.int (nI (sm (C 3) f + C 3 f))), some (.int (nI (sm (C 5) f + C 5 f))), some (.int (nI (sm (C 6) f + C 6 f))), some (.int (nI 0)), some (.int ((-1))), some (.int (nI f)), some (.int (nI (cnt (fun z => decide (hold C z ∧ C 8 z = f)) (C 0 1)))), some (.int (nI (cnt (fun z => decide (C 11 z = f)) (C 0 2)))), some (.ref n1), some (.int (nI (flR C f))), some (.int (nI 1)), none]) rfl ?_
                refine v_iload dL_fools_315 rfl ?_
                refine n_if_eq (tgt := 325) (x := 1) dL_fools_317 (by decide) (by decide) (fun c => absurd c (by decide)) (fun _ => ?_)
                refine v_iload dL_fools_320 rfl ?_
                refine v_goto (tgt := 340) dL_fools_322 (by decide) ?_
                refine v_istore dL_fools_340 rfl (by decide) ?_
                refine v_ls (ls2 := [some (.ref u), some (.int (nI (C 0 0))), some (.int (nI (sm (C 2) f + C 2 f))), some (.int (nI (sm (C 3) f + C 3 f))), some (.int (nI (sm (C 5) f + C 5 f))), some (.int (nI (sm (C 6) f + C 6 f))), some (.int (nI 0)), some (.int ((-1))), some (.int (nI f)), some (.int (nI (cnt (fun z => decide (hold C z ∧ C 8 z = f)) (C 0 1)))), some (.int (nI (cnt (fun z => decide (C 11 z = f)) (C 0 2)))), some (.ref n1), some (.int (nI (flR C f))), some (.int (nI 1)), none]) rfl ?_
                refine v_aload_n dL_fools_342 rfl ?_
                refine v_iload dL_fools_343 rfl ?_
                refine v_iconst (v := nI 1) dL_fools_345 (by decide) ?_
                refine v_ask (st := []) (v2 := nI (C 2 f)) dL_fools_346 (o_foolOf g ho5) (qFool_at (f := f) (w := 1) (by omega) (by omega) (by decide)) wL_97 ho5.he rfl rfl ⟨Nat.le_of_ble_eq_true rfl, Nat.le_of_ble_eq_true rfl⟩ (Nat.le_of_ble_eq_true rfl) ⟨by omega, by omega⟩ ?_
                refine n_if_lt (tgt := 408) (x := C 2 f) dL_fools_349 (by decide) (by omega) ?_
                refine v_aload_n dL_fools_352 rfl ?_
                refine v_iload dL_fools_353 rfl ?_
                refine v_iconst (v := nI 1) dL_fools_355 (by decide) ?_
                refine v_ask (st := []) (v2 := nI (C 2 f)) dL_fools_356 (o_foolOf g ho5) (qFool_at (f := f) (w := 1) (by omega) (by omega) (by decide)) wL_97 ho5.he rfl rfl ⟨Nat.le_of_ble_eq_true rfl, Nat.le_of_ble_eq_true rfl⟩ (Nat.le_of_ble_eq_true rfl) ⟨by omega, by omega⟩ ?_
                refine v_bipush (v := nI 99) dL_fools_359 (by decide) ?_
                refine n_icmp_gt (tgt := 408) (x := C 2 f) (y := 99) dL_fools_361 (by decide) (by omega) (by omega) (fun c => (by exfalso; omega)) (fun _ => ?_)
                refine v_aload_n dL_fools_364 rfl ?_
                refine v_iload dL_fools_365 rfl ?_
                refine v_iconst (v := nI 2) dL_fools_367 (by decide) ?_
                refine v_ask (st := []) (v2 := nI (C 3 f)) dL_fools_368 (o_foolOf g ho5) (qFool_at (f := f) (w := 2) (by omega) (by omega) (by decide)) wL_97 ho5.he rfl rfl ⟨Nat.le_of_ble_eq_true rfl, Nat.le_of_ble_eq_true rfl⟩ (Nat.le_of_ble_eq_true rfl) ⟨by omega, by omega⟩ ?_
                refine n_if_lt (tgt := 408) (x := C 3 f) dL_fools_371 (by decide) (by omega) ?_
                refine v_aload_n dL_fools_374 rfl ?_
                refine v_iload dL_fools_375 rfl ?_
                refine v_iconst (v := nI 3) dL_fools_377 (by decide) ?_
                refine v_ask (st := []) (v2 := nI (C 4 f)) dL_fools_378 (o_foolOf g ho5) (qFool_at (f := f) (w := 3) (by omega) (by omega) (by decide)) wL_97 ho5.he rfl rfl ⟨Nat.le_of_ble_eq_true rfl, Nat.le_of_ble_eq_true rfl⟩ (Nat.le_of_ble_eq_true rfl) ⟨by omega, by omega⟩ ?_
                refine v_iconst (v := nI 3) dL_fools_381 (by decide) ?_
                refine n_icmp_gt (tgt := 408) (x := C 4 f) (y := 3) dL_fools_382 (by decide) (by omega) (by omega) (fun c => (by exfalso; omega)) (fun _ => ?_)
                refine v_aload_n dL_fools_385 rfl ?_
                refine v_iload dL_fools_386 rfl ?_
                refine v_bipush (v := nI 7) dL_fools_388 (by decide) ?_
                refine v_ask (st := []) (v2 := nI (C 6 f)) dL_fools_390 (o_foolOf g ho5) (qFool_at (f := f) (w := 7) (by omega) (by omega) (by decide)) wL_97 ho5.he rfl rfl ⟨Nat.le_of_ble_eq_true rfl, Nat.le_of_ble_eq_true rfl⟩ (Nat.le_of_ble_eq_true rfl) ⟨by omega, by omega⟩ ?_
                refine v_aload_n dL_fools_393 rfl ?_
                refine v_iload dL_fools_394 rfl ?_
                refine v_bipush (v := nI 6) dL_fools_396 (by decide) ?_
                refine v_ask (st := [.int (nI (C 6 f))]) (v2 := nI (C 5 f)) dL_fools_398 (o_foolOf g ho5) (qFool_at (f := f) (w := 6) (by omega) (by omega) (by decide)) wL_97 ho5.he rfl rfl ⟨Nat.le_of_ble_eq_true rfl, Nat.le_of_ble_eq_true rfl⟩ (Nat.le_of_ble_eq_true rfl) ⟨by omega, by omega⟩ ?_
                refine n_icmp_gt (tgt := 408) (x := C 6 f) (y := C 5 f) dL_fools_401 (by decide) (by omega) (by omega) (fun c => (by exfalso; omega)) (fun _ => ?_)
                refine v_iconst (v := nI 1) dL_fools_404 (by decide) ?_
                refine v_goto (tgt := 409) dL_fools_405 (by decide) ?_
                refine v_istore dL_fools_409 rfl (by decide) ?_
                refine v_ls (ls2 := [some (.ref u), some (.int (nI (C 0 0))), some (.int (nI (sm (C 2) f + C 2 f))), some (.int (nI (sm (C 3) f + C 3 f))), some (.int (nI (sm (C 5) f + C 5 f))), some (.int (nI (sm (C 6) f + C 6 f))), some (.int (nI 0)), some (.int ((-1))), some (.int (nI f)), some (.int (nI (cnt (fun z => decide (hold C z ∧ C 8 z = f)) (C 0 1)))), some (.int (nI (cnt (fun z => decide (C 11 z = f)) (C 0 2)))), some (.ref n1), some (.int (nI (flR C f))), some (.int (nI 1)), some (.int (nI 1))]) rfl ?_
                refine v_iload dL_fools_411 rfl ?_
                refine n_if_lt (tgt := 478) (x := 1) dL_fools_413 (by decide) (by decide) ?_
                refine v_iload dL_fools_416 rfl ?_
                refine n_if_ne (tgt := 428) (x := 1) dL_fools_418 (by decide) (by decide) (fun _ => ?_) (fun c => absurd c (by decide))
                refine v_forget 13 ?_
                refine v_ls (ls2 := [some (.ref u), some (.int (nI (C 0 0))), some (.int (nI (sm (C 2) f + C 2 f))), some (.int (nI (sm (C 3) f + C 3 f))), some (.int (nI (sm (C 5) f + C 5 f))), some (.int (nI (sm (C 6) f + C 6 f))), some (.int (nI 0)), some (.int ((lastF C f))), some (.int (nI f)), some (.int (nI (cnt (fun z => decide (hold C z ∧ C 8 z = f)) (C 0 1)))), some (.int (nI (cnt (fun z => decide (C 11 z = f)) (C 0 2)))), some (.ref n1), some (.int (nI (flR C f))), none, some (.int (nI 1))]) (by rw [show lastF C f = (-1) from if_pos hj0]; rfl) ?_
                exact K428
              · refine v_ls (ls2 := [some (.ref u), some (.int (nI (C 0 0))), some (.int (nI (sm (C 2) f + C 2 f))), some (.int (nI (sm (C 3) f + C 3 f))), some (.int (nI (sm (C 5) f + C 5 f))), some (.int (nI (sm (C 6) f + C 6 f))), some (.int (nI 0)), some (.int (nI (flR C (f - 1)))), some (.int (nI f)), some (.int (nI (cnt (fun z => decide (hold C z ∧ C 8 z = f)) (C 0 1)))), some (.int (nI (cnt (fun z => decide (C 11 z = f)) (C 0 2)))), some (.ref n1), some (.int (nI (flR C f))), none, none]) (by rw [show lastF C f = nI (flR C (f - 1)) from if_neg (by omega)]) ?_
                have hA := flA_cs (fl_lt (C := C) (r := f - 1) (by omega) (by omega))
                rw [show f - 1 + 1 = f by omega] at hA
                obtain ⟨-, rkL, -⟩ := fl_at (C := C) (r := f - 1) (by omega) (by omega)
                have hLb := C_b (x := 3) (y := flR C (f - 1)) g
                have hLc := C_b (x := 2) (y := flR C (f - 1)) g
                refine v_iload dL_fools_289 rfl ?_
                refine n_if_ge (tgt := 298) (x := flR C (f - 1)) dL_fools_291 (by decide) (by omega) ?_
                refine v_aload_n dL_fools_298 rfl ?_
                refine v_iload dL_fools_299 rfl ?_
                refine v_iconst (v := nI 2) dL_fools_301 (by decide) ?_
                refine v_ask (st := []) (v2 := nI (C 3 (flR C (f - 1)))) dL_fools_302 (o_foolOf g ho5) (qFool_at (f := flR C (f - 1)) (w := 2) (by omega) (by omega) (by decide)) wL_97 ho5.he rfl rfl ⟨Nat.le_of_ble_eq_true rfl, Nat.le_of_ble_eq_true rfl⟩ (Nat.le_of_ble_eq_true rfl) ⟨by omega, by omega⟩ ?_
                have b67 : C 3 (flR C (f - 1)) < 2 ^ 28 := C_b g
                refine v_aload_n dL_fools_305 rfl ?_
                refine v_iload dL_fools_306 rfl ?_
                refine v_iconst (v := nI 2) dL_fools_308 (by decide) ?_
                refine v_ask (st := [.int (nI (C 3 (flR C (f - 1))))]) (v2 := nI (C 3 (flR C f))) dL_fools_309 (o_foolOf g ho5) (qFool_at (f := flR C f) (w := 2) (by omega) (by omega) (by decide)) wL_97 ho5.he rfl rfl ⟨Nat.le_of_ble_eq_true rfl, Nat.le_of_ble_eq_true rfl⟩ (Nat.le_of_ble_eq_true rfl) ⟨by omega, by omega⟩ ?_
                have b68 : C 3 (flR C f) < 2 ^ 28 := C_b g
                refine n_isub (x := C 3 (flR C (f - 1))) (y := C 3 (flR C f)) dL_fools_312 (by omega) ?_
                refine v_istore dL_fools_313 rfl (by decide) ?_
                refine v_ls (ls2 := [some (.ref u), some (.int (nI (C 0 0))), some (.int (nI (sm (C 2) f + C 2 f))), some (.int (nI (sm (C 3) f + C 3 f))), some (.int (nI (sm (C 5) f + C 5 f))), some (.int (nI (sm (C 6) f + C 6 f))), some (.int (nI 0)), some (.int (nI (flR C (f - 1)))), some (.int (nI f)), some (.int (nI (cnt (fun z => decide (hold C z ∧ C 8 z = f)) (C 0 1)))), some (.int (nI (cnt (fun z => decide (C 11 z = f)) (C 0 2)))), some (.ref n1), some (.int (nI (flR C f))), some (.int (nI ((C 3 (flR C (f - 1))) - C 3 (flR C f)))), none]) rfl ?_
                refine v_iload dL_fools_315 rfl ?_
                refine n_if_eq (tgt := 325) (x := (C 3 (flR C (f - 1))) - C 3 (flR C f)) dL_fools_317 (by decide) (by omega) (fun c69 => ?_) (fun c69 => ?_)
                · refine v_aload_n dL_fools_325 rfl ?_
                  refine v_iload dL_fools_326 rfl ?_
                  refine v_iconst (v := nI 1) dL_fools_328 (by decide) ?_
                  refine v_ask (st := []) (v2 := nI (C 2 (flR C (f - 1)))) dL_fools_329 (o_foolOf g ho5) (qFool_at (f := flR C (f - 1)) (w := 1) (by omega) (by omega) (by decide)) wL_97 ho5.he rfl rfl ⟨Nat.le_of_ble_eq_true rfl, Nat.le_of_ble_eq_true rfl⟩ (Nat.le_of_ble_eq_true rfl) ⟨by omega, by omega⟩ ?_
                  have b70 : C 2 (flR C (f - 1)) < 2 ^ 28 := C_b g
                  refine v_aload_n dL_fools_332 rfl ?_
                  refine v_iload dL_fools_333 rfl ?_
                  refine v_iconst (v := nI 1) dL_fools_335 (by decide) ?_
                  refine v_ask (st := [.int (nI (C 2 (flR C (f - 1))))]) (v2 := nI (C 2 (flR C f))) dL_fools_336 (o_foolOf g ho5) (qFool_at (f := flR C f) (w := 1) (by omega) (by omega) (by decide)) wL_97 ho5.he rfl rfl ⟨Nat.le_of_ble_eq_true rfl, Nat.le_of_ble_eq_true rfl⟩ (Nat.le_of_ble_eq_true rfl) ⟨by omega, by omega⟩ ?_
                  have b71 : C 2 (flR C f) < 2 ^ 28 := C_b g
                  refine n_isub (x := C 2 (flR C (f - 1))) (y := C 2 (flR C f)) dL_fools_339 (by omega) ?_
                  refine v_istore dL_fools_340 rfl (by decide) ?_
                  refine v_ls (ls2 := [some (.ref u), some (.int (nI (C 0 0))), some (.int (nI (sm (C 2) f + C 2 f))), some (.int (nI (sm (C 3) f + C 3 f))), some (.int (nI (sm (C 5) f + C 5 f))), some (.int (nI (sm (C 6) f + C 6 f))), some (.int (nI 0)), some (.int (nI (flR C (f - 1)))), some (.int (nI f)), some (.int (nI (cnt (fun z => decide (hold C z ∧ C 8 z = f)) (C 0 1)))), some (.int (nI (cnt (fun z => decide (C 11 z = f)) (C 0 2)))), some (.ref n1), some (.int (nI (flR C f))), some (.int (nI ((C 2 (flR C (f - 1))) - C 2 (flR C f)))), none]) rfl ?_
                  refine v_aload_n dL_fools_342 rfl ?_
                  refine v_iload dL_fools_343 rfl ?_
                  refine v_iconst (v := nI 1) dL_fools_345 (by decide) ?_
                  refine v_ask (st := []) (v2 := nI (C 2 f)) dL_fools_346 (o_foolOf g ho5) (qFool_at (f := f) (w := 1) (by omega) (by omega) (by decide)) wL_97 ho5.he rfl rfl ⟨Nat.le_of_ble_eq_true rfl, Nat.le_of_ble_eq_true rfl⟩ (Nat.le_of_ble_eq_true rfl) ⟨by omega, by omega⟩ ?_
                  refine n_if_lt (tgt := 408) (x := C 2 f) dL_fools_349 (by decide) (by omega) ?_
                  refine v_aload_n dL_fools_352 rfl ?_
                  refine v_iload dL_fools_353 rfl ?_
                  refine v_iconst (v := nI 1) dL_fools_355 (by decide) ?_
                  refine v_ask (st := []) (v2 := nI (C 2 f)) dL_fools_356 (o_foolOf g ho5) (qFool_at (f := f) (w := 1) (by omega) (by omega) (by decide)) wL_97 ho5.he rfl rfl ⟨Nat.le_of_ble_eq_true rfl, Nat.le_of_ble_eq_true rfl⟩ (Nat.le_of_ble_eq_true rfl) ⟨by omega, by omega⟩ ?_
                  refine v_bipush (v := nI 99) dL_fools_359 (by decide) ?_
                  refine n_icmp_gt (tgt := 408) (x := C 2 f) (y := 99) dL_fools_361 (by decide) (by omega) (by omega) (fun c => (by exfalso; omega)) (fun _ => ?_)
                  refine v_aload_n dL_fools_364 rfl ?_
                  refine v_iload dL_fools_365 rfl ?_
                  refine v_iconst (v := nI 2) dL_fools_367 (by decide) ?_
                  refine v_ask (st := []) (v2 := nI (C 3 f)) dL_fools_368 (o_foolOf g ho5) (qFool_at (f := f) (w := 2) (by omega) (by omega) (by decide)) wL_97 ho5.he rfl rfl ⟨Nat.le_of_ble_eq_true rfl, Nat.le_of_ble_eq_true rfl⟩ (Nat.le_of_ble_eq_true rfl) ⟨by omega, by omega⟩ ?_
                  refine n_if_lt (tgt := 408) (x := C 3 f) dL_fools_371 (by decide) (by omega) ?_
                  refine v_aload_n dL_fools_374 rfl ?_
                  refine v_iload dL_fools_375 rfl ?_
                  refine v_iconst (v := nI 3) dL_fools_377 (by decide) ?_
                  refine v_ask (st := []) (v2 := nI (C 4 f)) dL_fools_378 (o_foolOf g ho5) (qFool_at (f := f) (w := 3) (by omega) (by omega) (by decide)) wL_97 ho5.he rfl rfl ⟨Nat.le_of_ble_eq_true rfl, Nat.le_of_ble_eq_true rfl⟩ (Nat.le_of_ble_eq_true rfl) ⟨by omega, by omega⟩ ?_
                  refine v_iconst (v := nI 3) dL_fools_381 (by decide) ?_
                  refine n_icmp_gt (tgt := 408) (x := C 4 f) (y := 3) dL_fools_382 (by decide) (by omega) (by omega) (fun c => (by exfalso; omega)) (fun _ => ?_)
                  refine v_aload_n dL_fools_385 rfl ?_
                  refine v_iload dL_fools_386 rfl ?_
                  refine v_bipush (v := nI 7) dL_fools_388 (by decide) ?_
                  refine v_ask (st := []) (v2 := nI (C 6 f)) dL_fools_390 (o_foolOf g ho5) (qFool_at (f := f) (w := 7) (by omega) (by omega) (by decide)) wL_97 ho5.he rfl rfl ⟨Nat.le_of_ble_eq_true rfl, Nat.le_of_ble_eq_true rfl⟩ (Nat.le_of_ble_eq_true rfl) ⟨by omega, by omega⟩ ?_
                  refine v_aload_n dL_fools_393 rfl ?_
                  refine v_iload dL_fools_394 rfl ?_
                  refine v_bipush (v := nI 6) dL_fools_396 (by decide) ?_
                  refine v_ask (st := [.int (nI (C 6 f))]) (v2 := nI (C 5 f)) dL_fools_398 (o_foolOf g ho5) (qFool_at (f := f) (w := 6) (by omega) (by omega) (by decide)) wL_97 ho5.he rfl rfl ⟨Nat.le_of_ble_eq_true rfl, Nat.le_of_ble_eq_true rfl⟩ (Nat.le_of_ble_eq_true rfl) ⟨by omega, by omega⟩ ?_
                  refine n_icmp_gt (tgt := 408) (x := C 6 f) (y := C 5 f) dL_fools_401 (by decide) (by omega) (by omega) (fun c => (by exfalso; omega)) (fun _ => ?_)
                  refine v_iconst (v := nI 1) dL_fools_404 (by decide) ?_
                  refine v_goto (tgt := 409) dL_fools_405 (by decide) ?_
                  refine v_istore dL_fools_409 rfl (by decide) ?_
                  refine v_ls (ls2 := [some (.ref u), some (.int (nI (C 0 0))), some (.int (nI (sm (C 2) f + C 2 f))), some (.int (nI (sm (C 3) f + C 3 f))), some (.int (nI (sm (C 5) f + C 5 f))), some (.int (nI (sm (C 6) f + C 6 f))), some (.int (nI 0)), some (.int (nI (flR C (f - 1)))), some (.int (nI f)), some (.int (nI (cnt (fun z => decide (hold C z ∧ C 8 z = f)) (C 0 1)))), some (.int (nI (cnt (fun z => decide (C 11 z = f)) (C 0 2)))), some (.ref n1), some (.int (nI (flR C f))), some (.int (nI ((C 2 (flR C (f - 1))) - C 2 (flR C f)))), some (.int (nI 1))]) rfl ?_
                  refine v_iload dL_fools_411 rfl ?_
                  refine n_if_lt (tgt := 478) (x := (C 2 (flR C (f - 1))) - C 2 (flR C f)) dL_fools_413 (by decide) (by omega) ?_
                  refine v_iload dL_fools_416 rfl ?_
                  refine n_if_ne (tgt := 428) (x := (C 2 (flR C (f - 1))) - C 2 (flR C f)) dL_fools_418 (by decide) (by omega) (fun c72 => ?_) (fun c72 => ?_)
                  · refine v_forget 13 ?_
                    refine v_ls (ls2 := [some (.ref u), some (.int (nI (C 0 0))), some (.int (nI (sm (C 2) f + C 2 f))), some (.int (nI (sm (C 3) f + C 3 f))), some (.int (nI (sm (C 5) f + C 5 f))), some (.int (nI (sm (C 6) f + C 6 f))), some (.int (nI 0)), some (.int ((lastF C f))), some (.int (nI f)), some (.int (nI (cnt (fun z => decide (hold C z ∧ C 8 z = f)) (C 0 1)))), some (.int (nI (cnt (fun z => decide (C 11 z = f)) (C 0 2)))), some (.ref n1), some (.int (nI (flR C f))), none, some (.int (nI 1))]) (by rw [show lastF C f = nI (flR C (f - 1)) from if_neg (by omega)]; rfl) ?_
                    exact K428
                  · refine v_iload dL_fools_421 rfl ?_
                    refine v_iload dL_fools_423 rfl ?_
                    refine n_icmp_lt (tgt := 478) (x := flR C f) (y := flR C (f - 1)) dL_fools_425 (by decide) (by omega) (by omega) (fun c73 => ?_) (fun c73 => ?_)
                    · exfalso
                      first | exact c73 rfl | exact c72 rfl | omega | exact absurd (by assumption) c73
                    · refine v_forget 13 ?_
                      refine v_ls (ls2 := [some (.ref u), some (.int (nI (C 0 0))), some (.int (nI (sm (C 2) f + C 2 f))), some (.int (nI (sm (C 3) f + C 3 f))), some (.int (nI (sm (C 5) f + C 5 f))), some (.int (nI (sm (C 6) f + C 6 f))), some (.int (nI 0)), some (.int ((lastF C f))), some (.int (nI f)), some (.int (nI (cnt (fun z => decide (hold C z ∧ C 8 z = f)) (C 0 1)))), some (.int (nI (cnt (fun z => decide (C 11 z = f)) (C 0 2)))), some (.ref n1), some (.int (nI (flR C f))), none, some (.int (nI 1))]) (by rw [show lastF C f = nI (flR C (f - 1)) from if_neg (by omega)]; rfl) ?_
                      exact K428
                · refine v_iload dL_fools_320 rfl ?_
                  refine v_goto (tgt := 340) dL_fools_322 (by decide) ?_
                  refine v_istore dL_fools_340 rfl (by decide) ?_
                  refine v_ls (ls2 := [some (.ref u), some (.int (nI (C 0 0))), some (.int (nI (sm (C 2) f + C 2 f))), some (.int (nI (sm (C 3) f + C 3 f))), some (.int (nI (sm (C 5) f + C 5 f))), some (.int (nI (sm (C 6) f + C 6 f))), some (.int (nI 0)), some (.int (nI (flR C (f - 1)))), some (.int (nI f)), some (.int (nI (cnt (fun z => decide (hold C z ∧ C 8 z = f)) (C 0 1)))), some (.int (nI (cnt (fun z => decide (C 11 z = f)) (C 0 2)))), some (.ref n1), some (.int (nI (flR C f))), some (.int (nI ((C 3 (flR C (f - 1))) - C 3 (flR C f)))), none]) rfl ?_
                  refine v_aload_n dL_fools_342 rfl ?_
                  refine v_iload dL_fools_343 rfl ?_
                  refine v_iconst (v := nI 1) dL_fools_345 (by decide) ?_
                  refine v_ask (st := []) (v2 := nI (C 2 f)) dL_fools_346 (o_foolOf g ho5) (qFool_at (f := f) (w := 1) (by omega) (by omega) (by decide)) wL_97 ho5.he rfl rfl ⟨Nat.le_of_ble_eq_true rfl, Nat.le_of_ble_eq_true rfl⟩ (Nat.le_of_ble_eq_true rfl) ⟨by omega, by omega⟩ ?_
                  refine n_if_lt (tgt := 408) (x := C 2 f) dL_fools_349 (by decide) (by omega) ?_
                  refine v_aload_n dL_fools_352 rfl ?_
                  refine v_iload dL_fools_353 rfl ?_
                  refine v_iconst (v := nI 1) dL_fools_355 (by decide) ?_
                  refine v_ask (st := []) (v2 := nI (C 2 f)) dL_fools_356 (o_foolOf g ho5) (qFool_at (f := f) (w := 1) (by omega) (by omega) (by decide)) wL_97 ho5.he rfl rfl ⟨Nat.le_of_ble_eq_true rfl, Nat.le_of_ble_eq_true rfl⟩ (Nat.le_of_ble_eq_true rfl) ⟨by omega, by omega⟩ ?_
                  refine v_bipush (v := nI 99) dL_fools_359 (by decide) ?_
                  refine n_icmp_gt (tgt := 408) (x := C 2 f) (y := 99) dL_fools_361 (by decide) (by omega) (by omega) (fun c => (by exfalso; omega)) (fun _ => ?_)
                  refine v_aload_n dL_fools_364 rfl ?_
                  refine v_iload dL_fools_365 rfl ?_
                  refine v_iconst (v := nI 2) dL_fools_367 (by decide) ?_
                  refine v_ask (st := []) (v2 := nI (C 3 f)) dL_fools_368 (o_foolOf g ho5) (qFool_at (f := f) (w := 2) (by omega) (by omega) (by decide)) wL_97 ho5.he rfl rfl ⟨Nat.le_of_ble_eq_true rfl, Nat.le_of_ble_eq_true rfl⟩ (Nat.le_of_ble_eq_true rfl) ⟨by omega, by omega⟩ ?_
                  refine n_if_lt (tgt := 408) (x := C 3 f) dL_fools_371 (by decide) (by omega) ?_
                  refine v_aload_n dL_fools_374 rfl ?_
                  refine v_iload dL_fools_375 rfl ?_
                  refine v_iconst (v := nI 3) dL_fools_377 (by decide) ?_
                  refine v_ask (st := []) (v2 := nI (C 4 f)) dL_fools_378 (o_foolOf g ho5) (qFool_at (f := f) (w := 3) (by omega) (by omega) (by decide)) wL_97 ho5.he rfl rfl ⟨Nat.le_of_ble_eq_true rfl, Nat.le_of_ble_eq_true rfl⟩ (Nat.le_of_ble_eq_true rfl) ⟨by omega, by omega⟩ ?_
                  refine v_iconst (v := nI 3) dL_fools_381 (by decide) ?_
                  refine n_icmp_gt (tgt := 408) (x := C 4 f) (y := 3) dL_fools_382 (by decide) (by omega) (by omega) (fun c => (by exfalso; omega)) (fun _ => ?_)
                  refine v_aload_n dL_fools_385 rfl ?_
                  refine v_iload dL_fools_386 rfl ?_
                  refine v_bipush (v := nI 7) dL_fools_388 (by decide) ?_
                  refine v_ask (st := []) (v2 := nI (C 6 f)) dL_fools_390 (o_foolOf g ho5) (qFool_at (f := f) (w := 7) (by omega) (by omega) (by decide)) wL_97 ho5.he rfl rfl ⟨Nat.le_of_ble_eq_true rfl, Nat.le_of_ble_eq_true rfl⟩ (Nat.le_of_ble_eq_true rfl) ⟨by omega, by omega⟩ ?_
                  refine v_aload_n dL_fools_393 rfl ?_
                  refine v_iload dL_fools_394 rfl ?_
                  refine v_bipush (v := nI 6) dL_fools_396 (by decide) ?_
                  refine v_ask (st := [.int (nI (C 6 f))]) (v2 := nI (C 5 f)) dL_fools_398 (o_foolOf g ho5) (qFool_at (f := f) (w := 6) (by omega) (by omega) (by decide)) wL_97 ho5.he rfl rfl ⟨Nat.le_of_ble_eq_true rfl, Nat.le_of_ble_eq_true rfl⟩ (Nat.le_of_ble_eq_true rfl) ⟨by omega, by omega⟩ ?_
                  refine n_icmp_gt (tgt := 408) (x := C 6 f) (y := C 5 f) dL_fools_401 (by decide) (by omega) (by omega) (fun c => (by exfalso; omega)) (fun _ => ?_)
                  refine v_iconst (v := nI 1) dL_fools_404 (by decide) ?_
                  refine v_goto (tgt := 409) dL_fools_405 (by decide) ?_
                  refine v_istore dL_fools_409 rfl (by decide) ?_
                  refine v_ls (ls2 := [some (.ref u), some (.int (nI (C 0 0))), some (.int (nI (sm (C 2) f + C 2 f))), some (.int (nI (sm (C 3) f + C 3 f))), some (.int (nI (sm (C 5) f + C 5 f))), some (.int (nI (sm (C 6) f + C 6 f))), some (.int (nI 0)), some (.int (nI (flR C (f - 1)))), some (.int (nI f)), some (.int (nI (cnt (fun z => decide (hold C z ∧ C 8 z = f)) (C 0 1)))), some (.int (nI (cnt (fun z => decide (C 11 z = f)) (C 0 2)))), some (.ref n1), some (.int (nI (flR C f))), some (.int (nI ((C 3 (flR C (f - 1))) - C 3 (flR C f)))), some (.int (nI 1))]) rfl ?_
                  refine v_iload dL_fools_411 rfl ?_
                  refine n_if_lt (tgt := 478) (x := (C 3 (flR C (f - 1))) - C 3 (flR C f)) dL_fools_413 (by decide) (by omega) ?_
                  refine v_iload dL_fools_416 rfl ?_
                  refine n_if_ne (tgt := 428) (x := (C 3 (flR C (f - 1))) - C 3 (flR C f)) dL_fools_418 (by decide) (by omega) (fun c74 => ?_) (fun c74 => ?_)
                  · refine v_forget 13 ?_
                    refine v_ls (ls2 := [some (.ref u), some (.int (nI (C 0 0))), some (.int (nI (sm (C 2) f + C 2 f))), some (.int (nI (sm (C 3) f + C 3 f))), some (.int (nI (sm (C 5) f + C 5 f))), some (.int (nI (sm (C 6) f + C 6 f))), some (.int (nI 0)), some (.int ((lastF C f))), some (.int (nI f)), some (.int (nI (cnt (fun z => decide (hold C z ∧ C 8 z = f)) (C 0 1)))), some (.int (nI (cnt (fun z => decide (C 11 z = f)) (C 0 2)))), some (.ref n1), some (.int (nI (flR C f))), none, some (.int (nI 1))]) (by rw [show lastF C f = nI (flR C (f - 1)) from if_neg (by omega)]; rfl) ?_
                    exact K428
                  · refine v_iload dL_fools_421 rfl ?_
                    refine v_iload dL_fools_423 rfl ?_
                    refine n_icmp_lt (tgt := 478) (x := flR C f) (y := flR C (f - 1)) dL_fools_425 (by decide) (by omega) (by omega) (fun c75 => ?_) (fun c75 => ?_)
                    · exfalso
                      first | exact c75 rfl | exact c74 rfl | omega | exact absurd (by assumption) c75
                    · refine v_forget 13 ?_
                      refine v_ls (ls2 := [some (.ref u), some (.int (nI (C 0 0))), some (.int (nI (sm (C 2) f + C 2 f))), some (.int (nI (sm (C 3) f + C 3 f))), some (.int (nI (sm (C 5) f + C 5 f))), some (.int (nI (sm (C 6) f + C 6 f))), some (.int (nI 0)), some (.int ((lastF C f))), some (.int (nI f)), some (.int (nI (cnt (fun z => decide (hold C z ∧ C 8 z = f)) (C 0 1)))), some (.int (nI (cnt (fun z => decide (C 11 z = f)) (C 0 2)))), some (.ref n1), some (.int (nI (flR C f))), none, some (.int (nI 1))]) (by rw [show lastF C f = nI (flR C (f - 1)) from if_neg (by omega)]; rfl) ?_
                      exact K428
            refine v_iload dL_fools_428 rfl ?_
            refine n_if_eq (tgt := 478) (x := 1) dL_fools_430 (by decide) (by omega) (fun c => (by exfalso; omega)) (fun _ => ?_)
            refine v_aload_n dL_fools_433 rfl ?_
            refine v_iload dL_fools_434 rfl ?_
            refine v_iconst (v := nI 4) dL_fools_436 (by decide) ?_
            refine v_ask (st := []) (v2 := nI (cnt (fun z => decide (hold C z ∧ C 8 z = f)) (C 0 1))) dL_fools_437 (o_foolOf g ho5) (qFool_at (f := f) (w := 4) (by omega) (by omega) (by decide)) wL_97 ho5.he rfl rfl ⟨Nat.le_of_ble_eq_true rfl, Nat.le_of_ble_eq_true rfl⟩ (Nat.le_of_ble_eq_true rfl) ⟨by omega, by omega⟩ ?_
            have b76 : cnt (fun z => decide (hold C z ∧ C 8 z = f)) (C 0 1) < 2 ^ 28 := Nat.lt_of_le_of_lt (cnt_le _ _) (by omega)
            refine v_iload dL_fools_440 rfl ?_
            refine n_icmp_ne (tgt := 478) (x := cnt (fun z => decide (hold C z ∧ C 8 z = f)) (C 0 1)) (y := cnt (fun z => decide (hold C z ∧ C 8 z = f)) (C 0 1)) dL_fools_442 (by decide) (by omega) (by omega) (fun c => (by exfalso; omega)) (fun _ => ?_)
            refine v_aload_n dL_fools_445 rfl ?_
            refine v_iload dL_fools_446 rfl ?_
            refine v_iconst (v := nI 5) dL_fools_448 (by decide) ?_
            refine v_ask (st := []) (v2 := nI (cnt (fun z => decide (C 11 z = f)) (C 0 2))) dL_fools_449 (o_foolOf g ho5) (qFool_at (f := f) (w := 5) (by omega) (by omega) (by decide)) wL_97 ho5.he rfl rfl ⟨Nat.le_of_ble_eq_true rfl, Nat.le_of_ble_eq_true rfl⟩ (Nat.le_of_ble_eq_true rfl) ⟨by omega, by omega⟩ ?_
            have b77 : cnt (fun z => decide (C 11 z = f)) (C 0 2) < 2 ^ 28 := Nat.lt_of_le_of_lt (cnt_le _ _) (by omega)
            refine v_iload dL_fools_452 rfl ?_
            refine n_icmp_ne (tgt := 478) (x := cnt (fun z => decide (C 11 z = f)) (C 0 2)) (y := cnt (fun z => decide (C 11 z = f)) (C 0 2)) dL_fools_454 (by decide) (by omega) (by omega) (fun c => (by exfalso; omega)) (fun _ => ?_)
            refine v_aload_n dL_fools_457 rfl ?_
            refine v_aload_n dL_fools_458 rfl ?_
            refine v_iload dL_fools_459 rfl ?_
            refine v_callV (st := [.ref u]) dL_fools_461 (o_tell (f := f) g ho5 (by omega)) wL_87 ho5.he rfl rfl ⟨Nat.le_of_ble_eq_true rfl, Nat.le_of_ble_eq_true rfl⟩ (Nat.le_of_ble_eq_true rfl) ⟨by omega, by omega⟩ (fun r n78 h78 hq => ?_)
            obtain ⟨rfl, a78, hn78, hg78, hl78, ho78, fr78⟩ := ot_of g ho5 (by omega) hq
            refine v_st (st2 := [.int (nI ((tellL C f (LM.1, 0)).2)), .ref u]) rfl ?_
            have fr79 : frP (fun z => z < n ∧ z ≠ u + 248 ∧ z ≠ a) _ _ := fun z (hz : z < n ∧ z ≠ u + 248 ∧ z ≠ a) => (fr78 z (by omega)).trans (fr5 z hz)
            have hb80 := sbL.fr hb5 (fr78 (n1) (by omega)) (fr78 (aS) (by omega))
            refine v_widen (k1 := f * 80 + 12 + 16 + x2 / 16) (k2 := f * 4000 + 300 + 2272 + 2 * x2) (by omega) (by omega) ?_
            have hq81 := ho78.2.2.2.2.2.2.1
            refine v_callS (st := []) dL_fools_464 (t_L_line ho78) wL_90 rfl ⟨Nat.le_of_ble_eq_true rfl, Nat.le_of_ble_eq_true rfl⟩ (Nat.le_of_ble_eq_true rfl) ⟨by omega, by omega⟩ (fun r n81 h81 hq => ?_)
            obtain ⟨q81, qa81, rfl, hn81, hx81, hy81, hs81, fr81⟩ := hq
            refine v_st (st2 := [.ref q81]) rfl ?_
            have fr82 : frP (fun z => z < n ∧ z ≠ u + 248 ∧ z ≠ a) _ _ := fun z (hz : z < n ∧ z ≠ u + 248 ∧ z ≠ a) => (fr81 z (by omega)).trans (fr79 z hz)
            have hb83 := sbL.fr hb80 (fr81 (n1) (by omega)) (fr81 (aS) (by omega))
            have ho84 : oP G u n81 _ a78 ((tellL C f (LM.1, 0))) C T Sn sv rs dt := oP.fr ho78 (by omega) (fun z hz1 hz2 => fr81 z (by omega)) (fr81 a78 (by omega))
            have ht81 : strP G h81 q81 qa81 (tellL C f zL) := strP.cong hs81 (tellL_E (C := C) (f := f) (F := LM.1)).1 (fun i hi => (tellL_E (C := C) (f := f) (F := LM.1)).2 i hi)
            have hw81 : (tellL C f zL).2 ≤ 120 := by rw [(tellL_E (C := C) (f := f) (F := LM.1)).1]; exact hq81
            refine v_widen (k1 := f * 80 + 12 + 16 + 20 + x2 / 16) (k2 := f * 4000 + 300 + 2272 + 660 + 2 * x2) (by omega) (by omega) ?_
            refine v_aload dL_fools_467 rfl ?_
            refine v_toStr (st := [.ref q81]) dL_fools_469 hb83 wL_80 ⟨Nat.le_of_ble_eq_true rfl, Nat.le_of_ble_eq_true rfl⟩ (Nat.le_of_ble_eq_true rfl) (by omega) (by omega) (by omega) (fun h85 hs85 fr85 => ?_)
            have fr86 : frP (fun z => z < n ∧ z ≠ u + 248 ∧ z ≠ a) _ _ := fun z (hz : z < n ∧ z ≠ u + 248 ∧ z ≠ a) => (fr85 z (by omega)).trans (fr82 z hz)
            have hb87 := sbL.fr hb83 (fr85 (n1) (by omega)) (fr85 (aS) (by omega))
            have ho88 : oP G u (n81 + 2) _ a78 ((tellL C f (LM.1, 0))) C T Sn sv rs dt := oP.fr ho84 (by omega) (fun z hz1 hz2 => fr85 z (by omega)) (fr85 a78 (by omega))
            have hs89 := strP.fr ht81 (fr85 (q81) (by omega)) (fr85 (qa81) (by omega))
            refine v_eqS (st := []) dL_fools_472 hs89 hs85 wL_135 ⟨Nat.le_of_ble_eq_true rfl, Nat.le_of_ble_eq_true rfl⟩ (Nat.le_of_ble_eq_true rfl) (by omega) (by omega) (by omega) ?_
            refine n_if_ne (tgt := 480) (x := 1) dL_fools_475 (by decide) (by decide) (fun _ => ?_) (fun c => absurd c (by decide))
            refine v_iload dL_fools_480 rfl ?_
            refine v_istore dL_fools_482 rfl (by decide) ?_
            refine v_ls (ls2 := [some (.ref u), some (.int (nI (C 0 0))), some (.int (nI (sm (C 2) f + C 2 f))), some (.int (nI (sm (C 3) f + C 3 f))), some (.int (nI (sm (C 5) f + C 5 f))), some (.int (nI (sm (C 6) f + C 6 f))), some (.int (nI 0)), some (.int (nI (flR C f))), some (.int (nI f)), some (.int (nI (cnt (fun z => decide (hold C z ∧ C 8 z = f)) (C 0 1)))), some (.int (nI (cnt (fun z => decide (C 11 z = f)) (C 0 2)))), some (.ref n1), some (.int (nI (flR C f))), none, some (.int (nI 1))]) rfl ?_
            refine n_iinc (k := 1) (x := f) dL_fools_484 (by decide) rfl rfl (by decide) ?_
            refine v_ls (ls2 := [some (.ref u), some (.int (nI (C 0 0))), some (.int (nI (sm (C 2) f + C 2 f))), some (.int (nI (sm (C 3) f + C 3 f))), some (.int (nI (sm (C 5) f + C 5 f))), some (.int (nI (sm (C 6) f + C 6 f))), some (.int (nI 0)), some (.int (nI (flR C f))), some (.int (nI (f + 1))), some (.int (nI (cnt (fun z => decide (hold C z ∧ C 8 z = f)) (C 0 1)))), some (.int (nI (cnt (fun z => decide (C 11 z = f)) (C 0 2)))), some (.ref n1), some (.int (nI (flR C f))), none, some (.int (nI 1))]) rfl ?_
            refine v_goto (tgt := 25) dL_fools_487 (by decide) ?_
            refine v_forget 9 ?_
            refine v_forget 10 ?_
            refine v_forget 11 ?_
            refine v_forget 12 ?_
            refine v_forget 14 ?_
            refine v_ls (ls2 := [some (.ref u), some (.int (nI (C 0 0))), some (.int (nI (sm (C 2) (f + 1)))), some (.int (nI (sm (C 3) (f + 1)))), some (.int (nI (sm (C 5) (f + 1)))), some (.int (nI (sm (C 6) (f + 1)))), some (.int (nI 0)), some (.int ((lastF C (f + 1)))), some (.int (nI (f + 1))), none, none, none, none, none, none]) rfl ?_
            refine v_widen (k1 := (f + 1) * 80) (k2 := (f + 1) * 4000) (by omega) (by omega) ?_
            exact ihF (by omega) 0 _ _ ⟨_, _, ho88, ⟨by omega, by omega, by omega⟩, fr86⟩
          · refine v_aload dL_fools_221 rfl ?_
            refine v_bipush (v := nI 43) dL_fools_223 (by decide) ?_
            refine v_appC (st := []) (c := 43) (f * 80 + 12) (f * 4000 + 300) dL_fools_225 hb5 (by omega) wL_77 ⟨Nat.le_of_ble_eq_true rfl, Nat.le_of_ble_eq_true rfl⟩ (Nat.le_of_ble_eq_true rfl) (by omega) (by omega) (by omega) (by omega) (by omega) (fun a90 m90 n90 h90 hn90 hg90 hl90 hs90 hb90 fr90 => ?_)
            obtain ⟨S90, hS90⟩ : ∃ Sx : Ln, Sx = wc S5 43 := ⟨_, rfl⟩
            rw [← hS90] at hb90
            have hk90 : S90.2 = S5.2 + 1 := by rw [hS90]; rfl
            have hm90 := hb90.2
            have ho91 : oP G u n90 _ aL LM C T Sn sv rs dt := oP.fr ho5 (by omega) (fun z hz1 hz2 => fr90 z (by omega)) (fr90 aL (by omega))
            have fr92 : frP (fun z => z < n ∧ z ≠ u + 248 ∧ z ≠ a) _ _ := fun z (hz : z < n ∧ z ≠ u + 248 ∧ z ≠ a) => (fr90 z (by omega)).trans (fr5 z hz)
            have hz90 : n1 + 1 ≤ a90 := by omega
            clear hg90
            have hN090 : n1 + 2 ≤ n90 := by omega
            clear hn90 hs90 
            refine v_widen (k1 := f * 80 + 12 + m90 / 16) (k2 := f * 4000 + 300 + 2 * m90) (by omega) (by omega) ?_
            refine v_pop dL_fools_228 rfl ?_
            refine n_iinc (k := 1) (x := k) dL_fools_229 (by decide) rfl rfl (by decide) ?_
            refine v_ls (ls2 := [some (.ref u), some (.int (nI (C 0 0))), some (.int (nI (sm (C 2) f))), some (.int (nI (sm (C 3) f))), some (.int (nI (sm (C 5) f))), some (.int (nI (sm (C 6) f))), some (.int (nI 0)), some (.int ((lastF C f))), some (.int (nI f)), some (.int (nI (cnt (fun z => decide (hold C z ∧ C 8 z = f)) (C 0 1)))), some (.int (nI (cnt (fun z => decide (C 11 z = f)) (C 0 2)))), some (.ref n1), some (.int (nI (k + 1))), none, none]) rfl ?_
            refine v_goto (tgt := 209) dL_fools_232 (by decide) ?_
            have e9 : S90 = plS (k + 1) SU := by rw [plS]; rw [hS90]; rw [hS5]
            rw [e9] at hb90
            exact ihL (by omega) _ _ _ ⟨_, hb90, ho91, ⟨by omega, by omega, by omega⟩, fr92⟩
        · refine v_newSB dL_fools_119 dL_fools_122 dL_fools_123 q4_87 wL_73 ⟨Nat.le_of_ble_eq_true rfl, Nat.le_of_ble_eq_true rfl⟩ (Nat.le_of_ble_eq_true rfl) (by omega) (by omega) (fun h93 hb93 fr93 => ?_)
          have hm93 := hb93.2
          have hz93 : (zL : Ln).2 = 0 := rfl
          have ho94 : oP G u (n1 + 2) _ aL LM C T Sn sv rs dt := oP.fr ho1 (by omega) (fun z hz1 hz2 => fr93 z (by omega)) (fr93 aL (by omega))
          have fr95 : frP (fun z => z < n ∧ z ≠ u + 248 ∧ z ≠ a) _ _ := fun z (hz : z < n ∧ z ≠ u + 248 ∧ z ≠ a) => (fr93 z (by omega)).trans (fr1 z hz)
          refine v_widen (k1 := f * 80 + 1 + 16 / 16) (k2 := f * 4000 + 2 * 16) (by omega) (by omega) ?_
          refine v_iload dL_fools_126 rfl ?_
          have hv96 : f < 2 ^ 28 := by omega
          have hd96 := dg9 hv96
          refine v_appI (st := []) (x := f) (f * 80 + 1) (f * 4000) dL_fools_128 hb93 hv96 wL_84 ⟨Nat.le_of_ble_eq_true rfl, Nat.le_of_ble_eq_true rfl⟩ (Nat.le_of_ble_eq_true rfl) (by omega) (by omega) (by omega) (by omega) (by omega) (fun a97 m97 n97 h97 hn97 hg97 hl97 hs97 hb97 fr97 => ?_)
          obtain ⟨S97, hS97⟩ : ∃ Sx : Ln, Sx = wi zL f := ⟨_, rfl⟩
          rw [← hS97] at hb97
          have hk97 : S97.2 = zL.2 + sb_dg f := by rw [hS97]; rfl
          have hm97 := hb97.2
          have ho98 : oP G u n97 _ aL LM C T Sn sv rs dt := oP.fr ho94 (by omega) (fun z hz1 hz2 => fr97 z (by omega)) (fr97 aL (by omega))
          have fr99 : frP (fun z => z < n ∧ z ≠ u + 248 ∧ z ≠ a) _ _ := fun z (hz : z < n ∧ z ≠ u + 248 ∧ z ≠ a) => (fr97 z (by omega)).trans (fr95 z hz)
          have hz97 : n1 + 1 ≤ a97 := by omega
          clear hg97
          have hN097 : n1 + 2 ≤ n97 := by omega
          clear hn97 hs97 
          refine v_widen (k1 := f * 80 + 1 + m97 / 16) (k2 := f * 4000 + 2 * m97) (by omega) (by omega) ?_
          refine v_bipush (v := nI 115) dL_fools_131 (by decide) ?_
          refine v_appC (st := []) (c := 115) (f * 80 + 1) (f * 4000) dL_fools_133 hb97 (by omega) wL_77 ⟨Nat.le_of_ble_eq_true rfl, Nat.le_of_ble_eq_true rfl⟩ (Nat.le_of_ble_eq_true rfl) (by omega) (by omega) (by omega) (by omega) (by omega) (fun a100 m100 n100 h100 hn100 hg100 hl100 hs100 hb100 fr100 => ?_)
          obtain ⟨S100, hS100⟩ : ∃ Sx : Ln, Sx = wc S97 115 := ⟨_, rfl⟩
          rw [← hS100] at hb100
          have hk100 : S100.2 = S97.2 + 1 := by rw [hS100]; rfl
          have hm100 := hb100.2
          have ho101 : oP G u n100 _ aL LM C T Sn sv rs dt := oP.fr ho98 (by omega) (fun z hz1 hz2 => fr100 z (by omega)) (fr100 aL (by omega))
          have fr102 : frP (fun z => z < n ∧ z ≠ u + 248 ∧ z ≠ a) _ _ := fun z (hz : z < n ∧ z ≠ u + 248 ∧ z ≠ a) => (fr100 z (by omega)).trans (fr99 z hz)
          have hz100 : n1 + 1 ≤ a100 := by omega
          clear hg100
          have hN0100 : n1 + 2 ≤ n100 := by omega
          clear hn100 hs100 hz97 hN097
          refine v_widen (k1 := f * 80 + 1 + m100 / 16) (k2 := f * 4000 + 2 * m100) (by omega) (by omega) ?_
          refine v_aload_n dL_fools_136 rfl ?_
          refine v_iload dL_fools_137 rfl ?_
          refine v_iconst (v := nI 0) dL_fools_139 (by decide) ?_
          refine v_ask (st := [.ref n1]) (v2 := nI (C 1 f)) dL_fools_140 (o_foolOf g ho101) (qFool_at (f := f) (w := 0) (by omega) (by omega) (by decide)) wL_97 ho101.he rfl rfl ⟨Nat.le_of_ble_eq_true rfl, Nat.le_of_ble_eq_true rfl⟩ (Nat.le_of_ble_eq_true rfl) ⟨by omega, by omega⟩ ?_
          have b103 : C 1 f < 2 ^ 28 := C_b g
          have hv104 : C 1 f < 2 ^ 28 := by omega
          have hd104 := dg9 hv104
          refine v_appI (st := []) (x := C 1 f) (f * 80 + 1) (f * 4000) dL_fools_143 hb100 hv104 wL_84 ⟨Nat.le_of_ble_eq_true rfl, Nat.le_of_ble_eq_true rfl⟩ (Nat.le_of_ble_eq_true rfl) (by omega) (by omega) (by omega) (by omega) (by omega) (fun a105 m105 n105 h105 hn105 hg105 hl105 hs105 hb105 fr105 => ?_)
          obtain ⟨S105, hS105⟩ : ∃ Sx : Ln, Sx = wi S100 (C 1 f) := ⟨_, rfl⟩
          rw [← hS105] at hb105
          have hk105 : S105.2 = S100.2 + sb_dg (C 1 f) := by rw [hS105]; rfl
          have hm105 := hb105.2
          have ho106 : oP G u n105 _ aL LM C T Sn sv rs dt := oP.fr ho101 (by omega) (fun z hz1 hz2 => fr105 z (by omega)) (fr105 aL (by omega))
          have fr107 : frP (fun z => z < n ∧ z ≠ u + 248 ∧ z ≠ a) _ _ := fun z (hz : z < n ∧ z ≠ u + 248 ∧ z ≠ a) => (fr105 z (by omega)).trans (fr102 z hz)
          have hz105 : n1 + 1 ≤ a105 := by omega
          clear hg105
          have hN0105 : n1 + 2 ≤ n105 := by omega
          clear hn105 hs105 hz100 hN0100
          refine v_widen (k1 := f * 80 + 1 + m105 / 16) (k2 := f * 4000 + 2 * m105) (by omega) (by omega) ?_
          refine v_bipush (v := nI 36) dL_fools_146 (by decide) ?_
          refine v_appC (st := []) (c := 36) (f * 80 + 1) (f * 4000) dL_fools_148 hb105 (by omega) wL_77 ⟨Nat.le_of_ble_eq_true rfl, Nat.le_of_ble_eq_true rfl⟩ (Nat.le_of_ble_eq_true rfl) (by omega) (by omega) (by omega) (by omega) (by omega) (fun a108 m108 n108 h108 hn108 hg108 hl108 hs108 hb108 fr108 => ?_)
          obtain ⟨S108, hS108⟩ : ∃ Sx : Ln, Sx = wc S105 36 := ⟨_, rfl⟩
          rw [← hS108] at hb108
          have hk108 : S108.2 = S105.2 + 1 := by rw [hS108]; rfl
          have hm108 := hb108.2
          have ho109 : oP G u n108 _ aL LM C T Sn sv rs dt := oP.fr ho106 (by omega) (fun z hz1 hz2 => fr108 z (by omega)) (fr108 aL (by omega))
          have fr110 : frP (fun z => z < n ∧ z ≠ u + 248 ∧ z ≠ a) _ _ := fun z (hz : z < n ∧ z ≠ u + 248 ∧ z ≠ a) => (fr108 z (by omega)).trans (fr107 z hz)
          have hz108 : n1 + 1 ≤ a108 := by omega
          clear hg108
          have hN0108 : n1 + 2 ≤ n108 := by omega
          clear hn108 hs108 hz105 hN0105
          refine v_widen (k1 := f * 80 + 1 + m108 / 16) (k2 := f * 4000 + 2 * m108) (by omega) (by omega) ?_
          refine v_aload_n dL_fools_151 rfl ?_
          refine v_iload dL_fools_152 rfl ?_
          refine v_iconst (v := nI 1) dL_fools_154 (by decide) ?_
          refine v_ask (st := [.ref n1]) (v2 := nI (C 2 f)) dL_fools_155 (o_foolOf g ho109) (qFool_at (f := f) (w := 1) (by omega) (by omega) (by decide)) wL_97 ho109.he rfl rfl ⟨Nat.le_of_ble_eq_true rfl, Nat.le_of_ble_eq_true rfl⟩ (Nat.le_of_ble_eq_true rfl) ⟨by omega, by omega⟩ ?_
          have b111 : C 2 f < 2 ^ 28 := C_b g
          have hv112 : C 2 f < 2 ^ 28 := by omega
          have hd112 := dg9 hv112
          refine v_appI (st := []) (x := C 2 f) (f * 80 + 1) (f * 4000) dL_fools_158 hb108 hv112 wL_84 ⟨Nat.le_of_ble_eq_true rfl, Nat.le_of_ble_eq_true rfl⟩ (Nat.le_of_ble_eq_true rfl) (by omega) (by omega) (by omega) (by omega) (by omega) (fun a113 m113 n113 h113 hn113 hg113 hl113 hs113 hb113 fr113 => ?_)
          obtain ⟨S113, hS113⟩ : ∃ Sx : Ln, Sx = wi S108 (C 2 f) := ⟨_, rfl⟩
          rw [← hS113] at hb113
          have hk113 : S113.2 = S108.2 + sb_dg (C 2 f) := by rw [hS113]; rfl
          have hm113 := hb113.2
          have ho114 : oP G u n113 _ aL LM C T Sn sv rs dt := oP.fr ho109 (by omega) (fun z hz1 hz2 => fr113 z (by omega)) (fr113 aL (by omega))
          have fr115 : frP (fun z => z < n ∧ z ≠ u + 248 ∧ z ≠ a) _ _ := fun z (hz : z < n ∧ z ≠ u + 248 ∧ z ≠ a) => (fr113 z (by omega)).trans (fr110 z hz)
          have hz113 : n1 + 1 ≤ a113 := by omega
          clear hg113
          have hN0113 : n1 + 2 ≤ n113 := by omega
          clear hn113 hs113 hz108 hN0108
          refine v_widen (k1 := f * 80 + 1 + m113 / 16) (k2 := f * 4000 + 2 * m113) (by omega) (by omega) ?_
          refine v_aload_n dL_fools_161 rfl ?_
          refine v_iload dL_fools_162 rfl ?_
          refine v_iconst (v := nI 2) dL_fools_164 (by decide) ?_
          refine v_ask (st := [.ref n1]) (v2 := nI (C 3 f)) dL_fools_165 (o_foolOf g ho114) (qFool_at (f := f) (w := 2) (by omega) (by omega) (by decide)) wL_97 ho114.he rfl rfl ⟨Nat.le_of_ble_eq_true rfl, Nat.le_of_ble_eq_true rfl⟩ (Nat.le_of_ble_eq_true rfl) ⟨by omega, by omega⟩ ?_
          have b116 : C 3 f < 2 ^ 28 := C_b g
          refine n_if_le (tgt := 199) (x := C 3 f) dL_fools_168 (by decide) (by omega) (fun c117 => ?_) (fun c117 => ?_)
          · refine v_ldcs (i := 1) dL_fools_199 (by decide) rfl rfl ?_
            refine v_appS (st := []) (ra := n1) (L := cstL 1) (f * 80 + 1) (f * 4000) dL_fools_201 hb113 (Or.inr ⟨1, by decide, rfl, rfl⟩) (by omega) (by decide) wL_94 ⟨Nat.le_of_ble_eq_true rfl, Nat.le_of_ble_eq_true rfl⟩ (Nat.le_of_ble_eq_true rfl) (by omega) (by omega) (by omega) (by omega) (by omega) (fun a118 m118 n118 h118 hn118 hg118 hl118 hs118 hb118 fr118 => ?_)
            obtain ⟨S118, hS118⟩ : ∃ Sx : Ln, Sx = wl S113 (cstL 1) := ⟨_, rfl⟩
            rw [← hS118] at hb118
            have hk118 : S118.2 = S113.2 + (cstL 1).2 := by rw [hS118]; rfl
            have hm118 := hb118.2
            have ho119 : oP G u n118 _ aL LM C T Sn sv rs dt := oP.fr ho114 (by omega) (fun z hz1 hz2 => fr118 z (by omega)) (fr118 aL (by omega))
            have fr120 : frP (fun z => z < n ∧ z ≠ u + 248 ∧ z ≠ a) _ _ := fun z (hz : z < n ∧ z ≠ u + 248 ∧ z ≠ a) => (fr118 z (by omega)).trans (fr115 z hz)
            have hz118 : n1 + 1 ≤ a118 := by omega
            clear hg118
            have hN0118 : n1 + 2 ≤ n118 := by omega
            clear hn118 hs118 hz113 hN0113
            refine v_widen (k1 := f * 80 + 1 + m118 / 16) (k2 := f * 4000 + 2 * m118) (by omega) (by omega) ?_
            rw [hS118] at hb118
            have hb121 := wl_1 hb118
            have ehb121 : S113 = tU C f := by unfold tU; rw [if_neg (by omega)]; rw [hS113]; rw [hS108]; rw [hS105]; rw [hS100]; rw [hS97]
            have khb121 : (tU C f).2 ≤ 60 := by rw [← ehb121]; omega
            rw [ehb121] at hb121
            have hmhb121 := hb121.2
            refine v_astore dL_fools_204 rfl (by decide) ?_
            refine v_ls (ls2 := [some (.ref u), some (.int (nI (C 0 0))), some (.int (nI (sm (C 2) f))), some (.int (nI (sm (C 3) f))), some (.int (nI (sm (C 5) f))), some (.int (nI (sm (C 6) f))), some (.int (nI 0)), some (.int ((lastF C f))), some (.int (nI f)), some (.int (nI (cnt (fun z => decide (hold C z ∧ C 8 z = f)) (C 0 1)))), some (.int (nI (cnt (fun z => decide (C 11 z = f)) (C 0 2)))), some (.ref n1), none, none, none]) rfl ?_
            refine v_iconst (v := nI 0) dL_fools_206 (by decide) ?_
            refine v_istore dL_fools_207 rfl (by decide) ?_
            refine v_ls (ls2 := [some (.ref u), some (.int (nI (C 0 0))), some (.int (nI (sm (C 2) f))), some (.int (nI (sm (C 3) f))), some (.int (nI (sm (C 5) f))), some (.int (nI (sm (C 6) f))), some (.int (nI 0)), some (.int ((lastF C f))), some (.int (nI f)), some (.int (nI (cnt (fun z => decide (hold C z ∧ C 8 z = f)) (C 0 1)))), some (.int (nI (cnt (fun z => decide (C 11 z = f)) (C 0 2)))), some (.ref n1), some (.int (nI 0)), none, none]) rfl ?_
            exact K209 _ _ _ _ ⟨_, _, hb121, ho119, ⟨by omega, by omega, by omega⟩, fr120, by omega, by omega, khb121⟩
          · refine v_newSB dL_fools_171 dL_fools_174 dL_fools_175 q4_87 wL_73 ⟨Nat.le_of_ble_eq_true rfl, Nat.le_of_ble_eq_true rfl⟩ (Nat.le_of_ble_eq_true rfl) (by omega) (by omega) (fun h122 hb122 fr122 => ?_)
            have hm122 := hb122.2
            have hz122 : (zL : Ln).2 = 0 := rfl
            have ho123 : oP G u (n113 + 2) _ aL LM C T Sn sv rs dt := oP.fr ho114 (by omega) (fun z hz1 hz2 => fr122 z (by omega)) (fr122 aL (by omega))
            have fr124 : frP (fun z => z < n ∧ z ≠ u + 248 ∧ z ≠ a) _ _ := fun z (hz : z < n ∧ z ≠ u + 248 ∧ z ≠ a) => (fr122 z (by omega)).trans (fr115 z hz)
            have hb125 := sbL.fr hb113 (fr122 (n1) (by omega)) (fr122 (a113) (by omega))
            refine v_widen (k1 := f * 80 + 1 + 1 + m113 / 16 + 16 / 16) (k2 := f * 4000 + 2 * m113 + 2 * 16) (by omega) (by omega) ?_
            obtain ⟨SZ, hSZ⟩ : ∃ S : Ln, S = zL := ⟨_, rfl⟩
            rw [← hSZ] at hb122 hm122
            clear hz122
            have hz9 : SZ.2 = 0 := by rw [hSZ]
            refine v_ldcs (i := 0) dL_fools_178 (by decide) rfl rfl ?_
            refine v_appS (st := [.ref n1]) (ra := n113) (L := cstL 0) (f * 80 + 1 + 1 + m113 / 16) (f * 4000 + 2 * m113) dL_fools_180 hb122 (Or.inr ⟨0, by decide, rfl, rfl⟩) (by omega) (by decide) wL_94 ⟨Nat.le_of_ble_eq_true rfl, Nat.le_of_ble_eq_true rfl⟩ (Nat.le_of_ble_eq_true rfl) (by omega) (by omega) (by omega) (by omega) (by omega) (fun a126 m126 n126 h126 hn126 hg126 hl126 hs126 hb126 fr126 => ?_)
            obtain ⟨S126, hS126⟩ : ∃ Sx : Ln, Sx = wl SZ (cstL 0) := ⟨_, rfl⟩
            rw [← hS126] at hb126
            have hk126 : S126.2 = SZ.2 + (cstL 0).2 := by rw [hS126]; rfl
            have hm126 := hb126.2
            have ho127 : oP G u n126 _ aL LM C T Sn sv rs dt := oP.fr ho123 (by omega) (fun z hz1 hz2 => fr126 z (by omega)) (fr126 aL (by omega))
            have fr128 : frP (fun z => z < n ∧ z ≠ u + 248 ∧ z ≠ a) _ _ := fun z (hz : z < n ∧ z ≠ u + 248 ∧ z ≠ a) => (fr126 z (by omega)).trans (fr124 z hz)
            have hb129 := sbL.fr hb125 (fr126 (n1) (by omega)) (fr126 (a113) (by omega))
            have hz126 : n113 + 1 ≤ a126 := by omega
            clear hg126
            have hN0126 : n1 + 2 ≤ n126 := by omega
            have hN1126 : n113 + 2 ≤ n126 := by omega
            clear hn126 hs126 
            refine v_widen (k1 := f * 80 + 1 + 1 + m113 / 16 + m126 / 16) (k2 := f * 4000 + 2 * m113 + 2 * m126) (by omega) (by omega) ?_
            refine v_aload_n dL_fools_183 rfl ?_
            refine v_iload dL_fools_184 rfl ?_
            refine v_iconst (v := nI 2) dL_fools_186 (by decide) ?_
            refine v_ask (st := [.ref n113, .ref n1]) (v2 := nI (C 3 f)) dL_fools_187 (o_foolOf g ho127) (qFool_at (f := f) (w := 2) (by omega) (by omega) (by decide)) wL_97 ho127.he rfl rfl ⟨Nat.le_of_ble_eq_true rfl, Nat.le_of_ble_eq_true rfl⟩ (Nat.le_of_ble_eq_true rfl) ⟨by omega, by omega⟩ ?_
            have hv130 : C 3 f < 2 ^ 28 := by omega
            have hd130 := dg9 hv130
            refine v_appI (st := [.ref n1]) (x := C 3 f) (f * 80 + 1 + 1 + m113 / 16) (f * 4000 + 2 * m113) dL_fools_190 hb126 hv130 wL_84 ⟨Nat.le_of_ble_eq_true rfl, Nat.le_of_ble_eq_true rfl⟩ (Nat.le_of_ble_eq_true rfl) (by omega) (by omega) (by omega) (by omega) (by omega) (fun a131 m131 n131 h131 hn131 hg131 hl131 hs131 hb131 fr131 => ?_)
            obtain ⟨S131, hS131⟩ : ∃ Sx : Ln, Sx = wi S126 (C 3 f) := ⟨_, rfl⟩
            rw [← hS131] at hb131
            have hk131 : S131.2 = S126.2 + sb_dg (C 3 f) := by rw [hS131]; rfl
            have hm131 := hb131.2
            have ho132 : oP G u n131 _ aL LM C T Sn sv rs dt := oP.fr ho127 (by omega) (fun z hz1 hz2 => fr131 z (by omega)) (fr131 aL (by omega))
            have fr133 : frP (fun z => z < n ∧ z ≠ u + 248 ∧ z ≠ a) _ _ := fun z (hz : z < n ∧ z ≠ u + 248 ∧ z ≠ a) => (fr131 z (by omega)).trans (fr128 z hz)
            have hb134 := sbL.fr hb129 (fr131 (n1) (by omega)) (fr131 (a113) (by omega))
            have hz131 : n113 + 1 ≤ a131 := by omega
            clear hg131
            have hN0131 : n1 + 2 ≤ n131 := by omega
            have hN1131 : n113 + 2 ≤ n131 := by omega
            clear hn131 hs131 hz126 hN0126 hN1126
            refine v_widen (k1 := f * 80 + 1 + 1 + m113 / 16 + m131 / 16) (k2 := f * 4000 + 2 * m113 + 2 * m131) (by omega) (by omega) ?_
            refine v_toStr (st := [.ref n1]) dL_fools_193 hb131 wL_80 ⟨Nat.le_of_ble_eq_true rfl, Nat.le_of_ble_eq_true rfl⟩ (Nat.le_of_ble_eq_true rfl) (by omega) (by omega) (by omega) (fun h135 hs135 fr135 => ?_)
            have ho136 : oP G u (n131 + 2) _ aL LM C T Sn sv rs dt := oP.fr ho132 (by omega) (fun z hz1 hz2 => fr135 z (by omega)) (fr135 aL (by omega))
            have fr137 : frP (fun z => z < n ∧ z ≠ u + 248 ∧ z ≠ a) _ _ := fun z (hz : z < n ∧ z ≠ u + 248 ∧ z ≠ a) => (fr135 z (by omega)).trans (fr133 z hz)
            have hb138 := sbL.fr hb134 (fr135 (n1) (by omega)) (fr135 (a113) (by omega))
            have hb139 := sbL.fr hb131 (fr135 (n113) (by omega)) (fr135 (a131) (by omega))
            refine v_goto (tgt := 201) dL_fools_196 (by decide) ?_
            refine v_appS (st := []) (ra := n131 + 1) (L := S131) (f * 80 + 1 + 1 + 2 + m131 / 16) (f * 4000 + (4 + S131.2) + 2 * m131) dL_fools_201 hb138 (Or.inl hs135) (by omega) (by omega) wL_94 ⟨Nat.le_of_ble_eq_true rfl, Nat.le_of_ble_eq_true rfl⟩ (Nat.le_of_ble_eq_true rfl) (by omega) (by omega) (by omega) (by omega) (by omega) (fun a140 m140 n140 h140 hn140 hg140 hl140 hs140 hb140 fr140 => ?_)
            obtain ⟨S140, hS140⟩ : ∃ Sx : Ln, Sx = wl S113 S131 := ⟨_, rfl⟩
            rw [← hS140] at hb140
            have hk140 : S140.2 = S113.2 + S131.2 := by rw [hS140]; rfl
            have hm140 := hb140.2
            have ho141 : oP G u n140 _ aL LM C T Sn sv rs dt := oP.fr ho136 (by omega) (fun z hz1 hz2 => fr140 z (by omega)) (fr140 aL (by omega))
            have fr142 : frP (fun z => z < n ∧ z ≠ u + 248 ∧ z ≠ a) _ _ := fun z (hz : z < n ∧ z ≠ u + 248 ∧ z ≠ a) => (fr140 z (by omega)).trans (fr137 z hz)
            have hb143 := sbL.fr hb139 (fr140 (n113) (by omega)) (fr140 (a131) (by omega))
            have hs144 := strP.fr hs135 (fr140 (n131) (by omega)) (fr140 (n131 + 1) (by omega))
            have hz140 : n1 + 1 ≤ a140 := by omega
            clear hg140
            have hN0140 : n1 + 2 ≤ n140 := by omega
            clear hn140 hs140 hz113 hN0113
            refine v_widen (k1 := f * 80 + 1 + 1 + 2 + m140 / 16 + m131 / 16) (k2 := f * 4000 + (4 + S131.2) + 2 * m140 + 2 * m131) (by omega) (by omega) ?_
            rw [hS140, hS131, hS126, hSZ] at hb140
            have hb145 := sbL.cong hb140 lnE_t.1 lnE_t.2
            have ehb145 : wi (wc S113 126) (C 3 f) = tU C f := by unfold tU; rw [if_pos (by omega)]; rw [hS113]; rw [hS108]; rw [hS105]; rw [hS100]; rw [hS97]
            have khb145 : (tU C f).2 ≤ 60 := by rw [← ehb145]; show S113.2 + 1 + sb_dg (C 3 f) ≤ 60; have := dg9 hB3; omega
            rw [ehb145] at hb145
            have hmhb145 := hb145.2
            refine v_astore dL_fools_204 rfl (by decide) ?_
            refine v_ls (ls2 := [some (.ref u), some (.int (nI (C 0 0))), some (.int (nI (sm (C 2) f))), some (.int (nI (sm (C 3) f))), some (.int (nI (sm (C 5) f))), some (.int (nI (sm (C 6) f))), some (.int (nI 0)), some (.int ((lastF C f))), some (.int (nI f)), some (.int (nI (cnt (fun z => decide (hold C z ∧ C 8 z = f)) (C 0 1)))), some (.int (nI (cnt (fun z => decide (C 11 z = f)) (C 0 2)))), some (.ref n1), none, none, none]) rfl ?_
            refine v_iconst (v := nI 0) dL_fools_206 (by decide) ?_
            refine v_istore dL_fools_207 rfl (by decide) ?_
            refine v_ls (ls2 := [some (.ref u), some (.int (nI (C 0 0))), some (.int (nI (sm (C 2) f))), some (.int (nI (sm (C 3) f))), some (.int (nI (sm (C 5) f))), some (.int (nI (sm (C 6) f))), some (.int (nI 0)), some (.int ((lastF C f))), some (.int (nI f)), some (.int (nI (cnt (fun z => decide (hold C z ∧ C 8 z = f)) (C 0 1)))), some (.int (nI (cnt (fun z => decide (C 11 z = f)) (C 0 2)))), some (.ref n1), some (.int (nI 0)), none, none]) rfl ?_
            exact K209 _ _ _ _ ⟨_, _, hb145, ho141, ⟨by omega, by omega, by omega⟩, fr142, by omega, by omega, khb145⟩
      · refine v_iload dL_fools_91 rfl ?_
        refine v_aload_n dL_fools_93 rfl ?_
        refine v_iload dL_fools_94 rfl ?_
        refine v_iconst (v := nI 0) dL_fools_96 (by decide) ?_
        refine v_ask (st := [.int (nI (cnt (fun z => decide (C 11 z = f)) k))]) (v2 := nI (C 11 k)) dL_fools_97 (o_booking g ho1) (qBk_at (p := k) (w := 0) (by omega) (by omega) (by decide)) wL_112 ho1.he rfl rfl ⟨Nat.le_of_ble_eq_true rfl, Nat.le_of_ble_eq_true rfl⟩ (Nat.le_of_ble_eq_true rfl) ⟨by omega, by omega⟩ ?_
        have b146 : C 11 k < 2 ^ 28 := C_b g
        refine v_iload dL_fools_100 rfl ?_
        refine v_cut 110 [some (.ref u), some (.int (nI (C 0 0))), some (.int (nI (sm (C 2) f))), some (.int (nI (sm (C 3) f))), some (.int (nI (sm (C 5) f))), some (.int (nI (sm (C 6) f))), some (.int (nI 0)), some (.int ((lastF C f))), some (.int (nI f)), some (.int (nI (cnt (fun z => decide (hold C z ∧ C 8 z = f)) (C 0 1)))), some (.int (nI (cnt (fun z => decide (C 11 z = f)) k))), some (.int (nI k)), none, none, none] [.int (nI (bI (C 11 k = f))), .int (nI (cnt (fun z => decide (C 11 z = f)) k))] (fun K147 => ?_) ?_
        · refine n_icmp_ne (tgt := 109) (x := C 11 k) (y := f) dL_fools_102 (by decide) (by omega) (by omega) (fun c148 => ?_) (fun c148 => ?_)
          · refine v_iconst (v := nI 0) dL_fools_109 (by decide) ?_
            exact v_done K147 rfl (by rw [bI_f (c148)]) rfl
          · refine v_iconst (v := nI 1) dL_fools_105 (by decide) ?_
            refine v_goto (tgt := 110) dL_fools_106 (by decide) ?_
            exact v_done K147 rfl (by rw [bI_t (c148)]) rfl
        have bl149 : bI (C 11 k = f) < 2 := bI_lt
        refine n_iadd (x := cnt (fun z => decide (C 11 z = f)) k) (y := bI (C 11 k = f)) dL_fools_110 ?_
        refine v_istore dL_fools_111 rfl (by decide) ?_
        refine v_ls (ls2 := [some (.ref u), some (.int (nI (C 0 0))), some (.int (nI (sm (C 2) f))), some (.int (nI (sm (C 3) f))), some (.int (nI (sm (C 5) f))), some (.int (nI (sm (C 6) f))), some (.int (nI 0)), some (.int ((lastF C f))), some (.int (nI f)), some (.int (nI (cnt (fun z => decide (hold C z ∧ C 8 z = f)) (C 0 1)))), some (.int (nI ((cnt (fun z => decide (C 11 z = f)) k) + (bI (C 11 k = f))))), some (.int (nI k)), none, none, none]) rfl ?_
        refine n_iinc (k := 1) (x := k) dL_fools_113 (by decide) rfl rfl (by decide) ?_
        refine v_ls (ls2 := [some (.ref u), some (.int (nI (C 0 0))), some (.int (nI (sm (C 2) f))), some (.int (nI (sm (C 3) f))), some (.int (nI (sm (C 5) f))), some (.int (nI (sm (C 6) f))), some (.int (nI 0)), some (.int ((lastF C f))), some (.int (nI f)), some (.int (nI (cnt (fun z => decide (hold C z ∧ C 8 z = f)) (C 0 1)))), some (.int (nI ((cnt (fun z => decide (C 11 z = f)) k) + (bI (C 11 k = f))))), some (.int (nI (k + 1))), none, none, none]) rfl ?_
        refine v_goto (tgt := 81) dL_fools_116 (by decide) ?_
        refine v_ls (ls2 := [some (.ref u), some (.int (nI (C 0 0))), some (.int (nI (sm (C 2) f))), some (.int (nI (sm (C 3) f))), some (.int (nI (sm (C 5) f))), some (.int (nI (sm (C 6) f))), some (.int (nI 0)), some (.int ((lastF C f))), some (.int (nI f)), some (.int (nI (cnt (fun z => decide (hold C z ∧ C 8 z = f)) (C 0 1)))), some (.int (nI (cnt (fun z => decide (C 11 z = f)) (k + 1)))), some (.int (nI (k + 1))), none, none, none]) (by rw [← cnt_d (q := fun z => C 11 z = f)]) ?_
        exact ihW (by omega) trivial
    · refine v_iload dL_fools_50 rfl ?_
      refine v_aload_n dL_fools_52 rfl ?_
      refine v_iload dL_fools_53 rfl ?_
      refine v_iconst (v := nI 1) dL_fools_55 (by decide) ?_
      refine v_ask (st := [.int (nI (cnt (fun z => decide (hold C z ∧ C 8 z = f)) j))]) (v2 := if hold C j then nI (C 8 j) else -1015) dL_fools_56 (o_jokeOf g ho1) (qJoke_at (j := j) (w := 1) (by omega) (by omega) (by decide)) wL_103 ho1.he rfl rfl ⟨Nat.le_of_ble_eq_true rfl, Nat.le_of_ble_eq_true rfl⟩ (Nat.le_of_ble_eq_true rfl) ⟨by omega, by omega⟩ ?_
      refine v_iload dL_fools_59 rfl ?_
      refine v_cut 69 [some (.ref u), some (.int (nI (C 0 0))), some (.int (nI (sm (C 2) f))), some (.int (nI (sm (C 3) f))), some (.int (nI (sm (C 5) f))), some (.int (nI (sm (C 6) f))), some (.int (nI 0)), some (.int ((lastF C f))), some (.int (nI f)), some (.int (nI (cnt (fun z => decide (hold C z ∧ C 8 z = f)) j))), some (.int (nI 0)), some (.int (nI j)), none, none, none] [.int (nI (bI (hold C j ∧ C 8 j = f))), .int (nI (cnt (fun z => decide (hold C z ∧ C 8 z = f)) j))] (fun K150 => ?_) ?_
      · refine v_icmp_ne (tgt := 68) dL_fools_61 (by decide) (fun c151 => ?_) (fun c151 => ?_)
        · refine v_iconst (v := nI 0) dL_fools_68 (by decide) ?_
          exact v_done K150 rfl (by rw [bI_f (fun z => c151 ((own_eq (C_b g) (by omega)).mpr z))]) rfl
        · refine v_iconst (v := nI 1) dL_fools_64 (by decide) ?_
          refine v_goto (tgt := 69) dL_fools_65 (by decide) ?_
          exact v_done K150 rfl (by rw [bI_t ((own_eq (C_b g) (by omega)).mp c151)]) rfl
      have bl152 : bI (hold C j ∧ C 8 j = f) < 2 := bI_lt
      refine n_iadd (x := cnt (fun z => decide (hold C z ∧ C 8 z = f)) j) (y := bI (hold C j ∧ C 8 j = f)) dL_fools_69 ?_
      refine v_istore dL_fools_70 rfl (by decide) ?_
      refine v_ls (ls2 := [some (.ref u), some (.int (nI (C 0 0))), some (.int (nI (sm (C 2) f))), some (.int (nI (sm (C 3) f))), some (.int (nI (sm (C 5) f))), some (.int (nI (sm (C 6) f))), some (.int (nI 0)), some (.int ((lastF C f))), some (.int (nI f)), some (.int (nI ((cnt (fun z => decide (hold C z ∧ C 8 z = f)) j) + (bI (hold C j ∧ C 8 j = f))))), some (.int (nI 0)), some (.int (nI j)), none, none, none]) rfl ?_
      refine n_iinc (k := 1) (x := j) dL_fools_72 (by decide) rfl rfl (by decide) ?_
      refine v_ls (ls2 := [some (.ref u), some (.int (nI (C 0 0))), some (.int (nI (sm (C 2) f))), some (.int (nI (sm (C 3) f))), some (.int (nI (sm (C 5) f))), some (.int (nI (sm (C 6) f))), some (.int (nI 0)), some (.int ((lastF C f))), some (.int (nI f)), some (.int (nI ((cnt (fun z => decide (hold C z ∧ C 8 z = f)) j) + (bI (hold C j ∧ C 8 j = f))))), some (.int (nI 0)), some (.int (nI (j + 1))), none, none, none]) rfl ?_
      refine v_goto (tgt := 40) dL_fools_75 (by decide) ?_
      refine v_ls (ls2 := [some (.ref u), some (.int (nI (C 0 0))), some (.int (nI (sm (C 2) f))), some (.int (nI (sm (C 3) f))), some (.int (nI (sm (C 5) f))), some (.int (nI (sm (C 6) f))), some (.int (nI 0)), some (.int ((lastF C f))), some (.int (nI f)), some (.int (nI (cnt (fun z => decide (hold C z ∧ C 8 z = f)) (j + 1)))), some (.int (nI 0)), some (.int (nI (j + 1))), none, none, none]) (by rw [← cnt_d (q := fun z => hold C z ∧ C 8 z = f)]) ?_
      exact ihP (by omega) trivial
