def offn (k q : Nat) (h h2 : AH) : Prop := ∀ a : Nat, (a < q ∨ q + k ≤ a) → h2 a = h a
theorem offn_rf {k q : Nat} {h : AH} : offn k q h h := fun _ _ => rfl
theorem offn_in {k q k2 q2 : Nat} {h h1 h2 : AH} (a : offn k q h h1) (b : offn k2 q2 h1 h2) (hh : q ≤ q2 ∧ q2 + k2 ≤ q + k) : offn k q h h2 := fun x z => (b x (by omega)).trans (a x z)
theorem ct_offn {G : vG} {h h2 : AH} {q p k : Nat} {C : Ct} (hc : ct G h p C) (ho : offn k q h h2) (hd : p + 20 ≤ q ∨ q + k ≤ p) : ct G h2 p C := fun i hi => by rw [ho (p + i) (by omega)]; exact hc i hi
def frP (P : Nat → Prop) (h h2 : AH) : Prop := ∀ x : Nat, P x → h2 x = h x
theorem frP_rf {P : Nat → Prop} {h : AH} : frP P h h := fun _ _ => rfl
theorem frP_tr {P : Nat → Prop} {k q : Nat} {h h1 h2 : AH} (a : frP P h h1) (b : offn k q h1 h2) (hh : ∀ x : Nat, P x → x < q ∨ q + k ≤ x) : frP P h h2 := fun x hx => (b x (hh x hx)).trans (a x hx)
abbrev Z0 : Ct := fun _ _ => 0
theorem ct_mk {G : vG} {h : AH} {q : Nat} {C : Ct} (P : h (q + 0) = some (ctc G q C 0) ∧ h (q + 1) = some (ctc G q C 1) ∧ h (q + 2) = some (ctc G q C 2) ∧ h (q + 3) = some (ctc G q C 3) ∧ h (q + 4) = some (ctc G q C 4) ∧ h (q + 5) = some (ctc G q C 5) ∧ h (q + 6) = some (ctc G q C 6) ∧ h (q + 7) = some (ctc G q C 7) ∧ h (q + 8) = some (ctc G q C 8) ∧ h (q + 9) = some (ctc G q C 9) ∧ h (q + 10) = some (ctc G q C 10) ∧ h (q + 11) = some (ctc G q C 11) ∧ h (q + 12) = some (ctc G q C 12) ∧ h (q + 13) = some (ctc G q C 13) ∧ h (q + 14) = some (ctc G q C 14) ∧ h (q + 15) = some (ctc G q C 15) ∧ h (q + 16) = some (ctc G q C 16) ∧ h (q + 17) = some (ctc G q C 17) ∧ h (q + 18) = some (ctc G q C 18) ∧ h (q + 19) = some (ctc G q C 19)) : ct G h q C := fun i hi => l20 (P := fun i => h (q + i) = some (ctc G q C i)) P i hi
theorem nw {l : Launch} {G : vG} {M : vM} {rc rs : Nat} {Fz : vFin} {pc : Nat} {ls : List (Option Value)} {st : List Value} {n : Nat} {h : AH} {cells slots : Nat} {a : Nat} {e : va_E} (kk : ∀ h1 : AH, h1 a = some e → offn 1 a h h1 → V l G M rc rs Fz pc ls st n h1 cells slots) : V l G M rc rs Fz pc ls st n (va_up h a (some e)) cells slots := kk _ (if_pos rfl) (fun x hx => if_neg (by omega))
theorem v_n {l : Launch} {G : vG} {M : vM} {rc rs : Nat} {Fz : vFin} {pc : Nat} {ls : List (Option Value)} {st : List Value} {n : Nat} {h : AH} {cells slots : Nat} {n2 : Nat} (he : n = n2) (kk : V l G M rc rs Fz pc ls st n2 h cells slots) : V l G M rc rs Fz pc ls st n h cells slots := he ▸ kk
theorem nni {l : Launch} {G : vG} {M : vM} {rc rs : Nat} {Fz : vFin} {pc : Nat} {ls : List (Option Value)} {st : List Value} {n : Nat} {h : AH} {cells slots : Nat} {k : Nat} (hd : decode M.2.1 pc = .ok (.newarray .int, 2)) (hk : k ≤ 100000) (hc1 : cells + 1 ≤ rc) (hs1 : slots + k ≤ rs) (kk : ∀ h1 : AH, h1 n = some (ar G k (fun _ => 0)) → offn 1 n h h1 → V l G M rc rs Fz (pc + 2) ls (.ref n :: st) (n + 1) h1 (cells + 1) (slots + k)) : V l G M rc rs Fz pc ls (.int (nI k) :: st) n h cells slots :=
  v_newi hd q1_75 (nI_pos (by omega)) (nI_clamp (by omega)) hk hc1 hs1 (nw (fun h1 f1 s1 => kk h1 f1 s1))
theorem nnc {l : Launch} {G : vG} {M : vM} {rc rs : Nat} {Fz : vFin} {pc : Nat} {ls : List (Option Value)} {st : List Value} {n : Nat} {h : AH} {cells slots : Nat} {k : Nat} (hd : decode M.2.1 pc = .ok (.newarray .char, 2)) (hk : k ≤ 100000) (hc1 : cells + 1 ≤ rc) (hs1 : slots + k ≤ rs) (kk : ∀ h1 : AH, h1 n = some (.inl (gC G 1, k, .inl (fun _ => 0))) → offn 1 n h h1 → V l G M rc rs Fz (pc + 2) ls (.ref n :: st) (n + 1) h1 (cells + 1) (slots + k)) : V l G M rc rs Fz pc ls (.int (nI k) :: st) n h cells slots :=
  v_newc hd q2_20 (nI_pos (by omega)) (nI_clamp (by omega)) hk hc1 hs1 (nw (fun h1 f1 s1 => kk h1 f1 s1))
theorem nnb {l : Launch} {G : vG} {M : vM} {rc rs : Nat} {Fz : vFin} {pc : Nat} {ls : List (Option Value)} {st : List Value} {n : Nat} {h : AH} {cells slots : Nat} {k : Nat} (hd : decode M.2.1 pc = .ok (.newarray .byte, 2)) (hk : k ≤ 100000) (hc1 : cells + 1 ≤ rc) (hs1 : slots + k ≤ rs) (kk : ∀ h1 : AH, h1 n = some (.inl (gC G 2, k, .inl (fun _ => 0))) → offn 1 n h h1 → V l G M rc rs Fz (pc + 2) ls (.ref n :: st) (n + 1) h1 (cells + 1) (slots + k)) : V l G M rc rs Fz pc ls (.int (nI k) :: st) n h cells slots :=
  v_newb hd q1_237 (nI_pos (by omega)) (nI_clamp (by omega)) hk hc1 hs1 (nw (fun h1 f1 s1 => kk h1 f1 s1))
theorem nnq {l : Launch} {G : vG} {M : vM} {rc rs : Nat} {Fz : vFin} {pc : Nat} {ls : List (Option Value)} {st : List Value} {n : Nat} {h : AH} {cells slots : Nat} {k index : Nat} (hd : decode M.2.1 pc = .ok (.anewarray index, 3)) (hcl : Cond.classLink M.1.cls index RX1 ∈ gw) (hk : k ≤ 100000) (hc1 : cells + 1 ≤ rc) (hs1 : slots + k ≤ rs) (kk : ∀ h1 : AH, h1 n = some (.inl (gC G 3, k, .inr (.inr (.inr (.inr (fun _ => none)))))) → offn 1 n h h1 → V l G M rc rs Fz (pc + 3) ls (.ref n :: st) (n + 1) h1 (cells + 1) (slots + k)) : V l G M rc rs Fz pc ls (.int (nI k) :: st) n h cells slots :=
  v_newq hd hcl (nI_pos (by omega)) (nI_clamp (by omega)) hk hc1 hs1 (nw (fun h1 f1 s1 => kk h1 f1 s1))
theorem n_aast {l : Launch} {G : vG} {M : vM} {rc rs : Nat} {Fz : vFin} {pc : Nat} {ls : List (Option Value)} {st : List Value} {n : Nat} {h : AH} {cells slots : Nat} {a k j v ci N : Nat} {f : Nat → Option Nat} {vs : List Value} {T : u_T} (hd : decode M.2.1 pc = .ok (.aastore, 1)) (he : h a = some (.inl (gC G 3, k, .inr (.inr (.inr (.inr f)))))) (hv : h v = some (.inr (ci, vs))) (hc : vwCl[ci]? = some (RX1, T, N)) (hj : j < k) (hk : k < 2 ^ 31) (kk : V l G M rc rs Fz (pc + 1) ls st n (va_up h a (some (.inl (gC G 3, k, .inr (.inr (.inr (.inr (va_up f j (some v))))))))) cells slots) : V l G M rc rs Fz pc ls (.ref v :: .int (nI j) :: .ref a :: st) n h cells slots :=
  v_aast hd he hv hc (vp_in_nI hj hk) (by rw [nI_clamp (Nat.lt_trans hj hk)]; exact kk)
theorem n_aald {l : Launch} {G : vG} {M : vM} {rc rs : Nat} {Fz : vFin} {pc : Nat} {ls : List (Option Value)} {st : List Value} {n : Nat} {h : AH} {cells slots : Nat} {a k j v : Nat} {f : Nat → Option Nat} (hd : decode M.2.1 pc = .ok (.aaload, 1)) (he : h a = some (.inl (gC G 3, k, .inr (.inr (.inr (.inr f)))))) (hj : j < k) (hk : k < 2 ^ 31) (hf : f j = some v) (kk : V l G M rc rs Fz (pc + 1) ls (.ref v :: st) n h cells slots) : V l G M rc rs Fz pc ls (.int (nI j) :: .ref a :: st) n h cells slots :=
  v_aald hd he (vp_in_nI hj hk) (by rw [nI_clamp (Nat.lt_trans hj hk), hf]; exact kk)
theorem nnX6 {l : Launch} {G : vG} {M : vM} {rc rs : Nat} {Fz : vFin} {pc : Nat} {ls : List (Option Value)} {st : List Value} {n : Nat} {h : AH} {cells slots : Nat} {index : Nat} (hd : decode M.2.1 pc = .ok (.new index, 3)) (hcl : Cond.classLink M.1.cls index RX6 ∈ gw) (hc1 : cells + 1 ≤ rc) (hs1 : slots + 10 ≤ rs) (kk : ∀ h1 : AH, h1 n = some (.inr (7, [.null, .null, .null, .null, .null, .null, .null, .int 0, .int 0, .int 0])) → offn 1 n h h1 → V l G M rc rs Fz (pc + 3) ls (.ref n :: st) (n + 1) h1 (cells + 1) (slots + 10)) : V l G M rc rs Fz pc ls st n h cells slots :=
  v_new (ci := 7) (fs := [.null, .null, .null, .null, .null, .null, .null, .int 0, .int 0, .int 0]) hd rfl inX6 tyX6 tyX6_ok hcl q1_21 q1_1 (by decide) hc1 hs1 (nw (fun h1 f1 s1 => kk h1 f1 s1))
theorem nnX1 {l : Launch} {G : vG} {M : vM} {rc rs : Nat} {Fz : vFin} {pc : Nat} {ls : List (Option Value)} {st : List Value} {n : Nat} {h : AH} {cells slots : Nat} {index : Nat} (hd : decode M.2.1 pc = .ok (.new index, 3)) (hcl : Cond.classLink M.1.cls index RX1 ∈ gw) (hc1 : cells + 1 ≤ rc) (hs1 : slots + 10 ≤ rs) (kk : ∀ h1 : AH, h1 n = some (.inr (2, [.null, .null, .null, .null, .null, .int 0, .int 0, .int 0, .int 0, .int 0])) → offn 1 n h h1 → V l G M rc rs Fz (pc + 3) ls (.ref n :: st) (n + 1) h1 (cells + 1) (slots + 10)) : V l G M rc rs Fz pc ls st n h cells slots :=
  v_new (ci := 2) (fs := [.null, .null, .null, .null, .null, .int 0, .int 0, .int 0, .int 0, .int 0]) hd rfl inX1 tyX1 tyX1_ok hcl q1_29 q1_2 (by decide) hc1 hs1 (nw (fun h1 f1 s1 => kk h1 f1 s1))
theorem nnX2 {l : Launch} {G : vG} {M : vM} {rc rs : Nat} {Fz : vFin} {pc : Nat} {ls : List (Option Value)} {st : List Value} {n : Nat} {h : AH} {cells slots : Nat} {index : Nat} (hd : decode M.2.1 pc = .ok (.new index, 3)) (hcl : Cond.classLink M.1.cls index RX2 ∈ gw) (hc1 : cells + 1 ≤ rc) (hs1 : slots + 7 ≤ rs) (kk : ∀ h1 : AH, h1 n = some (.inr (3, [.int 0, .null, .null, .null, .null, .null, .null])) → offn 1 n h h1 → V l G M rc rs Fz (pc + 3) ls (.ref n :: st) (n + 1) h1 (cells + 1) (slots + 7)) : V l G M rc rs Fz pc ls st n h cells slots :=
  v_new (ci := 3) (fs := [.int 0, .null, .null, .null, .null, .null, .null]) hd rfl inX2 tyX2 tyX2_ok hcl q1_35 q1_3 (by decide) hc1 hs1 (nw (fun h1 f1 s1 => kk h1 f1 s1))
theorem nnX4 {l : Launch} {G : vG} {M : vM} {rc rs : Nat} {Fz : vFin} {pc : Nat} {ls : List (Option Value)} {st : List Value} {n : Nat} {h : AH} {cells slots : Nat} {index : Nat} (hd : decode M.2.1 pc = .ok (.new index, 3)) (hcl : Cond.classLink M.1.cls index RX4 ∈ gw) (hc1 : cells + 1 ≤ rc) (hs1 : slots + 5 ≤ rs) (kk : ∀ h1 : AH, h1 n = some (.inr (5, [.int 0, .null, .null, .null, .null])) → offn 1 n h h1 → V l G M rc rs Fz (pc + 3) ls (.ref n :: st) (n + 1) h1 (cells + 1) (slots + 5)) : V l G M rc rs Fz pc ls st n h cells slots :=
  v_new (ci := 5) (fs := [.int 0, .null, .null, .null, .null]) hd rfl inX4 tyX4 tyX4_ok hcl q1_77 q1_4 (by decide) hc1 hs1 (nw (fun h1 f1 s1 => kk h1 f1 s1))
theorem nnX0 {l : Launch} {G : vG} {M : vM} {rc rs : Nat} {Fz : vFin} {pc : Nat} {ls : List (Option Value)} {st : List Value} {n : Nat} {h : AH} {cells slots : Nat} {index : Nat} (hd : decode M.2.1 pc = .ok (.new index, 3)) (hcl : Cond.classLink M.1.cls index RX0 ∈ gw) (hc1 : cells + 1 ≤ rc) (hs1 : slots + 5 ≤ rs) (kk : ∀ h1 : AH, h1 n = some (.inr (1, [.int 0, .null, .null, .null, .null])) → offn 1 n h h1 → V l G M rc rs Fz (pc + 3) ls (.ref n :: st) (n + 1) h1 (cells + 1) (slots + 5)) : V l G M rc rs Fz pc ls st n h cells slots :=
  v_new (ci := 1) (fs := [.int 0, .null, .null, .null, .null]) hd rfl inX0 tyX0 tyX0_ok hcl q1_107 q1_5 (by decide) hc1 hs1 (nw (fun h1 f1 s1 => kk h1 f1 s1))
theorem nnX3 {l : Launch} {G : vG} {M : vM} {rc rs : Nat} {Fz : vFin} {pc : Nat} {ls : List (Option Value)} {st : List Value} {n : Nat} {h : AH} {cells slots : Nat} {index : Nat} (hd : decode M.2.1 pc = .ok (.new index, 3)) (hcl : Cond.classLink M.1.cls index RX3 ∈ gw) (hc1 : cells + 1 ≤ rc) (hs1 : slots + 3 ≤ rs) (kk : ∀ h1 : AH, h1 n = some (.inr (4, [.int 0, .int 0, .null])) → offn 1 n h h1 → V l G M rc rs Fz (pc + 3) ls (.ref n :: st) (n + 1) h1 (cells + 1) (slots + 3)) : V l G M rc rs Fz pc ls st n h cells slots :=
  v_new (ci := 4) (fs := [.int 0, .int 0, .null]) hd rfl inX3 tyX3 tyX3_ok hcl q1_180 q1_6 (by decide) hc1 hs1 (nw (fun h1 f1 s1 => kk h1 f1 s1))
theorem nnX5 {l : Launch} {G : vG} {M : vM} {rc rs : Nat} {Fz : vFin} {pc : Nat} {ls : List (Option Value)} {st : List Value} {n : Nat} {h : AH} {cells slots : Nat} {index : Nat} (hd : decode M.2.1 pc = .ok (.new index, 3)) (hcl : Cond.classLink M.1.cls index RX5 ∈ gw) (hc1 : cells + 1 ≤ rc) (hs1 : slots + 6 ≤ rs) (kk : ∀ h1 : AH, h1 n = some (.inr (6, [.null, .int 0, .int 0, .int 0, .null, .null])) → offn 1 n h h1 → V l G M rc rs Fz (pc + 3) ls (.ref n :: st) (n + 1) h1 (cells + 1) (slots + 6)) : V l G M rc rs Fz pc ls st n h cells slots :=
  v_new (ci := 6) (fs := [.null, .int 0, .int 0, .int 0, .null, .null]) hd rfl inX5 tyX5 tyX5_ok hcl q1_200 q1_7 (by decide) hc1 hs1 (nw (fun h1 f1 s1 => kk h1 f1 s1))
theorem nnJ4 {l : Launch} {G : vG} {M : vM} {rc rs : Nat} {Fz : vFin} {pc : Nat} {ls : List (Option Value)} {st : List Value} {n : Nat} {h : AH} {cells slots : Nat} {index : Nat} (hd : decode M.2.1 pc = .ok (.new index, 3)) (hcl : Cond.classLink M.1.cls index RJ4 ∈ gw) (hc1 : cells + 1 ≤ rc) (hs1 : slots + 4 ≤ rs) (kk : ∀ h1 : AH, h1 n = some (.inr (0, [.null, .int 0, .int 0, .int 0])) → offn 1 n h h1 → V l G M rc rs Fz (pc + 3) ls (.ref n :: st) (n + 1) h1 (cells + 1) (slots + 4)) : V l G M rc rs Fz pc ls st n h cells slots :=
  v_new (ci := 0) (fs := [.null, .int 0, .int 0, .int 0]) hd rfl inJ4 tyJ4 tyJ4_ok hcl q1_206 q1_9 (by decide) hc1 hs1 (nw (fun h1 f1 s1 => kk h1 f1 s1))
set_option maxRecDepth 20000 in
set_option maxHeartbeats 4000000 in
theorem t_X2_init {l : Launch} {G : vG} {h : AH} {a : Nat} (ha : h a = some (.inr (3, [.int 0, .null, .null, .null, .null, .null, .null]))) : Mt l G mX2_init [.ref a] (a + 1) h 6 36 (fun r n2 h2 => r = none ∧ n2 = a + 7 ∧ h2 a = some (.inr (3, [.int (nI 0), .ref (a + 1), .ref (a + 2), .ref (a + 3), .ref (a + 4), .ref (a + 5), .ref (a + 6)])) ∧ h2 (a + 1) = some (ar G 6 (fun _ => 0)) ∧ h2 (a + 2) = some (ar G 6 (fun _ => 0)) ∧ h2 (a + 3) = some (ar G 6 (fun _ => 0)) ∧ h2 (a + 4) = some (ar G 6 (fun _ => 0)) ∧ h2 (a + 5) = some (ar G 6 (fun _ => 0)) ∧ h2 (a + 6) = some (ar G 6 (fun _ => 0)) ∧ offn 7 a h h2) := by
  refine Mt.of (by decide) (Nat.le_of_ble_eq_true rfl) rfl ?_
  refine v_ls (ls2 := [some (.ref a)]) rfl ?_
  refine v_aload_n dX2_init_0 rfl ?_
  refine v_objinit dX2_init_1 q1_39 q1_26 q1_27 (Nat.le_of_ble_eq_true rfl) (Nat.le_of_ble_eq_true rfl) ?_
  refine v_aload_n dX2_init_4 rfl ?_
  refine v_iconst (v := nI 0) dX2_init_5 (by decide) ?_
  refine pX2_9 rfl dX2_init_6 ha (Nat.le_of_ble_eq_true rfl) ?_
  refine nw (fun h1 f1 s1 => ?_)
  have fa21 : h1 (a) = some (.inr (3, [.int (nI 0), .null, .null, .null, .null, .null, .null])) := f1
  have sa21 := s1
  clear f1 s1
  have fr22 := offn_in (k := 7) (q := a) offn_rf sa21 (by omega)
  refine v_aload_n dX2_init_9 rfl ?_
  refine v_bipush (v := nI 6) dX2_init_10 (by decide) ?_
  refine nni (k := 6) dX2_init_12 (by decide) (Nat.le_of_ble_eq_true rfl) (Nat.le_of_ble_eq_true rfl) (fun h1 f1 s1 => ?_)
  have fa23 := f1
  have sa23 := s1
  clear f1 s1
  refine v_n (n2 := a + 2) rfl ?_
  have fa24 := (sa23 (a) (by omega)).trans fa21
  have fr25 := offn_in (k := 7) (q := a) fr22 sa23 (by omega)
  refine pX2_15 rfl rfl dX2_init_14 fa24 (Nat.le_of_ble_eq_true rfl) ?_
  refine nw (fun h1 f1 s1 => ?_)
  have fa26 : h1 (a) = some (.inr (3, [.int (nI 0), .ref (a + 1), .null, .null, .null, .null, .null])) := f1
  have sa26 := s1
  clear f1 s1
  have fr27 := offn_in (k := 7) (q := a) fr25 sa26 (by omega)
  have fa28 := (sa26 (a + 1) (by omega)).trans fa23
  refine v_aload_n dX2_init_17 rfl ?_
  refine v_bipush (v := nI 6) dX2_init_18 (by decide) ?_
  refine nni (k := 6) dX2_init_20 (by decide) (Nat.le_of_ble_eq_true rfl) (Nat.le_of_ble_eq_true rfl) (fun h1 f1 s1 => ?_)
  have fa29 := f1
  have sa29 := s1
  clear f1 s1
  refine v_n (n2 := a + 3) rfl ?_
  have fa30 := (sa29 (a) (by omega)).trans fa26
  have fr31 := offn_in (k := 7) (q := a) fr27 sa29 (by omega)
  have fa32 := (sa29 (a + 1) (by omega)).trans fa28
  refine pX2_19 rfl rfl dX2_init_22 fa30 (Nat.le_of_ble_eq_true rfl) ?_
  refine nw (fun h1 f1 s1 => ?_)
  have fa33 : h1 (a) = some (.inr (3, [.int (nI 0), .ref (a + 1), .ref (a + 2), .null, .null, .null, .null])) := f1
  have sa33 := s1
  clear f1 s1
  have fr34 := offn_in (k := 7) (q := a) fr31 sa33 (by omega)
  have fa35 := (sa33 (a + 1) (by omega)).trans fa32
  have fa36 := (sa33 (a + 2) (by omega)).trans fa29
  refine v_aload_n dX2_init_25 rfl ?_
  refine v_bipush (v := nI 6) dX2_init_26 (by decide) ?_
  refine nni (k := 6) dX2_init_28 (by decide) (Nat.le_of_ble_eq_true rfl) (Nat.le_of_ble_eq_true rfl) (fun h1 f1 s1 => ?_)
  have fa37 := f1
  have sa37 := s1
  clear f1 s1
  refine v_n (n2 := a + 4) rfl ?_
  have fa38 := (sa37 (a) (by omega)).trans fa33
  have fr39 := offn_in (k := 7) (q := a) fr34 sa37 (by omega)
  have fa40 := (sa37 (a + 1) (by omega)).trans fa35
  have fa41 := (sa37 (a + 2) (by omega)).trans fa36
  refine pX2_22 rfl rfl dX2_init_30 fa38 (Nat.le_of_ble_eq_true rfl) ?_
  refine nw (fun h1 f1 s1 => ?_)
  have fa42 : h1 (a) = some (.inr (3, [.int (nI 0), .ref (a + 1), .ref (a + 2), .ref (a + 3), .null, .null, .null])) := f1
  have sa42 := s1
  clear f1 s1
  have fr43 := offn_in (k := 7) (q := a) fr39 sa42 (by omega)
  have fa44 := (sa42 (a + 1) (by omega)).trans fa40
  have fa45 := (sa42 (a + 2) (by omega)).trans fa41
  have fa46 := (sa42 (a + 3) (by omega)).trans fa37
  refine v_aload_n dX2_init_33 rfl ?_
  refine v_bipush (v := nI 6) dX2_init_34 (by decide) ?_
  refine nni (k := 6) dX2_init_36 (by decide) (Nat.le_of_ble_eq_true rfl) (Nat.le_of_ble_eq_true rfl) (fun h1 f1 s1 => ?_)
  have fa47 := f1
  have sa47 := s1
  clear f1 s1
  refine v_n (n2 := a + 5) rfl ?_
  have fa48 := (sa47 (a) (by omega)).trans fa42
  have fr49 := offn_in (k := 7) (q := a) fr43 sa47 (by omega)
  have fa50 := (sa47 (a + 1) (by omega)).trans fa44
  have fa51 := (sa47 (a + 2) (by omega)).trans fa45
  have fa52 := (sa47 (a + 3) (by omega)).trans fa46
  refine pX2_25 rfl rfl dX2_init_38 fa48 (Nat.le_of_ble_eq_true rfl) ?_
  refine nw (fun h1 f1 s1 => ?_)
  have fa53 : h1 (a) = some (.inr (3, [.int (nI 0), .ref (a + 1), .ref (a + 2), .ref (a + 3), .ref (a + 4), .null, .null])) := f1
  have sa53 := s1
  clear f1 s1
  have fr54 := offn_in (k := 7) (q := a) fr49 sa53 (by omega)
  have fa55 := (sa53 (a + 1) (by omega)).trans fa50
  have fa56 := (sa53 (a + 2) (by omega)).trans fa51
  have fa57 := (sa53 (a + 3) (by omega)).trans fa52
  have fa58 := (sa53 (a + 4) (by omega)).trans fa47
  refine v_aload_n dX2_init_41 rfl ?_
  refine v_bipush (v := nI 6) dX2_init_42 (by decide) ?_
  refine nni (k := 6) dX2_init_44 (by decide) (Nat.le_of_ble_eq_true rfl) (Nat.le_of_ble_eq_true rfl) (fun h1 f1 s1 => ?_)
  have fa59 := f1
  have sa59 := s1
  clear f1 s1
  refine v_n (n2 := a + 6) rfl ?_
  have fa60 := (sa59 (a) (by omega)).trans fa53
  have fr61 := offn_in (k := 7) (q := a) fr54 sa59 (by omega)
  have fa62 := (sa59 (a + 1) (by omega)).trans fa55
  have fa63 := (sa59 (a + 2) (by omega)).trans fa56
  have fa64 := (sa59 (a + 3) (by omega)).trans fa57
  have fa65 := (sa59 (a + 4) (by omega)).trans fa58
  refine pX2_28 rfl rfl dX2_init_46 fa60 (Nat.le_of_ble_eq_true rfl) ?_
  refine nw (fun h1 f1 s1 => ?_)
  have fa66 : h1 (a) = some (.inr (3, [.int (nI 0), .ref (a + 1), .ref (a + 2), .ref (a + 3), .ref (a + 4), .ref (a + 5), .null])) := f1
  have sa66 := s1
  clear f1 s1
  have fr67 := offn_in (k := 7) (q := a) fr61 sa66 (by omega)
  have fa68 := (sa66 (a + 1) (by omega)).trans fa62
  have fa69 := (sa66 (a + 2) (by omega)).trans fa63
  have fa70 := (sa66 (a + 3) (by omega)).trans fa64
  have fa71 := (sa66 (a + 4) (by omega)).trans fa65
  have fa72 := (sa66 (a + 5) (by omega)).trans fa59
  refine v_aload_n dX2_init_49 rfl ?_
  refine v_bipush (v := nI 6) dX2_init_50 (by decide) ?_
  refine nni (k := 6) dX2_init_52 (by decide) (Nat.le_of_ble_eq_true rfl) (Nat.le_of_ble_eq_true rfl) (fun h1 f1 s1 => ?_)
  have fa73 := f1
  have sa73 := s1
  clear f1 s1
  refine v_n (n2 := a + 7) rfl ?_
  have fa74 := (sa73 (a) (by omega)).trans fa66
  have fr75 := offn_in (k := 7) (q := a) fr67 sa73 (by omega)
  have fa76 := (sa73 (a + 1) (by omega)).trans fa68
  have fa77 := (sa73 (a + 2) (by omega)).trans fa69
  have fa78 := (sa73 (a + 3) (by omega)).trans fa70
  have fa79 := (sa73 (a + 4) (by omega)).trans fa71
  have fa80 := (sa73 (a + 5) (by omega)).trans fa72
  refine pX2_31 rfl rfl dX2_init_54 fa74 (Nat.le_of_ble_eq_true rfl) ?_
  refine nw (fun h1 f1 s1 => ?_)
  have fa81 : h1 (a) = some (.inr (3, [.int (nI 0), .ref (a + 1), .ref (a + 2), .ref (a + 3), .ref (a + 4), .ref (a + 5), .ref (a + 6)])) := f1
  have sa81 := s1
  clear f1 s1
  have fr82 := offn_in (k := 7) (q := a) fr75 sa81 (by omega)
  have fa83 := (sa81 (a + 1) (by omega)).trans fa76
  have fa84 := (sa81 (a + 2) (by omega)).trans fa77
  have fa85 := (sa81 (a + 3) (by omega)).trans fa78
  have fa86 := (sa81 (a + 4) (by omega)).trans fa79
  have fa87 := (sa81 (a + 5) (by omega)).trans fa80
  have fa88 := (sa81 (a + 6) (by omega)).trans fa73
  refine v_vret dX2_init_57 rfl ?_ (Nat.le_of_ble_eq_true rfl) (Nat.le_of_ble_eq_true rfl)
  exact ⟨rfl, rfl, fa81, fa83, fa84, fa85, fa86, fa87, fa88, fr82⟩
set_option maxRecDepth 20000 in
set_option maxHeartbeats 4000000 in
theorem t_X4_init {l : Launch} {G : vG} {h : AH} {a : Nat} (ha : h a = some (.inr (5, [.int 0, .null, .null, .null, .null]))) : Mt l G mX4_init [.ref a] (a + 1) h 4 84 (fun r n2 h2 => r = none ∧ n2 = a + 5 ∧ h2 a = some (.inr (5, [.int (nI 0), .ref (a + 1), .ref (a + 2), .ref (a + 3), .ref (a + 4)])) ∧ h2 (a + 1) = some (ar G 12 (fun _ => 0)) ∧ h2 (a + 2) = some (ar G 12 (fun _ => 0)) ∧ h2 (a + 3) = some (ar G 12 (fun _ => 0)) ∧ h2 (a + 4) = some (ar G 48 (fun _ => 0)) ∧ offn 5 a h h2) := by
  refine Mt.of (by decide) (Nat.le_of_ble_eq_true rfl) rfl ?_
  refine v_ls (ls2 := [some (.ref a)]) rfl ?_
  refine v_aload_n dX4_init_0 rfl ?_
  refine v_objinit dX4_init_1 q1_81 q1_26 q1_27 (Nat.le_of_ble_eq_true rfl) (Nat.le_of_ble_eq_true rfl) ?_
  refine v_aload_n dX4_init_4 rfl ?_
  refine v_iconst (v := nI 0) dX4_init_5 (by decide) ?_
  refine pX4_9 rfl dX4_init_6 ha (Nat.le_of_ble_eq_true rfl) ?_
  refine nw (fun h1 f1 s1 => ?_)
  have fa21 : h1 (a) = some (.inr (5, [.int (nI 0), .null, .null, .null, .null])) := f1
  have sa21 := s1
  clear f1 s1
  have fr22 := offn_in (k := 5) (q := a) offn_rf sa21 (by omega)
  refine v_aload_n dX4_init_9 rfl ?_
  refine v_bipush (v := nI 12) dX4_init_10 (by decide) ?_
  refine nni (k := 12) dX4_init_12 (by decide) (Nat.le_of_ble_eq_true rfl) (Nat.le_of_ble_eq_true rfl) (fun h1 f1 s1 => ?_)
  have fa23 := f1
  have sa23 := s1
  clear f1 s1
  refine v_n (n2 := a + 2) rfl ?_
  have fa24 := (sa23 (a) (by omega)).trans fa21
  have fr25 := offn_in (k := 5) (q := a) fr22 sa23 (by omega)
  refine pX4_15 rfl rfl dX4_init_14 fa24 (Nat.le_of_ble_eq_true rfl) ?_
  refine nw (fun h1 f1 s1 => ?_)
  have fa26 : h1 (a) = some (.inr (5, [.int (nI 0), .ref (a + 1), .null, .null, .null])) := f1
  have sa26 := s1
  clear f1 s1
  have fr27 := offn_in (k := 5) (q := a) fr25 sa26 (by omega)
  have fa28 := (sa26 (a + 1) (by omega)).trans fa23
  refine v_aload_n dX4_init_17 rfl ?_
  refine v_bipush (v := nI 12) dX4_init_18 (by decide) ?_
  refine nni (k := 12) dX4_init_20 (by decide) (Nat.le_of_ble_eq_true rfl) (Nat.le_of_ble_eq_true rfl) (fun h1 f1 s1 => ?_)
  have fa29 := f1
  have sa29 := s1
  clear f1 s1
  refine v_n (n2 := a + 3) rfl ?_
  have fa30 := (sa29 (a) (by omega)).trans fa26
  have fr31 := offn_in (k := 5) (q := a) fr27 sa29 (by omega)
  have fa32 := (sa29 (a + 1) (by omega)).trans fa28
  refine pX4_19 rfl rfl dX4_init_22 fa30 (Nat.le_of_ble_eq_true rfl) ?_
  refine nw (fun h1 f1 s1 => ?_)
  have fa33 : h1 (a) = some (.inr (5, [.int (nI 0), .ref (a + 1), .ref (a + 2), .null, .null])) := f1
  have sa33 := s1
  clear f1 s1
  have fr34 := offn_in (k := 5) (q := a) fr31 sa33 (by omega)
  have fa35 := (sa33 (a + 1) (by omega)).trans fa32
  have fa36 := (sa33 (a + 2) (by omega)).trans fa29
  refine v_aload_n dX4_init_25 rfl ?_
  refine v_bipush (v := nI 12) dX4_init_26 (by decide) ?_
  refine nni (k := 12) dX4_init_28 (by decide) (Nat.le_of_ble_eq_true rfl) (Nat.le_of_ble_eq_true rfl) (fun h1 f1 s1 => ?_)
  have fa37 := f1
  have sa37 := s1
  clear f1 s1
  refine v_n (n2 := a + 4) rfl ?_
  have fa38 := (sa37 (a) (by omega)).trans fa33
  have fr39 := offn_in (k := 5) (q := a) fr34 sa37 (by omega)
  have fa40 := (sa37 (a + 1) (by omega)).trans fa35
  have fa41 := (sa37 (a + 2) (by omega)).trans fa36
  refine pX4_22 rfl rfl dX4_init_30 fa38 (Nat.le_of_ble_eq_true rfl) ?_
  refine nw (fun h1 f1 s1 => ?_)
  have fa42 : h1 (a) = some (.inr (5, [.int (nI 0), .ref (a + 1), .ref (a + 2), .ref (a + 3), .null])) := f1
  have sa42 := s1
  clear f1 s1
  have fr43 := offn_in (k := 5) (q := a) fr39 sa42 (by omega)
  have fa44 := (sa42 (a + 1) (by omega)).trans fa40
  have fa45 := (sa42 (a + 2) (by omega)).trans fa41
  have fa46 := (sa42 (a + 3) (by omega)).trans fa37
  refine v_aload_n dX4_init_33 rfl ?_
  refine v_bipush (v := nI 48) dX4_init_34 (by decide) ?_
  refine nni (k := 48) dX4_init_36 (by decide) (Nat.le_of_ble_eq_true rfl) (Nat.le_of_ble_eq_true rfl) (fun h1 f1 s1 => ?_)
  have fa47 := f1
  have sa47 := s1
  clear f1 s1
  refine v_n (n2 := a + 5) rfl ?_
  have fa48 := (sa47 (a) (by omega)).trans fa42
  have fr49 := offn_in (k := 5) (q := a) fr43 sa47 (by omega)
  have fa50 := (sa47 (a + 1) (by omega)).trans fa44
  have fa51 := (sa47 (a + 2) (by omega)).trans fa45
  have fa52 := (sa47 (a + 3) (by omega)).trans fa46
  refine pX4_25 rfl rfl dX4_init_38 fa48 (Nat.le_of_ble_eq_true rfl) ?_
  refine nw (fun h1 f1 s1 => ?_)
  have fa53 : h1 (a) = some (.inr (5, [.int (nI 0), .ref (a + 1), .ref (a + 2), .ref (a + 3), .ref (a + 4)])) := f1
  have sa53 := s1
  clear f1 s1
  have fr54 := offn_in (k := 5) (q := a) fr49 sa53 (by omega)
  have fa55 := (sa53 (a + 1) (by omega)).trans fa50
  have fa56 := (sa53 (a + 2) (by omega)).trans fa51
  have fa57 := (sa53 (a + 3) (by omega)).trans fa52
  have fa58 := (sa53 (a + 4) (by omega)).trans fa47
  refine v_vret dX4_init_41 rfl ?_ (Nat.le_of_ble_eq_true rfl) (Nat.le_of_ble_eq_true rfl)
  exact ⟨rfl, rfl, fa53, fa55, fa56, fa57, fa58, fr54⟩
set_option maxRecDepth 20000 in
set_option maxHeartbeats 4000000 in
theorem t_X0_init {l : Launch} {G : vG} {h : AH} {a : Nat} (ha : h a = some (.inr (1, [.int 0, .null, .null, .null, .null]))) : Mt l G mX0_init [.ref a] (a + 1) h 4 40 (fun r n2 h2 => r = none ∧ n2 = a + 5 ∧ h2 a = some (.inr (1, [.int (nI 0), .ref (a + 1), .ref (a + 2), .ref (a + 3), .ref (a + 4)])) ∧ h2 (a + 1) = some (ar G 10 (fun _ => 0)) ∧ h2 (a + 2) = some (ar G 10 (fun _ => 0)) ∧ h2 (a + 3) = some (ar G 10 (fun _ => 0)) ∧ h2 (a + 4) = some (ar G 10 (fun _ => 0)) ∧ offn 5 a h h2) := by
  refine Mt.of (by decide) (Nat.le_of_ble_eq_true rfl) rfl ?_
  refine v_ls (ls2 := [some (.ref a)]) rfl ?_
  refine v_aload_n dX0_init_0 rfl ?_
  refine v_objinit dX0_init_1 q1_111 q1_26 q1_27 (Nat.le_of_ble_eq_true rfl) (Nat.le_of_ble_eq_true rfl) ?_
  refine v_aload_n dX0_init_4 rfl ?_
  refine v_iconst (v := nI 0) dX0_init_5 (by decide) ?_
  refine pX0_9 rfl dX0_init_6 ha (Nat.le_of_ble_eq_true rfl) ?_
  refine nw (fun h1 f1 s1 => ?_)
  have fa21 : h1 (a) = some (.inr (1, [.int (nI 0), .null, .null, .null, .null])) := f1
  have sa21 := s1
  clear f1 s1
  have fr22 := offn_in (k := 5) (q := a) offn_rf sa21 (by omega)
  refine v_aload_n dX0_init_9 rfl ?_
  refine v_bipush (v := nI 10) dX0_init_10 (by decide) ?_
  refine nni (k := 10) dX0_init_12 (by decide) (Nat.le_of_ble_eq_true rfl) (Nat.le_of_ble_eq_true rfl) (fun h1 f1 s1 => ?_)
  have fa23 := f1
  have sa23 := s1
  clear f1 s1
  refine v_n (n2 := a + 2) rfl ?_
  have fa24 := (sa23 (a) (by omega)).trans fa21
  have fr25 := offn_in (k := 5) (q := a) fr22 sa23 (by omega)
  refine pX0_15 rfl rfl dX0_init_14 fa24 (Nat.le_of_ble_eq_true rfl) ?_
  refine nw (fun h1 f1 s1 => ?_)
  have fa26 : h1 (a) = some (.inr (1, [.int (nI 0), .ref (a + 1), .null, .null, .null])) := f1
  have sa26 := s1
  clear f1 s1
  have fr27 := offn_in (k := 5) (q := a) fr25 sa26 (by omega)
  have fa28 := (sa26 (a + 1) (by omega)).trans fa23
  refine v_aload_n dX0_init_17 rfl ?_
  refine v_bipush (v := nI 10) dX0_init_18 (by decide) ?_
  refine nni (k := 10) dX0_init_20 (by decide) (Nat.le_of_ble_eq_true rfl) (Nat.le_of_ble_eq_true rfl) (fun h1 f1 s1 => ?_)
  have fa29 := f1
  have sa29 := s1
  clear f1 s1
  refine v_n (n2 := a + 3) rfl ?_
  have fa30 := (sa29 (a) (by omega)).trans fa26
  have fr31 := offn_in (k := 5) (q := a) fr27 sa29 (by omega)
  have fa32 := (sa29 (a + 1) (by omega)).trans fa28
  refine pX0_19 rfl rfl dX0_init_22 fa30 (Nat.le_of_ble_eq_true rfl) ?_
  refine nw (fun h1 f1 s1 => ?_)
  have fa33 : h1 (a) = some (.inr (1, [.int (nI 0), .ref (a + 1), .ref (a + 2), .null, .null])) := f1
  have sa33 := s1
  clear f1 s1
  have fr34 := offn_in (k := 5) (q := a) fr31 sa33 (by omega)
  have fa35 := (sa33 (a + 1) (by omega)).trans fa32
  have fa36 := (sa33 (a + 2) (by omega)).trans fa29
  refine v_aload_n dX0_init_25 rfl ?_
  refine v_bipush (v := nI 10) dX0_init_26 (by decide) ?_
  refine nni (k := 10) dX0_init_28 (by decide) (Nat.le_of_ble_eq_true rfl) (Nat.le_of_ble_eq_true rfl) (fun h1 f1 s1 => ?_)
  have fa37 := f1
  have sa37 := s1
  clear f1 s1
  refine v_n (n2 := a + 4) rfl ?_
  have fa38 := (sa37 (a) (by omega)).trans fa33
  have fr39 := offn_in (k := 5) (q := a) fr34 sa37 (by omega)
  have fa40 := (sa37 (a + 1) (by omega)).trans fa35
  have fa41 := (sa37 (a + 2) (by omega)).trans fa36
  refine pX0_22 rfl rfl dX0_init_30 fa38 (Nat.le_of_ble_eq_true rfl) ?_
  refine nw (fun h1 f1 s1 => ?_)
  have fa42 : h1 (a) = some (.inr (1, [.int (nI 0), .ref (a + 1), .ref (a + 2), .ref (a + 3), .null])) := f1
  have sa42 := s1
  clear f1 s1
  have fr43 := offn_in (k := 5) (q := a) fr39 sa42 (by omega)
  have fa44 := (sa42 (a + 1) (by omega)).trans fa40
  have fa45 := (sa42 (a + 2) (by omega)).trans fa41
  have fa46 := (sa42 (a + 3) (by omega)).trans fa37
  refine v_aload_n dX0_init_33 rfl ?_
  refine v_bipush (v := nI 10) dX0_init_34 (by decide) ?_
  refine nni (k := 10) dX0_init_36 (by decide) (Nat.le_of_ble_eq_true rfl) (Nat.le_of_ble_eq_true rfl) (fun h1 f1 s1 => ?_)
  have fa47 := f1
  have sa47 := s1
  clear f1 s1
  refine v_n (n2 := a + 5) rfl ?_
  have fa48 := (sa47 (a) (by omega)).trans fa42
  have fr49 := offn_in (k := 5) (q := a) fr43 sa47 (by omega)
  have fa50 := (sa47 (a + 1) (by omega)).trans fa44
  have fa51 := (sa47 (a + 2) (by omega)).trans fa45
  have fa52 := (sa47 (a + 3) (by omega)).trans fa46
  refine pX0_25 rfl rfl dX0_init_38 fa48 (Nat.le_of_ble_eq_true rfl) ?_
  refine nw (fun h1 f1 s1 => ?_)
  have fa53 : h1 (a) = some (.inr (1, [.int (nI 0), .ref (a + 1), .ref (a + 2), .ref (a + 3), .ref (a + 4)])) := f1
  have sa53 := s1
  clear f1 s1
  have fr54 := offn_in (k := 5) (q := a) fr49 sa53 (by omega)
  have fa55 := (sa53 (a + 1) (by omega)).trans fa50
  have fa56 := (sa53 (a + 2) (by omega)).trans fa51
  have fa57 := (sa53 (a + 3) (by omega)).trans fa52
  have fa58 := (sa53 (a + 4) (by omega)).trans fa47
  refine v_vret dX0_init_41 rfl ?_ (Nat.le_of_ble_eq_true rfl) (Nat.le_of_ble_eq_true rfl)
  exact ⟨rfl, rfl, fa53, fa55, fa56, fa57, fa58, fr54⟩
set_option maxRecDepth 20000 in
set_option maxHeartbeats 4000000 in
theorem t_X1_init {l : Launch} {G : vG} {h : AH} {a : Nat} (ha : h a = some (.inr (2, [.null, .null, .null, .null, .null, .int 0, .int 0, .int 0, .int 0, .int 0]))) : Mt l G mX1_init [.ref a] (a + 1) h 19 185 (fun r n2 h2 => r = none ∧ n2 = a + 20 ∧ ct G h2 a Z0 ∧ offn 20 a h h2) := by
  refine Mt.of (by decide) (Nat.le_of_ble_eq_true rfl) rfl ?_
  refine v_ls (ls2 := [some (.ref a)]) rfl ?_
  refine v_aload_n dX1_init_0 rfl ?_
  refine v_objinit dX1_init_1 q1_33 q1_26 q1_27 (Nat.le_of_ble_eq_true rfl) (Nat.le_of_ble_eq_true rfl) ?_
  refine v_aload_n dX1_init_4 rfl ?_
  refine nnX2 dX1_init_5 q1_34 (Nat.le_of_ble_eq_true rfl) (Nat.le_of_ble_eq_true rfl) (fun h1 f1 s1 => ?_)
  have fa21 := f1
  have sa21 := s1
  clear f1 s1
  refine v_n (n2 := a + 2) rfl ?_
  have fa22 := (sa21 (a) (by omega)).trans ha
  have fr23 := offn_in (k := 20) (q := a) offn_rf sa21 (by omega)
  refine v_dup dX1_init_8 rfl ?_
  refine v_callIN (st := [.ref (a + 1), .ref a]) dX1_init_9 (t_X2_init fa21) wX1_11 rfl rfl ⟨Nat.le_of_ble_eq_true rfl, Nat.le_of_ble_eq_true rfl⟩ (Nat.le_of_ble_eq_true rfl) ⟨Nat.le_of_ble_eq_true rfl, Nat.le_of_ble_eq_true rfl⟩ (fun r n2 h2 hq => ?_)
  obtain ⟨rfl, rfl, g24, g25, g26, g27, g28, g29, g30, sa31⟩ := hq
  have fa32 : h2 (a + 1) = some (.inr (3, [.int (nI 0), .ref (a + 2), .ref (a + 3), .ref (a + 4), .ref (a + 5), .ref (a + 6), .ref (a + 7)])) := g24
  have fa33 : h2 (a + 2) = some (ar G 6 (fun _ => 0)) := g25
  have fa34 : h2 (a + 3) = some (ar G 6 (fun _ => 0)) := g26
  have fa35 : h2 (a + 4) = some (ar G 6 (fun _ => 0)) := g27
  have fa36 : h2 (a + 5) = some (ar G 6 (fun _ => 0)) := g28
  have fa37 : h2 (a + 6) = some (ar G 6 (fun _ => 0)) := g29
  have fa38 : h2 (a + 7) = some (ar G 6 (fun _ => 0)) := g30
  refine v_st (st2 := [.ref (a + 1), .ref a]) rfl ?_
  refine v_n (n2 := a + 8) rfl ?_
  have fa39 := (sa31 (a) (by omega)).trans fa22
  have fr40 := offn_in (k := 20) (q := a) fr23 sa31 (by omega)
  refine pX1_12 rfl rfl dX1_init_12 fa39 (Nat.le_of_ble_eq_true rfl) ?_
  refine nw (fun h1 f1 s1 => ?_)
  have fa41 : h1 (a) = some (.inr (2, [.ref (a + 1), .null, .null, .null, .null, .int 0, .int 0, .int 0, .int 0, .int 0])) := f1
  have sa41 := s1
  clear f1 s1
  have fr42 := offn_in (k := 20) (q := a) fr40 sa41 (by omega)
  have fa43 := (sa41 (a + 1) (by omega)).trans fa32
  have fa44 := (sa41 (a + 2) (by omega)).trans fa33
  have fa45 := (sa41 (a + 3) (by omega)).trans fa34
  have fa46 := (sa41 (a + 4) (by omega)).trans fa35
  have fa47 := (sa41 (a + 5) (by omega)).trans fa36
  have fa48 := (sa41 (a + 6) (by omega)).trans fa37
  have fa49 := (sa41 (a + 7) (by omega)).trans fa38
  refine v_aload_n dX1_init_15 rfl ?_
  refine nnX4 dX1_init_16 q1_76 (Nat.le_of_ble_eq_true rfl) (Nat.le_of_ble_eq_true rfl) (fun h1 f1 s1 => ?_)
  have fa50 := f1
  have sa50 := s1
  clear f1 s1
  refine v_n (n2 := a + 9) rfl ?_
  have fa51 := (sa50 (a) (by omega)).trans fa41
  have fr52 := offn_in (k := 20) (q := a) fr42 sa50 (by omega)
  have fa53 := (sa50 (a + 1) (by omega)).trans fa43
  have fa54 := (sa50 (a + 2) (by omega)).trans fa44
  have fa55 := (sa50 (a + 3) (by omega)).trans fa45
  have fa56 := (sa50 (a + 4) (by omega)).trans fa46
  have fa57 := (sa50 (a + 5) (by omega)).trans fa47
  have fa58 := (sa50 (a + 6) (by omega)).trans fa48
  have fa59 := (sa50 (a + 7) (by omega)).trans fa49
  refine v_dup dX1_init_19 rfl ?_
  refine v_callIN (st := [.ref (a + 8), .ref a]) dX1_init_20 (t_X4_init fa50) wX1_20 rfl rfl ⟨Nat.le_of_ble_eq_true rfl, Nat.le_of_ble_eq_true rfl⟩ (Nat.le_of_ble_eq_true rfl) ⟨Nat.le_of_ble_eq_true rfl, Nat.le_of_ble_eq_true rfl⟩ (fun r n2 h2 hq => ?_)
  obtain ⟨rfl, rfl, g60, g61, g62, g63, g64, sa65⟩ := hq
  have fa66 : h2 (a + 8) = some (.inr (5, [.int (nI 0), .ref (a + 9), .ref (a + 10), .ref (a + 11), .ref (a + 12)])) := g60
  have fa67 : h2 (a + 9) = some (ar G 12 (fun _ => 0)) := g61
  have fa68 : h2 (a + 10) = some (ar G 12 (fun _ => 0)) := g62
  have fa69 : h2 (a + 11) = some (ar G 12 (fun _ => 0)) := g63
  have fa70 : h2 (a + 12) = some (ar G 48 (fun _ => 0)) := g64
  refine v_st (st2 := [.ref (a + 8), .ref a]) rfl ?_
  refine v_n (n2 := a + 13) rfl ?_
  have fa71 := (sa65 (a) (by omega)).trans fa51
  have fr72 := offn_in (k := 20) (q := a) fr52 sa65 (by omega)
  have fa73 := (sa65 (a + 1) (by omega)).trans fa53
  have fa74 := (sa65 (a + 2) (by omega)).trans fa54
  have fa75 := (sa65 (a + 3) (by omega)).trans fa55
  have fa76 := (sa65 (a + 4) (by omega)).trans fa56
  have fa77 := (sa65 (a + 5) (by omega)).trans fa57
  have fa78 := (sa65 (a + 6) (by omega)).trans fa58
  have fa79 := (sa65 (a + 7) (by omega)).trans fa59
  refine pX1_21 rfl rfl dX1_init_23 fa71 (Nat.le_of_ble_eq_true rfl) ?_
  refine nw (fun h1 f1 s1 => ?_)
  have fa80 : h1 (a) = some (.inr (2, [.ref (a + 1), .ref (a + 8), .null, .null, .null, .int 0, .int 0, .int 0, .int 0, .int 0])) := f1
  have sa80 := s1
  clear f1 s1
  have fr81 := offn_in (k := 20) (q := a) fr72 sa80 (by omega)
  have fa82 := (sa80 (a + 1) (by omega)).trans fa73
  have fa83 := (sa80 (a + 2) (by omega)).trans fa74
  have fa84 := (sa80 (a + 3) (by omega)).trans fa75
  have fa85 := (sa80 (a + 4) (by omega)).trans fa76
  have fa86 := (sa80 (a + 5) (by omega)).trans fa77
  have fa87 := (sa80 (a + 6) (by omega)).trans fa78
  have fa88 := (sa80 (a + 7) (by omega)).trans fa79
  have fa89 := (sa80 (a + 8) (by omega)).trans fa66
  have fa90 := (sa80 (a + 9) (by omega)).trans fa67
  have fa91 := (sa80 (a + 10) (by omega)).trans fa68
  have fa92 := (sa80 (a + 11) (by omega)).trans fa69
  have fa93 := (sa80 (a + 12) (by omega)).trans fa70
  refine v_aload_n dX1_init_26 rfl ?_
  refine nnX0 dX1_init_27 q1_106 (Nat.le_of_ble_eq_true rfl) (Nat.le_of_ble_eq_true rfl) (fun h1 f1 s1 => ?_)
  have fa94 := f1
  have sa94 := s1
  clear f1 s1
  refine v_n (n2 := a + 14) rfl ?_
  have fa95 := (sa94 (a) (by omega)).trans fa80
  have fr96 := offn_in (k := 20) (q := a) fr81 sa94 (by omega)
  have fa97 := (sa94 (a + 1) (by omega)).trans fa82
  have fa98 := (sa94 (a + 2) (by omega)).trans fa83
  have fa99 := (sa94 (a + 3) (by omega)).trans fa84
  have fa100 := (sa94 (a + 4) (by omega)).trans fa85
  have fa101 := (sa94 (a + 5) (by omega)).trans fa86
  have fa102 := (sa94 (a + 6) (by omega)).trans fa87
  have fa103 := (sa94 (a + 7) (by omega)).trans fa88
  have fa104 := (sa94 (a + 8) (by omega)).trans fa89
  have fa105 := (sa94 (a + 9) (by omega)).trans fa90
  have fa106 := (sa94 (a + 10) (by omega)).trans fa91
  have fa107 := (sa94 (a + 11) (by omega)).trans fa92
  have fa108 := (sa94 (a + 12) (by omega)).trans fa93
  refine v_dup dX1_init_30 rfl ?_
  refine v_callIN (st := [.ref (a + 13), .ref a]) dX1_init_31 (t_X0_init fa94) wX1_27 rfl rfl ⟨Nat.le_of_ble_eq_true rfl, Nat.le_of_ble_eq_true rfl⟩ (Nat.le_of_ble_eq_true rfl) ⟨Nat.le_of_ble_eq_true rfl, Nat.le_of_ble_eq_true rfl⟩ (fun r n2 h2 hq => ?_)
  obtain ⟨rfl, rfl, g109, g110, g111, g112, g113, sa114⟩ := hq
  have fa115 : h2 (a + 13) = some (.inr (1, [.int (nI 0), .ref (a + 14), .ref (a + 15), .ref (a + 16), .ref (a + 17)])) := g109
  have fa116 : h2 (a + 14) = some (ar G 10 (fun _ => 0)) := g110
  have fa117 : h2 (a + 15) = some (ar G 10 (fun _ => 0)) := g111
  have fa118 : h2 (a + 16) = some (ar G 10 (fun _ => 0)) := g112
  have fa119 : h2 (a + 17) = some (ar G 10 (fun _ => 0)) := g113
  refine v_st (st2 := [.ref (a + 13), .ref a]) rfl ?_
  refine v_n (n2 := a + 18) rfl ?_
  have fa120 := (sa114 (a) (by omega)).trans fa95
  have fr121 := offn_in (k := 20) (q := a) fr96 sa114 (by omega)
  have fa122 := (sa114 (a + 1) (by omega)).trans fa97
  have fa123 := (sa114 (a + 2) (by omega)).trans fa98
  have fa124 := (sa114 (a + 3) (by omega)).trans fa99
  have fa125 := (sa114 (a + 4) (by omega)).trans fa100
  have fa126 := (sa114 (a + 5) (by omega)).trans fa101
  have fa127 := (sa114 (a + 6) (by omega)).trans fa102
  have fa128 := (sa114 (a + 7) (by omega)).trans fa103
  have fa129 := (sa114 (a + 8) (by omega)).trans fa104
  have fa130 := (sa114 (a + 9) (by omega)).trans fa105
  have fa131 := (sa114 (a + 10) (by omega)).trans fa106
  have fa132 := (sa114 (a + 11) (by omega)).trans fa107
  have fa133 := (sa114 (a + 12) (by omega)).trans fa108
  refine pX1_28 rfl rfl dX1_init_34 fa120 (Nat.le_of_ble_eq_true rfl) ?_
  refine nw (fun h1 f1 s1 => ?_)
  have fa134 : h1 (a) = some (.inr (2, [.ref (a + 1), .ref (a + 8), .ref (a + 13), .null, .null, .int 0, .int 0, .int 0, .int 0, .int 0])) := f1
  have sa134 := s1
  clear f1 s1
  have fr135 := offn_in (k := 20) (q := a) fr121 sa134 (by omega)
  have fa136 := (sa134 (a + 1) (by omega)).trans fa122
  have fa137 := (sa134 (a + 2) (by omega)).trans fa123
  have fa138 := (sa134 (a + 3) (by omega)).trans fa124
  have fa139 := (sa134 (a + 4) (by omega)).trans fa125
  have fa140 := (sa134 (a + 5) (by omega)).trans fa126
  have fa141 := (sa134 (a + 6) (by omega)).trans fa127
  have fa142 := (sa134 (a + 7) (by omega)).trans fa128
  have fa143 := (sa134 (a + 8) (by omega)).trans fa129
  have fa144 := (sa134 (a + 9) (by omega)).trans fa130
  have fa145 := (sa134 (a + 10) (by omega)).trans fa131
  have fa146 := (sa134 (a + 11) (by omega)).trans fa132
  have fa147 := (sa134 (a + 12) (by omega)).trans fa133
  have fa148 := (sa134 (a + 13) (by omega)).trans fa115
  have fa149 := (sa134 (a + 14) (by omega)).trans fa116
  have fa150 := (sa134 (a + 15) (by omega)).trans fa117
  have fa151 := (sa134 (a + 16) (by omega)).trans fa118
  have fa152 := (sa134 (a + 17) (by omega)).trans fa119
  refine v_aload_n dX1_init_37 rfl ?_
  refine v_iconst (v := nI 4) dX1_init_38 (by decide) ?_
  refine nni (k := 4) dX1_init_39 (by decide) (Nat.le_of_ble_eq_true rfl) (Nat.le_of_ble_eq_true rfl) (fun h1 f1 s1 => ?_)
  have fa153 := f1
  have sa153 := s1
  clear f1 s1
  refine v_n (n2 := a + 19) rfl ?_
  have fa154 := (sa153 (a) (by omega)).trans fa134
  have fr155 := offn_in (k := 20) (q := a) fr135 sa153 (by omega)
  have fa156 := (sa153 (a + 1) (by omega)).trans fa136
  have fa157 := (sa153 (a + 2) (by omega)).trans fa137
  have fa158 := (sa153 (a + 3) (by omega)).trans fa138
  have fa159 := (sa153 (a + 4) (by omega)).trans fa139
  have fa160 := (sa153 (a + 5) (by omega)).trans fa140
  have fa161 := (sa153 (a + 6) (by omega)).trans fa141
  have fa162 := (sa153 (a + 7) (by omega)).trans fa142
  have fa163 := (sa153 (a + 8) (by omega)).trans fa143
  have fa164 := (sa153 (a + 9) (by omega)).trans fa144
  have fa165 := (sa153 (a + 10) (by omega)).trans fa145
  have fa166 := (sa153 (a + 11) (by omega)).trans fa146
  have fa167 := (sa153 (a + 12) (by omega)).trans fa147
  have fa168 := (sa153 (a + 13) (by omega)).trans fa148
  have fa169 := (sa153 (a + 14) (by omega)).trans fa149
  have fa170 := (sa153 (a + 15) (by omega)).trans fa150
  have fa171 := (sa153 (a + 16) (by omega)).trans fa151
  have fa172 := (sa153 (a + 17) (by omega)).trans fa152
  refine pX1_32 rfl rfl dX1_init_41 fa154 (Nat.le_of_ble_eq_true rfl) ?_
  refine nw (fun h1 f1 s1 => ?_)
  have fa173 : h1 (a) = some (.inr (2, [.ref (a + 1), .ref (a + 8), .ref (a + 13), .ref (a + 18), .null, .int 0, .int 0, .int 0, .int 0, .int 0])) := f1
  have sa173 := s1
  clear f1 s1
  have fr174 := offn_in (k := 20) (q := a) fr155 sa173 (by omega)
  have fa175 := (sa173 (a + 1) (by omega)).trans fa156
  have fa176 := (sa173 (a + 2) (by omega)).trans fa157
  have fa177 := (sa173 (a + 3) (by omega)).trans fa158
  have fa178 := (sa173 (a + 4) (by omega)).trans fa159
  have fa179 := (sa173 (a + 5) (by omega)).trans fa160
  have fa180 := (sa173 (a + 6) (by omega)).trans fa161
  have fa181 := (sa173 (a + 7) (by omega)).trans fa162
  have fa182 := (sa173 (a + 8) (by omega)).trans fa163
  have fa183 := (sa173 (a + 9) (by omega)).trans fa164
  have fa184 := (sa173 (a + 10) (by omega)).trans fa165
  have fa185 := (sa173 (a + 11) (by omega)).trans fa166
  have fa186 := (sa173 (a + 12) (by omega)).trans fa167
  have fa187 := (sa173 (a + 13) (by omega)).trans fa168
  have fa188 := (sa173 (a + 14) (by omega)).trans fa169
  have fa189 := (sa173 (a + 15) (by omega)).trans fa170
  have fa190 := (sa173 (a + 16) (by omega)).trans fa171
  have fa191 := (sa173 (a + 17) (by omega)).trans fa172
  have fa192 := (sa173 (a + 18) (by omega)).trans fa153
  refine v_aload_n dX1_init_44 rfl ?_
  refine v_iconst (v := nI 4) dX1_init_45 (by decide) ?_
  refine nni (k := 4) dX1_init_46 (by decide) (Nat.le_of_ble_eq_true rfl) (Nat.le_of_ble_eq_true rfl) (fun h1 f1 s1 => ?_)
  have fa193 := f1
  have sa193 := s1
  clear f1 s1
  refine v_n (n2 := a + 20) rfl ?_
  have fa194 := (sa193 (a) (by omega)).trans fa173
  have fr195 := offn_in (k := 20) (q := a) fr174 sa193 (by omega)
  have fa196 := (sa193 (a + 1) (by omega)).trans fa175
  have fa197 := (sa193 (a + 2) (by omega)).trans fa176
  have fa198 := (sa193 (a + 3) (by omega)).trans fa177
  have fa199 := (sa193 (a + 4) (by omega)).trans fa178
  have fa200 := (sa193 (a + 5) (by omega)).trans fa179
  have fa201 := (sa193 (a + 6) (by omega)).trans fa180
  have fa202 := (sa193 (a + 7) (by omega)).trans fa181
  have fa203 := (sa193 (a + 8) (by omega)).trans fa182
  have fa204 := (sa193 (a + 9) (by omega)).trans fa183
  have fa205 := (sa193 (a + 10) (by omega)).trans fa184
  have fa206 := (sa193 (a + 11) (by omega)).trans fa185
  have fa207 := (sa193 (a + 12) (by omega)).trans fa186
  have fa208 := (sa193 (a + 13) (by omega)).trans fa187
  have fa209 := (sa193 (a + 14) (by omega)).trans fa188
  have fa210 := (sa193 (a + 15) (by omega)).trans fa189
  have fa211 := (sa193 (a + 16) (by omega)).trans fa190
  have fa212 := (sa193 (a + 17) (by omega)).trans fa191
  have fa213 := (sa193 (a + 18) (by omega)).trans fa192
  refine pX1_36 rfl rfl dX1_init_48 fa194 (Nat.le_of_ble_eq_true rfl) ?_
  refine nw (fun h1 f1 s1 => ?_)
  have fa214 : h1 (a) = some (.inr (2, [.ref (a + 1), .ref (a + 8), .ref (a + 13), .ref (a + 18), .ref (a + 19), .int 0, .int 0, .int 0, .int 0, .int 0])) := f1
  have sa214 := s1
  clear f1 s1
  have fr215 := offn_in (k := 20) (q := a) fr195 sa214 (by omega)
  have fa216 := (sa214 (a + 1) (by omega)).trans fa196
  have fa217 := (sa214 (a + 2) (by omega)).trans fa197
  have fa218 := (sa214 (a + 3) (by omega)).trans fa198
  have fa219 := (sa214 (a + 4) (by omega)).trans fa199
  have fa220 := (sa214 (a + 5) (by omega)).trans fa200
  have fa221 := (sa214 (a + 6) (by omega)).trans fa201
  have fa222 := (sa214 (a + 7) (by omega)).trans fa202
  have fa223 := (sa214 (a + 8) (by omega)).trans fa203
  have fa224 := (sa214 (a + 9) (by omega)).trans fa204
  have fa225 := (sa214 (a + 10) (by omega)).trans fa205
  have fa226 := (sa214 (a + 11) (by omega)).trans fa206
  have fa227 := (sa214 (a + 12) (by omega)).trans fa207
  have fa228 := (sa214 (a + 13) (by omega)).trans fa208
  have fa229 := (sa214 (a + 14) (by omega)).trans fa209
  have fa230 := (sa214 (a + 15) (by omega)).trans fa210
  have fa231 := (sa214 (a + 16) (by omega)).trans fa211
  have fa232 := (sa214 (a + 17) (by omega)).trans fa212
  have fa233 := (sa214 (a + 18) (by omega)).trans fa213
  have fa234 := (sa214 (a + 19) (by omega)).trans fa193
  refine v_aload_n dX1_init_51 rfl ?_
  refine v_iconst (v := nI 0) dX1_init_52 (by decide) ?_
  refine pX1_39 rfl dX1_init_53 fa214 (Nat.le_of_ble_eq_true rfl) ?_
  refine nw (fun h1 f1 s1 => ?_)
  have fa235 : h1 (a) = some (.inr (2, [.ref (a + 1), .ref (a + 8), .ref (a + 13), .ref (a + 18), .ref (a + 19), .int (nI 0), .int 0, .int 0, .int 0, .int 0])) := f1
  have sa235 := s1
  clear f1 s1
  have fr236 := offn_in (k := 20) (q := a) fr215 sa235 (by omega)
  have fa237 := (sa235 (a + 1) (by omega)).trans fa216
  have fa238 := (sa235 (a + 2) (by omega)).trans fa217
  have fa239 := (sa235 (a + 3) (by omega)).trans fa218
  have fa240 := (sa235 (a + 4) (by omega)).trans fa219
  have fa241 := (sa235 (a + 5) (by omega)).trans fa220
  have fa242 := (sa235 (a + 6) (by omega)).trans fa221
  have fa243 := (sa235 (a + 7) (by omega)).trans fa222
  have fa244 := (sa235 (a + 8) (by omega)).trans fa223
  have fa245 := (sa235 (a + 9) (by omega)).trans fa224
  have fa246 := (sa235 (a + 10) (by omega)).trans fa225
  have fa247 := (sa235 (a + 11) (by omega)).trans fa226
  have fa248 := (sa235 (a + 12) (by omega)).trans fa227
  have fa249 := (sa235 (a + 13) (by omega)).trans fa228
  have fa250 := (sa235 (a + 14) (by omega)).trans fa229
  have fa251 := (sa235 (a + 15) (by omega)).trans fa230
  have fa252 := (sa235 (a + 16) (by omega)).trans fa231
  have fa253 := (sa235 (a + 17) (by omega)).trans fa232
  have fa254 := (sa235 (a + 18) (by omega)).trans fa233
  have fa255 := (sa235 (a + 19) (by omega)).trans fa234
  refine v_aload_n dX1_init_56 rfl ?_
  refine v_iconst (v := nI 0) dX1_init_57 (by decide) ?_
  refine pX1_43 rfl dX1_init_58 fa235 (Nat.le_of_ble_eq_true rfl) ?_
  refine nw (fun h1 f1 s1 => ?_)
  have fa256 : h1 (a) = some (.inr (2, [.ref (a + 1), .ref (a + 8), .ref (a + 13), .ref (a + 18), .ref (a + 19), .int (nI 0), .int (nI 0), .int 0, .int 0, .int 0])) := f1
  have sa256 := s1
  clear f1 s1
  have fr257 := offn_in (k := 20) (q := a) fr236 sa256 (by omega)
  have fa258 := (sa256 (a + 1) (by omega)).trans fa237
  have fa259 := (sa256 (a + 2) (by omega)).trans fa238
  have fa260 := (sa256 (a + 3) (by omega)).trans fa239
  have fa261 := (sa256 (a + 4) (by omega)).trans fa240
  have fa262 := (sa256 (a + 5) (by omega)).trans fa241
  have fa263 := (sa256 (a + 6) (by omega)).trans fa242
  have fa264 := (sa256 (a + 7) (by omega)).trans fa243
  have fa265 := (sa256 (a + 8) (by omega)).trans fa244
  have fa266 := (sa256 (a + 9) (by omega)).trans fa245
  have fa267 := (sa256 (a + 10) (by omega)).trans fa246
  have fa268 := (sa256 (a + 11) (by omega)).trans fa247
  have fa269 := (sa256 (a + 12) (by omega)).trans fa248
  have fa270 := (sa256 (a + 13) (by omega)).trans fa249
  have fa271 := (sa256 (a + 14) (by omega)).trans fa250
  have fa272 := (sa256 (a + 15) (by omega)).trans fa251
  have fa273 := (sa256 (a + 16) (by omega)).trans fa252
  have fa274 := (sa256 (a + 17) (by omega)).trans fa253
  have fa275 := (sa256 (a + 18) (by omega)).trans fa254
  have fa276 := (sa256 (a + 19) (by omega)).trans fa255
  refine v_aload_n dX1_init_61 rfl ?_
  refine v_iconst (v := nI 0) dX1_init_62 (by decide) ?_
  refine pX1_46 rfl dX1_init_63 fa256 (Nat.le_of_ble_eq_true rfl) ?_
  refine nw (fun h1 f1 s1 => ?_)
  have fa277 : h1 (a) = some (.inr (2, [.ref (a + 1), .ref (a + 8), .ref (a + 13), .ref (a + 18), .ref (a + 19), .int (nI 0), .int (nI 0), .int (nI 0), .int 0, .int 0])) := f1
  have sa277 := s1
  clear f1 s1
  have fr278 := offn_in (k := 20) (q := a) fr257 sa277 (by omega)
  have fa279 := (sa277 (a + 1) (by omega)).trans fa258
  have fa280 := (sa277 (a + 2) (by omega)).trans fa259
  have fa281 := (sa277 (a + 3) (by omega)).trans fa260
  have fa282 := (sa277 (a + 4) (by omega)).trans fa261
  have fa283 := (sa277 (a + 5) (by omega)).trans fa262
  have fa284 := (sa277 (a + 6) (by omega)).trans fa263
  have fa285 := (sa277 (a + 7) (by omega)).trans fa264
  have fa286 := (sa277 (a + 8) (by omega)).trans fa265
  have fa287 := (sa277 (a + 9) (by omega)).trans fa266
  have fa288 := (sa277 (a + 10) (by omega)).trans fa267
  have fa289 := (sa277 (a + 11) (by omega)).trans fa268
  have fa290 := (sa277 (a + 12) (by omega)).trans fa269
  have fa291 := (sa277 (a + 13) (by omega)).trans fa270
  have fa292 := (sa277 (a + 14) (by omega)).trans fa271
  have fa293 := (sa277 (a + 15) (by omega)).trans fa272
  have fa294 := (sa277 (a + 16) (by omega)).trans fa273
  have fa295 := (sa277 (a + 17) (by omega)).trans fa274
  have fa296 := (sa277 (a + 18) (by omega)).trans fa275
  have fa297 := (sa277 (a + 19) (by omega)).trans fa276
  refine v_aload_n dX1_init_66 rfl ?_
  refine v_iconst (v := nI 0) dX1_init_67 (by decide) ?_
  refine pX1_49 rfl dX1_init_68 fa277 (Nat.le_of_ble_eq_true rfl) ?_
  refine nw (fun h1 f1 s1 => ?_)
  have fa298 : h1 (a) = some (.inr (2, [.ref (a + 1), .ref (a + 8), .ref (a + 13), .ref (a + 18), .ref (a + 19), .int (nI 0), .int (nI 0), .int (nI 0), .int (nI 0), .int 0])) := f1
  have sa298 := s1
  clear f1 s1
  have fr299 := offn_in (k := 20) (q := a) fr278 sa298 (by omega)
  have fa300 := (sa298 (a + 1) (by omega)).trans fa279
  have fa301 := (sa298 (a + 2) (by omega)).trans fa280
  have fa302 := (sa298 (a + 3) (by omega)).trans fa281
  have fa303 := (sa298 (a + 4) (by omega)).trans fa282
  have fa304 := (sa298 (a + 5) (by omega)).trans fa283
  have fa305 := (sa298 (a + 6) (by omega)).trans fa284
  have fa306 := (sa298 (a + 7) (by omega)).trans fa285
  have fa307 := (sa298 (a + 8) (by omega)).trans fa286
  have fa308 := (sa298 (a + 9) (by omega)).trans fa287
  have fa309 := (sa298 (a + 10) (by omega)).trans fa288
  have fa310 := (sa298 (a + 11) (by omega)).trans fa289
  have fa311 := (sa298 (a + 12) (by omega)).trans fa290
  have fa312 := (sa298 (a + 13) (by omega)).trans fa291
  have fa313 := (sa298 (a + 14) (by omega)).trans fa292
  have fa314 := (sa298 (a + 15) (by omega)).trans fa293
  have fa315 := (sa298 (a + 16) (by omega)).trans fa294
  have fa316 := (sa298 (a + 17) (by omega)).trans fa295
  have fa317 := (sa298 (a + 18) (by omega)).trans fa296
  have fa318 := (sa298 (a + 19) (by omega)).trans fa297
  refine v_aload_n dX1_init_71 rfl ?_
  refine v_iconst (v := nI 0) dX1_init_72 (by decide) ?_
  refine pX1_52 rfl dX1_init_73 fa298 (Nat.le_of_ble_eq_true rfl) ?_
  refine nw (fun h1 f1 s1 => ?_)
  have fa319 : h1 (a) = some (.inr (2, [.ref (a + 1), .ref (a + 8), .ref (a + 13), .ref (a + 18), .ref (a + 19), .int (nI 0), .int (nI 0), .int (nI 0), .int (nI 0), .int (nI 0)])) := f1
  have sa319 := s1
  clear f1 s1
  have fr320 := offn_in (k := 20) (q := a) fr299 sa319 (by omega)
  have fa321 := (sa319 (a + 1) (by omega)).trans fa300
  have fa322 := (sa319 (a + 2) (by omega)).trans fa301
  have fa323 := (sa319 (a + 3) (by omega)).trans fa302
  have fa324 := (sa319 (a + 4) (by omega)).trans fa303
  have fa325 := (sa319 (a + 5) (by omega)).trans fa304
  have fa326 := (sa319 (a + 6) (by omega)).trans fa305
  have fa327 := (sa319 (a + 7) (by omega)).trans fa306
  have fa328 := (sa319 (a + 8) (by omega)).trans fa307
  have fa329 := (sa319 (a + 9) (by omega)).trans fa308
  have fa330 := (sa319 (a + 10) (by omega)).trans fa309
  have fa331 := (sa319 (a + 11) (by omega)).trans fa310
  have fa332 := (sa319 (a + 12) (by omega)).trans fa311
  have fa333 := (sa319 (a + 13) (by omega)).trans fa312
  have fa334 := (sa319 (a + 14) (by omega)).trans fa313
  have fa335 := (sa319 (a + 15) (by omega)).trans fa314
  have fa336 := (sa319 (a + 16) (by omega)).trans fa315
  have fa337 := (sa319 (a + 17) (by omega)).trans fa316
  have fa338 := (sa319 (a + 18) (by omega)).trans fa317
  have fa339 := (sa319 (a + 19) (by omega)).trans fa318
  refine v_vret dX1_init_76 rfl ?_ (Nat.le_of_ble_eq_true rfl) (Nat.le_of_ble_eq_true rfl)
  exact ⟨rfl, rfl, ct_mk ⟨fa319, fa321, fa322, fa323, fa324, fa325, fa326, fa327, fa328, fa329, fa330, fa331, fa332, fa333, fa334, fa335, fa336, fa337, fa338, fa339⟩, fr320⟩
def hsl (G : vG) (h : AH) (q : Nat) : Prop := ∃ f : Nat → Option Nat, h (q + 1) = some (.inl (gC G 3, 8, .inr (.inr (.inr (.inr f))))) ∧ ∀ i : Nat, i < 8 → f i = some (q + 2 + 20 * i)
/-- the history at q: how many, which slot is next, the slots' courts -/
def hs (G : vG) (h : AH) (q c x : Nat) (S : Nat → Ct) : Prop := h q = some (.inr (4, [.int (nI c), .int (nI x), .ref (q + 1)])) ∧ hsl G h q ∧ ∀ i : Nat, i < 8 → ct G h (q + 2 + 20 * i) (S i)
set_option maxRecDepth 20000 in
set_option maxHeartbeats 4000000 in
theorem t_X3_init {l : Launch} {G : vG} {h : AH} {a : Nat} (ha : h a = some (.inr (4, [.int 0, .int 0, .null]))) : Mt l G mX3_init [.ref a] (a + 1) h 161 1568 (fun r n2 h2 => r = none ∧ n2 = a + 162 ∧ hs G h2 a 0 0 (fun _ => Z0) ∧ offn 162 a h h2) := by
  refine Mt.of (by decide) (Nat.le_of_ble_eq_true rfl) rfl ?_
  refine v_ls (ls2 := [some (.ref a), none]) rfl ?_
  refine v_aload_n dX3_init_0 rfl ?_
  refine v_objinit dX3_init_1 q1_184 q1_26 q1_27 (Nat.le_of_ble_eq_true rfl) (Nat.le_of_ble_eq_true rfl) ?_
  refine v_aload_n dX3_init_4 rfl ?_
  refine v_iconst (v := nI 0) dX3_init_5 (by decide) ?_
  refine pX3_9 rfl dX3_init_6 ha (Nat.le_of_ble_eq_true rfl) ?_
  refine nw (fun h1 f1 s1 => ?_)
  have fa21 : h1 (a) = some (.inr (4, [.int (nI 0), .int 0, .null])) := f1
  have sa21 := s1
  clear f1 s1
  have fr22 := offn_in (k := 162) (q := a) offn_rf sa21 (by omega)
  refine v_aload_n dX3_init_9 rfl ?_
  refine v_iconst (v := nI 0) dX3_init_10 (by decide) ?_
  refine pX3_15 rfl dX3_init_11 fa21 (Nat.le_of_ble_eq_true rfl) ?_
  refine nw (fun h1 f1 s1 => ?_)
  have fa23 : h1 (a) = some (.inr (4, [.int (nI 0), .int (nI 0), .null])) := f1
  have sa23 := s1
  clear f1 s1
  have fr24 := offn_in (k := 162) (q := a) fr22 sa23 (by omega)
  refine v_aload_n dX3_init_14 rfl ?_
  refine v_bipush (v := nI 8) dX3_init_15 (by decide) ?_
  refine nnq (k := 8) dX3_init_17 q1_185 (by decide) (Nat.le_of_ble_eq_true rfl) (Nat.le_of_ble_eq_true rfl) (fun h1 f1 s1 => ?_)
  have fa25 := f1
  have sa25 := s1
  clear f1 s1
  refine v_n (n2 := a + 2) rfl ?_
  have fa26 := (sa25 (a) (by omega)).trans fa23
  have fr27 := offn_in (k := 162) (q := a) fr24 sa25 (by omega)
  refine pX3_20 rfl rfl dX3_init_20 fa26 (Nat.le_of_ble_eq_true rfl) ?_
  refine nw (fun h1 f1 s1 => ?_)
  have fa28 : h1 (a) = some (.inr (4, [.int (nI 0), .int (nI 0), .ref (a + 1)])) := f1
  have sa28 := s1
  clear f1 s1
  have fr29 := offn_in (k := 162) (q := a) fr27 sa28 (by omega)
  have fa30 := (sa28 (a + 1) (by omega)).trans fa25
  refine v_iconst (v := nI 0) dX3_init_23 (by decide) ?_
  refine v_istore_n dX3_init_24 rfl (by decide) ?_
  refine v_ls (ls2 := [some (.ref a), some (.int (nI 0))]) rfl ?_
  refine v_iload_n dX3_init_25 rfl ?_
  refine v_bipush (v := nI 8) dX3_init_26 (by decide) ?_
  refine n_icmp_ge (tgt := 50) (x := 0) (y := 8) dX3_init_28 (by decide) (by decide) (by decide) (fun c => absurd c (by decide)) (fun _ => ?_)
  refine v_aload_n dX3_init_31 rfl ?_
  refine fX3_20 (v := .ref (a + 1)) rfl dX3_init_32 fa28 rfl ?_
  refine v_iload_n dX3_init_35 rfl ?_
  refine nnX1 dX3_init_36 q1_185 (Nat.le_of_ble_eq_true rfl) (Nat.le_of_ble_eq_true rfl) (fun h1 f1 s1 => ?_)
  have fa31 := f1
  have sa31 := s1
  clear f1 s1
  refine v_n (n2 := a + 3) rfl ?_
  have fa32 := (sa31 (a) (by omega)).trans fa28
  have fr33 := offn_in (k := 162) (q := a) fr29 sa31 (by omega)
  have fa34 := (sa31 (a + 1) (by omega)).trans fa30
  refine v_dup dX3_init_39 rfl ?_
  refine v_callIN (st := [.ref (a + 2), .int (nI 0), .ref (a + 1)]) dX3_init_40 (t_X1_init fa31) wX3_24 rfl rfl ⟨Nat.le_of_ble_eq_true rfl, Nat.le_of_ble_eq_true rfl⟩ (Nat.le_of_ble_eq_true rfl) ⟨Nat.le_of_ble_eq_true rfl, Nat.le_of_ble_eq_true rfl⟩ (fun r n2 h2 hq => ?_)
  obtain ⟨rfl, rfl, hc36, sa35⟩ := hq
  refine v_st (st2 := [.ref (a + 2), .int (nI 0), .ref (a + 1)]) rfl ?_
  refine v_n (n2 := a + 22) rfl ?_
  have fa37 := (sa35 (a) (by omega)).trans fa32
  have fr38 := offn_in (k := 162) (q := a) fr33 sa35 (by omega)
  have fa39 := (sa35 (a + 1) (by omega)).trans fa34
  refine n_aast (j := 0) dX3_init_43 fa39 (ck0 hc36) rfl (by omega) (by decide) ?_
  refine nw (fun h1 f1 s1 => ?_)
  have fa40 : h1 (a + 1) = some (.inl (gC G 3, 8, .inr (.inr (.inr (.inr (va_up (fun _ => none) 0 (some (a + 2)))))))) := f1
  have sa40 := s1
  clear f1 s1
  have fa41 := (sa40 (a) (by omega)).trans fa37
  have fr42 := offn_in (k := 162) (q := a) fr38 sa40 (by omega)
  have hc43 := ct_offn hc36 sa40 (by omega)
  refine n_iinc (k := 1) (x := 0) dX3_init_44 (by decide) rfl rfl (by decide) ?_
  refine v_ls (ls2 := [some (.ref a), some (.int (nI 1))]) rfl ?_
  refine v_goto (tgt := 25) dX3_init_47 (by decide) ?_
  refine v_iload_n dX3_init_25 rfl ?_
  refine v_bipush (v := nI 8) dX3_init_26 (by decide) ?_
  refine n_icmp_ge (tgt := 50) (x := 1) (y := 8) dX3_init_28 (by decide) (by decide) (by decide) (fun c => absurd c (by decide)) (fun _ => ?_)
  refine v_aload_n dX3_init_31 rfl ?_
  refine fX3_20 (v := .ref (a + 1)) rfl dX3_init_32 fa41 rfl ?_
  refine v_iload_n dX3_init_35 rfl ?_
  refine nnX1 dX3_init_36 q1_185 (Nat.le_of_ble_eq_true rfl) (Nat.le_of_ble_eq_true rfl) (fun h1 f1 s1 => ?_)
  have fa44 := f1
  have sa44 := s1
  clear f1 s1
  refine v_n (n2 := a + 23) rfl ?_
  have fa45 := (sa44 (a) (by omega)).trans fa41
  have fr46 := offn_in (k := 162) (q := a) fr42 sa44 (by omega)
  have fa47 := (sa44 (a + 1) (by omega)).trans fa40
  have hc48 := ct_offn hc43 sa44 (by omega)
  refine v_dup dX3_init_39 rfl ?_
  refine v_callIN (st := [.ref (a + 22), .int (nI 1), .ref (a + 1)]) dX3_init_40 (t_X1_init fa44) wX3_24 rfl rfl ⟨Nat.le_of_ble_eq_true rfl, Nat.le_of_ble_eq_true rfl⟩ (Nat.le_of_ble_eq_true rfl) ⟨Nat.le_of_ble_eq_true rfl, Nat.le_of_ble_eq_true rfl⟩ (fun r n2 h2 hq => ?_)
  obtain ⟨rfl, rfl, hc50, sa49⟩ := hq
  refine v_st (st2 := [.ref (a + 22), .int (nI 1), .ref (a + 1)]) rfl ?_
  refine v_n (n2 := a + 42) rfl ?_
  have fa51 := (sa49 (a) (by omega)).trans fa45
  have fr52 := offn_in (k := 162) (q := a) fr46 sa49 (by omega)
  have fa53 := (sa49 (a + 1) (by omega)).trans fa47
  have hc54 := ct_offn hc48 sa49 (by omega)
  refine n_aast (j := 1) dX3_init_43 fa53 (ck0 hc50) rfl (by omega) (by decide) ?_
  refine nw (fun h1 f1 s1 => ?_)
  have fa55 : h1 (a + 1) = some (.inl (gC G 3, 8, .inr (.inr (.inr (.inr (va_up (va_up (fun _ => none) 0 (some (a + 2))) 1 (some (a + 22)))))))) := f1
  have sa55 := s1
  clear f1 s1
  have fa56 := (sa55 (a) (by omega)).trans fa51
  have fr57 := offn_in (k := 162) (q := a) fr52 sa55 (by omega)
  have hc58 := ct_offn hc54 sa55 (by omega)
  have hc59 := ct_offn hc50 sa55 (by omega)
  refine n_iinc (k := 1) (x := 1) dX3_init_44 (by decide) rfl rfl (by decide) ?_
  refine v_ls (ls2 := [some (.ref a), some (.int (nI 2))]) rfl ?_
  refine v_goto (tgt := 25) dX3_init_47 (by decide) ?_
  refine v_iload_n dX3_init_25 rfl ?_
  refine v_bipush (v := nI 8) dX3_init_26 (by decide) ?_
  refine n_icmp_ge (tgt := 50) (x := 2) (y := 8) dX3_init_28 (by decide) (by decide) (by decide) (fun c => absurd c (by decide)) (fun _ => ?_)
  refine v_aload_n dX3_init_31 rfl ?_
  refine fX3_20 (v := .ref (a + 1)) rfl dX3_init_32 fa56 rfl ?_
  refine v_iload_n dX3_init_35 rfl ?_
  refine nnX1 dX3_init_36 q1_185 (Nat.le_of_ble_eq_true rfl) (Nat.le_of_ble_eq_true rfl) (fun h1 f1 s1 => ?_)
  have fa60 := f1
  have sa60 := s1
  clear f1 s1
  refine v_n (n2 := a + 43) rfl ?_
  have fa61 := (sa60 (a) (by omega)).trans fa56
  have fr62 := offn_in (k := 162) (q := a) fr57 sa60 (by omega)
  have fa63 := (sa60 (a + 1) (by omega)).trans fa55
  have hc64 := ct_offn hc58 sa60 (by omega)
  have hc65 := ct_offn hc59 sa60 (by omega)
  refine v_dup dX3_init_39 rfl ?_
  refine v_callIN (st := [.ref (a + 42), .int (nI 2), .ref (a + 1)]) dX3_init_40 (t_X1_init fa60) wX3_24 rfl rfl ⟨Nat.le_of_ble_eq_true rfl, Nat.le_of_ble_eq_true rfl⟩ (Nat.le_of_ble_eq_true rfl) ⟨Nat.le_of_ble_eq_true rfl, Nat.le_of_ble_eq_true rfl⟩ (fun r n2 h2 hq => ?_)
  obtain ⟨rfl, rfl, hc67, sa66⟩ := hq
  refine v_st (st2 := [.ref (a + 42), .int (nI 2), .ref (a + 1)]) rfl ?_
  refine v_n (n2 := a + 62) rfl ?_
  have fa68 := (sa66 (a) (by omega)).trans fa61
  have fr69 := offn_in (k := 162) (q := a) fr62 sa66 (by omega)
  have fa70 := (sa66 (a + 1) (by omega)).trans fa63
  have hc71 := ct_offn hc64 sa66 (by omega)
  have hc72 := ct_offn hc65 sa66 (by omega)
  refine n_aast (j := 2) dX3_init_43 fa70 (ck0 hc67) rfl (by omega) (by decide) ?_
  refine nw (fun h1 f1 s1 => ?_)
  have fa73 : h1 (a + 1) = some (.inl (gC G 3, 8, .inr (.inr (.inr (.inr (va_up (va_up (va_up (fun _ => none) 0 (some (a + 2))) 1 (some (a + 22))) 2 (some (a + 42)))))))) := f1
  have sa73 := s1
  clear f1 s1
  have fa74 := (sa73 (a) (by omega)).trans fa68
  have fr75 := offn_in (k := 162) (q := a) fr69 sa73 (by omega)
  have hc76 := ct_offn hc71 sa73 (by omega)
  have hc77 := ct_offn hc72 sa73 (by omega)
  have hc78 := ct_offn hc67 sa73 (by omega)
  refine n_iinc (k := 1) (x := 2) dX3_init_44 (by decide) rfl rfl (by decide) ?_
  refine v_ls (ls2 := [some (.ref a), some (.int (nI 3))]) rfl ?_
  refine v_goto (tgt := 25) dX3_init_47 (by decide) ?_
  refine v_iload_n dX3_init_25 rfl ?_
  refine v_bipush (v := nI 8) dX3_init_26 (by decide) ?_
  refine n_icmp_ge (tgt := 50) (x := 3) (y := 8) dX3_init_28 (by decide) (by decide) (by decide) (fun c => absurd c (by decide)) (fun _ => ?_)
  refine v_aload_n dX3_init_31 rfl ?_
  refine fX3_20 (v := .ref (a + 1)) rfl dX3_init_32 fa74 rfl ?_
  refine v_iload_n dX3_init_35 rfl ?_
  refine nnX1 dX3_init_36 q1_185 (Nat.le_of_ble_eq_true rfl) (Nat.le_of_ble_eq_true rfl) (fun h1 f1 s1 => ?_)
  have fa79 := f1
  have sa79 := s1
  clear f1 s1
  refine v_n (n2 := a + 63) rfl ?_
  have fa80 := (sa79 (a) (by omega)).trans fa74
  have fr81 := offn_in (k := 162) (q := a) fr75 sa79 (by omega)
  have fa82 := (sa79 (a + 1) (by omega)).trans fa73
  have hc83 := ct_offn hc76 sa79 (by omega)
  have hc84 := ct_offn hc77 sa79 (by omega)
  have hc85 := ct_offn hc78 sa79 (by omega)
  refine v_dup dX3_init_39 rfl ?_
  refine v_callIN (st := [.ref (a + 62), .int (nI 3), .ref (a + 1)]) dX3_init_40 (t_X1_init fa79) wX3_24 rfl rfl ⟨Nat.le_of_ble_eq_true rfl, Nat.le_of_ble_eq_true rfl⟩ (Nat.le_of_ble_eq_true rfl) ⟨Nat.le_of_ble_eq_true rfl, Nat.le_of_ble_eq_true rfl⟩ (fun r n2 h2 hq => ?_)
  obtain ⟨rfl, rfl, hc87, sa86⟩ := hq
  refine v_st (st2 := [.ref (a + 62), .int (nI 3), .ref (a + 1)]) rfl ?_
  refine v_n (n2 := a + 82) rfl ?_
  have fa88 := (sa86 (a) (by omega)).trans fa80
  have fr89 := offn_in (k := 162) (q := a) fr81 sa86 (by omega)
  have fa90 := (sa86 (a + 1) (by omega)).trans fa82
  have hc91 := ct_offn hc83 sa86 (by omega)
  have hc92 := ct_offn hc84 sa86 (by omega)
  have hc93 := ct_offn hc85 sa86 (by omega)
  refine n_aast (j := 3) dX3_init_43 fa90 (ck0 hc87) rfl (by omega) (by decide) ?_
  refine nw (fun h1 f1 s1 => ?_)
  have fa94 : h1 (a + 1) = some (.inl (gC G 3, 8, .inr (.inr (.inr (.inr (va_up (va_up (va_up (va_up (fun _ => none) 0 (some (a + 2))) 1 (some (a + 22))) 2 (some (a + 42))) 3 (some (a + 62)))))))) := f1
  have sa94 := s1
  clear f1 s1
  have fa95 := (sa94 (a) (by omega)).trans fa88
  have fr96 := offn_in (k := 162) (q := a) fr89 sa94 (by omega)
  have hc97 := ct_offn hc91 sa94 (by omega)
  have hc98 := ct_offn hc92 sa94 (by omega)
  have hc99 := ct_offn hc93 sa94 (by omega)
  have hc100 := ct_offn hc87 sa94 (by omega)
  refine n_iinc (k := 1) (x := 3) dX3_init_44 (by decide) rfl rfl (by decide) ?_
  refine v_ls (ls2 := [some (.ref a), some (.int (nI 4))]) rfl ?_
  refine v_goto (tgt := 25) dX3_init_47 (by decide) ?_
  refine v_iload_n dX3_init_25 rfl ?_
  refine v_bipush (v := nI 8) dX3_init_26 (by decide) ?_
  refine n_icmp_ge (tgt := 50) (x := 4) (y := 8) dX3_init_28 (by decide) (by decide) (by decide) (fun c => absurd c (by decide)) (fun _ => ?_)
  refine v_aload_n dX3_init_31 rfl ?_
  refine fX3_20 (v := .ref (a + 1)) rfl dX3_init_32 fa95 rfl ?_
  refine v_iload_n dX3_init_35 rfl ?_
  refine nnX1 dX3_init_36 q1_185 (Nat.le_of_ble_eq_true rfl) (Nat.le_of_ble_eq_true rfl) (fun h1 f1 s1 => ?_)
  have fa101 := f1
  have sa101 := s1
  clear f1 s1
  refine v_n (n2 := a + 83) rfl ?_
  have fa102 := (sa101 (a) (by omega)).trans fa95
  have fr103 := offn_in (k := 162) (q := a) fr96 sa101 (by omega)
  have fa104 := (sa101 (a + 1) (by omega)).trans fa94
  have hc105 := ct_offn hc97 sa101 (by omega)
  have hc106 := ct_offn hc98 sa101 (by omega)
  have hc107 := ct_offn hc99 sa101 (by omega)
  have hc108 := ct_offn hc100 sa101 (by omega)
  refine v_dup dX3_init_39 rfl ?_
  refine v_callIN (st := [.ref (a + 82), .int (nI 4), .ref (a + 1)]) dX3_init_40 (t_X1_init fa101) wX3_24 rfl rfl ⟨Nat.le_of_ble_eq_true rfl, Nat.le_of_ble_eq_true rfl⟩ (Nat.le_of_ble_eq_true rfl) ⟨Nat.le_of_ble_eq_true rfl, Nat.le_of_ble_eq_true rfl⟩ (fun r n2 h2 hq => ?_)
  obtain ⟨rfl, rfl, hc110, sa109⟩ := hq
  refine v_st (st2 := [.ref (a + 82), .int (nI 4), .ref (a + 1)]) rfl ?_
  refine v_n (n2 := a + 102) rfl ?_
  have fa111 := (sa109 (a) (by omega)).trans fa102
  have fr112 := offn_in (k := 162) (q := a) fr103 sa109 (by omega)
  have fa113 := (sa109 (a + 1) (by omega)).trans fa104
  have hc114 := ct_offn hc105 sa109 (by omega)
  have hc115 := ct_offn hc106 sa109 (by omega)
  have hc116 := ct_offn hc107 sa109 (by omega)
  have hc117 := ct_offn hc108 sa109 (by omega)
  refine n_aast (j := 4) dX3_init_43 fa113 (ck0 hc110) rfl (by omega) (by decide) ?_
  refine nw (fun h1 f1 s1 => ?_)
  have fa118 : h1 (a + 1) = some (.inl (gC G 3, 8, .inr (.inr (.inr (.inr (va_up (va_up (va_up (va_up (va_up (fun _ => none) 0 (some (a + 2))) 1 (some (a + 22))) 2 (some (a + 42))) 3 (some (a + 62))) 4 (some (a + 82)))))))) := f1
  have sa118 := s1
  clear f1 s1
  have fa119 := (sa118 (a) (by omega)).trans fa111
  have fr120 := offn_in (k := 162) (q := a) fr112 sa118 (by omega)
  have hc121 := ct_offn hc114 sa118 (by omega)
  have hc122 := ct_offn hc115 sa118 (by omega)
  have hc123 := ct_offn hc116 sa118 (by omega)
  have hc124 := ct_offn hc117 sa118 (by omega)
  have hc125 := ct_offn hc110 sa118 (by omega)
  refine n_iinc (k := 1) (x := 4) dX3_init_44 (by decide) rfl rfl (by decide) ?_
  refine v_ls (ls2 := [some (.ref a), some (.int (nI 5))]) rfl ?_
  refine v_goto (tgt := 25) dX3_init_47 (by decide) ?_
  refine v_iload_n dX3_init_25 rfl ?_
  refine v_bipush (v := nI 8) dX3_init_26 (by decide) ?_
  refine n_icmp_ge (tgt := 50) (x := 5) (y := 8) dX3_init_28 (by decide) (by decide) (by decide) (fun c => absurd c (by decide)) (fun _ => ?_)
  refine v_aload_n dX3_init_31 rfl ?_
  refine fX3_20 (v := .ref (a + 1)) rfl dX3_init_32 fa119 rfl ?_
  refine v_iload_n dX3_init_35 rfl ?_
  refine nnX1 dX3_init_36 q1_185 (Nat.le_of_ble_eq_true rfl) (Nat.le_of_ble_eq_true rfl) (fun h1 f1 s1 => ?_)
  have fa126 := f1
  have sa126 := s1
  clear f1 s1
  refine v_n (n2 := a + 103) rfl ?_
  have fa127 := (sa126 (a) (by omega)).trans fa119
  have fr128 := offn_in (k := 162) (q := a) fr120 sa126 (by omega)
  have fa129 := (sa126 (a + 1) (by omega)).trans fa118
  have hc130 := ct_offn hc121 sa126 (by omega)
  have hc131 := ct_offn hc122 sa126 (by omega)
  have hc132 := ct_offn hc123 sa126 (by omega)
  have hc133 := ct_offn hc124 sa126 (by omega)
  have hc134 := ct_offn hc125 sa126 (by omega)
  refine v_dup dX3_init_39 rfl ?_
  refine v_callIN (st := [.ref (a + 102), .int (nI 5), .ref (a + 1)]) dX3_init_40 (t_X1_init fa126) wX3_24 rfl rfl ⟨Nat.le_of_ble_eq_true rfl, Nat.le_of_ble_eq_true rfl⟩ (Nat.le_of_ble_eq_true rfl) ⟨Nat.le_of_ble_eq_true rfl, Nat.le_of_ble_eq_true rfl⟩ (fun r n2 h2 hq => ?_)
  obtain ⟨rfl, rfl, hc136, sa135⟩ := hq
  refine v_st (st2 := [.ref (a + 102), .int (nI 5), .ref (a + 1)]) rfl ?_
  refine v_n (n2 := a + 122) rfl ?_
  have fa137 := (sa135 (a) (by omega)).trans fa127
  have fr138 := offn_in (k := 162) (q := a) fr128 sa135 (by omega)
  have fa139 := (sa135 (a + 1) (by omega)).trans fa129
  have hc140 := ct_offn hc130 sa135 (by omega)
  have hc141 := ct_offn hc131 sa135 (by omega)
  have hc142 := ct_offn hc132 sa135 (by omega)
  have hc143 := ct_offn hc133 sa135 (by omega)
  have hc144 := ct_offn hc134 sa135 (by omega)
  refine n_aast (j := 5) dX3_init_43 fa139 (ck0 hc136) rfl (by omega) (by decide) ?_
  refine nw (fun h1 f1 s1 => ?_)
  have fa145 : h1 (a + 1) = some (.inl (gC G 3, 8, .inr (.inr (.inr (.inr (va_up (va_up (va_up (va_up (va_up (va_up (fun _ => none) 0 (some (a + 2))) 1 (some (a + 22))) 2 (some (a + 42))) 3 (some (a + 62))) 4 (some (a + 82))) 5 (some (a + 102)))))))) := f1
  have sa145 := s1
  clear f1 s1
  have fa146 := (sa145 (a) (by omega)).trans fa137
  have fr147 := offn_in (k := 162) (q := a) fr138 sa145 (by omega)
  have hc148 := ct_offn hc140 sa145 (by omega)
  have hc149 := ct_offn hc141 sa145 (by omega)
  have hc150 := ct_offn hc142 sa145 (by omega)
  have hc151 := ct_offn hc143 sa145 (by omega)
  have hc152 := ct_offn hc144 sa145 (by omega)
  have hc153 := ct_offn hc136 sa145 (by omega)
  refine n_iinc (k := 1) (x := 5) dX3_init_44 (by decide) rfl rfl (by decide) ?_
  refine v_ls (ls2 := [some (.ref a), some (.int (nI 6))]) rfl ?_
  refine v_goto (tgt := 25) dX3_init_47 (by decide) ?_
  refine v_iload_n dX3_init_25 rfl ?_
  refine v_bipush (v := nI 8) dX3_init_26 (by decide) ?_
  refine n_icmp_ge (tgt := 50) (x := 6) (y := 8) dX3_init_28 (by decide) (by decide) (by decide) (fun c => absurd c (by decide)) (fun _ => ?_)
  refine v_aload_n dX3_init_31 rfl ?_
  refine fX3_20 (v := .ref (a + 1)) rfl dX3_init_32 fa146 rfl ?_
  refine v_iload_n dX3_init_35 rfl ?_
  refine nnX1 dX3_init_36 q1_185 (Nat.le_of_ble_eq_true rfl) (Nat.le_of_ble_eq_true rfl) (fun h1 f1 s1 => ?_)
  have fa154 := f1
  have sa154 := s1
  clear f1 s1
  refine v_n (n2 := a + 123) rfl ?_
  have fa155 := (sa154 (a) (by omega)).trans fa146
  have fr156 := offn_in (k := 162) (q := a) fr147 sa154 (by omega)
  have fa157 := (sa154 (a + 1) (by omega)).trans fa145
  have hc158 := ct_offn hc148 sa154 (by omega)
  have hc159 := ct_offn hc149 sa154 (by omega)
  have hc160 := ct_offn hc150 sa154 (by omega)
  have hc161 := ct_offn hc151 sa154 (by omega)
  have hc162 := ct_offn hc152 sa154 (by omega)
  have hc163 := ct_offn hc153 sa154 (by omega)
  refine v_dup dX3_init_39 rfl ?_
  refine v_callIN (st := [.ref (a + 122), .int (nI 6), .ref (a + 1)]) dX3_init_40 (t_X1_init fa154) wX3_24 rfl rfl ⟨Nat.le_of_ble_eq_true rfl, Nat.le_of_ble_eq_true rfl⟩ (Nat.le_of_ble_eq_true rfl) ⟨Nat.le_of_ble_eq_true rfl, Nat.le_of_ble_eq_true rfl⟩ (fun r n2 h2 hq => ?_)
  obtain ⟨rfl, rfl, hc165, sa164⟩ := hq
  refine v_st (st2 := [.ref (a + 122), .int (nI 6), .ref (a + 1)]) rfl ?_
  refine v_n (n2 := a + 142) rfl ?_
  have fa166 := (sa164 (a) (by omega)).trans fa155
  have fr167 := offn_in (k := 162) (q := a) fr156 sa164 (by omega)
  have fa168 := (sa164 (a + 1) (by omega)).trans fa157
  have hc169 := ct_offn hc158 sa164 (by omega)
  have hc170 := ct_offn hc159 sa164 (by omega)
  have hc171 := ct_offn hc160 sa164 (by omega)
  have hc172 := ct_offn hc161 sa164 (by omega)
  have hc173 := ct_offn hc162 sa164 (by omega)
  have hc174 := ct_offn hc163 sa164 (by omega)
  refine n_aast (j := 6) dX3_init_43 fa168 (ck0 hc165) rfl (by omega) (by decide) ?_
  refine nw (fun h1 f1 s1 => ?_)
  have fa175 : h1 (a + 1) = some (.inl (gC G 3, 8, .inr (.inr (.inr (.inr (va_up (va_up (va_up (va_up (va_up (va_up (va_up (fun _ => none) 0 (some (a + 2))) 1 (some (a + 22))) 2 (some (a + 42))) 3 (some (a + 62))) 4 (some (a + 82))) 5 (some (a + 102))) 6 (some (a + 122)))))))) := f1
  have sa175 := s1
  clear f1 s1
  have fa176 := (sa175 (a) (by omega)).trans fa166
  have fr177 := offn_in (k := 162) (q := a) fr167 sa175 (by omega)
  have hc178 := ct_offn hc169 sa175 (by omega)
  have hc179 := ct_offn hc170 sa175 (by omega)
  have hc180 := ct_offn hc171 sa175 (by omega)
  have hc181 := ct_offn hc172 sa175 (by omega)
  have hc182 := ct_offn hc173 sa175 (by omega)
  have hc183 := ct_offn hc174 sa175 (by omega)
  have hc184 := ct_offn hc165 sa175 (by omega)
  refine n_iinc (k := 1) (x := 6) dX3_init_44 (by decide) rfl rfl (by decide) ?_
  refine v_ls (ls2 := [some (.ref a), some (.int (nI 7))]) rfl ?_
  refine v_goto (tgt := 25) dX3_init_47 (by decide) ?_
  refine v_iload_n dX3_init_25 rfl ?_
  refine v_bipush (v := nI 8) dX3_init_26 (by decide) ?_
  refine n_icmp_ge (tgt := 50) (x := 7) (y := 8) dX3_init_28 (by decide) (by decide) (by decide) (fun c => absurd c (by decide)) (fun _ => ?_)
  refine v_aload_n dX3_init_31 rfl ?_
  refine fX3_20 (v := .ref (a + 1)) rfl dX3_init_32 fa176 rfl ?_
  refine v_iload_n dX3_init_35 rfl ?_
  refine nnX1 dX3_init_36 q1_185 (Nat.le_of_ble_eq_true rfl) (Nat.le_of_ble_eq_true rfl) (fun h1 f1 s1 => ?_)
  have fa185 := f1
  have sa185 := s1
  clear f1 s1
  refine v_n (n2 := a + 143) rfl ?_
  have fa186 := (sa185 (a) (by omega)).trans fa176
  have fr187 := offn_in (k := 162) (q := a) fr177 sa185 (by omega)
  have fa188 := (sa185 (a + 1) (by omega)).trans fa175
  have hc189 := ct_offn hc178 sa185 (by omega)
  have hc190 := ct_offn hc179 sa185 (by omega)
  have hc191 := ct_offn hc180 sa185 (by omega)
  have hc192 := ct_offn hc181 sa185 (by omega)
  have hc193 := ct_offn hc182 sa185 (by omega)
  have hc194 := ct_offn hc183 sa185 (by omega)
  have hc195 := ct_offn hc184 sa185 (by omega)
  refine v_dup dX3_init_39 rfl ?_
  refine v_callIN (st := [.ref (a + 142), .int (nI 7), .ref (a + 1)]) dX3_init_40 (t_X1_init fa185) wX3_24 rfl rfl ⟨Nat.le_of_ble_eq_true rfl, Nat.le_of_ble_eq_true rfl⟩ (Nat.le_of_ble_eq_true rfl) ⟨Nat.le_of_ble_eq_true rfl, Nat.le_of_ble_eq_true rfl⟩ (fun r n2 h2 hq => ?_)
  obtain ⟨rfl, rfl, hc197, sa196⟩ := hq
  refine v_st (st2 := [.ref (a + 142), .int (nI 7), .ref (a + 1)]) rfl ?_
  refine v_n (n2 := a + 162) rfl ?_
  have fa198 := (sa196 (a) (by omega)).trans fa186
  have fr199 := offn_in (k := 162) (q := a) fr187 sa196 (by omega)
  have fa200 := (sa196 (a + 1) (by omega)).trans fa188
  have hc201 := ct_offn hc189 sa196 (by omega)
  have hc202 := ct_offn hc190 sa196 (by omega)
  have hc203 := ct_offn hc191 sa196 (by omega)
  have hc204 := ct_offn hc192 sa196 (by omega)
  have hc205 := ct_offn hc193 sa196 (by omega)
  have hc206 := ct_offn hc194 sa196 (by omega)
  have hc207 := ct_offn hc195 sa196 (by omega)
  refine n_aast (j := 7) dX3_init_43 fa200 (ck0 hc197) rfl (by omega) (by decide) ?_
  refine nw (fun h1 f1 s1 => ?_)
  have fa208 : h1 (a + 1) = some (.inl (gC G 3, 8, .inr (.inr (.inr (.inr (va_up (va_up (va_up (va_up (va_up (va_up (va_up (va_up (fun _ => none) 0 (some (a + 2))) 1 (some (a + 22))) 2 (some (a + 42))) 3 (some (a + 62))) 4 (some (a + 82))) 5 (some (a + 102))) 6 (some (a + 122))) 7 (some (a + 142)))))))) := f1
  have sa208 := s1
  clear f1 s1
  have fa209 := (sa208 (a) (by omega)).trans fa198
  have fr210 := offn_in (k := 162) (q := a) fr199 sa208 (by omega)
  have hc211 := ct_offn hc201 sa208 (by omega)
  have hc212 := ct_offn hc202 sa208 (by omega)
  have hc213 := ct_offn hc203 sa208 (by omega)
  have hc214 := ct_offn hc204 sa208 (by omega)
  have hc215 := ct_offn hc205 sa208 (by omega)
  have hc216 := ct_offn hc206 sa208 (by omega)
  have hc217 := ct_offn hc207 sa208 (by omega)
  have hc218 := ct_offn hc197 sa208 (by omega)
  refine n_iinc (k := 1) (x := 7) dX3_init_44 (by decide) rfl rfl (by decide) ?_
  refine v_ls (ls2 := [some (.ref a), some (.int (nI 8))]) rfl ?_
  refine v_goto (tgt := 25) dX3_init_47 (by decide) ?_
  refine v_iload_n dX3_init_25 rfl ?_
  refine v_bipush (v := nI 8) dX3_init_26 (by decide) ?_
  refine n_icmp_ge (tgt := 50) (x := 8) (y := 8) dX3_init_28 (by decide) (by decide) (by decide) (fun _ => ?_) (fun c => absurd c (by decide))
  refine v_vret dX3_init_50 rfl ?_ (Nat.le_of_ble_eq_true rfl) (Nat.le_of_ble_eq_true rfl)
  exact ⟨rfl, rfl, ⟨fa209, ⟨_, fa208, j8 ⟨rfl, rfl, rfl, rfl, rfl, rfl, rfl, rfl⟩⟩, j8 ⟨hc211, hc212, hc213, hc214, hc215, hc216, hc217, hc218⟩⟩, fr210⟩
