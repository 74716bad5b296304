theorem va_us {f : Nat → Nat} {j x : Nat} : va_up f j x j = x := if_pos rfl
theorem va_un {f : Nat → Nat} {j i x : Nat} (h : i ≠ j) : va_up f j x i = f i := if_neg h
set_option maxRecDepth 20000 in
set_option maxHeartbeats 4000000 in
theorem t_X5_init {l : Launch} {G : vG} {h : AH} {a : Nat} (ha : h a = some (.inr (6, [.null, .int 0, .int 0, .int 0, .null, .null]))) : Mt l G mX5_init [.ref a] (a + 1) h 4 170 (fun r n2 h2 => r = none ∧ n2 = a + 5 ∧ h2 a = some (.inr (6, [.ref (a + 1), .int (nI 0), .int (nI 0), .int (nI 0), .ref (a + 3), .ref (a + 4)])) ∧ h2 (a + 1) = some (.inr (0, [.ref (a + 2), .int (nI 0), .int 0, .int 0])) ∧ h2 (a + 2) = some (.inl (gC G 2, 16, .inl (fun _ => 0))) ∧ h2 (a + 3) = some (.inl (gC G 1, 30, .inl (fun _ => 0))) ∧ h2 (a + 4) = some (ar G 120 (fun _ => 0)) ∧ offn 5 a h h2) := by
  refine Mt.of (by decide) (Nat.le_of_ble_eq_true rfl) rfl ?_
  refine v_ls (ls2 := [some (.ref a)]) rfl ?_
  refine v_aload_n dX5_init_0 rfl ?_
  refine v_objinit dX5_init_1 q1_204 q1_26 q1_27 (Nat.le_of_ble_eq_true rfl) (Nat.le_of_ble_eq_true rfl) ?_
  refine v_aload_n dX5_init_4 rfl ?_
  refine nnJ4 dX5_init_5 q1_205 (Nat.le_of_ble_eq_true rfl) (Nat.le_of_ble_eq_true rfl) (fun h1 f1 s1 => ?_)
  have fa21 := f1
  have sa21 := s1
  clear f1 s1
  refine v_n (n2 := a + 2) rfl ?_
  have fa22 := (sa21 (a) (by omega)).trans ha
  have fr23 := offn_in (k := 5) (q := a) offn_rf sa21 (by omega)
  refine v_dup dX5_init_8 rfl ?_
  refine v_callI (st := [.ref (a + 1), .ref a]) dX5_init_9 (t_J4_init_da8c8 fa21) wX5_11 rfl rfl ⟨Nat.le_of_ble_eq_true rfl, Nat.le_of_ble_eq_true rfl⟩ (Nat.le_of_ble_eq_true rfl) ⟨Nat.le_of_ble_eq_true rfl, Nat.le_of_ble_eq_true rfl⟩ (fun r n2 h2 hq => ?_)
  obtain ⟨rfl, rfl, fa25, fa26, sa24⟩ := hq
  refine v_st (st2 := [.ref (a + 1), .ref a]) rfl ?_
  refine v_n (n2 := a + 3) rfl ?_
  have fa27 := (sa24 (a) (by omega)).trans fa22
  have fr28 := offn_in (k := 5) (q := a) fr23 sa24 (by omega)
  refine pX5_12 rfl rfl dX5_init_12 fa27 (Nat.le_of_ble_eq_true rfl) ?_
  refine nw (fun h1 f1 s1 => ?_)
  have fa29 : h1 (a) = some (.inr (6, [.ref (a + 1), .int 0, .int 0, .int 0, .null, .null])) := f1
  have sa29 := s1
  clear f1 s1
  have fr30 := offn_in (k := 5) (q := a) fr28 sa29 (by omega)
  have fa31 := (sa29 (a + 1) (by omega)).trans fa25
  have fa32 := (sa29 (a + 2) (by omega)).trans fa26
  refine v_aload_n dX5_init_15 rfl ?_
  refine v_iconst (v := nI 0) dX5_init_16 (by decide) ?_
  refine pX5_18 rfl dX5_init_17 fa29 (Nat.le_of_ble_eq_true rfl) ?_
  refine nw (fun h1 f1 s1 => ?_)
  have fa33 : h1 (a) = some (.inr (6, [.ref (a + 1), .int (nI 0), .int 0, .int 0, .null, .null])) := f1
  have sa33 := s1
  clear f1 s1
  have fr34 := offn_in (k := 5) (q := a) fr30 sa33 (by omega)
  have fa35 := (sa33 (a + 1) (by omega)).trans fa31
  have fa36 := (sa33 (a + 2) (by omega)).trans fa32
  refine v_aload_n dX5_init_20 rfl ?_
  refine v_iconst (v := nI 0) dX5_init_21 (by decide) ?_
  refine pX5_22 rfl dX5_init_22 fa33 (Nat.le_of_ble_eq_true rfl) ?_
  refine nw (fun h1 f1 s1 => ?_)
  have fa37 : h1 (a) = some (.inr (6, [.ref (a + 1), .int (nI 0), .int (nI 0), .int 0, .null, .null])) := f1
  have sa37 := s1
  clear f1 s1
  have fr38 := offn_in (k := 5) (q := a) fr34 sa37 (by omega)
  have fa39 := (sa37 (a + 1) (by omega)).trans fa35
  have fa40 := (sa37 (a + 2) (by omega)).trans fa36
  refine v_aload_n dX5_init_25 rfl ?_
  refine v_iconst (v := nI 0) dX5_init_26 (by decide) ?_
  refine pX5_25 rfl dX5_init_27 fa37 (Nat.le_of_ble_eq_true rfl) ?_
  refine nw (fun h1 f1 s1 => ?_)
  have fa41 : h1 (a) = some (.inr (6, [.ref (a + 1), .int (nI 0), .int (nI 0), .int (nI 0), .null, .null])) := f1
  have sa41 := s1
  clear f1 s1
  have fr42 := offn_in (k := 5) (q := a) fr38 sa41 (by omega)
  have fa43 := (sa41 (a + 1) (by omega)).trans fa39
  have fa44 := (sa41 (a + 2) (by omega)).trans fa40
  refine v_aload_n dX5_init_30 rfl ?_
  refine v_bipush (v := nI 30) dX5_init_31 (by decide) ?_
  refine nnc (k := 30) dX5_init_33 (by decide) (Nat.le_of_ble_eq_true rfl) (Nat.le_of_ble_eq_true rfl) (fun h1 f1 s1 => ?_)
  have fa45 := f1
  have sa45 := s1
  clear f1 s1
  refine v_n (n2 := a + 4) rfl ?_
  have fa46 := (sa45 (a) (by omega)).trans fa41
  have fr47 := offn_in (k := 5) (q := a) fr42 sa45 (by omega)
  have fa48 := (sa45 (a + 1) (by omega)).trans fa43
  have fa49 := (sa45 (a + 2) (by omega)).trans fa44
  refine pX5_28 rfl rfl dX5_init_35 fa46 (Nat.le_of_ble_eq_true rfl) ?_
  refine nw (fun h1 f1 s1 => ?_)
  have fa50 : h1 (a) = some (.inr (6, [.ref (a + 1), .int (nI 0), .int (nI 0), .int (nI 0), .ref (a + 3), .null])) := f1
  have sa50 := s1
  clear f1 s1
  have fr51 := offn_in (k := 5) (q := a) fr47 sa50 (by omega)
  have fa52 := (sa50 (a + 1) (by omega)).trans fa48
  have fa53 := (sa50 (a + 2) (by omega)).trans fa49
  have fa54 := (sa50 (a + 3) (by omega)).trans fa45
  refine v_aload_n dX5_init_38 rfl ?_
  refine v_bipush (v := nI 120) dX5_init_39 (by decide) ?_
  refine nni (k := 120) dX5_init_41 (by decide) (Nat.le_of_ble_eq_true rfl) (Nat.le_of_ble_eq_true rfl) (fun h1 f1 s1 => ?_)
  have fa55 := f1
  have sa55 := s1
  clear f1 s1
  refine v_n (n2 := a + 5) rfl ?_
  have fa56 := (sa55 (a) (by omega)).trans fa50
  have fr57 := offn_in (k := 5) (q := a) fr51 sa55 (by omega)
  have fa58 := (sa55 (a + 1) (by omega)).trans fa52
  have fa59 := (sa55 (a + 2) (by omega)).trans fa53
  have fa60 := (sa55 (a + 3) (by omega)).trans fa54
  refine pX5_32 rfl rfl dX5_init_43 fa56 (Nat.le_of_ble_eq_true rfl) ?_
  refine nw (fun h1 f1 s1 => ?_)
  have fa61 : h1 (a) = some (.inr (6, [.ref (a + 1), .int (nI 0), .int (nI 0), .int (nI 0), .ref (a + 3), .ref (a + 4)])) := f1
  have sa61 := s1
  clear f1 s1
  have fr62 := offn_in (k := 5) (q := a) fr57 sa61 (by omega)
  have fa63 := (sa61 (a + 1) (by omega)).trans fa58
  have fa64 := (sa61 (a + 2) (by omega)).trans fa59
  have fa65 := (sa61 (a + 3) (by omega)).trans fa60
  have fa66 := (sa61 (a + 4) (by omega)).trans fa55
  refine v_vret dX5_init_46 rfl ?_ (Nat.le_of_ble_eq_true rfl) (Nat.le_of_ble_eq_true rfl)
  exact ⟨rfl, rfl, fa61, fa63, fa64, fa65, fa66, fr62⟩
theorem ht_fr {G : vG} {h h2 : AH} {q : Nat} {T : Hs} (a : ht G h q T) (b : ∀ z, q ≤ z → z < q + 162 → h2 z = h z) : ht G h2 q T := by
  obtain ⟨⟨h1, ⟨f, h3, h4⟩, h5⟩, h6⟩ := a
  exact ⟨⟨(b q (by omega) (by omega)).trans h1, ⟨f, (b (q + 1) (by omega) (by omega)).trans h3, h4⟩, fun i hi k hk => (b _ (by omega) (by omega)).trans (h5 i hi k hk)⟩, h6⟩
set_option maxRecDepth 20000 in
set_option maxHeartbeats 4000000 in
theorem t_X6_init {l : Launch} {G : vG} {h : AH} {u : Nat} {t0 : Nat → Nat} (ha : h u = some (.inr (7, [.null, .null, .null, .null, .null, .null, .null, .int 0, .int 0, .int 0]))) : Mt l G mX6_init [.ref u] (u + 1) h 300 4000 (fun r n2 h2 => r = none ∧ n2 = u + 250 ∧ h2 u = some (jc u 0 (-1015) (-1015)) ∧ ct G h2 (u + 1) Z0 ∧ ct G h2 (u + 21) Z0 ∧ ct G h2 (u + 41) Z0 ∧ ct G h2 (u + 61) Z0 ∧ ht G h2 (u + 81) (0, 0, fun _ => Z0) ∧ h2 (u + 243) = some (.inr (6, [.ref (u + 244), .int (nI 0), .int (nI 0), .int (nI 0), .ref (u + 246), .ref (u + 247)])) ∧ sbP G h2 (u + 244) (u + 245) 16 t0 0 0 ∧ h2 (u + 246) = some (.inl (gC G 1, 30, .inl (fun i => nI ((fun _ => 0) i)))) ∧ h2 (u + 247) = some (ar G 120 (fun _ => 0)) ∧ sbP G h2 (u + 248) (u + 249) 16 t0 0 0 ∧ offn 250 u h h2) := by
  refine Mt.of (by decide) (Nat.le_of_ble_eq_true rfl) rfl ?_
  refine v_ls (ls2 := [some (.ref u)]) rfl ?_
  refine v_aload_n dX6_init_0 rfl ?_
  refine v_objinit dX6_init_1 q1_25 q1_26 q1_27 (Nat.le_of_ble_eq_true rfl) (Nat.le_of_ble_eq_true rfl) ?_
  refine v_aload_n dX6_init_4 rfl ?_
  refine nnX1 dX6_init_5 q1_28 (Nat.le_of_ble_eq_true rfl) (Nat.le_of_ble_eq_true rfl) (fun h1 f1 s1 => ?_)
  have fa21 := f1
  have sa21 := s1
  clear f1 s1
  refine v_n (n2 := u + 2) rfl ?_
  have fa22 := (sa21 (u) (by omega)).trans ha
  have fr23 := offn_in (k := 250) (q := u) offn_rf sa21 (by omega)
  refine v_dup dX6_init_8 rfl ?_
  refine v_callIN (st := [.ref (u + 1), .ref u]) dX6_init_9 (t_X1_init fa21) wX6_9 rfl rfl ⟨Nat.le_of_ble_eq_true rfl, Nat.le_of_ble_eq_true rfl⟩ (Nat.le_of_ble_eq_true rfl) ⟨Nat.le_of_ble_eq_true rfl, Nat.le_of_ble_eq_true rfl⟩ (fun r n2 h2 hq => ?_)
  obtain ⟨rfl, rfl, hc25, sa24⟩ := hq
  refine v_st (st2 := [.ref (u + 1), .ref u]) rfl ?_
  refine v_n (n2 := u + 21) rfl ?_
  have fa26 := (sa24 (u) (by omega)).trans fa22
  have fr27 := offn_in (k := 250) (q := u) fr23 sa24 (by omega)
  refine pX6_10 rfl rfl dX6_init_12 fa26 (Nat.le_of_ble_eq_true rfl) ?_
  refine nw (fun h1 f1 s1 => ?_)
  have fa28 : h1 (u) = some (.inr (7, [.ref (u + 1), .null, .null, .null, .null, .null, .null, .int 0, .int 0, .int 0])) := f1
  have sa28 := s1
  clear f1 s1
  have fr29 := offn_in (k := 250) (q := u) fr27 sa28 (by omega)
  have hc30 := ct_offn hc25 sa28 (by omega)
  refine v_aload_n dX6_init_15 rfl ?_
  refine nnX1 dX6_init_16 q1_28 (Nat.le_of_ble_eq_true rfl) (Nat.le_of_ble_eq_true rfl) (fun h1 f1 s1 => ?_)
  have fa31 := f1
  have sa31 := s1
  clear f1 s1
  refine v_n (n2 := u + 22) rfl ?_
  have fa32 := (sa31 (u) (by omega)).trans fa28
  have fr33 := offn_in (k := 250) (q := u) fr29 sa31 (by omega)
  have hc34 := ct_offn hc30 sa31 (by omega)
  refine v_dup dX6_init_19 rfl ?_
  refine v_callIN (st := [.ref (u + 21), .ref u]) dX6_init_20 (t_X1_init fa31) wX6_9 rfl rfl ⟨Nat.le_of_ble_eq_true rfl, Nat.le_of_ble_eq_true rfl⟩ (Nat.le_of_ble_eq_true rfl) ⟨Nat.le_of_ble_eq_true rfl, Nat.le_of_ble_eq_true rfl⟩ (fun r n2 h2 hq => ?_)
  obtain ⟨rfl, rfl, hc36, sa35⟩ := hq
  refine v_st (st2 := [.ref (u + 21), .ref u]) rfl ?_
  refine v_n (n2 := u + 41) rfl ?_
  have fa37 := (sa35 (u) (by omega)).trans fa32
  have fr38 := offn_in (k := 250) (q := u) fr33 sa35 (by omega)
  have hc39 := ct_offn hc34 sa35 (by omega)
  refine pX6_16 rfl rfl dX6_init_23 fa37 (Nat.le_of_ble_eq_true rfl) ?_
  refine nw (fun h1 f1 s1 => ?_)
  have fa40 : h1 (u) = some (.inr (7, [.ref (u + 1), .ref (u + 21), .null, .null, .null, .null, .null, .int 0, .int 0, .int 0])) := f1
  have sa40 := s1
  clear f1 s1
  have fr41 := offn_in (k := 250) (q := u) fr38 sa40 (by omega)
  have hc42 := ct_offn hc39 sa40 (by omega)
  have hc43 := ct_offn hc36 sa40 (by omega)
  refine v_aload_n dX6_init_26 rfl ?_
  refine nnX1 dX6_init_27 q1_28 (Nat.le_of_ble_eq_true rfl) (Nat.le_of_ble_eq_true rfl) (fun h1 f1 s1 => ?_)
  have fa44 := f1
  have sa44 := s1
  clear f1 s1
  refine v_n (n2 := u + 42) rfl ?_
  have fa45 := (sa44 (u) (by omega)).trans fa40
  have fr46 := offn_in (k := 250) (q := u) fr41 sa44 (by omega)
  have hc47 := ct_offn hc42 sa44 (by omega)
  have hc48 := ct_offn hc43 sa44 (by omega)
  refine v_dup dX6_init_30 rfl ?_
  refine v_callIN (st := [.ref (u + 41), .ref u]) dX6_init_31 (t_X1_init fa44) wX6_9 rfl rfl ⟨Nat.le_of_ble_eq_true rfl, Nat.le_of_ble_eq_true rfl⟩ (Nat.le_of_ble_eq_true rfl) ⟨Nat.le_of_ble_eq_true rfl, Nat.le_of_ble_eq_true rfl⟩ (fun r n2 h2 hq => ?_)
  obtain ⟨rfl, rfl, hc50, sa49⟩ := hq
  refine v_st (st2 := [.ref (u + 41), .ref u]) rfl ?_
  refine v_n (n2 := u + 61) rfl ?_
  have fa51 := (sa49 (u) (by omega)).trans fa45
  have fr52 := offn_in (k := 250) (q := u) fr46 sa49 (by omega)
  have hc53 := ct_offn hc47 sa49 (by omega)
  have hc54 := ct_offn hc48 sa49 (by omega)
  refine pX6_19 rfl rfl dX6_init_34 fa51 (Nat.le_of_ble_eq_true rfl) ?_
  refine nw (fun h1 f1 s1 => ?_)
  have fa55 : h1 (u) = some (.inr (7, [.ref (u + 1), .ref (u + 21), .ref (u + 41), .null, .null, .null, .null, .int 0, .int 0, .int 0])) := f1
  have sa55 := s1
  clear f1 s1
  have fr56 := offn_in (k := 250) (q := u) fr52 sa55 (by omega)
  have hc57 := ct_offn hc53 sa55 (by omega)
  have hc58 := ct_offn hc54 sa55 (by omega)
  have hc59 := ct_offn hc50 sa55 (by omega)
  refine v_aload_n dX6_init_37 rfl ?_
  refine nnX1 dX6_init_38 q1_28 (Nat.le_of_ble_eq_true rfl) (Nat.le_of_ble_eq_true rfl) (fun h1 f1 s1 => ?_)
  have fa60 := f1
  have sa60 := s1
  clear f1 s1
  refine v_n (n2 := u + 62) rfl ?_
  have fa61 := (sa60 (u) (by omega)).trans fa55
  have fr62 := offn_in (k := 250) (q := u) fr56 sa60 (by omega)
  have hc63 := ct_offn hc57 sa60 (by omega)
  have hc64 := ct_offn hc58 sa60 (by omega)
  have hc65 := ct_offn hc59 sa60 (by omega)
  refine v_dup dX6_init_41 rfl ?_
  refine v_callIN (st := [.ref (u + 61), .ref u]) dX6_init_42 (t_X1_init fa60) wX6_9 rfl rfl ⟨Nat.le_of_ble_eq_true rfl, Nat.le_of_ble_eq_true rfl⟩ (Nat.le_of_ble_eq_true rfl) ⟨Nat.le_of_ble_eq_true rfl, Nat.le_of_ble_eq_true rfl⟩ (fun r n2 h2 hq => ?_)
  obtain ⟨rfl, rfl, hc67, sa66⟩ := hq
  refine v_st (st2 := [.ref (u + 61), .ref u]) rfl ?_
  refine v_n (n2 := u + 81) rfl ?_
  have fa68 := (sa66 (u) (by omega)).trans fa61
  have fr69 := offn_in (k := 250) (q := u) fr62 sa66 (by omega)
  have hc70 := ct_offn hc63 sa66 (by omega)
  have hc71 := ct_offn hc64 sa66 (by omega)
  have hc72 := ct_offn hc65 sa66 (by omega)
  refine pX6_22 rfl rfl dX6_init_45 fa68 (Nat.le_of_ble_eq_true rfl) ?_
  refine nw (fun h1 f1 s1 => ?_)
  have fa73 : h1 (u) = some (.inr (7, [.ref (u + 1), .ref (u + 21), .ref (u + 41), .ref (u + 61), .null, .null, .null, .int 0, .int 0, .int 0])) := f1
  have sa73 := s1
  clear f1 s1
  have fr74 := offn_in (k := 250) (q := u) fr69 sa73 (by omega)
  have hc75 := ct_offn hc70 sa73 (by omega)
  have hc76 := ct_offn hc71 sa73 (by omega)
  have hc77 := ct_offn hc72 sa73 (by omega)
  have hc78 := ct_offn hc67 sa73 (by omega)
  refine v_aload_n dX6_init_48 rfl ?_
  refine nnX3 dX6_init_49 q1_179 (Nat.le_of_ble_eq_true rfl) (Nat.le_of_ble_eq_true rfl) (fun h1 f1 s1 => ?_)
  have fa79 := f1
  have sa79 := s1
  clear f1 s1
  refine v_n (n2 := u + 82) rfl ?_
  have fa80 := (sa79 (u) (by omega)).trans fa73
  have fr81 := offn_in (k := 250) (q := u) fr74 sa79 (by omega)
  have hc82 := ct_offn hc75 sa79 (by omega)
  have hc83 := ct_offn hc76 sa79 (by omega)
  have hc84 := ct_offn hc77 sa79 (by omega)
  have hc85 := ct_offn hc78 sa79 (by omega)
  refine v_dup dX6_init_52 rfl ?_
  refine v_callI (st := [.ref (u + 81), .ref u]) dX6_init_53 (t_X3_init fa79) wX6_27 rfl rfl ⟨Nat.le_of_ble_eq_true rfl, Nat.le_of_ble_eq_true rfl⟩ (Nat.le_of_ble_eq_true rfl) ⟨Nat.le_of_ble_eq_true rfl, Nat.le_of_ble_eq_true rfl⟩ (fun r n2 h2 hq => ?_)
  obtain ⟨rfl, rfl, hh87, sa86⟩ := hq
  refine v_st (st2 := [.ref (u + 81), .ref u]) rfl ?_
  refine v_n (n2 := u + 243) rfl ?_
  have fa88 := (sa86 (u) (by omega)).trans fa80
  have fr89 := offn_in (k := 250) (q := u) fr81 sa86 (by omega)
  have hc90 := ct_offn hc82 sa86 (by omega)
  have hc91 := ct_offn hc83 sa86 (by omega)
  have hc92 := ct_offn hc84 sa86 (by omega)
  have hc93 := ct_offn hc85 sa86 (by omega)
  have hh87x : ht G _ (u + 81) (0, 0, fun _ => Z0) := ⟨hh87, Nat.zero_le _, by decide⟩
  refine pX6_28 rfl rfl dX6_init_56 fa88 (Nat.le_of_ble_eq_true rfl) ?_
  refine nw (fun h1 f1 s1 => ?_)
  have fa94 : h1 (u) = some (.inr (7, [.ref (u + 1), .ref (u + 21), .ref (u + 41), .ref (u + 61), .ref (u + 81), .null, .null, .int 0, .int 0, .int 0])) := f1
  have sa94 := s1
  clear f1 s1
  have fr95 := offn_in (k := 250) (q := u) fr89 sa94 (by omega)
  have hc96 := ct_offn hc90 sa94 (by omega)
  have hc97 := ct_offn hc91 sa94 (by omega)
  have hc98 := ct_offn hc92 sa94 (by omega)
  have hc99 := ct_offn hc93 sa94 (by omega)
  have hh100 := ht_offn hh87x sa94 (by omega)
  refine v_aload_n dX6_init_59 rfl ?_
  refine nnX5 dX6_init_60 q1_199 (Nat.le_of_ble_eq_true rfl) (Nat.le_of_ble_eq_true rfl) (fun h1 f1 s1 => ?_)
  have fa101 := f1
  have sa101 := s1
  clear f1 s1
  refine v_n (n2 := u + 244) rfl ?_
  have fa102 := (sa101 (u) (by omega)).trans fa94
  have fr103 := offn_in (k := 250) (q := u) fr95 sa101 (by omega)
  have hc104 := ct_offn hc96 sa101 (by omega)
  have hc105 := ct_offn hc97 sa101 (by omega)
  have hc106 := ct_offn hc98 sa101 (by omega)
  have hc107 := ct_offn hc99 sa101 (by omega)
  have hh108 := ht_offn hh100 sa101 (by omega)
  refine v_dup dX6_init_63 rfl ?_
  refine v_callIN (st := [.ref (u + 243), .ref u]) dX6_init_64 (t_X5_init fa101) wX6_34 rfl rfl ⟨Nat.le_of_ble_eq_true rfl, Nat.le_of_ble_eq_true rfl⟩ (Nat.le_of_ble_eq_true rfl) ⟨Nat.le_of_ble_eq_true rfl, Nat.le_of_ble_eq_true rfl⟩ (fun r n2 h2 hq => ?_)
  obtain ⟨rfl, rfl, f110, f111, f112, f113, f114, sa109⟩ := hq
  refine v_st (st2 := [.ref (u + 243), .ref u]) rfl ?_
  refine v_n (n2 := u + 248) rfl ?_
  have fa115 := (sa109 (u) (by omega)).trans fa102
  have fr116 := offn_in (k := 250) (q := u) fr103 sa109 (by omega)
  have hc117 := ct_offn hc104 sa109 (by omega)
  have hc118 := ct_offn hc105 sa109 (by omega)
  have hc119 := ct_offn hc106 sa109 (by omega)
  have hc120 := ct_offn hc107 sa109 (by omega)
  have hh121 := ht_offn hh108 sa109 (by omega)
  refine pX6_35 rfl rfl dX6_init_67 fa115 (Nat.le_of_ble_eq_true rfl) ?_
  refine nw (fun h1 f1 s1 => ?_)
  have fa122 : h1 (u) = some (.inr (7, [.ref (u + 1), .ref (u + 21), .ref (u + 41), .ref (u + 61), .ref (u + 81), .ref (u + 243), .null, .int 0, .int 0, .int 0])) := f1
  have sa122 := s1
  clear f1 s1
  have fr123 := offn_in (k := 250) (q := u) fr116 sa122 (by omega)
  have hc124 := ct_offn hc117 sa122 (by omega)
  have hc125 := ct_offn hc118 sa122 (by omega)
  have hc126 := ct_offn hc119 sa122 (by omega)
  have hc127 := ct_offn hc120 sa122 (by omega)
  have hh128 := ht_offn hh121 sa122 (by omega)
  have fa129 := (sa122 (u + 243) (by omega)).trans f110
  have fa130 := (sa122 (u + 244) (by omega)).trans f111
  have fa131 := (sa122 (u + 245) (by omega)).trans f112
  have fa132 := (sa122 (u + 246) (by omega)).trans f113
  have fa133 := (sa122 (u + 247) (by omega)).trans f114
  refine v_aload_n dX6_init_70 rfl ?_
  refine nnJ4 dX6_init_71 q2_21 (Nat.le_of_ble_eq_true rfl) (Nat.le_of_ble_eq_true rfl) (fun h1 f1 s1 => ?_)
  have fa134 := f1
  have sa134 := s1
  clear f1 s1
  refine v_n (n2 := u + 249) rfl ?_
  have fa135 := (sa134 (u) (by omega)).trans fa122
  have fr136 := offn_in (k := 250) (q := u) fr123 sa134 (by omega)
  have hc137 := ct_offn hc124 sa134 (by omega)
  have hc138 := ct_offn hc125 sa134 (by omega)
  have hc139 := ct_offn hc126 sa134 (by omega)
  have hc140 := ct_offn hc127 sa134 (by omega)
  have hh141 := ht_offn hh128 sa134 (by omega)
  have fa142 := (sa134 (u + 243) (by omega)).trans fa129
  have fa143 := (sa134 (u + 244) (by omega)).trans fa130
  have fa144 := (sa134 (u + 245) (by omega)).trans fa131
  have fa145 := (sa134 (u + 246) (by omega)).trans fa132
  have fa146 := (sa134 (u + 247) (by omega)).trans fa133
  refine v_dup dX6_init_74 rfl ?_
  refine v_callI (st := [.ref (u + 248), .ref u]) dX6_init_75 (t_J4_init_da8c8 fa134) wX6_41 rfl rfl ⟨Nat.le_of_ble_eq_true rfl, Nat.le_of_ble_eq_true rfl⟩ (Nat.le_of_ble_eq_true rfl) ⟨Nat.le_of_ble_eq_true rfl, Nat.le_of_ble_eq_true rfl⟩ (fun r n2 h2 hq => ?_)
  obtain ⟨rfl, rfl, fa148, fa149, sa147⟩ := hq
  refine v_st (st2 := [.ref (u + 248), .ref u]) rfl ?_
  refine v_n (n2 := u + 250) rfl ?_
  have fa150 := (sa147 (u) (by omega)).trans fa135
  have fr151 := offn_in (k := 250) (q := u) fr136 sa147 (by omega)
  have hc152 := ct_offn hc137 sa147 (by omega)
  have hc153 := ct_offn hc138 sa147 (by omega)
  have hc154 := ct_offn hc139 sa147 (by omega)
  have hc155 := ct_offn hc140 sa147 (by omega)
  have hh156 := ht_offn hh141 sa147 (by omega)
  have fa157 := (sa147 (u + 243) (by omega)).trans fa142
  have fa158 := (sa147 (u + 244) (by omega)).trans fa143
  have fa159 := (sa147 (u + 245) (by omega)).trans fa144
  have fa160 := (sa147 (u + 246) (by omega)).trans fa145
  have fa161 := (sa147 (u + 247) (by omega)).trans fa146
  refine pX6_42 rfl rfl dX6_init_78 fa150 (Nat.le_of_ble_eq_true rfl) ?_
  refine nw (fun h1 f1 s1 => ?_)
  have fa162 : h1 (u) = some (.inr (7, [.ref (u + 1), .ref (u + 21), .ref (u + 41), .ref (u + 61), .ref (u + 81), .ref (u + 243), .ref (u + 248), .int 0, .int 0, .int 0])) := f1
  have sa162 := s1
  clear f1 s1
  have fr163 := offn_in (k := 250) (q := u) fr151 sa162 (by omega)
  have hc164 := ct_offn hc152 sa162 (by omega)
  have hc165 := ct_offn hc153 sa162 (by omega)
  have hc166 := ct_offn hc154 sa162 (by omega)
  have hc167 := ct_offn hc155 sa162 (by omega)
  have hh168 := ht_offn hh156 sa162 (by omega)
  have fa169 := (sa162 (u + 243) (by omega)).trans fa157
  have fa170 := (sa162 (u + 244) (by omega)).trans fa158
  have fa171 := (sa162 (u + 245) (by omega)).trans fa159
  have fa172 := (sa162 (u + 246) (by omega)).trans fa160
  have fa173 := (sa162 (u + 247) (by omega)).trans fa161
  have fa174 := (sa162 (u + 248) (by omega)).trans fa148
  have fa175 := (sa162 (u + 249) (by omega)).trans fa149
  refine v_aload_n dX6_init_81 rfl ?_
  refine v_iconst (v := nI 0) dX6_init_82 (by decide) ?_
  refine pX6_46 rfl dX6_init_83 fa162 (Nat.le_of_ble_eq_true rfl) (by decide) (by decide) ?_
  refine nw (fun h1 f1 s1 => ?_)
  have fa176 : h1 (u) = some (.inr (7, [.ref (u + 1), .ref (u + 21), .ref (u + 41), .ref (u + 61), .ref (u + 81), .ref (u + 243), .ref (u + 248), .int (nI 0), .int 0, .int 0])) := f1
  have sa176 := s1
  clear f1 s1
  have fr177 := offn_in (k := 250) (q := u) fr163 sa176 (by omega)
  have hc178 := ct_offn hc164 sa176 (by omega)
  have hc179 := ct_offn hc165 sa176 (by omega)
  have hc180 := ct_offn hc166 sa176 (by omega)
  have hc181 := ct_offn hc167 sa176 (by omega)
  have hh182 := ht_offn hh168 sa176 (by omega)
  have fa183 := (sa176 (u + 243) (by omega)).trans fa169
  have fa184 := (sa176 (u + 244) (by omega)).trans fa170
  have fa185 := (sa176 (u + 245) (by omega)).trans fa171
  have fa186 := (sa176 (u + 246) (by omega)).trans fa172
  have fa187 := (sa176 (u + 247) (by omega)).trans fa173
  have fa188 := (sa176 (u + 248) (by omega)).trans fa174
  have fa189 := (sa176 (u + 249) (by omega)).trans fa175
  refine v_aload_n dX6_init_86 rfl ?_
  refine v_sipush (v := (-1015)) dX6_init_87 (by decide) ?_
  refine pX6_50 rfl dX6_init_90 fa176 (Nat.le_of_ble_eq_true rfl) ?_
  refine nw (fun h1 f1 s1 => ?_)
  have fa190 : h1 (u) = some (.inr (7, [.ref (u + 1), .ref (u + 21), .ref (u + 41), .ref (u + 61), .ref (u + 81), .ref (u + 243), .ref (u + 248), .int (nI 0), .int ((-1015)), .int 0])) := f1
  have sa190 := s1
  clear f1 s1
  have fr191 := offn_in (k := 250) (q := u) fr177 sa190 (by omega)
  have hc192 := ct_offn hc178 sa190 (by omega)
  have hc193 := ct_offn hc179 sa190 (by omega)
  have hc194 := ct_offn hc180 sa190 (by omega)
  have hc195 := ct_offn hc181 sa190 (by omega)
  have hh196 := ht_offn hh182 sa190 (by omega)
  have fa197 := (sa190 (u + 243) (by omega)).trans fa183
  have fa198 := (sa190 (u + 244) (by omega)).trans fa184
  have fa199 := (sa190 (u + 245) (by omega)).trans fa185
  have fa200 := (sa190 (u + 246) (by omega)).trans fa186
  have fa201 := (sa190 (u + 247) (by omega)).trans fa187
  have fa202 := (sa190 (u + 248) (by omega)).trans fa188
  have fa203 := (sa190 (u + 249) (by omega)).trans fa189
  refine v_aload_n dX6_init_93 rfl ?_
  refine v_sipush (v := (-1015)) dX6_init_94 (by decide) ?_
  refine pX6_54 rfl dX6_init_97 fa190 (Nat.le_of_ble_eq_true rfl) ?_
  refine nw (fun h1 f1 s1 => ?_)
  have fa204 : h1 (u) = some (.inr (7, [.ref (u + 1), .ref (u + 21), .ref (u + 41), .ref (u + 61), .ref (u + 81), .ref (u + 243), .ref (u + 248), .int (nI 0), .int ((-1015)), .int ((-1015))])) := f1
  have sa204 := s1
  clear f1 s1
  have fr205 := offn_in (k := 250) (q := u) fr191 sa204 (by omega)
  have hc206 := ct_offn hc192 sa204 (by omega)
  have hc207 := ct_offn hc193 sa204 (by omega)
  have hc208 := ct_offn hc194 sa204 (by omega)
  have hc209 := ct_offn hc195 sa204 (by omega)
  have hh210 := ht_offn hh196 sa204 (by omega)
  have fa211 := (sa204 (u + 243) (by omega)).trans fa197
  have fa212 := (sa204 (u + 244) (by omega)).trans fa198
  have fa213 := (sa204 (u + 245) (by omega)).trans fa199
  have fa214 := (sa204 (u + 246) (by omega)).trans fa200
  have fa215 := (sa204 (u + 247) (by omega)).trans fa201
  have fa216 := (sa204 (u + 248) (by omega)).trans fa202
  have fa217 := (sa204 (u + 249) (by omega)).trans fa203
  refine v_vret dX6_init_100 rfl ?_ (Nat.le_of_ble_eq_true rfl) (Nat.le_of_ble_eq_true rfl)
  exact ⟨rfl, rfl, fa204, hc206, hc207, hc208, hc209, hh210, fa211, ⟨fa212, _, fa213, fun j hj => absurd hj (Nat.not_lt_zero j), fun _ => rfl, Nat.zero_le _⟩, fa214, fa215, ⟨fa216, _, fa217, fun j hj => absurd hj (Nat.not_lt_zero j), fun _ => rfl, Nat.zero_le _⟩, fr205⟩
