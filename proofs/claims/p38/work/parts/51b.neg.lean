/-- the letters of -1015 -/
def ngL : Ln := (fun i => if i = 0 then 45 else if i = 1 then 49 else if i = 2 then 48 else if i = 3 then 49 else 53, 5)
theorem ngL_256 : ∀ i, i < 5 → ngL.1 i < 256 := by decide
theorem dg_1 {j v : Nat} (h : 48 + j % 10 = v) : dg_one j = .int (nI v) := by rw [← h]; rfl
theorem dg_10 {j v : Nat} (h : 48 + j / 10 = v) : dg_ten j = .int (nI v) := by rw [← h]; rfl
set_option maxRecDepth 20000 in
set_option maxHeartbeats 4000000 in
theorem t_N6_stringSize {l : Launch} {G : vG} {h : AH} {n : Nat}   : Mt l G mJ6_stringSize_0f7a4 [.int (-1015)] (n) h 0 0 (fun r n2 h2 => r = some (.int (nI 5)) ∧ n2 = n ∧ h2 = h) := by
  refine Mt.of (by decide) (Nat.le_of_ble_eq_true rfl) rfl ?_
  refine v_ls (ls2 := [some (.int (-1015)), none, none, none]) rfl ?_
  refine v_iconst (v := nI 1) dJ6_stringSize_0f7a4_0 (by decide) ?_
  refine v_istore_n dJ6_stringSize_0f7a4_1 rfl (by decide) ?_
  refine v_ls (ls2 := [some (.int (-1015)), some (.int (nI 1)), none, none]) rfl ?_
  refine v_iload_n dJ6_stringSize_0f7a4_2 rfl ?_
  refine v_if_lt (tgt := 11) dJ6_stringSize_0f7a4_3 (by decide) (fun _ => ?_) (fun c => absurd c (by decide))
  refine v_bipush (v := (-10)) dJ6_stringSize_0f7a4_11 (by decide) ?_
  refine v_istore_n dJ6_stringSize_0f7a4_13 rfl (by decide) ?_
  refine v_ls (ls2 := [some (.int (-1015)), some (.int (nI 1)), some (.int (-10)), none]) rfl ?_
  refine v_iconst (v := nI 1) dJ6_stringSize_0f7a4_14 (by decide) ?_
  refine v_istore_n dJ6_stringSize_0f7a4_15 rfl (by decide) ?_
  refine v_ls (ls2 := [some (.int (-1015)), some (.int (nI 1)), some (.int (-10)), some (.int (nI 1))]) rfl ?_
  refine v_iload_n dJ6_stringSize_0f7a4_16 rfl ?_
  refine v_bipush (v := nI 10) dJ6_stringSize_0f7a4_17 (by decide) ?_
  refine v_icmp_ge (tgt := 42) dJ6_stringSize_0f7a4_19 (by decide) (fun c => absurd c (by decide)) (fun _ => ?_)
  refine v_iload_n dJ6_stringSize_0f7a4_22 rfl ?_
  refine v_iload_n dJ6_stringSize_0f7a4_23 rfl ?_
  refine v_icmp_le (tgt := 31) dJ6_stringSize_0f7a4_24 (by decide) (fun _ => ?_) (fun c => absurd c (by decide))
  refine v_bipush (v := nI 10) dJ6_stringSize_0f7a4_31 (by decide) ?_
  refine v_iload_n dJ6_stringSize_0f7a4_33 rfl ?_
  refine v_imul dJ6_stringSize_0f7a4_34 ?_
  refine v_st (st2 := [.int (-100)]) (by rw [show ((nI 10 : Int32) * (-10)) = (-100) from by decide]) ?_
  refine v_istore_n dJ6_stringSize_0f7a4_35 rfl (by decide) ?_
  refine v_ls (ls2 := [some (.int (-1015)), some (.int (nI 1)), some (.int (-100)), some (.int (nI 1))]) rfl ?_
  refine n_iinc (k := 1) (x := 1) dJ6_stringSize_0f7a4_36 (by decide) rfl rfl (by decide) ?_
  refine v_ls (ls2 := [some (.int (-1015)), some (.int (nI 1)), some (.int (-100)), some (.int (nI 2))]) rfl ?_
  refine v_goto (tgt := 16) dJ6_stringSize_0f7a4_39 (by decide) ?_
  refine v_iload_n dJ6_stringSize_0f7a4_16 rfl ?_
  refine v_bipush (v := nI 10) dJ6_stringSize_0f7a4_17 (by decide) ?_
  refine v_icmp_ge (tgt := 42) dJ6_stringSize_0f7a4_19 (by decide) (fun c => absurd c (by decide)) (fun _ => ?_)
  refine v_iload_n dJ6_stringSize_0f7a4_22 rfl ?_
  refine v_iload_n dJ6_stringSize_0f7a4_23 rfl ?_
  refine v_icmp_le (tgt := 31) dJ6_stringSize_0f7a4_24 (by decide) (fun _ => ?_) (fun c => absurd c (by decide))
  refine v_bipush (v := nI 10) dJ6_stringSize_0f7a4_31 (by decide) ?_
  refine v_iload_n dJ6_stringSize_0f7a4_33 rfl ?_
  refine v_imul dJ6_stringSize_0f7a4_34 ?_
  refine v_st (st2 := [.int (-1000)]) (by rw [show ((nI 10 : Int32) * (-100)) = (-1000) from by decide]) ?_
  refine v_istore_n dJ6_stringSize_0f7a4_35 rfl (by decide) ?_
  refine v_ls (ls2 := [some (.int (-1015)), some (.int (nI 1)), some (.int (-1000)), some (.int (nI 2))]) rfl ?_
  refine n_iinc (k := 1) (x := 2) dJ6_stringSize_0f7a4_36 (by decide) rfl rfl (by decide) ?_
  refine v_ls (ls2 := [some (.int (-1015)), some (.int (nI 1)), some (.int (-1000)), some (.int (nI 3))]) rfl ?_
  refine v_goto (tgt := 16) dJ6_stringSize_0f7a4_39 (by decide) ?_
  refine v_iload_n dJ6_stringSize_0f7a4_16 rfl ?_
  refine v_bipush (v := nI 10) dJ6_stringSize_0f7a4_17 (by decide) ?_
  refine v_icmp_ge (tgt := 42) dJ6_stringSize_0f7a4_19 (by decide) (fun c => absurd c (by decide)) (fun _ => ?_)
  refine v_iload_n dJ6_stringSize_0f7a4_22 rfl ?_
  refine v_iload_n dJ6_stringSize_0f7a4_23 rfl ?_
  refine v_icmp_le (tgt := 31) dJ6_stringSize_0f7a4_24 (by decide) (fun _ => ?_) (fun c => absurd c (by decide))
  refine v_bipush (v := nI 10) dJ6_stringSize_0f7a4_31 (by decide) ?_
  refine v_iload_n dJ6_stringSize_0f7a4_33 rfl ?_
  refine v_imul dJ6_stringSize_0f7a4_34 ?_
  refine v_st (st2 := [.int (-10000)]) (by rw [show ((nI 10 : Int32) * (-1000)) = (-10000) from by decide]) ?_
  refine v_istore_n dJ6_stringSize_0f7a4_35 rfl (by decide) ?_
  refine v_ls (ls2 := [some (.int (-1015)), some (.int (nI 1)), some (.int (-10000)), some (.int (nI 3))]) rfl ?_
  refine n_iinc (k := 1) (x := 3) dJ6_stringSize_0f7a4_36 (by decide) rfl rfl (by decide) ?_
  refine v_ls (ls2 := [some (.int (-1015)), some (.int (nI 1)), some (.int (-10000)), some (.int (nI 4))]) rfl ?_
  refine v_goto (tgt := 16) dJ6_stringSize_0f7a4_39 (by decide) ?_
  refine v_iload_n dJ6_stringSize_0f7a4_16 rfl ?_
  refine v_bipush (v := nI 10) dJ6_stringSize_0f7a4_17 (by decide) ?_
  refine v_icmp_ge (tgt := 42) dJ6_stringSize_0f7a4_19 (by decide) (fun c => absurd c (by decide)) (fun _ => ?_)
  refine v_iload_n dJ6_stringSize_0f7a4_22 rfl ?_
  refine v_iload_n dJ6_stringSize_0f7a4_23 rfl ?_
  refine v_icmp_le (tgt := 31) dJ6_stringSize_0f7a4_24 (by decide) (fun c => absurd c (by decide)) (fun _ => ?_)
  refine v_iload_n dJ6_stringSize_0f7a4_27 rfl ?_
  refine v_iload_n dJ6_stringSize_0f7a4_28 rfl ?_
  refine v_iadd dJ6_stringSize_0f7a4_29 ?_
  refine v_st (st2 := [.int (nI 5)]) (by rw [show ((nI 4 : Int32) + nI 1) = nI 5 from by decide]) ?_
  refine v_iret dJ6_stringSize_0f7a4_30 rfl ?_ (by omega) (by omega)
  exact ⟨rfl, rfl, rfl⟩
set_option maxRecDepth 20000 in
set_option maxHeartbeats 4000000 in
theorem t_N6_getChars {l : Launch} {G : vG} {h : AH} {n : Nat} {a m k : Nat} {f : Nat → Int32} (ha : h a = some (.inl (gC G 2, m, .inl f))) (hm : k + 5 ≤ m) (hm2 : m ≤ 60000) : Mt l G mJ6_getChars_ba4f3 [.int (-1015), .int (nI (k + 5)), .ref a] (n) h 0 0 (fun r n2 h2 => r = some (.int (nI k)) ∧ n2 = n ∧ ∃ g : Nat → Int32, h2 a = some (.inl (gC G 2, m, .inl g)) ∧ (sb_Fit f → sb_Fit g) ∧ (∀ j, j < k → g j = f j) ∧ (∀ i, i < 5 → g (k + i) = sb_b (ngL.1 i)) ∧ offn 1 a h h2) := by
  refine Mt.of (by decide) (Nat.le_of_ble_eq_true rfl) rfl ?_
  refine v_ls (ls2 := [some (.int (-1015)), some (.int (nI (k + 5))), some (.ref a), none, none, none, none]) rfl ?_
  refine v_iload_n dJ6_getChars_ba4f3_0 rfl ?_
  refine v_istore dJ6_getChars_ba4f3_1 rfl (by decide) ?_
  refine v_ls (ls2 := [some (.int (-1015)), some (.int (nI (k + 5))), some (.ref a), none, none, some (.int (nI (k + 5))), none]) rfl ?_
  refine v_iload_n dJ6_getChars_ba4f3_3 rfl ?_
  refine v_if_ge (tgt := 11) dJ6_getChars_ba4f3_4 (by decide) (fun c => absurd c (by decide)) (fun _ => ?_)
  refine v_iconst (v := nI 1) dJ6_getChars_ba4f3_7 (by decide) ?_
  refine v_goto (tgt := 12) dJ6_getChars_ba4f3_8 (by decide) ?_
  refine v_istore dJ6_getChars_ba4f3_12 rfl (by decide) ?_
  refine v_ls (ls2 := [some (.int (-1015)), some (.int (nI (k + 5))), some (.ref a), none, none, some (.int (nI (k + 5))), some (.int (nI 1))]) rfl ?_
  refine v_iload dJ6_getChars_ba4f3_14 rfl ?_
  refine v_if_ne (tgt := 22) dJ6_getChars_ba4f3_16 (by decide) (fun _ => ?_) (fun c => absurd c (by decide))
  refine v_iload_n dJ6_getChars_ba4f3_22 rfl ?_
  refine v_bipush (v := (-100)) dJ6_getChars_ba4f3_23 (by decide) ?_
  refine v_icmp_gt (tgt := 72) dJ6_getChars_ba4f3_25 (by decide) (fun c => absurd c (by decide)) (fun _ => ?_)
  refine v_iload_n dJ6_getChars_ba4f3_28 rfl ?_
  refine v_bipush (v := nI 100) dJ6_getChars_ba4f3_29 (by decide) ?_
  refine v_idiv dJ6_getChars_ba4f3_31 (by decide) ?_
  refine v_st (st2 := [.int (-10)]) (by rw [show (((-1015) : Int32) / nI 100) = (-10) from by decide]) ?_
  refine v_istore_n dJ6_getChars_ba4f3_32 rfl (by decide) ?_
  refine v_ls (ls2 := [some (.int (-1015)), some (.int (nI (k + 5))), some (.ref a), some (.int (-10)), none, some (.int (nI (k + 5))), some (.int (nI 1))]) rfl ?_
  refine v_iload_n dJ6_getChars_ba4f3_33 rfl ?_
  refine v_bipush (v := nI 100) dJ6_getChars_ba4f3_34 (by decide) ?_
  refine v_imul dJ6_getChars_ba4f3_36 ?_
  refine v_st (st2 := [.int (-1000)]) (by rw [show (((-10) : Int32) * nI 100) = (-1000) from by decide]) ?_
  refine v_iload_n dJ6_getChars_ba4f3_37 rfl ?_
  refine v_isub dJ6_getChars_ba4f3_38 ?_
  refine v_st (st2 := [.int (nI 15)]) (by rw [show (((-1000) : Int32) - (-1015)) = nI 15 from by decide]) ?_
  refine v_istore dJ6_getChars_ba4f3_39 rfl (by decide) ?_
  refine v_ls (ls2 := [some (.int (-1015)), some (.int (nI (k + 5))), some (.ref a), some (.int (-10)), some (.int (nI 15)), some (.int (nI (k + 5))), some (.int (nI 1))]) rfl ?_
  refine v_iload_n dJ6_getChars_ba4f3_41 rfl ?_
  refine v_istore_n dJ6_getChars_ba4f3_42 rfl (by decide) ?_
  refine v_ls (ls2 := [some (.int (-10)), some (.int (nI (k + 5))), some (.ref a), some (.int (-10)), some (.int (nI 15)), some (.int (nI (k + 5))), some (.int (nI 1))]) rfl ?_
  refine v_aload_n dJ6_getChars_ba4f3_43 rfl ?_
  refine n_idec (x := k + 4) dJ6_getChars_ba4f3_44 (by decide) rfl rfl (by decide) ?_
  refine v_ls (ls2 := [some (.int (-10)), some (.int (nI (k + 5))), some (.ref a), some (.int (-10)), some (.int (nI 15)), some (.int (nI (k + 4))), some (.int (nI 1))]) rfl ?_
  refine v_iload dJ6_getChars_ba4f3_47 rfl ?_
  refine v_gs1 dJ6_getChars_ba4f3_49 q4_102 ?_
  refine v_iload dJ6_getChars_ba4f3_52 rfl ?_
  refine v_t1 (j := 15) dJ6_getChars_ba4f3_54 (by decide) ?_
  refine v_st (st2 := [.int (nI 53), .int (nI (k + 4)), .ref a]) (by rw [dg_1 (j := 15) (v := 53) (by decide)]) ?_
  refine n_bastN (j := k + 4) (v := 53) dJ6_getChars_ba4f3_55 ha (by omega) (by omega) ?_
  refine nw (fun h1 f1 s1 => ?_)
  have fa21 := f1
  have sa21 := s1
  clear f1 s1
  have fr21 : offn 1 a h _ := offn_in offn_rf sa21 (by omega)
  refine v_aload_n dJ6_getChars_ba4f3_56 rfl ?_
  refine n_idec (x := k + 3) dJ6_getChars_ba4f3_57 (by decide) rfl rfl (by decide) ?_
  refine v_ls (ls2 := [some (.int (-10)), some (.int (nI (k + 5))), some (.ref a), some (.int (-10)), some (.int (nI 15)), some (.int (nI (k + 3))), some (.int (nI 1))]) rfl ?_
  refine v_iload dJ6_getChars_ba4f3_60 rfl ?_
  refine v_gsT dJ6_getChars_ba4f3_62 q4_104 ?_
  refine v_iload dJ6_getChars_ba4f3_65 rfl ?_
  refine v_tT (j := 15) dJ6_getChars_ba4f3_67 (by decide) ?_
  refine v_st (st2 := [.int (nI 49), .int (nI (k + 3)), .ref a]) (by rw [dg_10 (j := 15) (v := 49) (by decide)]) ?_
  refine n_bastN (j := k + 3) (v := 49) dJ6_getChars_ba4f3_68 fa21 (by omega) (by omega) ?_
  refine nw (fun h1 f1 s1 => ?_)
  have fa22 := f1
  have sa22 := s1
  clear f1 s1
  have fr22 : offn 1 a h _ := offn_in fr21 sa22 (by omega)
  refine v_goto (tgt := 22) dJ6_getChars_ba4f3_69 (by decide) ?_
  refine v_iload_n dJ6_getChars_ba4f3_22 rfl ?_
  refine v_bipush (v := (-100)) dJ6_getChars_ba4f3_23 (by decide) ?_
  refine v_icmp_gt (tgt := 72) dJ6_getChars_ba4f3_25 (by decide) (fun _ => ?_) (fun c => absurd c (by decide))
  refine v_aload_n dJ6_getChars_ba4f3_72 rfl ?_
  refine n_idec (x := k + 2) dJ6_getChars_ba4f3_73 (by decide) rfl rfl (by decide) ?_
  refine v_ls (ls2 := [some (.int (-10)), some (.int (nI (k + 5))), some (.ref a), some (.int (-10)), some (.int (nI 15)), some (.int (nI (k + 2))), some (.int (nI 1))]) rfl ?_
  refine v_iload dJ6_getChars_ba4f3_76 rfl ?_
  refine v_gs1 dJ6_getChars_ba4f3_78 q4_102 ?_
  refine v_iload_n dJ6_getChars_ba4f3_81 rfl ?_
  refine v_ineg dJ6_getChars_ba4f3_82 ?_
  refine v_st (st2 := [.int (nI 10), .ref (gA G 2 0), .int (nI (k + 2)), .ref a]) (by rw [show (-((-10) : Int32)) = nI 10 from by decide]) ?_
  refine v_t1 (j := 10) dJ6_getChars_ba4f3_83 (by decide) ?_
  refine v_st (st2 := [.int (nI 48), .int (nI (k + 2)), .ref a]) (by rw [dg_1 (j := 10) (v := 48) (by decide)]) ?_
  refine n_bastN (j := k + 2) (v := 48) dJ6_getChars_ba4f3_84 fa22 (by omega) (by omega) ?_
  refine nw (fun h1 f1 s1 => ?_)
  have fa23 := f1
  have sa23 := s1
  clear f1 s1
  have fr23 : offn 1 a h _ := offn_in fr22 sa23 (by omega)
  refine v_iload_n dJ6_getChars_ba4f3_85 rfl ?_
  refine v_bipush (v := (-9)) dJ6_getChars_ba4f3_86 (by decide) ?_
  refine v_icmp_ge (tgt := 104) dJ6_getChars_ba4f3_88 (by decide) (fun c => absurd c (by decide)) (fun _ => ?_)
  refine v_aload_n dJ6_getChars_ba4f3_91 rfl ?_
  refine n_idec (x := k + 1) dJ6_getChars_ba4f3_92 (by decide) rfl rfl (by decide) ?_
  refine v_ls (ls2 := [some (.int (-10)), some (.int (nI (k + 5))), some (.ref a), some (.int (-10)), some (.int (nI 15)), some (.int (nI (k + 1))), some (.int (nI 1))]) rfl ?_
  refine v_iload dJ6_getChars_ba4f3_95 rfl ?_
  refine v_gsT dJ6_getChars_ba4f3_97 q4_104 ?_
  refine v_iload_n dJ6_getChars_ba4f3_100 rfl ?_
  refine v_ineg dJ6_getChars_ba4f3_101 ?_
  refine v_st (st2 := [.int (nI 10), .ref (gA G 2 1), .int (nI (k + 1)), .ref a]) (by rw [show (-((-10) : Int32)) = nI 10 from by decide]) ?_
  refine v_tT (j := 10) dJ6_getChars_ba4f3_102 (by decide) ?_
  refine v_st (st2 := [.int (nI 49), .int (nI (k + 1)), .ref a]) (by rw [dg_10 (j := 10) (v := 49) (by decide)]) ?_
  refine n_bastN (j := k + 1) (v := 49) dJ6_getChars_ba4f3_103 fa23 (by omega) (by omega) ?_
  refine nw (fun h1 f1 s1 => ?_)
  have fa24 := f1
  have sa24 := s1
  clear f1 s1
  have fr24 : offn 1 a h _ := offn_in fr23 sa24 (by omega)
  refine v_iload dJ6_getChars_ba4f3_104 rfl ?_
  refine v_if_eq (tgt := 118) dJ6_getChars_ba4f3_106 (by decide) (fun c => absurd c (by decide)) (fun _ => ?_)
  refine v_aload_n dJ6_getChars_ba4f3_109 rfl ?_
  refine n_idec (x := k) dJ6_getChars_ba4f3_110 (by decide) rfl rfl (by decide) ?_
  refine v_ls (ls2 := [some (.int (-10)), some (.int (nI (k + 5))), some (.ref a), some (.int (-10)), some (.int (nI 15)), some (.int (nI k)), some (.int (nI 1))]) rfl ?_
  refine v_iload dJ6_getChars_ba4f3_113 rfl ?_
  refine v_bipush (v := nI 45) dJ6_getChars_ba4f3_115 (by decide) ?_
  refine n_bastN (j := k) (v := 45) dJ6_getChars_ba4f3_117 fa24 (by omega) (by omega) ?_
  refine nw (fun h1 f1 s1 => ?_)
  have fa25 := f1
  have sa25 := s1
  clear f1 s1
  have fr25 : offn 1 a h _ := offn_in fr24 sa25 (by omega)
  refine v_iload dJ6_getChars_ba4f3_118 rfl ?_
  refine v_iret dJ6_getChars_ba4f3_120 rfl ?_ (by omega) (by omega)
  refine ⟨rfl, rfl, _, fa25, fun hf => sb_fitU (sb_fitU (sb_fitU (sb_fitU (sb_fitU hf (sb_fitB _)) (sb_fitB _)) (sb_fitB _)) (sb_fitB _)) (sb_fitB _), fun j hj => ?_, fun i hi => ?_, fr25⟩
  · unfold upd
    rw [if_neg (by omega), if_neg (by omega), if_neg (by omega), if_neg (by omega), if_neg (by omega)]
  · obtain rfl | rfl | rfl | rfl | rfl := (by omega : i = 0 ∨ i = 1 ∨ i = 2 ∨ i = 3 ∨ i = 4)
    · unfold upd; rw [if_pos (by omega)]; rfl
    · unfold upd; rw [if_neg (by omega), if_pos (by omega)]; rfl
    · unfold upd; rw [if_neg (by omega), if_neg (by omega), if_pos (by omega)]; rfl
    · unfold upd; rw [if_neg (by omega), if_neg (by omega), if_neg (by omega), if_pos (by omega)]; rfl
    · unfold upd; rw [if_neg (by omega), if_neg (by omega), if_neg (by omega), if_neg (by omega), if_pos (by omega)]; rfl
set_option maxRecDepth 20000 in
set_option maxHeartbeats 4000000 in
theorem tn_J5_append {l : Launch} {G : vG} {h : AH} {n : Nat} {s a m k mb mc ms : Nat} {t : Nat → Nat} (hb : sbP G h s a m t k mb) (hm : m ≤ 60000) (hk : k + 5 ≤ 60000) (hqc : sb_cap (k + 5) m ≤ 60000) (hcs : m < k + 5 → 1 ≤ mc ∧ sb_cap (k + 5) m ≤ ms) : Mt l G mJ5_append_c97b9 [.ref s, .int (-1015)] (n) h mc ms (fun r n2 h2 => r = some (.ref s) ∧ ∃ a2 : Nat, sbG (k + 5) m a n a2 n2 ∧ sbP G h2 s a2 (sb_cap (k + 5) m) (sb_cat t k ngL.1) (k + 5) mb ∧ frP (fun z => z ≠ s ∧ z ≠ a ∧ z ≠ n) h h2) := by
  refine Mt.of (by decide) (Nat.le_of_ble_eq_true rfl) rfl ?_
  refine v_ls (ls2 := [some (.ref s), some (.int (-1015)), none, none]) rfl ?_
  have ⟨hs, f, ha, hL, hf, hkm⟩ := hb
  refine v_lt hs (fun hsn => ?_)
  refine v_lt ha (fun han => ?_)
  have hsa := n_obj_ne hs ha
  refine v_aload_n dJ5_append_c97b9_0 rfl ?_
  refine fJ5_79 (v := .int (nI k)) rfl dJ5_append_c97b9_1 hs rfl ?_
  refine v_istore_n dJ5_append_c97b9_4 rfl (by decide) ?_
  refine v_ls (ls2 := [some (.ref s), some (.int (-1015)), some (.int (nI k)), none]) rfl ?_
  refine v_iload_n dJ5_append_c97b9_5 rfl ?_
  refine v_iload_n dJ5_append_c97b9_6 rfl ?_
  refine v_callS (st := [.int (nI k)]) dJ5_append_c97b9_7 t_N6_stringSize wJ5_245 rfl ⟨Nat.le_of_ble_eq_true rfl, Nat.le_of_ble_eq_true rfl⟩ (Nat.le_of_ble_eq_true rfl) ⟨by omega, by omega⟩ (fun r n2 h2 hq => ?_)
  obtain ⟨rfl, hn9, rfl⟩ := hq; replace hn9 := hn9.symm; subst hn9
  refine v_st (st2 := [.int (nI (5)), .int (nI k)]) rfl ?_
  refine n_iadd (x := k) (y := 5) dJ5_append_c97b9_10 ?_
  refine v_istore_n dJ5_append_c97b9_11 rfl (by decide) ?_
  refine v_ls (ls2 := [some (.ref s), some (.int (-1015)), some (.int (nI k)), some (.int (nI (k + 5)))]) rfl ?_
  refine v_aload_n dJ5_append_c97b9_12 rfl ?_
  refine v_iload_n dJ5_append_c97b9_13 rfl ?_
  refine v_callU (st := []) dJ5_append_c97b9_14 (t_J5_ensureCapacityInternal_d00df (q := k + 5) hs ha (by omega) (by omega) (by omega) hcs hf) wJ5_100 hs rfl rfl ⟨Nat.le_of_ble_eq_true rfl, Nat.le_of_ble_eq_true rfl⟩ (Nat.le_of_ble_eq_true rfl) ⟨by omega, by omega⟩ (fun r n2 h2 hq => ?_)
  obtain ⟨rfl, a2, g, hg9, fs9, fa9, hf9, hgk, fr9⟩ := hq
  refine v_st (st2 := []) rfl ?_
  have hsa9 := n_obj_ne fs9 fa9
  have hcg := sb_cap_ge (k + 5) m
  have fr8 : frP (fun z => z ≠ s ∧ z ≠ a ∧ z ≠ n) _ _ := fun z (hz : z ≠ s ∧ z ≠ a ∧ z ≠ n) => fr9 z (by omega)
  refine v_aload_n dJ5_append_c97b9_17 rfl ?_
  refine v_callU (st := []) dJ5_append_c97b9_18 (t_J5_isLatin1_aae02 fs9 fa9) wJ5_83 fs9 rfl rfl ⟨Nat.le_of_ble_eq_true rfl, Nat.le_of_ble_eq_true rfl⟩ (Nat.le_of_ble_eq_true rfl) ⟨by omega, by omega⟩ (fun r n2 h2 hq => ?_)
  obtain ⟨rfl, hn9, rfl⟩ := hq; replace hn9 := hn9.symm; subst hn9
  refine v_st (st2 := [.int (nI 1)]) rfl ?_
  refine n_if_eq (tgt := 37) (x := 1) dJ5_append_c97b9_21 (by decide) (by decide) (fun c => absurd c (by decide)) (fun _ => ?_)
  refine v_iload_n dJ5_append_c97b9_24 rfl ?_
  refine v_iload_n dJ5_append_c97b9_25 rfl ?_
  refine v_aload_n dJ5_append_c97b9_26 rfl ?_
  refine fJ5_15 (v := .ref a2) rfl dJ5_append_c97b9_27 fs9 rfl ?_
  refine v_callS (st := []) dJ5_append_c97b9_30 (t_N6_getChars (k := k) fa9 (by omega) (by omega)) wJ5_248 rfl ⟨Nat.le_of_ble_eq_true rfl, Nat.le_of_ble_eq_true rfl⟩ (Nat.le_of_ble_eq_true rfl) ⟨by omega, by omega⟩ (fun r n2 h2 hq => ?_)
  obtain ⟨rfl, rfl, g2, fg2, hgf2, hgk2, hgd2, sg2⟩ := hq
  refine v_st (st2 := [.int (nI k)]) rfl ?_
  have fa21 := (sg2 (s) (by omega)).trans fs9
  have fr22 := frP_tr (P := fun z => z ≠ s ∧ z ≠ a ∧ z ≠ n) fr8 sg2 (fun z (hz : z ≠ s ∧ z ≠ a ∧ z ≠ n) => by omega)
  refine v_pop dJ5_append_c97b9_33 rfl ?_
  refine v_goto (tgt := 48) dJ5_append_c97b9_34 (by decide) ?_
  refine v_aload_n dJ5_append_c97b9_48 rfl ?_
  refine v_iload_n dJ5_append_c97b9_49 rfl ?_
  refine pJ5_79 rfl dJ5_append_c97b9_50 fa21 (Nat.le_of_ble_eq_true rfl) ?_
  refine nw (fun h1 f1 s1 => ?_)
  have fa23 : h1 (s) = some (.inr (0, [.ref a2, .int (nI 0), .int (nI mb), .int (nI (k + 5))])) := f1
  have sa23 := s1
  clear f1 s1
  have fa24 := (sa23 (a2) (by omega)).trans fg2
  have fr25 := frP_tr (P := fun z => z ≠ s ∧ z ≠ a ∧ z ≠ n) fr22 sa23 (fun z (hz : z ≠ s ∧ z ≠ a ∧ z ≠ n) => by omega)
  refine v_aload_n dJ5_append_c97b9_53 rfl ?_
  refine v_aret dJ5_append_c97b9_54 rfl (Or.inl ⟨_, rfl⟩) ?_ (by omega) (by omega)
  exact ⟨rfl, a2, hg9, ⟨fa23, _, fa24, sb_latPut (w := 5) hL (fun j hj => by rw [hgk2 j hj]; exact hgk j (by omega)) (fun i hi => ⟨ngL_256 i hi, hgd2 i hi⟩), hgf2 hf9, by omega⟩, fr25⟩
set_option maxRecDepth 20000 in
set_option maxHeartbeats 4000000 in
theorem tn_J4_append {l : Launch} {G : vG} {h : AH} {n : Nat} {s a m k mb mc ms : Nat} {t : Nat → Nat} (hb : sbP G h s a m t k mb) (hm : m ≤ 60000) (hk : k + 5 ≤ 60000) (hqc : sb_cap (k + 5) m ≤ 60000) (hcs : m < k + 5 → 1 ≤ mc ∧ sb_cap (k + 5) m ≤ ms) : Mt l G mJ4_append_bf812 [.ref s, .int (-1015)] (n) h mc ms (fun r n2 h2 => r = some (.ref s) ∧ ∃ a2 : Nat, sbG (k + 5) m a n a2 n2 ∧ sbP G h2 s a2 (sb_cap (k + 5) m) (sb_cat t k ngL.1) (k + 5) mb ∧ frP (fun z => z ≠ s ∧ z ≠ a ∧ z ≠ n) h h2) := by
  refine Mt.of (by decide) (Nat.le_of_ble_eq_true rfl) rfl ?_
  refine v_ls (ls2 := [some (.ref s), some (.int (-1015))]) rfl ?_
  refine v_aload_n dJ4_append_bf812_0 rfl ?_
  refine v_iload_n dJ4_append_bf812_1 rfl ?_
  refine v_callSU (st := []) dJ4_append_bf812_2 (tn_J5_append (t := t) hb hm hk hqc hcs) wJ4_53 hb.1 rfl rfl ⟨Nat.le_of_ble_eq_true rfl, Nat.le_of_ble_eq_true rfl⟩ (Nat.le_of_ble_eq_true rfl) ⟨by omega, by omega⟩ (fun r n2 h2 hq => ?_)
  obtain ⟨rfl, hz9⟩ := hq
  refine v_st (st2 := [.ref s]) rfl ?_
  refine v_pop dJ4_append_bf812_5 rfl ?_
  refine v_aload_n dJ4_append_bf812_6 rfl ?_
  refine v_aret dJ4_append_bf812_7 rfl (Or.inl ⟨_, rfl⟩) ?_ (by omega) (by omega)
  exact ⟨rfl, hz9⟩
