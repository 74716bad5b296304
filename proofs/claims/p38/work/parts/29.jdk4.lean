theorem nI_ch : ∀ c, c < 256 → narrow .char (.int (nI c)) = .int (nI c) := by decide +kernel
/-- what a StringBuilder's growing leaves: its bytes stay or are new; nothing else has changed -/
def sbG (q m a n a2 n2 : Nat) : Prop := q ≤ m ∧ a2 = a ∧ n2 = n ∨ m < q ∧ a2 = n ∧ n2 = n + 1
set_option maxRecDepth 20000 in
set_option maxHeartbeats 4000000 in
theorem t_J1_canEncode_fc78d {l : Launch} {G : vG} {h : AH} {n : Nat} {c : Nat} (hc : c < 256) : Mt l G mJ1_canEncode_fc78d [.int (nI c)] (n) h 0 0 (fun r n2 h2 => r = some (.int (nI 1)) ∧ n2 = n ∧ h2 = h) := by
  refine Mt.of (by decide) (Nat.le_of_ble_eq_true rfl) rfl ?_
  refine v_ls (ls2 := [some (.int (nI c))]) rfl ?_
  refine v_iload_n dJ1_canEncode_fc78d_0 rfl ?_
  refine v_sipush (v := nI 255) dJ1_canEncode_fc78d_1 (by decide) ?_
  refine n_icmp_gt (tgt := 11) (x := c) (y := 255) dJ1_canEncode_fc78d_4 (by decide) (by omega) (by omega) (fun c21 => ?_) (fun c21 => ?_)
  · exfalso
    omega
  · refine v_iconst (v := nI 1) dJ1_canEncode_fc78d_7 (by decide) ?_
    refine v_goto (tgt := 12) dJ1_canEncode_fc78d_8 (by decide) ?_
    refine v_zret (ty := .boolean) dJ1_canEncode_fc78d_12 rfl (by decide) ?_ (Nat.le_of_ble_eq_true rfl) (Nat.le_of_ble_eq_true rfl)
    exact ⟨rfl, rfl, rfl⟩
set_option maxRecDepth 20000 in
set_option maxHeartbeats 4000000 in
theorem tg_J5_append_3fe6f {l : Launch} {G : vG} {h : AH} {n : Nat} {s a m k mb mc ms c : Nat} {t : Nat → Nat} (hb : sbP G h s a m t k mb) (hc : c < 256) (hm : m ≤ 60000) (hk : k + 1 ≤ 60000) (hqc : sb_cap (k + 1) m ≤ 60000) (hcs : m < k + 1 → 1 ≤ mc ∧ sb_cap (k + 1) m ≤ ms) : Mt l G mJ5_append_3fe6f [.ref s, .int (nI c)] (n) h mc ms (fun r n2 h2 => r = some (.ref s) ∧ ∃ a2 : Nat, sbG (k + 1) m a n a2 n2 ∧ sbP G h2 s a2 (sb_cap (k + 1) m) (sb_cat t k (fun _ => c)) (k + 1) mb ∧ frP (fun z => z ≠ s ∧ z ≠ a ∧ z ≠ n) h h2) := by
  refine Mt.of (by decide) (Nat.le_of_ble_eq_true rfl) rfl ?_
  refine v_ls (ls2 := [some (.ref s), some (.int (nI c))]) rfl ?_
  have ⟨hs, f, ha, hL, hf, hkm⟩ := hb
  refine v_lt hs (fun hsn => ?_)
  refine v_lt ha (fun han => ?_)
  have hsa := n_obj_ne hs ha
  refine v_aload_n dJ5_append_3fe6f_0 rfl ?_
  refine v_aload_n dJ5_append_3fe6f_1 rfl ?_
  refine fJ5_79 (v := .int (nI k)) rfl dJ5_append_3fe6f_2 hs rfl ?_
  refine v_iconst (v := nI 1) dJ5_append_3fe6f_5 (by decide) ?_
  refine n_iadd (x := k) (y := 1) dJ5_append_3fe6f_6 ?_
  refine v_callU (st := []) dJ5_append_3fe6f_7 (t_J5_ensureCapacityInternal_d00df (q := k + 1) hs ha (by omega) (by omega) (by omega) hcs hf) wJ5_100 hs rfl rfl ⟨Nat.le_of_ble_eq_true rfl, Nat.le_of_ble_eq_true rfl⟩ (Nat.le_of_ble_eq_true rfl) ⟨by omega, by omega⟩ (fun r n2 h2 hq => ?_)
  obtain ⟨rfl, a2, g, hg9, fs9, fa9, hf9, hgk, fr9⟩ := hq
  refine v_st (st2 := []) rfl ?_
  have hsa9 := n_obj_ne fs9 fa9
  have hcg := sb_cap_ge (k + 1) m
  have fr8 : frP (fun z => z ≠ s ∧ z ≠ a ∧ z ≠ n) _ _ := fun z (hz : z ≠ s ∧ z ≠ a ∧ z ≠ n) => fr9 z (by omega)
  refine v_aload_n dJ5_append_3fe6f_10 rfl ?_
  refine v_callU (st := []) dJ5_append_3fe6f_11 (t_J5_isLatin1_aae02 fs9 fa9) wJ5_83 fs9 rfl rfl ⟨Nat.le_of_ble_eq_true rfl, Nat.le_of_ble_eq_true rfl⟩ (Nat.le_of_ble_eq_true rfl) ⟨by omega, by omega⟩ (fun r n2 h2 hq => ?_)
  obtain ⟨rfl, hn9, rfl⟩ := hq; replace hn9 := hn9.symm; subst hn9
  refine v_st (st2 := [.int (nI 1)]) rfl ?_
  refine n_if_eq (tgt := 45) (x := 1) dJ5_append_3fe6f_14 (by decide) (by decide) (fun c => absurd c (by decide)) (fun _ => ?_)
  refine v_iload_n dJ5_append_3fe6f_17 rfl ?_
  refine v_callS (st := []) dJ5_append_3fe6f_18 (t_J1_canEncode_fc78d (c := c) (by omega)) wJ5_191 rfl ⟨Nat.le_of_ble_eq_true rfl, Nat.le_of_ble_eq_true rfl⟩ (Nat.le_of_ble_eq_true rfl) ⟨by omega, by omega⟩ (fun r n2 h2 hq => ?_)
  obtain ⟨rfl, hn9, rfl⟩ := hq; replace hn9 := hn9.symm; subst hn9
  refine v_st (st2 := [.int (nI 1)]) rfl ?_
  refine n_if_eq (tgt := 45) (x := 1) dJ5_append_3fe6f_21 (by decide) (by decide) (fun c => absurd c (by decide)) (fun _ => ?_)
  refine v_aload_n dJ5_append_3fe6f_24 rfl ?_
  refine fJ5_15 (v := .ref a2) rfl dJ5_append_3fe6f_25 fs9 rfl ?_
  refine v_aload_n dJ5_append_3fe6f_28 rfl ?_
  refine v_dup dJ5_append_3fe6f_29 rfl ?_
  refine fJ5_79 (v := .int (nI k)) rfl dJ5_append_3fe6f_30 fs9 rfl ?_
  refine v_dup_x1 dJ5_append_3fe6f_33 rfl rfl ?_
  refine v_iconst (v := nI 1) dJ5_append_3fe6f_34 (by decide) ?_
  refine n_iadd (x := k) (y := 1) dJ5_append_3fe6f_35 ?_
  refine pJ5_79 rfl dJ5_append_3fe6f_36 fs9 (Nat.le_of_ble_eq_true rfl) ?_
  refine nw (fun h1 f1 s1 => ?_)
  have fa21 : h1 (s) = some (.inr (0, [.ref a2, .int (nI 0), .int (nI mb), .int (nI (k + 1))])) := f1
  have sa21 := s1
  clear f1 s1
  have fa22 := (sa21 (a2) (by omega)).trans fa9
  have fr23 := frP_tr (P := fun z => z ≠ s ∧ z ≠ a ∧ z ≠ n) fr8 sa21 (fun z (hz : z ≠ s ∧ z ≠ a ∧ z ≠ n) => by omega)
  refine v_iload_n dJ5_append_3fe6f_39 rfl ?_
  refine v_i2b dJ5_append_3fe6f_40 ?_
  refine v_st (st2 := [.int ((sb_b c)), .int (nI k), .ref a2]) rfl ?_
  refine n_bastS (j := k) (v := c) dJ5_append_3fe6f_41 fa22 (by omega) (by omega) ?_
  refine nw (fun h1 f1 s1 => ?_)
  have fa24 : h1 (a2) = some (.inl (gC G 2, (sb_cap (k + 1) m), .inl (upd g k (sb_b c)))) := f1
  have sa24 := s1
  clear f1 s1
  have fa25 := (sa24 (s) (by omega)).trans fa21
  have fr26 := frP_tr (P := fun z => z ≠ s ∧ z ≠ a ∧ z ≠ n) fr23 sa24 (fun z (hz : z ≠ s ∧ z ≠ a ∧ z ≠ n) => by omega)
  refine v_goto (tgt := 75) dJ5_append_3fe6f_42 (by decide) ?_
  refine v_aload_n dJ5_append_3fe6f_75 rfl ?_
  refine v_aret dJ5_append_3fe6f_76 rfl (Or.inl ⟨_, rfl⟩) ?_ (by omega) (by omega)
  exact ⟨rfl, a2, hg9, ⟨fa25, _, fa24, sb_latPut (w := 1) hL (fun j hj => by rw [pk_un (by omega)]; exact hgk j (by omega)) (fun i hi => by have i0 : i = 0 := (by omega); subst i0; exact ⟨hc, pk_us⟩), sb_fitU hf9 (sb_fitB _), by omega⟩, fr26⟩
set_option maxRecDepth 20000 in
set_option maxHeartbeats 4000000 in
theorem tg_J4_append_cf468 {l : Launch} {G : vG} {h : AH} {n : Nat} {s a m k mb mc ms c : Nat} {t : Nat → Nat} (hb : sbP G h s a m t k mb) (hc : c < 256) (hm : m ≤ 60000) (hk : k + 1 ≤ 60000) (hqc : sb_cap (k + 1) m ≤ 60000) (hcs : m < k + 1 → 1 ≤ mc ∧ sb_cap (k + 1) m ≤ ms) : Mt l G mJ4_append_cf468 [.ref s, .int (nI c)] (n) h mc ms (fun r n2 h2 => r = some (.ref s) ∧ ∃ a2 : Nat, sbG (k + 1) m a n a2 n2 ∧ sbP G h2 s a2 (sb_cap (k + 1) m) (sb_cat t k (fun _ => c)) (k + 1) mb ∧ frP (fun z => z ≠ s ∧ z ≠ a ∧ z ≠ n) h h2) := by
  refine Mt.of (by decide) (Nat.le_of_ble_eq_true rfl) rfl ?_
  refine v_ls (ls2 := [some (.ref s), some (.int (nI c))]) rfl ?_
  refine v_aload_n dJ4_append_cf468_0 rfl ?_
  refine v_iload_n dJ4_append_cf468_1 rfl ?_
  refine v_callSU (st := []) dJ4_append_cf468_2 (tg_J5_append_3fe6f (t := t) (c := c) hb (by omega) hm hk hqc hcs) wJ4_50 hb.1 rfl rfl ⟨Nat.le_of_ble_eq_true rfl, Nat.le_of_ble_eq_true rfl⟩ (Nat.le_of_ble_eq_true rfl) ⟨by omega, by omega⟩ (fun r n2 h2 hq => ?_)
  obtain ⟨rfl, hz9⟩ := hq
  refine v_st (st2 := [.ref s]) rfl ?_
  refine v_pop dJ4_append_cf468_5 rfl ?_
  refine v_aload_n dJ4_append_cf468_6 rfl ?_
  refine v_aret dJ4_append_cf468_7 rfl (Or.inl ⟨_, rfl⟩) ?_ (by omega) (by omega)
  exact ⟨rfl, hz9⟩
theorem t_J4_append_cf468 {l : Launch} {G : vG} {h : AH} {n : Nat} {s a m k mb c : Nat} {t : Nat → Nat} (hb : sbP G h s a m t k mb) (hc : c < 256) (hm : m ≤ 142) (hk : k + 1 ≤ 142) (hqc : sb_cap (k + 1) m ≤ 142) : Mt l G mJ4_append_cf468 [.ref s, .int (nI c)] (n) h 1 142 (fun r n2 h2 => r = some (.ref s) ∧ ∃ a2 : Nat, sbG (k + 1) m a n a2 n2 ∧ sbP G h2 s a2 (sb_cap (k + 1) m) (sb_cat t k (fun _ => c)) (k + 1) mb ∧ frP (fun z => z ≠ s ∧ z ≠ a ∧ z ≠ n) h h2) := tg_J4_append_cf468 hb hc (by omega) (by omega) (by omega) (fun _ => ⟨by decide, hqc⟩)
set_option maxRecDepth 20000 in
set_option maxHeartbeats 4000000 in
theorem tg_J5_append_c97b9 {l : Launch} {G : vG} {h : AH} {n : Nat} {s a m k mb mc ms x : Nat} {t : Nat → Nat} (hb : sbP G h s a m t k mb) (hx : x < 2 ^ 28) (hm : m ≤ 60000) (hk : k + sb_dg x ≤ 60000) (hqc : sb_cap (k + sb_dg x) m ≤ 60000) (hcs : m < k + sb_dg x → 1 ≤ mc ∧ sb_cap (k + sb_dg x) m ≤ ms) : Mt l G mJ5_append_c97b9 [.ref s, .int (nI x)] (n) h mc ms (fun r n2 h2 => r = some (.ref s) ∧ ∃ a2 : Nat, sbG (k + sb_dg x) m a n a2 n2 ∧ sbP G h2 s a2 (sb_cap (k + sb_dg x) m) (sb_cat t k (sb_dec x)) (k + sb_dg x) mb ∧ frP (fun z => z ≠ s ∧ z ≠ a ∧ z ≠ n) h h2) := by
  refine Mt.of (by decide) (Nat.le_of_ble_eq_true rfl) rfl ?_
  refine v_ls (ls2 := [some (.ref s), some (.int (nI x)), none, none]) rfl ?_
  have ⟨hs, f, ha, hL, hf, hkm⟩ := hb
  refine v_lt hs (fun hsn => ?_)
  refine v_lt ha (fun han => ?_)
  have hsa := n_obj_ne hs ha
  refine v_aload_n dJ5_append_c97b9_0 rfl ?_
  refine fJ5_79 (v := .int (nI k)) rfl dJ5_append_c97b9_1 hs rfl ?_
  refine v_istore_n dJ5_append_c97b9_4 rfl (by decide) ?_
  refine v_ls (ls2 := [some (.ref s), some (.int (nI x)), some (.int (nI k)), none]) rfl ?_
  refine v_iload_n dJ5_append_c97b9_5 rfl ?_
  refine v_iload_n dJ5_append_c97b9_6 rfl ?_
  refine v_callS (st := [.int (nI k)]) dJ5_append_c97b9_7 (t_J6_stringSize_0f7a4 (x := x) (by omega)) wJ5_245 rfl ⟨Nat.le_of_ble_eq_true rfl, Nat.le_of_ble_eq_true rfl⟩ (Nat.le_of_ble_eq_true rfl) ⟨by omega, by omega⟩ (fun r n2 h2 hq => ?_)
  obtain ⟨rfl, hn9, rfl⟩ := hq; replace hn9 := hn9.symm; subst hn9
  refine v_st (st2 := [.int (nI (sb_dg x)), .int (nI k)]) rfl ?_
  refine n_iadd (x := k) (y := sb_dg x) dJ5_append_c97b9_10 ?_
  refine v_istore_n dJ5_append_c97b9_11 rfl (by decide) ?_
  refine v_ls (ls2 := [some (.ref s), some (.int (nI x)), some (.int (nI k)), some (.int (nI (k + sb_dg x)))]) rfl ?_
  refine v_aload_n dJ5_append_c97b9_12 rfl ?_
  refine v_iload_n dJ5_append_c97b9_13 rfl ?_
  refine v_callU (st := []) dJ5_append_c97b9_14 (t_J5_ensureCapacityInternal_d00df (q := k + sb_dg x) hs ha (by omega) (by omega) (by omega) hcs hf) wJ5_100 hs rfl rfl ⟨Nat.le_of_ble_eq_true rfl, Nat.le_of_ble_eq_true rfl⟩ (Nat.le_of_ble_eq_true rfl) ⟨by omega, by omega⟩ (fun r n2 h2 hq => ?_)
  obtain ⟨rfl, a2, g, hg9, fs9, fa9, hf9, hgk, fr9⟩ := hq
  refine v_st (st2 := []) rfl ?_
  have hsa9 := n_obj_ne fs9 fa9
  have hcg := sb_cap_ge (k + sb_dg x) m
  have fr8 : frP (fun z => z ≠ s ∧ z ≠ a ∧ z ≠ n) _ _ := fun z (hz : z ≠ s ∧ z ≠ a ∧ z ≠ n) => fr9 z (by omega)
  refine v_aload_n dJ5_append_c97b9_17 rfl ?_
  refine v_callU (st := []) dJ5_append_c97b9_18 (t_J5_isLatin1_aae02 fs9 fa9) wJ5_83 fs9 rfl rfl ⟨Nat.le_of_ble_eq_true rfl, Nat.le_of_ble_eq_true rfl⟩ (Nat.le_of_ble_eq_true rfl) ⟨by omega, by omega⟩ (fun r n2 h2 hq => ?_)
  obtain ⟨rfl, hn9, rfl⟩ := hq; replace hn9 := hn9.symm; subst hn9
  refine v_st (st2 := [.int (nI 1)]) rfl ?_
  refine n_if_eq (tgt := 37) (x := 1) dJ5_append_c97b9_21 (by decide) (by decide) (fun c => absurd c (by decide)) (fun _ => ?_)
  refine v_iload_n dJ5_append_c97b9_24 rfl ?_
  refine v_iload_n dJ5_append_c97b9_25 rfl ?_
  refine v_aload_n dJ5_append_c97b9_26 rfl ?_
  refine fJ5_15 (v := .ref a2) rfl dJ5_append_c97b9_27 fs9 rfl ?_
  refine v_callS (st := []) dJ5_append_c97b9_30 (t_J6_getChars_ba4f3 (k := k) (x := x) (by omega) fa9 (by omega) (by omega)) wJ5_248 rfl ⟨Nat.le_of_ble_eq_true rfl, Nat.le_of_ble_eq_true rfl⟩ (Nat.le_of_ble_eq_true rfl) ⟨by omega, by omega⟩ (fun r n2 h2 hq => ?_)
  obtain ⟨rfl, rfl, g2, fg2, hgf2, hgk2, hgd2, sg2⟩ := hq
  refine v_st (st2 := [.int (nI k)]) rfl ?_
  have fa21 := (sg2 (s) (by omega)).trans fs9
  have fr22 := frP_tr (P := fun z => z ≠ s ∧ z ≠ a ∧ z ≠ n) fr8 sg2 (fun z (hz : z ≠ s ∧ z ≠ a ∧ z ≠ n) => by omega)
  refine v_pop dJ5_append_c97b9_33 rfl ?_
  refine v_goto (tgt := 48) dJ5_append_c97b9_34 (by decide) ?_
  refine v_aload_n dJ5_append_c97b9_48 rfl ?_
  refine v_iload_n dJ5_append_c97b9_49 rfl ?_
  refine pJ5_79 rfl dJ5_append_c97b9_50 fa21 (Nat.le_of_ble_eq_true rfl) ?_
  refine nw (fun h1 f1 s1 => ?_)
  have fa23 : h1 (s) = some (.inr (0, [.ref a2, .int (nI 0), .int (nI mb), .int (nI (k + sb_dg x))])) := f1
  have sa23 := s1
  clear f1 s1
  have fa24 := (sa23 (a2) (by omega)).trans fg2
  have fr25 := frP_tr (P := fun z => z ≠ s ∧ z ≠ a ∧ z ≠ n) fr22 sa23 (fun z (hz : z ≠ s ∧ z ≠ a ∧ z ≠ n) => by omega)
  refine v_aload_n dJ5_append_c97b9_53 rfl ?_
  refine v_aret dJ5_append_c97b9_54 rfl (Or.inl ⟨_, rfl⟩) ?_ (by omega) (by omega)
  exact ⟨rfl, a2, hg9, ⟨fa23, _, fa24, sb_latPut (w := sb_dg x) hL (fun j hj => by rw [hgk2 j hj]; exact hgk j (by omega)) (fun i hi => by have h9 := hgd2 (sb_dg x - 1 - i) (by omega); rw [show k + sb_dg x - 1 - (sb_dg x - 1 - i) = k + i by omega] at h9; exact ⟨by unfold sb_dec; omega, h9⟩), hgf2 hf9, by omega⟩, fr25⟩
set_option maxRecDepth 20000 in
set_option maxHeartbeats 4000000 in
theorem tg_J4_append_bf812 {l : Launch} {G : vG} {h : AH} {n : Nat} {s a m k mb mc ms x : Nat} {t : Nat → Nat} (hb : sbP G h s a m t k mb) (hx : x < 2 ^ 28) (hm : m ≤ 60000) (hk : k + sb_dg x ≤ 60000) (hqc : sb_cap (k + sb_dg x) m ≤ 60000) (hcs : m < k + sb_dg x → 1 ≤ mc ∧ sb_cap (k + sb_dg x) m ≤ ms) : Mt l G mJ4_append_bf812 [.ref s, .int (nI x)] (n) h mc ms (fun r n2 h2 => r = some (.ref s) ∧ ∃ a2 : Nat, sbG (k + sb_dg x) m a n a2 n2 ∧ sbP G h2 s a2 (sb_cap (k + sb_dg x) m) (sb_cat t k (sb_dec x)) (k + sb_dg x) mb ∧ frP (fun z => z ≠ s ∧ z ≠ a ∧ z ≠ n) h h2) := by
  refine Mt.of (by decide) (Nat.le_of_ble_eq_true rfl) rfl ?_
  refine v_ls (ls2 := [some (.ref s), some (.int (nI x))]) rfl ?_
  refine v_aload_n dJ4_append_bf812_0 rfl ?_
  refine v_iload_n dJ4_append_bf812_1 rfl ?_
  refine v_callSU (st := []) dJ4_append_bf812_2 (tg_J5_append_c97b9 (t := t) (x := x) hb (by omega) hm hk hqc hcs) wJ4_53 hb.1 rfl rfl ⟨Nat.le_of_ble_eq_true rfl, Nat.le_of_ble_eq_true rfl⟩ (Nat.le_of_ble_eq_true rfl) ⟨by omega, by omega⟩ (fun r n2 h2 hq => ?_)
  obtain ⟨rfl, hz9⟩ := hq
  refine v_st (st2 := [.ref s]) rfl ?_
  refine v_pop dJ4_append_bf812_5 rfl ?_
  refine v_aload_n dJ4_append_bf812_6 rfl ?_
  refine v_aret dJ4_append_bf812_7 rfl (Or.inl ⟨_, rfl⟩) ?_ (by omega) (by omega)
  exact ⟨rfl, hz9⟩
theorem t_J4_append_bf812 {l : Launch} {G : vG} {h : AH} {n : Nat} {s a m k mb x : Nat} {t : Nat → Nat} (hb : sbP G h s a m t k mb) (hx : x < 2 ^ 28) (hm : m ≤ 142) (hk : k + sb_dg x ≤ 142) (hqc : sb_cap (k + sb_dg x) m ≤ 142) : Mt l G mJ4_append_bf812 [.ref s, .int (nI x)] (n) h 1 142 (fun r n2 h2 => r = some (.ref s) ∧ ∃ a2 : Nat, sbG (k + sb_dg x) m a n a2 n2 ∧ sbP G h2 s a2 (sb_cap (k + sb_dg x) m) (sb_cat t k (sb_dec x)) (k + sb_dg x) mb ∧ frP (fun z => z ≠ s ∧ z ≠ a ∧ z ≠ n) h h2) := tg_J4_append_bf812 hb hx (by omega) (by omega) (by omega) (fun _ => ⟨by decide, hqc⟩)
set_option maxRecDepth 20000 in
set_option maxHeartbeats 4000000 in
theorem t_J3_checkIndexa {l : Launch} {G : vG} {h : AH} {n : Nat} {i len : Nat} (hi : i < len) (hl : len < 2 ^ 31) : Mt l G mJ3_checkIndex_8e157 [.int (nI i), .int (nI len), .null] (n) h 0 0 (fun r n2 h2 => r = some (.int (nI i)) ∧ n2 = n ∧ h2 = h) := by
  refine Mt.of (by decide) (Nat.le_of_ble_eq_true rfl) rfl ?_
  refine v_ls (ls2 := [some (.int (nI i)), some (.int (nI len)), some (.null)]) rfl ?_
  refine v_iload_n dJ3_checkIndex_8e157_0 rfl ?_
  refine n_if_lt (tgt := 9) (x := i) dJ3_checkIndex_8e157_1 (by decide) (by omega) ?_
  refine v_iload_n dJ3_checkIndex_8e157_4 rfl ?_
  refine v_iload_n dJ3_checkIndex_8e157_5 rfl ?_
  refine n_icmp_lt (tgt := 16) (x := i) (y := len) dJ3_checkIndex_8e157_6 (by decide) (by omega) (by omega) (fun c21 => ?_) (fun c21 => ?_)
  · refine v_iload_n dJ3_checkIndex_8e157_16 rfl ?_
    refine v_iret dJ3_checkIndex_8e157_17 rfl ?_ (Nat.le_of_ble_eq_true rfl) (Nat.le_of_ble_eq_true rfl)
    exact ⟨rfl, rfl, rfl⟩
  · exfalso
    omega
set_option maxRecDepth 20000 in
set_option maxHeartbeats 4000000 in
theorem t_J3_checkIndexb {l : Launch} {G : vG} {h : AH} {n : Nat} {i len tz : Nat} (hi : i < len) (hl : len < 2 ^ 31) : Mt l G mJ3_checkIndex_8e157 [.int (nI i), .int (nI len), .ref tz] (n) h 0 0 (fun r n2 h2 => r = some (.int (nI i)) ∧ n2 = n ∧ h2 = h) := by
  refine Mt.of (by decide) (Nat.le_of_ble_eq_true rfl) rfl ?_
  refine v_ls (ls2 := [some (.int (nI i)), some (.int (nI len)), some (.ref tz)]) rfl ?_
  refine v_iload_n dJ3_checkIndex_8e157_0 rfl ?_
  refine n_if_lt (tgt := 9) (x := i) dJ3_checkIndex_8e157_1 (by decide) (by omega) ?_
  refine v_iload_n dJ3_checkIndex_8e157_4 rfl ?_
  refine v_iload_n dJ3_checkIndex_8e157_5 rfl ?_
  refine n_icmp_lt (tgt := 16) (x := i) (y := len) dJ3_checkIndex_8e157_6 (by decide) (by omega) (by omega) (fun c21 => ?_) (fun c21 => ?_)
  · refine v_iload_n dJ3_checkIndex_8e157_16 rfl ?_
    refine v_iret dJ3_checkIndex_8e157_17 rfl ?_ (Nat.le_of_ble_eq_true rfl) (Nat.le_of_ble_eq_true rfl)
    exact ⟨rfl, rfl, rfl⟩
  · exfalso
    omega
theorem t_J3_checkIndex_8e157 {l : Launch} {G : vG} {h : AH} {n i len : Nat} {zf : Value} (hzf : zf = .null ∨ ∃ t, zf = .ref t) (hi : i < len) (hl : len < 2 ^ 31) : Mt l G mJ3_checkIndex_8e157 [.int (nI i), .int (nI len), zf] n h 0 0 (fun r n2 h2 => r = some (.int (nI i)) ∧ n2 = n ∧ h2 = h) := by
  rcases hzf with rfl | ⟨t, rfl⟩
  · exact t_J3_checkIndexa hi hl
  · exact t_J3_checkIndexb hi hl
set_option maxRecDepth 20000 in
set_option maxHeartbeats 4000000 in
theorem t_J0_checkIndex_df160 {l : Launch} {G : vG} {h : AH} {n : Nat} {i len : Nat} (hi : i < len) (hl : len < 2 ^ 31) : Mt l G mJ0_checkIndex_df160 [.int (nI i), .int (nI len)] (n) h 0 0 (fun r n2 h2 => r = none ∧ n2 = n ∧ h2 = h) := by
  refine Mt.of (by decide) (Nat.le_of_ble_eq_true rfl) rfl ?_
  refine v_ls (ls2 := [some (.int (nI i)), some (.int (nI len))]) rfl ?_
  refine v_iload_n dJ0_checkIndex_df160_0 rfl ?_
  refine v_iload_n dJ0_checkIndex_df160_1 rfl ?_
  refine v_gsF dJ0_checkIndex_df160_2 q3_59 (fun zf hzf => ?_)
  refine v_callS (st := []) dJ0_checkIndex_df160_5 (t_J3_checkIndex_8e157 (i := i) (len := len) hzf (by omega) (by omega)) wJ0_1059 rfl ⟨Nat.le_of_ble_eq_true rfl, Nat.le_of_ble_eq_true rfl⟩ (Nat.le_of_ble_eq_true rfl) ⟨Nat.le_of_ble_eq_true rfl, Nat.le_of_ble_eq_true rfl⟩ (fun r n2 h2 hq => ?_)
  obtain ⟨rfl, hn9, rfl⟩ := hq; replace hn9 := hn9.symm; subst hn9
  refine v_st (st2 := [.int (nI i)]) rfl ?_
  refine v_pop dJ0_checkIndex_df160_8 rfl ?_
  refine v_vret dJ0_checkIndex_df160_9 rfl ?_ (Nat.le_of_ble_eq_true rfl) (Nat.le_of_ble_eq_true rfl)
  exact ⟨rfl, rfl, rfl⟩
set_option maxRecDepth 20000 in
set_option maxHeartbeats 4000000 in
theorem t_J5_charAt_5068e {l : Launch} {G : vG} {h : AH} {n : Nat} {s a m k mb i : Nat} {t : Nat → Nat} (hb : sbP G h s a m t k mb) (hi : i < k) (hm : m ≤ 142) (ht : t i < 256) : Mt l G mJ5_charAt_5068e [.ref s, .int (nI i)] (n) h 0 0 (fun r n2 h2 => r = some (.int (nI (t i))) ∧ n2 = n ∧ h2 = h) := by
  refine Mt.of (by decide) (Nat.le_of_ble_eq_true rfl) rfl ?_
  refine v_ls (ls2 := [some (.ref s), some (.int (nI i)), none, none, none]) rfl ?_
  have ⟨hs, f, ha, hL, hf, hkm⟩ := hb
  refine v_aload_n dJ5_charAt_5068e_0 rfl ?_
  refine fJ5_22 (v := .int (nI 0)) rfl dJ5_charAt_5068e_1 hs rfl ?_
  refine v_istore_n dJ5_charAt_5068e_4 rfl (by decide) ?_
  refine v_ls (ls2 := [some (.ref s), some (.int (nI i)), some (.int (nI 0)), none, none]) rfl ?_
  refine v_aload_n dJ5_charAt_5068e_5 rfl ?_
  refine fJ5_15 (v := .ref a) rfl dJ5_charAt_5068e_6 hs rfl ?_
  refine v_astore_n dJ5_charAt_5068e_9 rfl (by decide) ?_
  refine v_ls (ls2 := [some (.ref s), some (.int (nI i)), some (.int (nI 0)), some (.ref a), none]) rfl ?_
  refine v_aload_n dJ5_charAt_5068e_10 rfl ?_
  refine fJ5_79 (v := .int (nI k)) rfl dJ5_charAt_5068e_11 hs rfl ?_
  refine v_aload_n dJ5_charAt_5068e_14 rfl ?_
  refine v_alen (t := 2) dJ5_charAt_5068e_15 ha (by decide) ?_
  refine v_st (st2 := [.int (nI m), .int (nI k)]) rfl ?_
  refine v_iload_n dJ5_charAt_5068e_16 rfl ?_
  refine v_ishr dJ5_charAt_5068e_17 ?_
  refine v_st (st2 := [.int (nI m), .int (nI k)]) (by rw [show (nI 0 : Int32) = 0 from rfl, sb_shr0]) ?_
  refine n_min (x := k) (y := m) dJ5_charAt_5068e_18 q3_55 q2_70 q1_12 q2_71 (Nat.le_of_ble_eq_true rfl) (Nat.le_of_ble_eq_true rfl) (by first | exact Nat.zero_le _ | exact Nat.le_refl _) (by first | exact Nat.zero_le _ | exact Nat.le_refl _) (by omega) (by omega) ?_
  refine v_st (st2 := [.int (nI k)]) (by rw [Nat.min_eq_left hkm]) ?_
  refine v_istore dJ5_charAt_5068e_21 rfl (by decide) ?_
  refine v_ls (ls2 := [some (.ref s), some (.int (nI i)), some (.int (nI 0)), some (.ref a), some (.int (nI k))]) rfl ?_
  refine v_iload_n dJ5_charAt_5068e_23 rfl ?_
  refine v_iload dJ5_charAt_5068e_24 rfl ?_
  refine v_callS (st := []) dJ5_charAt_5068e_26 (t_J0_checkIndex_df160 (i := i) (len := k) (by omega) (by omega)) wJ5_144 rfl ⟨Nat.le_of_ble_eq_true rfl, Nat.le_of_ble_eq_true rfl⟩ (Nat.le_of_ble_eq_true rfl) ⟨Nat.le_of_ble_eq_true rfl, Nat.le_of_ble_eq_true rfl⟩ (fun r n2 h2 hq => ?_)
  obtain ⟨rfl, hn9, rfl⟩ := hq; replace hn9 := hn9.symm; subst hn9
  refine v_st (st2 := []) rfl ?_
  refine v_iload_n dJ5_charAt_5068e_29 rfl ?_
  refine n_if_ne (tgt := 42) (x := 0) dJ5_charAt_5068e_30 (by decide) (by decide) (fun c => absurd c (by decide)) (fun _ => ?_)
  refine v_aload_n dJ5_charAt_5068e_33 rfl ?_
  refine v_iload_n dJ5_charAt_5068e_34 rfl ?_
  refine n_baldS (j := i) (y := (sb_b (t i))) dJ5_charAt_5068e_35 ha (by omega) (by omega) (hL i (by omega)).2 ?_
  refine v_sipush (v := nI 255) dJ5_charAt_5068e_36 (by decide) ?_
  refine v_iand dJ5_charAt_5068e_39 ?_
  refine v_st (st2 := [.int (nI ((t i)))]) (by rw [show sb_b (t i) &&& nI 255 = nI (t i) from (sb_byte _ (by omega)).1]) ?_
  refine n_i2c (x := (t i)) dJ5_charAt_5068e_40 (by omega) ?_
  refine v_zret (ty := .char) dJ5_charAt_5068e_41 rfl (nI_ch _ (by omega)) ?_ (Nat.le_of_ble_eq_true rfl) (Nat.le_of_ble_eq_true rfl)
  exact ⟨rfl, rfl, rfl⟩
set_option maxRecDepth 20000 in
set_option maxHeartbeats 4000000 in
theorem t_J4_charAt_5068e {l : Launch} {G : vG} {h : AH} {n : Nat} {s a m k mb i : Nat} {t : Nat → Nat} (hb : sbP G h s a m t k mb) (hi : i < k) (hm : m ≤ 142) (ht : t i < 256) : Mt l G mJ4_charAt_5068e [.ref s, .int (nI i)] (n) h 0 0 (fun r n2 h2 => r = some (.int (nI (t i))) ∧ n2 = n ∧ h2 = h) := by
  refine Mt.of (by decide) (Nat.le_of_ble_eq_true rfl) rfl ?_
  refine v_ls (ls2 := [some (.ref s), some (.int (nI i))]) rfl ?_
  refine v_aload_n dJ4_charAt_5068e_0 rfl ?_
  refine v_iload_n dJ4_charAt_5068e_1 rfl ?_
  refine v_callSU (st := []) dJ4_charAt_5068e_2 (t_J5_charAt_5068e (i := i) hb hi hm ht) wJ4_329 hb.1 rfl rfl ⟨Nat.le_of_ble_eq_true rfl, Nat.le_of_ble_eq_true rfl⟩ (Nat.le_of_ble_eq_true rfl) ⟨Nat.le_of_ble_eq_true rfl, Nat.le_of_ble_eq_true rfl⟩ (fun r n2 h2 hq => ?_)
  obtain ⟨rfl, hn9, rfl⟩ := hq; replace hn9 := hn9.symm; subst hn9
  refine v_st (st2 := [.int (nI (t i))]) rfl ?_
  refine v_zret (ty := .char) dJ4_charAt_5068e_5 rfl (nI_ch _ (by omega)) ?_ (Nat.le_of_ble_eq_true rfl) (Nat.le_of_ble_eq_true rfl)
  exact ⟨rfl, rfl, rfl⟩
set_option maxRecDepth 20000 in
set_option maxHeartbeats 4000000 in
theorem t_J5_setLength_d00df {l : Launch} {G : vG} {h : AH} {n : Nat} {s a m k mb : Nat} {t : Nat → Nat} (hb : sbP G h s a m t k mb) (hm : m ≤ 142) : Mt l G mJ5_setLength_d00df [.ref s, .int (nI 0)] (n) h 1 142 (fun r n2 h2 => r = none ∧ n2 = n ∧ ∃ mb2 : Nat, sbP G h2 s a m t 0 mb2 ∧ frP (fun z => z ≠ s ∧ z ≠ a ∧ z ≠ n) h h2) := by
  refine Mt.of (by decide) (Nat.le_of_ble_eq_true rfl) rfl ?_
  refine v_ls (ls2 := [some (.ref s), some (.int (nI 0))]) rfl ?_
  have ⟨hs, f, ha, hL, hf, hkm⟩ := hb
  refine v_lt hs (fun hsn => ?_)
  refine v_lt ha (fun han => ?_)
  have hsa := n_obj_ne hs ha
  have hz0 : sb_cap 0 m = m := cap_le (Nat.zero_le _)
  refine v_iload_n dJ5_setLength_d00df_0 rfl ?_
  refine n_if_ge (tgt := 13) (x := 0) dJ5_setLength_d00df_1 (by decide) (by omega) ?_
  refine v_aload_n dJ5_setLength_d00df_13 rfl ?_
  refine v_iload_n dJ5_setLength_d00df_14 rfl ?_
  refine v_callU (st := []) dJ5_setLength_d00df_15 (t_J5_ensureCapacityInternal_d00df (q := 0) (mc := 1) (ms := 142) hs ha (by omega) (by omega) (by omega) (fun z => absurd z (Nat.not_lt_zero m)) hf) wJ5_100 hs rfl rfl ⟨Nat.le_of_ble_eq_true rfl, Nat.le_of_ble_eq_true rfl⟩ (Nat.le_of_ble_eq_true rfl) ⟨Nat.le_of_ble_eq_true rfl, Nat.le_of_ble_eq_true rfl⟩ (fun r n2 h2 hq => ?_)
  obtain ⟨rfl, a2, g, hg9, fs9, fa9, hf9, hgk, fr9⟩ := hq
  refine v_st (st2 := []) rfl ?_
  have hsa9 := n_obj_ne fs9 fa9
  have hcg := sb_cap_ge (0) m
  have fr8 : frP (fun z => z ≠ s ∧ z ≠ a ∧ z ≠ n) _ _ := fun z (hz : z ≠ s ∧ z ≠ a ∧ z ≠ n) => fr9 z (by omega)
  refine v_aload_n dJ5_setLength_d00df_18 rfl ?_
  refine fJ5_79 (v := .int (nI k)) rfl dJ5_setLength_d00df_19 fs9 rfl ?_
  refine v_iload_n dJ5_setLength_d00df_22 rfl ?_
  refine n_icmp_ge (tgt := 63) (x := k) (y := 0) dJ5_setLength_d00df_23 (by decide) (by omega) (by omega) (fun c21 => ?_) (fun c21 => ?_)
  · refine v_aload_n dJ5_setLength_d00df_63 rfl ?_
    refine fJ5_79 (v := .int (nI k)) rfl dJ5_setLength_d00df_64 fs9 rfl ?_
    refine v_iload_n dJ5_setLength_d00df_67 rfl ?_
    refine n_icmp_le (tgt := 76) (x := k) (y := 0) dJ5_setLength_d00df_68 (by decide) (by omega) (by omega) (fun c22 => ?_) (fun c22 => ?_)
    · refine v_aload_n dJ5_setLength_d00df_76 rfl ?_
      refine v_iload_n dJ5_setLength_d00df_77 rfl ?_
      refine pJ5_79 rfl dJ5_setLength_d00df_78 fs9 (Nat.le_of_ble_eq_true rfl) ?_
      refine nw (fun h1 f1 s1 => ?_)
      have fa23 : h1 (s) = some (.inr (0, [.ref a2, .int (nI 0), .int (nI mb), .int (nI 0)])) := f1
      have sa23 := s1
      clear f1 s1
      have fa24 := (sa23 (a2) (by omega)).trans fa9
      have fr25 := frP_tr (P := fun z => z ≠ s ∧ z ≠ a ∧ z ≠ n) fr8 sa23 (fun z (hz : z ≠ s ∧ z ≠ a ∧ z ≠ n) => by omega)
      refine v_vret dJ5_setLength_d00df_81 rfl ?_ (Nat.le_of_ble_eq_true rfl) (Nat.le_of_ble_eq_true rfl)
      obtain ⟨-, rfl, rfl⟩ : 0 ≤ m ∧ a2 = a ∧ _ := hg9.resolve_right (fun z => by omega)
      exact ⟨rfl, rfl, mb, ⟨fa23, g, by rw [← cap_le (q := 0) (m := m) (Nat.zero_le _)]; exact fa24, fun j hj => absurd hj (Nat.not_lt_zero j), hf9, Nat.zero_le _⟩, fr25⟩
    · refine v_aload_n dJ5_setLength_d00df_71 rfl ?_
      refine v_iconst (v := nI 1) dJ5_setLength_d00df_72 (by decide) ?_
      refine pJ5_73 rfl dJ5_setLength_d00df_73 fs9 (Nat.le_of_ble_eq_true rfl) (by decide) (by decide) ?_
      refine nw (fun h1 f1 s1 => ?_)
      have fa26 : h1 (s) = some (.inr (0, [.ref a2, .int (nI 0), .int (nI 1), .int (nI k)])) := f1
      have sa26 := s1
      clear f1 s1
      have fa27 := (sa26 (a2) (by omega)).trans fa9
      have fr28 := frP_tr (P := fun z => z ≠ s ∧ z ≠ a ∧ z ≠ n) fr8 sa26 (fun z (hz : z ≠ s ∧ z ≠ a ∧ z ≠ n) => by omega)
      refine v_aload_n dJ5_setLength_d00df_76 rfl ?_
      refine v_iload_n dJ5_setLength_d00df_77 rfl ?_
      refine pJ5_79 rfl dJ5_setLength_d00df_78 fa26 (Nat.le_of_ble_eq_true rfl) ?_
      refine nw (fun h1 f1 s1 => ?_)
      have fa29 : h1 (s) = some (.inr (0, [.ref a2, .int (nI 0), .int (nI 1), .int (nI 0)])) := f1
      have sa29 := s1
      clear f1 s1
      have fa30 := (sa29 (a2) (by omega)).trans fa27
      have fr31 := frP_tr (P := fun z => z ≠ s ∧ z ≠ a ∧ z ≠ n) fr28 sa29 (fun z (hz : z ≠ s ∧ z ≠ a ∧ z ≠ n) => by omega)
      refine v_vret dJ5_setLength_d00df_81 rfl ?_ (Nat.le_of_ble_eq_true rfl) (Nat.le_of_ble_eq_true rfl)
      obtain ⟨-, rfl, rfl⟩ : 0 ≤ m ∧ a2 = a ∧ _ := hg9.resolve_right (fun z => by omega)
      exact ⟨rfl, rfl, 1, ⟨fa29, g, by rw [← cap_le (q := 0) (m := m) (Nat.zero_le _)]; exact fa30, fun j hj => absurd hj (Nat.not_lt_zero j), hf9, Nat.zero_le _⟩, fr31⟩
  · exfalso
    omega
set_option maxRecDepth 20000 in
set_option maxHeartbeats 4000000 in
theorem t_J4_setLength_d00df {l : Launch} {G : vG} {h : AH} {n : Nat} {s a m k mb : Nat} {t : Nat → Nat} (hb : sbP G h s a m t k mb) (hm : m ≤ 142) : Mt l G mJ4_setLength_d00df [.ref s, .int (nI 0)] (n) h 1 142 (fun r n2 h2 => r = none ∧ n2 = n ∧ ∃ mb2 : Nat, sbP G h2 s a m t 0 mb2 ∧ frP (fun z => z ≠ s ∧ z ≠ a ∧ z ≠ n) h h2) := by
  refine Mt.of (by decide) (Nat.le_of_ble_eq_true rfl) rfl ?_
  refine v_ls (ls2 := [some (.ref s), some (.int (nI 0))]) rfl ?_
  refine v_aload_n dJ4_setLength_d00df_0 rfl ?_
  refine v_iload_n dJ4_setLength_d00df_1 rfl ?_
  refine v_callSU (st := []) dJ4_setLength_d00df_2 (t_J5_setLength_d00df (t := t) hb hm) wJ4_333 hb.1 rfl rfl ⟨Nat.le_of_ble_eq_true rfl, Nat.le_of_ble_eq_true rfl⟩ (Nat.le_of_ble_eq_true rfl) ⟨Nat.le_of_ble_eq_true rfl, Nat.le_of_ble_eq_true rfl⟩ (fun r n2 h2 hq => ?_)
  obtain ⟨rfl, hz9⟩ := hq
  refine v_st (st2 := []) rfl ?_
  refine v_vret dJ4_setLength_d00df_5 rfl ?_ (Nat.le_of_ble_eq_true rfl) (Nat.le_of_ble_eq_true rfl)
  exact ⟨rfl, hz9⟩
set_option maxRecDepth 20000 in
set_option maxHeartbeats 4000000 in
theorem t_J0_coder_7d493 {l : Launch} {G : vG} {h : AH} {n : Nat} {i : Nat} (hi : i < 3) : Mt l G mJ0_coder_7d493 [.ref (gA G 0 i)] (n) h 0 0 (fun r n2 h2 => r = some (.int (nI 0)) ∧ n2 = n ∧ h2 = h) := by
  refine Mt.of (by decide) (Nat.le_of_ble_eq_true rfl) rfl ?_
  refine v_ls (ls2 := [some (.ref (gA G 0 i))]) rfl ?_
  have hl9 := st_l9 i hi
  refine v_gsC dJ0_coder_7d493_0 q3_101 ?_
  refine v_st (st2 := [.int (nI 1)]) rfl ?_
  refine n_if_eq (tgt := 13) (x := 1) dJ0_coder_7d493_3 (by decide) (by decide) (fun c => absurd c (by decide)) (fun _ => ?_)
  refine v_aload_n dJ0_coder_7d493_6 rfl ?_
  refine v_scod (i := i) dJ0_coder_7d493_7 (by omega) q4_211 ?_
  refine v_st (st2 := [.int (nI 0)]) rfl ?_
  refine v_goto (tgt := 14) dJ0_coder_7d493_10 (by decide) ?_
  refine v_zret (ty := .byte) dJ0_coder_7d493_14 rfl (by decide) ?_ (Nat.le_of_ble_eq_true rfl) (Nat.le_of_ble_eq_true rfl)
  exact ⟨rfl, rfl, rfl⟩
set_option maxRecDepth 20000 in
set_option maxHeartbeats 4000000 in
theorem t_J0_length_8abf5 {l : Launch} {G : vG} {h : AH} {n : Nat} {i : Nat} (hi : i < 3) : Mt l G mJ0_length_8abf5 [.ref (gA G 0 i)] (n) h 0 0 (fun r n2 h2 => r = some (.int (nI (st_len.getD i 0))) ∧ n2 = n ∧ h2 = h) := by
  refine Mt.of (by decide) (Nat.le_of_ble_eq_true rfl) rfl ?_
  refine v_ls (ls2 := [some (.ref (gA G 0 i))]) rfl ?_
  have hl9 := st_l9 i hi
  refine v_aload_n dJ0_length_8abf5_0 rfl ?_
  refine v_sval (i := i) dJ0_length_8abf5_1 (by omega) q4_210 ?_
  refine v_slen (i := i) dJ0_length_8abf5_4 (by omega) ?_
  refine v_aload_n dJ0_length_8abf5_5 rfl ?_
  refine v_callT (st := [.int (nI (st_len.getD i 0))]) (i := i) dJ0_length_8abf5_6 (t_J0_coder_7d493 (i := i) (by omega)) wJ0_335 (by omega) rfl rfl ⟨Nat.le_of_ble_eq_true rfl, Nat.le_of_ble_eq_true rfl⟩ (Nat.le_of_ble_eq_true rfl) ⟨Nat.le_of_ble_eq_true rfl, Nat.le_of_ble_eq_true rfl⟩ (fun r n2 h2 hq => ?_)
  obtain ⟨rfl, hn9, rfl⟩ := hq; replace hn9 := hn9.symm; subst hn9
  refine v_st (st2 := [.int (nI 0), .int (nI (st_len.getD i 0))]) rfl ?_
  refine v_ishr dJ0_length_8abf5_9 ?_
  refine v_st (st2 := [.int (nI (st_len.getD i 0))]) (by rw [show (nI 0 : Int32) = 0 from rfl, sb_shr0]) ?_
  refine v_iret dJ0_length_8abf5_10 rfl ?_ (Nat.le_of_ble_eq_true rfl) (Nat.le_of_ble_eq_true rfl)
  exact ⟨rfl, rfl, rfl⟩
