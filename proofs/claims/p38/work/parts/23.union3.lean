theorem ix_out {x : Int32} {k : Nat} (h : ¬ ixb x k = true) : x.toInt < 0 ∨ (k : Int) - 1 < x.toInt := by
  rw [ixb_iff] at h
  unfold ix at h
  omega
def qFoolN (C : Ct) (F : Nat) : Nat → Int32
  | 0 => nI (C 1 F)
  | 1 => nI (C 2 F)
  | 2 => nI (C 3 F)
  | 3 => nI (C 4 F)
  | 4 => nI (cnt (fun z => decide (hold C z ∧ C 8 z = F)) (C 0 1))
  | 5 => nI (cnt (fun z => decide (C 11 z = F)) (C 0 2))
  | 6 => nI (C 5 F)
  | _ => nI (C 6 F)
def qFool (C : Ct) (f w : Int32) : Int32 := if ixb f (C 0 0) = true then (if ixb w 8 = true then qFoolN C f.toNatClampNeg w.toNatClampNeg else -1012) else -1011
def qJokeN (C : Ct) (J : Nat) : Nat → Int32
  | 0 => nI (C 7 J)
  | 1 => if hold C J then nI (C 8 J) else -1015
  | 2 => if hold C J then nI (C 9 J - C 0 3) else nI 0
  | 3 => nI (tlS C J)
  | _ => nI (cnt (fun z => decide (C 12 z = J)) (C 0 2))
def qJoke (C : Ct) (j w : Int32) : Int32 := if ixb j (C 0 1) = true then (if ixb w 5 = true then qJokeN C j.toNatClampNeg w.toNatClampNeg else -1012) else -1011
def qThrN (C : Ct) (T : Nat) : Nat → Int32
  | 0 => nI (C 15 T)
  | 1 => nI (sm (fun j => C 10 (j * 4 + T)) (C 0 1))
  | 2 => nI (C 16 T)
  | _ => nI (cnt (fun z => decide (C 13 z = T)) (C 0 2))
def qThr (C : Ct) (t w : Int32) : Int32 := if ixb t 4 = true then (if ixb w 4 = true then qThrN C t.toNatClampNeg w.toNatClampNeg else -1012) else -1011
def qTold (C : Ct) (j t : Int32) : Int32 := if ixb j (C 0 1) = true then (if ixb t 4 = true then nI (C 10 (j.toNatClampNeg * 4 + t.toNatClampNeg)) else -1011) else -1011
def qBkN (C : Ct) (p : Nat) : Nat → Int32
  | 0 => nI (C 11 p)
  | 1 => nI (C 12 p)
  | 2 => nI (C 13 p)
  | _ => nI (C 14 p)
def qBk (C : Ct) (p w : Int32) : Int32 := if ixb p (C 0 2) = true then (if ixb w 4 = true then qBkN C p.toNatClampNeg w.toNatClampNeg else -1012) else -1011
def qWould (C : Ct) (f j t : Int32) : Int32 := if ixb f (C 0 0) = true then (if ixb j (C 0 1) = true then (if ixb t 4 = true then nI (lauN C f.toNatClampNeg j.toNatClampNeg t.toNatClampNeg) else -1011) else -1011) else -1011
def qBest (C : Ct) (f t : Int32) : Int32 := if ixb f (C 0 0) = true then (if ixb t 4 = true then oN (-1015) (bJ C f.toNatClampNeg t.toNatClampNeg (C 0 1)).1 else -1011) else -1011
def qBest2 (C : Ct) (f t : Int32) : Int32 := if ixb f (C 0 0) = true then (if ixb t 4 = true then oN (-1015) (bwO C f.toNatClampNeg t.toNatClampNeg 9 (none, 0)).1 else -1011) else -1011
set_option maxRecDepth 20000 in
set_option maxHeartbeats 4000000 in
theorem t_X6_foolOf {l : Launch} {G : vG} {h : AH} {n : Nat} {f w : Int32} {u sv b : Nat} {rs dt : Int32} {C : Ct} (hj : h u = some (jc u sv rs dt)) (hc : ct G h (u + 1) C) (hK : bdk b C) (hb2 : b + 5000 ≤ 2 ^ 28) (hi : iv C) : Mt l G mX6_foolOf [.ref u, .int f, .int w] (n) h 0 0 (fun r n2 h2 => r = some (.int (qFool C f w)) ∧ n2 = n ∧ h2 = h) := by
  refine Mt.of (by decide) (Nat.le_of_ble_eq_true rfl) rfl ?_
  refine v_ls (ls2 := [some (.ref u), some (.int f), some (.int w)]) rfl ?_
  have hB := hK.bd (by omega)
  obtain ⟨hF, hJ, hn, hs1, hc99, hs4, hs7, hs8, hs15, hbk9, hs9⟩ := hi
  have b00 := hB 0 0
  have b01 := hB 0 1
  have b02 := hB 0 2
  refine v_aload_n dX6_foolOf_0 rfl ?_
  refine fX6_10 (v := .ref (u + 1)) rfl dX6_foolOf_1 hj rfl ?_
  refine fX6_81 (v := .ref (u + 1 + 1)) rfl dX6_foolOf_4 (ck0 hc) rfl ?_
  refine v_iload_n dX6_foolOf_7 rfl ?_
  refine v_callV (st := []) dX6_foolOf_8 (t_X2_has (x := f) hc hB) wX6_85 (ck1 hc) rfl rfl ⟨Nat.le_of_ble_eq_true rfl, Nat.le_of_ble_eq_true rfl⟩ (Nat.le_of_ble_eq_true rfl) ⟨Nat.le_refl _, Nat.le_refl _⟩ (fun r n2 h2 hq => ?_)
  obtain ⟨rfl, rfl, rfl⟩ := hq
  refine v_st (st2 := [.int (nI (bI (ixb f (C 0 0) = true)))]) rfl ?_
  refine n_ifb_ne (tgt := 18) (p := ixb f (C 0 0) = true) dX6_foolOf_11 (by decide) (fun c21 => ?_) (fun c21 => ?_)
  · obtain ⟨F, hF1, rfl⟩ := ix_of c21 (by omega)
    have eF : (nI F).toNatClampNeg = F := nI_clamp (by omega)
    refine v_iload_n dX6_foolOf_18 rfl ?_
    by_cases c22 : ixb w 8 = true
    · obtain ⟨k23, hk23, rfl⟩ := ix_of c22 (by decide)
      obtain rfl | rfl | rfl | rfl | rfl | rfl | rfl | rfl := (by omega : k23 = 0 ∨ k23 = 1 ∨ k23 = 2 ∨ k23 = 3 ∨ k23 = 4 ∨ k23 = 5 ∨ k23 = 6 ∨ k23 = 7)
      · refine v_tsIn (off := 45) (tgt := 64) dX6_foolOf_19 (by decide) (by decide) (by decide) (by decide) ?_
        refine v_aload_n dX6_foolOf_64 rfl ?_
        refine fX6_10 (v := .ref (u + 1)) rfl dX6_foolOf_65 hj rfl ?_
        refine fX6_81 (v := .ref (u + 1 + 1)) rfl dX6_foolOf_68 (ck0 hc) rfl ?_
        refine fX6_91 (v := .ref (u + 1 + 2)) rfl dX6_foolOf_71 (ck1 hc) rfl ?_
        refine v_iload_n dX6_foolOf_74 rfl ?_
        refine n_ialdv (f := C 1) (j := F) (y := C 1 F) dX6_foolOf_75 (ck2 hc) (by omega) (by decide) rfl ?_
        have b24 := hK 1 F
        refine v_iret dX6_foolOf_76 rfl ?_ (Nat.le_of_ble_eq_true rfl) (Nat.le_of_ble_eq_true rfl)
        have e9 : qFool C (nI F) (nI 0) = (nI (C 1 F) : Int32) := by unfold qFool; all_goals (repeat (first | rw [if_pos (by first | assumption | omega | rfl | trivial)] | rw [if_neg (by first | assumption | omega)])); all_goals (try simp only [eF]); all_goals (try simp only [qFoolN]); all_goals (repeat (first | rw [if_pos (by first | assumption | omega | rfl | trivial)] | rw [if_neg (by first | assumption | omega)])); all_goals rfl
        exact ⟨by rw [e9], rfl, rfl⟩
      · refine v_tsIn (off := 58) (tgt := 77) dX6_foolOf_19 (by decide) (by decide) (by decide) (by decide) ?_
        refine v_aload_n dX6_foolOf_77 rfl ?_
        refine fX6_10 (v := .ref (u + 1)) rfl dX6_foolOf_78 hj rfl ?_
        refine fX6_81 (v := .ref (u + 1 + 1)) rfl dX6_foolOf_81 (ck0 hc) rfl ?_
        refine fX6_95 (v := .ref (u + 1 + 3)) rfl dX6_foolOf_84 (ck1 hc) rfl ?_
        refine v_iload_n dX6_foolOf_87 rfl ?_
        refine n_ialdv (f := C 2) (j := F) (y := C 2 F) dX6_foolOf_88 (ck3 hc) (by omega) (by decide) rfl ?_
        have b25 := hK 2 F
        refine v_iret dX6_foolOf_89 rfl ?_ (Nat.le_of_ble_eq_true rfl) (Nat.le_of_ble_eq_true rfl)
        have e9 : qFool C (nI F) (nI 1) = (nI (C 2 F) : Int32) := by unfold qFool; all_goals (repeat (first | rw [if_pos (by first | assumption | omega | rfl | trivial)] | rw [if_neg (by first | assumption | omega)])); all_goals (try simp only [eF]); all_goals (try simp only [qFoolN]); all_goals (repeat (first | rw [if_pos (by first | assumption | omega | rfl | trivial)] | rw [if_neg (by first | assumption | omega)])); all_goals rfl
        exact ⟨by rw [e9], rfl, rfl⟩
      · refine v_tsIn (off := 71) (tgt := 90) dX6_foolOf_19 (by decide) (by decide) (by decide) (by decide) ?_
        refine v_aload_n dX6_foolOf_90 rfl ?_
        refine fX6_10 (v := .ref (u + 1)) rfl dX6_foolOf_91 hj rfl ?_
        refine fX6_81 (v := .ref (u + 1 + 1)) rfl dX6_foolOf_94 (ck0 hc) rfl ?_
        refine fX6_98 (v := .ref (u + 1 + 4)) rfl dX6_foolOf_97 (ck1 hc) rfl ?_
        refine v_iload_n dX6_foolOf_100 rfl ?_
        refine n_ialdv (f := C 3) (j := F) (y := C 3 F) dX6_foolOf_101 (ck4 hc) (by omega) (by decide) rfl ?_
        have b26 := hK 3 F
        refine v_iret dX6_foolOf_102 rfl ?_ (Nat.le_of_ble_eq_true rfl) (Nat.le_of_ble_eq_true rfl)
        have e9 : qFool C (nI F) (nI 2) = (nI (C 3 F) : Int32) := by unfold qFool; all_goals (repeat (first | rw [if_pos (by first | assumption | omega | rfl | trivial)] | rw [if_neg (by first | assumption | omega)])); all_goals (try simp only [eF]); all_goals (try simp only [qFoolN]); all_goals (repeat (first | rw [if_pos (by first | assumption | omega | rfl | trivial)] | rw [if_neg (by first | assumption | omega)])); all_goals rfl
        exact ⟨by rw [e9], rfl, rfl⟩
      · refine v_tsIn (off := 84) (tgt := 103) dX6_foolOf_19 (by decide) (by decide) (by decide) (by decide) ?_
        refine v_aload_n dX6_foolOf_103 rfl ?_
        refine fX6_10 (v := .ref (u + 1)) rfl dX6_foolOf_104 hj rfl ?_
        refine fX6_81 (v := .ref (u + 1 + 1)) rfl dX6_foolOf_107 (ck0 hc) rfl ?_
        refine fX6_101 (v := .ref (u + 1 + 5)) rfl dX6_foolOf_110 (ck1 hc) rfl ?_
        refine v_iload_n dX6_foolOf_113 rfl ?_
        refine n_ialdv (f := C 4) (j := F) (y := C 4 F) dX6_foolOf_114 (ck5 hc) (by omega) (by decide) rfl ?_
        have b27 := hK 4 F
        refine v_iret dX6_foolOf_115 rfl ?_ (Nat.le_of_ble_eq_true rfl) (Nat.le_of_ble_eq_true rfl)
        have e9 : qFool C (nI F) (nI 3) = (nI (C 4 F) : Int32) := by unfold qFool; all_goals (repeat (first | rw [if_pos (by first | assumption | omega | rfl | trivial)] | rw [if_neg (by first | assumption | omega)])); all_goals (try simp only [eF]); all_goals (try simp only [qFoolN]); all_goals (repeat (first | rw [if_pos (by first | assumption | omega | rfl | trivial)] | rw [if_neg (by first | assumption | omega)])); all_goals rfl
        exact ⟨by rw [e9], rfl, rfl⟩
      · refine v_tsIn (off := 97) (tgt := 116) dX6_foolOf_19 (by decide) (by decide) (by decide) (by decide) ?_
        refine v_aload_n dX6_foolOf_116 rfl ?_
        refine fX6_10 (v := .ref (u + 1)) rfl dX6_foolOf_117 hj rfl ?_
        refine v_iload_n dX6_foolOf_120 rfl ?_
        refine v_callV (st := []) dX6_foolOf_121 (t_X1_patentsOf (f := F) hc hB hJ (by omega)) wX6_104 (ck0 hc) rfl rfl ⟨Nat.le_of_ble_eq_true rfl, Nat.le_of_ble_eq_true rfl⟩ (Nat.le_of_ble_eq_true rfl) ⟨Nat.le_refl _, Nat.le_refl _⟩ (fun r n2 h2 hq => ?_)
        obtain ⟨rfl, rfl, rfl⟩ := hq
        refine v_st (st2 := [.int (nI (cnt (fun z => decide (hold C z ∧ C 8 z = F)) (C 0 1)))]) rfl ?_
        refine v_iret dX6_foolOf_124 rfl ?_ (Nat.le_of_ble_eq_true rfl) (Nat.le_of_ble_eq_true rfl)
        have e9 : qFool C (nI F) (nI 4) = (nI (cnt (fun z => decide (hold C z ∧ C 8 z = F)) (C 0 1)) : Int32) := by unfold qFool; all_goals (repeat (first | rw [if_pos (by first | assumption | omega | rfl | trivial)] | rw [if_neg (by first | assumption | omega)])); all_goals (try simp only [eF]); all_goals (try simp only [qFoolN]); all_goals (repeat (first | rw [if_pos (by first | assumption | omega | rfl | trivial)] | rw [if_neg (by first | assumption | omega)])); all_goals rfl
        exact ⟨by rw [e9], rfl, rfl⟩
      · refine v_tsIn (off := 106) (tgt := 125) dX6_foolOf_19 (by decide) (by decide) (by decide) (by decide) ?_
        refine v_aload_n dX6_foolOf_125 rfl ?_
        refine fX6_10 (v := .ref (u + 1)) rfl dX6_foolOf_126 hj rfl ?_
        refine fX6_107 (v := .ref (u + 1 + 13)) rfl dX6_foolOf_129 (ck0 hc) rfl ?_
        refine v_aload_n dX6_foolOf_132 rfl ?_
        refine fX6_10 (v := .ref (u + 1)) rfl dX6_foolOf_133 hj rfl ?_
        refine fX6_107 (v := .ref (u + 1 + 13)) rfl dX6_foolOf_136 (ck0 hc) rfl ?_
        refine fX6_111 (v := .ref (u + 1 + 14)) rfl dX6_foolOf_139 (ck13 hc) rfl ?_
        refine v_iload_n dX6_foolOf_142 rfl ?_
        refine v_callV (st := []) dX6_foolOf_143 (t_X0_with (x := F) (g := C 11) hc hB (by omega) (ck14 hc) (hB 11) (by omega)) wX6_116 (ck13 hc) rfl rfl ⟨Nat.le_of_ble_eq_true rfl, Nat.le_of_ble_eq_true rfl⟩ (Nat.le_of_ble_eq_true rfl) ⟨Nat.le_refl _, Nat.le_refl _⟩ (fun r n2 h2 hq => ?_)
        obtain ⟨rfl, rfl, rfl⟩ := hq
        refine v_st (st2 := [.int (nI (cnt (fun z => decide (C 11 z = F)) (C 0 2)))]) rfl ?_
        refine v_iret dX6_foolOf_146 rfl ?_ (Nat.le_of_ble_eq_true rfl) (Nat.le_of_ble_eq_true rfl)
        have e9 : qFool C (nI F) (nI 5) = (nI (cnt (fun z => decide (C 11 z = F)) (C 0 2)) : Int32) := by unfold qFool; all_goals (repeat (first | rw [if_pos (by first | assumption | omega | rfl | trivial)] | rw [if_neg (by first | assumption | omega)])); all_goals (try simp only [eF]); all_goals (try simp only [qFoolN]); all_goals (repeat (first | rw [if_pos (by first | assumption | omega | rfl | trivial)] | rw [if_neg (by first | assumption | omega)])); all_goals rfl
        exact ⟨by rw [e9], rfl, rfl⟩
      · refine v_tsIn (off := 128) (tgt := 147) dX6_foolOf_19 (by decide) (by decide) (by decide) (by decide) ?_
        refine v_aload_n dX6_foolOf_147 rfl ?_
        refine fX6_10 (v := .ref (u + 1)) rfl dX6_foolOf_148 hj rfl ?_
        refine fX6_81 (v := .ref (u + 1 + 1)) rfl dX6_foolOf_151 (ck0 hc) rfl ?_
        refine fX6_120 (v := .ref (u + 1 + 6)) rfl dX6_foolOf_154 (ck1 hc) rfl ?_
        refine v_iload_n dX6_foolOf_157 rfl ?_
        refine n_ialdv (f := C 5) (j := F) (y := C 5 F) dX6_foolOf_158 (ck6 hc) (by omega) (by decide) rfl ?_
        have b28 := hK 5 F
        refine v_iret dX6_foolOf_159 rfl ?_ (Nat.le_of_ble_eq_true rfl) (Nat.le_of_ble_eq_true rfl)
        have e9 : qFool C (nI F) (nI 6) = (nI (C 5 F) : Int32) := by unfold qFool; all_goals (repeat (first | rw [if_pos (by first | assumption | omega | rfl | trivial)] | rw [if_neg (by first | assumption | omega)])); all_goals (try simp only [eF]); all_goals (try simp only [qFoolN]); all_goals (repeat (first | rw [if_pos (by first | assumption | omega | rfl | trivial)] | rw [if_neg (by first | assumption | omega)])); all_goals rfl
        exact ⟨by rw [e9], rfl, rfl⟩
      · refine v_tsIn (off := 141) (tgt := 160) dX6_foolOf_19 (by decide) (by decide) (by decide) (by decide) ?_
        refine v_aload_n dX6_foolOf_160 rfl ?_
        refine fX6_10 (v := .ref (u + 1)) rfl dX6_foolOf_161 hj rfl ?_
        refine fX6_81 (v := .ref (u + 1 + 1)) rfl dX6_foolOf_164 (ck0 hc) rfl ?_
        refine fX6_123 (v := .ref (u + 1 + 7)) rfl dX6_foolOf_167 (ck1 hc) rfl ?_
        refine v_iload_n dX6_foolOf_170 rfl ?_
        refine n_ialdv (f := C 6) (j := F) (y := C 6 F) dX6_foolOf_171 (ck7 hc) (by omega) (by decide) rfl ?_
        have b29 := hK 6 F
        refine v_iret dX6_foolOf_172 rfl ?_ (Nat.le_of_ble_eq_true rfl) (Nat.le_of_ble_eq_true rfl)
        have e9 : qFool C (nI F) (nI 7) = (nI (C 6 F) : Int32) := by unfold qFool; all_goals (repeat (first | rw [if_pos (by first | assumption | omega | rfl | trivial)] | rw [if_neg (by first | assumption | omega)])); all_goals (try simp only [eF]); all_goals (try simp only [qFoolN]); all_goals (repeat (first | rw [if_pos (by first | assumption | omega | rfl | trivial)] | rw [if_neg (by first | assumption | omega)])); all_goals rfl
        exact ⟨by rw [e9], rfl, rfl⟩
    · refine v_tsOut (tgt := 173) dX6_foolOf_19 (ix_out c22) (by decide) ?_
      refine v_sipush (v := (-1012)) dX6_foolOf_173 (by decide) ?_
      refine v_iret dX6_foolOf_176 rfl ?_ (Nat.le_of_ble_eq_true rfl) (Nat.le_of_ble_eq_true rfl)
      have e9 : qFool C (nI F) w = ((-1012) : Int32) := by unfold qFool; all_goals (repeat (first | rw [if_pos (by first | assumption | omega | rfl | trivial)] | rw [if_neg (by first | assumption | omega)])); all_goals (try simp only [eF]); all_goals (try simp only [qFoolN]); all_goals (repeat (first | rw [if_pos (by first | assumption | omega | rfl | trivial)] | rw [if_neg (by first | assumption | omega)])); all_goals rfl
      exact ⟨by rw [e9], rfl, rfl⟩
  · refine v_sipush (v := (-1011)) dX6_foolOf_14 (by decide) ?_
    refine v_iret dX6_foolOf_17 rfl ?_ (Nat.le_of_ble_eq_true rfl) (Nat.le_of_ble_eq_true rfl)
    have e9 : qFool C f w = ((-1011) : Int32) := by unfold qFool; all_goals (repeat (first | rw [if_pos (by first | assumption | omega | rfl | trivial)] | rw [if_neg (by first | assumption | omega)])); all_goals (try simp only [qFoolN]); all_goals (repeat (first | rw [if_pos (by first | assumption | omega | rfl | trivial)] | rw [if_neg (by first | assumption | omega)])); all_goals rfl
    exact ⟨by rw [e9], rfl, rfl⟩
set_option maxRecDepth 20000 in
set_option maxHeartbeats 4000000 in
theorem t_X6_jokeOf {l : Launch} {G : vG} {h : AH} {n : Nat} {j w : Int32} {u sv b : Nat} {rs dt : Int32} {C : Ct} (hj : h u = some (jc u sv rs dt)) (hc : ct G h (u + 1) C) (hK : bdk b C) (hb2 : b + 5000 ≤ 2 ^ 28) (hi : iv C) : Mt l G mX6_jokeOf [.ref u, .int j, .int w] (n) h 0 0 (fun r n2 h2 => r = some (.int (qJoke C j w)) ∧ n2 = n ∧ h2 = h) := by
  refine Mt.of (by decide) (Nat.le_of_ble_eq_true rfl) rfl ?_
  refine v_ls (ls2 := [some (.ref u), some (.int j), some (.int w)]) rfl ?_
  have hB := hK.bd (by omega)
  obtain ⟨hF, hJ, hn, hs1, hc99, hs4, hs7, hs8, hs15, hbk9, hs9⟩ := hi
  have b00 := hB 0 0
  have b01 := hB 0 1
  have b02 := hB 0 2
  refine v_aload_n dX6_jokeOf_0 rfl ?_
  refine fX6_10 (v := .ref (u + 1)) rfl dX6_jokeOf_1 hj rfl ?_
  refine fX6_126 (v := .ref (u + 1 + 8)) rfl dX6_jokeOf_4 (ck0 hc) rfl ?_
  refine v_iload_n dX6_jokeOf_7 rfl ?_
  refine v_callV (st := []) dX6_jokeOf_8 (t_X4_has (x := j) hc hB) wX6_130 (ck8 hc) rfl rfl ⟨Nat.le_of_ble_eq_true rfl, Nat.le_of_ble_eq_true rfl⟩ (Nat.le_of_ble_eq_true rfl) ⟨Nat.le_refl _, Nat.le_refl _⟩ (fun r n2 h2 hq => ?_)
  obtain ⟨rfl, rfl, rfl⟩ := hq
  refine v_st (st2 := [.int (nI (bI (ixb j (C 0 1) = true)))]) rfl ?_
  refine n_ifb_ne (tgt := 18) (p := ixb j (C 0 1) = true) dX6_jokeOf_11 (by decide) (fun c21 => ?_) (fun c21 => ?_)
  · obtain ⟨J, hJ1, rfl⟩ := ix_of c21 (by omega)
    have eJ : (nI J).toNatClampNeg = J := nI_clamp (by omega)
    refine v_iload_n dX6_jokeOf_18 rfl ?_
    by_cases c22 : ixb w 5 = true
    · obtain ⟨k23, hk23, rfl⟩ := ix_of c22 (by decide)
      obtain rfl | rfl | rfl | rfl | rfl := (by omega : k23 = 0 ∨ k23 = 1 ∨ k23 = 2 ∨ k23 = 3 ∨ k23 = 4)
      · refine v_tsIn (off := 33) (tgt := 52) dX6_jokeOf_19 (by decide) (by decide) (by decide) (by decide) ?_
        refine v_aload_n dX6_jokeOf_52 rfl ?_
        refine fX6_10 (v := .ref (u + 1)) rfl dX6_jokeOf_53 hj rfl ?_
        refine fX6_126 (v := .ref (u + 1 + 8)) rfl dX6_jokeOf_56 (ck0 hc) rfl ?_
        refine fX6_133 (v := .ref (u + 1 + 9)) rfl dX6_jokeOf_59 (ck8 hc) rfl ?_
        refine v_iload_n dX6_jokeOf_62 rfl ?_
        refine n_ialdv (f := C 7) (j := J) (y := C 7 J) dX6_jokeOf_63 (ck9 hc) (by omega) (by decide) rfl ?_
        have b24 := hK 7 J
        refine v_iret dX6_jokeOf_64 rfl ?_ (Nat.le_of_ble_eq_true rfl) (Nat.le_of_ble_eq_true rfl)
        have e9 : qJoke C (nI J) (nI 0) = (nI (C 7 J) : Int32) := by unfold qJoke; all_goals (repeat (first | rw [if_pos (by first | assumption | omega | rfl | trivial)] | rw [if_neg (by first | assumption | omega)])); all_goals (try simp only [eJ]); all_goals (try simp only [qJokeN]); all_goals (repeat (first | rw [if_pos (by first | assumption | omega | rfl | trivial)] | rw [if_neg (by first | assumption | omega)])); all_goals rfl
        exact ⟨by rw [e9], rfl, rfl⟩
      · refine v_tsIn (off := 46) (tgt := 65) dX6_jokeOf_19 (by decide) (by decide) (by decide) (by decide) ?_
        refine v_aload_n dX6_jokeOf_65 rfl ?_
        refine fX6_10 (v := .ref (u + 1)) rfl dX6_jokeOf_66 hj rfl ?_
        refine v_iload_n dX6_jokeOf_69 rfl ?_
        refine v_callV (st := []) dX6_jokeOf_70 (t_X1_holds (j := J) hc hB (by omega)) wX6_136 (ck0 hc) rfl rfl ⟨Nat.le_of_ble_eq_true rfl, Nat.le_of_ble_eq_true rfl⟩ (Nat.le_of_ble_eq_true rfl) ⟨Nat.le_refl _, Nat.le_refl _⟩ (fun r n2 h2 hq => ?_)
        obtain ⟨rfl, rfl, rfl⟩ := hq
        refine v_st (st2 := [.int (nI (bI (hold C J)))]) rfl ?_
        refine n_ifb_eq (tgt := 91) (p := hold C J) dX6_jokeOf_73 (by decide) (fun c25 => ?_) (fun c25 => ?_)
        · refine v_sipush (v := (-1015)) dX6_jokeOf_91 (by decide) ?_
          refine v_iret dX6_jokeOf_94 rfl ?_ (Nat.le_of_ble_eq_true rfl) (Nat.le_of_ble_eq_true rfl)
          have e9 : qJoke C (nI J) (nI 1) = ((-1015) : Int32) := by unfold qJoke; all_goals (repeat (first | rw [if_pos (by first | assumption | omega | rfl | trivial)] | rw [if_neg (by first | assumption | omega)])); all_goals (try simp only [eJ]); all_goals (try simp only [qJokeN]); all_goals (repeat (first | rw [if_pos (by first | assumption | omega | rfl | trivial)] | rw [if_neg (by first | assumption | omega)])); all_goals rfl
          exact ⟨by rw [e9], rfl, rfl⟩
        · refine v_aload_n dX6_jokeOf_76 rfl ?_
          refine fX6_10 (v := .ref (u + 1)) rfl dX6_jokeOf_77 hj rfl ?_
          refine fX6_126 (v := .ref (u + 1 + 8)) rfl dX6_jokeOf_80 (ck0 hc) rfl ?_
          refine fX6_139 (v := .ref (u + 1 + 10)) rfl dX6_jokeOf_83 (ck8 hc) rfl ?_
          refine v_iload_n dX6_jokeOf_86 rfl ?_
          refine n_ialdv (f := C 8) (j := J) (y := C 8 J) dX6_jokeOf_87 (ck10 hc) (by omega) (by decide) rfl ?_
          have b26 := hK 8 J
          refine v_goto (tgt := 94) dX6_jokeOf_88 (by decide) ?_
          refine v_iret dX6_jokeOf_94 rfl ?_ (Nat.le_of_ble_eq_true rfl) (Nat.le_of_ble_eq_true rfl)
          have e9 : qJoke C (nI J) (nI 1) = (nI (C 8 J) : Int32) := by unfold qJoke; all_goals (repeat (first | rw [if_pos (by first | assumption | omega | rfl | trivial)] | rw [if_neg (by first | assumption | omega)])); all_goals (try simp only [eJ]); all_goals (try simp only [qJokeN]); all_goals (repeat (first | rw [if_pos (by first | assumption | omega | rfl | trivial)] | rw [if_neg (by first | assumption | omega)])); all_goals rfl
          exact ⟨by rw [e9], rfl, rfl⟩
      · refine v_tsIn (off := 76) (tgt := 95) dX6_jokeOf_19 (by decide) (by decide) (by decide) (by decide) ?_
        refine v_aload_n dX6_jokeOf_95 rfl ?_
        refine fX6_10 (v := .ref (u + 1)) rfl dX6_jokeOf_96 hj rfl ?_
        refine v_iload_n dX6_jokeOf_99 rfl ?_
        refine v_callV (st := []) dX6_jokeOf_100 (t_X1_holds (j := J) hc hB (by omega)) wX6_136 (ck0 hc) rfl rfl ⟨Nat.le_of_ble_eq_true rfl, Nat.le_of_ble_eq_true rfl⟩ (Nat.le_of_ble_eq_true rfl) ⟨Nat.le_refl _, Nat.le_refl _⟩ (fun r n2 h2 hq => ?_)
        obtain ⟨rfl, rfl, rfl⟩ := hq
        refine v_st (st2 := [.int (nI (bI (hold C J)))]) rfl ?_
        refine n_ifb_eq (tgt := 129) (p := hold C J) dX6_jokeOf_103 (by decide) (fun c27 => ?_) (fun c27 => ?_)
        · refine v_iconst (v := nI 0) dX6_jokeOf_129 (by decide) ?_
          refine v_iret dX6_jokeOf_130 rfl ?_ (Nat.le_of_ble_eq_true rfl) (Nat.le_of_ble_eq_true rfl)
          have e9 : qJoke C (nI J) (nI 2) = (nI 0 : Int32) := by unfold qJoke; all_goals (repeat (first | rw [if_pos (by first | assumption | omega | rfl | trivial)] | rw [if_neg (by first | assumption | omega)])); all_goals (try simp only [eJ]); all_goals (try simp only [qJokeN]); all_goals (repeat (first | rw [if_pos (by first | assumption | omega | rfl | trivial)] | rw [if_neg (by first | assumption | omega)])); all_goals rfl
          exact ⟨by rw [e9], rfl, rfl⟩
        · refine v_aload_n dX6_jokeOf_106 rfl ?_
          refine fX6_10 (v := .ref (u + 1)) rfl dX6_jokeOf_107 hj rfl ?_
          refine fX6_126 (v := .ref (u + 1 + 8)) rfl dX6_jokeOf_110 (ck0 hc) rfl ?_
          refine fX6_142 (v := .ref (u + 1 + 11)) rfl dX6_jokeOf_113 (ck8 hc) rfl ?_
          refine v_iload_n dX6_jokeOf_116 rfl ?_
          refine n_ialdv (f := C 9) (j := J) (y := C 9 J) dX6_jokeOf_117 (ck11 hc) (by omega) (by decide) rfl ?_
          have b28 := hK 9 J
          refine v_aload_n dX6_jokeOf_118 rfl ?_
          refine fX6_10 (v := .ref (u + 1)) rfl dX6_jokeOf_119 hj rfl ?_
          refine fX6_145 (v := .int (nI (C 0 3))) rfl dX6_jokeOf_122 (ck0 hc) rfl ?_
          have b29 := hK 0 3
          refine n_isub (x := C 9 J) (y := C 0 3) dX6_jokeOf_125 (by omega) ?_
          refine v_goto (tgt := 130) dX6_jokeOf_126 (by decide) ?_
          refine v_iret dX6_jokeOf_130 rfl ?_ (Nat.le_of_ble_eq_true rfl) (Nat.le_of_ble_eq_true rfl)
          have e9 : qJoke C (nI J) (nI 2) = (nI (C 9 J - C 0 3) : Int32) := by unfold qJoke; all_goals (repeat (first | rw [if_pos (by first | assumption | omega | rfl | trivial)] | rw [if_neg (by first | assumption | omega)])); all_goals (try simp only [eJ]); all_goals (try simp only [qJokeN]); all_goals (repeat (first | rw [if_pos (by first | assumption | omega | rfl | trivial)] | rw [if_neg (by first | assumption | omega)])); all_goals rfl
          exact ⟨by rw [e9], rfl, rfl⟩
      · refine v_tsIn (off := 112) (tgt := 131) dX6_jokeOf_19 (by decide) (by decide) (by decide) (by decide) ?_
        refine v_aload_n dX6_jokeOf_131 rfl ?_
        refine fX6_10 (v := .ref (u + 1)) rfl dX6_jokeOf_132 hj rfl ?_
        refine fX6_126 (v := .ref (u + 1 + 8)) rfl dX6_jokeOf_135 (ck0 hc) rfl ?_
        refine v_iload_n dX6_jokeOf_138 rfl ?_
        refine v_callV (st := []) dX6_jokeOf_139 (t_X4_tellings (j := J) hc hB (by omega)) wX6_148 (ck8 hc) rfl rfl ⟨Nat.le_of_ble_eq_true rfl, Nat.le_of_ble_eq_true rfl⟩ (Nat.le_of_ble_eq_true rfl) ⟨Nat.le_refl _, Nat.le_refl _⟩ (fun r n2 h2 hq => ?_)
        obtain ⟨rfl, rfl, rfl⟩ := hq
        refine v_st (st2 := [.int (nI (tlS C J))]) rfl ?_
        refine v_iret dX6_jokeOf_142 rfl ?_ (Nat.le_of_ble_eq_true rfl) (Nat.le_of_ble_eq_true rfl)
        have e9 : qJoke C (nI J) (nI 3) = (nI (tlS C J) : Int32) := by unfold qJoke; all_goals (repeat (first | rw [if_pos (by first | assumption | omega | rfl | trivial)] | rw [if_neg (by first | assumption | omega)])); all_goals (try simp only [eJ]); all_goals (try simp only [qJokeN]); all_goals (repeat (first | rw [if_pos (by first | assumption | omega | rfl | trivial)] | rw [if_neg (by first | assumption | omega)])); all_goals rfl
        exact ⟨by rw [e9], rfl, rfl⟩
      · refine v_tsIn (off := 124) (tgt := 143) dX6_jokeOf_19 (by decide) (by decide) (by decide) (by decide) ?_
        refine v_aload_n dX6_jokeOf_143 rfl ?_
        refine fX6_10 (v := .ref (u + 1)) rfl dX6_jokeOf_144 hj rfl ?_
        refine fX6_107 (v := .ref (u + 1 + 13)) rfl dX6_jokeOf_147 (ck0 hc) rfl ?_
        refine v_aload_n dX6_jokeOf_150 rfl ?_
        refine fX6_10 (v := .ref (u + 1)) rfl dX6_jokeOf_151 hj rfl ?_
        refine fX6_107 (v := .ref (u + 1 + 13)) rfl dX6_jokeOf_154 (ck0 hc) rfl ?_
        refine fX6_151 (v := .ref (u + 1 + 15)) rfl dX6_jokeOf_157 (ck13 hc) rfl ?_
        refine v_iload_n dX6_jokeOf_160 rfl ?_
        refine v_callV (st := []) dX6_jokeOf_161 (t_X0_with (x := J) (g := C 12) hc hB (by omega) (ck15 hc) (hB 12) (by omega)) wX6_116 (ck13 hc) rfl rfl ⟨Nat.le_of_ble_eq_true rfl, Nat.le_of_ble_eq_true rfl⟩ (Nat.le_of_ble_eq_true rfl) ⟨Nat.le_refl _, Nat.le_refl _⟩ (fun r n2 h2 hq => ?_)
        obtain ⟨rfl, rfl, rfl⟩ := hq
        refine v_st (st2 := [.int (nI (cnt (fun z => decide (C 12 z = J)) (C 0 2)))]) rfl ?_
        refine v_iret dX6_jokeOf_164 rfl ?_ (Nat.le_of_ble_eq_true rfl) (Nat.le_of_ble_eq_true rfl)
        have e9 : qJoke C (nI J) (nI 4) = (nI (cnt (fun z => decide (C 12 z = J)) (C 0 2)) : Int32) := by unfold qJoke; all_goals (repeat (first | rw [if_pos (by first | assumption | omega | rfl | trivial)] | rw [if_neg (by first | assumption | omega)])); all_goals (try simp only [eJ]); all_goals (try simp only [qJokeN]); all_goals (repeat (first | rw [if_pos (by first | assumption | omega | rfl | trivial)] | rw [if_neg (by first | assumption | omega)])); all_goals rfl
        exact ⟨by rw [e9], rfl, rfl⟩
    · refine v_tsOut (tgt := 165) dX6_jokeOf_19 (ix_out c22) (by decide) ?_
      refine v_sipush (v := (-1012)) dX6_jokeOf_165 (by decide) ?_
      refine v_iret dX6_jokeOf_168 rfl ?_ (Nat.le_of_ble_eq_true rfl) (Nat.le_of_ble_eq_true rfl)
      have e9 : qJoke C (nI J) w = ((-1012) : Int32) := by unfold qJoke; all_goals (repeat (first | rw [if_pos (by first | assumption | omega | rfl | trivial)] | rw [if_neg (by first | assumption | omega)])); all_goals (try simp only [eJ]); all_goals (try simp only [qJokeN]); all_goals (repeat (first | rw [if_pos (by first | assumption | omega | rfl | trivial)] | rw [if_neg (by first | assumption | omega)])); all_goals rfl
      exact ⟨by rw [e9], rfl, rfl⟩
  · refine v_sipush (v := (-1011)) dX6_jokeOf_14 (by decide) ?_
    refine v_iret dX6_jokeOf_17 rfl ?_ (Nat.le_of_ble_eq_true rfl) (Nat.le_of_ble_eq_true rfl)
    have e9 : qJoke C j w = ((-1011) : Int32) := by unfold qJoke; all_goals (repeat (first | rw [if_pos (by first | assumption | omega | rfl | trivial)] | rw [if_neg (by first | assumption | omega)])); all_goals (try simp only [qJokeN]); all_goals (repeat (first | rw [if_pos (by first | assumption | omega | rfl | trivial)] | rw [if_neg (by first | assumption | omega)])); all_goals rfl
    exact ⟨by rw [e9], rfl, rfl⟩
set_option maxRecDepth 20000 in
set_option maxHeartbeats 4000000 in
theorem t_X6_throneOf {l : Launch} {G : vG} {h : AH} {n : Nat} {t w : Int32} {u sv b : Nat} {rs dt : Int32} {C : Ct} (hj : h u = some (jc u sv rs dt)) (hc : ct G h (u + 1) C) (hK : bdk b C) (hb2 : b + 5000 ≤ 2 ^ 28) (hi : iv C) : Mt l G mX6_throneOf [.ref u, .int t, .int w] (n) h 0 0 (fun r n2 h2 => r = some (.int (qThr C t w)) ∧ n2 = n ∧ h2 = h) := by
  refine Mt.of (by decide) (Nat.le_of_ble_eq_true rfl) rfl ?_
  refine v_ls (ls2 := [some (.ref u), some (.int t), some (.int w)]) rfl ?_
  have hB := hK.bd (by omega)
  obtain ⟨hF, hJ, hn, hs1, hc99, hs4, hs7, hs8, hs15, hbk9, hs9⟩ := hi
  have b00 := hB 0 0
  have b01 := hB 0 1
  have b02 := hB 0 2
  refine v_iload_n dX6_throneOf_0 rfl ?_
  refine v_callS (st := []) dX6_throneOf_1 (t_X6_isThrone (x := t)) wX6_158 rfl ⟨Nat.le_of_ble_eq_true rfl, Nat.le_of_ble_eq_true rfl⟩ (Nat.le_of_ble_eq_true rfl) ⟨Nat.le_refl _, Nat.le_refl _⟩ (fun r n2 h2 hq => ?_)
  obtain ⟨rfl, rfl, rfl⟩ := hq
  refine v_st (st2 := [.int (nI (bI (ixb t 4 = true)))]) rfl ?_
  refine n_ifb_ne (tgt := 11) (p := ixb t 4 = true) dX6_throneOf_4 (by decide) (fun c21 => ?_) (fun c21 => ?_)
  · obtain ⟨T, hT1, rfl⟩ := ix_of c21 (by omega)
    have eT : (nI T).toNatClampNeg = T := nI_clamp (by omega)
    refine v_iload_n dX6_throneOf_11 rfl ?_
    by_cases c22 : ixb w 4 = true
    · obtain ⟨k23, hk23, rfl⟩ := ix_of c22 (by decide)
      obtain rfl | rfl | rfl | rfl := (by omega : k23 = 0 ∨ k23 = 1 ∨ k23 = 2 ∨ k23 = 3)
      · refine v_tsIn (off := 32) (tgt := 44) dX6_throneOf_12 (by decide) (by decide) (by decide) (by decide) ?_
        refine v_aload_n dX6_throneOf_44 rfl ?_
        refine fX6_10 (v := .ref (u + 1)) rfl dX6_throneOf_45 hj rfl ?_
        refine fX6_161 (v := .ref (u + 1 + 18)) rfl dX6_throneOf_48 (ck0 hc) rfl ?_
        refine v_iload_n dX6_throneOf_51 rfl ?_
        refine n_ialdv (f := C 15) (j := T) (y := C 15 T) dX6_throneOf_52 (ck18 hc) (by omega) (by decide) rfl ?_
        have b24 := hK 15 T
        refine v_iret dX6_throneOf_53 rfl ?_ (Nat.le_of_ble_eq_true rfl) (Nat.le_of_ble_eq_true rfl)
        have e9 : qThr C (nI T) (nI 0) = (nI (C 15 T) : Int32) := by unfold qThr; all_goals (repeat (first | rw [if_pos (by first | assumption | omega | rfl | trivial)] | rw [if_neg (by first | assumption | omega)])); all_goals (try simp only [eT]); all_goals (try simp only [qThrN]); all_goals (repeat (first | rw [if_pos (by first | assumption | omega | rfl | trivial)] | rw [if_neg (by first | assumption | omega)])); all_goals rfl
        exact ⟨by rw [e9], rfl, rfl⟩
      · refine v_tsIn (off := 42) (tgt := 54) dX6_throneOf_12 (by decide) (by decide) (by decide) (by decide) ?_
        refine v_aload_n dX6_throneOf_54 rfl ?_
        refine fX6_10 (v := .ref (u + 1)) rfl dX6_throneOf_55 hj rfl ?_
        refine fX6_126 (v := .ref (u + 1 + 8)) rfl dX6_throneOf_58 (ck0 hc) rfl ?_
        refine v_iload_n dX6_throneOf_61 rfl ?_
        refine v_callV (st := []) dX6_throneOf_62 (t_X4_tellingsAt (t := T) hc hB (by omega) (by omega)) wX6_164 (ck8 hc) rfl rfl ⟨Nat.le_of_ble_eq_true rfl, Nat.le_of_ble_eq_true rfl⟩ (Nat.le_of_ble_eq_true rfl) ⟨Nat.le_refl _, Nat.le_refl _⟩ (fun r n2 h2 hq => ?_)
        obtain ⟨rfl, rfl, rfl⟩ := hq
        refine v_st (st2 := [.int (nI (sm (fun j => C 10 (j * 4 + T)) (C 0 1)))]) rfl ?_
        refine v_iret dX6_throneOf_65 rfl ?_ (Nat.le_of_ble_eq_true rfl) (Nat.le_of_ble_eq_true rfl)
        have e9 : qThr C (nI T) (nI 1) = (nI (sm (fun j => C 10 (j * 4 + T)) (C 0 1)) : Int32) := by unfold qThr; all_goals (repeat (first | rw [if_pos (by first | assumption | omega | rfl | trivial)] | rw [if_neg (by first | assumption | omega)])); all_goals (try simp only [eT]); all_goals (try simp only [qThrN]); all_goals (repeat (first | rw [if_pos (by first | assumption | omega | rfl | trivial)] | rw [if_neg (by first | assumption | omega)])); all_goals rfl
        exact ⟨by rw [e9], rfl, rfl⟩
      · refine v_tsIn (off := 54) (tgt := 66) dX6_throneOf_12 (by decide) (by decide) (by decide) (by decide) ?_
        refine v_aload_n dX6_throneOf_66 rfl ?_
        refine fX6_10 (v := .ref (u + 1)) rfl dX6_throneOf_67 hj rfl ?_
        refine fX6_167 (v := .ref (u + 1 + 19)) rfl dX6_throneOf_70 (ck0 hc) rfl ?_
        refine v_iload_n dX6_throneOf_73 rfl ?_
        refine n_ialdv (f := C 16) (j := T) (y := C 16 T) dX6_throneOf_74 (ck19 hc) (by omega) (by decide) rfl ?_
        have b25 := hK 16 T
        refine v_iret dX6_throneOf_75 rfl ?_ (Nat.le_of_ble_eq_true rfl) (Nat.le_of_ble_eq_true rfl)
        have e9 : qThr C (nI T) (nI 2) = (nI (C 16 T) : Int32) := by unfold qThr; all_goals (repeat (first | rw [if_pos (by first | assumption | omega | rfl | trivial)] | rw [if_neg (by first | assumption | omega)])); all_goals (try simp only [eT]); all_goals (try simp only [qThrN]); all_goals (repeat (first | rw [if_pos (by first | assumption | omega | rfl | trivial)] | rw [if_neg (by first | assumption | omega)])); all_goals rfl
        exact ⟨by rw [e9], rfl, rfl⟩
      · refine v_tsIn (off := 64) (tgt := 76) dX6_throneOf_12 (by decide) (by decide) (by decide) (by decide) ?_
        refine v_aload_n dX6_throneOf_76 rfl ?_
        refine fX6_10 (v := .ref (u + 1)) rfl dX6_throneOf_77 hj rfl ?_
        refine fX6_107 (v := .ref (u + 1 + 13)) rfl dX6_throneOf_80 (ck0 hc) rfl ?_
        refine v_aload_n dX6_throneOf_83 rfl ?_
        refine fX6_10 (v := .ref (u + 1)) rfl dX6_throneOf_84 hj rfl ?_
        refine fX6_107 (v := .ref (u + 1 + 13)) rfl dX6_throneOf_87 (ck0 hc) rfl ?_
        refine fX6_170 (v := .ref (u + 1 + 16)) rfl dX6_throneOf_90 (ck13 hc) rfl ?_
        refine v_iload_n dX6_throneOf_93 rfl ?_
        refine v_callV (st := []) dX6_throneOf_94 (t_X0_with (x := T) (g := C 13) hc hB (by omega) (ck16 hc) (hB 13) (by omega)) wX6_116 (ck13 hc) rfl rfl ⟨Nat.le_of_ble_eq_true rfl, Nat.le_of_ble_eq_true rfl⟩ (Nat.le_of_ble_eq_true rfl) ⟨Nat.le_refl _, Nat.le_refl _⟩ (fun r n2 h2 hq => ?_)
        obtain ⟨rfl, rfl, rfl⟩ := hq
        refine v_st (st2 := [.int (nI (cnt (fun z => decide (C 13 z = T)) (C 0 2)))]) rfl ?_
        refine v_iret dX6_throneOf_97 rfl ?_ (Nat.le_of_ble_eq_true rfl) (Nat.le_of_ble_eq_true rfl)
        have e9 : qThr C (nI T) (nI 3) = (nI (cnt (fun z => decide (C 13 z = T)) (C 0 2)) : Int32) := by unfold qThr; all_goals (repeat (first | rw [if_pos (by first | assumption | omega | rfl | trivial)] | rw [if_neg (by first | assumption | omega)])); all_goals (try simp only [eT]); all_goals (try simp only [qThrN]); all_goals (repeat (first | rw [if_pos (by first | assumption | omega | rfl | trivial)] | rw [if_neg (by first | assumption | omega)])); all_goals rfl
        exact ⟨by rw [e9], rfl, rfl⟩
    · refine v_tsOut (tgt := 98) dX6_throneOf_12 (ix_out c22) (by decide) ?_
      refine v_sipush (v := (-1012)) dX6_throneOf_98 (by decide) ?_
      refine v_iret dX6_throneOf_101 rfl ?_ (Nat.le_of_ble_eq_true rfl) (Nat.le_of_ble_eq_true rfl)
      have e9 : qThr C (nI T) w = ((-1012) : Int32) := by unfold qThr; all_goals (repeat (first | rw [if_pos (by first | assumption | omega | rfl | trivial)] | rw [if_neg (by first | assumption | omega)])); all_goals (try simp only [eT]); all_goals (try simp only [qThrN]); all_goals (repeat (first | rw [if_pos (by first | assumption | omega | rfl | trivial)] | rw [if_neg (by first | assumption | omega)])); all_goals rfl
      exact ⟨by rw [e9], rfl, rfl⟩
  · refine v_sipush (v := (-1011)) dX6_throneOf_7 (by decide) ?_
    refine v_iret dX6_throneOf_10 rfl ?_ (Nat.le_of_ble_eq_true rfl) (Nat.le_of_ble_eq_true rfl)
    have e9 : qThr C t w = ((-1011) : Int32) := by unfold qThr; all_goals (repeat (first | rw [if_pos (by first | assumption | omega | rfl | trivial)] | rw [if_neg (by first | assumption | omega)])); all_goals (try simp only [qThrN]); all_goals (repeat (first | rw [if_pos (by first | assumption | omega | rfl | trivial)] | rw [if_neg (by first | assumption | omega)])); all_goals rfl
    exact ⟨by rw [e9], rfl, rfl⟩
set_option maxRecDepth 20000 in
set_option maxHeartbeats 4000000 in
theorem t_X6_told {l : Launch} {G : vG} {h : AH} {n : Nat} {j t : Int32} {u sv b : Nat} {rs dt : Int32} {C : Ct} (hj : h u = some (jc u sv rs dt)) (hc : ct G h (u + 1) C) (hK : bdk b C) (hb2 : b + 5000 ≤ 2 ^ 28) (hi : iv C) : Mt l G mX6_told [.ref u, .int j, .int t] (n) h 0 0 (fun r n2 h2 => r = some (.int (qTold C j t)) ∧ n2 = n ∧ h2 = h) := by
  refine Mt.of (by decide) (Nat.le_of_ble_eq_true rfl) rfl ?_
  refine v_ls (ls2 := [some (.ref u), some (.int j), some (.int t)]) rfl ?_
  have hB := hK.bd (by omega)
  obtain ⟨hF, hJ, hn, hs1, hc99, hs4, hs7, hs8, hs15, hbk9, hs9⟩ := hi
  have b00 := hB 0 0
  have b01 := hB 0 1
  have b02 := hB 0 2
  refine v_aload_n dX6_told_0 rfl ?_
  refine fX6_10 (v := .ref (u + 1)) rfl dX6_told_1 hj rfl ?_
  refine fX6_126 (v := .ref (u + 1 + 8)) rfl dX6_told_4 (ck0 hc) rfl ?_
  refine v_iload_n dX6_told_7 rfl ?_
  refine v_callV (st := []) dX6_told_8 (t_X4_has (x := j) hc hB) wX6_130 (ck8 hc) rfl rfl ⟨Nat.le_of_ble_eq_true rfl, Nat.le_of_ble_eq_true rfl⟩ (Nat.le_of_ble_eq_true rfl) ⟨Nat.le_refl _, Nat.le_refl _⟩ (fun r n2 h2 hq => ?_)
  obtain ⟨rfl, rfl, rfl⟩ := hq
  refine v_st (st2 := [.int (nI (bI (ixb j (C 0 1) = true)))]) rfl ?_
  refine n_ifb_eq (tgt := 21) (p := ixb j (C 0 1) = true) dX6_told_11 (by decide) (fun c21 => ?_) (fun c21 => ?_)
  · refine v_sipush (v := (-1011)) dX6_told_21 (by decide) ?_
    refine v_iret dX6_told_24 rfl ?_ (Nat.le_of_ble_eq_true rfl) (Nat.le_of_ble_eq_true rfl)
    have e9 : qTold C j t = ((-1011) : Int32) := by unfold qTold; all_goals (repeat (first | rw [if_pos (by first | assumption | omega | rfl | trivial)] | rw [if_neg (by first | assumption | omega)])); all_goals rfl
    exact ⟨by rw [e9], rfl, rfl⟩
  · obtain ⟨J, hJ1, rfl⟩ := ix_of c21 (by omega)
    have eJ : (nI J).toNatClampNeg = J := nI_clamp (by omega)
    refine v_iload_n dX6_told_14 rfl ?_
    refine v_callS (st := []) dX6_told_15 (t_X6_isThrone (x := t)) wX6_158 rfl ⟨Nat.le_of_ble_eq_true rfl, Nat.le_of_ble_eq_true rfl⟩ (Nat.le_of_ble_eq_true rfl) ⟨Nat.le_refl _, Nat.le_refl _⟩ (fun r n2 h2 hq => ?_)
    obtain ⟨rfl, rfl, rfl⟩ := hq
    refine v_st (st2 := [.int (nI (bI (ixb t 4 = true)))]) rfl ?_
    refine n_ifb_ne (tgt := 25) (p := ixb t 4 = true) dX6_told_18 (by decide) (fun c22 => ?_) (fun c22 => ?_)
    · obtain ⟨T, hT1, rfl⟩ := ix_of c22 (by omega)
      have eT : (nI T).toNatClampNeg = T := nI_clamp (by omega)
      refine v_aload_n dX6_told_25 rfl ?_
      refine fX6_10 (v := .ref (u + 1)) rfl dX6_told_26 hj rfl ?_
      refine fX6_126 (v := .ref (u + 1 + 8)) rfl dX6_told_29 (ck0 hc) rfl ?_
      refine v_iload_n dX6_told_32 rfl ?_
      refine v_iload_n dX6_told_33 rfl ?_
      refine v_callV (st := []) dX6_told_34 (t_X4_toldAt (j := J) (t := T) hc hB (by omega) (by omega)) wX6_173 (ck8 hc) rfl rfl ⟨Nat.le_of_ble_eq_true rfl, Nat.le_of_ble_eq_true rfl⟩ (Nat.le_of_ble_eq_true rfl) ⟨Nat.le_refl _, Nat.le_refl _⟩ (fun r n2 h2 hq => ?_)
      obtain ⟨rfl, rfl, rfl⟩ := hq
      refine v_st (st2 := [.int (nI (C 10 (J * 4 + T)))]) rfl ?_
      refine v_iret dX6_told_37 rfl ?_ (Nat.le_of_ble_eq_true rfl) (Nat.le_of_ble_eq_true rfl)
      have e9 : qTold C (nI J) (nI T) = (nI (C 10 (J * 4 + T)) : Int32) := by unfold qTold; all_goals (repeat (first | rw [if_pos (by first | assumption | omega | rfl | trivial)] | rw [if_neg (by first | assumption | omega)])); all_goals (try simp only [eJ, eT]); all_goals rfl
      exact ⟨by rw [e9], rfl, rfl⟩
    · refine v_sipush (v := (-1011)) dX6_told_21 (by decide) ?_
      refine v_iret dX6_told_24 rfl ?_ (Nat.le_of_ble_eq_true rfl) (Nat.le_of_ble_eq_true rfl)
      have e9 : qTold C (nI J) t = ((-1011) : Int32) := by unfold qTold; all_goals (repeat (first | rw [if_pos (by first | assumption | omega | rfl | trivial)] | rw [if_neg (by first | assumption | omega)])); all_goals (try simp only [eJ]); all_goals rfl
      exact ⟨by rw [e9], rfl, rfl⟩
set_option maxRecDepth 20000 in
set_option maxHeartbeats 4000000 in
theorem t_X6_booking {l : Launch} {G : vG} {h : AH} {n : Nat} {p w : Int32} {u sv b : Nat} {rs dt : Int32} {C : Ct} (hj : h u = some (jc u sv rs dt)) (hc : ct G h (u + 1) C) (hK : bdk b C) (hb2 : b + 5000 ≤ 2 ^ 28) (hi : iv C) : Mt l G mX6_booking [.ref u, .int p, .int w] (n) h 0 0 (fun r n2 h2 => r = some (.int (qBk C p w)) ∧ n2 = n ∧ h2 = h) := by
  refine Mt.of (by decide) (Nat.le_of_ble_eq_true rfl) rfl ?_
  refine v_ls (ls2 := [some (.ref u), some (.int p), some (.int w)]) rfl ?_
  have hB := hK.bd (by omega)
  obtain ⟨hF, hJ, hn, hs1, hc99, hs4, hs7, hs8, hs15, hbk9, hs9⟩ := hi
  have b00 := hB 0 0
  have b01 := hB 0 1
  have b02 := hB 0 2
  refine v_iload_n dX6_booking_0 rfl ?_
  refine v_if_lt (tgt := 18) dX6_booking_1 (by decide) (fun c21 => ?_) (fun c21 => ?_)
  · have cz : ¬ ixb p (C 0 2) = true := fun z => by rw [ixb_iff] at z; unfold ix at z; rw [i_neg] at c21; omega
    refine v_sipush (v := (-1011)) dX6_booking_18 (by decide) ?_
    refine v_iret dX6_booking_21 rfl ?_ (Nat.le_of_ble_eq_true rfl) (Nat.le_of_ble_eq_true rfl)
    have e9 : qBk C p w = ((-1011) : Int32) := by unfold qBk; all_goals (repeat (first | rw [if_pos (by first | assumption | omega | rfl | trivial)] | rw [if_neg (by first | assumption | omega)])); all_goals (try simp only [qBkN]); all_goals (repeat (first | rw [if_pos (by first | assumption | omega | rfl | trivial)] | rw [if_neg (by first | assumption | omega)])); all_goals rfl
    exact ⟨by rw [e9], rfl, rfl⟩
  · refine v_iload_n dX6_booking_4 rfl ?_
    refine v_aload_n dX6_booking_5 rfl ?_
    refine fX6_10 (v := .ref (u + 1)) rfl dX6_booking_6 hj rfl ?_
    refine fX6_107 (v := .ref (u + 1 + 13)) rfl dX6_booking_9 (ck0 hc) rfl ?_
    refine fX6_187 (v := .int (nI (C 0 2))) rfl dX6_booking_12 (ck13 hc) rfl ?_
    have b22 := hK 0 2
    refine v_icmp_lt (tgt := 22) dX6_booking_15 (by decide) (fun c23 => ?_) (fun c23 => ?_)
    · have cz : ixb p (C 0 2) = true := by rw [ixb_iff]; unfold ix; rw [i_neg] at c21; rw [i_ltN (by omega)] at c23; omega
      obtain ⟨P, hP1, rfl⟩ := ix_of cz (by omega)
      have eP : (nI P).toNatClampNeg = P := nI_clamp (by omega)
      refine v_iload_n dX6_booking_22 rfl ?_
      by_cases c24 : ixb w 4 = true
      · obtain ⟨k25, hk25, rfl⟩ := ix_of c24 (by decide)
        obtain rfl | rfl | rfl | rfl := (by omega : k25 = 0 ∨ k25 = 1 ∨ k25 = 2 ∨ k25 = 3)
        · refine v_tsIn (off := 29) (tgt := 52) dX6_booking_23 (by decide) (by decide) (by decide) (by decide) ?_
          refine v_aload_n dX6_booking_52 rfl ?_
          refine fX6_10 (v := .ref (u + 1)) rfl dX6_booking_53 hj rfl ?_
          refine fX6_107 (v := .ref (u + 1 + 13)) rfl dX6_booking_56 (ck0 hc) rfl ?_
          refine fX6_111 (v := .ref (u + 1 + 14)) rfl dX6_booking_59 (ck13 hc) rfl ?_
          refine v_iload_n dX6_booking_62 rfl ?_
          refine n_ialdv (f := C 11) (j := P) (y := C 11 P) dX6_booking_63 (ck14 hc) (by omega) (by decide) rfl ?_
          have b26 := hK 11 P
          refine v_iret dX6_booking_64 rfl ?_ (Nat.le_of_ble_eq_true rfl) (Nat.le_of_ble_eq_true rfl)
          have e9 : qBk C (nI P) (nI 0) = (nI (C 11 P) : Int32) := by unfold qBk; all_goals (repeat (first | rw [if_pos (by first | assumption | omega | rfl | trivial)] | rw [if_neg (by first | assumption | omega)])); all_goals (try simp only [eP]); all_goals (try simp only [qBkN]); all_goals (repeat (first | rw [if_pos (by first | assumption | omega | rfl | trivial)] | rw [if_neg (by first | assumption | omega)])); all_goals rfl
          exact ⟨by rw [e9], rfl, rfl⟩
        · refine v_tsIn (off := 42) (tgt := 65) dX6_booking_23 (by decide) (by decide) (by decide) (by decide) ?_
          refine v_aload_n dX6_booking_65 rfl ?_
          refine fX6_10 (v := .ref (u + 1)) rfl dX6_booking_66 hj rfl ?_
          refine fX6_107 (v := .ref (u + 1 + 13)) rfl dX6_booking_69 (ck0 hc) rfl ?_
          refine fX6_151 (v := .ref (u + 1 + 15)) rfl dX6_booking_72 (ck13 hc) rfl ?_
          refine v_iload_n dX6_booking_75 rfl ?_
          refine n_ialdv (f := C 12) (j := P) (y := C 12 P) dX6_booking_76 (ck15 hc) (by omega) (by decide) rfl ?_
          have b27 := hK 12 P
          refine v_iret dX6_booking_77 rfl ?_ (Nat.le_of_ble_eq_true rfl) (Nat.le_of_ble_eq_true rfl)
          have e9 : qBk C (nI P) (nI 1) = (nI (C 12 P) : Int32) := by unfold qBk; all_goals (repeat (first | rw [if_pos (by first | assumption | omega | rfl | trivial)] | rw [if_neg (by first | assumption | omega)])); all_goals (try simp only [eP]); all_goals (try simp only [qBkN]); all_goals (repeat (first | rw [if_pos (by first | assumption | omega | rfl | trivial)] | rw [if_neg (by first | assumption | omega)])); all_goals rfl
          exact ⟨by rw [e9], rfl, rfl⟩
        · refine v_tsIn (off := 55) (tgt := 78) dX6_booking_23 (by decide) (by decide) (by decide) (by decide) ?_
          refine v_aload_n dX6_booking_78 rfl ?_
          refine fX6_10 (v := .ref (u + 1)) rfl dX6_booking_79 hj rfl ?_
          refine fX6_107 (v := .ref (u + 1 + 13)) rfl dX6_booking_82 (ck0 hc) rfl ?_
          refine fX6_170 (v := .ref (u + 1 + 16)) rfl dX6_booking_85 (ck13 hc) rfl ?_
          refine v_iload_n dX6_booking_88 rfl ?_
          refine n_ialdv (f := C 13) (j := P) (y := C 13 P) dX6_booking_89 (ck16 hc) (by omega) (by decide) rfl ?_
          have b28 := hK 13 P
          refine v_iret dX6_booking_90 rfl ?_ (Nat.le_of_ble_eq_true rfl) (Nat.le_of_ble_eq_true rfl)
          have e9 : qBk C (nI P) (nI 2) = (nI (C 13 P) : Int32) := by unfold qBk; all_goals (repeat (first | rw [if_pos (by first | assumption | omega | rfl | trivial)] | rw [if_neg (by first | assumption | omega)])); all_goals (try simp only [eP]); all_goals (try simp only [qBkN]); all_goals (repeat (first | rw [if_pos (by first | assumption | omega | rfl | trivial)] | rw [if_neg (by first | assumption | omega)])); all_goals rfl
          exact ⟨by rw [e9], rfl, rfl⟩
        · refine v_tsIn (off := 68) (tgt := 91) dX6_booking_23 (by decide) (by decide) (by decide) (by decide) ?_
          refine v_aload_n dX6_booking_91 rfl ?_
          refine fX6_10 (v := .ref (u + 1)) rfl dX6_booking_92 hj rfl ?_
          refine fX6_107 (v := .ref (u + 1 + 13)) rfl dX6_booking_95 (ck0 hc) rfl ?_
          refine fX6_190 (v := .ref (u + 1 + 17)) rfl dX6_booking_98 (ck13 hc) rfl ?_
          refine v_iload_n dX6_booking_101 rfl ?_
          refine n_ialdv (f := C 14) (j := P) (y := C 14 P) dX6_booking_102 (ck17 hc) (by omega) (by decide) rfl ?_
          have b29 := hK 14 P
          refine v_iret dX6_booking_103 rfl ?_ (Nat.le_of_ble_eq_true rfl) (Nat.le_of_ble_eq_true rfl)
          have e9 : qBk C (nI P) (nI 3) = (nI (C 14 P) : Int32) := by unfold qBk; all_goals (repeat (first | rw [if_pos (by first | assumption | omega | rfl | trivial)] | rw [if_neg (by first | assumption | omega)])); all_goals (try simp only [eP]); all_goals (try simp only [qBkN]); all_goals (repeat (first | rw [if_pos (by first | assumption | omega | rfl | trivial)] | rw [if_neg (by first | assumption | omega)])); all_goals rfl
          exact ⟨by rw [e9], rfl, rfl⟩
      · refine v_tsOut (tgt := 104) dX6_booking_23 (ix_out c24) (by decide) ?_
        refine v_sipush (v := (-1012)) dX6_booking_104 (by decide) ?_
        refine v_iret dX6_booking_107 rfl ?_ (Nat.le_of_ble_eq_true rfl) (Nat.le_of_ble_eq_true rfl)
        have e9 : qBk C (nI P) w = ((-1012) : Int32) := by unfold qBk; all_goals (repeat (first | rw [if_pos (by first | assumption | omega | rfl | trivial)] | rw [if_neg (by first | assumption | omega)])); all_goals (try simp only [eP]); all_goals (try simp only [qBkN]); all_goals (repeat (first | rw [if_pos (by first | assumption | omega | rfl | trivial)] | rw [if_neg (by first | assumption | omega)])); all_goals rfl
        exact ⟨by rw [e9], rfl, rfl⟩
    · have cz : ¬ ixb p (C 0 2) = true := fun z => by rw [ixb_iff] at z; unfold ix at z; rw [i_ltN (by omega)] at c23; omega
      refine v_sipush (v := (-1011)) dX6_booking_18 (by decide) ?_
      refine v_iret dX6_booking_21 rfl ?_ (Nat.le_of_ble_eq_true rfl) (Nat.le_of_ble_eq_true rfl)
      have e9 : qBk C p w = ((-1011) : Int32) := by unfold qBk; all_goals (repeat (first | rw [if_pos (by first | assumption | omega | rfl | trivial)] | rw [if_neg (by first | assumption | omega)])); all_goals (try simp only [qBkN]); all_goals (repeat (first | rw [if_pos (by first | assumption | omega | rfl | trivial)] | rw [if_neg (by first | assumption | omega)])); all_goals rfl
      exact ⟨by rw [e9], rfl, rfl⟩
set_option maxRecDepth 20000 in
set_option maxHeartbeats 4000000 in
theorem t_X6_would {l : Launch} {G : vG} {h : AH} {n : Nat} {f j t : Int32} {u sv b : Nat} {rs dt : Int32} {C : Ct} (hj : h u = some (jc u sv rs dt)) (hc : ct G h (u + 1) C) (hK : bdk b C) (hb2 : b + 5000 ≤ 2 ^ 28) (hi : iv C) : Mt l G mX6_would [.ref u, .int f, .int j, .int t] (n) h 0 0 (fun r n2 h2 => r = some (.int (qWould C f j t)) ∧ n2 = n ∧ h2 = h) := by
  refine Mt.of (by decide) (Nat.le_of_ble_eq_true rfl) rfl ?_
  refine v_ls (ls2 := [some (.ref u), some (.int f), some (.int j), some (.int t)]) rfl ?_
  have hB := hK.bd (by omega)
  obtain ⟨hF, hJ, hn, hs1, hc99, hs4, hs7, hs8, hs15, hbk9, hs9⟩ := hi
  have b00 := hB 0 0
  have b01 := hB 0 1
  have b02 := hB 0 2
  refine v_aload_n dX6_would_0 rfl ?_
  refine fX6_10 (v := .ref (u + 1)) rfl dX6_would_1 hj rfl ?_
  refine fX6_81 (v := .ref (u + 1 + 1)) rfl dX6_would_4 (ck0 hc) rfl ?_
  refine v_iload_n dX6_would_7 rfl ?_
  refine v_callV (st := []) dX6_would_8 (t_X2_has (x := f) hc hB) wX6_85 (ck1 hc) rfl rfl ⟨Nat.le_of_ble_eq_true rfl, Nat.le_of_ble_eq_true rfl⟩ (Nat.le_of_ble_eq_true rfl) ⟨Nat.le_refl _, Nat.le_refl _⟩ (fun r n2 h2 hq => ?_)
  obtain ⟨rfl, rfl, rfl⟩ := hq
  refine v_st (st2 := [.int (nI (bI (ixb f (C 0 0) = true)))]) rfl ?_
  refine n_ifb_eq (tgt := 35) (p := ixb f (C 0 0) = true) dX6_would_11 (by decide) (fun c21 => ?_) (fun c21 => ?_)
  · refine v_sipush (v := (-1011)) dX6_would_35 (by decide) ?_
    refine v_iret dX6_would_38 rfl ?_ (Nat.le_of_ble_eq_true rfl) (Nat.le_of_ble_eq_true rfl)
    have e9 : qWould C f j t = ((-1011) : Int32) := by unfold qWould; all_goals (repeat (first | rw [if_pos (by first | assumption | omega | rfl | trivial)] | rw [if_neg (by first | assumption | omega)])); all_goals rfl
    exact ⟨by rw [e9], rfl, rfl⟩
  · obtain ⟨F, hF1, rfl⟩ := ix_of c21 (by omega)
    have eF : (nI F).toNatClampNeg = F := nI_clamp (by omega)
    refine v_aload_n dX6_would_14 rfl ?_
    refine fX6_10 (v := .ref (u + 1)) rfl dX6_would_15 hj rfl ?_
    refine fX6_126 (v := .ref (u + 1 + 8)) rfl dX6_would_18 (ck0 hc) rfl ?_
    refine v_iload_n dX6_would_21 rfl ?_
    refine v_callV (st := []) dX6_would_22 (t_X4_has (x := j) hc hB) wX6_130 (ck8 hc) rfl rfl ⟨Nat.le_of_ble_eq_true rfl, Nat.le_of_ble_eq_true rfl⟩ (Nat.le_of_ble_eq_true rfl) ⟨Nat.le_refl _, Nat.le_refl _⟩ (fun r n2 h2 hq => ?_)
    obtain ⟨rfl, rfl, rfl⟩ := hq
    refine v_st (st2 := [.int (nI (bI (ixb j (C 0 1) = true)))]) rfl ?_
    refine n_ifb_eq (tgt := 35) (p := ixb j (C 0 1) = true) dX6_would_25 (by decide) (fun c22 => ?_) (fun c22 => ?_)
    · refine v_sipush (v := (-1011)) dX6_would_35 (by decide) ?_
      refine v_iret dX6_would_38 rfl ?_ (Nat.le_of_ble_eq_true rfl) (Nat.le_of_ble_eq_true rfl)
      have e9 : qWould C (nI F) j t = ((-1011) : Int32) := by unfold qWould; all_goals (repeat (first | rw [if_pos (by first | assumption | omega | rfl | trivial)] | rw [if_neg (by first | assumption | omega)])); all_goals (try simp only [eF]); all_goals rfl
      exact ⟨by rw [e9], rfl, rfl⟩
    · obtain ⟨J, hJ1, rfl⟩ := ix_of c22 (by omega)
      have eJ : (nI J).toNatClampNeg = J := nI_clamp (by omega)
      refine v_iload_n dX6_would_28 rfl ?_
      refine v_callS (st := []) dX6_would_29 (t_X6_isThrone (x := t)) wX6_158 rfl ⟨Nat.le_of_ble_eq_true rfl, Nat.le_of_ble_eq_true rfl⟩ (Nat.le_of_ble_eq_true rfl) ⟨Nat.le_refl _, Nat.le_refl _⟩ (fun r n2 h2 hq => ?_)
      obtain ⟨rfl, rfl, rfl⟩ := hq
      refine v_st (st2 := [.int (nI (bI (ixb t 4 = true)))]) rfl ?_
      refine n_ifb_ne (tgt := 39) (p := ixb t 4 = true) dX6_would_32 (by decide) (fun c23 => ?_) (fun c23 => ?_)
      · obtain ⟨T, hT1, rfl⟩ := ix_of c23 (by omega)
        have eT : (nI T).toNatClampNeg = T := nI_clamp (by omega)
        refine v_aload_n dX6_would_39 rfl ?_
        refine fX6_10 (v := .ref (u + 1)) rfl dX6_would_40 hj rfl ?_
        refine v_iload_n dX6_would_43 rfl ?_
        refine v_iload_n dX6_would_44 rfl ?_
        refine v_iload_n dX6_would_45 rfl ?_
        refine v_callV (st := []) dX6_would_46 (t_X1_laughsNow (f := F) (j := J) (t := T) hc hB (by omega) (by omega) (by omega)) wX6_192 (ck0 hc) rfl rfl ⟨Nat.le_of_ble_eq_true rfl, Nat.le_of_ble_eq_true rfl⟩ (Nat.le_of_ble_eq_true rfl) ⟨Nat.le_refl _, Nat.le_refl _⟩ (fun r n2 h2 hq => ?_)
        obtain ⟨rfl, rfl, rfl⟩ := hq
        have bl24 := lauN_bd hB F J T
        refine v_st (st2 := [.int (nI (lauN C F J T))]) rfl ?_
        refine v_iret dX6_would_49 rfl ?_ (Nat.le_of_ble_eq_true rfl) (Nat.le_of_ble_eq_true rfl)
        have e9 : qWould C (nI F) (nI J) (nI T) = (nI (lauN C F J T) : Int32) := by unfold qWould; all_goals (repeat (first | rw [if_pos (by first | assumption | omega | rfl | trivial)] | rw [if_neg (by first | assumption | omega)])); all_goals (try simp only [eF, eJ, eT]); all_goals rfl
        exact ⟨by rw [e9], rfl, rfl⟩
      · refine v_sipush (v := (-1011)) dX6_would_35 (by decide) ?_
        refine v_iret dX6_would_38 rfl ?_ (Nat.le_of_ble_eq_true rfl) (Nat.le_of_ble_eq_true rfl)
        have e9 : qWould C (nI F) (nI J) t = ((-1011) : Int32) := by unfold qWould; all_goals (repeat (first | rw [if_pos (by first | assumption | omega | rfl | trivial)] | rw [if_neg (by first | assumption | omega)])); all_goals (try simp only [eF, eJ]); all_goals rfl
        exact ⟨by rw [e9], rfl, rfl⟩
set_option maxRecDepth 20000 in
set_option maxHeartbeats 4000000 in
theorem t_X6_best {l : Launch} {G : vG} {h : AH} {n : Nat} {f t : Int32} {u sv b : Nat} {rs dt : Int32} {C : Ct} (hj : h u = some (jc u sv rs dt)) (hc : ct G h (u + 1) C) (hK : bdk b C) (hb2 : b + 5000 ≤ 2 ^ 28) (hi : iv C) : Mt l G mX6_best [.ref u, .int f, .int t] (n) h 0 0 (fun r n2 h2 => r = some (.int (qBest C f t)) ∧ n2 = n ∧ h2 = h) := by
  refine Mt.of (by decide) (Nat.le_of_ble_eq_true rfl) rfl ?_
  refine v_ls (ls2 := [some (.ref u), some (.int f), some (.int t)]) rfl ?_
  have hB := hK.bd (by omega)
  obtain ⟨hF, hJ, hn, hs1, hc99, hs4, hs7, hs8, hs15, hbk9, hs9⟩ := hi
  have b00 := hB 0 0
  have b01 := hB 0 1
  have b02 := hB 0 2
  refine v_aload_n dX6_best_0 rfl ?_
  refine fX6_10 (v := .ref (u + 1)) rfl dX6_best_1 hj rfl ?_
  refine fX6_81 (v := .ref (u + 1 + 1)) rfl dX6_best_4 (ck0 hc) rfl ?_
  refine v_iload_n dX6_best_7 rfl ?_
  refine v_callV (st := []) dX6_best_8 (t_X2_has (x := f) hc hB) wX6_85 (ck1 hc) rfl rfl ⟨Nat.le_of_ble_eq_true rfl, Nat.le_of_ble_eq_true rfl⟩ (Nat.le_of_ble_eq_true rfl) ⟨Nat.le_refl _, Nat.le_refl _⟩ (fun r n2 h2 hq => ?_)
  obtain ⟨rfl, rfl, rfl⟩ := hq
  refine v_st (st2 := [.int (nI (bI (ixb f (C 0 0) = true)))]) rfl ?_
  refine n_ifb_eq (tgt := 21) (p := ixb f (C 0 0) = true) dX6_best_11 (by decide) (fun c21 => ?_) (fun c21 => ?_)
  · refine v_sipush (v := (-1011)) dX6_best_21 (by decide) ?_
    refine v_iret dX6_best_24 rfl ?_ (Nat.le_of_ble_eq_true rfl) (Nat.le_of_ble_eq_true rfl)
    have e9 : qBest C f t = ((-1011) : Int32) := by unfold qBest; all_goals (repeat (first | rw [if_pos (by first | assumption | omega | rfl | trivial)] | rw [if_neg (by first | assumption | omega)])); all_goals rfl
    exact ⟨by rw [e9], rfl, rfl⟩
  · obtain ⟨F, hF1, rfl⟩ := ix_of c21 (by omega)
    have eF : (nI F).toNatClampNeg = F := nI_clamp (by omega)
    refine v_iload_n dX6_best_14 rfl ?_
    refine v_callS (st := []) dX6_best_15 (t_X6_isThrone (x := t)) wX6_158 rfl ⟨Nat.le_of_ble_eq_true rfl, Nat.le_of_ble_eq_true rfl⟩ (Nat.le_of_ble_eq_true rfl) ⟨Nat.le_refl _, Nat.le_refl _⟩ (fun r n2 h2 hq => ?_)
    obtain ⟨rfl, rfl, rfl⟩ := hq
    refine v_st (st2 := [.int (nI (bI (ixb t 4 = true)))]) rfl ?_
    refine n_ifb_ne (tgt := 25) (p := ixb t 4 = true) dX6_best_18 (by decide) (fun c22 => ?_) (fun c22 => ?_)
    · obtain ⟨T, hT1, rfl⟩ := ix_of c22 (by omega)
      have eT : (nI T).toNatClampNeg = T := nI_clamp (by omega)
      refine v_aload_n dX6_best_25 rfl ?_
      refine fX6_10 (v := .ref (u + 1)) rfl dX6_best_26 hj rfl ?_
      refine v_iload_n dX6_best_29 rfl ?_
      refine v_iload_n dX6_best_30 rfl ?_
      refine v_callV (st := []) dX6_best_31 (t_X1_bestJokeByJoke (f := F) (t := T) hc hB (by omega) (by omega) (by omega)) wX6_195 (ck0 hc) rfl rfl ⟨Nat.le_of_ble_eq_true rfl, Nat.le_of_ble_eq_true rfl⟩ (Nat.le_of_ble_eq_true rfl) ⟨Nat.le_refl _, Nat.le_refl _⟩ (fun r n2 h2 hq => ?_)
      obtain ⟨rfl, rfl, rfl⟩ := hq
      refine v_st (st2 := [.int (oN (-1015) (bJ C F T (C 0 1)).1)]) rfl ?_
      refine v_iret dX6_best_34 rfl ?_ (Nat.le_of_ble_eq_true rfl) (Nat.le_of_ble_eq_true rfl)
      have e9 : qBest C (nI F) (nI T) = (oN (-1015) (bJ C F T (C 0 1)).1 : Int32) := by unfold qBest; all_goals (repeat (first | rw [if_pos (by first | assumption | omega | rfl | trivial)] | rw [if_neg (by first | assumption | omega)])); all_goals (try simp only [eF, eT]); all_goals rfl
      exact ⟨by rw [e9], rfl, rfl⟩
    · refine v_sipush (v := (-1011)) dX6_best_21 (by decide) ?_
      refine v_iret dX6_best_24 rfl ?_ (Nat.le_of_ble_eq_true rfl) (Nat.le_of_ble_eq_true rfl)
      have e9 : qBest C (nI F) t = ((-1011) : Int32) := by unfold qBest; all_goals (repeat (first | rw [if_pos (by first | assumption | omega | rfl | trivial)] | rw [if_neg (by first | assumption | omega)])); all_goals (try simp only [eF]); all_goals rfl
      exact ⟨by rw [e9], rfl, rfl⟩
set_option maxRecDepth 20000 in
set_option maxHeartbeats 4000000 in
theorem t_X6_bestAgain {l : Launch} {G : vG} {h : AH} {n : Nat} {f t : Int32} {u sv b : Nat} {rs dt : Int32} {C : Ct} (hj : h u = some (jc u sv rs dt)) (hc : ct G h (u + 1) C) (hK : bdk b C) (hb2 : b + 5000 ≤ 2 ^ 28) (hi : iv C) : Mt l G mX6_bestAgain [.ref u, .int f, .int t] (n) h 0 0 (fun r n2 h2 => r = some (.int (qBest2 C f t)) ∧ n2 = n ∧ h2 = h) := by
  refine Mt.of (by decide) (Nat.le_of_ble_eq_true rfl) rfl ?_
  refine v_ls (ls2 := [some (.ref u), some (.int f), some (.int t)]) rfl ?_
  have hB := hK.bd (by omega)
  obtain ⟨hF, hJ, hn, hs1, hc99, hs4, hs7, hs8, hs15, hbk9, hs9⟩ := hi
  have b00 := hB 0 0
  have b01 := hB 0 1
  have b02 := hB 0 2
  refine v_aload_n dX6_bestAgain_0 rfl ?_
  refine fX6_10 (v := .ref (u + 1)) rfl dX6_bestAgain_1 hj rfl ?_
  refine fX6_81 (v := .ref (u + 1 + 1)) rfl dX6_bestAgain_4 (ck0 hc) rfl ?_
  refine v_iload_n dX6_bestAgain_7 rfl ?_
  refine v_callV (st := []) dX6_bestAgain_8 (t_X2_has (x := f) hc hB) wX6_85 (ck1 hc) rfl rfl ⟨Nat.le_of_ble_eq_true rfl, Nat.le_of_ble_eq_true rfl⟩ (Nat.le_of_ble_eq_true rfl) ⟨Nat.le_refl _, Nat.le_refl _⟩ (fun r n2 h2 hq => ?_)
  obtain ⟨rfl, rfl, rfl⟩ := hq
  refine v_st (st2 := [.int (nI (bI (ixb f (C 0 0) = true)))]) rfl ?_
  refine n_ifb_eq (tgt := 21) (p := ixb f (C 0 0) = true) dX6_bestAgain_11 (by decide) (fun c21 => ?_) (fun c21 => ?_)
  · refine v_sipush (v := (-1011)) dX6_bestAgain_21 (by decide) ?_
    refine v_iret dX6_bestAgain_24 rfl ?_ (Nat.le_of_ble_eq_true rfl) (Nat.le_of_ble_eq_true rfl)
    have e9 : qBest2 C f t = ((-1011) : Int32) := by unfold qBest2; all_goals (repeat (first | rw [if_pos (by first | assumption | omega | rfl | trivial)] | rw [if_neg (by first | assumption | omega)])); all_goals rfl
    exact ⟨by rw [e9], rfl, rfl⟩
  · obtain ⟨F, hF1, rfl⟩ := ix_of c21 (by omega)
    have eF : (nI F).toNatClampNeg = F := nI_clamp (by omega)
    refine v_iload_n dX6_bestAgain_14 rfl ?_
    refine v_callS (st := []) dX6_bestAgain_15 (t_X6_isThrone (x := t)) wX6_158 rfl ⟨Nat.le_of_ble_eq_true rfl, Nat.le_of_ble_eq_true rfl⟩ (Nat.le_of_ble_eq_true rfl) ⟨Nat.le_refl _, Nat.le_refl _⟩ (fun r n2 h2 hq => ?_)
    obtain ⟨rfl, rfl, rfl⟩ := hq
    refine v_st (st2 := [.int (nI (bI (ixb t 4 = true)))]) rfl ?_
    refine n_ifb_ne (tgt := 25) (p := ixb t 4 = true) dX6_bestAgain_18 (by decide) (fun c22 => ?_) (fun c22 => ?_)
    · obtain ⟨T, hT1, rfl⟩ := ix_of c22 (by omega)
      have eT : (nI T).toNatClampNeg = T := nI_clamp (by omega)
      refine v_aload_n dX6_bestAgain_25 rfl ?_
      refine fX6_10 (v := .ref (u + 1)) rfl dX6_bestAgain_26 hj rfl ?_
      refine v_iload_n dX6_bestAgain_29 rfl ?_
      refine v_iload_n dX6_bestAgain_30 rfl ?_
      refine v_callV (st := []) dX6_bestAgain_31 (t_X1_bestByWit (f := F) (t := T) hc hB (by omega) (by omega) (by omega)) wX6_198 (ck0 hc) rfl rfl ⟨Nat.le_of_ble_eq_true rfl, Nat.le_of_ble_eq_true rfl⟩ (Nat.le_of_ble_eq_true rfl) ⟨Nat.le_refl _, Nat.le_refl _⟩ (fun r n2 h2 hq => ?_)
      obtain ⟨rfl, rfl, rfl⟩ := hq
      refine v_st (st2 := [.int (oN (-1015) (bwO C F T 9 (none, 0)).1)]) rfl ?_
      refine v_iret dX6_bestAgain_34 rfl ?_ (Nat.le_of_ble_eq_true rfl) (Nat.le_of_ble_eq_true rfl)
      have e9 : qBest2 C (nI F) (nI T) = (oN (-1015) (bwO C F T 9 (none, 0)).1 : Int32) := by unfold qBest2; all_goals (repeat (first | rw [if_pos (by first | assumption | omega | rfl | trivial)] | rw [if_neg (by first | assumption | omega)])); all_goals (try simp only [eF, eT]); all_goals rfl
      exact ⟨by rw [e9], rfl, rfl⟩
    · refine v_sipush (v := (-1011)) dX6_bestAgain_21 (by decide) ?_
      refine v_iret dX6_bestAgain_24 rfl ?_ (Nat.le_of_ble_eq_true rfl) (Nat.le_of_ble_eq_true rfl)
      have e9 : qBest2 C (nI F) t = ((-1011) : Int32) := by unfold qBest2; all_goals (repeat (first | rw [if_pos (by first | assumption | omega | rfl | trivial)] | rw [if_neg (by first | assumption | omega)])); all_goals (try simp only [eF]); all_goals rfl
      exact ⟨by rw [e9], rfl, rfl⟩
set_option maxRecDepth 20000 in
set_option maxHeartbeats 4000000 in
theorem t_X6_ends {l : Launch} {G : vG} {h : AH} {n : Nat}  {u sv b : Nat} {rs dt : Int32} {C : Ct} (hj : h u = some (jc u sv rs dt)) (hc : ct G h (u + 1) C) (hK : bdk b C) (hb2 : b + 5000 ≤ 2 ^ 28) (hi : iv C) : Mt l G mX6_ends [.ref u] (n) h 0 0 (fun r n2 h2 => r = some (.int (oN (-1015) (endF C (C 0 1)))) ∧ n2 = n ∧ h2 = h) := by
  refine Mt.of (by decide) (Nat.le_of_ble_eq_true rfl) rfl ?_
  refine v_ls (ls2 := [some (.ref u)]) rfl ?_
  have hB := hK.bd (by omega)
  obtain ⟨hF, hJ, hn, hs1, hc99, hs4, hs7, hs8, hs15, hbk9, hs9⟩ := hi
  have b00 := hB 0 0
  have b01 := hB 0 1
  have b02 := hB 0 2
  refine v_aload_n dX6_ends_0 rfl ?_
  refine fX6_10 (v := .ref (u + 1)) rfl dX6_ends_1 hj rfl ?_
  refine v_callV (st := []) dX6_ends_4 (t_X1_endJokeByJoke hc hB (by omega)) wX6_201 (ck0 hc) rfl rfl ⟨Nat.le_of_ble_eq_true rfl, Nat.le_of_ble_eq_true rfl⟩ (Nat.le_of_ble_eq_true rfl) ⟨Nat.le_refl _, Nat.le_refl _⟩ (fun r n2 h2 hq => ?_)
  obtain ⟨rfl, rfl, rfl⟩ := hq
  refine v_st (st2 := [.int (oN (-1015) (endF C (C 0 1)))]) rfl ?_
  refine v_iret dX6_ends_7 rfl ?_ (Nat.le_of_ble_eq_true rfl) (Nat.le_of_ble_eq_true rfl)
  exact ⟨rfl, rfl, rfl⟩
set_option maxRecDepth 20000 in
set_option maxHeartbeats 4000000 in
theorem t_X6_endsAgain {l : Launch} {G : vG} {h : AH} {n : Nat}  {u sv b : Nat} {rs dt : Int32} {C : Ct} (hj : h u = some (jc u sv rs dt)) (hc : ct G h (u + 1) C) (hK : bdk b C) (hb2 : b + 5000 ≤ 2 ^ 28) (hi : iv C) : Mt l G mX6_endsAgain [.ref u] (n) h 0 0 (fun r n2 h2 => r = some (.int (oN (-1015) ((fs (fun a => decide (0 < cnt (fun z => decide (C 9 z = C 0 3 + a)) (C 0 1))) 1 48).map (fun a => C 0 3 + a)))) ∧ n2 = n ∧ h2 = h) := by
  refine Mt.of (by decide) (Nat.le_of_ble_eq_true rfl) rfl ?_
  refine v_ls (ls2 := [some (.ref u)]) rfl ?_
  have hB := hK.bd (by omega)
  obtain ⟨hF, hJ, hn, hs1, hc99, hs4, hs7, hs8, hs15, hbk9, hs9⟩ := hi
  have b00 := hB 0 0
  have b01 := hB 0 1
  have b02 := hB 0 2
  refine v_aload_n dX6_endsAgain_0 rfl ?_
  refine fX6_10 (v := .ref (u + 1)) rfl dX6_endsAgain_1 hj rfl ?_
  refine v_callV (st := []) dX6_endsAgain_4 (t_X1_endHourByHour hc hB (by omega)) wX6_204 (ck0 hc) rfl rfl ⟨Nat.le_of_ble_eq_true rfl, Nat.le_of_ble_eq_true rfl⟩ (Nat.le_of_ble_eq_true rfl) ⟨Nat.le_refl _, Nat.le_refl _⟩ (fun r n2 h2 hq => ?_)
  obtain ⟨rfl, rfl, rfl⟩ := hq
  refine v_st (st2 := [.int (oN (-1015) ((fs (fun a => decide (0 < cnt (fun z => decide (C 9 z = C 0 3 + a)) (C 0 1))) 1 48).map (fun a => C 0 3 + a)))]) rfl ?_
  refine v_iret dX6_endsAgain_7 rfl ?_ (Nat.le_of_ble_eq_true rfl) (Nat.le_of_ble_eq_true rfl)
  exact ⟨rfl, rfl, rfl⟩
set_option maxRecDepth 20000 in
set_option maxHeartbeats 4000000 in
theorem t_X6_ranked {l : Launch} {G : vG} {h : AH} {n : Nat} {x : Int32} {u sv b : Nat} {rs dt : Int32} {C : Ct} (hj : h u = some (jc u sv rs dt)) (hc : ct G h (u + 1) C) (hK : bdk b C) (hb2 : b + 5000 ≤ 2 ^ 28) (hi : iv C) : Mt l G mX6_ranked [.ref u, .int x] (n) h 0 0 (fun r n2 h2 => r = some (.int (oN (-1011) (fs (fun z => decide (nI (flN C z) = x)) 0 (C 0 0)))) ∧ n2 = n ∧ h2 = h) := by
  refine Mt.of (by decide) (Nat.le_of_ble_eq_true rfl) rfl ?_
  refine v_ls (ls2 := [some (.ref u), some (.int x)]) rfl ?_
  have hB := hK.bd (by omega)
  obtain ⟨hF, hJ, hn, hs1, hc99, hs4, hs7, hs8, hs15, hbk9, hs9⟩ := hi
  have b00 := hB 0 0
  have b01 := hB 0 1
  have b02 := hB 0 2
  refine v_aload_n dX6_ranked_0 rfl ?_
  refine fX6_10 (v := .ref (u + 1)) rfl dX6_ranked_1 hj rfl ?_
  refine fX6_81 (v := .ref (u + 1 + 1)) rfl dX6_ranked_4 (ck0 hc) rfl ?_
  refine v_iload_n dX6_ranked_7 rfl ?_
  refine v_callV (st := []) dX6_ranked_8 (t_X2_atRank (x := x) hc hB (by omega)) wX6_214 (ck1 hc) rfl rfl ⟨Nat.le_of_ble_eq_true rfl, Nat.le_of_ble_eq_true rfl⟩ (Nat.le_of_ble_eq_true rfl) ⟨Nat.le_refl _, Nat.le_refl _⟩ (fun r n2 h2 hq => ?_)
  obtain ⟨rfl, rfl, rfl⟩ := hq
  refine v_st (st2 := [.int (oN (-1011) (fs (fun z => decide (nI (flN C z) = x)) 0 (C 0 0)))]) rfl ?_
  refine v_iret dX6_ranked_11 rfl ?_ (Nat.le_of_ble_eq_true rfl) (Nat.le_of_ble_eq_true rfl)
  exact ⟨rfl, rfl, rfl⟩
set_option maxRecDepth 20000 in
set_option maxHeartbeats 4000000 in
theorem t_X6_stalest {l : Launch} {G : vG} {h : AH} {n : Nat} {x : Int32} {u sv b : Nat} {rs dt : Int32} {C : Ct} (hj : h u = some (jc u sv rs dt)) (hc : ct G h (u + 1) C) (hK : bdk b C) (hb2 : b + 5000 ≤ 2 ^ 28) (hi : iv C) : Mt l G mX6_stalest [.ref u, .int x] (n) h 0 0 (fun r n2 h2 => r = some (.int (oN (-1011) (fs (fun z => decide (nI (jkN C z) = x)) 0 (C 0 1)))) ∧ n2 = n ∧ h2 = h) := by
  refine Mt.of (by decide) (Nat.le_of_ble_eq_true rfl) rfl ?_
  refine v_ls (ls2 := [some (.ref u), some (.int x)]) rfl ?_
  have hB := hK.bd (by omega)
  obtain ⟨hF, hJ, hn, hs1, hc99, hs4, hs7, hs8, hs15, hbk9, hs9⟩ := hi
  have b00 := hB 0 0
  have b01 := hB 0 1
  have b02 := hB 0 2
  refine v_aload_n dX6_stalest_0 rfl ?_
  refine fX6_10 (v := .ref (u + 1)) rfl dX6_stalest_1 hj rfl ?_
  refine fX6_126 (v := .ref (u + 1 + 8)) rfl dX6_stalest_4 (ck0 hc) rfl ?_
  refine v_iload_n dX6_stalest_7 rfl ?_
  refine v_callV (st := []) dX6_stalest_8 (t_X4_atRank (x := x) hc hB (by omega)) wX6_217 (ck8 hc) rfl rfl ⟨Nat.le_of_ble_eq_true rfl, Nat.le_of_ble_eq_true rfl⟩ (Nat.le_of_ble_eq_true rfl) ⟨Nat.le_refl _, Nat.le_refl _⟩ (fun r n2 h2 hq => ?_)
  obtain ⟨rfl, rfl, rfl⟩ := hq
  refine v_st (st2 := [.int (oN (-1011) (fs (fun z => decide (nI (jkN C z) = x)) 0 (C 0 1)))]) rfl ?_
  refine v_iret dX6_stalest_11 rfl ?_ (Nat.le_of_ble_eq_true rfl) (Nat.le_of_ble_eq_true rfl)
  exact ⟨rfl, rfl, rfl⟩
set_option maxRecDepth 20000 in
set_option maxHeartbeats 4000000 in
theorem t_X6_reason {l : Launch} {G : vG} {h : AH} {n : Nat} {u sv : Nat} {rs dt x : Int32} (hj : h u = some (jc u sv rs dt)) : Mt l G mX6_reason [.ref u, .int x] (n) h 0 0 (fun r n2 h2 => r = some (.int (if x = 0 then rs else dt)) ∧ n2 = n ∧ h2 = h) := by
  refine Mt.of (by decide) (Nat.le_of_ble_eq_true rfl) rfl ?_
  refine v_ls (ls2 := [some (.ref u), some (.int x)]) rfl ?_
  refine v_iload_n dX6_reason_0 rfl ?_
  refine v_if_eq (tgt := 11) dX6_reason_1 (by decide) (fun c21 => ?_) (fun c21 => ?_)
  · refine v_aload_n dX6_reason_11 rfl ?_
    refine fX6_50 (v := .int rs) rfl dX6_reason_12 hj rfl ?_
    refine v_iret dX6_reason_15 rfl ?_ (Nat.le_of_ble_eq_true rfl) (Nat.le_of_ble_eq_true rfl)
    exact ⟨by rw [if_pos c21], rfl, rfl⟩
  · refine v_aload_n dX6_reason_4 rfl ?_
    refine fX6_54 (v := .int dt) rfl dX6_reason_5 hj rfl ?_
    refine v_goto (tgt := 15) dX6_reason_8 (by decide) ?_
    refine v_iret dX6_reason_15 rfl ?_ (Nat.le_of_ble_eq_true rfl) (Nat.le_of_ble_eq_true rfl)
    exact ⟨by rw [if_neg c21], rfl, rfl⟩
