set_option maxRecDepth 20000 in
set_option maxHeartbeats 4000000 in
theorem t_X7_does0 {l : Launch} {G : vG} {h : AH} {n : Nat} {one two three four m ch sw tn hr en ln wg dg : Nat} {fl wy dt : Int32} {b : Nat} {C : Ct} (ho : h m = some (mo m ch sw tn hr en ln wg dg fl wy dt)) (hv : h (m + 1) = some (ar G 182 (vO C))) (hK : bdk b C) (hb1 : 200 ≤ b) (hb2 : b + 5000 ≤ 2 ^ 28) (hI : Iv C) : Mt l G mX7_does [.ref m, .int (nI 102), .int (nI one), .int (nI two), .int (nI three), .int (nI four)] (n) h 0 0 (pm G m ch sw tn hr en ln wg dg fl wy dt C h n (dFool C (nI one))) := by
  refine Mt.of (by decide) (Nat.le_of_ble_eq_true rfl) rfl ?_
  refine v_ls (ls2 := [some (.ref m), some (.int (nI 102)), some (.int (nI one)), some (.int (nI two)), some (.int (nI three)), some (.int (nI four))]) rfl ?_
  refine v_iload_n dX7_does_0 rfl ?_
  refine v_tsIn (off := 111) (tgt := 112) dX7_does_1 (by decide) (by decide) (by decide) (by decide) ?_
  refine v_aload_n dX7_does_112 rfl ?_
  refine v_iload_n dX7_does_113 rfl ?_
  refine v_callV (st := []) dX7_does_114 (t_X7_comes ho hv hK (by omega) (by omega) hI) wX7_72 ho rfl rfl ⟨Nat.le_of_ble_eq_true rfl, Nat.le_of_ble_eq_true rfl⟩ (Nat.le_of_ble_eq_true rfl) ⟨Nat.le_of_ble_eq_true rfl, Nat.le_of_ble_eq_true rfl⟩ (fun r n2 h2 hq => ?_)
  obtain ⟨rfl, hn9, fo21, hv21, sa21, ok21⟩ := hq; replace hn9 := hn9.symm; subst hn9
  obtain ⟨R21, hR21⟩ : ∃ R : Rz, R = dFool C (nI one) := ⟨_, rfl⟩
  rw [← hR21] at fo21 hv21 ok21
  refine v_st (st2 := [.int R21.1]) (by rw [hR21]; rfl) ?_
  refine v_iret dX7_does_117 rfl ?_ (Nat.le_of_ble_eq_true rfl) (Nat.le_of_ble_eq_true rfl)
  subst hR21
  exact ⟨rfl, rfl, fo21, hv21, sa21, ok21⟩
set_option maxRecDepth 20000 in
set_option maxHeartbeats 4000000 in
theorem t_X7_does1 {l : Launch} {G : vG} {h : AH} {n : Nat} {one two three four m ch sw tn hr en ln wg dg : Nat} {fl wy dt : Int32} {b : Nat} {C : Ct} (ho : h m = some (mo m ch sw tn hr en ln wg dg fl wy dt)) (hv : h (m + 1) = some (ar G 182 (vO C))) (hK : bdk b C) (hb1 : 200 ≤ b) (hb2 : b + 5000 ≤ 2 ^ 28) (hI : Iv C) : Mt l G mX7_does [.ref m, .int (nI 106), .int (nI one), .int (nI two), .int (nI three), .int (nI four)] (n) h 0 0 (pm G m ch sw tn hr en ln wg dg fl wy dt C h n (dJoke C (nI one))) := by
  refine Mt.of (by decide) (Nat.le_of_ble_eq_true rfl) rfl ?_
  refine v_ls (ls2 := [some (.ref m), some (.int (nI 106)), some (.int (nI one)), some (.int (nI two)), some (.int (nI three)), some (.int (nI four))]) rfl ?_
  refine v_iload_n dX7_does_0 rfl ?_
  refine v_tsIn (off := 117) (tgt := 118) dX7_does_1 (by decide) (by decide) (by decide) (by decide) ?_
  refine v_aload_n dX7_does_118 rfl ?_
  refine v_iload_n dX7_does_119 rfl ?_
  refine v_callV (st := []) dX7_does_120 (t_X7_jokes ho hv hK (by omega) (by omega) hI) wX7_78 ho rfl rfl ⟨Nat.le_of_ble_eq_true rfl, Nat.le_of_ble_eq_true rfl⟩ (Nat.le_of_ble_eq_true rfl) ⟨Nat.le_of_ble_eq_true rfl, Nat.le_of_ble_eq_true rfl⟩ (fun r n2 h2 hq => ?_)
  obtain ⟨rfl, hn9, fo21, hv21, sa21, ok21⟩ := hq; replace hn9 := hn9.symm; subst hn9
  obtain ⟨R21, hR21⟩ : ∃ R : Rz, R = dJoke C (nI one) := ⟨_, rfl⟩
  rw [← hR21] at fo21 hv21 ok21
  refine v_st (st2 := [.int R21.1]) (by rw [hR21]; rfl) ?_
  refine v_iret dX7_does_123 rfl ?_ (Nat.le_of_ble_eq_true rfl) (Nat.le_of_ble_eq_true rfl)
  subst hR21
  exact ⟨rfl, rfl, fo21, hv21, sa21, ok21⟩
set_option maxRecDepth 20000 in
set_option maxHeartbeats 4000000 in
theorem t_X7_does2 {l : Launch} {G : vG} {h : AH} {n : Nat} {one two three four m ch sw tn hr en ln wg dg : Nat} {fl wy dt : Int32} {b : Nat} {C : Ct} (ho : h m = some (mo m ch sw tn hr en ln wg dg fl wy dt)) (hv : h (m + 1) = some (ar G 182 (vO C))) (hK : bdk b C) (hb1 : 200 ≤ b) (hb2 : b + 5000 ≤ 2 ^ 28) (hI : Iv C) : Mt l G mX7_does [.ref m, .int (nI 112), .int (nI one), .int (nI two), .int (nI three), .int (nI four)] (n) h 0 0 (pm G m ch sw tn hr en ln wg dg fl wy dt C h n (dPat C (nI one) (nI two) (nI three))) := by
  refine Mt.of (by decide) (Nat.le_of_ble_eq_true rfl) rfl ?_
  refine v_ls (ls2 := [some (.ref m), some (.int (nI 112)), some (.int (nI one)), some (.int (nI two)), some (.int (nI three)), some (.int (nI four))]) rfl ?_
  refine v_iload_n dX7_does_0 rfl ?_
  refine v_tsIn (off := 123) (tgt := 124) dX7_does_1 (by decide) (by decide) (by decide) (by decide) ?_
  refine v_aload_n dX7_does_124 rfl ?_
  refine v_iload_n dX7_does_125 rfl ?_
  refine v_iload_n dX7_does_126 rfl ?_
  refine v_iload dX7_does_127 rfl ?_
  refine v_callV (st := []) dX7_does_129 (t_X7_patents ho hv hK (by omega) (by omega) hI) wX7_91 ho rfl rfl ⟨Nat.le_of_ble_eq_true rfl, Nat.le_of_ble_eq_true rfl⟩ (Nat.le_of_ble_eq_true rfl) ⟨Nat.le_of_ble_eq_true rfl, Nat.le_of_ble_eq_true rfl⟩ (fun r n2 h2 hq => ?_)
  obtain ⟨rfl, hn9, fo21, hv21, sa21, ok21⟩ := hq; replace hn9 := hn9.symm; subst hn9
  obtain ⟨R21, hR21⟩ : ∃ R : Rz, R = dPat C (nI one) (nI two) (nI three) := ⟨_, rfl⟩
  rw [← hR21] at fo21 hv21 ok21
  refine v_st (st2 := [.int R21.1]) (by rw [hR21]; rfl) ?_
  refine v_iret dX7_does_132 rfl ?_ (Nat.le_of_ble_eq_true rfl) (Nat.le_of_ble_eq_true rfl)
  subst hR21
  exact ⟨rfl, rfl, fo21, hv21, sa21, ok21⟩
set_option maxRecDepth 20000 in
set_option maxHeartbeats 4000000 in
theorem t_X7_does3 {l : Launch} {G : vG} {h : AH} {n : Nat} {one two three four m ch sw tn hr en ln wg dg : Nat} {fl wy dt : Int32} {b : Nat} {C : Ct} (ho : h m = some (mo m ch sw tn hr en ln wg dg fl wy dt)) (hv : h (m + 1) = some (ar G 182 (vO C))) (hK : bdk b C) (hb1 : 200 ≤ b) (hb2 : b + 5000 ≤ 2 ^ 28) (hI : Iv C) : Mt l G mX7_does [.ref m, .int (nI 98), .int (nI one), .int (nI two), .int (nI three), .int (nI four)] (n) h 0 0 (pm G m ch sw tn hr en ln wg dg fl wy dt C h n (dBook C (nI one) (nI two) (nI three) (nI four))) := by
  refine Mt.of (by decide) (Nat.le_of_ble_eq_true rfl) rfl ?_
  refine v_ls (ls2 := [some (.ref m), some (.int (nI 98)), some (.int (nI one)), some (.int (nI two)), some (.int (nI three)), some (.int (nI four))]) rfl ?_
  refine v_iload_n dX7_does_0 rfl ?_
  refine v_tsIn (off := 132) (tgt := 133) dX7_does_1 (by decide) (by decide) (by decide) (by decide) ?_
  refine v_aload_n dX7_does_133 rfl ?_
  refine v_iload_n dX7_does_134 rfl ?_
  refine v_iload_n dX7_does_135 rfl ?_
  refine v_iload dX7_does_136 rfl ?_
  refine v_iload dX7_does_138 rfl ?_
  refine v_callV (st := []) dX7_does_140 (t_X7_books ho hv hK (by omega) (by omega) hI) wX7_133 ho rfl rfl ⟨Nat.le_of_ble_eq_true rfl, Nat.le_of_ble_eq_true rfl⟩ (Nat.le_of_ble_eq_true rfl) ⟨Nat.le_of_ble_eq_true rfl, Nat.le_of_ble_eq_true rfl⟩ (fun r n2 h2 hq => ?_)
  obtain ⟨rfl, hn9, fo21, hv21, sa21, ok21⟩ := hq; replace hn9 := hn9.symm; subst hn9
  obtain ⟨R21, hR21⟩ : ∃ R : Rz, R = dBook C (nI one) (nI two) (nI three) (nI four) := ⟨_, rfl⟩
  rw [← hR21] at fo21 hv21 ok21
  refine v_st (st2 := [.int R21.1]) (by rw [hR21]; rfl) ?_
  refine v_iret dX7_does_143 rfl ?_ (Nat.le_of_ble_eq_true rfl) (Nat.le_of_ble_eq_true rfl)
  subst hR21
  exact ⟨rfl, rfl, fo21, hv21, sa21, ok21⟩
set_option maxRecDepth 20000 in
set_option maxHeartbeats 4000000 in
theorem t_X7_does4 {l : Launch} {G : vG} {h : AH} {n : Nat} {one two three four m ch sw tn hr en ln wg dg : Nat} {fl wy dt : Int32} {b : Nat} {C : Ct} (ho : h m = some (mo m ch sw tn hr en ln wg dg fl wy dt)) (hv : h (m + 1) = some (ar G 182 (vO C))) (hK : bdk b C) (hb1 : 200 ≤ b) (hb2 : b + 5000 ≤ 2 ^ 28) (hI : Iv C) : Mt l G mX7_does [.ref m, .int (nI 110), .int (nI one), .int (nI two), .int (nI three), .int (nI four)] (n) h 0 0 (pm G m ch sw tn hr en ln wg dg fl wy dt C h n (dNext C)) := by
  refine Mt.of (by decide) (Nat.le_of_ble_eq_true rfl) rfl ?_
  refine v_ls (ls2 := [some (.ref m), some (.int (nI 110)), some (.int (nI one)), some (.int (nI two)), some (.int (nI three)), some (.int (nI four))]) rfl ?_
  refine v_iload_n dX7_does_0 rfl ?_
  refine v_tsIn (off := 143) (tgt := 144) dX7_does_1 (by decide) (by decide) (by decide) (by decide) ?_
  refine v_aload_n dX7_does_144 rfl ?_
  refine v_callV (st := []) dX7_does_145 (t_X7_carries ho hv hK (by omega) (by omega) hI) wX7_151 ho rfl rfl ⟨Nat.le_of_ble_eq_true rfl, Nat.le_of_ble_eq_true rfl⟩ (Nat.le_of_ble_eq_true rfl) ⟨Nat.le_of_ble_eq_true rfl, Nat.le_of_ble_eq_true rfl⟩ (fun r n2 h2 hq => ?_)
  obtain ⟨rfl, hn9, fo21, hv21, sa21, ok21⟩ := hq; replace hn9 := hn9.symm; subst hn9
  obtain ⟨R21, hR21⟩ : ∃ R : Rz, R = dNext C := ⟨_, rfl⟩
  rw [← hR21] at fo21 hv21 ok21
  refine v_st (st2 := [.int R21.1]) (by rw [hR21]; rfl) ?_
  refine v_iret dX7_does_148 rfl ?_ (Nat.le_of_ble_eq_true rfl) (Nat.le_of_ble_eq_true rfl)
  subst hR21
  exact ⟨rfl, rfl, fo21, hv21, sa21, ok21⟩
set_option maxRecDepth 20000 in
set_option maxHeartbeats 4000000 in
theorem t_X7_does5 {l : Launch} {G : vG} {h : AH} {n : Nat} {one two three four m ch sw tn hr en ln wg dg : Nat} {fl wy dt : Int32} {b : Nat} {C : Ct} (ho : h m = some (mo m ch sw tn hr en ln wg dg fl wy dt)) (hv : h (m + 1) = some (ar G 182 (vO C))) (hK : bdk b C) (hb1 : 200 ≤ b) (hb2 : b + 5000 ≤ 2 ^ 28) (hI : Iv C) : Mt l G mX7_does [.ref m, .int (nI 105), .int (nI one), .int (nI two), .int (nI three), .int (nI four)] (n) h 0 0 (pm G m ch sw tn hr en ln wg dg fl wy dt C h n (dIns C (nI one))) := by
  refine Mt.of (by decide) (Nat.le_of_ble_eq_true rfl) rfl ?_
  refine v_ls (ls2 := [some (.ref m), some (.int (nI 105)), some (.int (nI one)), some (.int (nI two)), some (.int (nI three)), some (.int (nI four))]) rfl ?_
  refine v_iload_n dX7_does_0 rfl ?_
  refine v_tsIn (off := 148) (tgt := 149) dX7_does_1 (by decide) (by decide) (by decide) (by decide) ?_
  refine v_aload_n dX7_does_149 rfl ?_
  refine v_iload_n dX7_does_150 rfl ?_
  refine v_callV (st := []) dX7_does_151 (t_X7_insures ho hv hK (by omega) (by omega) hI) wX7_95 ho rfl rfl ⟨Nat.le_of_ble_eq_true rfl, Nat.le_of_ble_eq_true rfl⟩ (Nat.le_of_ble_eq_true rfl) ⟨Nat.le_of_ble_eq_true rfl, Nat.le_of_ble_eq_true rfl⟩ (fun r n2 h2 hq => ?_)
  obtain ⟨rfl, hn9, fo21, hv21, sa21, ok21⟩ := hq; replace hn9 := hn9.symm; subst hn9
  obtain ⟨R21, hR21⟩ : ∃ R : Rz, R = dIns C (nI one) := ⟨_, rfl⟩
  rw [← hR21] at fo21 hv21 ok21
  refine v_st (st2 := [.int R21.1]) (by rw [hR21]; rfl) ?_
  refine v_iret dX7_does_154 rfl ?_ (Nat.le_of_ble_eq_true rfl) (Nat.le_of_ble_eq_true rfl)
  subst hR21
  exact ⟨rfl, rfl, fo21, hv21, sa21, ok21⟩
set_option maxRecDepth 20000 in
set_option maxHeartbeats 4000000 in
theorem t_X7_does6 {l : Launch} {G : vG} {h : AH} {n : Nat} {one two three four m ch sw tn hr en ln wg dg : Nat} {fl wy dt : Int32} {b : Nat} {C : Ct} (ho : h m = some (mo m ch sw tn hr en ln wg dg fl wy dt)) (hv : h (m + 1) = some (ar G 182 (vO C))) (hK : bdk b C) (hb1 : 200 ≤ b) (hb2 : b + 5000 ≤ 2 ^ 28) (hI : Iv C) : Mt l G mX7_does [.ref m, .int (nI 97), .int (nI one), .int (nI two), .int (nI three), .int (nI four)] (n) h 0 0 (pm G m ch sw tn hr en ln wg dg fl wy dt C h n (dAud C (nI one))) := by
  refine Mt.of (by decide) (Nat.le_of_ble_eq_true rfl) rfl ?_
  refine v_ls (ls2 := [some (.ref m), some (.int (nI 97)), some (.int (nI one)), some (.int (nI two)), some (.int (nI three)), some (.int (nI four))]) rfl ?_
  refine v_iload_n dX7_does_0 rfl ?_
  refine v_tsIn (off := 154) (tgt := 155) dX7_does_1 (by decide) (by decide) (by decide) (by decide) ?_
  refine v_aload_n dX7_does_155 rfl ?_
  refine v_iload_n dX7_does_156 rfl ?_
  refine v_callV (st := []) dX7_does_157 (t_X7_audits ho hv hK (by omega) (by omega) hI) wX7_98 ho rfl rfl ⟨Nat.le_of_ble_eq_true rfl, Nat.le_of_ble_eq_true rfl⟩ (Nat.le_of_ble_eq_true rfl) ⟨Nat.le_of_ble_eq_true rfl, Nat.le_of_ble_eq_true rfl⟩ (fun r n2 h2 hq => ?_)
  obtain ⟨rfl, hn9, fo21, hv21, sa21, ok21⟩ := hq; replace hn9 := hn9.symm; subst hn9
  obtain ⟨R21, hR21⟩ : ∃ R : Rz, R = dAud C (nI one) := ⟨_, rfl⟩
  rw [← hR21] at fo21 hv21 ok21
  refine v_st (st2 := [.int R21.1]) (by rw [hR21]; rfl) ?_
  refine v_iret dX7_does_160 rfl ?_ (Nat.le_of_ble_eq_true rfl) (Nat.le_of_ble_eq_true rfl)
  subst hR21
  exact ⟨rfl, rfl, fo21, hv21, sa21, ok21⟩
set_option maxRecDepth 20000 in
set_option maxHeartbeats 4000000 in
theorem t_X7_does7 {l : Launch} {G : vG} {h : AH} {n : Nat} {one two three four m ch sw tn hr en ln wg dg : Nat} {fl wy dt : Int32} {b : Nat} {C : Ct} (ho : h m = some (mo m ch sw tn hr en ln wg dg fl wy dt)) (hv : h (m + 1) = some (ar G 182 (vO C))) (hK : bdk b C) (hb1 : 200 ≤ b) (hb2 : b + 5000 ≤ 2 ^ 28) (hI : Iv C) : Mt l G mX7_does [.ref m, .int (nI 120), .int (nI one), .int (nI two), .int (nI three), .int (nI four)] (n) h 0 0 (pm G m ch sw tn hr en ln wg dg fl wy dt C h n (dExe C (nI one) (nI two))) := by
  refine Mt.of (by decide) (Nat.le_of_ble_eq_true rfl) rfl ?_
  refine v_ls (ls2 := [some (.ref m), some (.int (nI 120)), some (.int (nI one)), some (.int (nI two)), some (.int (nI three)), some (.int (nI four))]) rfl ?_
  refine v_iload_n dX7_does_0 rfl ?_
  refine v_tsIn (off := 160) (tgt := 161) dX7_does_1 (by decide) (by decide) (by decide) (by decide) ?_
  refine v_aload_n dX7_does_161 rfl ?_
  refine v_iload_n dX7_does_162 rfl ?_
  refine v_iload_n dX7_does_163 rfl ?_
  refine v_callV (st := []) dX7_does_164 (t_X7_exempts ho hv hK (by omega) (by omega) hI) wX7_119 ho rfl rfl ⟨Nat.le_of_ble_eq_true rfl, Nat.le_of_ble_eq_true rfl⟩ (Nat.le_of_ble_eq_true rfl) ⟨Nat.le_of_ble_eq_true rfl, Nat.le_of_ble_eq_true rfl⟩ (fun r n2 h2 hq => ?_)
  obtain ⟨rfl, hn9, fo21, hv21, sa21, ok21⟩ := hq; replace hn9 := hn9.symm; subst hn9
  obtain ⟨R21, hR21⟩ : ∃ R : Rz, R = dExe C (nI one) (nI two) := ⟨_, rfl⟩
  rw [← hR21] at fo21 hv21 ok21
  refine v_st (st2 := [.int R21.1]) (by rw [hR21]; rfl) ?_
  refine v_iret dX7_does_167 rfl ?_ (Nat.le_of_ble_eq_true rfl) (Nat.le_of_ble_eq_true rfl)
  subst hR21
  exact ⟨rfl, rfl, fo21, hv21, sa21, ok21⟩
set_option maxRecDepth 20000 in
set_option maxHeartbeats 4000000 in
theorem t_X7_does8 {l : Launch} {G : vG} {h : AH} {n : Nat} {one two three four m ch sw tn hr en ln wg dg : Nat} {fl wy dt : Int32} {b : Nat} {C : Ct} (ho : h m = some (mo m ch sw tn hr en ln wg dg fl wy dt)) (hv : h (m + 1) = some (ar G 182 (vO C))) (hK : bdk b C) (hb1 : 200 ≤ b) (hb2 : b + 5000 ≤ 2 ^ 28) (hI : Iv C) : Mt l G mX7_does [.ref m, .int (nI 119), .int (nI one), .int (nI two), .int (nI three), .int (nI four)] (n) h 0 0 (pm G m ch sw tn hr en ln wg dg fl wy dt C h n (dPass C (nI one))) := by
  refine Mt.of (by decide) (Nat.le_of_ble_eq_true rfl) rfl ?_
  refine v_ls (ls2 := [some (.ref m), some (.int (nI 119)), some (.int (nI one)), some (.int (nI two)), some (.int (nI three)), some (.int (nI four))]) rfl ?_
  refine v_iload_n dX7_does_0 rfl ?_
  refine v_tsIn (off := 167) (tgt := 168) dX7_does_1 (by decide) (by decide) (by decide) (by decide) ?_
  refine v_aload_n dX7_does_168 rfl ?_
  refine v_iload_n dX7_does_169 rfl ?_
  refine v_callV (st := []) dX7_does_170 (t_X7_passes ho hv hK (by omega) (by omega) hI) wX7_155 ho rfl rfl ⟨Nat.le_of_ble_eq_true rfl, Nat.le_of_ble_eq_true rfl⟩ (Nat.le_of_ble_eq_true rfl) ⟨Nat.le_of_ble_eq_true rfl, Nat.le_of_ble_eq_true rfl⟩ (fun r n2 h2 hq => ?_)
  obtain ⟨rfl, hn9, fo21, hv21, sa21, ok21⟩ := hq; replace hn9 := hn9.symm; subst hn9
  obtain ⟨R21, hR21⟩ : ∃ R : Rz, R = dPass C (nI one) := ⟨_, rfl⟩
  rw [← hR21] at fo21 hv21 ok21
  refine v_st (st2 := [.int R21.1]) (by rw [hR21]; rfl) ?_
  refine v_iret dX7_does_173 rfl ?_ (Nat.le_of_ble_eq_true rfl) (Nat.le_of_ble_eq_true rfl)
  subst hR21
  exact ⟨rfl, rfl, fo21, hv21, sa21, ok21⟩
set_option maxRecDepth 20000 in
set_option maxHeartbeats 4000000 in
theorem t_X7_orderR {l : Launch} {G : vG} {h : AH} {n : Nat} {m ch sw tn ln : Nat} {fl wy dt : Int32} {S : Ln} {X : Nat → Nat} {p w : Nat} (ho : h m = some (mo m ch sw tn p S.2 ln w 0 fl wy dt)) (htx : h (m + 6) = some (ar G 60 X)) (hX : lrel X S) (hS : tsg S) (hp : p ≤ S.2) : Mt l G mX7_order [.ref m] (n) h 0 0 (fun r n2 h2 => r = none ∧ n2 = n ∧ h2 m = some (mo m ch sw tn ((oS (txt S.1 S.2) (shI ((txt S.1 S.2) p)) p).2) S.2 ln (bI ((oS (txt S.1 S.2) (shI ((txt S.1 S.2) p)) p).1 = false)) 0 fl wy dt) ∧ offn 1 m h h2) := by
  refine Mt.of (by decide) (Nat.le_of_ble_eq_true rfl) rfl ?_
  refine v_ls (ls2 := [some (.ref m), none, none, none, none, none, none]) rfl ?_
  have hS60 := hS.1
  refine v_aload_n dX7_order_0 rfl ?_
  refine v_callV (st := []) dX7_order_1 (t_X7_sign ho htx hX hS (by omega)) wX7_189 ho rfl rfl ⟨Nat.le_of_ble_eq_true rfl, Nat.le_of_ble_eq_true rfl⟩ (Nat.le_of_ble_eq_true rfl) ⟨Nat.le_of_ble_eq_true rfl, Nat.le_of_ble_eq_true rfl⟩ (fun r n2 h2 hq => ?_)
  obtain ⟨rfl, hn9, hh9⟩ := hq; replace hn9 := hn9.symm; subst hn9; replace hh9 := hh9.symm; subst hh9
  refine v_st (st2 := [.int (sv (txt S.1 S.2) p)]) rfl ?_
  have hbhz21 := txt_126 hS p
  by_cases hz21 : (txt S.1 S.2) p = 0
  · refine v_st (st2 := [.int ((-1))]) (by rw [show sv (txt S.1 S.2) p = -1 from if_pos hz21]; try rfl) ?_
    have hsh : shI ((txt S.1 S.2) p) = 9 := by rw [hz21]; rfl
    refine v_istore_n dX7_order_4 rfl (by decide) ?_
    refine v_ls (ls2 := [some (.ref m), some (.int ((-1))), none, none, none, none, none]) rfl ?_
    refine v_iconst (v := nI 0) dX7_order_5 (by decide) ?_
    refine v_istore_n dX7_order_6 rfl (by decide) ?_
    refine v_ls (ls2 := [some (.ref m), some (.int ((-1))), some (.int (nI 0)), none, none, none, none]) rfl ?_
    refine v_iconst (v := nI 0) dX7_order_7 (by decide) ?_
    refine v_istore_n dX7_order_8 rfl (by decide) ?_
    refine v_ls (ls2 := [some (.ref m), some (.int ((-1))), some (.int (nI 0)), some (.int (nI 0)), none, none, none]) rfl ?_
    refine v_iconst (v := nI 0) dX7_order_9 (by decide) ?_
    refine v_istore dX7_order_10 rfl (by decide) ?_
    refine v_ls (ls2 := [some (.ref m), some (.int ((-1))), some (.int (nI 0)), some (.int (nI 0)), some (.int (nI 0)), none, none]) rfl ?_
    refine v_iconst (v := nI 0) dX7_order_12 (by decide) ?_
    refine v_istore dX7_order_13 rfl (by decide) ?_
    refine v_ls (ls2 := [some (.ref m), some (.int ((-1))), some (.int (nI 0)), some (.int (nI 0)), some (.int (nI 0)), some (.int (nI 0)), none]) rfl ?_
    refine v_aload_n dX7_order_15 rfl ?_
    refine v_iload_n dX7_order_16 rfl ?_
    refine v_callS (st := [.ref m]) dX7_order_17 (t_X7_isKnownM) wX7_198 rfl ⟨Nat.le_of_ble_eq_true rfl, Nat.le_of_ble_eq_true rfl⟩ (Nat.le_of_ble_eq_true rfl) ⟨Nat.le_of_ble_eq_true rfl, Nat.le_of_ble_eq_true rfl⟩ (fun r n2 h2 hq => ?_)
    obtain ⟨rfl, hn9, hh9⟩ := hq; replace hn9 := hn9.symm; subst hn9; replace hh9 := hh9.symm; subst hh9
    refine v_st (st2 := [.int (nI 0), .ref m]) rfl ?_
    refine n_if_ne (tgt := 27) (x := 0) dX7_order_20 (by decide) (by decide) (fun c => absurd c (by decide)) (fun _ => ?_)
    refine v_iconst (v := nI 1) dX7_order_23 (by decide) ?_
    refine v_goto (tgt := 28) dX7_order_24 (by decide) ?_
    refine pX7_185 rfl dX7_order_28 ho (Nat.le_of_ble_eq_true rfl) (by decide) (by decide) ?_
    refine nw (fun h1 f1 s1 => ?_)
    have fa22 : h1 (m) = some (.inr (8, [.int fl, .int (nI ch), .int wy, .int dt, .int (nI sw), .ref (m + 1), .ref (m + 2), .ref (m + 3), .ref (m + 4), .ref (m + 5), .ref (m + 6), .ref (m + 7), .int (nI tn), .int (nI p), .int (nI S.2), .int (nI ln), .int (nI 1), .int (nI 0)])) := f1
    have sa22 := s1
    clear f1 s1
    have fa23 := (sa22 (m + 6) (by omega)).trans htx
    have fr24 := offn_in (k := 1) (q := m) offn_rf sa22 (by omega)
    refine v_aload_n dX7_order_31 rfl ?_
    refine fX7_185 (v := .int (nI 1)) rfl dX7_order_32 fa22 rfl ?_
    refine n_if_eq (tgt := 39) (x := 1) dX7_order_35 (by decide) (by decide) (fun c => absurd c (by decide)) (fun _ => ?_)
    refine v_vret dX7_order_38 rfl ?_ (Nat.le_of_ble_eq_true rfl) (Nat.le_of_ble_eq_true rfl)
    exact ⟨rfl, rfl, by rw [hsh]; exact fa22, fr24⟩
  · have hlhz21 := txt_le hz21
    refine v_st (st2 := [.int (nI ((txt S.1 S.2) p))]) (by rw [show sv (txt S.1 S.2) p = nI ((txt S.1 S.2) p) from if_neg hz21]; try rfl) ?_
    rcases shI_cs ((txt S.1 S.2) p) with ⟨hk, hsh⟩ | ⟨hk, hsh⟩ | ⟨hk, hsh⟩ | ⟨hk, hsh⟩ | ⟨hk, hsh⟩ | ⟨hk, hsh⟩ | ⟨hk, hsh⟩ | ⟨hk, hsh⟩ | ⟨hk, hsh⟩ | hsh
    · refine v_st (st2 := [.int (nI 102)]) (by rw [hk]) ?_
      refine v_istore_n dX7_order_4 rfl (by decide) ?_
      refine v_ls (ls2 := [some (.ref m), some (.int (nI 102)), none, none, none, none, none]) rfl ?_
      refine v_iconst (v := nI 0) dX7_order_5 (by decide) ?_
      refine v_istore_n dX7_order_6 rfl (by decide) ?_
      refine v_ls (ls2 := [some (.ref m), some (.int (nI 102)), some (.int (nI 0)), none, none, none, none]) rfl ?_
      refine v_iconst (v := nI 0) dX7_order_7 (by decide) ?_
      refine v_istore_n dX7_order_8 rfl (by decide) ?_
      refine v_ls (ls2 := [some (.ref m), some (.int (nI 102)), some (.int (nI 0)), some (.int (nI 0)), none, none, none]) rfl ?_
      refine v_iconst (v := nI 0) dX7_order_9 (by decide) ?_
      refine v_istore dX7_order_10 rfl (by decide) ?_
      refine v_ls (ls2 := [some (.ref m), some (.int (nI 102)), some (.int (nI 0)), some (.int (nI 0)), some (.int (nI 0)), none, none]) rfl ?_
      refine v_iconst (v := nI 0) dX7_order_12 (by decide) ?_
      refine v_istore dX7_order_13 rfl (by decide) ?_
      refine v_ls (ls2 := [some (.ref m), some (.int (nI 102)), some (.int (nI 0)), some (.int (nI 0)), some (.int (nI 0)), some (.int (nI 0)), none]) rfl ?_
      refine v_aload_n dX7_order_15 rfl ?_
      refine v_iload_n dX7_order_16 rfl ?_
      refine v_callS (st := [.ref m]) dX7_order_17 (t_X7_isKnown (c := 102) (by decide)) wX7_198 rfl ⟨Nat.le_of_ble_eq_true rfl, Nat.le_of_ble_eq_true rfl⟩ (Nat.le_of_ble_eq_true rfl) ⟨Nat.le_of_ble_eq_true rfl, Nat.le_of_ble_eq_true rfl⟩ (fun r n2 h2 hq => ?_)
      obtain ⟨rfl, hn9, hh9⟩ := hq; replace hn9 := hn9.symm; subst hn9; replace hh9 := hh9.symm; subst hh9
      refine v_st (st2 := [.int (nI 1), .ref m]) rfl ?_
      refine n_if_ne (tgt := 27) (x := 1) dX7_order_20 (by decide) (by decide) (fun _ => ?_) (fun c => absurd c (by decide))
      refine v_iconst (v := nI 0) dX7_order_27 (by decide) ?_
      refine pX7_185 rfl dX7_order_28 ho (Nat.le_of_ble_eq_true rfl) (by decide) (by decide) ?_
      refine nw (fun h1 f1 s1 => ?_)
      have fa25 : h1 (m) = some (.inr (8, [.int fl, .int (nI ch), .int wy, .int dt, .int (nI sw), .ref (m + 1), .ref (m + 2), .ref (m + 3), .ref (m + 4), .ref (m + 5), .ref (m + 6), .ref (m + 7), .int (nI tn), .int (nI p), .int (nI S.2), .int (nI ln), .int (nI 0), .int (nI 0)])) := f1
      have sa25 := s1
      clear f1 s1
      have fa26 := (sa25 (m + 6) (by omega)).trans htx
      have fr27 := offn_in (k := 1) (q := m) offn_rf sa25 (by omega)
      refine v_aload_n dX7_order_31 rfl ?_
      refine fX7_185 (v := .int (nI 0)) rfl dX7_order_32 fa25 rfl ?_
      refine n_if_eq (tgt := 39) (x := 0) dX7_order_35 (by decide) (by decide) (fun _ => ?_) (fun c => absurd c (by decide))
      refine v_aload_n dX7_order_39 rfl ?_
      refine v_dup dX7_order_40 rfl ?_
      refine fX7_179 (v := .int (nI p)) rfl dX7_order_41 fa25 rfl ?_
      refine v_iconst (v := nI 1) dX7_order_44 (by decide) ?_
      refine n_iadd (x := p) (y := 1) dX7_order_45 ?_
      refine pX7_179 rfl dX7_order_46 fa25 (Nat.le_of_ble_eq_true rfl) ?_
      refine nw (fun h1 f1 s1 => ?_)
      have fa28 : h1 (m) = some (.inr (8, [.int fl, .int (nI ch), .int wy, .int dt, .int (nI sw), .ref (m + 1), .ref (m + 2), .ref (m + 3), .ref (m + 4), .ref (m + 5), .ref (m + 6), .ref (m + 7), .int (nI tn), .int (nI (p + 1)), .int (nI S.2), .int (nI ln), .int (nI 0), .int (nI 0)])) := f1
      have sa28 := s1
      clear f1 s1
      have fa29 := (sa28 (m + 6) (by omega)).trans fa26
      have fr30 := offn_in (k := 1) (q := m) fr27 sa28 (by omega)
      refine v_iload_n dX7_order_49 rfl ?_
      refine v_bipush (v := nI 110) dX7_order_50 (by decide) ?_
      refine n_icmp_eq (tgt := 71) (x := 102) (y := 110) dX7_order_52 (by decide) (by decide) (by decide) (fun c => absurd c (by decide)) (fun _ => ?_)
      refine v_aload_n dX7_order_55 rfl ?_
      refine v_iload_n dX7_order_56 rfl ?_
      refine v_bipush (v := nI 119) dX7_order_57 (by decide) ?_
      refine n_icmp_ne (tgt := 66) (x := 102) (y := 119) dX7_order_59 (by decide) (by decide) (by decide) (fun _ => ?_) (fun c => absurd c (by decide))
      refine v_iconst (v := nI 1) dX7_order_66 (by decide) ?_
      refine v_callV (st := []) dX7_order_67 (t_X7_digits1 (s := (true, p + 1)) fa28 fa29 hX hS (by omega)) wX7_195 fa28 rfl rfl ⟨Nat.le_of_ble_eq_true rfl, Nat.le_of_ble_eq_true rfl⟩ (Nat.le_of_ble_eq_true rfl) ⟨Nat.le_of_ble_eq_true rfl, Nat.le_of_ble_eq_true rfl⟩ (fun r n2 h2 hq => ?_)
      obtain ⟨rfl, hn9, fo31, sa31⟩ := hq; replace hn9 := hn9.symm; subst hn9
      refine v_st (st2 := [.int (nI (dvS (txt S.1 S.2) 1 (true, p + 1)))]) rfl ?_
      obtain ⟨s31, hs31⟩ : ∃ z : Bool × Nat, z = sN (txt S.1 S.2) 1 (true, p + 1) := ⟨_, rfl⟩
      rw [← hs31] at fo31
      have hle31 : s31.2 ≤ S.2 := by rw [hs31]; exact sN_le (by show p + 1 ≤ S.2; omega)
      have fa32 := (sa31 (m + 6) (by omega)).trans fa29
      have fr33 := offn_in (k := 1) (q := m) fr30 sa31 (by omega)
      refine v_istore_n dX7_order_70 rfl (by decide) ?_
      refine v_ls (ls2 := [some (.ref m), some (.int (nI 102)), some (.int (nI (dvS (txt S.1 S.2) 1 (true, p + 1)))), some (.int (nI 0)), some (.int (nI 0)), some (.int (nI 0)), none]) rfl ?_
      refine v_iload_n dX7_order_71 rfl ?_
      refine v_bipush (v := nI 112) dX7_order_72 (by decide) ?_
      refine n_icmp_eq (tgt := 83) (x := 102) (y := 112) dX7_order_74 (by decide) (by decide) (by decide) (fun c => absurd c (by decide)) (fun _ => ?_)
      refine v_iload_n dX7_order_77 rfl ?_
      refine v_bipush (v := nI 98) dX7_order_78 (by decide) ?_
      refine n_icmp_ne (tgt := 91) (x := 102) (y := 98) dX7_order_80 (by decide) (by decide) (by decide) (fun _ => ?_) (fun c => absurd c (by decide))
      refine v_iload_n dX7_order_91 rfl ?_
      refine v_bipush (v := nI 112) dX7_order_92 (by decide) ?_
      refine n_icmp_ne (tgt := 106) (x := 102) (y := 112) dX7_order_94 (by decide) (by decide) (by decide) (fun _ => ?_) (fun c => absurd c (by decide))
      refine v_iload_n dX7_order_106 rfl ?_
      refine v_bipush (v := nI 98) dX7_order_107 (by decide) ?_
      refine n_icmp_ne (tgt := 121) (x := 102) (y := 98) dX7_order_109 (by decide) (by decide) (by decide) (fun _ => ?_) (fun c => absurd c (by decide))
      refine v_iload_n dX7_order_121 rfl ?_
      refine v_bipush (v := nI 98) dX7_order_122 (by decide) ?_
      refine n_icmp_ne (tgt := 136) (x := 102) (y := 98) dX7_order_124 (by decide) (by decide) (by decide) (fun _ => ?_) (fun c => absurd c (by decide))
      refine v_iload_n dX7_order_136 rfl ?_
      refine v_bipush (v := nI 120) dX7_order_137 (by decide) ?_
      refine n_icmp_ne (tgt := 147) (x := 102) (y := 120) dX7_order_139 (by decide) (by decide) (by decide) (fun _ => ?_) (fun c => absurd c (by decide))
      refine v_aload_n dX7_order_147 rfl ?_
      refine fX7_185 (v := .int (nI (bI (s31.1 = false)))) rfl dX7_order_148 fo31 rfl ?_
      refine n_ifb_ne (tgt := 161) (p := s31.1 = false) dX7_order_151 (by decide) (fun c34 => ?_) (fun c34 => ?_)
      · refine v_vret dX7_order_161 rfl ?_ (Nat.le_of_ble_eq_true rfl) (Nat.le_of_ble_eq_true rfl)
        subst hs31
        exact ⟨rfl, rfl, by rw [hsh]; exact fo31, fr33⟩
      · refine v_aload_n dX7_order_154 rfl ?_
        refine fX7_207 (v := .int (nI 0)) rfl dX7_order_155 fo31 rfl ?_
        refine n_if_ne (tgt := 162) (x := 0) dX7_order_158 (by decide) (by decide) (fun c => absurd c (by decide)) (fun _ => ?_)
        refine v_vret dX7_order_161 rfl ?_ (Nat.le_of_ble_eq_true rfl) (Nat.le_of_ble_eq_true rfl)
        subst hs31
        exact ⟨rfl, rfl, by rw [hsh]; exact fo31, fr33⟩
    · refine v_st (st2 := [.int (nI 106)]) (by rw [hk]) ?_
      refine v_istore_n dX7_order_4 rfl (by decide) ?_
      refine v_ls (ls2 := [some (.ref m), some (.int (nI 106)), none, none, none, none, none]) rfl ?_
      refine v_iconst (v := nI 0) dX7_order_5 (by decide) ?_
      refine v_istore_n dX7_order_6 rfl (by decide) ?_
      refine v_ls (ls2 := [some (.ref m), some (.int (nI 106)), some (.int (nI 0)), none, none, none, none]) rfl ?_
      refine v_iconst (v := nI 0) dX7_order_7 (by decide) ?_
      refine v_istore_n dX7_order_8 rfl (by decide) ?_
      refine v_ls (ls2 := [some (.ref m), some (.int (nI 106)), some (.int (nI 0)), some (.int (nI 0)), none, none, none]) rfl ?_
      refine v_iconst (v := nI 0) dX7_order_9 (by decide) ?_
      refine v_istore dX7_order_10 rfl (by decide) ?_
      refine v_ls (ls2 := [some (.ref m), some (.int (nI 106)), some (.int (nI 0)), some (.int (nI 0)), some (.int (nI 0)), none, none]) rfl ?_
      refine v_iconst (v := nI 0) dX7_order_12 (by decide) ?_
      refine v_istore dX7_order_13 rfl (by decide) ?_
      refine v_ls (ls2 := [some (.ref m), some (.int (nI 106)), some (.int (nI 0)), some (.int (nI 0)), some (.int (nI 0)), some (.int (nI 0)), none]) rfl ?_
      refine v_aload_n dX7_order_15 rfl ?_
      refine v_iload_n dX7_order_16 rfl ?_
      refine v_callS (st := [.ref m]) dX7_order_17 (t_X7_isKnown (c := 106) (by decide)) wX7_198 rfl ⟨Nat.le_of_ble_eq_true rfl, Nat.le_of_ble_eq_true rfl⟩ (Nat.le_of_ble_eq_true rfl) ⟨Nat.le_of_ble_eq_true rfl, Nat.le_of_ble_eq_true rfl⟩ (fun r n2 h2 hq => ?_)
      obtain ⟨rfl, hn9, hh9⟩ := hq; replace hn9 := hn9.symm; subst hn9; replace hh9 := hh9.symm; subst hh9
      refine v_st (st2 := [.int (nI 1), .ref m]) rfl ?_
      refine n_if_ne (tgt := 27) (x := 1) dX7_order_20 (by decide) (by decide) (fun _ => ?_) (fun c => absurd c (by decide))
      refine v_iconst (v := nI 0) dX7_order_27 (by decide) ?_
      refine pX7_185 rfl dX7_order_28 ho (Nat.le_of_ble_eq_true rfl) (by decide) (by decide) ?_
      refine nw (fun h1 f1 s1 => ?_)
      have fa35 : h1 (m) = some (.inr (8, [.int fl, .int (nI ch), .int wy, .int dt, .int (nI sw), .ref (m + 1), .ref (m + 2), .ref (m + 3), .ref (m + 4), .ref (m + 5), .ref (m + 6), .ref (m + 7), .int (nI tn), .int (nI p), .int (nI S.2), .int (nI ln), .int (nI 0), .int (nI 0)])) := f1
      have sa35 := s1
      clear f1 s1
      have fa36 := (sa35 (m + 6) (by omega)).trans htx
      have fr37 := offn_in (k := 1) (q := m) offn_rf sa35 (by omega)
      refine v_aload_n dX7_order_31 rfl ?_
      refine fX7_185 (v := .int (nI 0)) rfl dX7_order_32 fa35 rfl ?_
      refine n_if_eq (tgt := 39) (x := 0) dX7_order_35 (by decide) (by decide) (fun _ => ?_) (fun c => absurd c (by decide))
      refine v_aload_n dX7_order_39 rfl ?_
      refine v_dup dX7_order_40 rfl ?_
      refine fX7_179 (v := .int (nI p)) rfl dX7_order_41 fa35 rfl ?_
      refine v_iconst (v := nI 1) dX7_order_44 (by decide) ?_
      refine n_iadd (x := p) (y := 1) dX7_order_45 ?_
      refine pX7_179 rfl dX7_order_46 fa35 (Nat.le_of_ble_eq_true rfl) ?_
      refine nw (fun h1 f1 s1 => ?_)
      have fa38 : h1 (m) = some (.inr (8, [.int fl, .int (nI ch), .int wy, .int dt, .int (nI sw), .ref (m + 1), .ref (m + 2), .ref (m + 3), .ref (m + 4), .ref (m + 5), .ref (m + 6), .ref (m + 7), .int (nI tn), .int (nI (p + 1)), .int (nI S.2), .int (nI ln), .int (nI 0), .int (nI 0)])) := f1
      have sa38 := s1
      clear f1 s1
      have fa39 := (sa38 (m + 6) (by omega)).trans fa36
      have fr40 := offn_in (k := 1) (q := m) fr37 sa38 (by omega)
      refine v_iload_n dX7_order_49 rfl ?_
      refine v_bipush (v := nI 110) dX7_order_50 (by decide) ?_
      refine n_icmp_eq (tgt := 71) (x := 106) (y := 110) dX7_order_52 (by decide) (by decide) (by decide) (fun c => absurd c (by decide)) (fun _ => ?_)
      refine v_aload_n dX7_order_55 rfl ?_
      refine v_iload_n dX7_order_56 rfl ?_
      refine v_bipush (v := nI 119) dX7_order_57 (by decide) ?_
      refine n_icmp_ne (tgt := 66) (x := 106) (y := 119) dX7_order_59 (by decide) (by decide) (by decide) (fun _ => ?_) (fun c => absurd c (by decide))
      refine v_iconst (v := nI 1) dX7_order_66 (by decide) ?_
      refine v_callV (st := []) dX7_order_67 (t_X7_digits1 (s := (true, p + 1)) fa38 fa39 hX hS (by omega)) wX7_195 fa38 rfl rfl ⟨Nat.le_of_ble_eq_true rfl, Nat.le_of_ble_eq_true rfl⟩ (Nat.le_of_ble_eq_true rfl) ⟨Nat.le_of_ble_eq_true rfl, Nat.le_of_ble_eq_true rfl⟩ (fun r n2 h2 hq => ?_)
      obtain ⟨rfl, hn9, fo41, sa41⟩ := hq; replace hn9 := hn9.symm; subst hn9
      refine v_st (st2 := [.int (nI (dvS (txt S.1 S.2) 1 (true, p + 1)))]) rfl ?_
      obtain ⟨s41, hs41⟩ : ∃ z : Bool × Nat, z = sN (txt S.1 S.2) 1 (true, p + 1) := ⟨_, rfl⟩
      rw [← hs41] at fo41
      have hle41 : s41.2 ≤ S.2 := by rw [hs41]; exact sN_le (by show p + 1 ≤ S.2; omega)
      have fa42 := (sa41 (m + 6) (by omega)).trans fa39
      have fr43 := offn_in (k := 1) (q := m) fr40 sa41 (by omega)
      refine v_istore_n dX7_order_70 rfl (by decide) ?_
      refine v_ls (ls2 := [some (.ref m), some (.int (nI 106)), some (.int (nI (dvS (txt S.1 S.2) 1 (true, p + 1)))), some (.int (nI 0)), some (.int (nI 0)), some (.int (nI 0)), none]) rfl ?_
      refine v_iload_n dX7_order_71 rfl ?_
      refine v_bipush (v := nI 112) dX7_order_72 (by decide) ?_
      refine n_icmp_eq (tgt := 83) (x := 106) (y := 112) dX7_order_74 (by decide) (by decide) (by decide) (fun c => absurd c (by decide)) (fun _ => ?_)
      refine v_iload_n dX7_order_77 rfl ?_
      refine v_bipush (v := nI 98) dX7_order_78 (by decide) ?_
      refine n_icmp_ne (tgt := 91) (x := 106) (y := 98) dX7_order_80 (by decide) (by decide) (by decide) (fun _ => ?_) (fun c => absurd c (by decide))
      refine v_iload_n dX7_order_91 rfl ?_
      refine v_bipush (v := nI 112) dX7_order_92 (by decide) ?_
      refine n_icmp_ne (tgt := 106) (x := 106) (y := 112) dX7_order_94 (by decide) (by decide) (by decide) (fun _ => ?_) (fun c => absurd c (by decide))
      refine v_iload_n dX7_order_106 rfl ?_
      refine v_bipush (v := nI 98) dX7_order_107 (by decide) ?_
      refine n_icmp_ne (tgt := 121) (x := 106) (y := 98) dX7_order_109 (by decide) (by decide) (by decide) (fun _ => ?_) (fun c => absurd c (by decide))
      refine v_iload_n dX7_order_121 rfl ?_
      refine v_bipush (v := nI 98) dX7_order_122 (by decide) ?_
      refine n_icmp_ne (tgt := 136) (x := 106) (y := 98) dX7_order_124 (by decide) (by decide) (by decide) (fun _ => ?_) (fun c => absurd c (by decide))
      refine v_iload_n dX7_order_136 rfl ?_
      refine v_bipush (v := nI 120) dX7_order_137 (by decide) ?_
      refine n_icmp_ne (tgt := 147) (x := 106) (y := 120) dX7_order_139 (by decide) (by decide) (by decide) (fun _ => ?_) (fun c => absurd c (by decide))
      refine v_aload_n dX7_order_147 rfl ?_
      refine fX7_185 (v := .int (nI (bI (s41.1 = false)))) rfl dX7_order_148 fo41 rfl ?_
      refine n_ifb_ne (tgt := 161) (p := s41.1 = false) dX7_order_151 (by decide) (fun c44 => ?_) (fun c44 => ?_)
      · refine v_vret dX7_order_161 rfl ?_ (Nat.le_of_ble_eq_true rfl) (Nat.le_of_ble_eq_true rfl)
        subst hs41
        exact ⟨rfl, rfl, by rw [hsh]; exact fo41, fr43⟩
      · refine v_aload_n dX7_order_154 rfl ?_
        refine fX7_207 (v := .int (nI 0)) rfl dX7_order_155 fo41 rfl ?_
        refine n_if_ne (tgt := 162) (x := 0) dX7_order_158 (by decide) (by decide) (fun c => absurd c (by decide)) (fun _ => ?_)
        refine v_vret dX7_order_161 rfl ?_ (Nat.le_of_ble_eq_true rfl) (Nat.le_of_ble_eq_true rfl)
        subst hs41
        exact ⟨rfl, rfl, by rw [hsh]; exact fo41, fr43⟩
    · refine v_st (st2 := [.int (nI 112)]) (by rw [hk]) ?_
      refine v_istore_n dX7_order_4 rfl (by decide) ?_
      refine v_ls (ls2 := [some (.ref m), some (.int (nI 112)), none, none, none, none, none]) rfl ?_
      refine v_iconst (v := nI 0) dX7_order_5 (by decide) ?_
      refine v_istore_n dX7_order_6 rfl (by decide) ?_
      refine v_ls (ls2 := [some (.ref m), some (.int (nI 112)), some (.int (nI 0)), none, none, none, none]) rfl ?_
      refine v_iconst (v := nI 0) dX7_order_7 (by decide) ?_
      refine v_istore_n dX7_order_8 rfl (by decide) ?_
      refine v_ls (ls2 := [some (.ref m), some (.int (nI 112)), some (.int (nI 0)), some (.int (nI 0)), none, none, none]) rfl ?_
      refine v_iconst (v := nI 0) dX7_order_9 (by decide) ?_
      refine v_istore dX7_order_10 rfl (by decide) ?_
      refine v_ls (ls2 := [some (.ref m), some (.int (nI 112)), some (.int (nI 0)), some (.int (nI 0)), some (.int (nI 0)), none, none]) rfl ?_
      refine v_iconst (v := nI 0) dX7_order_12 (by decide) ?_
      refine v_istore dX7_order_13 rfl (by decide) ?_
      refine v_ls (ls2 := [some (.ref m), some (.int (nI 112)), some (.int (nI 0)), some (.int (nI 0)), some (.int (nI 0)), some (.int (nI 0)), none]) rfl ?_
      refine v_aload_n dX7_order_15 rfl ?_
      refine v_iload_n dX7_order_16 rfl ?_
      refine v_callS (st := [.ref m]) dX7_order_17 (t_X7_isKnown (c := 112) (by decide)) wX7_198 rfl ⟨Nat.le_of_ble_eq_true rfl, Nat.le_of_ble_eq_true rfl⟩ (Nat.le_of_ble_eq_true rfl) ⟨Nat.le_of_ble_eq_true rfl, Nat.le_of_ble_eq_true rfl⟩ (fun r n2 h2 hq => ?_)
      obtain ⟨rfl, hn9, hh9⟩ := hq; replace hn9 := hn9.symm; subst hn9; replace hh9 := hh9.symm; subst hh9
      refine v_st (st2 := [.int (nI 1), .ref m]) rfl ?_
      refine n_if_ne (tgt := 27) (x := 1) dX7_order_20 (by decide) (by decide) (fun _ => ?_) (fun c => absurd c (by decide))
      refine v_iconst (v := nI 0) dX7_order_27 (by decide) ?_
      refine pX7_185 rfl dX7_order_28 ho (Nat.le_of_ble_eq_true rfl) (by decide) (by decide) ?_
      refine nw (fun h1 f1 s1 => ?_)
      have fa45 : h1 (m) = some (.inr (8, [.int fl, .int (nI ch), .int wy, .int dt, .int (nI sw), .ref (m + 1), .ref (m + 2), .ref (m + 3), .ref (m + 4), .ref (m + 5), .ref (m + 6), .ref (m + 7), .int (nI tn), .int (nI p), .int (nI S.2), .int (nI ln), .int (nI 0), .int (nI 0)])) := f1
      have sa45 := s1
      clear f1 s1
      have fa46 := (sa45 (m + 6) (by omega)).trans htx
      have fr47 := offn_in (k := 1) (q := m) offn_rf sa45 (by omega)
      refine v_aload_n dX7_order_31 rfl ?_
      refine fX7_185 (v := .int (nI 0)) rfl dX7_order_32 fa45 rfl ?_
      refine n_if_eq (tgt := 39) (x := 0) dX7_order_35 (by decide) (by decide) (fun _ => ?_) (fun c => absurd c (by decide))
      refine v_aload_n dX7_order_39 rfl ?_
      refine v_dup dX7_order_40 rfl ?_
      refine fX7_179 (v := .int (nI p)) rfl dX7_order_41 fa45 rfl ?_
      refine v_iconst (v := nI 1) dX7_order_44 (by decide) ?_
      refine n_iadd (x := p) (y := 1) dX7_order_45 ?_
      refine pX7_179 rfl dX7_order_46 fa45 (Nat.le_of_ble_eq_true rfl) ?_
      refine nw (fun h1 f1 s1 => ?_)
      have fa48 : h1 (m) = some (.inr (8, [.int fl, .int (nI ch), .int wy, .int dt, .int (nI sw), .ref (m + 1), .ref (m + 2), .ref (m + 3), .ref (m + 4), .ref (m + 5), .ref (m + 6), .ref (m + 7), .int (nI tn), .int (nI (p + 1)), .int (nI S.2), .int (nI ln), .int (nI 0), .int (nI 0)])) := f1
      have sa48 := s1
      clear f1 s1
      have fa49 := (sa48 (m + 6) (by omega)).trans fa46
      have fr50 := offn_in (k := 1) (q := m) fr47 sa48 (by omega)
      refine v_iload_n dX7_order_49 rfl ?_
      refine v_bipush (v := nI 110) dX7_order_50 (by decide) ?_
      refine n_icmp_eq (tgt := 71) (x := 112) (y := 110) dX7_order_52 (by decide) (by decide) (by decide) (fun c => absurd c (by decide)) (fun _ => ?_)
      refine v_aload_n dX7_order_55 rfl ?_
      refine v_iload_n dX7_order_56 rfl ?_
      refine v_bipush (v := nI 119) dX7_order_57 (by decide) ?_
      refine n_icmp_ne (tgt := 66) (x := 112) (y := 119) dX7_order_59 (by decide) (by decide) (by decide) (fun _ => ?_) (fun c => absurd c (by decide))
      refine v_iconst (v := nI 1) dX7_order_66 (by decide) ?_
      refine v_callV (st := []) dX7_order_67 (t_X7_digits1 (s := (true, p + 1)) fa48 fa49 hX hS (by omega)) wX7_195 fa48 rfl rfl ⟨Nat.le_of_ble_eq_true rfl, Nat.le_of_ble_eq_true rfl⟩ (Nat.le_of_ble_eq_true rfl) ⟨Nat.le_of_ble_eq_true rfl, Nat.le_of_ble_eq_true rfl⟩ (fun r n2 h2 hq => ?_)
      obtain ⟨rfl, hn9, fo51, sa51⟩ := hq; replace hn9 := hn9.symm; subst hn9
      refine v_st (st2 := [.int (nI (dvS (txt S.1 S.2) 1 (true, p + 1)))]) rfl ?_
      obtain ⟨s51, hs51⟩ : ∃ z : Bool × Nat, z = sN (txt S.1 S.2) 1 (true, p + 1) := ⟨_, rfl⟩
      rw [← hs51] at fo51
      have hle51 : s51.2 ≤ S.2 := by rw [hs51]; exact sN_le (by show p + 1 ≤ S.2; omega)
      have fa52 := (sa51 (m + 6) (by omega)).trans fa49
      have fr53 := offn_in (k := 1) (q := m) fr50 sa51 (by omega)
      refine v_istore_n dX7_order_70 rfl (by decide) ?_
      refine v_ls (ls2 := [some (.ref m), some (.int (nI 112)), some (.int (nI (dvS (txt S.1 S.2) 1 (true, p + 1)))), some (.int (nI 0)), some (.int (nI 0)), some (.int (nI 0)), none]) rfl ?_
      refine v_iload_n dX7_order_71 rfl ?_
      refine v_bipush (v := nI 112) dX7_order_72 (by decide) ?_
      refine n_icmp_eq (tgt := 83) (x := 112) (y := 112) dX7_order_74 (by decide) (by decide) (by decide) (fun _ => ?_) (fun c => absurd c (by decide))
      refine v_aload_n dX7_order_83 rfl ?_
      refine v_bipush (v := nI 58) dX7_order_84 (by decide) ?_
      refine v_iconst (v := nI 2) dX7_order_86 (by decide) ?_
      refine v_callV (st := []) dX7_order_87 (t_X7_behind58 (s := s51) fo51 fa52 hX hS (by omega)) wX7_201 fo51 rfl rfl ⟨Nat.le_of_ble_eq_true rfl, Nat.le_of_ble_eq_true rfl⟩ (Nat.le_of_ble_eq_true rfl) ⟨Nat.le_of_ble_eq_true rfl, Nat.le_of_ble_eq_true rfl⟩ (fun r n2 h2 hq => ?_)
      obtain ⟨rfl, hn9, fo54, sa54⟩ := hq; replace hn9 := hn9.symm; subst hn9
      refine v_st (st2 := [.int (nI (bhV (txt S.1 S.2) 58 2 s51))]) rfl ?_
      obtain ⟨s54, hs54⟩ : ∃ z : Bool × Nat, z = sN (txt S.1 S.2) 2 (sS (txt S.1 S.2) 58 s51) := ⟨_, rfl⟩
      rw [← hs54] at fo54
      have hle54 : s54.2 ≤ S.2 := by rw [hs54]; exact sN_le (sS_le (by decide) (by omega))
      have fa55 := (sa54 (m + 6) (by omega)).trans fa52
      have fr56 := offn_in (k := 1) (q := m) fr53 sa54 (by omega)
      refine v_istore_n dX7_order_90 rfl (by decide) ?_
      refine v_ls (ls2 := [some (.ref m), some (.int (nI 112)), some (.int (nI (dvS (txt S.1 S.2) 1 (true, p + 1)))), some (.int (nI (bhV (txt S.1 S.2) 58 2 s51))), some (.int (nI 0)), some (.int (nI 0)), none]) rfl ?_
      refine v_iload_n dX7_order_91 rfl ?_
      refine v_bipush (v := nI 112) dX7_order_92 (by decide) ?_
      refine n_icmp_ne (tgt := 106) (x := 112) (y := 112) dX7_order_94 (by decide) (by decide) (by decide) (fun c => absurd c (by decide)) (fun _ => ?_)
      refine v_aload_n dX7_order_97 rfl ?_
      refine v_bipush (v := nI 42) dX7_order_98 (by decide) ?_
      refine v_iconst (v := nI 2) dX7_order_100 (by decide) ?_
      refine v_callV (st := []) dX7_order_101 (t_X7_behind42 (s := s54) fo54 fa55 hX hS (by omega)) wX7_201 fo54 rfl rfl ⟨Nat.le_of_ble_eq_true rfl, Nat.le_of_ble_eq_true rfl⟩ (Nat.le_of_ble_eq_true rfl) ⟨Nat.le_of_ble_eq_true rfl, Nat.le_of_ble_eq_true rfl⟩ (fun r n2 h2 hq => ?_)
      obtain ⟨rfl, hn9, fo57, sa57⟩ := hq; replace hn9 := hn9.symm; subst hn9
      refine v_st (st2 := [.int (nI (bhV (txt S.1 S.2) 42 2 s54))]) rfl ?_
      obtain ⟨s57, hs57⟩ : ∃ z : Bool × Nat, z = sN (txt S.1 S.2) 2 (sS (txt S.1 S.2) 42 s54) := ⟨_, rfl⟩
      rw [← hs57] at fo57
      have hle57 : s57.2 ≤ S.2 := by rw [hs57]; exact sN_le (sS_le (by decide) (by omega))
      have fa58 := (sa57 (m + 6) (by omega)).trans fa55
      have fr59 := offn_in (k := 1) (q := m) fr56 sa57 (by omega)
      refine v_istore dX7_order_104 rfl (by decide) ?_
      refine v_ls (ls2 := [some (.ref m), some (.int (nI 112)), some (.int (nI (dvS (txt S.1 S.2) 1 (true, p + 1)))), some (.int (nI (bhV (txt S.1 S.2) 58 2 s51))), some (.int (nI (bhV (txt S.1 S.2) 42 2 s54))), some (.int (nI 0)), none]) rfl ?_
      refine v_iload_n dX7_order_106 rfl ?_
      refine v_bipush (v := nI 98) dX7_order_107 (by decide) ?_
      refine n_icmp_ne (tgt := 121) (x := 112) (y := 98) dX7_order_109 (by decide) (by decide) (by decide) (fun _ => ?_) (fun c => absurd c (by decide))
      refine v_iload_n dX7_order_121 rfl ?_
      refine v_bipush (v := nI 98) dX7_order_122 (by decide) ?_
      refine n_icmp_ne (tgt := 136) (x := 112) (y := 98) dX7_order_124 (by decide) (by decide) (by decide) (fun _ => ?_) (fun c => absurd c (by decide))
      refine v_iload_n dX7_order_136 rfl ?_
      refine v_bipush (v := nI 120) dX7_order_137 (by decide) ?_
      refine n_icmp_ne (tgt := 147) (x := 112) (y := 120) dX7_order_139 (by decide) (by decide) (by decide) (fun _ => ?_) (fun c => absurd c (by decide))
      refine v_aload_n dX7_order_147 rfl ?_
      refine fX7_185 (v := .int (nI (bI (s57.1 = false)))) rfl dX7_order_148 fo57 rfl ?_
      refine n_ifb_ne (tgt := 161) (p := s57.1 = false) dX7_order_151 (by decide) (fun c60 => ?_) (fun c60 => ?_)
      · refine v_vret dX7_order_161 rfl ?_ (Nat.le_of_ble_eq_true rfl) (Nat.le_of_ble_eq_true rfl)
        subst hs57
        subst hs54
        subst hs51
        exact ⟨rfl, rfl, by rw [hsh]; exact fo57, fr59⟩
      · refine v_aload_n dX7_order_154 rfl ?_
        refine fX7_207 (v := .int (nI 0)) rfl dX7_order_155 fo57 rfl ?_
        refine n_if_ne (tgt := 162) (x := 0) dX7_order_158 (by decide) (by decide) (fun c => absurd c (by decide)) (fun _ => ?_)
        refine v_vret dX7_order_161 rfl ?_ (Nat.le_of_ble_eq_true rfl) (Nat.le_of_ble_eq_true rfl)
        subst hs57
        subst hs54
        subst hs51
        exact ⟨rfl, rfl, by rw [hsh]; exact fo57, fr59⟩
    · refine v_st (st2 := [.int (nI 98)]) (by rw [hk]) ?_
      refine v_istore_n dX7_order_4 rfl (by decide) ?_
      refine v_ls (ls2 := [some (.ref m), some (.int (nI 98)), none, none, none, none, none]) rfl ?_
      refine v_iconst (v := nI 0) dX7_order_5 (by decide) ?_
      refine v_istore_n dX7_order_6 rfl (by decide) ?_
      refine v_ls (ls2 := [some (.ref m), some (.int (nI 98)), some (.int (nI 0)), none, none, none, none]) rfl ?_
      refine v_iconst (v := nI 0) dX7_order_7 (by decide) ?_
      refine v_istore_n dX7_order_8 rfl (by decide) ?_
      refine v_ls (ls2 := [some (.ref m), some (.int (nI 98)), some (.int (nI 0)), some (.int (nI 0)), none, none, none]) rfl ?_
      refine v_iconst (v := nI 0) dX7_order_9 (by decide) ?_
      refine v_istore dX7_order_10 rfl (by decide) ?_
      refine v_ls (ls2 := [some (.ref m), some (.int (nI 98)), some (.int (nI 0)), some (.int (nI 0)), some (.int (nI 0)), none, none]) rfl ?_
      refine v_iconst (v := nI 0) dX7_order_12 (by decide) ?_
      refine v_istore dX7_order_13 rfl (by decide) ?_
      refine v_ls (ls2 := [some (.ref m), some (.int (nI 98)), some (.int (nI 0)), some (.int (nI 0)), some (.int (nI 0)), some (.int (nI 0)), none]) rfl ?_
      refine v_aload_n dX7_order_15 rfl ?_
      refine v_iload_n dX7_order_16 rfl ?_
      refine v_callS (st := [.ref m]) dX7_order_17 (t_X7_isKnown (c := 98) (by decide)) wX7_198 rfl ⟨Nat.le_of_ble_eq_true rfl, Nat.le_of_ble_eq_true rfl⟩ (Nat.le_of_ble_eq_true rfl) ⟨Nat.le_of_ble_eq_true rfl, Nat.le_of_ble_eq_true rfl⟩ (fun r n2 h2 hq => ?_)
      obtain ⟨rfl, hn9, hh9⟩ := hq; replace hn9 := hn9.symm; subst hn9; replace hh9 := hh9.symm; subst hh9
      refine v_st (st2 := [.int (nI 1), .ref m]) rfl ?_
      refine n_if_ne (tgt := 27) (x := 1) dX7_order_20 (by decide) (by decide) (fun _ => ?_) (fun c => absurd c (by decide))
      refine v_iconst (v := nI 0) dX7_order_27 (by decide) ?_
      refine pX7_185 rfl dX7_order_28 ho (Nat.le_of_ble_eq_true rfl) (by decide) (by decide) ?_
      refine nw (fun h1 f1 s1 => ?_)
      have fa61 : h1 (m) = some (.inr (8, [.int fl, .int (nI ch), .int wy, .int dt, .int (nI sw), .ref (m + 1), .ref (m + 2), .ref (m + 3), .ref (m + 4), .ref (m + 5), .ref (m + 6), .ref (m + 7), .int (nI tn), .int (nI p), .int (nI S.2), .int (nI ln), .int (nI 0), .int (nI 0)])) := f1
      have sa61 := s1
      clear f1 s1
      have fa62 := (sa61 (m + 6) (by omega)).trans htx
      have fr63 := offn_in (k := 1) (q := m) offn_rf sa61 (by omega)
      refine v_aload_n dX7_order_31 rfl ?_
      refine fX7_185 (v := .int (nI 0)) rfl dX7_order_32 fa61 rfl ?_
      refine n_if_eq (tgt := 39) (x := 0) dX7_order_35 (by decide) (by decide) (fun _ => ?_) (fun c => absurd c (by decide))
      refine v_aload_n dX7_order_39 rfl ?_
      refine v_dup dX7_order_40 rfl ?_
      refine fX7_179 (v := .int (nI p)) rfl dX7_order_41 fa61 rfl ?_
      refine v_iconst (v := nI 1) dX7_order_44 (by decide) ?_
      refine n_iadd (x := p) (y := 1) dX7_order_45 ?_
      refine pX7_179 rfl dX7_order_46 fa61 (Nat.le_of_ble_eq_true rfl) ?_
      refine nw (fun h1 f1 s1 => ?_)
      have fa64 : h1 (m) = some (.inr (8, [.int fl, .int (nI ch), .int wy, .int dt, .int (nI sw), .ref (m + 1), .ref (m + 2), .ref (m + 3), .ref (m + 4), .ref (m + 5), .ref (m + 6), .ref (m + 7), .int (nI tn), .int (nI (p + 1)), .int (nI S.2), .int (nI ln), .int (nI 0), .int (nI 0)])) := f1
      have sa64 := s1
      clear f1 s1
      have fa65 := (sa64 (m + 6) (by omega)).trans fa62
      have fr66 := offn_in (k := 1) (q := m) fr63 sa64 (by omega)
      refine v_iload_n dX7_order_49 rfl ?_
      refine v_bipush (v := nI 110) dX7_order_50 (by decide) ?_
      refine n_icmp_eq (tgt := 71) (x := 98) (y := 110) dX7_order_52 (by decide) (by decide) (by decide) (fun c => absurd c (by decide)) (fun _ => ?_)
      refine v_aload_n dX7_order_55 rfl ?_
      refine v_iload_n dX7_order_56 rfl ?_
      refine v_bipush (v := nI 119) dX7_order_57 (by decide) ?_
      refine n_icmp_ne (tgt := 66) (x := 98) (y := 119) dX7_order_59 (by decide) (by decide) (by decide) (fun _ => ?_) (fun c => absurd c (by decide))
      refine v_iconst (v := nI 1) dX7_order_66 (by decide) ?_
      refine v_callV (st := []) dX7_order_67 (t_X7_digits1 (s := (true, p + 1)) fa64 fa65 hX hS (by omega)) wX7_195 fa64 rfl rfl ⟨Nat.le_of_ble_eq_true rfl, Nat.le_of_ble_eq_true rfl⟩ (Nat.le_of_ble_eq_true rfl) ⟨Nat.le_of_ble_eq_true rfl, Nat.le_of_ble_eq_true rfl⟩ (fun r n2 h2 hq => ?_)
      obtain ⟨rfl, hn9, fo67, sa67⟩ := hq; replace hn9 := hn9.symm; subst hn9
      refine v_st (st2 := [.int (nI (dvS (txt S.1 S.2) 1 (true, p + 1)))]) rfl ?_
      obtain ⟨s67, hs67⟩ : ∃ z : Bool × Nat, z = sN (txt S.1 S.2) 1 (true, p + 1) := ⟨_, rfl⟩
      rw [← hs67] at fo67
      have hle67 : s67.2 ≤ S.2 := by rw [hs67]; exact sN_le (by show p + 1 ≤ S.2; omega)
      have fa68 := (sa67 (m + 6) (by omega)).trans fa65
      have fr69 := offn_in (k := 1) (q := m) fr66 sa67 (by omega)
      refine v_istore_n dX7_order_70 rfl (by decide) ?_
      refine v_ls (ls2 := [some (.ref m), some (.int (nI 98)), some (.int (nI (dvS (txt S.1 S.2) 1 (true, p + 1)))), some (.int (nI 0)), some (.int (nI 0)), some (.int (nI 0)), none]) rfl ?_
      refine v_iload_n dX7_order_71 rfl ?_
      refine v_bipush (v := nI 112) dX7_order_72 (by decide) ?_
      refine n_icmp_eq (tgt := 83) (x := 98) (y := 112) dX7_order_74 (by decide) (by decide) (by decide) (fun c => absurd c (by decide)) (fun _ => ?_)
      refine v_iload_n dX7_order_77 rfl ?_
      refine v_bipush (v := nI 98) dX7_order_78 (by decide) ?_
      refine n_icmp_ne (tgt := 91) (x := 98) (y := 98) dX7_order_80 (by decide) (by decide) (by decide) (fun c => absurd c (by decide)) (fun _ => ?_)
      refine v_aload_n dX7_order_83 rfl ?_
      refine v_bipush (v := nI 58) dX7_order_84 (by decide) ?_
      refine v_iconst (v := nI 2) dX7_order_86 (by decide) ?_
      refine v_callV (st := []) dX7_order_87 (t_X7_behind58 (s := s67) fo67 fa68 hX hS (by omega)) wX7_201 fo67 rfl rfl ⟨Nat.le_of_ble_eq_true rfl, Nat.le_of_ble_eq_true rfl⟩ (Nat.le_of_ble_eq_true rfl) ⟨Nat.le_of_ble_eq_true rfl, Nat.le_of_ble_eq_true rfl⟩ (fun r n2 h2 hq => ?_)
      obtain ⟨rfl, hn9, fo70, sa70⟩ := hq; replace hn9 := hn9.symm; subst hn9
      refine v_st (st2 := [.int (nI (bhV (txt S.1 S.2) 58 2 s67))]) rfl ?_
      obtain ⟨s70, hs70⟩ : ∃ z : Bool × Nat, z = sN (txt S.1 S.2) 2 (sS (txt S.1 S.2) 58 s67) := ⟨_, rfl⟩
      rw [← hs70] at fo70
      have hle70 : s70.2 ≤ S.2 := by rw [hs70]; exact sN_le (sS_le (by decide) (by omega))
      have fa71 := (sa70 (m + 6) (by omega)).trans fa68
      have fr72 := offn_in (k := 1) (q := m) fr69 sa70 (by omega)
      refine v_istore_n dX7_order_90 rfl (by decide) ?_
      refine v_ls (ls2 := [some (.ref m), some (.int (nI 98)), some (.int (nI (dvS (txt S.1 S.2) 1 (true, p + 1)))), some (.int (nI (bhV (txt S.1 S.2) 58 2 s67))), some (.int (nI 0)), some (.int (nI 0)), none]) rfl ?_
      refine v_iload_n dX7_order_91 rfl ?_
      refine v_bipush (v := nI 112) dX7_order_92 (by decide) ?_
      refine n_icmp_ne (tgt := 106) (x := 98) (y := 112) dX7_order_94 (by decide) (by decide) (by decide) (fun _ => ?_) (fun c => absurd c (by decide))
      refine v_iload_n dX7_order_106 rfl ?_
      refine v_bipush (v := nI 98) dX7_order_107 (by decide) ?_
      refine n_icmp_ne (tgt := 121) (x := 98) (y := 98) dX7_order_109 (by decide) (by decide) (by decide) (fun c => absurd c (by decide)) (fun _ => ?_)
      refine v_aload_n dX7_order_112 rfl ?_
      refine v_bipush (v := nI 64) dX7_order_113 (by decide) ?_
      refine v_iconst (v := nI 1) dX7_order_115 (by decide) ?_
      refine v_callV (st := []) dX7_order_116 (t_X7_behind64 (s := s70) fo70 fa71 hX hS (by omega)) wX7_201 fo70 rfl rfl ⟨Nat.le_of_ble_eq_true rfl, Nat.le_of_ble_eq_true rfl⟩ (Nat.le_of_ble_eq_true rfl) ⟨Nat.le_of_ble_eq_true rfl, Nat.le_of_ble_eq_true rfl⟩ (fun r n2 h2 hq => ?_)
      obtain ⟨rfl, hn9, fo73, sa73⟩ := hq; replace hn9 := hn9.symm; subst hn9
      refine v_st (st2 := [.int (nI (bhV (txt S.1 S.2) 64 1 s70))]) rfl ?_
      obtain ⟨s73, hs73⟩ : ∃ z : Bool × Nat, z = sN (txt S.1 S.2) 1 (sS (txt S.1 S.2) 64 s70) := ⟨_, rfl⟩
      rw [← hs73] at fo73
      have hle73 : s73.2 ≤ S.2 := by rw [hs73]; exact sN_le (sS_le (by decide) (by omega))
      have fa74 := (sa73 (m + 6) (by omega)).trans fa71
      have fr75 := offn_in (k := 1) (q := m) fr72 sa73 (by omega)
      refine v_istore dX7_order_119 rfl (by decide) ?_
      refine v_ls (ls2 := [some (.ref m), some (.int (nI 98)), some (.int (nI (dvS (txt S.1 S.2) 1 (true, p + 1)))), some (.int (nI (bhV (txt S.1 S.2) 58 2 s67))), some (.int (nI (bhV (txt S.1 S.2) 64 1 s70))), some (.int (nI 0)), none]) rfl ?_
      refine v_iload_n dX7_order_121 rfl ?_
      refine v_bipush (v := nI 98) dX7_order_122 (by decide) ?_
      refine n_icmp_ne (tgt := 136) (x := 98) (y := 98) dX7_order_124 (by decide) (by decide) (by decide) (fun c => absurd c (by decide)) (fun _ => ?_)
      refine v_aload_n dX7_order_127 rfl ?_
      refine v_bipush (v := nI 61) dX7_order_128 (by decide) ?_
      refine v_iconst (v := nI 2) dX7_order_130 (by decide) ?_
      refine v_callV (st := []) dX7_order_131 (t_X7_behind61 (s := s73) fo73 fa74 hX hS (by omega)) wX7_201 fo73 rfl rfl ⟨Nat.le_of_ble_eq_true rfl, Nat.le_of_ble_eq_true rfl⟩ (Nat.le_of_ble_eq_true rfl) ⟨Nat.le_of_ble_eq_true rfl, Nat.le_of_ble_eq_true rfl⟩ (fun r n2 h2 hq => ?_)
      obtain ⟨rfl, hn9, fo76, sa76⟩ := hq; replace hn9 := hn9.symm; subst hn9
      refine v_st (st2 := [.int (nI (bhV (txt S.1 S.2) 61 2 s73))]) rfl ?_
      obtain ⟨s76, hs76⟩ : ∃ z : Bool × Nat, z = sN (txt S.1 S.2) 2 (sS (txt S.1 S.2) 61 s73) := ⟨_, rfl⟩
      rw [← hs76] at fo76
      have hle76 : s76.2 ≤ S.2 := by rw [hs76]; exact sN_le (sS_le (by decide) (by omega))
      have fa77 := (sa76 (m + 6) (by omega)).trans fa74
      have fr78 := offn_in (k := 1) (q := m) fr75 sa76 (by omega)
      refine v_istore dX7_order_134 rfl (by decide) ?_
      refine v_ls (ls2 := [some (.ref m), some (.int (nI 98)), some (.int (nI (dvS (txt S.1 S.2) 1 (true, p + 1)))), some (.int (nI (bhV (txt S.1 S.2) 58 2 s67))), some (.int (nI (bhV (txt S.1 S.2) 64 1 s70))), some (.int (nI (bhV (txt S.1 S.2) 61 2 s73))), none]) rfl ?_
      refine v_iload_n dX7_order_136 rfl ?_
      refine v_bipush (v := nI 120) dX7_order_137 (by decide) ?_
      refine n_icmp_ne (tgt := 147) (x := 98) (y := 120) dX7_order_139 (by decide) (by decide) (by decide) (fun _ => ?_) (fun c => absurd c (by decide))
      refine v_aload_n dX7_order_147 rfl ?_
      refine fX7_185 (v := .int (nI (bI (s76.1 = false)))) rfl dX7_order_148 fo76 rfl ?_
      refine n_ifb_ne (tgt := 161) (p := s76.1 = false) dX7_order_151 (by decide) (fun c79 => ?_) (fun c79 => ?_)
      · refine v_vret dX7_order_161 rfl ?_ (Nat.le_of_ble_eq_true rfl) (Nat.le_of_ble_eq_true rfl)
        subst hs76
        subst hs73
        subst hs70
        subst hs67
        exact ⟨rfl, rfl, by rw [hsh]; exact fo76, fr78⟩
      · refine v_aload_n dX7_order_154 rfl ?_
        refine fX7_207 (v := .int (nI 0)) rfl dX7_order_155 fo76 rfl ?_
        refine n_if_ne (tgt := 162) (x := 0) dX7_order_158 (by decide) (by decide) (fun c => absurd c (by decide)) (fun _ => ?_)
        refine v_vret dX7_order_161 rfl ?_ (Nat.le_of_ble_eq_true rfl) (Nat.le_of_ble_eq_true rfl)
        subst hs76
        subst hs73
        subst hs70
        subst hs67
        exact ⟨rfl, rfl, by rw [hsh]; exact fo76, fr78⟩
    · refine v_st (st2 := [.int (nI 110)]) (by rw [hk]) ?_
      refine v_istore_n dX7_order_4 rfl (by decide) ?_
      refine v_ls (ls2 := [some (.ref m), some (.int (nI 110)), none, none, none, none, none]) rfl ?_
      refine v_iconst (v := nI 0) dX7_order_5 (by decide) ?_
      refine v_istore_n dX7_order_6 rfl (by decide) ?_
      refine v_ls (ls2 := [some (.ref m), some (.int (nI 110)), some (.int (nI 0)), none, none, none, none]) rfl ?_
      refine v_iconst (v := nI 0) dX7_order_7 (by decide) ?_
      refine v_istore_n dX7_order_8 rfl (by decide) ?_
      refine v_ls (ls2 := [some (.ref m), some (.int (nI 110)), some (.int (nI 0)), some (.int (nI 0)), none, none, none]) rfl ?_
      refine v_iconst (v := nI 0) dX7_order_9 (by decide) ?_
      refine v_istore dX7_order_10 rfl (by decide) ?_
      refine v_ls (ls2 := [some (.ref m), some (.int (nI 110)), some (.int (nI 0)), some (.int (nI 0)), some (.int (nI 0)), none, none]) rfl ?_
      refine v_iconst (v := nI 0) dX7_order_12 (by decide) ?_
      refine v_istore dX7_order_13 rfl (by decide) ?_
      refine v_ls (ls2 := [some (.ref m), some (.int (nI 110)), some (.int (nI 0)), some (.int (nI 0)), some (.int (nI 0)), some (.int (nI 0)), none]) rfl ?_
      refine v_aload_n dX7_order_15 rfl ?_
      refine v_iload_n dX7_order_16 rfl ?_
      refine v_callS (st := [.ref m]) dX7_order_17 (t_X7_isKnown (c := 110) (by decide)) wX7_198 rfl ⟨Nat.le_of_ble_eq_true rfl, Nat.le_of_ble_eq_true rfl⟩ (Nat.le_of_ble_eq_true rfl) ⟨Nat.le_of_ble_eq_true rfl, Nat.le_of_ble_eq_true rfl⟩ (fun r n2 h2 hq => ?_)
      obtain ⟨rfl, hn9, hh9⟩ := hq; replace hn9 := hn9.symm; subst hn9; replace hh9 := hh9.symm; subst hh9
      refine v_st (st2 := [.int (nI 1), .ref m]) rfl ?_
      refine n_if_ne (tgt := 27) (x := 1) dX7_order_20 (by decide) (by decide) (fun _ => ?_) (fun c => absurd c (by decide))
      refine v_iconst (v := nI 0) dX7_order_27 (by decide) ?_
      refine pX7_185 rfl dX7_order_28 ho (Nat.le_of_ble_eq_true rfl) (by decide) (by decide) ?_
      refine nw (fun h1 f1 s1 => ?_)
      have fa80 : h1 (m) = some (.inr (8, [.int fl, .int (nI ch), .int wy, .int dt, .int (nI sw), .ref (m + 1), .ref (m + 2), .ref (m + 3), .ref (m + 4), .ref (m + 5), .ref (m + 6), .ref (m + 7), .int (nI tn), .int (nI p), .int (nI S.2), .int (nI ln), .int (nI 0), .int (nI 0)])) := f1
      have sa80 := s1
      clear f1 s1
      have fa81 := (sa80 (m + 6) (by omega)).trans htx
      have fr82 := offn_in (k := 1) (q := m) offn_rf sa80 (by omega)
      refine v_aload_n dX7_order_31 rfl ?_
      refine fX7_185 (v := .int (nI 0)) rfl dX7_order_32 fa80 rfl ?_
      refine n_if_eq (tgt := 39) (x := 0) dX7_order_35 (by decide) (by decide) (fun _ => ?_) (fun c => absurd c (by decide))
      refine v_aload_n dX7_order_39 rfl ?_
      refine v_dup dX7_order_40 rfl ?_
      refine fX7_179 (v := .int (nI p)) rfl dX7_order_41 fa80 rfl ?_
      refine v_iconst (v := nI 1) dX7_order_44 (by decide) ?_
      refine n_iadd (x := p) (y := 1) dX7_order_45 ?_
      refine pX7_179 rfl dX7_order_46 fa80 (Nat.le_of_ble_eq_true rfl) ?_
      refine nw (fun h1 f1 s1 => ?_)
      have fa83 : h1 (m) = some (.inr (8, [.int fl, .int (nI ch), .int wy, .int dt, .int (nI sw), .ref (m + 1), .ref (m + 2), .ref (m + 3), .ref (m + 4), .ref (m + 5), .ref (m + 6), .ref (m + 7), .int (nI tn), .int (nI (p + 1)), .int (nI S.2), .int (nI ln), .int (nI 0), .int (nI 0)])) := f1
      have sa83 := s1
      clear f1 s1
      have fa84 := (sa83 (m + 6) (by omega)).trans fa81
      have fr85 := offn_in (k := 1) (q := m) fr82 sa83 (by omega)
      refine v_iload_n dX7_order_49 rfl ?_
      refine v_bipush (v := nI 110) dX7_order_50 (by decide) ?_
      refine n_icmp_eq (tgt := 71) (x := 110) (y := 110) dX7_order_52 (by decide) (by decide) (by decide) (fun _ => ?_) (fun c => absurd c (by decide))
      refine v_iload_n dX7_order_71 rfl ?_
      refine v_bipush (v := nI 112) dX7_order_72 (by decide) ?_
      refine n_icmp_eq (tgt := 83) (x := 110) (y := 112) dX7_order_74 (by decide) (by decide) (by decide) (fun c => absurd c (by decide)) (fun _ => ?_)
      refine v_iload_n dX7_order_77 rfl ?_
      refine v_bipush (v := nI 98) dX7_order_78 (by decide) ?_
      refine n_icmp_ne (tgt := 91) (x := 110) (y := 98) dX7_order_80 (by decide) (by decide) (by decide) (fun _ => ?_) (fun c => absurd c (by decide))
      refine v_iload_n dX7_order_91 rfl ?_
      refine v_bipush (v := nI 112) dX7_order_92 (by decide) ?_
      refine n_icmp_ne (tgt := 106) (x := 110) (y := 112) dX7_order_94 (by decide) (by decide) (by decide) (fun _ => ?_) (fun c => absurd c (by decide))
      refine v_iload_n dX7_order_106 rfl ?_
      refine v_bipush (v := nI 98) dX7_order_107 (by decide) ?_
      refine n_icmp_ne (tgt := 121) (x := 110) (y := 98) dX7_order_109 (by decide) (by decide) (by decide) (fun _ => ?_) (fun c => absurd c (by decide))
      refine v_iload_n dX7_order_121 rfl ?_
      refine v_bipush (v := nI 98) dX7_order_122 (by decide) ?_
      refine n_icmp_ne (tgt := 136) (x := 110) (y := 98) dX7_order_124 (by decide) (by decide) (by decide) (fun _ => ?_) (fun c => absurd c (by decide))
      refine v_iload_n dX7_order_136 rfl ?_
      refine v_bipush (v := nI 120) dX7_order_137 (by decide) ?_
      refine n_icmp_ne (tgt := 147) (x := 110) (y := 120) dX7_order_139 (by decide) (by decide) (by decide) (fun _ => ?_) (fun c => absurd c (by decide))
      refine v_aload_n dX7_order_147 rfl ?_
      refine fX7_185 (v := .int (nI 0)) rfl dX7_order_148 fa83 rfl ?_
      refine n_if_ne (tgt := 161) (x := 0) dX7_order_151 (by decide) (by decide) (fun c => absurd c (by decide)) (fun _ => ?_)
      refine v_aload_n dX7_order_154 rfl ?_
      refine fX7_207 (v := .int (nI 0)) rfl dX7_order_155 fa83 rfl ?_
      refine n_if_ne (tgt := 162) (x := 0) dX7_order_158 (by decide) (by decide) (fun c => absurd c (by decide)) (fun _ => ?_)
      refine v_vret dX7_order_161 rfl ?_ (Nat.le_of_ble_eq_true rfl) (Nat.le_of_ble_eq_true rfl)
      exact ⟨rfl, rfl, by rw [hsh]; exact fa83, fr85⟩
    · refine v_st (st2 := [.int (nI 105)]) (by rw [hk]) ?_
      refine v_istore_n dX7_order_4 rfl (by decide) ?_
      refine v_ls (ls2 := [some (.ref m), some (.int (nI 105)), none, none, none, none, none]) rfl ?_
      refine v_iconst (v := nI 0) dX7_order_5 (by decide) ?_
      refine v_istore_n dX7_order_6 rfl (by decide) ?_
      refine v_ls (ls2 := [some (.ref m), some (.int (nI 105)), some (.int (nI 0)), none, none, none, none]) rfl ?_
      refine v_iconst (v := nI 0) dX7_order_7 (by decide) ?_
      refine v_istore_n dX7_order_8 rfl (by decide) ?_
      refine v_ls (ls2 := [some (.ref m), some (.int (nI 105)), some (.int (nI 0)), some (.int (nI 0)), none, none, none]) rfl ?_
      refine v_iconst (v := nI 0) dX7_order_9 (by decide) ?_
      refine v_istore dX7_order_10 rfl (by decide) ?_
      refine v_ls (ls2 := [some (.ref m), some (.int (nI 105)), some (.int (nI 0)), some (.int (nI 0)), some (.int (nI 0)), none, none]) rfl ?_
      refine v_iconst (v := nI 0) dX7_order_12 (by decide) ?_
      refine v_istore dX7_order_13 rfl (by decide) ?_
      refine v_ls (ls2 := [some (.ref m), some (.int (nI 105)), some (.int (nI 0)), some (.int (nI 0)), some (.int (nI 0)), some (.int (nI 0)), none]) rfl ?_
      refine v_aload_n dX7_order_15 rfl ?_
      refine v_iload_n dX7_order_16 rfl ?_
      refine v_callS (st := [.ref m]) dX7_order_17 (t_X7_isKnown (c := 105) (by decide)) wX7_198 rfl ⟨Nat.le_of_ble_eq_true rfl, Nat.le_of_ble_eq_true rfl⟩ (Nat.le_of_ble_eq_true rfl) ⟨Nat.le_of_ble_eq_true rfl, Nat.le_of_ble_eq_true rfl⟩ (fun r n2 h2 hq => ?_)
      obtain ⟨rfl, hn9, hh9⟩ := hq; replace hn9 := hn9.symm; subst hn9; replace hh9 := hh9.symm; subst hh9
      refine v_st (st2 := [.int (nI 1), .ref m]) rfl ?_
      refine n_if_ne (tgt := 27) (x := 1) dX7_order_20 (by decide) (by decide) (fun _ => ?_) (fun c => absurd c (by decide))
      refine v_iconst (v := nI 0) dX7_order_27 (by decide) ?_
      refine pX7_185 rfl dX7_order_28 ho (Nat.le_of_ble_eq_true rfl) (by decide) (by decide) ?_
      refine nw (fun h1 f1 s1 => ?_)
      have fa86 : h1 (m) = some (.inr (8, [.int fl, .int (nI ch), .int wy, .int dt, .int (nI sw), .ref (m + 1), .ref (m + 2), .ref (m + 3), .ref (m + 4), .ref (m + 5), .ref (m + 6), .ref (m + 7), .int (nI tn), .int (nI p), .int (nI S.2), .int (nI ln), .int (nI 0), .int (nI 0)])) := f1
      have sa86 := s1
      clear f1 s1
      have fa87 := (sa86 (m + 6) (by omega)).trans htx
      have fr88 := offn_in (k := 1) (q := m) offn_rf sa86 (by omega)
      refine v_aload_n dX7_order_31 rfl ?_
      refine fX7_185 (v := .int (nI 0)) rfl dX7_order_32 fa86 rfl ?_
      refine n_if_eq (tgt := 39) (x := 0) dX7_order_35 (by decide) (by decide) (fun _ => ?_) (fun c => absurd c (by decide))
      refine v_aload_n dX7_order_39 rfl ?_
      refine v_dup dX7_order_40 rfl ?_
      refine fX7_179 (v := .int (nI p)) rfl dX7_order_41 fa86 rfl ?_
      refine v_iconst (v := nI 1) dX7_order_44 (by decide) ?_
      refine n_iadd (x := p) (y := 1) dX7_order_45 ?_
      refine pX7_179 rfl dX7_order_46 fa86 (Nat.le_of_ble_eq_true rfl) ?_
      refine nw (fun h1 f1 s1 => ?_)
      have fa89 : h1 (m) = some (.inr (8, [.int fl, .int (nI ch), .int wy, .int dt, .int (nI sw), .ref (m + 1), .ref (m + 2), .ref (m + 3), .ref (m + 4), .ref (m + 5), .ref (m + 6), .ref (m + 7), .int (nI tn), .int (nI (p + 1)), .int (nI S.2), .int (nI ln), .int (nI 0), .int (nI 0)])) := f1
      have sa89 := s1
      clear f1 s1
      have fa90 := (sa89 (m + 6) (by omega)).trans fa87
      have fr91 := offn_in (k := 1) (q := m) fr88 sa89 (by omega)
      refine v_iload_n dX7_order_49 rfl ?_
      refine v_bipush (v := nI 110) dX7_order_50 (by decide) ?_
      refine n_icmp_eq (tgt := 71) (x := 105) (y := 110) dX7_order_52 (by decide) (by decide) (by decide) (fun c => absurd c (by decide)) (fun _ => ?_)
      refine v_aload_n dX7_order_55 rfl ?_
      refine v_iload_n dX7_order_56 rfl ?_
      refine v_bipush (v := nI 119) dX7_order_57 (by decide) ?_
      refine n_icmp_ne (tgt := 66) (x := 105) (y := 119) dX7_order_59 (by decide) (by decide) (by decide) (fun _ => ?_) (fun c => absurd c (by decide))
      refine v_iconst (v := nI 1) dX7_order_66 (by decide) ?_
      refine v_callV (st := []) dX7_order_67 (t_X7_digits1 (s := (true, p + 1)) fa89 fa90 hX hS (by omega)) wX7_195 fa89 rfl rfl ⟨Nat.le_of_ble_eq_true rfl, Nat.le_of_ble_eq_true rfl⟩ (Nat.le_of_ble_eq_true rfl) ⟨Nat.le_of_ble_eq_true rfl, Nat.le_of_ble_eq_true rfl⟩ (fun r n2 h2 hq => ?_)
      obtain ⟨rfl, hn9, fo92, sa92⟩ := hq; replace hn9 := hn9.symm; subst hn9
      refine v_st (st2 := [.int (nI (dvS (txt S.1 S.2) 1 (true, p + 1)))]) rfl ?_
      obtain ⟨s92, hs92⟩ : ∃ z : Bool × Nat, z = sN (txt S.1 S.2) 1 (true, p + 1) := ⟨_, rfl⟩
      rw [← hs92] at fo92
      have hle92 : s92.2 ≤ S.2 := by rw [hs92]; exact sN_le (by show p + 1 ≤ S.2; omega)
      have fa93 := (sa92 (m + 6) (by omega)).trans fa90
      have fr94 := offn_in (k := 1) (q := m) fr91 sa92 (by omega)
      refine v_istore_n dX7_order_70 rfl (by decide) ?_
      refine v_ls (ls2 := [some (.ref m), some (.int (nI 105)), some (.int (nI (dvS (txt S.1 S.2) 1 (true, p + 1)))), some (.int (nI 0)), some (.int (nI 0)), some (.int (nI 0)), none]) rfl ?_
      refine v_iload_n dX7_order_71 rfl ?_
      refine v_bipush (v := nI 112) dX7_order_72 (by decide) ?_
      refine n_icmp_eq (tgt := 83) (x := 105) (y := 112) dX7_order_74 (by decide) (by decide) (by decide) (fun c => absurd c (by decide)) (fun _ => ?_)
      refine v_iload_n dX7_order_77 rfl ?_
      refine v_bipush (v := nI 98) dX7_order_78 (by decide) ?_
      refine n_icmp_ne (tgt := 91) (x := 105) (y := 98) dX7_order_80 (by decide) (by decide) (by decide) (fun _ => ?_) (fun c => absurd c (by decide))
      refine v_iload_n dX7_order_91 rfl ?_
      refine v_bipush (v := nI 112) dX7_order_92 (by decide) ?_
      refine n_icmp_ne (tgt := 106) (x := 105) (y := 112) dX7_order_94 (by decide) (by decide) (by decide) (fun _ => ?_) (fun c => absurd c (by decide))
      refine v_iload_n dX7_order_106 rfl ?_
      refine v_bipush (v := nI 98) dX7_order_107 (by decide) ?_
      refine n_icmp_ne (tgt := 121) (x := 105) (y := 98) dX7_order_109 (by decide) (by decide) (by decide) (fun _ => ?_) (fun c => absurd c (by decide))
      refine v_iload_n dX7_order_121 rfl ?_
      refine v_bipush (v := nI 98) dX7_order_122 (by decide) ?_
      refine n_icmp_ne (tgt := 136) (x := 105) (y := 98) dX7_order_124 (by decide) (by decide) (by decide) (fun _ => ?_) (fun c => absurd c (by decide))
      refine v_iload_n dX7_order_136 rfl ?_
      refine v_bipush (v := nI 120) dX7_order_137 (by decide) ?_
      refine n_icmp_ne (tgt := 147) (x := 105) (y := 120) dX7_order_139 (by decide) (by decide) (by decide) (fun _ => ?_) (fun c => absurd c (by decide))
      refine v_aload_n dX7_order_147 rfl ?_
      refine fX7_185 (v := .int (nI (bI (s92.1 = false)))) rfl dX7_order_148 fo92 rfl ?_
      refine n_ifb_ne (tgt := 161) (p := s92.1 = false) dX7_order_151 (by decide) (fun c95 => ?_) (fun c95 => ?_)
      · refine v_vret dX7_order_161 rfl ?_ (Nat.le_of_ble_eq_true rfl) (Nat.le_of_ble_eq_true rfl)
        subst hs92
        exact ⟨rfl, rfl, by rw [hsh]; exact fo92, fr94⟩
      · refine v_aload_n dX7_order_154 rfl ?_
        refine fX7_207 (v := .int (nI 0)) rfl dX7_order_155 fo92 rfl ?_
        refine n_if_ne (tgt := 162) (x := 0) dX7_order_158 (by decide) (by decide) (fun c => absurd c (by decide)) (fun _ => ?_)
        refine v_vret dX7_order_161 rfl ?_ (Nat.le_of_ble_eq_true rfl) (Nat.le_of_ble_eq_true rfl)
        subst hs92
        exact ⟨rfl, rfl, by rw [hsh]; exact fo92, fr94⟩
    · refine v_st (st2 := [.int (nI 97)]) (by rw [hk]) ?_
      refine v_istore_n dX7_order_4 rfl (by decide) ?_
      refine v_ls (ls2 := [some (.ref m), some (.int (nI 97)), none, none, none, none, none]) rfl ?_
      refine v_iconst (v := nI 0) dX7_order_5 (by decide) ?_
      refine v_istore_n dX7_order_6 rfl (by decide) ?_
      refine v_ls (ls2 := [some (.ref m), some (.int (nI 97)), some (.int (nI 0)), none, none, none, none]) rfl ?_
      refine v_iconst (v := nI 0) dX7_order_7 (by decide) ?_
      refine v_istore_n dX7_order_8 rfl (by decide) ?_
      refine v_ls (ls2 := [some (.ref m), some (.int (nI 97)), some (.int (nI 0)), some (.int (nI 0)), none, none, none]) rfl ?_
      refine v_iconst (v := nI 0) dX7_order_9 (by decide) ?_
      refine v_istore dX7_order_10 rfl (by decide) ?_
      refine v_ls (ls2 := [some (.ref m), some (.int (nI 97)), some (.int (nI 0)), some (.int (nI 0)), some (.int (nI 0)), none, none]) rfl ?_
      refine v_iconst (v := nI 0) dX7_order_12 (by decide) ?_
      refine v_istore dX7_order_13 rfl (by decide) ?_
      refine v_ls (ls2 := [some (.ref m), some (.int (nI 97)), some (.int (nI 0)), some (.int (nI 0)), some (.int (nI 0)), some (.int (nI 0)), none]) rfl ?_
      refine v_aload_n dX7_order_15 rfl ?_
      refine v_iload_n dX7_order_16 rfl ?_
      refine v_callS (st := [.ref m]) dX7_order_17 (t_X7_isKnown (c := 97) (by decide)) wX7_198 rfl ⟨Nat.le_of_ble_eq_true rfl, Nat.le_of_ble_eq_true rfl⟩ (Nat.le_of_ble_eq_true rfl) ⟨Nat.le_of_ble_eq_true rfl, Nat.le_of_ble_eq_true rfl⟩ (fun r n2 h2 hq => ?_)
      obtain ⟨rfl, hn9, hh9⟩ := hq; replace hn9 := hn9.symm; subst hn9; replace hh9 := hh9.symm; subst hh9
      refine v_st (st2 := [.int (nI 1), .ref m]) rfl ?_
      refine n_if_ne (tgt := 27) (x := 1) dX7_order_20 (by decide) (by decide) (fun _ => ?_) (fun c => absurd c (by decide))
      refine v_iconst (v := nI 0) dX7_order_27 (by decide) ?_
      refine pX7_185 rfl dX7_order_28 ho (Nat.le_of_ble_eq_true rfl) (by decide) (by decide) ?_
      refine nw (fun h1 f1 s1 => ?_)
      have fa96 : h1 (m) = some (.inr (8, [.int fl, .int (nI ch), .int wy, .int dt, .int (nI sw), .ref (m + 1), .ref (m + 2), .ref (m + 3), .ref (m + 4), .ref (m + 5), .ref (m + 6), .ref (m + 7), .int (nI tn), .int (nI p), .int (nI S.2), .int (nI ln), .int (nI 0), .int (nI 0)])) := f1
      have sa96 := s1
      clear f1 s1
      have fa97 := (sa96 (m + 6) (by omega)).trans htx
      have fr98 := offn_in (k := 1) (q := m) offn_rf sa96 (by omega)
      refine v_aload_n dX7_order_31 rfl ?_
      refine fX7_185 (v := .int (nI 0)) rfl dX7_order_32 fa96 rfl ?_
      refine n_if_eq (tgt := 39) (x := 0) dX7_order_35 (by decide) (by decide) (fun _ => ?_) (fun c => absurd c (by decide))
      refine v_aload_n dX7_order_39 rfl ?_
      refine v_dup dX7_order_40 rfl ?_
      refine fX7_179 (v := .int (nI p)) rfl dX7_order_41 fa96 rfl ?_
      refine v_iconst (v := nI 1) dX7_order_44 (by decide) ?_
      refine n_iadd (x := p) (y := 1) dX7_order_45 ?_
      refine pX7_179 rfl dX7_order_46 fa96 (Nat.le_of_ble_eq_true rfl) ?_
      refine nw (fun h1 f1 s1 => ?_)
      have fa99 : h1 (m) = some (.inr (8, [.int fl, .int (nI ch), .int wy, .int dt, .int (nI sw), .ref (m + 1), .ref (m + 2), .ref (m + 3), .ref (m + 4), .ref (m + 5), .ref (m + 6), .ref (m + 7), .int (nI tn), .int (nI (p + 1)), .int (nI S.2), .int (nI ln), .int (nI 0), .int (nI 0)])) := f1
      have sa99 := s1
      clear f1 s1
      have fa100 := (sa99 (m + 6) (by omega)).trans fa97
      have fr101 := offn_in (k := 1) (q := m) fr98 sa99 (by omega)
      refine v_iload_n dX7_order_49 rfl ?_
      refine v_bipush (v := nI 110) dX7_order_50 (by decide) ?_
      refine n_icmp_eq (tgt := 71) (x := 97) (y := 110) dX7_order_52 (by decide) (by decide) (by decide) (fun c => absurd c (by decide)) (fun _ => ?_)
      refine v_aload_n dX7_order_55 rfl ?_
      refine v_iload_n dX7_order_56 rfl ?_
      refine v_bipush (v := nI 119) dX7_order_57 (by decide) ?_
      refine n_icmp_ne (tgt := 66) (x := 97) (y := 119) dX7_order_59 (by decide) (by decide) (by decide) (fun _ => ?_) (fun c => absurd c (by decide))
      refine v_iconst (v := nI 1) dX7_order_66 (by decide) ?_
      refine v_callV (st := []) dX7_order_67 (t_X7_digits1 (s := (true, p + 1)) fa99 fa100 hX hS (by omega)) wX7_195 fa99 rfl rfl ⟨Nat.le_of_ble_eq_true rfl, Nat.le_of_ble_eq_true rfl⟩ (Nat.le_of_ble_eq_true rfl) ⟨Nat.le_of_ble_eq_true rfl, Nat.le_of_ble_eq_true rfl⟩ (fun r n2 h2 hq => ?_)
      obtain ⟨rfl, hn9, fo102, sa102⟩ := hq; replace hn9 := hn9.symm; subst hn9
      refine v_st (st2 := [.int (nI (dvS (txt S.1 S.2) 1 (true, p + 1)))]) rfl ?_
      obtain ⟨s102, hs102⟩ : ∃ z : Bool × Nat, z = sN (txt S.1 S.2) 1 (true, p + 1) := ⟨_, rfl⟩
      rw [← hs102] at fo102
      have hle102 : s102.2 ≤ S.2 := by rw [hs102]; exact sN_le (by show p + 1 ≤ S.2; omega)
      have fa103 := (sa102 (m + 6) (by omega)).trans fa100
      have fr104 := offn_in (k := 1) (q := m) fr101 sa102 (by omega)
      refine v_istore_n dX7_order_70 rfl (by decide) ?_
      refine v_ls (ls2 := [some (.ref m), some (.int (nI 97)), some (.int (nI (dvS (txt S.1 S.2) 1 (true, p + 1)))), some (.int (nI 0)), some (.int (nI 0)), some (.int (nI 0)), none]) rfl ?_
      refine v_iload_n dX7_order_71 rfl ?_
      refine v_bipush (v := nI 112) dX7_order_72 (by decide) ?_
      refine n_icmp_eq (tgt := 83) (x := 97) (y := 112) dX7_order_74 (by decide) (by decide) (by decide) (fun c => absurd c (by decide)) (fun _ => ?_)
      refine v_iload_n dX7_order_77 rfl ?_
      refine v_bipush (v := nI 98) dX7_order_78 (by decide) ?_
      refine n_icmp_ne (tgt := 91) (x := 97) (y := 98) dX7_order_80 (by decide) (by decide) (by decide) (fun _ => ?_) (fun c => absurd c (by decide))
      refine v_iload_n dX7_order_91 rfl ?_
      refine v_bipush (v := nI 112) dX7_order_92 (by decide) ?_
      refine n_icmp_ne (tgt := 106) (x := 97) (y := 112) dX7_order_94 (by decide) (by decide) (by decide) (fun _ => ?_) (fun c => absurd c (by decide))
      refine v_iload_n dX7_order_106 rfl ?_
      refine v_bipush (v := nI 98) dX7_order_107 (by decide) ?_
      refine n_icmp_ne (tgt := 121) (x := 97) (y := 98) dX7_order_109 (by decide) (by decide) (by decide) (fun _ => ?_) (fun c => absurd c (by decide))
      refine v_iload_n dX7_order_121 rfl ?_
      refine v_bipush (v := nI 98) dX7_order_122 (by decide) ?_
      refine n_icmp_ne (tgt := 136) (x := 97) (y := 98) dX7_order_124 (by decide) (by decide) (by decide) (fun _ => ?_) (fun c => absurd c (by decide))
      refine v_iload_n dX7_order_136 rfl ?_
      refine v_bipush (v := nI 120) dX7_order_137 (by decide) ?_
      refine n_icmp_ne (tgt := 147) (x := 97) (y := 120) dX7_order_139 (by decide) (by decide) (by decide) (fun _ => ?_) (fun c => absurd c (by decide))
      refine v_aload_n dX7_order_147 rfl ?_
      refine fX7_185 (v := .int (nI (bI (s102.1 = false)))) rfl dX7_order_148 fo102 rfl ?_
      refine n_ifb_ne (tgt := 161) (p := s102.1 = false) dX7_order_151 (by decide) (fun c105 => ?_) (fun c105 => ?_)
      · refine v_vret dX7_order_161 rfl ?_ (Nat.le_of_ble_eq_true rfl) (Nat.le_of_ble_eq_true rfl)
        subst hs102
        exact ⟨rfl, rfl, by rw [hsh]; exact fo102, fr104⟩
      · refine v_aload_n dX7_order_154 rfl ?_
        refine fX7_207 (v := .int (nI 0)) rfl dX7_order_155 fo102 rfl ?_
        refine n_if_ne (tgt := 162) (x := 0) dX7_order_158 (by decide) (by decide) (fun c => absurd c (by decide)) (fun _ => ?_)
        refine v_vret dX7_order_161 rfl ?_ (Nat.le_of_ble_eq_true rfl) (Nat.le_of_ble_eq_true rfl)
        subst hs102
        exact ⟨rfl, rfl, by rw [hsh]; exact fo102, fr104⟩
    · refine v_st (st2 := [.int (nI 120)]) (by rw [hk]) ?_
      refine v_istore_n dX7_order_4 rfl (by decide) ?_
      refine v_ls (ls2 := [some (.ref m), some (.int (nI 120)), none, none, none, none, none]) rfl ?_
      refine v_iconst (v := nI 0) dX7_order_5 (by decide) ?_
      refine v_istore_n dX7_order_6 rfl (by decide) ?_
      refine v_ls (ls2 := [some (.ref m), some (.int (nI 120)), some (.int (nI 0)), none, none, none, none]) rfl ?_
      refine v_iconst (v := nI 0) dX7_order_7 (by decide) ?_
      refine v_istore_n dX7_order_8 rfl (by decide) ?_
      refine v_ls (ls2 := [some (.ref m), some (.int (nI 120)), some (.int (nI 0)), some (.int (nI 0)), none, none, none]) rfl ?_
      refine v_iconst (v := nI 0) dX7_order_9 (by decide) ?_
      refine v_istore dX7_order_10 rfl (by decide) ?_
      refine v_ls (ls2 := [some (.ref m), some (.int (nI 120)), some (.int (nI 0)), some (.int (nI 0)), some (.int (nI 0)), none, none]) rfl ?_
      refine v_iconst (v := nI 0) dX7_order_12 (by decide) ?_
      refine v_istore dX7_order_13 rfl (by decide) ?_
      refine v_ls (ls2 := [some (.ref m), some (.int (nI 120)), some (.int (nI 0)), some (.int (nI 0)), some (.int (nI 0)), some (.int (nI 0)), none]) rfl ?_
      refine v_aload_n dX7_order_15 rfl ?_
      refine v_iload_n dX7_order_16 rfl ?_
      refine v_callS (st := [.ref m]) dX7_order_17 (t_X7_isKnown (c := 120) (by decide)) wX7_198 rfl ⟨Nat.le_of_ble_eq_true rfl, Nat.le_of_ble_eq_true rfl⟩ (Nat.le_of_ble_eq_true rfl) ⟨Nat.le_of_ble_eq_true rfl, Nat.le_of_ble_eq_true rfl⟩ (fun r n2 h2 hq => ?_)
      obtain ⟨rfl, hn9, hh9⟩ := hq; replace hn9 := hn9.symm; subst hn9; replace hh9 := hh9.symm; subst hh9
      refine v_st (st2 := [.int (nI 1), .ref m]) rfl ?_
      refine n_if_ne (tgt := 27) (x := 1) dX7_order_20 (by decide) (by decide) (fun _ => ?_) (fun c => absurd c (by decide))
      refine v_iconst (v := nI 0) dX7_order_27 (by decide) ?_
      refine pX7_185 rfl dX7_order_28 ho (Nat.le_of_ble_eq_true rfl) (by decide) (by decide) ?_
      refine nw (fun h1 f1 s1 => ?_)
      have fa106 : h1 (m) = some (.inr (8, [.int fl, .int (nI ch), .int wy, .int dt, .int (nI sw), .ref (m + 1), .ref (m + 2), .ref (m + 3), .ref (m + 4), .ref (m + 5), .ref (m + 6), .ref (m + 7), .int (nI tn), .int (nI p), .int (nI S.2), .int (nI ln), .int (nI 0), .int (nI 0)])) := f1
      have sa106 := s1
      clear f1 s1
      have fa107 := (sa106 (m + 6) (by omega)).trans htx
      have fr108 := offn_in (k := 1) (q := m) offn_rf sa106 (by omega)
      refine v_aload_n dX7_order_31 rfl ?_
      refine fX7_185 (v := .int (nI 0)) rfl dX7_order_32 fa106 rfl ?_
      refine n_if_eq (tgt := 39) (x := 0) dX7_order_35 (by decide) (by decide) (fun _ => ?_) (fun c => absurd c (by decide))
      refine v_aload_n dX7_order_39 rfl ?_
      refine v_dup dX7_order_40 rfl ?_
      refine fX7_179 (v := .int (nI p)) rfl dX7_order_41 fa106 rfl ?_
      refine v_iconst (v := nI 1) dX7_order_44 (by decide) ?_
      refine n_iadd (x := p) (y := 1) dX7_order_45 ?_
      refine pX7_179 rfl dX7_order_46 fa106 (Nat.le_of_ble_eq_true rfl) ?_
      refine nw (fun h1 f1 s1 => ?_)
      have fa109 : h1 (m) = some (.inr (8, [.int fl, .int (nI ch), .int wy, .int dt, .int (nI sw), .ref (m + 1), .ref (m + 2), .ref (m + 3), .ref (m + 4), .ref (m + 5), .ref (m + 6), .ref (m + 7), .int (nI tn), .int (nI (p + 1)), .int (nI S.2), .int (nI ln), .int (nI 0), .int (nI 0)])) := f1
      have sa109 := s1
      clear f1 s1
      have fa110 := (sa109 (m + 6) (by omega)).trans fa107
      have fr111 := offn_in (k := 1) (q := m) fr108 sa109 (by omega)
      refine v_iload_n dX7_order_49 rfl ?_
      refine v_bipush (v := nI 110) dX7_order_50 (by decide) ?_
      refine n_icmp_eq (tgt := 71) (x := 120) (y := 110) dX7_order_52 (by decide) (by decide) (by decide) (fun c => absurd c (by decide)) (fun _ => ?_)
      refine v_aload_n dX7_order_55 rfl ?_
      refine v_iload_n dX7_order_56 rfl ?_
      refine v_bipush (v := nI 119) dX7_order_57 (by decide) ?_
      refine n_icmp_ne (tgt := 66) (x := 120) (y := 119) dX7_order_59 (by decide) (by decide) (by decide) (fun _ => ?_) (fun c => absurd c (by decide))
      refine v_iconst (v := nI 1) dX7_order_66 (by decide) ?_
      refine v_callV (st := []) dX7_order_67 (t_X7_digits1 (s := (true, p + 1)) fa109 fa110 hX hS (by omega)) wX7_195 fa109 rfl rfl ⟨Nat.le_of_ble_eq_true rfl, Nat.le_of_ble_eq_true rfl⟩ (Nat.le_of_ble_eq_true rfl) ⟨Nat.le_of_ble_eq_true rfl, Nat.le_of_ble_eq_true rfl⟩ (fun r n2 h2 hq => ?_)
      obtain ⟨rfl, hn9, fo112, sa112⟩ := hq; replace hn9 := hn9.symm; subst hn9
      refine v_st (st2 := [.int (nI (dvS (txt S.1 S.2) 1 (true, p + 1)))]) rfl ?_
      obtain ⟨s112, hs112⟩ : ∃ z : Bool × Nat, z = sN (txt S.1 S.2) 1 (true, p + 1) := ⟨_, rfl⟩
      rw [← hs112] at fo112
      have hle112 : s112.2 ≤ S.2 := by rw [hs112]; exact sN_le (by show p + 1 ≤ S.2; omega)
      have fa113 := (sa112 (m + 6) (by omega)).trans fa110
      have fr114 := offn_in (k := 1) (q := m) fr111 sa112 (by omega)
      refine v_istore_n dX7_order_70 rfl (by decide) ?_
      refine v_ls (ls2 := [some (.ref m), some (.int (nI 120)), some (.int (nI (dvS (txt S.1 S.2) 1 (true, p + 1)))), some (.int (nI 0)), some (.int (nI 0)), some (.int (nI 0)), none]) rfl ?_
      refine v_iload_n dX7_order_71 rfl ?_
      refine v_bipush (v := nI 112) dX7_order_72 (by decide) ?_
      refine n_icmp_eq (tgt := 83) (x := 120) (y := 112) dX7_order_74 (by decide) (by decide) (by decide) (fun c => absurd c (by decide)) (fun _ => ?_)
      refine v_iload_n dX7_order_77 rfl ?_
      refine v_bipush (v := nI 98) dX7_order_78 (by decide) ?_
      refine n_icmp_ne (tgt := 91) (x := 120) (y := 98) dX7_order_80 (by decide) (by decide) (by decide) (fun _ => ?_) (fun c => absurd c (by decide))
      refine v_iload_n dX7_order_91 rfl ?_
      refine v_bipush (v := nI 112) dX7_order_92 (by decide) ?_
      refine n_icmp_ne (tgt := 106) (x := 120) (y := 112) dX7_order_94 (by decide) (by decide) (by decide) (fun _ => ?_) (fun c => absurd c (by decide))
      refine v_iload_n dX7_order_106 rfl ?_
      refine v_bipush (v := nI 98) dX7_order_107 (by decide) ?_
      refine n_icmp_ne (tgt := 121) (x := 120) (y := 98) dX7_order_109 (by decide) (by decide) (by decide) (fun _ => ?_) (fun c => absurd c (by decide))
      refine v_iload_n dX7_order_121 rfl ?_
      refine v_bipush (v := nI 98) dX7_order_122 (by decide) ?_
      refine n_icmp_ne (tgt := 136) (x := 120) (y := 98) dX7_order_124 (by decide) (by decide) (by decide) (fun _ => ?_) (fun c => absurd c (by decide))
      refine v_iload_n dX7_order_136 rfl ?_
      refine v_bipush (v := nI 120) dX7_order_137 (by decide) ?_
      refine n_icmp_ne (tgt := 147) (x := 120) (y := 120) dX7_order_139 (by decide) (by decide) (by decide) (fun c => absurd c (by decide)) (fun _ => ?_)
      refine v_aload_n dX7_order_142 rfl ?_
      refine v_callV (st := []) dX7_order_143 (t_X7_plus (s := s112) fo112 fa113 hX hS (by omega)) wX7_204 fo112 rfl rfl ⟨Nat.le_of_ble_eq_true rfl, Nat.le_of_ble_eq_true rfl⟩ (Nat.le_of_ble_eq_true rfl) ⟨Nat.le_of_ble_eq_true rfl, Nat.le_of_ble_eq_true rfl⟩ (fun r n2 h2 hq => ?_)
      obtain ⟨rfl, hn9, fo115, sa115⟩ := hq; replace hn9 := hn9.symm; subst hn9
      refine v_st (st2 := [.int (nI (bI ((txt S.1 S.2) s112.2 = 43)))]) rfl ?_
      obtain ⟨s115, hs115⟩ : ∃ z : Bool × Nat, z = sPM (txt S.1 S.2) s112 := ⟨_, rfl⟩
      rw [← hs115] at fo115
      have hle115 : s115.2 ≤ S.2 := by rw [hs115]; exact sPM_le (by omega)
      have fa116 := (sa115 (m + 6) (by omega)).trans fa113
      have fr117 := offn_in (k := 1) (q := m) fr114 sa115 (by omega)
      refine v_istore_n dX7_order_146 rfl (by decide) ?_
      refine v_ls (ls2 := [some (.ref m), some (.int (nI 120)), some (.int (nI (dvS (txt S.1 S.2) 1 (true, p + 1)))), some (.int (nI (bI ((txt S.1 S.2) s112.2 = 43)))), some (.int (nI 0)), some (.int (nI 0)), none]) rfl ?_
      refine v_aload_n dX7_order_147 rfl ?_
      refine fX7_185 (v := .int (nI (bI (s115.1 = false)))) rfl dX7_order_148 fo115 rfl ?_
      refine n_ifb_ne (tgt := 161) (p := s115.1 = false) dX7_order_151 (by decide) (fun c118 => ?_) (fun c118 => ?_)
      · refine v_vret dX7_order_161 rfl ?_ (Nat.le_of_ble_eq_true rfl) (Nat.le_of_ble_eq_true rfl)
        subst hs115
        subst hs112
        exact ⟨rfl, rfl, by rw [hsh]; exact fo115, fr117⟩
      · refine v_aload_n dX7_order_154 rfl ?_
        refine fX7_207 (v := .int (nI 0)) rfl dX7_order_155 fo115 rfl ?_
        refine n_if_ne (tgt := 162) (x := 0) dX7_order_158 (by decide) (by decide) (fun c => absurd c (by decide)) (fun _ => ?_)
        refine v_vret dX7_order_161 rfl ?_ (Nat.le_of_ble_eq_true rfl) (Nat.le_of_ble_eq_true rfl)
        subst hs115
        subst hs112
        exact ⟨rfl, rfl, by rw [hsh]; exact fo115, fr117⟩
    · refine v_st (st2 := [.int (nI 119)]) (by rw [hk]) ?_
      refine v_istore_n dX7_order_4 rfl (by decide) ?_
      refine v_ls (ls2 := [some (.ref m), some (.int (nI 119)), none, none, none, none, none]) rfl ?_
      refine v_iconst (v := nI 0) dX7_order_5 (by decide) ?_
      refine v_istore_n dX7_order_6 rfl (by decide) ?_
      refine v_ls (ls2 := [some (.ref m), some (.int (nI 119)), some (.int (nI 0)), none, none, none, none]) rfl ?_
      refine v_iconst (v := nI 0) dX7_order_7 (by decide) ?_
      refine v_istore_n dX7_order_8 rfl (by decide) ?_
      refine v_ls (ls2 := [some (.ref m), some (.int (nI 119)), some (.int (nI 0)), some (.int (nI 0)), none, none, none]) rfl ?_
      refine v_iconst (v := nI 0) dX7_order_9 (by decide) ?_
      refine v_istore dX7_order_10 rfl (by decide) ?_
      refine v_ls (ls2 := [some (.ref m), some (.int (nI 119)), some (.int (nI 0)), some (.int (nI 0)), some (.int (nI 0)), none, none]) rfl ?_
      refine v_iconst (v := nI 0) dX7_order_12 (by decide) ?_
      refine v_istore dX7_order_13 rfl (by decide) ?_
      refine v_ls (ls2 := [some (.ref m), some (.int (nI 119)), some (.int (nI 0)), some (.int (nI 0)), some (.int (nI 0)), some (.int (nI 0)), none]) rfl ?_
      refine v_aload_n dX7_order_15 rfl ?_
      refine v_iload_n dX7_order_16 rfl ?_
      refine v_callS (st := [.ref m]) dX7_order_17 (t_X7_isKnown (c := 119) (by decide)) wX7_198 rfl ⟨Nat.le_of_ble_eq_true rfl, Nat.le_of_ble_eq_true rfl⟩ (Nat.le_of_ble_eq_true rfl) ⟨Nat.le_of_ble_eq_true rfl, Nat.le_of_ble_eq_true rfl⟩ (fun r n2 h2 hq => ?_)
      obtain ⟨rfl, hn9, hh9⟩ := hq; replace hn9 := hn9.symm; subst hn9; replace hh9 := hh9.symm; subst hh9
      refine v_st (st2 := [.int (nI 1), .ref m]) rfl ?_
      refine n_if_ne (tgt := 27) (x := 1) dX7_order_20 (by decide) (by decide) (fun _ => ?_) (fun c => absurd c (by decide))
      refine v_iconst (v := nI 0) dX7_order_27 (by decide) ?_
      refine pX7_185 rfl dX7_order_28 ho (Nat.le_of_ble_eq_true rfl) (by decide) (by decide) ?_
      refine nw (fun h1 f1 s1 => ?_)
      have fa119 : h1 (m) = some (.inr (8, [.int fl, .int (nI ch), .int wy, .int dt, .int (nI sw), .ref (m + 1), .ref (m + 2), .ref (m + 3), .ref (m + 4), .ref (m + 5), .ref (m + 6), .ref (m + 7), .int (nI tn), .int (nI p), .int (nI S.2), .int (nI ln), .int (nI 0), .int (nI 0)])) := f1
      have sa119 := s1
      clear f1 s1
      have fa120 := (sa119 (m + 6) (by omega)).trans htx
      have fr121 := offn_in (k := 1) (q := m) offn_rf sa119 (by omega)
      refine v_aload_n dX7_order_31 rfl ?_
      refine fX7_185 (v := .int (nI 0)) rfl dX7_order_32 fa119 rfl ?_
      refine n_if_eq (tgt := 39) (x := 0) dX7_order_35 (by decide) (by decide) (fun _ => ?_) (fun c => absurd c (by decide))
      refine v_aload_n dX7_order_39 rfl ?_
      refine v_dup dX7_order_40 rfl ?_
      refine fX7_179 (v := .int (nI p)) rfl dX7_order_41 fa119 rfl ?_
      refine v_iconst (v := nI 1) dX7_order_44 (by decide) ?_
      refine n_iadd (x := p) (y := 1) dX7_order_45 ?_
      refine pX7_179 rfl dX7_order_46 fa119 (Nat.le_of_ble_eq_true rfl) ?_
      refine nw (fun h1 f1 s1 => ?_)
      have fa122 : h1 (m) = some (.inr (8, [.int fl, .int (nI ch), .int wy, .int dt, .int (nI sw), .ref (m + 1), .ref (m + 2), .ref (m + 3), .ref (m + 4), .ref (m + 5), .ref (m + 6), .ref (m + 7), .int (nI tn), .int (nI (p + 1)), .int (nI S.2), .int (nI ln), .int (nI 0), .int (nI 0)])) := f1
      have sa122 := s1
      clear f1 s1
      have fa123 := (sa122 (m + 6) (by omega)).trans fa120
      have fr124 := offn_in (k := 1) (q := m) fr121 sa122 (by omega)
      refine v_iload_n dX7_order_49 rfl ?_
      refine v_bipush (v := nI 110) dX7_order_50 (by decide) ?_
      refine n_icmp_eq (tgt := 71) (x := 119) (y := 110) dX7_order_52 (by decide) (by decide) (by decide) (fun c => absurd c (by decide)) (fun _ => ?_)
      refine v_aload_n dX7_order_55 rfl ?_
      refine v_iload_n dX7_order_56 rfl ?_
      refine v_bipush (v := nI 119) dX7_order_57 (by decide) ?_
      refine n_icmp_ne (tgt := 66) (x := 119) (y := 119) dX7_order_59 (by decide) (by decide) (by decide) (fun c => absurd c (by decide)) (fun _ => ?_)
      refine v_iconst (v := nI 2) dX7_order_62 (by decide) ?_
      refine v_goto (tgt := 67) dX7_order_63 (by decide) ?_
      refine v_callV (st := []) dX7_order_67 (t_X7_digits2 (s := (true, p + 1)) fa122 fa123 hX hS (by omega)) wX7_195 fa122 rfl rfl ⟨Nat.le_of_ble_eq_true rfl, Nat.le_of_ble_eq_true rfl⟩ (Nat.le_of_ble_eq_true rfl) ⟨Nat.le_of_ble_eq_true rfl, Nat.le_of_ble_eq_true rfl⟩ (fun r n2 h2 hq => ?_)
      obtain ⟨rfl, hn9, fo125, sa125⟩ := hq; replace hn9 := hn9.symm; subst hn9
      refine v_st (st2 := [.int (nI (dvS (txt S.1 S.2) 2 (true, p + 1)))]) rfl ?_
      obtain ⟨s125, hs125⟩ : ∃ z : Bool × Nat, z = sN (txt S.1 S.2) 2 (true, p + 1) := ⟨_, rfl⟩
      rw [← hs125] at fo125
      have hle125 : s125.2 ≤ S.2 := by rw [hs125]; exact sN_le (by show p + 1 ≤ S.2; omega)
      have fa126 := (sa125 (m + 6) (by omega)).trans fa123
      have fr127 := offn_in (k := 1) (q := m) fr124 sa125 (by omega)
      refine v_istore_n dX7_order_70 rfl (by decide) ?_
      refine v_ls (ls2 := [some (.ref m), some (.int (nI 119)), some (.int (nI (dvS (txt S.1 S.2) 2 (true, p + 1)))), some (.int (nI 0)), some (.int (nI 0)), some (.int (nI 0)), none]) rfl ?_
      refine v_iload_n dX7_order_71 rfl ?_
      refine v_bipush (v := nI 112) dX7_order_72 (by decide) ?_
      refine n_icmp_eq (tgt := 83) (x := 119) (y := 112) dX7_order_74 (by decide) (by decide) (by decide) (fun c => absurd c (by decide)) (fun _ => ?_)
      refine v_iload_n dX7_order_77 rfl ?_
      refine v_bipush (v := nI 98) dX7_order_78 (by decide) ?_
      refine n_icmp_ne (tgt := 91) (x := 119) (y := 98) dX7_order_80 (by decide) (by decide) (by decide) (fun _ => ?_) (fun c => absurd c (by decide))
      refine v_iload_n dX7_order_91 rfl ?_
      refine v_bipush (v := nI 112) dX7_order_92 (by decide) ?_
      refine n_icmp_ne (tgt := 106) (x := 119) (y := 112) dX7_order_94 (by decide) (by decide) (by decide) (fun _ => ?_) (fun c => absurd c (by decide))
      refine v_iload_n dX7_order_106 rfl ?_
      refine v_bipush (v := nI 98) dX7_order_107 (by decide) ?_
      refine n_icmp_ne (tgt := 121) (x := 119) (y := 98) dX7_order_109 (by decide) (by decide) (by decide) (fun _ => ?_) (fun c => absurd c (by decide))
      refine v_iload_n dX7_order_121 rfl ?_
      refine v_bipush (v := nI 98) dX7_order_122 (by decide) ?_
      refine n_icmp_ne (tgt := 136) (x := 119) (y := 98) dX7_order_124 (by decide) (by decide) (by decide) (fun _ => ?_) (fun c => absurd c (by decide))
      refine v_iload_n dX7_order_136 rfl ?_
      refine v_bipush (v := nI 120) dX7_order_137 (by decide) ?_
      refine n_icmp_ne (tgt := 147) (x := 119) (y := 120) dX7_order_139 (by decide) (by decide) (by decide) (fun _ => ?_) (fun c => absurd c (by decide))
      refine v_aload_n dX7_order_147 rfl ?_
      refine fX7_185 (v := .int (nI (bI (s125.1 = false)))) rfl dX7_order_148 fo125 rfl ?_
      refine n_ifb_ne (tgt := 161) (p := s125.1 = false) dX7_order_151 (by decide) (fun c128 => ?_) (fun c128 => ?_)
      · refine v_vret dX7_order_161 rfl ?_ (Nat.le_of_ble_eq_true rfl) (Nat.le_of_ble_eq_true rfl)
        subst hs125
        exact ⟨rfl, rfl, by rw [hsh]; exact fo125, fr127⟩
      · refine v_aload_n dX7_order_154 rfl ?_
        refine fX7_207 (v := .int (nI 0)) rfl dX7_order_155 fo125 rfl ?_
        refine n_if_ne (tgt := 162) (x := 0) dX7_order_158 (by decide) (by decide) (fun c => absurd c (by decide)) (fun _ => ?_)
        refine v_vret dX7_order_161 rfl ?_ (Nat.le_of_ble_eq_true rfl) (Nat.le_of_ble_eq_true rfl)
        subst hs125
        exact ⟨rfl, rfl, by rw [hsh]; exact fo125, fr127⟩
    · refine v_istore_n dX7_order_4 rfl (by decide) ?_
      refine v_ls (ls2 := [some (.ref m), some (.int (nI ((txt S.1 S.2) p))), none, none, none, none, none]) rfl ?_
      refine v_iconst (v := nI 0) dX7_order_5 (by decide) ?_
      refine v_istore_n dX7_order_6 rfl (by decide) ?_
      refine v_ls (ls2 := [some (.ref m), some (.int (nI ((txt S.1 S.2) p))), some (.int (nI 0)), none, none, none, none]) rfl ?_
      refine v_iconst (v := nI 0) dX7_order_7 (by decide) ?_
      refine v_istore_n dX7_order_8 rfl (by decide) ?_
      refine v_ls (ls2 := [some (.ref m), some (.int (nI ((txt S.1 S.2) p))), some (.int (nI 0)), some (.int (nI 0)), none, none, none]) rfl ?_
      refine v_iconst (v := nI 0) dX7_order_9 (by decide) ?_
      refine v_istore dX7_order_10 rfl (by decide) ?_
      refine v_ls (ls2 := [some (.ref m), some (.int (nI ((txt S.1 S.2) p))), some (.int (nI 0)), some (.int (nI 0)), some (.int (nI 0)), none, none]) rfl ?_
      refine v_iconst (v := nI 0) dX7_order_12 (by decide) ?_
      refine v_istore dX7_order_13 rfl (by decide) ?_
      refine v_ls (ls2 := [some (.ref m), some (.int (nI ((txt S.1 S.2) p))), some (.int (nI 0)), some (.int (nI 0)), some (.int (nI 0)), some (.int (nI 0)), none]) rfl ?_
      refine v_aload_n dX7_order_15 rfl ?_
      refine v_iload_n dX7_order_16 rfl ?_
      refine v_callS (st := [.ref m]) dX7_order_17 (t_X7_isKnown (c := (txt S.1 S.2) p) (by omega)) wX7_198 rfl ⟨Nat.le_of_ble_eq_true rfl, Nat.le_of_ble_eq_true rfl⟩ (Nat.le_of_ble_eq_true rfl) ⟨Nat.le_of_ble_eq_true rfl, Nat.le_of_ble_eq_true rfl⟩ (fun r n2 h2 hq => ?_)
      obtain ⟨rfl, hn9, hh9⟩ := hq; replace hn9 := hn9.symm; subst hn9; replace hh9 := hh9.symm; subst hh9
      refine v_st (st2 := [.int (nI 0), .ref m]) (by rw [hsh]; rfl) ?_
      refine n_if_ne (tgt := 27) (x := 0) dX7_order_20 (by decide) (by decide) (fun c => absurd c (by decide)) (fun _ => ?_)
      refine v_iconst (v := nI 1) dX7_order_23 (by decide) ?_
      refine v_goto (tgt := 28) dX7_order_24 (by decide) ?_
      refine pX7_185 rfl dX7_order_28 ho (Nat.le_of_ble_eq_true rfl) (by decide) (by decide) ?_
      refine nw (fun h1 f1 s1 => ?_)
      have fa129 : h1 (m) = some (.inr (8, [.int fl, .int (nI ch), .int wy, .int dt, .int (nI sw), .ref (m + 1), .ref (m + 2), .ref (m + 3), .ref (m + 4), .ref (m + 5), .ref (m + 6), .ref (m + 7), .int (nI tn), .int (nI p), .int (nI S.2), .int (nI ln), .int (nI 1), .int (nI 0)])) := f1
      have sa129 := s1
      clear f1 s1
      have fa130 := (sa129 (m + 6) (by omega)).trans htx
      have fr131 := offn_in (k := 1) (q := m) offn_rf sa129 (by omega)
      refine v_aload_n dX7_order_31 rfl ?_
      refine fX7_185 (v := .int (nI 1)) rfl dX7_order_32 fa129 rfl ?_
      refine n_if_eq (tgt := 39) (x := 1) dX7_order_35 (by decide) (by decide) (fun c => absurd c (by decide)) (fun _ => ?_)
      refine v_vret dX7_order_38 rfl ?_ (Nat.le_of_ble_eq_true rfl) (Nat.le_of_ble_eq_true rfl)
      exact ⟨rfl, rfl, by rw [hsh]; exact fa129, fr131⟩
set_option maxRecDepth 20000 in
set_option maxHeartbeats 4000000 in
theorem t_X7_orderD {l : Launch} {G : vG} {h : AH} {n : Nat} {m ch sw tn ln : Nat} {fl wy dt : Int32} {S : Ln} {X : Nat → Nat} {p w b : Nat} {C : Ct} (ho : h m = some (mo m ch sw tn p S.2 ln w 1 fl wy dt)) (htx : h (m + 6) = some (ar G 60 X)) (hX : lrel X S) (hS : tsg S) (hp : p ≤ S.2) (hv : h (m + 1) = some (ar G 182 (vO C))) (hK : bdk b C) (hb1 : 200 ≤ b) (hb2 : b + 5000 ≤ 2 ^ 28) (hI : Iv C) (hok : (oS (txt S.1 S.2) (shI ((txt S.1 S.2) p)) p).1 = true) : Mt l G mX7_order [.ref m] (n) h 0 0 (fun r n2 h2 => r = none ∧ n2 = n ∧ h2 m = some (mo m ch sw tn ((oS (txt S.1 S.2) (shI ((txt S.1 S.2) p)) p).2) S.2 ln 0 1 (mf (dO (txt S.1 S.2) p C).1 fl) (rf1 (dO (txt S.1 S.2) p C).2.2 wy) (rf2 (dO (txt S.1 S.2) p C).2.2 dt)) ∧ h2 (m + 1) = some (ar G 182 (vO (dO (txt S.1 S.2) p C).2.1)) ∧ offn 2 m h h2 ∧ ((dO (txt S.1 S.2) p C).1 < 0 → (dO (txt S.1 S.2) p C).2.1 = C)) := by
  refine Mt.of (by decide) (Nat.le_of_ble_eq_true rfl) rfl ?_
  refine v_ls (ls2 := [some (.ref m), none, none, none, none, none, none]) rfl ?_
  have hS60 := hS.1
  refine v_aload_n dX7_order_0 rfl ?_
  refine v_callV (st := []) dX7_order_1 (t_X7_sign ho htx hX hS (by omega)) wX7_189 ho rfl rfl ⟨Nat.le_of_ble_eq_true rfl, Nat.le_of_ble_eq_true rfl⟩ (Nat.le_of_ble_eq_true rfl) ⟨Nat.le_of_ble_eq_true rfl, Nat.le_of_ble_eq_true rfl⟩ (fun r n2 h2 hq => ?_)
  obtain ⟨rfl, hn9, hh9⟩ := hq; replace hn9 := hn9.symm; subst hn9; replace hh9 := hh9.symm; subst hh9
  refine v_st (st2 := [.int (sv (txt S.1 S.2) p)]) rfl ?_
  have hbhz21 := txt_126 hS p
  by_cases hz21 : (txt S.1 S.2) p = 0
  · refine v_st (st2 := [.int ((-1))]) (by rw [show sv (txt S.1 S.2) p = -1 from if_pos hz21]; try rfl) ?_
    have hsh : shI ((txt S.1 S.2) p) = 9 := by rw [hz21]; rfl
    refine v_istore_n dX7_order_4 rfl (by decide) ?_
    refine v_ls (ls2 := [some (.ref m), some (.int ((-1))), none, none, none, none, none]) rfl ?_
    refine v_iconst (v := nI 0) dX7_order_5 (by decide) ?_
    refine v_istore_n dX7_order_6 rfl (by decide) ?_
    refine v_ls (ls2 := [some (.ref m), some (.int ((-1))), some (.int (nI 0)), none, none, none, none]) rfl ?_
    refine v_iconst (v := nI 0) dX7_order_7 (by decide) ?_
    refine v_istore_n dX7_order_8 rfl (by decide) ?_
    refine v_ls (ls2 := [some (.ref m), some (.int ((-1))), some (.int (nI 0)), some (.int (nI 0)), none, none, none]) rfl ?_
    refine v_iconst (v := nI 0) dX7_order_9 (by decide) ?_
    refine v_istore dX7_order_10 rfl (by decide) ?_
    refine v_ls (ls2 := [some (.ref m), some (.int ((-1))), some (.int (nI 0)), some (.int (nI 0)), some (.int (nI 0)), none, none]) rfl ?_
    refine v_iconst (v := nI 0) dX7_order_12 (by decide) ?_
    refine v_istore dX7_order_13 rfl (by decide) ?_
    refine v_ls (ls2 := [some (.ref m), some (.int ((-1))), some (.int (nI 0)), some (.int (nI 0)), some (.int (nI 0)), some (.int (nI 0)), none]) rfl ?_
    refine v_aload_n dX7_order_15 rfl ?_
    refine v_iload_n dX7_order_16 rfl ?_
    refine v_callS (st := [.ref m]) dX7_order_17 (t_X7_isKnownM) wX7_198 rfl ⟨Nat.le_of_ble_eq_true rfl, Nat.le_of_ble_eq_true rfl⟩ (Nat.le_of_ble_eq_true rfl) ⟨Nat.le_of_ble_eq_true rfl, Nat.le_of_ble_eq_true rfl⟩ (fun r n2 h2 hq => ?_)
    obtain ⟨rfl, hn9, hh9⟩ := hq; replace hn9 := hn9.symm; subst hn9; replace hh9 := hh9.symm; subst hh9
    refine v_st (st2 := [.int (nI 0), .ref m]) rfl ?_
    refine n_if_ne (tgt := 27) (x := 0) dX7_order_20 (by decide) (by decide) (fun c => absurd c (by decide)) (fun _ => ?_)
    refine v_iconst (v := nI 1) dX7_order_23 (by decide) ?_
    refine v_goto (tgt := 28) dX7_order_24 (by decide) ?_
    refine pX7_185 rfl dX7_order_28 ho (Nat.le_of_ble_eq_true rfl) (by decide) (by decide) ?_
    refine nw (fun h1 f1 s1 => ?_)
    have fa22 : h1 (m) = some (.inr (8, [.int fl, .int (nI ch), .int wy, .int dt, .int (nI sw), .ref (m + 1), .ref (m + 2), .ref (m + 3), .ref (m + 4), .ref (m + 5), .ref (m + 6), .ref (m + 7), .int (nI tn), .int (nI p), .int (nI S.2), .int (nI ln), .int (nI 1), .int (nI 1)])) := f1
    have sa22 := s1
    clear f1 s1
    have fa23 := (sa22 (m + 6) (by omega)).trans htx
    have fr24 := offn_in (k := 1) (q := m) offn_rf sa22 (by omega)
    have hv25 := (sa22 (m + 1) (by omega)).trans hv
    rw [hsh] at hok; exact absurd hok Bool.false_ne_true
  · have hlhz21 := txt_le hz21
    refine v_st (st2 := [.int (nI ((txt S.1 S.2) p))]) (by rw [show sv (txt S.1 S.2) p = nI ((txt S.1 S.2) p) from if_neg hz21]; try rfl) ?_
    rcases shI_cs ((txt S.1 S.2) p) with ⟨hk, hsh⟩ | ⟨hk, hsh⟩ | ⟨hk, hsh⟩ | ⟨hk, hsh⟩ | ⟨hk, hsh⟩ | ⟨hk, hsh⟩ | ⟨hk, hsh⟩ | ⟨hk, hsh⟩ | ⟨hk, hsh⟩ | hsh
    · refine v_st (st2 := [.int (nI 102)]) (by rw [hk]) ?_
      refine v_istore_n dX7_order_4 rfl (by decide) ?_
      refine v_ls (ls2 := [some (.ref m), some (.int (nI 102)), none, none, none, none, none]) rfl ?_
      refine v_iconst (v := nI 0) dX7_order_5 (by decide) ?_
      refine v_istore_n dX7_order_6 rfl (by decide) ?_
      refine v_ls (ls2 := [some (.ref m), some (.int (nI 102)), some (.int (nI 0)), none, none, none, none]) rfl ?_
      refine v_iconst (v := nI 0) dX7_order_7 (by decide) ?_
      refine v_istore_n dX7_order_8 rfl (by decide) ?_
      refine v_ls (ls2 := [some (.ref m), some (.int (nI 102)), some (.int (nI 0)), some (.int (nI 0)), none, none, none]) rfl ?_
      refine v_iconst (v := nI 0) dX7_order_9 (by decide) ?_
      refine v_istore dX7_order_10 rfl (by decide) ?_
      refine v_ls (ls2 := [some (.ref m), some (.int (nI 102)), some (.int (nI 0)), some (.int (nI 0)), some (.int (nI 0)), none, none]) rfl ?_
      refine v_iconst (v := nI 0) dX7_order_12 (by decide) ?_
      refine v_istore dX7_order_13 rfl (by decide) ?_
      refine v_ls (ls2 := [some (.ref m), some (.int (nI 102)), some (.int (nI 0)), some (.int (nI 0)), some (.int (nI 0)), some (.int (nI 0)), none]) rfl ?_
      refine v_aload_n dX7_order_15 rfl ?_
      refine v_iload_n dX7_order_16 rfl ?_
      refine v_callS (st := [.ref m]) dX7_order_17 (t_X7_isKnown (c := 102) (by decide)) wX7_198 rfl ⟨Nat.le_of_ble_eq_true rfl, Nat.le_of_ble_eq_true rfl⟩ (Nat.le_of_ble_eq_true rfl) ⟨Nat.le_of_ble_eq_true rfl, Nat.le_of_ble_eq_true rfl⟩ (fun r n2 h2 hq => ?_)
      obtain ⟨rfl, hn9, hh9⟩ := hq; replace hn9 := hn9.symm; subst hn9; replace hh9 := hh9.symm; subst hh9
      refine v_st (st2 := [.int (nI 1), .ref m]) rfl ?_
      refine n_if_ne (tgt := 27) (x := 1) dX7_order_20 (by decide) (by decide) (fun _ => ?_) (fun c => absurd c (by decide))
      refine v_iconst (v := nI 0) dX7_order_27 (by decide) ?_
      refine pX7_185 rfl dX7_order_28 ho (Nat.le_of_ble_eq_true rfl) (by decide) (by decide) ?_
      refine nw (fun h1 f1 s1 => ?_)
      have fa26 : h1 (m) = some (.inr (8, [.int fl, .int (nI ch), .int wy, .int dt, .int (nI sw), .ref (m + 1), .ref (m + 2), .ref (m + 3), .ref (m + 4), .ref (m + 5), .ref (m + 6), .ref (m + 7), .int (nI tn), .int (nI p), .int (nI S.2), .int (nI ln), .int (nI 0), .int (nI 1)])) := f1
      have sa26 := s1
      clear f1 s1
      have fa27 := (sa26 (m + 6) (by omega)).trans htx
      have fr28 := offn_in (k := 1) (q := m) offn_rf sa26 (by omega)
      have hv29 := (sa26 (m + 1) (by omega)).trans hv
      refine v_aload_n dX7_order_31 rfl ?_
      refine fX7_185 (v := .int (nI 0)) rfl dX7_order_32 fa26 rfl ?_
      refine n_if_eq (tgt := 39) (x := 0) dX7_order_35 (by decide) (by decide) (fun _ => ?_) (fun c => absurd c (by decide))
      refine v_aload_n dX7_order_39 rfl ?_
      refine v_dup dX7_order_40 rfl ?_
      refine fX7_179 (v := .int (nI p)) rfl dX7_order_41 fa26 rfl ?_
      refine v_iconst (v := nI 1) dX7_order_44 (by decide) ?_
      refine n_iadd (x := p) (y := 1) dX7_order_45 ?_
      refine pX7_179 rfl dX7_order_46 fa26 (Nat.le_of_ble_eq_true rfl) ?_
      refine nw (fun h1 f1 s1 => ?_)
      have fa30 : h1 (m) = some (.inr (8, [.int fl, .int (nI ch), .int wy, .int dt, .int (nI sw), .ref (m + 1), .ref (m + 2), .ref (m + 3), .ref (m + 4), .ref (m + 5), .ref (m + 6), .ref (m + 7), .int (nI tn), .int (nI (p + 1)), .int (nI S.2), .int (nI ln), .int (nI 0), .int (nI 1)])) := f1
      have sa30 := s1
      clear f1 s1
      have fa31 := (sa30 (m + 6) (by omega)).trans fa27
      have fr32 := offn_in (k := 1) (q := m) fr28 sa30 (by omega)
      have hv33 := (sa30 (m + 1) (by omega)).trans hv29
      refine v_iload_n dX7_order_49 rfl ?_
      refine v_bipush (v := nI 110) dX7_order_50 (by decide) ?_
      refine n_icmp_eq (tgt := 71) (x := 102) (y := 110) dX7_order_52 (by decide) (by decide) (by decide) (fun c => absurd c (by decide)) (fun _ => ?_)
      refine v_aload_n dX7_order_55 rfl ?_
      refine v_iload_n dX7_order_56 rfl ?_
      refine v_bipush (v := nI 119) dX7_order_57 (by decide) ?_
      refine n_icmp_ne (tgt := 66) (x := 102) (y := 119) dX7_order_59 (by decide) (by decide) (by decide) (fun _ => ?_) (fun c => absurd c (by decide))
      refine v_iconst (v := nI 1) dX7_order_66 (by decide) ?_
      refine v_callV (st := []) dX7_order_67 (t_X7_digits1 (s := (true, p + 1)) fa30 fa31 hX hS (by omega)) wX7_195 fa30 rfl rfl ⟨Nat.le_of_ble_eq_true rfl, Nat.le_of_ble_eq_true rfl⟩ (Nat.le_of_ble_eq_true rfl) ⟨Nat.le_of_ble_eq_true rfl, Nat.le_of_ble_eq_true rfl⟩ (fun r n2 h2 hq => ?_)
      obtain ⟨rfl, hn9, fo34, sa34⟩ := hq; replace hn9 := hn9.symm; subst hn9
      refine v_st (st2 := [.int (nI (dvS (txt S.1 S.2) 1 (true, p + 1)))]) rfl ?_
      obtain ⟨s34, hs34⟩ : ∃ z : Bool × Nat, z = sN (txt S.1 S.2) 1 (true, p + 1) := ⟨_, rfl⟩
      rw [← hs34] at fo34
      have hle34 : s34.2 ≤ S.2 := by rw [hs34]; exact sN_le (by show p + 1 ≤ S.2; omega)
      have fa35 := (sa34 (m + 6) (by omega)).trans fa31
      have fr36 := offn_in (k := 1) (q := m) fr32 sa34 (by omega)
      have hv37 := (sa34 (m + 1) (by omega)).trans hv33
      refine v_istore_n dX7_order_70 rfl (by decide) ?_
      refine v_ls (ls2 := [some (.ref m), some (.int (nI 102)), some (.int (nI (dvS (txt S.1 S.2) 1 (true, p + 1)))), some (.int (nI 0)), some (.int (nI 0)), some (.int (nI 0)), none]) rfl ?_
      refine v_iload_n dX7_order_71 rfl ?_
      refine v_bipush (v := nI 112) dX7_order_72 (by decide) ?_
      refine n_icmp_eq (tgt := 83) (x := 102) (y := 112) dX7_order_74 (by decide) (by decide) (by decide) (fun c => absurd c (by decide)) (fun _ => ?_)
      refine v_iload_n dX7_order_77 rfl ?_
      refine v_bipush (v := nI 98) dX7_order_78 (by decide) ?_
      refine n_icmp_ne (tgt := 91) (x := 102) (y := 98) dX7_order_80 (by decide) (by decide) (by decide) (fun _ => ?_) (fun c => absurd c (by decide))
      refine v_iload_n dX7_order_91 rfl ?_
      refine v_bipush (v := nI 112) dX7_order_92 (by decide) ?_
      refine n_icmp_ne (tgt := 106) (x := 102) (y := 112) dX7_order_94 (by decide) (by decide) (by decide) (fun _ => ?_) (fun c => absurd c (by decide))
      refine v_iload_n dX7_order_106 rfl ?_
      refine v_bipush (v := nI 98) dX7_order_107 (by decide) ?_
      refine n_icmp_ne (tgt := 121) (x := 102) (y := 98) dX7_order_109 (by decide) (by decide) (by decide) (fun _ => ?_) (fun c => absurd c (by decide))
      refine v_iload_n dX7_order_121 rfl ?_
      refine v_bipush (v := nI 98) dX7_order_122 (by decide) ?_
      refine n_icmp_ne (tgt := 136) (x := 102) (y := 98) dX7_order_124 (by decide) (by decide) (by decide) (fun _ => ?_) (fun c => absurd c (by decide))
      refine v_iload_n dX7_order_136 rfl ?_
      refine v_bipush (v := nI 120) dX7_order_137 (by decide) ?_
      refine n_icmp_ne (tgt := 147) (x := 102) (y := 120) dX7_order_139 (by decide) (by decide) (by decide) (fun _ => ?_) (fun c => absurd c (by decide))
      refine v_aload_n dX7_order_147 rfl ?_
      refine fX7_185 (v := .int (nI (bI (s34.1 = false)))) rfl dX7_order_148 fo34 rfl ?_
      have hfin : s34.1 = true := by rw [hs34]; rw [hsh] at hok; exact hok
      have hf9 : ¬ s34.1 = false := fun z => by rw [hfin] at z; exact Bool.noConfusion z
      rw [bI_f hf9] at fo34
      refine n_ifb_ne (tgt := 161) (p := s34.1 = false) dX7_order_151 (by decide) (fun z => absurd z hf9) (fun _ => ?_)
      refine v_aload_n dX7_order_154 rfl ?_
      refine fX7_207 (v := .int (nI 1)) rfl dX7_order_155 fo34 rfl ?_
      refine n_if_ne (tgt := 162) (x := 1) dX7_order_158 (by decide) (by decide) (fun _ => ?_) (fun c => absurd c (by decide))
      refine v_aload_n dX7_order_162 rfl ?_
      refine v_iload_n dX7_order_163 rfl ?_
      refine v_iload_n dX7_order_164 rfl ?_
      refine v_iload_n dX7_order_165 rfl ?_
      refine v_iload dX7_order_166 rfl ?_
      refine v_iload dX7_order_168 rfl ?_
      refine v_callV (st := []) dX7_order_170 (t_X7_does0 (one := dvS (txt S.1 S.2) 1 (true, p + 1)) (two := 0) (three := 0) (four := 0) fo34 hv37 hK hb1 hb2 hI) wX7_210 fo34 rfl rfl ⟨Nat.le_of_ble_eq_true rfl, Nat.le_of_ble_eq_true rfl⟩ (Nat.le_of_ble_eq_true rfl) ⟨Nat.le_of_ble_eq_true rfl, Nat.le_of_ble_eq_true rfl⟩ (fun r n2 h2 hq => ?_)
      obtain ⟨rfl, hn9, fo38, hv38, sa38, ok38⟩ := hq; replace hn9 := hn9.symm; subst hn9
      obtain ⟨zz, hzz⟩ : ∃ zz : Int32, zz = (dFool C (nI (dvS (txt S.1 S.2) 1 (true, p + 1)))).1 := ⟨_, rfl⟩
      refine v_st (st2 := [.int zz]) (by rw [hzz]; rfl) ?_
      refine v_istore dX7_order_173 rfl (by decide) ?_
      refine v_ls (ls2 := [some (.ref m), some (.int (nI 102)), some (.int (nI (dvS (txt S.1 S.2) 1 (true, p + 1)))), some (.int (nI 0)), some (.int (nI 0)), some (.int (nI 0)), some (.int zz)]) rfl ?_
      refine v_vret dX7_order_175 rfl ?_ (Nat.le_of_ble_eq_true rfl) (Nat.le_of_ble_eq_true rfl)
      subst hs34
      have eR : dO (txt S.1 S.2) p C = dFool C (nI (oV (txt S.1 S.2) 0 p 0)) := by unfold dO; rw [hsh]; first | done | rfl
      rw [eR, hsh]
      exact ⟨rfl, rfl, fo38, hv38, fun z hz => (sa38 z (by omega)).trans (fr36 z (by omega)), ok38⟩
    · refine v_st (st2 := [.int (nI 106)]) (by rw [hk]) ?_
      refine v_istore_n dX7_order_4 rfl (by decide) ?_
      refine v_ls (ls2 := [some (.ref m), some (.int (nI 106)), none, none, none, none, none]) rfl ?_
      refine v_iconst (v := nI 0) dX7_order_5 (by decide) ?_
      refine v_istore_n dX7_order_6 rfl (by decide) ?_
      refine v_ls (ls2 := [some (.ref m), some (.int (nI 106)), some (.int (nI 0)), none, none, none, none]) rfl ?_
      refine v_iconst (v := nI 0) dX7_order_7 (by decide) ?_
      refine v_istore_n dX7_order_8 rfl (by decide) ?_
      refine v_ls (ls2 := [some (.ref m), some (.int (nI 106)), some (.int (nI 0)), some (.int (nI 0)), none, none, none]) rfl ?_
      refine v_iconst (v := nI 0) dX7_order_9 (by decide) ?_
      refine v_istore dX7_order_10 rfl (by decide) ?_
      refine v_ls (ls2 := [some (.ref m), some (.int (nI 106)), some (.int (nI 0)), some (.int (nI 0)), some (.int (nI 0)), none, none]) rfl ?_
      refine v_iconst (v := nI 0) dX7_order_12 (by decide) ?_
      refine v_istore dX7_order_13 rfl (by decide) ?_
      refine v_ls (ls2 := [some (.ref m), some (.int (nI 106)), some (.int (nI 0)), some (.int (nI 0)), some (.int (nI 0)), some (.int (nI 0)), none]) rfl ?_
      refine v_aload_n dX7_order_15 rfl ?_
      refine v_iload_n dX7_order_16 rfl ?_
      refine v_callS (st := [.ref m]) dX7_order_17 (t_X7_isKnown (c := 106) (by decide)) wX7_198 rfl ⟨Nat.le_of_ble_eq_true rfl, Nat.le_of_ble_eq_true rfl⟩ (Nat.le_of_ble_eq_true rfl) ⟨Nat.le_of_ble_eq_true rfl, Nat.le_of_ble_eq_true rfl⟩ (fun r n2 h2 hq => ?_)
      obtain ⟨rfl, hn9, hh9⟩ := hq; replace hn9 := hn9.symm; subst hn9; replace hh9 := hh9.symm; subst hh9
      refine v_st (st2 := [.int (nI 1), .ref m]) rfl ?_
      refine n_if_ne (tgt := 27) (x := 1) dX7_order_20 (by decide) (by decide) (fun _ => ?_) (fun c => absurd c (by decide))
      refine v_iconst (v := nI 0) dX7_order_27 (by decide) ?_
      refine pX7_185 rfl dX7_order_28 ho (Nat.le_of_ble_eq_true rfl) (by decide) (by decide) ?_
      refine nw (fun h1 f1 s1 => ?_)
      have fa39 : h1 (m) = some (.inr (8, [.int fl, .int (nI ch), .int wy, .int dt, .int (nI sw), .ref (m + 1), .ref (m + 2), .ref (m + 3), .ref (m + 4), .ref (m + 5), .ref (m + 6), .ref (m + 7), .int (nI tn), .int (nI p), .int (nI S.2), .int (nI ln), .int (nI 0), .int (nI 1)])) := f1
      have sa39 := s1
      clear f1 s1
      have fa40 := (sa39 (m + 6) (by omega)).trans htx
      have fr41 := offn_in (k := 1) (q := m) offn_rf sa39 (by omega)
      have hv42 := (sa39 (m + 1) (by omega)).trans hv
      refine v_aload_n dX7_order_31 rfl ?_
      refine fX7_185 (v := .int (nI 0)) rfl dX7_order_32 fa39 rfl ?_
      refine n_if_eq (tgt := 39) (x := 0) dX7_order_35 (by decide) (by decide) (fun _ => ?_) (fun c => absurd c (by decide))
      refine v_aload_n dX7_order_39 rfl ?_
      refine v_dup dX7_order_40 rfl ?_
      refine fX7_179 (v := .int (nI p)) rfl dX7_order_41 fa39 rfl ?_
      refine v_iconst (v := nI 1) dX7_order_44 (by decide) ?_
      refine n_iadd (x := p) (y := 1) dX7_order_45 ?_
      refine pX7_179 rfl dX7_order_46 fa39 (Nat.le_of_ble_eq_true rfl) ?_
      refine nw (fun h1 f1 s1 => ?_)
      have fa43 : h1 (m) = some (.inr (8, [.int fl, .int (nI ch), .int wy, .int dt, .int (nI sw), .ref (m + 1), .ref (m + 2), .ref (m + 3), .ref (m + 4), .ref (m + 5), .ref (m + 6), .ref (m + 7), .int (nI tn), .int (nI (p + 1)), .int (nI S.2), .int (nI ln), .int (nI 0), .int (nI 1)])) := f1
      have sa43 := s1
      clear f1 s1
      have fa44 := (sa43 (m + 6) (by omega)).trans fa40
      have fr45 := offn_in (k := 1) (q := m) fr41 sa43 (by omega)
      have hv46 := (sa43 (m + 1) (by omega)).trans hv42
      refine v_iload_n dX7_order_49 rfl ?_
      refine v_bipush (v := nI 110) dX7_order_50 (by decide) ?_
      refine n_icmp_eq (tgt := 71) (x := 106) (y := 110) dX7_order_52 (by decide) (by decide) (by decide) (fun c => absurd c (by decide)) (fun _ => ?_)
      refine v_aload_n dX7_order_55 rfl ?_
      refine v_iload_n dX7_order_56 rfl ?_
      refine v_bipush (v := nI 119) dX7_order_57 (by decide) ?_
      refine n_icmp_ne (tgt := 66) (x := 106) (y := 119) dX7_order_59 (by decide) (by decide) (by decide) (fun _ => ?_) (fun c => absurd c (by decide))
      refine v_iconst (v := nI 1) dX7_order_66 (by decide) ?_
      refine v_callV (st := []) dX7_order_67 (t_X7_digits1 (s := (true, p + 1)) fa43 fa44 hX hS (by omega)) wX7_195 fa43 rfl rfl ⟨Nat.le_of_ble_eq_true rfl, Nat.le_of_ble_eq_true rfl⟩ (Nat.le_of_ble_eq_true rfl) ⟨Nat.le_of_ble_eq_true rfl, Nat.le_of_ble_eq_true rfl⟩ (fun r n2 h2 hq => ?_)
      obtain ⟨rfl, hn9, fo47, sa47⟩ := hq; replace hn9 := hn9.symm; subst hn9
      refine v_st (st2 := [.int (nI (dvS (txt S.1 S.2) 1 (true, p + 1)))]) rfl ?_
      obtain ⟨s47, hs47⟩ : ∃ z : Bool × Nat, z = sN (txt S.1 S.2) 1 (true, p + 1) := ⟨_, rfl⟩
      rw [← hs47] at fo47
      have hle47 : s47.2 ≤ S.2 := by rw [hs47]; exact sN_le (by show p + 1 ≤ S.2; omega)
      have fa48 := (sa47 (m + 6) (by omega)).trans fa44
      have fr49 := offn_in (k := 1) (q := m) fr45 sa47 (by omega)
      have hv50 := (sa47 (m + 1) (by omega)).trans hv46
      refine v_istore_n dX7_order_70 rfl (by decide) ?_
      refine v_ls (ls2 := [some (.ref m), some (.int (nI 106)), some (.int (nI (dvS (txt S.1 S.2) 1 (true, p + 1)))), some (.int (nI 0)), some (.int (nI 0)), some (.int (nI 0)), none]) rfl ?_
      refine v_iload_n dX7_order_71 rfl ?_
      refine v_bipush (v := nI 112) dX7_order_72 (by decide) ?_
      refine n_icmp_eq (tgt := 83) (x := 106) (y := 112) dX7_order_74 (by decide) (by decide) (by decide) (fun c => absurd c (by decide)) (fun _ => ?_)
      refine v_iload_n dX7_order_77 rfl ?_
      refine v_bipush (v := nI 98) dX7_order_78 (by decide) ?_
      refine n_icmp_ne (tgt := 91) (x := 106) (y := 98) dX7_order_80 (by decide) (by decide) (by decide) (fun _ => ?_) (fun c => absurd c (by decide))
      refine v_iload_n dX7_order_91 rfl ?_
      refine v_bipush (v := nI 112) dX7_order_92 (by decide) ?_
      refine n_icmp_ne (tgt := 106) (x := 106) (y := 112) dX7_order_94 (by decide) (by decide) (by decide) (fun _ => ?_) (fun c => absurd c (by decide))
      refine v_iload_n dX7_order_106 rfl ?_
      refine v_bipush (v := nI 98) dX7_order_107 (by decide) ?_
      refine n_icmp_ne (tgt := 121) (x := 106) (y := 98) dX7_order_109 (by decide) (by decide) (by decide) (fun _ => ?_) (fun c => absurd c (by decide))
      refine v_iload_n dX7_order_121 rfl ?_
      refine v_bipush (v := nI 98) dX7_order_122 (by decide) ?_
      refine n_icmp_ne (tgt := 136) (x := 106) (y := 98) dX7_order_124 (by decide) (by decide) (by decide) (fun _ => ?_) (fun c => absurd c (by decide))
      refine v_iload_n dX7_order_136 rfl ?_
      refine v_bipush (v := nI 120) dX7_order_137 (by decide) ?_
      refine n_icmp_ne (tgt := 147) (x := 106) (y := 120) dX7_order_139 (by decide) (by decide) (by decide) (fun _ => ?_) (fun c => absurd c (by decide))
      refine v_aload_n dX7_order_147 rfl ?_
      refine fX7_185 (v := .int (nI (bI (s47.1 = false)))) rfl dX7_order_148 fo47 rfl ?_
      have hfin : s47.1 = true := by rw [hs47]; rw [hsh] at hok; exact hok
      have hf9 : ¬ s47.1 = false := fun z => by rw [hfin] at z; exact Bool.noConfusion z
      rw [bI_f hf9] at fo47
      refine n_ifb_ne (tgt := 161) (p := s47.1 = false) dX7_order_151 (by decide) (fun z => absurd z hf9) (fun _ => ?_)
      refine v_aload_n dX7_order_154 rfl ?_
      refine fX7_207 (v := .int (nI 1)) rfl dX7_order_155 fo47 rfl ?_
      refine n_if_ne (tgt := 162) (x := 1) dX7_order_158 (by decide) (by decide) (fun _ => ?_) (fun c => absurd c (by decide))
      refine v_aload_n dX7_order_162 rfl ?_
      refine v_iload_n dX7_order_163 rfl ?_
      refine v_iload_n dX7_order_164 rfl ?_
      refine v_iload_n dX7_order_165 rfl ?_
      refine v_iload dX7_order_166 rfl ?_
      refine v_iload dX7_order_168 rfl ?_
      refine v_callV (st := []) dX7_order_170 (t_X7_does1 (one := dvS (txt S.1 S.2) 1 (true, p + 1)) (two := 0) (three := 0) (four := 0) fo47 hv50 hK hb1 hb2 hI) wX7_210 fo47 rfl rfl ⟨Nat.le_of_ble_eq_true rfl, Nat.le_of_ble_eq_true rfl⟩ (Nat.le_of_ble_eq_true rfl) ⟨Nat.le_of_ble_eq_true rfl, Nat.le_of_ble_eq_true rfl⟩ (fun r n2 h2 hq => ?_)
      obtain ⟨rfl, hn9, fo51, hv51, sa51, ok51⟩ := hq; replace hn9 := hn9.symm; subst hn9
      obtain ⟨zz, hzz⟩ : ∃ zz : Int32, zz = (dJoke C (nI (dvS (txt S.1 S.2) 1 (true, p + 1)))).1 := ⟨_, rfl⟩
      refine v_st (st2 := [.int zz]) (by rw [hzz]; rfl) ?_
      refine v_istore dX7_order_173 rfl (by decide) ?_
      refine v_ls (ls2 := [some (.ref m), some (.int (nI 106)), some (.int (nI (dvS (txt S.1 S.2) 1 (true, p + 1)))), some (.int (nI 0)), some (.int (nI 0)), some (.int (nI 0)), some (.int zz)]) rfl ?_
      refine v_vret dX7_order_175 rfl ?_ (Nat.le_of_ble_eq_true rfl) (Nat.le_of_ble_eq_true rfl)
      subst hs47
      have eR : dO (txt S.1 S.2) p C = dJoke C (nI (oV (txt S.1 S.2) 1 p 0)) := by unfold dO; rw [hsh]; first | done | rfl
      rw [eR, hsh]
      exact ⟨rfl, rfl, fo51, hv51, fun z hz => (sa51 z (by omega)).trans (fr49 z (by omega)), ok51⟩
    · refine v_st (st2 := [.int (nI 112)]) (by rw [hk]) ?_
      refine v_istore_n dX7_order_4 rfl (by decide) ?_
      refine v_ls (ls2 := [some (.ref m), some (.int (nI 112)), none, none, none, none, none]) rfl ?_
      refine v_iconst (v := nI 0) dX7_order_5 (by decide) ?_
      refine v_istore_n dX7_order_6 rfl (by decide) ?_
      refine v_ls (ls2 := [some (.ref m), some (.int (nI 112)), some (.int (nI 0)), none, none, none, none]) rfl ?_
      refine v_iconst (v := nI 0) dX7_order_7 (by decide) ?_
      refine v_istore_n dX7_order_8 rfl (by decide) ?_
      refine v_ls (ls2 := [some (.ref m), some (.int (nI 112)), some (.int (nI 0)), some (.int (nI 0)), none, none, none]) rfl ?_
      refine v_iconst (v := nI 0) dX7_order_9 (by decide) ?_
      refine v_istore dX7_order_10 rfl (by decide) ?_
      refine v_ls (ls2 := [some (.ref m), some (.int (nI 112)), some (.int (nI 0)), some (.int (nI 0)), some (.int (nI 0)), none, none]) rfl ?_
      refine v_iconst (v := nI 0) dX7_order_12 (by decide) ?_
      refine v_istore dX7_order_13 rfl (by decide) ?_
      refine v_ls (ls2 := [some (.ref m), some (.int (nI 112)), some (.int (nI 0)), some (.int (nI 0)), some (.int (nI 0)), some (.int (nI 0)), none]) rfl ?_
      refine v_aload_n dX7_order_15 rfl ?_
      refine v_iload_n dX7_order_16 rfl ?_
      refine v_callS (st := [.ref m]) dX7_order_17 (t_X7_isKnown (c := 112) (by decide)) wX7_198 rfl ⟨Nat.le_of_ble_eq_true rfl, Nat.le_of_ble_eq_true rfl⟩ (Nat.le_of_ble_eq_true rfl) ⟨Nat.le_of_ble_eq_true rfl, Nat.le_of_ble_eq_true rfl⟩ (fun r n2 h2 hq => ?_)
      obtain ⟨rfl, hn9, hh9⟩ := hq; replace hn9 := hn9.symm; subst hn9; replace hh9 := hh9.symm; subst hh9
      refine v_st (st2 := [.int (nI 1), .ref m]) rfl ?_
      refine n_if_ne (tgt := 27) (x := 1) dX7_order_20 (by decide) (by decide) (fun _ => ?_) (fun c => absurd c (by decide))
      refine v_iconst (v := nI 0) dX7_order_27 (by decide) ?_
      refine pX7_185 rfl dX7_order_28 ho (Nat.le_of_ble_eq_true rfl) (by decide) (by decide) ?_
      refine nw (fun h1 f1 s1 => ?_)
      have fa52 : h1 (m) = some (.inr (8, [.int fl, .int (nI ch), .int wy, .int dt, .int (nI sw), .ref (m + 1), .ref (m + 2), .ref (m + 3), .ref (m + 4), .ref (m + 5), .ref (m + 6), .ref (m + 7), .int (nI tn), .int (nI p), .int (nI S.2), .int (nI ln), .int (nI 0), .int (nI 1)])) := f1
      have sa52 := s1
      clear f1 s1
      have fa53 := (sa52 (m + 6) (by omega)).trans htx
      have fr54 := offn_in (k := 1) (q := m) offn_rf sa52 (by omega)
      have hv55 := (sa52 (m + 1) (by omega)).trans hv
      refine v_aload_n dX7_order_31 rfl ?_
      refine fX7_185 (v := .int (nI 0)) rfl dX7_order_32 fa52 rfl ?_
      refine n_if_eq (tgt := 39) (x := 0) dX7_order_35 (by decide) (by decide) (fun _ => ?_) (fun c => absurd c (by decide))
      refine v_aload_n dX7_order_39 rfl ?_
      refine v_dup dX7_order_40 rfl ?_
      refine fX7_179 (v := .int (nI p)) rfl dX7_order_41 fa52 rfl ?_
      refine v_iconst (v := nI 1) dX7_order_44 (by decide) ?_
      refine n_iadd (x := p) (y := 1) dX7_order_45 ?_
      refine pX7_179 rfl dX7_order_46 fa52 (Nat.le_of_ble_eq_true rfl) ?_
      refine nw (fun h1 f1 s1 => ?_)
      have fa56 : h1 (m) = some (.inr (8, [.int fl, .int (nI ch), .int wy, .int dt, .int (nI sw), .ref (m + 1), .ref (m + 2), .ref (m + 3), .ref (m + 4), .ref (m + 5), .ref (m + 6), .ref (m + 7), .int (nI tn), .int (nI (p + 1)), .int (nI S.2), .int (nI ln), .int (nI 0), .int (nI 1)])) := f1
      have sa56 := s1
      clear f1 s1
      have fa57 := (sa56 (m + 6) (by omega)).trans fa53
      have fr58 := offn_in (k := 1) (q := m) fr54 sa56 (by omega)
      have hv59 := (sa56 (m + 1) (by omega)).trans hv55
      refine v_iload_n dX7_order_49 rfl ?_
      refine v_bipush (v := nI 110) dX7_order_50 (by decide) ?_
      refine n_icmp_eq (tgt := 71) (x := 112) (y := 110) dX7_order_52 (by decide) (by decide) (by decide) (fun c => absurd c (by decide)) (fun _ => ?_)
      refine v_aload_n dX7_order_55 rfl ?_
      refine v_iload_n dX7_order_56 rfl ?_
      refine v_bipush (v := nI 119) dX7_order_57 (by decide) ?_
      refine n_icmp_ne (tgt := 66) (x := 112) (y := 119) dX7_order_59 (by decide) (by decide) (by decide) (fun _ => ?_) (fun c => absurd c (by decide))
      refine v_iconst (v := nI 1) dX7_order_66 (by decide) ?_
      refine v_callV (st := []) dX7_order_67 (t_X7_digits1 (s := (true, p + 1)) fa56 fa57 hX hS (by omega)) wX7_195 fa56 rfl rfl ⟨Nat.le_of_ble_eq_true rfl, Nat.le_of_ble_eq_true rfl⟩ (Nat.le_of_ble_eq_true rfl) ⟨Nat.le_of_ble_eq_true rfl, Nat.le_of_ble_eq_true rfl⟩ (fun r n2 h2 hq => ?_)
      obtain ⟨rfl, hn9, fo60, sa60⟩ := hq; replace hn9 := hn9.symm; subst hn9
      refine v_st (st2 := [.int (nI (dvS (txt S.1 S.2) 1 (true, p + 1)))]) rfl ?_
      obtain ⟨s60, hs60⟩ : ∃ z : Bool × Nat, z = sN (txt S.1 S.2) 1 (true, p + 1) := ⟨_, rfl⟩
      rw [← hs60] at fo60
      have hle60 : s60.2 ≤ S.2 := by rw [hs60]; exact sN_le (by show p + 1 ≤ S.2; omega)
      have fa61 := (sa60 (m + 6) (by omega)).trans fa57
      have fr62 := offn_in (k := 1) (q := m) fr58 sa60 (by omega)
      have hv63 := (sa60 (m + 1) (by omega)).trans hv59
      refine v_istore_n dX7_order_70 rfl (by decide) ?_
      refine v_ls (ls2 := [some (.ref m), some (.int (nI 112)), some (.int (nI (dvS (txt S.1 S.2) 1 (true, p + 1)))), some (.int (nI 0)), some (.int (nI 0)), some (.int (nI 0)), none]) rfl ?_
      refine v_iload_n dX7_order_71 rfl ?_
      refine v_bipush (v := nI 112) dX7_order_72 (by decide) ?_
      refine n_icmp_eq (tgt := 83) (x := 112) (y := 112) dX7_order_74 (by decide) (by decide) (by decide) (fun _ => ?_) (fun c => absurd c (by decide))
      refine v_aload_n dX7_order_83 rfl ?_
      refine v_bipush (v := nI 58) dX7_order_84 (by decide) ?_
      refine v_iconst (v := nI 2) dX7_order_86 (by decide) ?_
      refine v_callV (st := []) dX7_order_87 (t_X7_behind58 (s := s60) fo60 fa61 hX hS (by omega)) wX7_201 fo60 rfl rfl ⟨Nat.le_of_ble_eq_true rfl, Nat.le_of_ble_eq_true rfl⟩ (Nat.le_of_ble_eq_true rfl) ⟨Nat.le_of_ble_eq_true rfl, Nat.le_of_ble_eq_true rfl⟩ (fun r n2 h2 hq => ?_)
      obtain ⟨rfl, hn9, fo64, sa64⟩ := hq; replace hn9 := hn9.symm; subst hn9
      refine v_st (st2 := [.int (nI (bhV (txt S.1 S.2) 58 2 s60))]) rfl ?_
      obtain ⟨s64, hs64⟩ : ∃ z : Bool × Nat, z = sN (txt S.1 S.2) 2 (sS (txt S.1 S.2) 58 s60) := ⟨_, rfl⟩
      rw [← hs64] at fo64
      have hle64 : s64.2 ≤ S.2 := by rw [hs64]; exact sN_le (sS_le (by decide) (by omega))
      have fa65 := (sa64 (m + 6) (by omega)).trans fa61
      have fr66 := offn_in (k := 1) (q := m) fr62 sa64 (by omega)
      have hv67 := (sa64 (m + 1) (by omega)).trans hv63
      refine v_istore_n dX7_order_90 rfl (by decide) ?_
      refine v_ls (ls2 := [some (.ref m), some (.int (nI 112)), some (.int (nI (dvS (txt S.1 S.2) 1 (true, p + 1)))), some (.int (nI (bhV (txt S.1 S.2) 58 2 s60))), some (.int (nI 0)), some (.int (nI 0)), none]) rfl ?_
      refine v_iload_n dX7_order_91 rfl ?_
      refine v_bipush (v := nI 112) dX7_order_92 (by decide) ?_
      refine n_icmp_ne (tgt := 106) (x := 112) (y := 112) dX7_order_94 (by decide) (by decide) (by decide) (fun c => absurd c (by decide)) (fun _ => ?_)
      refine v_aload_n dX7_order_97 rfl ?_
      refine v_bipush (v := nI 42) dX7_order_98 (by decide) ?_
      refine v_iconst (v := nI 2) dX7_order_100 (by decide) ?_
      refine v_callV (st := []) dX7_order_101 (t_X7_behind42 (s := s64) fo64 fa65 hX hS (by omega)) wX7_201 fo64 rfl rfl ⟨Nat.le_of_ble_eq_true rfl, Nat.le_of_ble_eq_true rfl⟩ (Nat.le_of_ble_eq_true rfl) ⟨Nat.le_of_ble_eq_true rfl, Nat.le_of_ble_eq_true rfl⟩ (fun r n2 h2 hq => ?_)
      obtain ⟨rfl, hn9, fo68, sa68⟩ := hq; replace hn9 := hn9.symm; subst hn9
      refine v_st (st2 := [.int (nI (bhV (txt S.1 S.2) 42 2 s64))]) rfl ?_
      obtain ⟨s68, hs68⟩ : ∃ z : Bool × Nat, z = sN (txt S.1 S.2) 2 (sS (txt S.1 S.2) 42 s64) := ⟨_, rfl⟩
      rw [← hs68] at fo68
      have hle68 : s68.2 ≤ S.2 := by rw [hs68]; exact sN_le (sS_le (by decide) (by omega))
      have fa69 := (sa68 (m + 6) (by omega)).trans fa65
      have fr70 := offn_in (k := 1) (q := m) fr66 sa68 (by omega)
      have hv71 := (sa68 (m + 1) (by omega)).trans hv67
      refine v_istore dX7_order_104 rfl (by decide) ?_
      refine v_ls (ls2 := [some (.ref m), some (.int (nI 112)), some (.int (nI (dvS (txt S.1 S.2) 1 (true, p + 1)))), some (.int (nI (bhV (txt S.1 S.2) 58 2 s60))), some (.int (nI (bhV (txt S.1 S.2) 42 2 s64))), some (.int (nI 0)), none]) rfl ?_
      refine v_iload_n dX7_order_106 rfl ?_
      refine v_bipush (v := nI 98) dX7_order_107 (by decide) ?_
      refine n_icmp_ne (tgt := 121) (x := 112) (y := 98) dX7_order_109 (by decide) (by decide) (by decide) (fun _ => ?_) (fun c => absurd c (by decide))
      refine v_iload_n dX7_order_121 rfl ?_
      refine v_bipush (v := nI 98) dX7_order_122 (by decide) ?_
      refine n_icmp_ne (tgt := 136) (x := 112) (y := 98) dX7_order_124 (by decide) (by decide) (by decide) (fun _ => ?_) (fun c => absurd c (by decide))
      refine v_iload_n dX7_order_136 rfl ?_
      refine v_bipush (v := nI 120) dX7_order_137 (by decide) ?_
      refine n_icmp_ne (tgt := 147) (x := 112) (y := 120) dX7_order_139 (by decide) (by decide) (by decide) (fun _ => ?_) (fun c => absurd c (by decide))
      refine v_aload_n dX7_order_147 rfl ?_
      refine fX7_185 (v := .int (nI (bI (s68.1 = false)))) rfl dX7_order_148 fo68 rfl ?_
      have hfin : s68.1 = true := by rw [hs68]; rw [hs64]; rw [hs60]; rw [hsh] at hok; exact hok
      have hf9 : ¬ s68.1 = false := fun z => by rw [hfin] at z; exact Bool.noConfusion z
      rw [bI_f hf9] at fo68
      refine n_ifb_ne (tgt := 161) (p := s68.1 = false) dX7_order_151 (by decide) (fun z => absurd z hf9) (fun _ => ?_)
      refine v_aload_n dX7_order_154 rfl ?_
      refine fX7_207 (v := .int (nI 1)) rfl dX7_order_155 fo68 rfl ?_
      refine n_if_ne (tgt := 162) (x := 1) dX7_order_158 (by decide) (by decide) (fun _ => ?_) (fun c => absurd c (by decide))
      refine v_aload_n dX7_order_162 rfl ?_
      refine v_iload_n dX7_order_163 rfl ?_
      refine v_iload_n dX7_order_164 rfl ?_
      refine v_iload_n dX7_order_165 rfl ?_
      refine v_iload dX7_order_166 rfl ?_
      refine v_iload dX7_order_168 rfl ?_
      refine v_callV (st := []) dX7_order_170 (t_X7_does2 (one := dvS (txt S.1 S.2) 1 (true, p + 1)) (two := bhV (txt S.1 S.2) 58 2 s60) (three := bhV (txt S.1 S.2) 42 2 s64) (four := 0) fo68 hv71 hK hb1 hb2 hI) wX7_210 fo68 rfl rfl ⟨Nat.le_of_ble_eq_true rfl, Nat.le_of_ble_eq_true rfl⟩ (Nat.le_of_ble_eq_true rfl) ⟨Nat.le_of_ble_eq_true rfl, Nat.le_of_ble_eq_true rfl⟩ (fun r n2 h2 hq => ?_)
      obtain ⟨rfl, hn9, fo72, hv72, sa72, ok72⟩ := hq; replace hn9 := hn9.symm; subst hn9
      obtain ⟨zz, hzz⟩ : ∃ zz : Int32, zz = (dPat C (nI (dvS (txt S.1 S.2) 1 (true, p + 1))) (nI (bhV (txt S.1 S.2) 58 2 s60)) (nI (bhV (txt S.1 S.2) 42 2 s64))).1 := ⟨_, rfl⟩
      refine v_st (st2 := [.int zz]) (by rw [hzz]; rfl) ?_
      refine v_istore dX7_order_173 rfl (by decide) ?_
      refine v_ls (ls2 := [some (.ref m), some (.int (nI 112)), some (.int (nI (dvS (txt S.1 S.2) 1 (true, p + 1)))), some (.int (nI (bhV (txt S.1 S.2) 58 2 s60))), some (.int (nI (bhV (txt S.1 S.2) 42 2 s64))), some (.int (nI 0)), some (.int zz)]) rfl ?_
      refine v_vret dX7_order_175 rfl ?_ (Nat.le_of_ble_eq_true rfl) (Nat.le_of_ble_eq_true rfl)
      subst hs68
      subst hs64
      subst hs60
      have q2 := ov2 (T := (txt S.1 S.2)) (p := p) (by rw [hsh] at hok; exact hok)
      rw [q2.1, q2.2] at fo72 hv72 ok72
      have eR : dO (txt S.1 S.2) p C = dPat C (nI (oV (txt S.1 S.2) 2 p 0)) (nI (oV (txt S.1 S.2) 2 p 1)) (nI (oV (txt S.1 S.2) 2 p 2)) := by unfold dO; rw [hsh]; first | done | rfl
      rw [eR, hsh]
      exact ⟨rfl, rfl, fo72, hv72, fun z hz => (sa72 z (by omega)).trans (fr70 z (by omega)), ok72⟩
    · refine v_st (st2 := [.int (nI 98)]) (by rw [hk]) ?_
      refine v_istore_n dX7_order_4 rfl (by decide) ?_
      refine v_ls (ls2 := [some (.ref m), some (.int (nI 98)), none, none, none, none, none]) rfl ?_
      refine v_iconst (v := nI 0) dX7_order_5 (by decide) ?_
      refine v_istore_n dX7_order_6 rfl (by decide) ?_
      refine v_ls (ls2 := [some (.ref m), some (.int (nI 98)), some (.int (nI 0)), none, none, none, none]) rfl ?_
      refine v_iconst (v := nI 0) dX7_order_7 (by decide) ?_
      refine v_istore_n dX7_order_8 rfl (by decide) ?_
      refine v_ls (ls2 := [some (.ref m), some (.int (nI 98)), some (.int (nI 0)), some (.int (nI 0)), none, none, none]) rfl ?_
      refine v_iconst (v := nI 0) dX7_order_9 (by decide) ?_
      refine v_istore dX7_order_10 rfl (by decide) ?_
      refine v_ls (ls2 := [some (.ref m), some (.int (nI 98)), some (.int (nI 0)), some (.int (nI 0)), some (.int (nI 0)), none, none]) rfl ?_
      refine v_iconst (v := nI 0) dX7_order_12 (by decide) ?_
      refine v_istore dX7_order_13 rfl (by decide) ?_
      refine v_ls (ls2 := [some (.ref m), some (.int (nI 98)), some (.int (nI 0)), some (.int (nI 0)), some (.int (nI 0)), some (.int (nI 0)), none]) rfl ?_
      refine v_aload_n dX7_order_15 rfl ?_
      refine v_iload_n dX7_order_16 rfl ?_
      refine v_callS (st := [.ref m]) dX7_order_17 (t_X7_isKnown (c := 98) (by decide)) wX7_198 rfl ⟨Nat.le_of_ble_eq_true rfl, Nat.le_of_ble_eq_true rfl⟩ (Nat.le_of_ble_eq_true rfl) ⟨Nat.le_of_ble_eq_true rfl, Nat.le_of_ble_eq_true rfl⟩ (fun r n2 h2 hq => ?_)
      obtain ⟨rfl, hn9, hh9⟩ := hq; replace hn9 := hn9.symm; subst hn9; replace hh9 := hh9.symm; subst hh9
      refine v_st (st2 := [.int (nI 1), .ref m]) rfl ?_
      refine n_if_ne (tgt := 27) (x := 1) dX7_order_20 (by decide) (by decide) (fun _ => ?_) (fun c => absurd c (by decide))
      refine v_iconst (v := nI 0) dX7_order_27 (by decide) ?_
      refine pX7_185 rfl dX7_order_28 ho (Nat.le_of_ble_eq_true rfl) (by decide) (by decide) ?_
      refine nw (fun h1 f1 s1 => ?_)
      have fa73 : h1 (m) = some (.inr (8, [.int fl, .int (nI ch), .int wy, .int dt, .int (nI sw), .ref (m + 1), .ref (m + 2), .ref (m + 3), .ref (m + 4), .ref (m + 5), .ref (m + 6), .ref (m + 7), .int (nI tn), .int (nI p), .int (nI S.2), .int (nI ln), .int (nI 0), .int (nI 1)])) := f1
      have sa73 := s1
      clear f1 s1
      have fa74 := (sa73 (m + 6) (by omega)).trans htx
      have fr75 := offn_in (k := 1) (q := m) offn_rf sa73 (by omega)
      have hv76 := (sa73 (m + 1) (by omega)).trans hv
      refine v_aload_n dX7_order_31 rfl ?_
      refine fX7_185 (v := .int (nI 0)) rfl dX7_order_32 fa73 rfl ?_
      refine n_if_eq (tgt := 39) (x := 0) dX7_order_35 (by decide) (by decide) (fun _ => ?_) (fun c => absurd c (by decide))
      refine v_aload_n dX7_order_39 rfl ?_
      refine v_dup dX7_order_40 rfl ?_
      refine fX7_179 (v := .int (nI p)) rfl dX7_order_41 fa73 rfl ?_
      refine v_iconst (v := nI 1) dX7_order_44 (by decide) ?_
      refine n_iadd (x := p) (y := 1) dX7_order_45 ?_
      refine pX7_179 rfl dX7_order_46 fa73 (Nat.le_of_ble_eq_true rfl) ?_
      refine nw (fun h1 f1 s1 => ?_)
      have fa77 : h1 (m) = some (.inr (8, [.int fl, .int (nI ch), .int wy, .int dt, .int (nI sw), .ref (m + 1), .ref (m + 2), .ref (m + 3), .ref (m + 4), .ref (m + 5), .ref (m + 6), .ref (m + 7), .int (nI tn), .int (nI (p + 1)), .int (nI S.2), .int (nI ln), .int (nI 0), .int (nI 1)])) := f1
      have sa77 := s1
      clear f1 s1
      have fa78 := (sa77 (m + 6) (by omega)).trans fa74
      have fr79 := offn_in (k := 1) (q := m) fr75 sa77 (by omega)
      have hv80 := (sa77 (m + 1) (by omega)).trans hv76
      refine v_iload_n dX7_order_49 rfl ?_
      refine v_bipush (v := nI 110) dX7_order_50 (by decide) ?_
      refine n_icmp_eq (tgt := 71) (x := 98) (y := 110) dX7_order_52 (by decide) (by decide) (by decide) (fun c => absurd c (by decide)) (fun _ => ?_)
      refine v_aload_n dX7_order_55 rfl ?_
      refine v_iload_n dX7_order_56 rfl ?_
      refine v_bipush (v := nI 119) dX7_order_57 (by decide) ?_
      refine n_icmp_ne (tgt := 66) (x := 98) (y := 119) dX7_order_59 (by decide) (by decide) (by decide) (fun _ => ?_) (fun c => absurd c (by decide))
      refine v_iconst (v := nI 1) dX7_order_66 (by decide) ?_
      refine v_callV (st := []) dX7_order_67 (t_X7_digits1 (s := (true, p + 1)) fa77 fa78 hX hS (by omega)) wX7_195 fa77 rfl rfl ⟨Nat.le_of_ble_eq_true rfl, Nat.le_of_ble_eq_true rfl⟩ (Nat.le_of_ble_eq_true rfl) ⟨Nat.le_of_ble_eq_true rfl, Nat.le_of_ble_eq_true rfl⟩ (fun r n2 h2 hq => ?_)
      obtain ⟨rfl, hn9, fo81, sa81⟩ := hq; replace hn9 := hn9.symm; subst hn9
      refine v_st (st2 := [.int (nI (dvS (txt S.1 S.2) 1 (true, p + 1)))]) rfl ?_
      obtain ⟨s81, hs81⟩ : ∃ z : Bool × Nat, z = sN (txt S.1 S.2) 1 (true, p + 1) := ⟨_, rfl⟩
      rw [← hs81] at fo81
      have hle81 : s81.2 ≤ S.2 := by rw [hs81]; exact sN_le (by show p + 1 ≤ S.2; omega)
      have fa82 := (sa81 (m + 6) (by omega)).trans fa78
      have fr83 := offn_in (k := 1) (q := m) fr79 sa81 (by omega)
      have hv84 := (sa81 (m + 1) (by omega)).trans hv80
      refine v_istore_n dX7_order_70 rfl (by decide) ?_
      refine v_ls (ls2 := [some (.ref m), some (.int (nI 98)), some (.int (nI (dvS (txt S.1 S.2) 1 (true, p + 1)))), some (.int (nI 0)), some (.int (nI 0)), some (.int (nI 0)), none]) rfl ?_
      refine v_iload_n dX7_order_71 rfl ?_
      refine v_bipush (v := nI 112) dX7_order_72 (by decide) ?_
      refine n_icmp_eq (tgt := 83) (x := 98) (y := 112) dX7_order_74 (by decide) (by decide) (by decide) (fun c => absurd c (by decide)) (fun _ => ?_)
      refine v_iload_n dX7_order_77 rfl ?_
      refine v_bipush (v := nI 98) dX7_order_78 (by decide) ?_
      refine n_icmp_ne (tgt := 91) (x := 98) (y := 98) dX7_order_80 (by decide) (by decide) (by decide) (fun c => absurd c (by decide)) (fun _ => ?_)
      refine v_aload_n dX7_order_83 rfl ?_
      refine v_bipush (v := nI 58) dX7_order_84 (by decide) ?_
      refine v_iconst (v := nI 2) dX7_order_86 (by decide) ?_
      refine v_callV (st := []) dX7_order_87 (t_X7_behind58 (s := s81) fo81 fa82 hX hS (by omega)) wX7_201 fo81 rfl rfl ⟨Nat.le_of_ble_eq_true rfl, Nat.le_of_ble_eq_true rfl⟩ (Nat.le_of_ble_eq_true rfl) ⟨Nat.le_of_ble_eq_true rfl, Nat.le_of_ble_eq_true rfl⟩ (fun r n2 h2 hq => ?_)
      obtain ⟨rfl, hn9, fo85, sa85⟩ := hq; replace hn9 := hn9.symm; subst hn9
      refine v_st (st2 := [.int (nI (bhV (txt S.1 S.2) 58 2 s81))]) rfl ?_
      obtain ⟨s85, hs85⟩ : ∃ z : Bool × Nat, z = sN (txt S.1 S.2) 2 (sS (txt S.1 S.2) 58 s81) := ⟨_, rfl⟩
      rw [← hs85] at fo85
      have hle85 : s85.2 ≤ S.2 := by rw [hs85]; exact sN_le (sS_le (by decide) (by omega))
      have fa86 := (sa85 (m + 6) (by omega)).trans fa82
      have fr87 := offn_in (k := 1) (q := m) fr83 sa85 (by omega)
      have hv88 := (sa85 (m + 1) (by omega)).trans hv84
      refine v_istore_n dX7_order_90 rfl (by decide) ?_
      refine v_ls (ls2 := [some (.ref m), some (.int (nI 98)), some (.int (nI (dvS (txt S.1 S.2) 1 (true, p + 1)))), some (.int (nI (bhV (txt S.1 S.2) 58 2 s81))), some (.int (nI 0)), some (.int (nI 0)), none]) rfl ?_
      refine v_iload_n dX7_order_91 rfl ?_
      refine v_bipush (v := nI 112) dX7_order_92 (by decide) ?_
      refine n_icmp_ne (tgt := 106) (x := 98) (y := 112) dX7_order_94 (by decide) (by decide) (by decide) (fun _ => ?_) (fun c => absurd c (by decide))
      refine v_iload_n dX7_order_106 rfl ?_
      refine v_bipush (v := nI 98) dX7_order_107 (by decide) ?_
      refine n_icmp_ne (tgt := 121) (x := 98) (y := 98) dX7_order_109 (by decide) (by decide) (by decide) (fun c => absurd c (by decide)) (fun _ => ?_)
      refine v_aload_n dX7_order_112 rfl ?_
      refine v_bipush (v := nI 64) dX7_order_113 (by decide) ?_
      refine v_iconst (v := nI 1) dX7_order_115 (by decide) ?_
      refine v_callV (st := []) dX7_order_116 (t_X7_behind64 (s := s85) fo85 fa86 hX hS (by omega)) wX7_201 fo85 rfl rfl ⟨Nat.le_of_ble_eq_true rfl, Nat.le_of_ble_eq_true rfl⟩ (Nat.le_of_ble_eq_true rfl) ⟨Nat.le_of_ble_eq_true rfl, Nat.le_of_ble_eq_true rfl⟩ (fun r n2 h2 hq => ?_)
      obtain ⟨rfl, hn9, fo89, sa89⟩ := hq; replace hn9 := hn9.symm; subst hn9
      refine v_st (st2 := [.int (nI (bhV (txt S.1 S.2) 64 1 s85))]) rfl ?_
      obtain ⟨s89, hs89⟩ : ∃ z : Bool × Nat, z = sN (txt S.1 S.2) 1 (sS (txt S.1 S.2) 64 s85) := ⟨_, rfl⟩
      rw [← hs89] at fo89
      have hle89 : s89.2 ≤ S.2 := by rw [hs89]; exact sN_le (sS_le (by decide) (by omega))
      have fa90 := (sa89 (m + 6) (by omega)).trans fa86
      have fr91 := offn_in (k := 1) (q := m) fr87 sa89 (by omega)
      have hv92 := (sa89 (m + 1) (by omega)).trans hv88
      refine v_istore dX7_order_119 rfl (by decide) ?_
      refine v_ls (ls2 := [some (.ref m), some (.int (nI 98)), some (.int (nI (dvS (txt S.1 S.2) 1 (true, p + 1)))), some (.int (nI (bhV (txt S.1 S.2) 58 2 s81))), some (.int (nI (bhV (txt S.1 S.2) 64 1 s85))), some (.int (nI 0)), none]) rfl ?_
      refine v_iload_n dX7_order_121 rfl ?_
      refine v_bipush (v := nI 98) dX7_order_122 (by decide) ?_
      refine n_icmp_ne (tgt := 136) (x := 98) (y := 98) dX7_order_124 (by decide) (by decide) (by decide) (fun c => absurd c (by decide)) (fun _ => ?_)
      refine v_aload_n dX7_order_127 rfl ?_
      refine v_bipush (v := nI 61) dX7_order_128 (by decide) ?_
      refine v_iconst (v := nI 2) dX7_order_130 (by decide) ?_
      refine v_callV (st := []) dX7_order_131 (t_X7_behind61 (s := s89) fo89 fa90 hX hS (by omega)) wX7_201 fo89 rfl rfl ⟨Nat.le_of_ble_eq_true rfl, Nat.le_of_ble_eq_true rfl⟩ (Nat.le_of_ble_eq_true rfl) ⟨Nat.le_of_ble_eq_true rfl, Nat.le_of_ble_eq_true rfl⟩ (fun r n2 h2 hq => ?_)
      obtain ⟨rfl, hn9, fo93, sa93⟩ := hq; replace hn9 := hn9.symm; subst hn9
      refine v_st (st2 := [.int (nI (bhV (txt S.1 S.2) 61 2 s89))]) rfl ?_
      obtain ⟨s93, hs93⟩ : ∃ z : Bool × Nat, z = sN (txt S.1 S.2) 2 (sS (txt S.1 S.2) 61 s89) := ⟨_, rfl⟩
      rw [← hs93] at fo93
      have hle93 : s93.2 ≤ S.2 := by rw [hs93]; exact sN_le (sS_le (by decide) (by omega))
      have fa94 := (sa93 (m + 6) (by omega)).trans fa90
      have fr95 := offn_in (k := 1) (q := m) fr91 sa93 (by omega)
      have hv96 := (sa93 (m + 1) (by omega)).trans hv92
      refine v_istore dX7_order_134 rfl (by decide) ?_
      refine v_ls (ls2 := [some (.ref m), some (.int (nI 98)), some (.int (nI (dvS (txt S.1 S.2) 1 (true, p + 1)))), some (.int (nI (bhV (txt S.1 S.2) 58 2 s81))), some (.int (nI (bhV (txt S.1 S.2) 64 1 s85))), some (.int (nI (bhV (txt S.1 S.2) 61 2 s89))), none]) rfl ?_
      refine v_iload_n dX7_order_136 rfl ?_
      refine v_bipush (v := nI 120) dX7_order_137 (by decide) ?_
      refine n_icmp_ne (tgt := 147) (x := 98) (y := 120) dX7_order_139 (by decide) (by decide) (by decide) (fun _ => ?_) (fun c => absurd c (by decide))
      refine v_aload_n dX7_order_147 rfl ?_
      refine fX7_185 (v := .int (nI (bI (s93.1 = false)))) rfl dX7_order_148 fo93 rfl ?_
      have hfin : s93.1 = true := by rw [hs93]; rw [hs89]; rw [hs85]; rw [hs81]; rw [hsh] at hok; exact hok
      have hf9 : ¬ s93.1 = false := fun z => by rw [hfin] at z; exact Bool.noConfusion z
      rw [bI_f hf9] at fo93
      refine n_ifb_ne (tgt := 161) (p := s93.1 = false) dX7_order_151 (by decide) (fun z => absurd z hf9) (fun _ => ?_)
      refine v_aload_n dX7_order_154 rfl ?_
      refine fX7_207 (v := .int (nI 1)) rfl dX7_order_155 fo93 rfl ?_
      refine n_if_ne (tgt := 162) (x := 1) dX7_order_158 (by decide) (by decide) (fun _ => ?_) (fun c => absurd c (by decide))
      refine v_aload_n dX7_order_162 rfl ?_
      refine v_iload_n dX7_order_163 rfl ?_
      refine v_iload_n dX7_order_164 rfl ?_
      refine v_iload_n dX7_order_165 rfl ?_
      refine v_iload dX7_order_166 rfl ?_
      refine v_iload dX7_order_168 rfl ?_
      refine v_callV (st := []) dX7_order_170 (t_X7_does3 (one := dvS (txt S.1 S.2) 1 (true, p + 1)) (two := bhV (txt S.1 S.2) 58 2 s81) (three := bhV (txt S.1 S.2) 64 1 s85) (four := bhV (txt S.1 S.2) 61 2 s89) fo93 hv96 hK hb1 hb2 hI) wX7_210 fo93 rfl rfl ⟨Nat.le_of_ble_eq_true rfl, Nat.le_of_ble_eq_true rfl⟩ (Nat.le_of_ble_eq_true rfl) ⟨Nat.le_of_ble_eq_true rfl, Nat.le_of_ble_eq_true rfl⟩ (fun r n2 h2 hq => ?_)
      obtain ⟨rfl, hn9, fo97, hv97, sa97, ok97⟩ := hq; replace hn9 := hn9.symm; subst hn9
      obtain ⟨zz, hzz⟩ : ∃ zz : Int32, zz = (dBook C (nI (dvS (txt S.1 S.2) 1 (true, p + 1))) (nI (bhV (txt S.1 S.2) 58 2 s81)) (nI (bhV (txt S.1 S.2) 64 1 s85)) (nI (bhV (txt S.1 S.2) 61 2 s89))).1 := ⟨_, rfl⟩
      refine v_st (st2 := [.int zz]) (by rw [hzz]; rfl) ?_
      refine v_istore dX7_order_173 rfl (by decide) ?_
      refine v_ls (ls2 := [some (.ref m), some (.int (nI 98)), some (.int (nI (dvS (txt S.1 S.2) 1 (true, p + 1)))), some (.int (nI (bhV (txt S.1 S.2) 58 2 s81))), some (.int (nI (bhV (txt S.1 S.2) 64 1 s85))), some (.int (nI (bhV (txt S.1 S.2) 61 2 s89))), some (.int zz)]) rfl ?_
      refine v_vret dX7_order_175 rfl ?_ (Nat.le_of_ble_eq_true rfl) (Nat.le_of_ble_eq_true rfl)
      subst hs93
      subst hs89
      subst hs85
      subst hs81
      have q3 := ov3 (T := (txt S.1 S.2)) (p := p) (by rw [hsh] at hok; exact hok)
      rw [q3.1, q3.2.1, q3.2.2] at fo97 hv97 ok97
      have eR : dO (txt S.1 S.2) p C = dBook C (nI (oV (txt S.1 S.2) 3 p 0)) (nI (oV (txt S.1 S.2) 3 p 1)) (nI (oV (txt S.1 S.2) 3 p 2)) (nI (oV (txt S.1 S.2) 3 p 3)) := by unfold dO; rw [hsh]; first | done | rfl
      rw [eR, hsh]
      exact ⟨rfl, rfl, fo97, hv97, fun z hz => (sa97 z (by omega)).trans (fr95 z (by omega)), ok97⟩
    · refine v_st (st2 := [.int (nI 110)]) (by rw [hk]) ?_
      refine v_istore_n dX7_order_4 rfl (by decide) ?_
      refine v_ls (ls2 := [some (.ref m), some (.int (nI 110)), none, none, none, none, none]) rfl ?_
      refine v_iconst (v := nI 0) dX7_order_5 (by decide) ?_
      refine v_istore_n dX7_order_6 rfl (by decide) ?_
      refine v_ls (ls2 := [some (.ref m), some (.int (nI 110)), some (.int (nI 0)), none, none, none, none]) rfl ?_
      refine v_iconst (v := nI 0) dX7_order_7 (by decide) ?_
      refine v_istore_n dX7_order_8 rfl (by decide) ?_
      refine v_ls (ls2 := [some (.ref m), some (.int (nI 110)), some (.int (nI 0)), some (.int (nI 0)), none, none, none]) rfl ?_
      refine v_iconst (v := nI 0) dX7_order_9 (by decide) ?_
      refine v_istore dX7_order_10 rfl (by decide) ?_
      refine v_ls (ls2 := [some (.ref m), some (.int (nI 110)), some (.int (nI 0)), some (.int (nI 0)), some (.int (nI 0)), none, none]) rfl ?_
      refine v_iconst (v := nI 0) dX7_order_12 (by decide) ?_
      refine v_istore dX7_order_13 rfl (by decide) ?_
      refine v_ls (ls2 := [some (.ref m), some (.int (nI 110)), some (.int (nI 0)), some (.int (nI 0)), some (.int (nI 0)), some (.int (nI 0)), none]) rfl ?_
      refine v_aload_n dX7_order_15 rfl ?_
      refine v_iload_n dX7_order_16 rfl ?_
      refine v_callS (st := [.ref m]) dX7_order_17 (t_X7_isKnown (c := 110) (by decide)) wX7_198 rfl ⟨Nat.le_of_ble_eq_true rfl, Nat.le_of_ble_eq_true rfl⟩ (Nat.le_of_ble_eq_true rfl) ⟨Nat.le_of_ble_eq_true rfl, Nat.le_of_ble_eq_true rfl⟩ (fun r n2 h2 hq => ?_)
      obtain ⟨rfl, hn9, hh9⟩ := hq; replace hn9 := hn9.symm; subst hn9; replace hh9 := hh9.symm; subst hh9
      refine v_st (st2 := [.int (nI 1), .ref m]) rfl ?_
      refine n_if_ne (tgt := 27) (x := 1) dX7_order_20 (by decide) (by decide) (fun _ => ?_) (fun c => absurd c (by decide))
      refine v_iconst (v := nI 0) dX7_order_27 (by decide) ?_
      refine pX7_185 rfl dX7_order_28 ho (Nat.le_of_ble_eq_true rfl) (by decide) (by decide) ?_
      refine nw (fun h1 f1 s1 => ?_)
      have fa98 : h1 (m) = some (.inr (8, [.int fl, .int (nI ch), .int wy, .int dt, .int (nI sw), .ref (m + 1), .ref (m + 2), .ref (m + 3), .ref (m + 4), .ref (m + 5), .ref (m + 6), .ref (m + 7), .int (nI tn), .int (nI p), .int (nI S.2), .int (nI ln), .int (nI 0), .int (nI 1)])) := f1
      have sa98 := s1
      clear f1 s1
      have fa99 := (sa98 (m + 6) (by omega)).trans htx
      have fr100 := offn_in (k := 1) (q := m) offn_rf sa98 (by omega)
      have hv101 := (sa98 (m + 1) (by omega)).trans hv
      refine v_aload_n dX7_order_31 rfl ?_
      refine fX7_185 (v := .int (nI 0)) rfl dX7_order_32 fa98 rfl ?_
      refine n_if_eq (tgt := 39) (x := 0) dX7_order_35 (by decide) (by decide) (fun _ => ?_) (fun c => absurd c (by decide))
      refine v_aload_n dX7_order_39 rfl ?_
      refine v_dup dX7_order_40 rfl ?_
      refine fX7_179 (v := .int (nI p)) rfl dX7_order_41 fa98 rfl ?_
      refine v_iconst (v := nI 1) dX7_order_44 (by decide) ?_
      refine n_iadd (x := p) (y := 1) dX7_order_45 ?_
      refine pX7_179 rfl dX7_order_46 fa98 (Nat.le_of_ble_eq_true rfl) ?_
      refine nw (fun h1 f1 s1 => ?_)
      have fa102 : h1 (m) = some (.inr (8, [.int fl, .int (nI ch), .int wy, .int dt, .int (nI sw), .ref (m + 1), .ref (m + 2), .ref (m + 3), .ref (m + 4), .ref (m + 5), .ref (m + 6), .ref (m + 7), .int (nI tn), .int (nI (p + 1)), .int (nI S.2), .int (nI ln), .int (nI 0), .int (nI 1)])) := f1
      have sa102 := s1
      clear f1 s1
      have fa103 := (sa102 (m + 6) (by omega)).trans fa99
      have fr104 := offn_in (k := 1) (q := m) fr100 sa102 (by omega)
      have hv105 := (sa102 (m + 1) (by omega)).trans hv101
      refine v_iload_n dX7_order_49 rfl ?_
      refine v_bipush (v := nI 110) dX7_order_50 (by decide) ?_
      refine n_icmp_eq (tgt := 71) (x := 110) (y := 110) dX7_order_52 (by decide) (by decide) (by decide) (fun _ => ?_) (fun c => absurd c (by decide))
      refine v_iload_n dX7_order_71 rfl ?_
      refine v_bipush (v := nI 112) dX7_order_72 (by decide) ?_
      refine n_icmp_eq (tgt := 83) (x := 110) (y := 112) dX7_order_74 (by decide) (by decide) (by decide) (fun c => absurd c (by decide)) (fun _ => ?_)
      refine v_iload_n dX7_order_77 rfl ?_
      refine v_bipush (v := nI 98) dX7_order_78 (by decide) ?_
      refine n_icmp_ne (tgt := 91) (x := 110) (y := 98) dX7_order_80 (by decide) (by decide) (by decide) (fun _ => ?_) (fun c => absurd c (by decide))
      refine v_iload_n dX7_order_91 rfl ?_
      refine v_bipush (v := nI 112) dX7_order_92 (by decide) ?_
      refine n_icmp_ne (tgt := 106) (x := 110) (y := 112) dX7_order_94 (by decide) (by decide) (by decide) (fun _ => ?_) (fun c => absurd c (by decide))
      refine v_iload_n dX7_order_106 rfl ?_
      refine v_bipush (v := nI 98) dX7_order_107 (by decide) ?_
      refine n_icmp_ne (tgt := 121) (x := 110) (y := 98) dX7_order_109 (by decide) (by decide) (by decide) (fun _ => ?_) (fun c => absurd c (by decide))
      refine v_iload_n dX7_order_121 rfl ?_
      refine v_bipush (v := nI 98) dX7_order_122 (by decide) ?_
      refine n_icmp_ne (tgt := 136) (x := 110) (y := 98) dX7_order_124 (by decide) (by decide) (by decide) (fun _ => ?_) (fun c => absurd c (by decide))
      refine v_iload_n dX7_order_136 rfl ?_
      refine v_bipush (v := nI 120) dX7_order_137 (by decide) ?_
      refine n_icmp_ne (tgt := 147) (x := 110) (y := 120) dX7_order_139 (by decide) (by decide) (by decide) (fun _ => ?_) (fun c => absurd c (by decide))
      refine v_aload_n dX7_order_147 rfl ?_
      refine fX7_185 (v := .int (nI 0)) rfl dX7_order_148 fa102 rfl ?_
      refine n_if_ne (tgt := 161) (x := 0) dX7_order_151 (by decide) (by decide) (fun c => absurd c (by decide)) (fun _ => ?_)
      refine v_aload_n dX7_order_154 rfl ?_
      refine fX7_207 (v := .int (nI 1)) rfl dX7_order_155 fa102 rfl ?_
      refine n_if_ne (tgt := 162) (x := 1) dX7_order_158 (by decide) (by decide) (fun _ => ?_) (fun c => absurd c (by decide))
      refine v_aload_n dX7_order_162 rfl ?_
      refine v_iload_n dX7_order_163 rfl ?_
      refine v_iload_n dX7_order_164 rfl ?_
      refine v_iload_n dX7_order_165 rfl ?_
      refine v_iload dX7_order_166 rfl ?_
      refine v_iload dX7_order_168 rfl ?_
      refine v_callV (st := []) dX7_order_170 (t_X7_does4 (one := 0) (two := 0) (three := 0) (four := 0) fa102 hv105 hK hb1 hb2 hI) wX7_210 fa102 rfl rfl ⟨Nat.le_of_ble_eq_true rfl, Nat.le_of_ble_eq_true rfl⟩ (Nat.le_of_ble_eq_true rfl) ⟨Nat.le_of_ble_eq_true rfl, Nat.le_of_ble_eq_true rfl⟩ (fun r n2 h2 hq => ?_)
      obtain ⟨rfl, hn9, fo106, hv106, sa106, ok106⟩ := hq; replace hn9 := hn9.symm; subst hn9
      obtain ⟨zz, hzz⟩ : ∃ zz : Int32, zz = (dNext C).1 := ⟨_, rfl⟩
      refine v_st (st2 := [.int zz]) (by rw [hzz]; rfl) ?_
      refine v_istore dX7_order_173 rfl (by decide) ?_
      refine v_ls (ls2 := [some (.ref m), some (.int (nI 110)), some (.int (nI 0)), some (.int (nI 0)), some (.int (nI 0)), some (.int (nI 0)), some (.int zz)]) rfl ?_
      refine v_vret dX7_order_175 rfl ?_ (Nat.le_of_ble_eq_true rfl) (Nat.le_of_ble_eq_true rfl)
      have eR : dO (txt S.1 S.2) p C = dNext C := by unfold dO; rw [hsh]; first | done | rfl
      rw [eR, hsh]
      exact ⟨rfl, rfl, fo106, hv106, fun z hz => (sa106 z (by omega)).trans (fr104 z (by omega)), ok106⟩
    · refine v_st (st2 := [.int (nI 105)]) (by rw [hk]) ?_
      refine v_istore_n dX7_order_4 rfl (by decide) ?_
      refine v_ls (ls2 := [some (.ref m), some (.int (nI 105)), none, none, none, none, none]) rfl ?_
      refine v_iconst (v := nI 0) dX7_order_5 (by decide) ?_
      refine v_istore_n dX7_order_6 rfl (by decide) ?_
      refine v_ls (ls2 := [some (.ref m), some (.int (nI 105)), some (.int (nI 0)), none, none, none, none]) rfl ?_
      refine v_iconst (v := nI 0) dX7_order_7 (by decide) ?_
      refine v_istore_n dX7_order_8 rfl (by decide) ?_
      refine v_ls (ls2 := [some (.ref m), some (.int (nI 105)), some (.int (nI 0)), some (.int (nI 0)), none, none, none]) rfl ?_
      refine v_iconst (v := nI 0) dX7_order_9 (by decide) ?_
      refine v_istore dX7_order_10 rfl (by decide) ?_
      refine v_ls (ls2 := [some (.ref m), some (.int (nI 105)), some (.int (nI 0)), some (.int (nI 0)), some (.int (nI 0)), none, none]) rfl ?_
      refine v_iconst (v := nI 0) dX7_order_12 (by decide) ?_
      refine v_istore dX7_order_13 rfl (by decide) ?_
      refine v_ls (ls2 := [some (.ref m), some (.int (nI 105)), some (.int (nI 0)), some (.int (nI 0)), some (.int (nI 0)), some (.int (nI 0)), none]) rfl ?_
      refine v_aload_n dX7_order_15 rfl ?_
      refine v_iload_n dX7_order_16 rfl ?_
      refine v_callS (st := [.ref m]) dX7_order_17 (t_X7_isKnown (c := 105) (by decide)) wX7_198 rfl ⟨Nat.le_of_ble_eq_true rfl, Nat.le_of_ble_eq_true rfl⟩ (Nat.le_of_ble_eq_true rfl) ⟨Nat.le_of_ble_eq_true rfl, Nat.le_of_ble_eq_true rfl⟩ (fun r n2 h2 hq => ?_)
      obtain ⟨rfl, hn9, hh9⟩ := hq; replace hn9 := hn9.symm; subst hn9; replace hh9 := hh9.symm; subst hh9
      refine v_st (st2 := [.int (nI 1), .ref m]) rfl ?_
      refine n_if_ne (tgt := 27) (x := 1) dX7_order_20 (by decide) (by decide) (fun _ => ?_) (fun c => absurd c (by decide))
      refine v_iconst (v := nI 0) dX7_order_27 (by decide) ?_
      refine pX7_185 rfl dX7_order_28 ho (Nat.le_of_ble_eq_true rfl) (by decide) (by decide) ?_
      refine nw (fun h1 f1 s1 => ?_)
      have fa107 : h1 (m) = some (.inr (8, [.int fl, .int (nI ch), .int wy, .int dt, .int (nI sw), .ref (m + 1), .ref (m + 2), .ref (m + 3), .ref (m + 4), .ref (m + 5), .ref (m + 6), .ref (m + 7), .int (nI tn), .int (nI p), .int (nI S.2), .int (nI ln), .int (nI 0), .int (nI 1)])) := f1
      have sa107 := s1
      clear f1 s1
      have fa108 := (sa107 (m + 6) (by omega)).trans htx
      have fr109 := offn_in (k := 1) (q := m) offn_rf sa107 (by omega)
      have hv110 := (sa107 (m + 1) (by omega)).trans hv
      refine v_aload_n dX7_order_31 rfl ?_
      refine fX7_185 (v := .int (nI 0)) rfl dX7_order_32 fa107 rfl ?_
      refine n_if_eq (tgt := 39) (x := 0) dX7_order_35 (by decide) (by decide) (fun _ => ?_) (fun c => absurd c (by decide))
      refine v_aload_n dX7_order_39 rfl ?_
      refine v_dup dX7_order_40 rfl ?_
      refine fX7_179 (v := .int (nI p)) rfl dX7_order_41 fa107 rfl ?_
      refine v_iconst (v := nI 1) dX7_order_44 (by decide) ?_
      refine n_iadd (x := p) (y := 1) dX7_order_45 ?_
      refine pX7_179 rfl dX7_order_46 fa107 (Nat.le_of_ble_eq_true rfl) ?_
      refine nw (fun h1 f1 s1 => ?_)
      have fa111 : h1 (m) = some (.inr (8, [.int fl, .int (nI ch), .int wy, .int dt, .int (nI sw), .ref (m + 1), .ref (m + 2), .ref (m + 3), .ref (m + 4), .ref (m + 5), .ref (m + 6), .ref (m + 7), .int (nI tn), .int (nI (p + 1)), .int (nI S.2), .int (nI ln), .int (nI 0), .int (nI 1)])) := f1
      have sa111 := s1
      clear f1 s1
      have fa112 := (sa111 (m + 6) (by omega)).trans fa108
      have fr113 := offn_in (k := 1) (q := m) fr109 sa111 (by omega)
      have hv114 := (sa111 (m + 1) (by omega)).trans hv110
      refine v_iload_n dX7_order_49 rfl ?_
      refine v_bipush (v := nI 110) dX7_order_50 (by decide) ?_
      refine n_icmp_eq (tgt := 71) (x := 105) (y := 110) dX7_order_52 (by decide) (by decide) (by decide) (fun c => absurd c (by decide)) (fun _ => ?_)
      refine v_aload_n dX7_order_55 rfl ?_
      refine v_iload_n dX7_order_56 rfl ?_
      refine v_bipush (v := nI 119) dX7_order_57 (by decide) ?_
      refine n_icmp_ne (tgt := 66) (x := 105) (y := 119) dX7_order_59 (by decide) (by decide) (by decide) (fun _ => ?_) (fun c => absurd c (by decide))
      refine v_iconst (v := nI 1) dX7_order_66 (by decide) ?_
      refine v_callV (st := []) dX7_order_67 (t_X7_digits1 (s := (true, p + 1)) fa111 fa112 hX hS (by omega)) wX7_195 fa111 rfl rfl ⟨Nat.le_of_ble_eq_true rfl, Nat.le_of_ble_eq_true rfl⟩ (Nat.le_of_ble_eq_true rfl) ⟨Nat.le_of_ble_eq_true rfl, Nat.le_of_ble_eq_true rfl⟩ (fun r n2 h2 hq => ?_)
      obtain ⟨rfl, hn9, fo115, sa115⟩ := hq; replace hn9 := hn9.symm; subst hn9
      refine v_st (st2 := [.int (nI (dvS (txt S.1 S.2) 1 (true, p + 1)))]) rfl ?_
      obtain ⟨s115, hs115⟩ : ∃ z : Bool × Nat, z = sN (txt S.1 S.2) 1 (true, p + 1) := ⟨_, rfl⟩
      rw [← hs115] at fo115
      have hle115 : s115.2 ≤ S.2 := by rw [hs115]; exact sN_le (by show p + 1 ≤ S.2; omega)
      have fa116 := (sa115 (m + 6) (by omega)).trans fa112
      have fr117 := offn_in (k := 1) (q := m) fr113 sa115 (by omega)
      have hv118 := (sa115 (m + 1) (by omega)).trans hv114
      refine v_istore_n dX7_order_70 rfl (by decide) ?_
      refine v_ls (ls2 := [some (.ref m), some (.int (nI 105)), some (.int (nI (dvS (txt S.1 S.2) 1 (true, p + 1)))), some (.int (nI 0)), some (.int (nI 0)), some (.int (nI 0)), none]) rfl ?_
      refine v_iload_n dX7_order_71 rfl ?_
      refine v_bipush (v := nI 112) dX7_order_72 (by decide) ?_
      refine n_icmp_eq (tgt := 83) (x := 105) (y := 112) dX7_order_74 (by decide) (by decide) (by decide) (fun c => absurd c (by decide)) (fun _ => ?_)
      refine v_iload_n dX7_order_77 rfl ?_
      refine v_bipush (v := nI 98) dX7_order_78 (by decide) ?_
      refine n_icmp_ne (tgt := 91) (x := 105) (y := 98) dX7_order_80 (by decide) (by decide) (by decide) (fun _ => ?_) (fun c => absurd c (by decide))
      refine v_iload_n dX7_order_91 rfl ?_
      refine v_bipush (v := nI 112) dX7_order_92 (by decide) ?_
      refine n_icmp_ne (tgt := 106) (x := 105) (y := 112) dX7_order_94 (by decide) (by decide) (by decide) (fun _ => ?_) (fun c => absurd c (by decide))
      refine v_iload_n dX7_order_106 rfl ?_
      refine v_bipush (v := nI 98) dX7_order_107 (by decide) ?_
      refine n_icmp_ne (tgt := 121) (x := 105) (y := 98) dX7_order_109 (by decide) (by decide) (by decide) (fun _ => ?_) (fun c => absurd c (by decide))
      refine v_iload_n dX7_order_121 rfl ?_
      refine v_bipush (v := nI 98) dX7_order_122 (by decide) ?_
      refine n_icmp_ne (tgt := 136) (x := 105) (y := 98) dX7_order_124 (by decide) (by decide) (by decide) (fun _ => ?_) (fun c => absurd c (by decide))
      refine v_iload_n dX7_order_136 rfl ?_
      refine v_bipush (v := nI 120) dX7_order_137 (by decide) ?_
      refine n_icmp_ne (tgt := 147) (x := 105) (y := 120) dX7_order_139 (by decide) (by decide) (by decide) (fun _ => ?_) (fun c => absurd c (by decide))
      refine v_aload_n dX7_order_147 rfl ?_
      refine fX7_185 (v := .int (nI (bI (s115.1 = false)))) rfl dX7_order_148 fo115 rfl ?_
      have hfin : s115.1 = true := by rw [hs115]; rw [hsh] at hok; exact hok
      have hf9 : ¬ s115.1 = false := fun z => by rw [hfin] at z; exact Bool.noConfusion z
      rw [bI_f hf9] at fo115
      refine n_ifb_ne (tgt := 161) (p := s115.1 = false) dX7_order_151 (by decide) (fun z => absurd z hf9) (fun _ => ?_)
      refine v_aload_n dX7_order_154 rfl ?_
      refine fX7_207 (v := .int (nI 1)) rfl dX7_order_155 fo115 rfl ?_
      refine n_if_ne (tgt := 162) (x := 1) dX7_order_158 (by decide) (by decide) (fun _ => ?_) (fun c => absurd c (by decide))
      refine v_aload_n dX7_order_162 rfl ?_
      refine v_iload_n dX7_order_163 rfl ?_
      refine v_iload_n dX7_order_164 rfl ?_
      refine v_iload_n dX7_order_165 rfl ?_
      refine v_iload dX7_order_166 rfl ?_
      refine v_iload dX7_order_168 rfl ?_
      refine v_callV (st := []) dX7_order_170 (t_X7_does5 (one := dvS (txt S.1 S.2) 1 (true, p + 1)) (two := 0) (three := 0) (four := 0) fo115 hv118 hK hb1 hb2 hI) wX7_210 fo115 rfl rfl ⟨Nat.le_of_ble_eq_true rfl, Nat.le_of_ble_eq_true rfl⟩ (Nat.le_of_ble_eq_true rfl) ⟨Nat.le_of_ble_eq_true rfl, Nat.le_of_ble_eq_true rfl⟩ (fun r n2 h2 hq => ?_)
      obtain ⟨rfl, hn9, fo119, hv119, sa119, ok119⟩ := hq; replace hn9 := hn9.symm; subst hn9
      obtain ⟨zz, hzz⟩ : ∃ zz : Int32, zz = (dIns C (nI (dvS (txt S.1 S.2) 1 (true, p + 1)))).1 := ⟨_, rfl⟩
      refine v_st (st2 := [.int zz]) (by rw [hzz]; rfl) ?_
      refine v_istore dX7_order_173 rfl (by decide) ?_
      refine v_ls (ls2 := [some (.ref m), some (.int (nI 105)), some (.int (nI (dvS (txt S.1 S.2) 1 (true, p + 1)))), some (.int (nI 0)), some (.int (nI 0)), some (.int (nI 0)), some (.int zz)]) rfl ?_
      refine v_vret dX7_order_175 rfl ?_ (Nat.le_of_ble_eq_true rfl) (Nat.le_of_ble_eq_true rfl)
      subst hs115
      have eR : dO (txt S.1 S.2) p C = dIns C (nI (oV (txt S.1 S.2) 5 p 0)) := by unfold dO; rw [hsh]; first | done | rfl
      rw [eR, hsh]
      exact ⟨rfl, rfl, fo119, hv119, fun z hz => (sa119 z (by omega)).trans (fr117 z (by omega)), ok119⟩
    · refine v_st (st2 := [.int (nI 97)]) (by rw [hk]) ?_
      refine v_istore_n dX7_order_4 rfl (by decide) ?_
      refine v_ls (ls2 := [some (.ref m), some (.int (nI 97)), none, none, none, none, none]) rfl ?_
      refine v_iconst (v := nI 0) dX7_order_5 (by decide) ?_
      refine v_istore_n dX7_order_6 rfl (by decide) ?_
      refine v_ls (ls2 := [some (.ref m), some (.int (nI 97)), some (.int (nI 0)), none, none, none, none]) rfl ?_
      refine v_iconst (v := nI 0) dX7_order_7 (by decide) ?_
      refine v_istore_n dX7_order_8 rfl (by decide) ?_
      refine v_ls (ls2 := [some (.ref m), some (.int (nI 97)), some (.int (nI 0)), some (.int (nI 0)), none, none, none]) rfl ?_
      refine v_iconst (v := nI 0) dX7_order_9 (by decide) ?_
      refine v_istore dX7_order_10 rfl (by decide) ?_
      refine v_ls (ls2 := [some (.ref m), some (.int (nI 97)), some (.int (nI 0)), some (.int (nI 0)), some (.int (nI 0)), none, none]) rfl ?_
      refine v_iconst (v := nI 0) dX7_order_12 (by decide) ?_
      refine v_istore dX7_order_13 rfl (by decide) ?_
      refine v_ls (ls2 := [some (.ref m), some (.int (nI 97)), some (.int (nI 0)), some (.int (nI 0)), some (.int (nI 0)), some (.int (nI 0)), none]) rfl ?_
      refine v_aload_n dX7_order_15 rfl ?_
      refine v_iload_n dX7_order_16 rfl ?_
      refine v_callS (st := [.ref m]) dX7_order_17 (t_X7_isKnown (c := 97) (by decide)) wX7_198 rfl ⟨Nat.le_of_ble_eq_true rfl, Nat.le_of_ble_eq_true rfl⟩ (Nat.le_of_ble_eq_true rfl) ⟨Nat.le_of_ble_eq_true rfl, Nat.le_of_ble_eq_true rfl⟩ (fun r n2 h2 hq => ?_)
      obtain ⟨rfl, hn9, hh9⟩ := hq; replace hn9 := hn9.symm; subst hn9; replace hh9 := hh9.symm; subst hh9
      refine v_st (st2 := [.int (nI 1), .ref m]) rfl ?_
      refine n_if_ne (tgt := 27) (x := 1) dX7_order_20 (by decide) (by decide) (fun _ => ?_) (fun c => absurd c (by decide))
      refine v_iconst (v := nI 0) dX7_order_27 (by decide) ?_
      refine pX7_185 rfl dX7_order_28 ho (Nat.le_of_ble_eq_true rfl) (by decide) (by decide) ?_
      refine nw (fun h1 f1 s1 => ?_)
      have fa120 : h1 (m) = some (.inr (8, [.int fl, .int (nI ch), .int wy, .int dt, .int (nI sw), .ref (m + 1), .ref (m + 2), .ref (m + 3), .ref (m + 4), .ref (m + 5), .ref (m + 6), .ref (m + 7), .int (nI tn), .int (nI p), .int (nI S.2), .int (nI ln), .int (nI 0), .int (nI 1)])) := f1
      have sa120 := s1
      clear f1 s1
      have fa121 := (sa120 (m + 6) (by omega)).trans htx
      have fr122 := offn_in (k := 1) (q := m) offn_rf sa120 (by omega)
      have hv123 := (sa120 (m + 1) (by omega)).trans hv
      refine v_aload_n dX7_order_31 rfl ?_
      refine fX7_185 (v := .int (nI 0)) rfl dX7_order_32 fa120 rfl ?_
      refine n_if_eq (tgt := 39) (x := 0) dX7_order_35 (by decide) (by decide) (fun _ => ?_) (fun c => absurd c (by decide))
      refine v_aload_n dX7_order_39 rfl ?_
      refine v_dup dX7_order_40 rfl ?_
      refine fX7_179 (v := .int (nI p)) rfl dX7_order_41 fa120 rfl ?_
      refine v_iconst (v := nI 1) dX7_order_44 (by decide) ?_
      refine n_iadd (x := p) (y := 1) dX7_order_45 ?_
      refine pX7_179 rfl dX7_order_46 fa120 (Nat.le_of_ble_eq_true rfl) ?_
      refine nw (fun h1 f1 s1 => ?_)
      have fa124 : h1 (m) = some (.inr (8, [.int fl, .int (nI ch), .int wy, .int dt, .int (nI sw), .ref (m + 1), .ref (m + 2), .ref (m + 3), .ref (m + 4), .ref (m + 5), .ref (m + 6), .ref (m + 7), .int (nI tn), .int (nI (p + 1)), .int (nI S.2), .int (nI ln), .int (nI 0), .int (nI 1)])) := f1
      have sa124 := s1
      clear f1 s1
      have fa125 := (sa124 (m + 6) (by omega)).trans fa121
      have fr126 := offn_in (k := 1) (q := m) fr122 sa124 (by omega)
      have hv127 := (sa124 (m + 1) (by omega)).trans hv123
      refine v_iload_n dX7_order_49 rfl ?_
      refine v_bipush (v := nI 110) dX7_order_50 (by decide) ?_
      refine n_icmp_eq (tgt := 71) (x := 97) (y := 110) dX7_order_52 (by decide) (by decide) (by decide) (fun c => absurd c (by decide)) (fun _ => ?_)
      refine v_aload_n dX7_order_55 rfl ?_
      refine v_iload_n dX7_order_56 rfl ?_
      refine v_bipush (v := nI 119) dX7_order_57 (by decide) ?_
      refine n_icmp_ne (tgt := 66) (x := 97) (y := 119) dX7_order_59 (by decide) (by decide) (by decide) (fun _ => ?_) (fun c => absurd c (by decide))
      refine v_iconst (v := nI 1) dX7_order_66 (by decide) ?_
      refine v_callV (st := []) dX7_order_67 (t_X7_digits1 (s := (true, p + 1)) fa124 fa125 hX hS (by omega)) wX7_195 fa124 rfl rfl ⟨Nat.le_of_ble_eq_true rfl, Nat.le_of_ble_eq_true rfl⟩ (Nat.le_of_ble_eq_true rfl) ⟨Nat.le_of_ble_eq_true rfl, Nat.le_of_ble_eq_true rfl⟩ (fun r n2 h2 hq => ?_)
      obtain ⟨rfl, hn9, fo128, sa128⟩ := hq; replace hn9 := hn9.symm; subst hn9
      refine v_st (st2 := [.int (nI (dvS (txt S.1 S.2) 1 (true, p + 1)))]) rfl ?_
      obtain ⟨s128, hs128⟩ : ∃ z : Bool × Nat, z = sN (txt S.1 S.2) 1 (true, p + 1) := ⟨_, rfl⟩
      rw [← hs128] at fo128
      have hle128 : s128.2 ≤ S.2 := by rw [hs128]; exact sN_le (by show p + 1 ≤ S.2; omega)
      have fa129 := (sa128 (m + 6) (by omega)).trans fa125
      have fr130 := offn_in (k := 1) (q := m) fr126 sa128 (by omega)
      have hv131 := (sa128 (m + 1) (by omega)).trans hv127
      refine v_istore_n dX7_order_70 rfl (by decide) ?_
      refine v_ls (ls2 := [some (.ref m), some (.int (nI 97)), some (.int (nI (dvS (txt S.1 S.2) 1 (true, p + 1)))), some (.int (nI 0)), some (.int (nI 0)), some (.int (nI 0)), none]) rfl ?_
      refine v_iload_n dX7_order_71 rfl ?_
      refine v_bipush (v := nI 112) dX7_order_72 (by decide) ?_
      refine n_icmp_eq (tgt := 83) (x := 97) (y := 112) dX7_order_74 (by decide) (by decide) (by decide) (fun c => absurd c (by decide)) (fun _ => ?_)
      refine v_iload_n dX7_order_77 rfl ?_
      refine v_bipush (v := nI 98) dX7_order_78 (by decide) ?_
      refine n_icmp_ne (tgt := 91) (x := 97) (y := 98) dX7_order_80 (by decide) (by decide) (by decide) (fun _ => ?_) (fun c => absurd c (by decide))
      refine v_iload_n dX7_order_91 rfl ?_
      refine v_bipush (v := nI 112) dX7_order_92 (by decide) ?_
      refine n_icmp_ne (tgt := 106) (x := 97) (y := 112) dX7_order_94 (by decide) (by decide) (by decide) (fun _ => ?_) (fun c => absurd c (by decide))
      refine v_iload_n dX7_order_106 rfl ?_
      refine v_bipush (v := nI 98) dX7_order_107 (by decide) ?_
      refine n_icmp_ne (tgt := 121) (x := 97) (y := 98) dX7_order_109 (by decide) (by decide) (by decide) (fun _ => ?_) (fun c => absurd c (by decide))
      refine v_iload_n dX7_order_121 rfl ?_
      refine v_bipush (v := nI 98) dX7_order_122 (by decide) ?_
      refine n_icmp_ne (tgt := 136) (x := 97) (y := 98) dX7_order_124 (by decide) (by decide) (by decide) (fun _ => ?_) (fun c => absurd c (by decide))
      refine v_iload_n dX7_order_136 rfl ?_
      refine v_bipush (v := nI 120) dX7_order_137 (by decide) ?_
      refine n_icmp_ne (tgt := 147) (x := 97) (y := 120) dX7_order_139 (by decide) (by decide) (by decide) (fun _ => ?_) (fun c => absurd c (by decide))
      refine v_aload_n dX7_order_147 rfl ?_
      refine fX7_185 (v := .int (nI (bI (s128.1 = false)))) rfl dX7_order_148 fo128 rfl ?_
      have hfin : s128.1 = true := by rw [hs128]; rw [hsh] at hok; exact hok
      have hf9 : ¬ s128.1 = false := fun z => by rw [hfin] at z; exact Bool.noConfusion z
      rw [bI_f hf9] at fo128
      refine n_ifb_ne (tgt := 161) (p := s128.1 = false) dX7_order_151 (by decide) (fun z => absurd z hf9) (fun _ => ?_)
      refine v_aload_n dX7_order_154 rfl ?_
      refine fX7_207 (v := .int (nI 1)) rfl dX7_order_155 fo128 rfl ?_
      refine n_if_ne (tgt := 162) (x := 1) dX7_order_158 (by decide) (by decide) (fun _ => ?_) (fun c => absurd c (by decide))
      refine v_aload_n dX7_order_162 rfl ?_
      refine v_iload_n dX7_order_163 rfl ?_
      refine v_iload_n dX7_order_164 rfl ?_
      refine v_iload_n dX7_order_165 rfl ?_
      refine v_iload dX7_order_166 rfl ?_
      refine v_iload dX7_order_168 rfl ?_
      refine v_callV (st := []) dX7_order_170 (t_X7_does6 (one := dvS (txt S.1 S.2) 1 (true, p + 1)) (two := 0) (three := 0) (four := 0) fo128 hv131 hK hb1 hb2 hI) wX7_210 fo128 rfl rfl ⟨Nat.le_of_ble_eq_true rfl, Nat.le_of_ble_eq_true rfl⟩ (Nat.le_of_ble_eq_true rfl) ⟨Nat.le_of_ble_eq_true rfl, Nat.le_of_ble_eq_true rfl⟩ (fun r n2 h2 hq => ?_)
      obtain ⟨rfl, hn9, fo132, hv132, sa132, ok132⟩ := hq; replace hn9 := hn9.symm; subst hn9
      obtain ⟨zz, hzz⟩ : ∃ zz : Int32, zz = (dAud C (nI (dvS (txt S.1 S.2) 1 (true, p + 1)))).1 := ⟨_, rfl⟩
      refine v_st (st2 := [.int zz]) (by rw [hzz]; rfl) ?_
      refine v_istore dX7_order_173 rfl (by decide) ?_
      refine v_ls (ls2 := [some (.ref m), some (.int (nI 97)), some (.int (nI (dvS (txt S.1 S.2) 1 (true, p + 1)))), some (.int (nI 0)), some (.int (nI 0)), some (.int (nI 0)), some (.int zz)]) rfl ?_
      refine v_vret dX7_order_175 rfl ?_ (Nat.le_of_ble_eq_true rfl) (Nat.le_of_ble_eq_true rfl)
      subst hs128
      have eR : dO (txt S.1 S.2) p C = dAud C (nI (oV (txt S.1 S.2) 6 p 0)) := by unfold dO; rw [hsh]; first | done | rfl
      rw [eR, hsh]
      exact ⟨rfl, rfl, fo132, hv132, fun z hz => (sa132 z (by omega)).trans (fr130 z (by omega)), ok132⟩
    · refine v_st (st2 := [.int (nI 120)]) (by rw [hk]) ?_
      refine v_istore_n dX7_order_4 rfl (by decide) ?_
      refine v_ls (ls2 := [some (.ref m), some (.int (nI 120)), none, none, none, none, none]) rfl ?_
      refine v_iconst (v := nI 0) dX7_order_5 (by decide) ?_
      refine v_istore_n dX7_order_6 rfl (by decide) ?_
      refine v_ls (ls2 := [some (.ref m), some (.int (nI 120)), some (.int (nI 0)), none, none, none, none]) rfl ?_
      refine v_iconst (v := nI 0) dX7_order_7 (by decide) ?_
      refine v_istore_n dX7_order_8 rfl (by decide) ?_
      refine v_ls (ls2 := [some (.ref m), some (.int (nI 120)), some (.int (nI 0)), some (.int (nI 0)), none, none, none]) rfl ?_
      refine v_iconst (v := nI 0) dX7_order_9 (by decide) ?_
      refine v_istore dX7_order_10 rfl (by decide) ?_
      refine v_ls (ls2 := [some (.ref m), some (.int (nI 120)), some (.int (nI 0)), some (.int (nI 0)), some (.int (nI 0)), none, none]) rfl ?_
      refine v_iconst (v := nI 0) dX7_order_12 (by decide) ?_
      refine v_istore dX7_order_13 rfl (by decide) ?_
      refine v_ls (ls2 := [some (.ref m), some (.int (nI 120)), some (.int (nI 0)), some (.int (nI 0)), some (.int (nI 0)), some (.int (nI 0)), none]) rfl ?_
      refine v_aload_n dX7_order_15 rfl ?_
      refine v_iload_n dX7_order_16 rfl ?_
      refine v_callS (st := [.ref m]) dX7_order_17 (t_X7_isKnown (c := 120) (by decide)) wX7_198 rfl ⟨Nat.le_of_ble_eq_true rfl, Nat.le_of_ble_eq_true rfl⟩ (Nat.le_of_ble_eq_true rfl) ⟨Nat.le_of_ble_eq_true rfl, Nat.le_of_ble_eq_true rfl⟩ (fun r n2 h2 hq => ?_)
      obtain ⟨rfl, hn9, hh9⟩ := hq; replace hn9 := hn9.symm; subst hn9; replace hh9 := hh9.symm; subst hh9
      refine v_st (st2 := [.int (nI 1), .ref m]) rfl ?_
      refine n_if_ne (tgt := 27) (x := 1) dX7_order_20 (by decide) (by decide) (fun _ => ?_) (fun c => absurd c (by decide))
      refine v_iconst (v := nI 0) dX7_order_27 (by decide) ?_
      refine pX7_185 rfl dX7_order_28 ho (Nat.le_of_ble_eq_true rfl) (by decide) (by decide) ?_
      refine nw (fun h1 f1 s1 => ?_)
      have fa133 : h1 (m) = some (.inr (8, [.int fl, .int (nI ch), .int wy, .int dt, .int (nI sw), .ref (m + 1), .ref (m + 2), .ref (m + 3), .ref (m + 4), .ref (m + 5), .ref (m + 6), .ref (m + 7), .int (nI tn), .int (nI p), .int (nI S.2), .int (nI ln), .int (nI 0), .int (nI 1)])) := f1
      have sa133 := s1
      clear f1 s1
      have fa134 := (sa133 (m + 6) (by omega)).trans htx
      have fr135 := offn_in (k := 1) (q := m) offn_rf sa133 (by omega)
      have hv136 := (sa133 (m + 1) (by omega)).trans hv
      refine v_aload_n dX7_order_31 rfl ?_
      refine fX7_185 (v := .int (nI 0)) rfl dX7_order_32 fa133 rfl ?_
      refine n_if_eq (tgt := 39) (x := 0) dX7_order_35 (by decide) (by decide) (fun _ => ?_) (fun c => absurd c (by decide))
      refine v_aload_n dX7_order_39 rfl ?_
      refine v_dup dX7_order_40 rfl ?_
      refine fX7_179 (v := .int (nI p)) rfl dX7_order_41 fa133 rfl ?_
      refine v_iconst (v := nI 1) dX7_order_44 (by decide) ?_
      refine n_iadd (x := p) (y := 1) dX7_order_45 ?_
      refine pX7_179 rfl dX7_order_46 fa133 (Nat.le_of_ble_eq_true rfl) ?_
      refine nw (fun h1 f1 s1 => ?_)
      have fa137 : h1 (m) = some (.inr (8, [.int fl, .int (nI ch), .int wy, .int dt, .int (nI sw), .ref (m + 1), .ref (m + 2), .ref (m + 3), .ref (m + 4), .ref (m + 5), .ref (m + 6), .ref (m + 7), .int (nI tn), .int (nI (p + 1)), .int (nI S.2), .int (nI ln), .int (nI 0), .int (nI 1)])) := f1
      have sa137 := s1
      clear f1 s1
      have fa138 := (sa137 (m + 6) (by omega)).trans fa134
      have fr139 := offn_in (k := 1) (q := m) fr135 sa137 (by omega)
      have hv140 := (sa137 (m + 1) (by omega)).trans hv136
      refine v_iload_n dX7_order_49 rfl ?_
      refine v_bipush (v := nI 110) dX7_order_50 (by decide) ?_
      refine n_icmp_eq (tgt := 71) (x := 120) (y := 110) dX7_order_52 (by decide) (by decide) (by decide) (fun c => absurd c (by decide)) (fun _ => ?_)
      refine v_aload_n dX7_order_55 rfl ?_
      refine v_iload_n dX7_order_56 rfl ?_
      refine v_bipush (v := nI 119) dX7_order_57 (by decide) ?_
      refine n_icmp_ne (tgt := 66) (x := 120) (y := 119) dX7_order_59 (by decide) (by decide) (by decide) (fun _ => ?_) (fun c => absurd c (by decide))
      refine v_iconst (v := nI 1) dX7_order_66 (by decide) ?_
      refine v_callV (st := []) dX7_order_67 (t_X7_digits1 (s := (true, p + 1)) fa137 fa138 hX hS (by omega)) wX7_195 fa137 rfl rfl ⟨Nat.le_of_ble_eq_true rfl, Nat.le_of_ble_eq_true rfl⟩ (Nat.le_of_ble_eq_true rfl) ⟨Nat.le_of_ble_eq_true rfl, Nat.le_of_ble_eq_true rfl⟩ (fun r n2 h2 hq => ?_)
      obtain ⟨rfl, hn9, fo141, sa141⟩ := hq; replace hn9 := hn9.symm; subst hn9
      refine v_st (st2 := [.int (nI (dvS (txt S.1 S.2) 1 (true, p + 1)))]) rfl ?_
      obtain ⟨s141, hs141⟩ : ∃ z : Bool × Nat, z = sN (txt S.1 S.2) 1 (true, p + 1) := ⟨_, rfl⟩
      rw [← hs141] at fo141
      have hle141 : s141.2 ≤ S.2 := by rw [hs141]; exact sN_le (by show p + 1 ≤ S.2; omega)
      have fa142 := (sa141 (m + 6) (by omega)).trans fa138
      have fr143 := offn_in (k := 1) (q := m) fr139 sa141 (by omega)
      have hv144 := (sa141 (m + 1) (by omega)).trans hv140
      refine v_istore_n dX7_order_70 rfl (by decide) ?_
      refine v_ls (ls2 := [some (.ref m), some (.int (nI 120)), some (.int (nI (dvS (txt S.1 S.2) 1 (true, p + 1)))), some (.int (nI 0)), some (.int (nI 0)), some (.int (nI 0)), none]) rfl ?_
      refine v_iload_n dX7_order_71 rfl ?_
      refine v_bipush (v := nI 112) dX7_order_72 (by decide) ?_
      refine n_icmp_eq (tgt := 83) (x := 120) (y := 112) dX7_order_74 (by decide) (by decide) (by decide) (fun c => absurd c (by decide)) (fun _ => ?_)
      refine v_iload_n dX7_order_77 rfl ?_
      refine v_bipush (v := nI 98) dX7_order_78 (by decide) ?_
      refine n_icmp_ne (tgt := 91) (x := 120) (y := 98) dX7_order_80 (by decide) (by decide) (by decide) (fun _ => ?_) (fun c => absurd c (by decide))
      refine v_iload_n dX7_order_91 rfl ?_
      refine v_bipush (v := nI 112) dX7_order_92 (by decide) ?_
      refine n_icmp_ne (tgt := 106) (x := 120) (y := 112) dX7_order_94 (by decide) (by decide) (by decide) (fun _ => ?_) (fun c => absurd c (by decide))
      refine v_iload_n dX7_order_106 rfl ?_
      refine v_bipush (v := nI 98) dX7_order_107 (by decide) ?_
      refine n_icmp_ne (tgt := 121) (x := 120) (y := 98) dX7_order_109 (by decide) (by decide) (by decide) (fun _ => ?_) (fun c => absurd c (by decide))
      refine v_iload_n dX7_order_121 rfl ?_
      refine v_bipush (v := nI 98) dX7_order_122 (by decide) ?_
      refine n_icmp_ne (tgt := 136) (x := 120) (y := 98) dX7_order_124 (by decide) (by decide) (by decide) (fun _ => ?_) (fun c => absurd c (by decide))
      refine v_iload_n dX7_order_136 rfl ?_
      refine v_bipush (v := nI 120) dX7_order_137 (by decide) ?_
      refine n_icmp_ne (tgt := 147) (x := 120) (y := 120) dX7_order_139 (by decide) (by decide) (by decide) (fun c => absurd c (by decide)) (fun _ => ?_)
      refine v_aload_n dX7_order_142 rfl ?_
      refine v_callV (st := []) dX7_order_143 (t_X7_plus (s := s141) fo141 fa142 hX hS (by omega)) wX7_204 fo141 rfl rfl ⟨Nat.le_of_ble_eq_true rfl, Nat.le_of_ble_eq_true rfl⟩ (Nat.le_of_ble_eq_true rfl) ⟨Nat.le_of_ble_eq_true rfl, Nat.le_of_ble_eq_true rfl⟩ (fun r n2 h2 hq => ?_)
      obtain ⟨rfl, hn9, fo145, sa145⟩ := hq; replace hn9 := hn9.symm; subst hn9
      refine v_st (st2 := [.int (nI (bI ((txt S.1 S.2) s141.2 = 43)))]) rfl ?_
      obtain ⟨s145, hs145⟩ : ∃ z : Bool × Nat, z = sPM (txt S.1 S.2) s141 := ⟨_, rfl⟩
      rw [← hs145] at fo145
      have hle145 : s145.2 ≤ S.2 := by rw [hs145]; exact sPM_le (by omega)
      have fa146 := (sa145 (m + 6) (by omega)).trans fa142
      have fr147 := offn_in (k := 1) (q := m) fr143 sa145 (by omega)
      have hv148 := (sa145 (m + 1) (by omega)).trans hv144
      refine v_istore_n dX7_order_146 rfl (by decide) ?_
      refine v_ls (ls2 := [some (.ref m), some (.int (nI 120)), some (.int (nI (dvS (txt S.1 S.2) 1 (true, p + 1)))), some (.int (nI (bI ((txt S.1 S.2) s141.2 = 43)))), some (.int (nI 0)), some (.int (nI 0)), none]) rfl ?_
      refine v_aload_n dX7_order_147 rfl ?_
      refine fX7_185 (v := .int (nI (bI (s145.1 = false)))) rfl dX7_order_148 fo145 rfl ?_
      have hfin : s145.1 = true := by rw [hs145]; rw [hs141]; rw [hsh] at hok; exact hok
      have hf9 : ¬ s145.1 = false := fun z => by rw [hfin] at z; exact Bool.noConfusion z
      rw [bI_f hf9] at fo145
      refine n_ifb_ne (tgt := 161) (p := s145.1 = false) dX7_order_151 (by decide) (fun z => absurd z hf9) (fun _ => ?_)
      refine v_aload_n dX7_order_154 rfl ?_
      refine fX7_207 (v := .int (nI 1)) rfl dX7_order_155 fo145 rfl ?_
      refine n_if_ne (tgt := 162) (x := 1) dX7_order_158 (by decide) (by decide) (fun _ => ?_) (fun c => absurd c (by decide))
      refine v_aload_n dX7_order_162 rfl ?_
      refine v_iload_n dX7_order_163 rfl ?_
      refine v_iload_n dX7_order_164 rfl ?_
      refine v_iload_n dX7_order_165 rfl ?_
      refine v_iload dX7_order_166 rfl ?_
      refine v_iload dX7_order_168 rfl ?_
      refine v_callV (st := []) dX7_order_170 (t_X7_does7 (one := dvS (txt S.1 S.2) 1 (true, p + 1)) (two := bI ((txt S.1 S.2) s141.2 = 43)) (three := 0) (four := 0) fo145 hv148 hK hb1 hb2 hI) wX7_210 fo145 rfl rfl ⟨Nat.le_of_ble_eq_true rfl, Nat.le_of_ble_eq_true rfl⟩ (Nat.le_of_ble_eq_true rfl) ⟨Nat.le_of_ble_eq_true rfl, Nat.le_of_ble_eq_true rfl⟩ (fun r n2 h2 hq => ?_)
      obtain ⟨rfl, hn9, fo149, hv149, sa149, ok149⟩ := hq; replace hn9 := hn9.symm; subst hn9
      obtain ⟨zz, hzz⟩ : ∃ zz : Int32, zz = (dExe C (nI (dvS (txt S.1 S.2) 1 (true, p + 1))) (nI (bI ((txt S.1 S.2) s141.2 = 43)))).1 := ⟨_, rfl⟩
      refine v_st (st2 := [.int zz]) (by rw [hzz]; rfl) ?_
      refine v_istore dX7_order_173 rfl (by decide) ?_
      refine v_ls (ls2 := [some (.ref m), some (.int (nI 120)), some (.int (nI (dvS (txt S.1 S.2) 1 (true, p + 1)))), some (.int (nI (bI ((txt S.1 S.2) s141.2 = 43)))), some (.int (nI 0)), some (.int (nI 0)), some (.int zz)]) rfl ?_
      refine v_vret dX7_order_175 rfl ?_ (Nat.le_of_ble_eq_true rfl) (Nat.le_of_ble_eq_true rfl)
      subst hs145
      subst hs141
      have eR : dO (txt S.1 S.2) p C = dExe C (nI (oV (txt S.1 S.2) 7 p 0)) (nI (oV (txt S.1 S.2) 7 p 1)) := by unfold dO; rw [hsh]; first | done | rfl
      rw [eR, hsh]
      exact ⟨rfl, rfl, fo149, hv149, fun z hz => (sa149 z (by omega)).trans (fr147 z (by omega)), ok149⟩
    · refine v_st (st2 := [.int (nI 119)]) (by rw [hk]) ?_
      refine v_istore_n dX7_order_4 rfl (by decide) ?_
      refine v_ls (ls2 := [some (.ref m), some (.int (nI 119)), none, none, none, none, none]) rfl ?_
      refine v_iconst (v := nI 0) dX7_order_5 (by decide) ?_
      refine v_istore_n dX7_order_6 rfl (by decide) ?_
      refine v_ls (ls2 := [some (.ref m), some (.int (nI 119)), some (.int (nI 0)), none, none, none, none]) rfl ?_
      refine v_iconst (v := nI 0) dX7_order_7 (by decide) ?_
      refine v_istore_n dX7_order_8 rfl (by decide) ?_
      refine v_ls (ls2 := [some (.ref m), some (.int (nI 119)), some (.int (nI 0)), some (.int (nI 0)), none, none, none]) rfl ?_
      refine v_iconst (v := nI 0) dX7_order_9 (by decide) ?_
      refine v_istore dX7_order_10 rfl (by decide) ?_
      refine v_ls (ls2 := [some (.ref m), some (.int (nI 119)), some (.int (nI 0)), some (.int (nI 0)), some (.int (nI 0)), none, none]) rfl ?_
      refine v_iconst (v := nI 0) dX7_order_12 (by decide) ?_
      refine v_istore dX7_order_13 rfl (by decide) ?_
      refine v_ls (ls2 := [some (.ref m), some (.int (nI 119)), some (.int (nI 0)), some (.int (nI 0)), some (.int (nI 0)), some (.int (nI 0)), none]) rfl ?_
      refine v_aload_n dX7_order_15 rfl ?_
      refine v_iload_n dX7_order_16 rfl ?_
      refine v_callS (st := [.ref m]) dX7_order_17 (t_X7_isKnown (c := 119) (by decide)) wX7_198 rfl ⟨Nat.le_of_ble_eq_true rfl, Nat.le_of_ble_eq_true rfl⟩ (Nat.le_of_ble_eq_true rfl) ⟨Nat.le_of_ble_eq_true rfl, Nat.le_of_ble_eq_true rfl⟩ (fun r n2 h2 hq => ?_)
      obtain ⟨rfl, hn9, hh9⟩ := hq; replace hn9 := hn9.symm; subst hn9; replace hh9 := hh9.symm; subst hh9
      refine v_st (st2 := [.int (nI 1), .ref m]) rfl ?_
      refine n_if_ne (tgt := 27) (x := 1) dX7_order_20 (by decide) (by decide) (fun _ => ?_) (fun c => absurd c (by decide))
      refine v_iconst (v := nI 0) dX7_order_27 (by decide) ?_
      refine pX7_185 rfl dX7_order_28 ho (Nat.le_of_ble_eq_true rfl) (by decide) (by decide) ?_
      refine nw (fun h1 f1 s1 => ?_)
      have fa150 : h1 (m) = some (.inr (8, [.int fl, .int (nI ch), .int wy, .int dt, .int (nI sw), .ref (m + 1), .ref (m + 2), .ref (m + 3), .ref (m + 4), .ref (m + 5), .ref (m + 6), .ref (m + 7), .int (nI tn), .int (nI p), .int (nI S.2), .int (nI ln), .int (nI 0), .int (nI 1)])) := f1
      have sa150 := s1
      clear f1 s1
      have fa151 := (sa150 (m + 6) (by omega)).trans htx
      have fr152 := offn_in (k := 1) (q := m) offn_rf sa150 (by omega)
      have hv153 := (sa150 (m + 1) (by omega)).trans hv
      refine v_aload_n dX7_order_31 rfl ?_
      refine fX7_185 (v := .int (nI 0)) rfl dX7_order_32 fa150 rfl ?_
      refine n_if_eq (tgt := 39) (x := 0) dX7_order_35 (by decide) (by decide) (fun _ => ?_) (fun c => absurd c (by decide))
      refine v_aload_n dX7_order_39 rfl ?_
      refine v_dup dX7_order_40 rfl ?_
      refine fX7_179 (v := .int (nI p)) rfl dX7_order_41 fa150 rfl ?_
      refine v_iconst (v := nI 1) dX7_order_44 (by decide) ?_
      refine n_iadd (x := p) (y := 1) dX7_order_45 ?_
      refine pX7_179 rfl dX7_order_46 fa150 (Nat.le_of_ble_eq_true rfl) ?_
      refine nw (fun h1 f1 s1 => ?_)
      have fa154 : h1 (m) = some (.inr (8, [.int fl, .int (nI ch), .int wy, .int dt, .int (nI sw), .ref (m + 1), .ref (m + 2), .ref (m + 3), .ref (m + 4), .ref (m + 5), .ref (m + 6), .ref (m + 7), .int (nI tn), .int (nI (p + 1)), .int (nI S.2), .int (nI ln), .int (nI 0), .int (nI 1)])) := f1
      have sa154 := s1
      clear f1 s1
      have fa155 := (sa154 (m + 6) (by omega)).trans fa151
      have fr156 := offn_in (k := 1) (q := m) fr152 sa154 (by omega)
      have hv157 := (sa154 (m + 1) (by omega)).trans hv153
      refine v_iload_n dX7_order_49 rfl ?_
      refine v_bipush (v := nI 110) dX7_order_50 (by decide) ?_
      refine n_icmp_eq (tgt := 71) (x := 119) (y := 110) dX7_order_52 (by decide) (by decide) (by decide) (fun c => absurd c (by decide)) (fun _ => ?_)
      refine v_aload_n dX7_order_55 rfl ?_
      refine v_iload_n dX7_order_56 rfl ?_
      refine v_bipush (v := nI 119) dX7_order_57 (by decide) ?_
      refine n_icmp_ne (tgt := 66) (x := 119) (y := 119) dX7_order_59 (by decide) (by decide) (by decide) (fun c => absurd c (by decide)) (fun _ => ?_)
      refine v_iconst (v := nI 2) dX7_order_62 (by decide) ?_
      refine v_goto (tgt := 67) dX7_order_63 (by decide) ?_
      refine v_callV (st := []) dX7_order_67 (t_X7_digits2 (s := (true, p + 1)) fa154 fa155 hX hS (by omega)) wX7_195 fa154 rfl rfl ⟨Nat.le_of_ble_eq_true rfl, Nat.le_of_ble_eq_true rfl⟩ (Nat.le_of_ble_eq_true rfl) ⟨Nat.le_of_ble_eq_true rfl, Nat.le_of_ble_eq_true rfl⟩ (fun r n2 h2 hq => ?_)
      obtain ⟨rfl, hn9, fo158, sa158⟩ := hq; replace hn9 := hn9.symm; subst hn9
      refine v_st (st2 := [.int (nI (dvS (txt S.1 S.2) 2 (true, p + 1)))]) rfl ?_
      obtain ⟨s158, hs158⟩ : ∃ z : Bool × Nat, z = sN (txt S.1 S.2) 2 (true, p + 1) := ⟨_, rfl⟩
      rw [← hs158] at fo158
      have hle158 : s158.2 ≤ S.2 := by rw [hs158]; exact sN_le (by show p + 1 ≤ S.2; omega)
      have fa159 := (sa158 (m + 6) (by omega)).trans fa155
      have fr160 := offn_in (k := 1) (q := m) fr156 sa158 (by omega)
      have hv161 := (sa158 (m + 1) (by omega)).trans hv157
      refine v_istore_n dX7_order_70 rfl (by decide) ?_
      refine v_ls (ls2 := [some (.ref m), some (.int (nI 119)), some (.int (nI (dvS (txt S.1 S.2) 2 (true, p + 1)))), some (.int (nI 0)), some (.int (nI 0)), some (.int (nI 0)), none]) rfl ?_
      refine v_iload_n dX7_order_71 rfl ?_
      refine v_bipush (v := nI 112) dX7_order_72 (by decide) ?_
      refine n_icmp_eq (tgt := 83) (x := 119) (y := 112) dX7_order_74 (by decide) (by decide) (by decide) (fun c => absurd c (by decide)) (fun _ => ?_)
      refine v_iload_n dX7_order_77 rfl ?_
      refine v_bipush (v := nI 98) dX7_order_78 (by decide) ?_
      refine n_icmp_ne (tgt := 91) (x := 119) (y := 98) dX7_order_80 (by decide) (by decide) (by decide) (fun _ => ?_) (fun c => absurd c (by decide))
      refine v_iload_n dX7_order_91 rfl ?_
      refine v_bipush (v := nI 112) dX7_order_92 (by decide) ?_
      refine n_icmp_ne (tgt := 106) (x := 119) (y := 112) dX7_order_94 (by decide) (by decide) (by decide) (fun _ => ?_) (fun c => absurd c (by decide))
      refine v_iload_n dX7_order_106 rfl ?_
      refine v_bipush (v := nI 98) dX7_order_107 (by decide) ?_
      refine n_icmp_ne (tgt := 121) (x := 119) (y := 98) dX7_order_109 (by decide) (by decide) (by decide) (fun _ => ?_) (fun c => absurd c (by decide))
      refine v_iload_n dX7_order_121 rfl ?_
      refine v_bipush (v := nI 98) dX7_order_122 (by decide) ?_
      refine n_icmp_ne (tgt := 136) (x := 119) (y := 98) dX7_order_124 (by decide) (by decide) (by decide) (fun _ => ?_) (fun c => absurd c (by decide))
      refine v_iload_n dX7_order_136 rfl ?_
      refine v_bipush (v := nI 120) dX7_order_137 (by decide) ?_
      refine n_icmp_ne (tgt := 147) (x := 119) (y := 120) dX7_order_139 (by decide) (by decide) (by decide) (fun _ => ?_) (fun c => absurd c (by decide))
      refine v_aload_n dX7_order_147 rfl ?_
      refine fX7_185 (v := .int (nI (bI (s158.1 = false)))) rfl dX7_order_148 fo158 rfl ?_
      have hfin : s158.1 = true := by rw [hs158]; rw [hsh] at hok; exact hok
      have hf9 : ¬ s158.1 = false := fun z => by rw [hfin] at z; exact Bool.noConfusion z
      rw [bI_f hf9] at fo158
      refine n_ifb_ne (tgt := 161) (p := s158.1 = false) dX7_order_151 (by decide) (fun z => absurd z hf9) (fun _ => ?_)
      refine v_aload_n dX7_order_154 rfl ?_
      refine fX7_207 (v := .int (nI 1)) rfl dX7_order_155 fo158 rfl ?_
      refine n_if_ne (tgt := 162) (x := 1) dX7_order_158 (by decide) (by decide) (fun _ => ?_) (fun c => absurd c (by decide))
      refine v_aload_n dX7_order_162 rfl ?_
      refine v_iload_n dX7_order_163 rfl ?_
      refine v_iload_n dX7_order_164 rfl ?_
      refine v_iload_n dX7_order_165 rfl ?_
      refine v_iload dX7_order_166 rfl ?_
      refine v_iload dX7_order_168 rfl ?_
      refine v_callV (st := []) dX7_order_170 (t_X7_does8 (one := dvS (txt S.1 S.2) 2 (true, p + 1)) (two := 0) (three := 0) (four := 0) fo158 hv161 hK hb1 hb2 hI) wX7_210 fo158 rfl rfl ⟨Nat.le_of_ble_eq_true rfl, Nat.le_of_ble_eq_true rfl⟩ (Nat.le_of_ble_eq_true rfl) ⟨Nat.le_of_ble_eq_true rfl, Nat.le_of_ble_eq_true rfl⟩ (fun r n2 h2 hq => ?_)
      obtain ⟨rfl, hn9, fo162, hv162, sa162, ok162⟩ := hq; replace hn9 := hn9.symm; subst hn9
      obtain ⟨zz, hzz⟩ : ∃ zz : Int32, zz = (dPass C (nI (dvS (txt S.1 S.2) 2 (true, p + 1)))).1 := ⟨_, rfl⟩
      refine v_st (st2 := [.int zz]) (by rw [hzz]; rfl) ?_
      refine v_istore dX7_order_173 rfl (by decide) ?_
      refine v_ls (ls2 := [some (.ref m), some (.int (nI 119)), some (.int (nI (dvS (txt S.1 S.2) 2 (true, p + 1)))), some (.int (nI 0)), some (.int (nI 0)), some (.int (nI 0)), some (.int zz)]) rfl ?_
      refine v_vret dX7_order_175 rfl ?_ (Nat.le_of_ble_eq_true rfl) (Nat.le_of_ble_eq_true rfl)
      subst hs158
      have eR : dO (txt S.1 S.2) p C = dPass C (nI (oV (txt S.1 S.2) 8 p 0)) := by unfold dO; rw [hsh]; first | done | rfl
      rw [eR, hsh]
      exact ⟨rfl, rfl, fo162, hv162, fun z hz => (sa162 z (by omega)).trans (fr160 z (by omega)), ok162⟩
    · refine v_istore_n dX7_order_4 rfl (by decide) ?_
      refine v_ls (ls2 := [some (.ref m), some (.int (nI ((txt S.1 S.2) p))), none, none, none, none, none]) rfl ?_
      refine v_iconst (v := nI 0) dX7_order_5 (by decide) ?_
      refine v_istore_n dX7_order_6 rfl (by decide) ?_
      refine v_ls (ls2 := [some (.ref m), some (.int (nI ((txt S.1 S.2) p))), some (.int (nI 0)), none, none, none, none]) rfl ?_
      refine v_iconst (v := nI 0) dX7_order_7 (by decide) ?_
      refine v_istore_n dX7_order_8 rfl (by decide) ?_
      refine v_ls (ls2 := [some (.ref m), some (.int (nI ((txt S.1 S.2) p))), some (.int (nI 0)), some (.int (nI 0)), none, none, none]) rfl ?_
      refine v_iconst (v := nI 0) dX7_order_9 (by decide) ?_
      refine v_istore dX7_order_10 rfl (by decide) ?_
      refine v_ls (ls2 := [some (.ref m), some (.int (nI ((txt S.1 S.2) p))), some (.int (nI 0)), some (.int (nI 0)), some (.int (nI 0)), none, none]) rfl ?_
      refine v_iconst (v := nI 0) dX7_order_12 (by decide) ?_
      refine v_istore dX7_order_13 rfl (by decide) ?_
      refine v_ls (ls2 := [some (.ref m), some (.int (nI ((txt S.1 S.2) p))), some (.int (nI 0)), some (.int (nI 0)), some (.int (nI 0)), some (.int (nI 0)), none]) rfl ?_
      refine v_aload_n dX7_order_15 rfl ?_
      refine v_iload_n dX7_order_16 rfl ?_
      refine v_callS (st := [.ref m]) dX7_order_17 (t_X7_isKnown (c := (txt S.1 S.2) p) (by omega)) wX7_198 rfl ⟨Nat.le_of_ble_eq_true rfl, Nat.le_of_ble_eq_true rfl⟩ (Nat.le_of_ble_eq_true rfl) ⟨Nat.le_of_ble_eq_true rfl, Nat.le_of_ble_eq_true rfl⟩ (fun r n2 h2 hq => ?_)
      obtain ⟨rfl, hn9, hh9⟩ := hq; replace hn9 := hn9.symm; subst hn9; replace hh9 := hh9.symm; subst hh9
      refine v_st (st2 := [.int (nI 0), .ref m]) (by rw [hsh]; rfl) ?_
      refine n_if_ne (tgt := 27) (x := 0) dX7_order_20 (by decide) (by decide) (fun c => absurd c (by decide)) (fun _ => ?_)
      refine v_iconst (v := nI 1) dX7_order_23 (by decide) ?_
      refine v_goto (tgt := 28) dX7_order_24 (by decide) ?_
      refine pX7_185 rfl dX7_order_28 ho (Nat.le_of_ble_eq_true rfl) (by decide) (by decide) ?_
      refine nw (fun h1 f1 s1 => ?_)
      have fa163 : h1 (m) = some (.inr (8, [.int fl, .int (nI ch), .int wy, .int dt, .int (nI sw), .ref (m + 1), .ref (m + 2), .ref (m + 3), .ref (m + 4), .ref (m + 5), .ref (m + 6), .ref (m + 7), .int (nI tn), .int (nI p), .int (nI S.2), .int (nI ln), .int (nI 1), .int (nI 1)])) := f1
      have sa163 := s1
      clear f1 s1
      have fa164 := (sa163 (m + 6) (by omega)).trans htx
      have fr165 := offn_in (k := 1) (q := m) offn_rf sa163 (by omega)
      have hv166 := (sa163 (m + 1) (by omega)).trans hv
      rw [hsh] at hok; exact absurd hok Bool.false_ne_true
