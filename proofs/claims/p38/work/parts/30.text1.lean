theorem nI_ch16 {v : Nat} (hv : v < 65536) : (nI v).toUInt32.toUInt16.toUInt32.toInt32 = nI v := by
  have e : (nI v).toUInt32 = UInt32.ofNat v := by
    apply UInt32.toNat_inj.mp
    show (nI v).toBitVec.toNat = _
    show (BitVec.ofNat 32 v).toNat = (UInt32.ofNat v).toNat
    rw [BitVec.toNat_ofNat, UInt32.toNat_ofNat']
  rw [e]
  have e2 : (UInt32.ofNat v).toUInt16.toUInt32 = UInt32.ofNat v := by
    apply UInt32.toNat_inj.mp
    simp only [UInt32.toNat_ofNat', UInt16.toNat_toUInt32, UInt32.toNat_toUInt16]
    omega
  rw [e2, ← e]
  rfl
theorem t_SBlen {l : Launch} {G : vG} {h : AH} {n s a m k mb : Nat} {t : Nat → Nat} (hb : sbP G h s a m t k mb) : Mt l G mJ4_length_8abf5 [.ref s] n h 0 0 (fun r n2 h2 => r = some (.int (nI k)) ∧ n2 = n ∧ h2 = h) := by
  obtain ⟨hs, f, ha, -⟩ := hb
  exact t_J4_length_8abf5 hs ha
theorem sbP_fr {G : vG} {h h1 : AH} {s a m k mb : Nat} {t : Nat → Nat} (hb : sbP G h s a m t k mb) (h1s : h1 s = h s) (h1a : h1 a = h a) : sbP G h1 s a m t k mb := by
  obtain ⟨hs, f, ha, hr⟩ := hb
  exact ⟨h1s.trans hs, f, h1a.trans ha, hr⟩
theorem n_castN {l : Launch} {G : vG} {M : vM} {rc rs : Nat} {Fz : vFin} {pc : Nat} {ls : List (Option Value)} {st : List Value} {n : Nat} {h : AH} {cells slots : Nat} {a k j v : Nat} {f : Nat → Nat} (hd : decode M.2.1 pc = .ok (.castore, 1)) (he : h a = some (.inl (gC G 1, k, .inl (fun i => nI (f i))))) (hj : j < k) (hk : k < 2 ^ 31) (hv : v < 65536) (kk : V l G M rc rs Fz (pc + 1) ls st n (va_up h a (some (.inl (gC G 1, k, .inl (fun i => nI (va_up f j v i)))))) cells slots) : V l G M rc rs Fz pc ls (.int (nI v) :: .int (nI j) :: .ref a :: st) n h cells slots :=
  v_cast hd he (vp_in_nI hj hk) (by rw [nI_clamp (Nat.lt_trans hj hk), vp_nar_char, show (nI v).toUInt32.toUInt16.toUInt32.toInt32 = nI v from nI_ch16 hv, upd_nI]; exact kk)
theorem n_caldN {l : Launch} {G : vG} {M : vM} {rc rs : Nat} {Fz : vFin} {pc : Nat} {ls : List (Option Value)} {st : List Value} {n : Nat} {h : AH} {cells slots : Nat} {a k j : Nat} {f : Nat → Nat} (hd : decode M.2.1 pc = .ok (.caload, 1)) (he : h a = some (.inl (gC G 1, k, .inl (fun i => nI (f i))))) (hj : j < k) (hk : k < 2 ^ 31) (kk : V l G M rc rs Fz (pc + 1) ls (.int (nI (f j)) :: st) n h cells slots) : V l G M rc rs Fz pc ls (.int (nI j) :: .ref a :: st) n h cells slots :=
  v_cald hd he (vp_in_nI hj hk) (by rw [nI_clamp (Nat.lt_trans hj hk)]; exact kk)
