theorem own_eq {C : Ct} {j f : Nat} (h : C 8 j < 2 ^ 28) (hf : f < 2 ^ 28) : ((if hold C j then nI (C 8 j) else (-1015 : Int32)) = nI f) ↔ (hold C j ∧ C 8 j = f) := by
  by_cases z : hold C j
  · rw [if_pos z]
    exact ⟨fun e => ⟨z, (nI_eq (by omega) (by omega)).mp e⟩, fun e => by rw [e.2]⟩
  · rw [if_neg z]
    refine ⟨fun e => ?_, fun e => absurd e.1 z⟩
    have h1 := congrArg Int32.toInt e
    rw [nI_toInt (by omega)] at h1
    have h2 : Int32.toInt (-1015) = -1015 := by decide
    omega
/-- a fool's line without what was paid for -/
def tU (C : Ct) (f : Nat) : Ln := if 0 < C 3 f then wi (wc (wi (wc (wi (wc (wi zL f) 115) (C 1 f)) 36) (C 2 f)) 126) (C 3 f) else wi (wc (wi (wc (wi zL f) 115) (C 1 f)) 36) (C 2 f)
theorem lnE_t {S : Ln} {x : Nat} : lnE (wl S (wi (wl zL (cstL 0)) x)) (wi (wc S 126) x) := by
  refine ⟨by show S.2 + 1 + sb_dg x = S.2 + (0 + 1 + sb_dg x); omega, fun i hi => ?_⟩
  show (if i < S.2 + 1 then (if i < S.2 then S.1 i else 126) else sb_dec x (i - (S.2 + 1))) = (if i < S.2 then S.1 i else (if i - S.2 < 0 + 1 then (if i - S.2 < 0 then 0 else 126) else sb_dec x (i - S.2 - (0 + 1))))
  by_cases h1 : i < S.2
  · rw [if_pos (by omega), if_pos h1, if_pos h1]
  · rw [if_neg h1, if_neg h1]
    by_cases h2 : i < S.2 + 1
    · rw [if_pos h2, if_pos (by omega), if_neg (Nat.not_lt_zero _)]
    · rw [if_neg h2, if_neg (by omega), show i - S.2 - (0 + 1) = i - (S.2 + 1) by omega]
theorem flA_cs {C : Ct} {a b : Nat} (h : flA C a b) : C 3 b < C 3 a ∨ (C 3 a = C 3 b ∧ (C 2 b < C 2 a ∨ (C 2 a = C 2 b ∧ a < b))) := by
  unfold flA at h
  split at h
  · split at h <;> omega
  · omega
def lastF (C : Ct) (f : Nat) : Int32 := if f = 0 then -1 else nI (flR C (f - 1))
abbrev SV (a b : Nat) : UInt32 := FP.fdiv (FP.i2f (nI a)) (FP.i2f (nI b))
theorem sv_ok : ∀ b, b < 50 → 0 < b → ∀ a, a < b + 1 → isNaN32 (SV a b) = false ∧ Op.cmpValue (FP.fcmp (SV a b) (SV a b)) CmpOp.l = 0 := by decide +kernel
theorem f0_ok : Op.cmpValue (FP.fcmp FP.fconst0 FP.fconst0) CmpOp.l = 0 := by decide +kernel
theorem al_eqf {x y : UInt32} (h : alike32 x y = true) (hy : isNaN32 y = false) : x = y := by
  unfold alike32 at h
  simp only [Bool.or_eq_true, Bool.and_eq_true, decide_eq_true_eq] at h
  rcases h with e | ⟨-, e⟩
  · exact e
  · rw [hy] at e; cases e
theorem sm_le2 {F E : Nat → Nat} (h : ∀ f, F f ≤ E f) : ∀ n, sm F n ≤ sm E n
  | 0 => Nat.le_refl _
  | n + 1 => by
    have h1 := sm_le2 h n
    have h2 := h n
    show sm F n + F n ≤ sm E n + E n
    omega
theorem share_ok {b : Nat} {C : Ct} {z w : UInt32} (g : gd b C) (hb : b ≤ 145000) (h0 : ¬ sm (C 5) 6 = 0) (hz : ssz C z) (hw : alike32 w (FP.fdiv (FP.i2f (nI (sm (C 6) (C 0 0)))) (FP.i2f (nI (sm (C 5) (C 0 0))))) = true) : Op.cmpValue (FP.fcmp z w) CmpOp.l = 0 := by
  have hn := g.1.1.1.1
  obtain ⟨-, -, -, -, -, -, -, -, -, -, -, z5, z6, -⟩ := g.1.1
  have e5 : sm (C 5) 6 = sm (C 5) (C 0 0) := sm_tail z5 hn
  have e6 : sm (C 6) 6 = sm (C 6) (C 0 0) := sm_tail z6 hn
  have h1 := sm_le2 g.1.2.2.1 6
  have h2 := g.1.2.2.2.1
  have h3 := g.2.2.1
  obtain ⟨o1, o2⟩ := sv_ok (sm (C 5) 6) (by omega) (by omega) (sm (C 6) 6) (by omega)
  unfold ssz at hz
  rw [if_neg h0] at hz
  rw [← e5, ← e6] at hw
  rw [al_eqf hz o1, al_eqf hw o1]
  exact o2
/-- a cut where the heap may differ -/
theorem v_cutX {l : Launch} {G : vG} {M : vM} {rc rs : Nat} {Fz : vFin} {pc : Nat} {ls : List (Option Value)} {st : List Value} {n : Nat} {h : AH} {cells slots : Nat} (P : Nat → AH → Nat → Nat → Prop) (pc2 : Nat) (ls2 : List (Option Value)) (st2 : List Value) (k1 : ∀ (n2 : Nat) (h2 : AH) (c2 s2 : Nat), P n2 h2 c2 s2 → V l G M rc rs Fz pc2 ls2 st2 n2 h2 c2 s2) (k2 : (∀ (n2 : Nat) (h2 : AH) (c2 s2 : Nat), P n2 h2 c2 s2 → V l G M rc rs Fz pc2 ls2 st2 n2 h2 c2 s2) → V l G M rc rs Fz pc ls st n h cells slots) : V l G M rc rs Fz pc ls st n h cells slots := k2 k1
