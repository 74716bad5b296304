def bI (p : Prop) [Decidable p] : Nat := if p then 1 else 0
theorem bI_lt {p : Prop} [Decidable p] : bI p < 2 := by unfold bI; split <;> decide
theorem bI_t {p : Prop} [Decidable p] (h : p) : bI p = 1 := if_pos h
theorem bI_f {p : Prop} [Decidable p] (h : ¬ p) : bI p = 0 := if_neg h
theorem nI_z : ∀ k, k < 2 → narrow .boolean (.int (nI k)) = .int (nI k) := by decide
theorem nI_zf : ∀ k, k < 2 → fits .boolean (.int (nI k)) = true := by decide
theorem nI_eq0 {a : Nat} (ha : a < 2 ^ 31) : nI a = 0 ↔ a = 0 := (nI_eq (b := 0) ha (by decide))
theorem upd_nI (f : Nat → Nat) (j x : Nat) : upd (fun i => nI (f i)) j (nI x) = fun i => nI (va_up f j x i) := by
  funext i
  unfold upd va_up
  split <;> rfl
theorem nI_up {f : Nat → Nat} {j x : Nat} : va_up f j x j = x := if_pos rfl
theorem nI_un {f : Nat → Nat} {j i x : Nat} (h : i ≠ j) : va_up f j x i = f i := if_neg h
theorem n_iadd {l : Launch} {G : vG} {M : vM} {rc rs : Nat} {Fz : vFin} {pc : Nat} {ls : List (Option Value)} {st : List Value} {n : Nat} {h : AH} {cells slots : Nat} {x y : Nat} (hd : decode M.2.1 pc = .ok (.iadd, 1)) (kk : V l G M rc rs Fz (pc + 1) ls (.int (nI (x + y)) :: st) n h cells slots) : V l G M rc rs Fz pc ls (.int (nI y) :: .int (nI x) :: st) n h cells slots := v_iadd hd (by rw [nI_add]; exact kk)
theorem n_isub {l : Launch} {G : vG} {M : vM} {rc rs : Nat} {Fz : vFin} {pc : Nat} {ls : List (Option Value)} {st : List Value} {n : Nat} {h : AH} {cells slots : Nat} {x y : Nat} (hd : decode M.2.1 pc = .ok (.isub, 1)) (hle : y ≤ x) (kk : V l G M rc rs Fz (pc + 1) ls (.int (nI (x - y)) :: st) n h cells slots) : V l G M rc rs Fz pc ls (.int (nI y) :: .int (nI x) :: st) n h cells slots := v_isub hd (by rw [pk_sub hle]; exact kk)
theorem n_imul {l : Launch} {G : vG} {M : vM} {rc rs : Nat} {Fz : vFin} {pc : Nat} {ls : List (Option Value)} {st : List Value} {n : Nat} {h : AH} {cells slots : Nat} {x y : Nat} (hd : decode M.2.1 pc = .ok (.imul, 1)) (kk : V l G M rc rs Fz (pc + 1) ls (.int (nI (x * y)) :: st) n h cells slots) : V l G M rc rs Fz pc ls (.int (nI y) :: .int (nI x) :: st) n h cells slots := v_imul hd (by rw [pk_mul]; exact kk)
theorem n_idiv {l : Launch} {G : vG} {M : vM} {rc rs : Nat} {Fz : vFin} {pc : Nat} {ls : List (Option Value)} {st : List Value} {n : Nat} {h : AH} {cells slots : Nat} {x y : Nat} (hd : decode M.2.1 pc = .ok (.idiv, 1)) (hx : x < 2 ^ 31) (h0 : 0 < y) (hy : y < 2 ^ 31) (kk : V l G M rc rs Fz (pc + 1) ls (.int (nI (x / y)) :: st) n h cells slots) : V l G M rc rs Fz pc ls (.int (nI y) :: .int (nI x) :: st) n h cells slots := v_idiv hd (nI_ne0 h0 hy) (by rw [pk_div hx h0 hy]; exact kk)
theorem n_irem {l : Launch} {G : vG} {M : vM} {rc rs : Nat} {Fz : vFin} {pc : Nat} {ls : List (Option Value)} {st : List Value} {n : Nat} {h : AH} {cells slots : Nat} {x y : Nat} (hd : decode M.2.1 pc = .ok (.irem, 1)) (hx : x < 2 ^ 31) (h0 : 0 < y) (hy : y < 2 ^ 31) (kk : V l G M rc rs Fz (pc + 1) ls (.int (nI (x % y)) :: st) n h cells slots) : V l G M rc rs Fz pc ls (.int (nI y) :: .int (nI x) :: st) n h cells slots := v_irem hd (nI_ne0 h0 hy) (by rw [pk_rem hx h0 hy]; exact kk)
theorem n_iinc {l : Launch} {G : vG} {M : vM} {rc rs : Nat} {Fz : vFin} {pc : Nat} {ls : List (Option Value)} {st : List Value} {n : Nat} {h : AH} {cells slots : Nat} {i k x : Nat} {z : Int} (hd : decode M.2.1 pc = .ok (.iinc i z, 3)) (hz : Int32.ofInt z = nI k) (hv : ls[i]? = some (some (.int (nI x)))) (h1 : l1 ls = true) (hn : i < M.2.2.1) (kk : V l G M rc rs Fz (pc + 3) (ls.set i (some (.int (nI (x + k))))) (st) n h cells slots) : V l G M rc rs Fz pc ls (st) n h cells slots := v_iinc hd hv h1 hn (by rw [hz, nI_add]; exact kk)
theorem n_idec {l : Launch} {G : vG} {M : vM} {rc rs : Nat} {Fz : vFin} {pc : Nat} {ls : List (Option Value)} {st : List Value} {n : Nat} {h : AH} {cells slots : Nat} {i x : Nat} {z : Int} (hd : decode M.2.1 pc = .ok (.iinc i z, 3)) (hz : Int32.ofInt z = -1) (hv : ls[i]? = some (some (.int (nI (x + 1))))) (h1 : l1 ls = true) (hn : i < M.2.2.1) (kk : V l G M rc rs Fz (pc + 3) (ls.set i (some (.int (nI x)))) (st) n h cells slots) : V l G M rc rs Fz pc ls (st) n h cells slots := v_iinc hd hv h1 hn (by rw [hz, pk_m1]; exact kk)
theorem n_icmp_eq {l : Launch} {G : vG} {M : vM} {rc rs : Nat} {Fz : vFin} {pc : Nat} {ls : List (Option Value)} {st : List Value} {n : Nat} {h : AH} {cells slots : Nat} {x y : Nat} {off : Int} {tgt : Nat} (hd : decode M.2.1 pc = .ok (.if_icmp .eq off, 3)) (ht : (pc : Int) + off = (tgt : Int)) (hx : x < 2 ^ 31) (hy : y < 2 ^ 31) (kt : x = y → V l G M rc rs Fz tgt ls (st) n h cells slots) (kf : x ≠ y → V l G M rc rs Fz (pc + 3) ls (st) n h cells slots) : V l G M rc rs Fz pc ls (.int (nI y) :: .int (nI x) :: st) n h cells slots :=
  v_icmp_eq hd ht (fun z => kt ((nI_eq hx hy).mp z)) (fun z => kf (fun z2 => z ((nI_eq hx hy).mpr z2)))
theorem n_icmp_ne {l : Launch} {G : vG} {M : vM} {rc rs : Nat} {Fz : vFin} {pc : Nat} {ls : List (Option Value)} {st : List Value} {n : Nat} {h : AH} {cells slots : Nat} {x y : Nat} {off : Int} {tgt : Nat} (hd : decode M.2.1 pc = .ok (.if_icmp .ne off, 3)) (ht : (pc : Int) + off = (tgt : Int)) (hx : x < 2 ^ 31) (hy : y < 2 ^ 31) (kt : x ≠ y → V l G M rc rs Fz tgt ls (st) n h cells slots) (kf : x = y → V l G M rc rs Fz (pc + 3) ls (st) n h cells slots) : V l G M rc rs Fz pc ls (.int (nI y) :: .int (nI x) :: st) n h cells slots :=
  v_icmp_ne hd ht (fun z => kt (fun z2 => z ((nI_eq hx hy).mpr z2))) (fun z => kf ((nI_eq hx hy).mp z))
theorem n_icmp_lt {l : Launch} {G : vG} {M : vM} {rc rs : Nat} {Fz : vFin} {pc : Nat} {ls : List (Option Value)} {st : List Value} {n : Nat} {h : AH} {cells slots : Nat} {x y : Nat} {off : Int} {tgt : Nat} (hd : decode M.2.1 pc = .ok (.if_icmp .lt off, 3)) (ht : (pc : Int) + off = (tgt : Int)) (hx : x < 2 ^ 31) (hy : y < 2 ^ 31) (kt : x < y → V l G M rc rs Fz tgt ls (st) n h cells slots) (kf : y ≤ x → V l G M rc rs Fz (pc + 3) ls (st) n h cells slots) : V l G M rc rs Fz pc ls (.int (nI y) :: .int (nI x) :: st) n h cells slots :=
  v_icmp_lt hd ht (fun z => kt ((nI_ltI hx hy).mp z)) (fun z => kf (Nat.not_lt.mp (fun z2 => z ((nI_ltI hx hy).mpr z2))))
theorem n_icmp_ge {l : Launch} {G : vG} {M : vM} {rc rs : Nat} {Fz : vFin} {pc : Nat} {ls : List (Option Value)} {st : List Value} {n : Nat} {h : AH} {cells slots : Nat} {x y : Nat} {off : Int} {tgt : Nat} (hd : decode M.2.1 pc = .ok (.if_icmp .ge off, 3)) (ht : (pc : Int) + off = (tgt : Int)) (hx : x < 2 ^ 31) (hy : y < 2 ^ 31) (kt : y ≤ x → V l G M rc rs Fz tgt ls (st) n h cells slots) (kf : x < y → V l G M rc rs Fz (pc + 3) ls (st) n h cells slots) : V l G M rc rs Fz pc ls (.int (nI y) :: .int (nI x) :: st) n h cells slots :=
  v_icmp_ge hd ht (fun z => kt ((nI_leI hy hx).mp z)) (fun z => kf (Nat.not_le.mp (fun z2 => z ((nI_leI hy hx).mpr z2))))
theorem n_icmp_gt {l : Launch} {G : vG} {M : vM} {rc rs : Nat} {Fz : vFin} {pc : Nat} {ls : List (Option Value)} {st : List Value} {n : Nat} {h : AH} {cells slots : Nat} {x y : Nat} {off : Int} {tgt : Nat} (hd : decode M.2.1 pc = .ok (.if_icmp .gt off, 3)) (ht : (pc : Int) + off = (tgt : Int)) (hx : x < 2 ^ 31) (hy : y < 2 ^ 31) (kt : y < x → V l G M rc rs Fz tgt ls (st) n h cells slots) (kf : x ≤ y → V l G M rc rs Fz (pc + 3) ls (st) n h cells slots) : V l G M rc rs Fz pc ls (.int (nI y) :: .int (nI x) :: st) n h cells slots :=
  v_icmp_gt hd ht (fun z => kt ((nI_ltI hy hx).mp z)) (fun z => kf (Nat.not_lt.mp (fun z2 => z ((nI_ltI hy hx).mpr z2))))
theorem n_icmp_le {l : Launch} {G : vG} {M : vM} {rc rs : Nat} {Fz : vFin} {pc : Nat} {ls : List (Option Value)} {st : List Value} {n : Nat} {h : AH} {cells slots : Nat} {x y : Nat} {off : Int} {tgt : Nat} (hd : decode M.2.1 pc = .ok (.if_icmp .le off, 3)) (ht : (pc : Int) + off = (tgt : Int)) (hx : x < 2 ^ 31) (hy : y < 2 ^ 31) (kt : x ≤ y → V l G M rc rs Fz tgt ls (st) n h cells slots) (kf : y < x → V l G M rc rs Fz (pc + 3) ls (st) n h cells slots) : V l G M rc rs Fz pc ls (.int (nI y) :: .int (nI x) :: st) n h cells slots :=
  v_icmp_le hd ht (fun z => kt ((nI_leI hx hy).mp z)) (fun z => kf (Nat.not_le.mp (fun z2 => z ((nI_leI hx hy).mpr z2))))
theorem n_if_eq {l : Launch} {G : vG} {M : vM} {rc rs : Nat} {Fz : vFin} {pc : Nat} {ls : List (Option Value)} {st : List Value} {n : Nat} {h : AH} {cells slots : Nat} {x : Nat} {off : Int} {tgt : Nat} (hd : decode M.2.1 pc = .ok (.ifCond .eq off, 3)) (ht : (pc : Int) + off = (tgt : Int)) (hx : x < 2 ^ 31) (kt : x = 0 → V l G M rc rs Fz tgt ls (st) n h cells slots) (kf : 0 < x → V l G M rc rs Fz (pc + 3) ls (st) n h cells slots) : V l G M rc rs Fz pc ls (.int (nI x) :: st) n h cells slots :=
  v_if_eq hd ht (fun z => kt ((nI_eq0 hx).mp z)) (fun z => kf (Nat.pos_of_ne_zero (fun z2 => z ((nI_eq0 hx).mpr z2))))
theorem n_if_ne {l : Launch} {G : vG} {M : vM} {rc rs : Nat} {Fz : vFin} {pc : Nat} {ls : List (Option Value)} {st : List Value} {n : Nat} {h : AH} {cells slots : Nat} {x : Nat} {off : Int} {tgt : Nat} (hd : decode M.2.1 pc = .ok (.ifCond .ne off, 3)) (ht : (pc : Int) + off = (tgt : Int)) (hx : x < 2 ^ 31) (kt : 0 < x → V l G M rc rs Fz tgt ls (st) n h cells slots) (kf : x = 0 → V l G M rc rs Fz (pc + 3) ls (st) n h cells slots) : V l G M rc rs Fz pc ls (.int (nI x) :: st) n h cells slots :=
  v_if_ne hd ht (fun z => kt (Nat.pos_of_ne_zero (fun z2 => z ((nI_eq0 hx).mpr z2)))) (fun z => kf ((nI_eq0 hx).mp z))
theorem n_if_gt {l : Launch} {G : vG} {M : vM} {rc rs : Nat} {Fz : vFin} {pc : Nat} {ls : List (Option Value)} {st : List Value} {n : Nat} {h : AH} {cells slots : Nat} {x : Nat} {off : Int} {tgt : Nat} (hd : decode M.2.1 pc = .ok (.ifCond .gt off, 3)) (ht : (pc : Int) + off = (tgt : Int)) (hx : x < 2 ^ 31) (kt : 0 < x → V l G M rc rs Fz tgt ls (st) n h cells slots) (kf : x = 0 → V l G M rc rs Fz (pc + 3) ls (st) n h cells slots) : V l G M rc rs Fz pc ls (.int (nI x) :: st) n h cells slots :=
  v_if_gt hd ht (fun z => kt ((nI_ltI (a := 0) (by decide) hx).mp z)) (fun z => kf (Nat.eq_zero_of_not_pos (fun z2 => z ((nI_ltI (a := 0) (by decide) hx).mpr z2))))
theorem n_if_le {l : Launch} {G : vG} {M : vM} {rc rs : Nat} {Fz : vFin} {pc : Nat} {ls : List (Option Value)} {st : List Value} {n : Nat} {h : AH} {cells slots : Nat} {x : Nat} {off : Int} {tgt : Nat} (hd : decode M.2.1 pc = .ok (.ifCond .le off, 3)) (ht : (pc : Int) + off = (tgt : Int)) (hx : x < 2 ^ 31) (kt : x = 0 → V l G M rc rs Fz tgt ls (st) n h cells slots) (kf : 0 < x → V l G M rc rs Fz (pc + 3) ls (st) n h cells slots) : V l G M rc rs Fz pc ls (.int (nI x) :: st) n h cells slots :=
  v_if_le hd ht (fun z => kt (Nat.le_zero.mp ((nI_leI (b := 0) hx (by decide)).mp z))) (fun z => kf (Nat.not_le.mp (fun z2 => z ((nI_leI (b := 0) hx (by decide)).mpr z2))))
theorem n_if_lt {l : Launch} {G : vG} {M : vM} {rc rs : Nat} {Fz : vFin} {pc : Nat} {ls : List (Option Value)} {st : List Value} {n : Nat} {h : AH} {cells slots : Nat} {x : Nat} {off : Int} {tgt : Nat} (hd : decode M.2.1 pc = .ok (.ifCond .lt off, 3)) (ht : (pc : Int) + off = (tgt : Int)) (hx : x < 2 ^ 31) (kf : V l G M rc rs Fz (pc + 3) ls (st) n h cells slots) : V l G M rc rs Fz pc ls (.int (nI x) :: st) n h cells slots :=
  v_if_lt hd ht (fun z => absurd z (nI_pos hx)) (fun _ => kf)
theorem n_if_ge {l : Launch} {G : vG} {M : vM} {rc rs : Nat} {Fz : vFin} {pc : Nat} {ls : List (Option Value)} {st : List Value} {n : Nat} {h : AH} {cells slots : Nat} {x : Nat} {off : Int} {tgt : Nat} (hd : decode M.2.1 pc = .ok (.ifCond .ge off, 3)) (ht : (pc : Int) + off = (tgt : Int)) (hx : x < 2 ^ 31) (kt : V l G M rc rs Fz tgt ls (st) n h cells slots) : V l G M rc rs Fz pc ls (.int (nI x) :: st) n h cells slots :=
  v_if_ge hd ht (fun _ => kt) (fun z => absurd (nI_pos' hx) z)
theorem n_iald {l : Launch} {G : vG} {M : vM} {rc rs : Nat} {Fz : vFin} {pc : Nat} {ls : List (Option Value)} {st : List Value} {n : Nat} {h : AH} {cells slots : Nat} {a k j : Nat} {f : Nat → Nat} (hd : decode M.2.1 pc = .ok (.iaload, 1)) (he : h a = some (.inl (gC G 0, k, .inl (fun i => nI (f i))))) (hj : j < k) (hk : k < 2 ^ 31) (kk : V l G M rc rs Fz (pc + 1) ls (.int (nI (f j)) :: st) n h cells slots) : V l G M rc rs Fz pc ls (.int (nI j) :: .ref a :: st) n h cells slots := v_iald hd he (vp_in_nI hj hk) (by rw [nI_clamp (Nat.lt_trans hj hk)]; exact kk)
theorem n_iast {l : Launch} {G : vG} {M : vM} {rc rs : Nat} {Fz : vFin} {pc : Nat} {ls : List (Option Value)} {st : List Value} {n : Nat} {h : AH} {cells slots : Nat} {a k j x : Nat} {f : Nat → Nat} (hd : decode M.2.1 pc = .ok (.iastore, 1)) (he : h a = some (.inl (gC G 0, k, .inl (fun i => nI (f i))))) (hj : j < k) (hk : k < 2 ^ 31) (kk : V l G M rc rs Fz (pc + 1) ls (st) n (va_up h a (some (.inl (gC G 0, k, .inl (fun i => nI (va_up f j x i)))))) cells slots) : V l G M rc rs Fz pc ls (.int (nI x) :: .int (nI j) :: .ref a :: st) n h cells slots := v_iast hd he (vp_in_nI hj hk) (by rw [nI_clamp (Nat.lt_trans hj hk), upd_nI]; exact kk)
theorem n_max {l : Launch} {G : vG} {M : vM} {rc rs : Nat} {Fz : vFin} {pc : Nat} {ls : List (Option Value)} {st : List Value} {n : Nat} {h : AH} {cells slots : Nat} {index x y : Nat} (hd : decode M.2.1 pc = .ok (.invokestatic index, 3)) (hlink : Cond.methodLink M.1.cls index Lib.Math.max.name ∈ gw) (hstat : Cond.static Lib.Math.max.name ∈ gw) (hini : Cond.initialized "java/lang/Math" ∈ gw) (hcode : Cond.code Lib.Math.max.name Lib.Math.max.code 2 (some .int) ∈ gw) (hfr : 1 ≤ M.2.2.2.2.1) (hlo : (st.map fun v => v.category).sum + 13 ≤ M.2.2.2.2.2) (hc1 : cells ≤ rc) (hs1 : slots ≤ rs) (hx : x < 2 ^ 31) (hy : y < 2 ^ 31) (kk : V l G M rc rs Fz (pc + 3) ls (.int (nI (max x y)) :: st) n h cells slots) : V l G M rc rs Fz pc ls (.int (nI y) :: .int (nI x) :: st) n h cells slots := by
  have e : (if nI x < nI y then nI y else nI x) = nI (max x y) := by
    by_cases q : x < y
    · rw [if_pos ((nI_ltI hx hy).mpr q)]; congr 1; omega
    · rw [if_neg (fun z => q ((nI_ltI hx hy).mp z))]; congr 1; omega
  exact v_max hd hlink hstat hini hcode hfr hlo hc1 hs1 (by rw [e]; exact kk)
theorem n_min {l : Launch} {G : vG} {M : vM} {rc rs : Nat} {Fz : vFin} {pc : Nat} {ls : List (Option Value)} {st : List Value} {n : Nat} {h : AH} {cells slots : Nat} {index x y : Nat} (hd : decode M.2.1 pc = .ok (.invokestatic index, 3)) (hlink : Cond.methodLink M.1.cls index Lib.Math.min.name ∈ gw) (hstat : Cond.static Lib.Math.min.name ∈ gw) (hini : Cond.initialized "java/lang/Math" ∈ gw) (hcode : Cond.code Lib.Math.min.name Lib.Math.min.code 2 (some .int) ∈ gw) (hfr : 1 ≤ M.2.2.2.2.1) (hlo : (st.map fun v => v.category).sum + 13 ≤ M.2.2.2.2.2) (hc1 : cells ≤ rc) (hs1 : slots ≤ rs) (hx : x < 2 ^ 31) (hy : y < 2 ^ 31) (kk : V l G M rc rs Fz (pc + 3) ls (.int (nI (min x y)) :: st) n h cells slots) : V l G M rc rs Fz pc ls (.int (nI y) :: .int (nI x) :: st) n h cells slots := by
  have e : (if nI y < nI x then nI y else nI x) = nI (min x y) := by
    by_cases q : y < x
    · rw [if_pos ((nI_ltI hy hx).mpr q)]; congr 1; omega
    · rw [if_neg (fun z => q ((nI_ltI hy hx).mp z))]; congr 1; omega
  exact v_min hd hlink hstat hini hcode hfr hlo hc1 hs1 (by rw [e]; exact kk)
/-- arrays that hold the same: what stands beyond their length is nothing -/
def ceq (e f : va_E) : Prop := e = f ∨ ∃ (c : ClassId) (k : Nat) (u v : Nat → Int32), e = .inl (c, k, .inl u) ∧ f = .inl (c, k, .inl v) ∧ ∀ j, j < k → u j = v j
theorem arrV_cong {c : ClassId} {k : Nat} {f g : Nat → Value} (h : ∀ j, j < k → f j = g j) : arrV c k f = arrV c k g := by
  have e : ∀ z : Nat → Value, (arrV c k z).slots = ((List.range k).map z).toArray := fun z => by
    apply Array.ext
    · rw [arrV_size]; simp
    · intro i h1 h2
      have hi : i < k := by rw [arrV_size] at h1; exact h1
      have := arrV_read c z hi
      rw [Array.getElem?_eq_getElem h1] at this
      rw [Option.some.inj this]
      simp
  have e2 : (arrV c k f).slots = (arrV c k g).slots := by
    rw [e f, e g]
    congr 1
    exact List.map_congr_left (fun j hj => h j (List.mem_range.mp hj))
  exact (show ({ cls := c, slots := (arrV c k f).slots, vm := .none } : Cell) = { cls := c, slots := (arrV c k g).slots, vm := .none } by rw [e2])
theorem ceq.at {D : va_G} {a : Nat} {e f : va_E} {H : Heap} (h : ceq e f) (he : va_at D vwCl (a, e) H) : va_at D vwCl (a, f) H := by
  rcases h with rfl | ⟨c, k, u, v, rfl, rfl, hj⟩
  · exact he
  · have he : H[a]? = some (vp_cell c (k, .inl u)) := he
    show H[a]? = some (vp_cell c (k, .inl v))
    rw [he, vp_cell_i, vp_cell_i, arrV_cong (fun j z => by rw [hj j z])]
theorem v_same {l : Launch} {G : vG} {M : vM} {rc rs : Nat} {Fz : vFin} {pc : Nat} {ls : List (Option Value)} {st : List Value} {n : Nat} {h : AH} {cells slots : Nat} {h2 : AH} (hh : ∀ (a : Nat) (f : va_E), h2 a = some f → ∃ e, h a = some e ∧ ceq e f) (kk : V l G M rc rs Fz pc ls (st) n h2 cells slots) : V l G M rc rs Fz pc ls (st) n h cells slots := by
  intro p e s m args below meth c H locs lsA d0 hx hb hr hml hts hown hlk hnm hd0 hC hS hbs hP hl
  refine kk p e s m args below meth c H locs lsA d0 hx hb hr hml hts hown hlk hnm hd0 hC hS hbs ⟨hP.1, hP.2.1, fun a f ha => ?_⟩ hl
  obtain ⟨e2, h1, h3⟩ := hh a f ha
  obtain ⟨g1, g2⟩ := hP.2.2 a e2 h1
  exact ⟨g1, h3.at g2⟩
