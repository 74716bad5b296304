theorem inX0 : ∀ w ∈ u_ws RX0 TX0 5, w ∈ gw := List.forall_mem_cons.mpr ⟨q1_127, List.forall_mem_cons.mpr ⟨q1_129, List.forall_mem_cons.mpr ⟨q1_131, List.forall_mem_cons.mpr ⟨q1_133, List.forall_mem_cons.mpr ⟨q1_135, fun _ h => absurd h List.not_mem_nil⟩⟩⟩⟩⟩
theorem inX1 : ∀ w ∈ u_ws RX1 TX1 10, w ∈ gw := List.forall_mem_cons.mpr ⟨q1_158, List.forall_mem_cons.mpr ⟨q1_160, List.forall_mem_cons.mpr ⟨q1_162, List.forall_mem_cons.mpr ⟨q1_164, List.forall_mem_cons.mpr ⟨q1_166, List.forall_mem_cons.mpr ⟨q1_168, List.forall_mem_cons.mpr ⟨q1_170, List.forall_mem_cons.mpr ⟨q1_172, List.forall_mem_cons.mpr ⟨q1_174, List.forall_mem_cons.mpr ⟨q1_176, fun _ h => absurd h List.not_mem_nil⟩⟩⟩⟩⟩⟩⟩⟩⟩⟩
theorem inX2 : ∀ w ∈ u_ws RX2 TX2 7, w ∈ gw := List.forall_mem_cons.mpr ⟨q1_60, List.forall_mem_cons.mpr ⟨q1_62, List.forall_mem_cons.mpr ⟨q1_64, List.forall_mem_cons.mpr ⟨q1_66, List.forall_mem_cons.mpr ⟨q1_68, List.forall_mem_cons.mpr ⟨q1_70, List.forall_mem_cons.mpr ⟨q1_72, fun _ h => absurd h List.not_mem_nil⟩⟩⟩⟩⟩⟩⟩
theorem inX3 : ∀ w ∈ u_ws RX3 TX3 3, w ∈ gw := List.forall_mem_cons.mpr ⟨q1_192, List.forall_mem_cons.mpr ⟨q1_194, List.forall_mem_cons.mpr ⟨q1_196, fun _ h => absurd h List.not_mem_nil⟩⟩⟩
theorem inX4 : ∀ w ∈ u_ws RX4 TX4 5, w ∈ gw := List.forall_mem_cons.mpr ⟨q1_95, List.forall_mem_cons.mpr ⟨q1_97, List.forall_mem_cons.mpr ⟨q1_99, List.forall_mem_cons.mpr ⟨q1_101, List.forall_mem_cons.mpr ⟨q1_103, fun _ h => absurd h List.not_mem_nil⟩⟩⟩⟩⟩
theorem inX5 : ∀ w ∈ u_ws RX5 TX5 6, w ∈ gw := List.forall_mem_cons.mpr ⟨q2_6, List.forall_mem_cons.mpr ⟨q2_8, List.forall_mem_cons.mpr ⟨q2_10, List.forall_mem_cons.mpr ⟨q2_12, List.forall_mem_cons.mpr ⟨q2_14, List.forall_mem_cons.mpr ⟨q2_16, fun _ h => absurd h List.not_mem_nil⟩⟩⟩⟩⟩⟩
theorem inX6 : ∀ w ∈ u_ws RX6 TX6 10, w ∈ gw := List.forall_mem_cons.mpr ⟨q2_32, List.forall_mem_cons.mpr ⟨q2_34, List.forall_mem_cons.mpr ⟨q2_36, List.forall_mem_cons.mpr ⟨q2_38, List.forall_mem_cons.mpr ⟨q2_40, List.forall_mem_cons.mpr ⟨q2_42, List.forall_mem_cons.mpr ⟨q2_44, List.forall_mem_cons.mpr ⟨q2_46, List.forall_mem_cons.mpr ⟨q2_48, List.forall_mem_cons.mpr ⟨q2_50, fun _ h => absurd h List.not_mem_nil⟩⟩⟩⟩⟩⟩⟩⟩⟩⟩
theorem inX7 : ∀ w ∈ u_ws RX7 TX7 18, w ∈ gw := List.forall_mem_cons.mpr ⟨q5_14, List.forall_mem_cons.mpr ⟨q5_16, List.forall_mem_cons.mpr ⟨q5_18, List.forall_mem_cons.mpr ⟨q5_20, List.forall_mem_cons.mpr ⟨q5_22, List.forall_mem_cons.mpr ⟨q5_24, List.forall_mem_cons.mpr ⟨q5_26, List.forall_mem_cons.mpr ⟨q5_28, List.forall_mem_cons.mpr ⟨q5_30, List.forall_mem_cons.mpr ⟨q5_32, List.forall_mem_cons.mpr ⟨q5_34, List.forall_mem_cons.mpr ⟨q5_36, List.forall_mem_cons.mpr ⟨q5_38, List.forall_mem_cons.mpr ⟨q5_40, List.forall_mem_cons.mpr ⟨q5_42, List.forall_mem_cons.mpr ⟨q5_44, List.forall_mem_cons.mpr ⟨q5_46, List.forall_mem_cons.mpr ⟨q5_48, fun _ h => absurd h List.not_mem_nil⟩⟩⟩⟩⟩⟩⟩⟩⟩⟩⟩⟩⟩⟩⟩⟩⟩⟩
theorem inJ4 : ∀ w ∈ u_ws RJ4 TJ4 4, w ∈ gw := List.forall_mem_cons.mpr ⟨q1_227, List.forall_mem_cons.mpr ⟨q1_229, List.forall_mem_cons.mpr ⟨q1_231, List.forall_mem_cons.mpr ⟨q1_233, fun _ h => absurd h List.not_mem_nil⟩⟩⟩⟩
theorem fJ5_15 {l : Launch} {G : vG} {M : vM} {rc rs : Nat} {Fz : vFin} {pc : Nat} {ls : List (Option Value)} {st : List Value} {n : Nat} {h : AH} {cells slots : Nat} {a : Nat} {fs : List Value} {v : Value} (ho : M.1.cls = RJ5) (hd : decode M.2.1 pc = .ok (.getfield 15, 3)) (he : h a = some (.inr (0, fs))) (hv : fs[0]? = some v) (kk : V l G M rc rs Fz (pc + 3) ls (v :: st) n h cells slots) : V l G M rc rs Fz pc ls (.ref a :: st) n h cells slots :=
  v_getf (k := 0) (C := RJ4) (T := TJ4) (N := 4) hd he rfl inJ4 (by decide) (by rw [ho]; exact q1_223) hv kk
theorem pJ5_15 {l : Launch} {G : vG} {M : vM} {rc rs : Nat} {Fz : vFin} {pc : Nat} {ls : List (Option Value)} {st : List Value} {n : Nat} {h : AH} {cells slots : Nat} {a : Nat} {fs : List Value} {x : Nat} (ho : M.1.cls = RJ5)  (hd : decode M.2.1 pc = .ok (.putfield 15, 3)) (he : h a = some (.inr (0, fs))) (hl : 0 < fs.length)  (kk : V l G M rc rs Fz (pc + 3) ls (st) n (va_up h a (some (.inr (0, fs.set 0 (.ref x))))) cells slots) : V l G M rc rs Fz pc ls (.ref x :: .ref a :: st) n h cells slots :=
  v_putf (k := 0) (C := RJ4) (T := TJ4) (N := 4) hd he rfl inJ4 tyJ4 tyJ4_ok nmJ4 (by decide) (by rw [ho]; exact q1_223) (Or.inl rfl) rfl rfl hl kk
theorem fJ5_22 {l : Launch} {G : vG} {M : vM} {rc rs : Nat} {Fz : vFin} {pc : Nat} {ls : List (Option Value)} {st : List Value} {n : Nat} {h : AH} {cells slots : Nat} {a : Nat} {fs : List Value} {v : Value} (ho : M.1.cls = RJ5) (hd : decode M.2.1 pc = .ok (.getfield 22, 3)) (he : h a = some (.inr (0, fs))) (hv : fs[1]? = some v) (kk : V l G M rc rs Fz (pc + 3) ls (v :: st) n h cells slots) : V l G M rc rs Fz pc ls (.ref a :: st) n h cells slots :=
  v_getf (k := 1) (C := RJ4) (T := TJ4) (N := 4) hd he rfl inJ4 (by decide) (by rw [ho]; exact q1_224) hv kk
theorem pJ5_22 {l : Launch} {G : vG} {M : vM} {rc rs : Nat} {Fz : vFin} {pc : Nat} {ls : List (Option Value)} {st : List Value} {n : Nat} {h : AH} {cells slots : Nat} {a : Nat} {fs : List Value} {x : Int32} (ho : M.1.cls = RJ5)  (hd : decode M.2.1 pc = .ok (.putfield 22, 3)) (he : h a = some (.inr (0, fs))) (hl : 1 < fs.length) (hn : narrow .byte (.int x) = .int x) (hfit : fits .byte (.int x) = true) (kk : V l G M rc rs Fz (pc + 3) ls (st) n (va_up h a (some (.inr (0, fs.set 1 (.int x))))) cells slots) : V l G M rc rs Fz pc ls (.int x :: .ref a :: st) n h cells slots :=
  v_putf (k := 1) (C := RJ4) (T := TJ4) (N := 4) hd he rfl inJ4 tyJ4 tyJ4_ok nmJ4 (by decide) (by rw [ho]; exact q1_224) (Or.inl rfl) hn hfit hl kk
theorem pJ5_73 {l : Launch} {G : vG} {M : vM} {rc rs : Nat} {Fz : vFin} {pc : Nat} {ls : List (Option Value)} {st : List Value} {n : Nat} {h : AH} {cells slots : Nat} {a : Nat} {fs : List Value} {x : Int32} (ho : M.1.cls = RJ5)  (hd : decode M.2.1 pc = .ok (.putfield 73, 3)) (he : h a = some (.inr (0, fs))) (hl : 2 < fs.length) (hn : narrow .boolean (.int x) = .int x) (hfit : fits .boolean (.int x) = true) (kk : V l G M rc rs Fz (pc + 3) ls (st) n (va_up h a (some (.inr (0, fs.set 2 (.int x))))) cells slots) : V l G M rc rs Fz pc ls (.int x :: .ref a :: st) n h cells slots :=
  v_putf (k := 2) (C := RJ4) (T := TJ4) (N := 4) hd he rfl inJ4 tyJ4 tyJ4_ok nmJ4 (by decide) (by rw [ho]; exact q1_225) (Or.inl rfl) hn hfit hl kk
theorem fJ5_79 {l : Launch} {G : vG} {M : vM} {rc rs : Nat} {Fz : vFin} {pc : Nat} {ls : List (Option Value)} {st : List Value} {n : Nat} {h : AH} {cells slots : Nat} {a : Nat} {fs : List Value} {v : Value} (ho : M.1.cls = RJ5) (hd : decode M.2.1 pc = .ok (.getfield 79, 3)) (he : h a = some (.inr (0, fs))) (hv : fs[3]? = some v) (kk : V l G M rc rs Fz (pc + 3) ls (v :: st) n h cells slots) : V l G M rc rs Fz pc ls (.ref a :: st) n h cells slots :=
  v_getf (k := 3) (C := RJ4) (T := TJ4) (N := 4) hd he rfl inJ4 (by decide) (by rw [ho]; exact q1_226) hv kk
theorem pJ5_79 {l : Launch} {G : vG} {M : vM} {rc rs : Nat} {Fz : vFin} {pc : Nat} {ls : List (Option Value)} {st : List Value} {n : Nat} {h : AH} {cells slots : Nat} {a : Nat} {fs : List Value} {x : Int32} (ho : M.1.cls = RJ5)  (hd : decode M.2.1 pc = .ok (.putfield 79, 3)) (he : h a = some (.inr (0, fs))) (hl : 3 < fs.length)  (kk : V l G M rc rs Fz (pc + 3) ls (st) n (va_up h a (some (.inr (0, fs.set 3 (.int x))))) cells slots) : V l G M rc rs Fz pc ls (.int x :: .ref a :: st) n h cells slots :=
  v_putf (k := 3) (C := RJ4) (T := TJ4) (N := 4) hd he rfl inJ4 tyJ4 tyJ4_ok nmJ4 (by decide) (by rw [ho]; exact q1_226) (Or.inl rfl) rfl rfl hl kk
theorem fX0_9 {l : Launch} {G : vG} {M : vM} {rc rs : Nat} {Fz : vFin} {pc : Nat} {ls : List (Option Value)} {st : List Value} {n : Nat} {h : AH} {cells slots : Nat} {a : Nat} {fs : List Value} {v : Value} (ho : M.1.cls = RX0) (hd : decode M.2.1 pc = .ok (.getfield 9, 3)) (he : h a = some (.inr (1, fs))) (hv : fs[0]? = some v) (kk : V l G M rc rs Fz (pc + 3) ls (v :: st) n h cells slots) : V l G M rc rs Fz pc ls (.ref a :: st) n h cells slots :=
  v_getf (k := 0) (C := RX0) (T := TX0) (N := 5) hd he rfl inX0 (by decide) (by rw [ho]; exact q1_112) hv kk
theorem pX0_9 {l : Launch} {G : vG} {M : vM} {rc rs : Nat} {Fz : vFin} {pc : Nat} {ls : List (Option Value)} {st : List Value} {n : Nat} {h : AH} {cells slots : Nat} {a : Nat} {fs : List Value} {x : Int32} (ho : M.1.cls = RX0)  (hd : decode M.2.1 pc = .ok (.putfield 9, 3)) (he : h a = some (.inr (1, fs))) (hl : 0 < fs.length)  (kk : V l G M rc rs Fz (pc + 3) ls (st) n (va_up h a (some (.inr (1, fs.set 0 (.int x))))) cells slots) : V l G M rc rs Fz pc ls (.int x :: .ref a :: st) n h cells slots :=
  v_putf (k := 0) (C := RX0) (T := TX0) (N := 5) hd he rfl inX0 tyX0 tyX0_ok nmX0 (by decide) (by rw [ho]; exact q1_112) (Or.inl rfl) rfl rfl hl kk
theorem fX0_15 {l : Launch} {G : vG} {M : vM} {rc rs : Nat} {Fz : vFin} {pc : Nat} {ls : List (Option Value)} {st : List Value} {n : Nat} {h : AH} {cells slots : Nat} {a : Nat} {fs : List Value} {v : Value} (ho : M.1.cls = RX0) (hd : decode M.2.1 pc = .ok (.getfield 15, 3)) (he : h a = some (.inr (1, fs))) (hv : fs[1]? = some v) (kk : V l G M rc rs Fz (pc + 3) ls (v :: st) n h cells slots) : V l G M rc rs Fz pc ls (.ref a :: st) n h cells slots :=
  v_getf (k := 1) (C := RX0) (T := TX0) (N := 5) hd he rfl inX0 (by decide) (by rw [ho]; exact q1_115) hv kk
theorem pX0_15 {l : Launch} {G : vG} {M : vM} {rc rs : Nat} {Fz : vFin} {pc : Nat} {ls : List (Option Value)} {st : List Value} {n : Nat} {h : AH} {cells slots : Nat} {a : Nat} {fs : List Value} {x : Nat} (ho : M.1.cls = RX0) (hi : M.1.name = "<init>") (hd : decode M.2.1 pc = .ok (.putfield 15, 3)) (he : h a = some (.inr (1, fs))) (hl : 1 < fs.length)  (kk : V l G M rc rs Fz (pc + 3) ls (st) n (va_up h a (some (.inr (1, fs.set 1 (.ref x))))) cells slots) : V l G M rc rs Fz pc ls (.ref x :: .ref a :: st) n h cells slots :=
  v_putf (k := 1) (C := RX0) (T := TX0) (N := 5) hd he rfl inX0 tyX0 tyX0_ok nmX0 (by decide) (by rw [ho]; exact q1_115) (Or.inr ⟨rfl, hi, by rw [ho]; rfl⟩) rfl rfl hl kk
theorem fX0_19 {l : Launch} {G : vG} {M : vM} {rc rs : Nat} {Fz : vFin} {pc : Nat} {ls : List (Option Value)} {st : List Value} {n : Nat} {h : AH} {cells slots : Nat} {a : Nat} {fs : List Value} {v : Value} (ho : M.1.cls = RX0) (hd : decode M.2.1 pc = .ok (.getfield 19, 3)) (he : h a = some (.inr (1, fs))) (hv : fs[2]? = some v) (kk : V l G M rc rs Fz (pc + 3) ls (v :: st) n h cells slots) : V l G M rc rs Fz pc ls (.ref a :: st) n h cells slots :=
  v_getf (k := 2) (C := RX0) (T := TX0) (N := 5) hd he rfl inX0 (by decide) (by rw [ho]; exact q1_118) hv kk
theorem pX0_19 {l : Launch} {G : vG} {M : vM} {rc rs : Nat} {Fz : vFin} {pc : Nat} {ls : List (Option Value)} {st : List Value} {n : Nat} {h : AH} {cells slots : Nat} {a : Nat} {fs : List Value} {x : Nat} (ho : M.1.cls = RX0) (hi : M.1.name = "<init>") (hd : decode M.2.1 pc = .ok (.putfield 19, 3)) (he : h a = some (.inr (1, fs))) (hl : 2 < fs.length)  (kk : V l G M rc rs Fz (pc + 3) ls (st) n (va_up h a (some (.inr (1, fs.set 2 (.ref x))))) cells slots) : V l G M rc rs Fz pc ls (.ref x :: .ref a :: st) n h cells slots :=
  v_putf (k := 2) (C := RX0) (T := TX0) (N := 5) hd he rfl inX0 tyX0 tyX0_ok nmX0 (by decide) (by rw [ho]; exact q1_118) (Or.inr ⟨rfl, hi, by rw [ho]; rfl⟩) rfl rfl hl kk
theorem fX0_22 {l : Launch} {G : vG} {M : vM} {rc rs : Nat} {Fz : vFin} {pc : Nat} {ls : List (Option Value)} {st : List Value} {n : Nat} {h : AH} {cells slots : Nat} {a : Nat} {fs : List Value} {v : Value} (ho : M.1.cls = RX0) (hd : decode M.2.1 pc = .ok (.getfield 22, 3)) (he : h a = some (.inr (1, fs))) (hv : fs[3]? = some v) (kk : V l G M rc rs Fz (pc + 3) ls (v :: st) n h cells slots) : V l G M rc rs Fz pc ls (.ref a :: st) n h cells slots :=
  v_getf (k := 3) (C := RX0) (T := TX0) (N := 5) hd he rfl inX0 (by decide) (by rw [ho]; exact q1_121) hv kk
theorem pX0_22 {l : Launch} {G : vG} {M : vM} {rc rs : Nat} {Fz : vFin} {pc : Nat} {ls : List (Option Value)} {st : List Value} {n : Nat} {h : AH} {cells slots : Nat} {a : Nat} {fs : List Value} {x : Nat} (ho : M.1.cls = RX0) (hi : M.1.name = "<init>") (hd : decode M.2.1 pc = .ok (.putfield 22, 3)) (he : h a = some (.inr (1, fs))) (hl : 3 < fs.length)  (kk : V l G M rc rs Fz (pc + 3) ls (st) n (va_up h a (some (.inr (1, fs.set 3 (.ref x))))) cells slots) : V l G M rc rs Fz pc ls (.ref x :: .ref a :: st) n h cells slots :=
  v_putf (k := 3) (C := RX0) (T := TX0) (N := 5) hd he rfl inX0 tyX0 tyX0_ok nmX0 (by decide) (by rw [ho]; exact q1_121) (Or.inr ⟨rfl, hi, by rw [ho]; rfl⟩) rfl rfl hl kk
theorem fX0_25 {l : Launch} {G : vG} {M : vM} {rc rs : Nat} {Fz : vFin} {pc : Nat} {ls : List (Option Value)} {st : List Value} {n : Nat} {h : AH} {cells slots : Nat} {a : Nat} {fs : List Value} {v : Value} (ho : M.1.cls = RX0) (hd : decode M.2.1 pc = .ok (.getfield 25, 3)) (he : h a = some (.inr (1, fs))) (hv : fs[4]? = some v) (kk : V l G M rc rs Fz (pc + 3) ls (v :: st) n h cells slots) : V l G M rc rs Fz pc ls (.ref a :: st) n h cells slots :=
  v_getf (k := 4) (C := RX0) (T := TX0) (N := 5) hd he rfl inX0 (by decide) (by rw [ho]; exact q1_124) hv kk
theorem pX0_25 {l : Launch} {G : vG} {M : vM} {rc rs : Nat} {Fz : vFin} {pc : Nat} {ls : List (Option Value)} {st : List Value} {n : Nat} {h : AH} {cells slots : Nat} {a : Nat} {fs : List Value} {x : Nat} (ho : M.1.cls = RX0) (hi : M.1.name = "<init>") (hd : decode M.2.1 pc = .ok (.putfield 25, 3)) (he : h a = some (.inr (1, fs))) (hl : 4 < fs.length)  (kk : V l G M rc rs Fz (pc + 3) ls (st) n (va_up h a (some (.inr (1, fs.set 4 (.ref x))))) cells slots) : V l G M rc rs Fz pc ls (.ref x :: .ref a :: st) n h cells slots :=
  v_putf (k := 4) (C := RX0) (T := TX0) (N := 5) hd he rfl inX0 tyX0 tyX0_ok nmX0 (by decide) (by rw [ho]; exact q1_124) (Or.inr ⟨rfl, hi, by rw [ho]; rfl⟩) rfl rfl hl kk
theorem fX1_12 {l : Launch} {G : vG} {M : vM} {rc rs : Nat} {Fz : vFin} {pc : Nat} {ls : List (Option Value)} {st : List Value} {n : Nat} {h : AH} {cells slots : Nat} {a : Nat} {fs : List Value} {v : Value} (ho : M.1.cls = RX1) (hd : decode M.2.1 pc = .ok (.getfield 12, 3)) (he : h a = some (.inr (2, fs))) (hv : fs[0]? = some v) (kk : V l G M rc rs Fz (pc + 3) ls (v :: st) n h cells slots) : V l G M rc rs Fz pc ls (.ref a :: st) n h cells slots :=
  v_getf (k := 0) (C := RX1) (T := TX1) (N := 10) hd he rfl inX1 (by decide) (by rw [ho]; exact q1_138) hv kk
theorem pX1_12 {l : Launch} {G : vG} {M : vM} {rc rs : Nat} {Fz : vFin} {pc : Nat} {ls : List (Option Value)} {st : List Value} {n : Nat} {h : AH} {cells slots : Nat} {a : Nat} {fs : List Value} {x : Nat} (ho : M.1.cls = RX1) (hi : M.1.name = "<init>") (hd : decode M.2.1 pc = .ok (.putfield 12, 3)) (he : h a = some (.inr (2, fs))) (hl : 0 < fs.length)  (kk : V l G M rc rs Fz (pc + 3) ls (st) n (va_up h a (some (.inr (2, fs.set 0 (.ref x))))) cells slots) : V l G M rc rs Fz pc ls (.ref x :: .ref a :: st) n h cells slots :=
  v_putf (k := 0) (C := RX1) (T := TX1) (N := 10) hd he rfl inX1 tyX1 tyX1_ok nmX1 (by decide) (by rw [ho]; exact q1_138) (Or.inr ⟨rfl, hi, by rw [ho]; rfl⟩) rfl rfl hl kk
theorem fX1_21 {l : Launch} {G : vG} {M : vM} {rc rs : Nat} {Fz : vFin} {pc : Nat} {ls : List (Option Value)} {st : List Value} {n : Nat} {h : AH} {cells slots : Nat} {a : Nat} {fs : List Value} {v : Value} (ho : M.1.cls = RX1) (hd : decode M.2.1 pc = .ok (.getfield 21, 3)) (he : h a = some (.inr (2, fs))) (hv : fs[1]? = some v) (kk : V l G M rc rs Fz (pc + 3) ls (v :: st) n h cells slots) : V l G M rc rs Fz pc ls (.ref a :: st) n h cells slots :=
  v_getf (k := 1) (C := RX1) (T := TX1) (N := 10) hd he rfl inX1 (by decide) (by rw [ho]; exact q1_140) hv kk
theorem pX1_21 {l : Launch} {G : vG} {M : vM} {rc rs : Nat} {Fz : vFin} {pc : Nat} {ls : List (Option Value)} {st : List Value} {n : Nat} {h : AH} {cells slots : Nat} {a : Nat} {fs : List Value} {x : Nat} (ho : M.1.cls = RX1) (hi : M.1.name = "<init>") (hd : decode M.2.1 pc = .ok (.putfield 21, 3)) (he : h a = some (.inr (2, fs))) (hl : 1 < fs.length)  (kk : V l G M rc rs Fz (pc + 3) ls (st) n (va_up h a (some (.inr (2, fs.set 1 (.ref x))))) cells slots) : V l G M rc rs Fz pc ls (.ref x :: .ref a :: st) n h cells slots :=
  v_putf (k := 1) (C := RX1) (T := TX1) (N := 10) hd he rfl inX1 tyX1 tyX1_ok nmX1 (by decide) (by rw [ho]; exact q1_140) (Or.inr ⟨rfl, hi, by rw [ho]; rfl⟩) rfl rfl hl kk
theorem fX1_28 {l : Launch} {G : vG} {M : vM} {rc rs : Nat} {Fz : vFin} {pc : Nat} {ls : List (Option Value)} {st : List Value} {n : Nat} {h : AH} {cells slots : Nat} {a : Nat} {fs : List Value} {v : Value} (ho : M.1.cls = RX1) (hd : decode M.2.1 pc = .ok (.getfield 28, 3)) (he : h a = some (.inr (2, fs))) (hv : fs[2]? = some v) (kk : V l G M rc rs Fz (pc + 3) ls (v :: st) n h cells slots) : V l G M rc rs Fz pc ls (.ref a :: st) n h cells slots :=
  v_getf (k := 2) (C := RX1) (T := TX1) (N := 10) hd he rfl inX1 (by decide) (by rw [ho]; exact q1_142) hv kk
theorem pX1_28 {l : Launch} {G : vG} {M : vM} {rc rs : Nat} {Fz : vFin} {pc : Nat} {ls : List (Option Value)} {st : List Value} {n : Nat} {h : AH} {cells slots : Nat} {a : Nat} {fs : List Value} {x : Nat} (ho : M.1.cls = RX1) (hi : M.1.name = "<init>") (hd : decode M.2.1 pc = .ok (.putfield 28, 3)) (he : h a = some (.inr (2, fs))) (hl : 2 < fs.length)  (kk : V l G M rc rs Fz (pc + 3) ls (st) n (va_up h a (some (.inr (2, fs.set 2 (.ref x))))) cells slots) : V l G M rc rs Fz pc ls (.ref x :: .ref a :: st) n h cells slots :=
  v_putf (k := 2) (C := RX1) (T := TX1) (N := 10) hd he rfl inX1 tyX1 tyX1_ok nmX1 (by decide) (by rw [ho]; exact q1_142) (Or.inr ⟨rfl, hi, by rw [ho]; rfl⟩) rfl rfl hl kk
theorem fX1_32 {l : Launch} {G : vG} {M : vM} {rc rs : Nat} {Fz : vFin} {pc : Nat} {ls : List (Option Value)} {st : List Value} {n : Nat} {h : AH} {cells slots : Nat} {a : Nat} {fs : List Value} {v : Value} (ho : M.1.cls = RX1) (hd : decode M.2.1 pc = .ok (.getfield 32, 3)) (he : h a = some (.inr (2, fs))) (hv : fs[3]? = some v) (kk : V l G M rc rs Fz (pc + 3) ls (v :: st) n h cells slots) : V l G M rc rs Fz pc ls (.ref a :: st) n h cells slots :=
  v_getf (k := 3) (C := RX1) (T := TX1) (N := 10) hd he rfl inX1 (by decide) (by rw [ho]; exact q1_144) hv kk
theorem pX1_32 {l : Launch} {G : vG} {M : vM} {rc rs : Nat} {Fz : vFin} {pc : Nat} {ls : List (Option Value)} {st : List Value} {n : Nat} {h : AH} {cells slots : Nat} {a : Nat} {fs : List Value} {x : Nat} (ho : M.1.cls = RX1) (hi : M.1.name = "<init>") (hd : decode M.2.1 pc = .ok (.putfield 32, 3)) (he : h a = some (.inr (2, fs))) (hl : 3 < fs.length)  (kk : V l G M rc rs Fz (pc + 3) ls (st) n (va_up h a (some (.inr (2, fs.set 3 (.ref x))))) cells slots) : V l G M rc rs Fz pc ls (.ref x :: .ref a :: st) n h cells slots :=
  v_putf (k := 3) (C := RX1) (T := TX1) (N := 10) hd he rfl inX1 tyX1 tyX1_ok nmX1 (by decide) (by rw [ho]; exact q1_144) (Or.inr ⟨rfl, hi, by rw [ho]; rfl⟩) rfl rfl hl kk
theorem fX1_36 {l : Launch} {G : vG} {M : vM} {rc rs : Nat} {Fz : vFin} {pc : Nat} {ls : List (Option Value)} {st : List Value} {n : Nat} {h : AH} {cells slots : Nat} {a : Nat} {fs : List Value} {v : Value} (ho : M.1.cls = RX1) (hd : decode M.2.1 pc = .ok (.getfield 36, 3)) (he : h a = some (.inr (2, fs))) (hv : fs[4]? = some v) (kk : V l G M rc rs Fz (pc + 3) ls (v :: st) n h cells slots) : V l G M rc rs Fz pc ls (.ref a :: st) n h cells slots :=
  v_getf (k := 4) (C := RX1) (T := TX1) (N := 10) hd he rfl inX1 (by decide) (by rw [ho]; exact q1_146) hv kk
theorem pX1_36 {l : Launch} {G : vG} {M : vM} {rc rs : Nat} {Fz : vFin} {pc : Nat} {ls : List (Option Value)} {st : List Value} {n : Nat} {h : AH} {cells slots : Nat} {a : Nat} {fs : List Value} {x : Nat} (ho : M.1.cls = RX1) (hi : M.1.name = "<init>") (hd : decode M.2.1 pc = .ok (.putfield 36, 3)) (he : h a = some (.inr (2, fs))) (hl : 4 < fs.length)  (kk : V l G M rc rs Fz (pc + 3) ls (st) n (va_up h a (some (.inr (2, fs.set 4 (.ref x))))) cells slots) : V l G M rc rs Fz pc ls (.ref x :: .ref a :: st) n h cells slots :=
  v_putf (k := 4) (C := RX1) (T := TX1) (N := 10) hd he rfl inX1 tyX1 tyX1_ok nmX1 (by decide) (by rw [ho]; exact q1_146) (Or.inr ⟨rfl, hi, by rw [ho]; rfl⟩) rfl rfl hl kk
theorem fX1_39 {l : Launch} {G : vG} {M : vM} {rc rs : Nat} {Fz : vFin} {pc : Nat} {ls : List (Option Value)} {st : List Value} {n : Nat} {h : AH} {cells slots : Nat} {a : Nat} {fs : List Value} {v : Value} (ho : M.1.cls = RX1) (hd : decode M.2.1 pc = .ok (.getfield 39, 3)) (he : h a = some (.inr (2, fs))) (hv : fs[5]? = some v) (kk : V l G M rc rs Fz (pc + 3) ls (v :: st) n h cells slots) : V l G M rc rs Fz pc ls (.ref a :: st) n h cells slots :=
  v_getf (k := 5) (C := RX1) (T := TX1) (N := 10) hd he rfl inX1 (by decide) (by rw [ho]; exact q1_148) hv kk
theorem pX1_39 {l : Launch} {G : vG} {M : vM} {rc rs : Nat} {Fz : vFin} {pc : Nat} {ls : List (Option Value)} {st : List Value} {n : Nat} {h : AH} {cells slots : Nat} {a : Nat} {fs : List Value} {x : Int32} (ho : M.1.cls = RX1)  (hd : decode M.2.1 pc = .ok (.putfield 39, 3)) (he : h a = some (.inr (2, fs))) (hl : 5 < fs.length)  (kk : V l G M rc rs Fz (pc + 3) ls (st) n (va_up h a (some (.inr (2, fs.set 5 (.int x))))) cells slots) : V l G M rc rs Fz pc ls (.int x :: .ref a :: st) n h cells slots :=
  v_putf (k := 5) (C := RX1) (T := TX1) (N := 10) hd he rfl inX1 tyX1 tyX1_ok nmX1 (by decide) (by rw [ho]; exact q1_148) (Or.inl rfl) rfl rfl hl kk
theorem fX1_43 {l : Launch} {G : vG} {M : vM} {rc rs : Nat} {Fz : vFin} {pc : Nat} {ls : List (Option Value)} {st : List Value} {n : Nat} {h : AH} {cells slots : Nat} {a : Nat} {fs : List Value} {v : Value} (ho : M.1.cls = RX1) (hd : decode M.2.1 pc = .ok (.getfield 43, 3)) (he : h a = some (.inr (2, fs))) (hv : fs[6]? = some v) (kk : V l G M rc rs Fz (pc + 3) ls (v :: st) n h cells slots) : V l G M rc rs Fz pc ls (.ref a :: st) n h cells slots :=
  v_getf (k := 6) (C := RX1) (T := TX1) (N := 10) hd he rfl inX1 (by decide) (by rw [ho]; exact q1_150) hv kk
theorem pX1_43 {l : Launch} {G : vG} {M : vM} {rc rs : Nat} {Fz : vFin} {pc : Nat} {ls : List (Option Value)} {st : List Value} {n : Nat} {h : AH} {cells slots : Nat} {a : Nat} {fs : List Value} {x : Int32} (ho : M.1.cls = RX1)  (hd : decode M.2.1 pc = .ok (.putfield 43, 3)) (he : h a = some (.inr (2, fs))) (hl : 6 < fs.length)  (kk : V l G M rc rs Fz (pc + 3) ls (st) n (va_up h a (some (.inr (2, fs.set 6 (.int x))))) cells slots) : V l G M rc rs Fz pc ls (.int x :: .ref a :: st) n h cells slots :=
  v_putf (k := 6) (C := RX1) (T := TX1) (N := 10) hd he rfl inX1 tyX1 tyX1_ok nmX1 (by decide) (by rw [ho]; exact q1_150) (Or.inl rfl) rfl rfl hl kk
theorem fX1_46 {l : Launch} {G : vG} {M : vM} {rc rs : Nat} {Fz : vFin} {pc : Nat} {ls : List (Option Value)} {st : List Value} {n : Nat} {h : AH} {cells slots : Nat} {a : Nat} {fs : List Value} {v : Value} (ho : M.1.cls = RX1) (hd : decode M.2.1 pc = .ok (.getfield 46, 3)) (he : h a = some (.inr (2, fs))) (hv : fs[7]? = some v) (kk : V l G M rc rs Fz (pc + 3) ls (v :: st) n h cells slots) : V l G M rc rs Fz pc ls (.ref a :: st) n h cells slots :=
  v_getf (k := 7) (C := RX1) (T := TX1) (N := 10) hd he rfl inX1 (by decide) (by rw [ho]; exact q1_152) hv kk
theorem pX1_46 {l : Launch} {G : vG} {M : vM} {rc rs : Nat} {Fz : vFin} {pc : Nat} {ls : List (Option Value)} {st : List Value} {n : Nat} {h : AH} {cells slots : Nat} {a : Nat} {fs : List Value} {x : Int32} (ho : M.1.cls = RX1)  (hd : decode M.2.1 pc = .ok (.putfield 46, 3)) (he : h a = some (.inr (2, fs))) (hl : 7 < fs.length)  (kk : V l G M rc rs Fz (pc + 3) ls (st) n (va_up h a (some (.inr (2, fs.set 7 (.int x))))) cells slots) : V l G M rc rs Fz pc ls (.int x :: .ref a :: st) n h cells slots :=
  v_putf (k := 7) (C := RX1) (T := TX1) (N := 10) hd he rfl inX1 tyX1 tyX1_ok nmX1 (by decide) (by rw [ho]; exact q1_152) (Or.inl rfl) rfl rfl hl kk
theorem fX1_49 {l : Launch} {G : vG} {M : vM} {rc rs : Nat} {Fz : vFin} {pc : Nat} {ls : List (Option Value)} {st : List Value} {n : Nat} {h : AH} {cells slots : Nat} {a : Nat} {fs : List Value} {v : Value} (ho : M.1.cls = RX1) (hd : decode M.2.1 pc = .ok (.getfield 49, 3)) (he : h a = some (.inr (2, fs))) (hv : fs[8]? = some v) (kk : V l G M rc rs Fz (pc + 3) ls (v :: st) n h cells slots) : V l G M rc rs Fz pc ls (.ref a :: st) n h cells slots :=
  v_getf (k := 8) (C := RX1) (T := TX1) (N := 10) hd he rfl inX1 (by decide) (by rw [ho]; exact q1_154) hv kk
theorem pX1_49 {l : Launch} {G : vG} {M : vM} {rc rs : Nat} {Fz : vFin} {pc : Nat} {ls : List (Option Value)} {st : List Value} {n : Nat} {h : AH} {cells slots : Nat} {a : Nat} {fs : List Value} {x : Int32} (ho : M.1.cls = RX1)  (hd : decode M.2.1 pc = .ok (.putfield 49, 3)) (he : h a = some (.inr (2, fs))) (hl : 8 < fs.length)  (kk : V l G M rc rs Fz (pc + 3) ls (st) n (va_up h a (some (.inr (2, fs.set 8 (.int x))))) cells slots) : V l G M rc rs Fz pc ls (.int x :: .ref a :: st) n h cells slots :=
  v_putf (k := 8) (C := RX1) (T := TX1) (N := 10) hd he rfl inX1 tyX1 tyX1_ok nmX1 (by decide) (by rw [ho]; exact q1_154) (Or.inl rfl) rfl rfl hl kk
theorem fX1_52 {l : Launch} {G : vG} {M : vM} {rc rs : Nat} {Fz : vFin} {pc : Nat} {ls : List (Option Value)} {st : List Value} {n : Nat} {h : AH} {cells slots : Nat} {a : Nat} {fs : List Value} {v : Value} (ho : M.1.cls = RX1) (hd : decode M.2.1 pc = .ok (.getfield 52, 3)) (he : h a = some (.inr (2, fs))) (hv : fs[9]? = some v) (kk : V l G M rc rs Fz (pc + 3) ls (v :: st) n h cells slots) : V l G M rc rs Fz pc ls (.ref a :: st) n h cells slots :=
  v_getf (k := 9) (C := RX1) (T := TX1) (N := 10) hd he rfl inX1 (by decide) (by rw [ho]; exact q1_156) hv kk
theorem pX1_52 {l : Launch} {G : vG} {M : vM} {rc rs : Nat} {Fz : vFin} {pc : Nat} {ls : List (Option Value)} {st : List Value} {n : Nat} {h : AH} {cells slots : Nat} {a : Nat} {fs : List Value} {x : Int32} (ho : M.1.cls = RX1)  (hd : decode M.2.1 pc = .ok (.putfield 52, 3)) (he : h a = some (.inr (2, fs))) (hl : 9 < fs.length)  (kk : V l G M rc rs Fz (pc + 3) ls (st) n (va_up h a (some (.inr (2, fs.set 9 (.int x))))) cells slots) : V l G M rc rs Fz pc ls (.int x :: .ref a :: st) n h cells slots :=
  v_putf (k := 9) (C := RX1) (T := TX1) (N := 10) hd he rfl inX1 tyX1 tyX1_ok nmX1 (by decide) (by rw [ho]; exact q1_156) (Or.inl rfl) rfl rfl hl kk
theorem fX1_69 {l : Launch} {G : vG} {M : vM} {rc rs : Nat} {Fz : vFin} {pc : Nat} {ls : List (Option Value)} {st : List Value} {n : Nat} {h : AH} {cells slots : Nat} {a : Nat} {fs : List Value} {v : Value} (ho : M.1.cls = RX1) (hd : decode M.2.1 pc = .ok (.getfield 69, 3)) (he : h a = some (.inr (5, fs))) (hv : fs[3]? = some v) (kk : V l G M rc rs Fz (pc + 3) ls (v :: st) n h cells slots) : V l G M rc rs Fz pc ls (.ref a :: st) n h cells slots :=
  v_getf (k := 3) (C := RX4) (T := TX4) (N := 5) hd he rfl inX4 (by decide) (by rw [ho]; exact q1_92) hv kk
theorem fX1_76 {l : Launch} {G : vG} {M : vM} {rc rs : Nat} {Fz : vFin} {pc : Nat} {ls : List (Option Value)} {st : List Value} {n : Nat} {h : AH} {cells slots : Nat} {a : Nat} {fs : List Value} {v : Value} (ho : M.1.cls = RX1) (hd : decode M.2.1 pc = .ok (.getfield 76, 3)) (he : h a = some (.inr (5, fs))) (hv : fs[2]? = some v) (kk : V l G M rc rs Fz (pc + 3) ls (v :: st) n h cells slots) : V l G M rc rs Fz pc ls (.ref a :: st) n h cells slots :=
  v_getf (k := 2) (C := RX4) (T := TX4) (N := 5) hd he rfl inX4 (by decide) (by rw [ho]; exact q1_89) hv kk
theorem fX1_79 {l : Launch} {G : vG} {M : vM} {rc rs : Nat} {Fz : vFin} {pc : Nat} {ls : List (Option Value)} {st : List Value} {n : Nat} {h : AH} {cells slots : Nat} {a : Nat} {fs : List Value} {v : Value} (ho : M.1.cls = RX1) (hd : decode M.2.1 pc = .ok (.getfield 79, 3)) (he : h a = some (.inr (5, fs))) (hv : fs[0]? = some v) (kk : V l G M rc rs Fz (pc + 3) ls (v :: st) n h cells slots) : V l G M rc rs Fz pc ls (.ref a :: st) n h cells slots :=
  v_getf (k := 0) (C := RX4) (T := TX4) (N := 5) hd he rfl inX4 (by decide) (by rw [ho]; exact q1_83) hv kk
theorem fX1_89 {l : Launch} {G : vG} {M : vM} {rc rs : Nat} {Fz : vFin} {pc : Nat} {ls : List (Option Value)} {st : List Value} {n : Nat} {h : AH} {cells slots : Nat} {a : Nat} {fs : List Value} {v : Value} (ho : M.1.cls = RX1) (hd : decode M.2.1 pc = .ok (.getfield 89, 3)) (he : h a = some (.inr (5, fs))) (hv : fs[1]? = some v) (kk : V l G M rc rs Fz (pc + 3) ls (v :: st) n h cells slots) : V l G M rc rs Fz pc ls (.ref a :: st) n h cells slots :=
  v_getf (k := 1) (C := RX4) (T := TX4) (N := 5) hd he rfl inX4 (by decide) (by rw [ho]; exact q1_87) hv kk
theorem fX1_92 {l : Launch} {G : vG} {M : vM} {rc rs : Nat} {Fz : vFin} {pc : Nat} {ls : List (Option Value)} {st : List Value} {n : Nat} {h : AH} {cells slots : Nat} {a : Nat} {fs : List Value} {v : Value} (ho : M.1.cls = RX1) (hd : decode M.2.1 pc = .ok (.getfield 92, 3)) (he : h a = some (.inr (3, fs))) (hv : fs[1]? = some v) (kk : V l G M rc rs Fz (pc + 3) ls (v :: st) n h cells slots) : V l G M rc rs Fz pc ls (.ref a :: st) n h cells slots :=
  v_getf (k := 1) (C := RX2) (T := TX2) (N := 7) hd he rfl inX2 (by decide) (by rw [ho]; exact q1_44) hv kk
theorem fX1_111 {l : Launch} {G : vG} {M : vM} {rc rs : Nat} {Fz : vFin} {pc : Nat} {ls : List (Option Value)} {st : List Value} {n : Nat} {h : AH} {cells slots : Nat} {a : Nat} {fs : List Value} {v : Value} (ho : M.1.cls = RX1) (hd : decode M.2.1 pc = .ok (.getfield 111, 3)) (he : h a = some (.inr (1, fs))) (hv : fs[0]? = some v) (kk : V l G M rc rs Fz (pc + 3) ls (v :: st) n h cells slots) : V l G M rc rs Fz pc ls (.ref a :: st) n h cells slots :=
  v_getf (k := 0) (C := RX0) (T := TX0) (N := 5) hd he rfl inX0 (by decide) (by rw [ho]; exact q1_113) hv kk
theorem fX1_116 {l : Launch} {G : vG} {M : vM} {rc rs : Nat} {Fz : vFin} {pc : Nat} {ls : List (Option Value)} {st : List Value} {n : Nat} {h : AH} {cells slots : Nat} {a : Nat} {fs : List Value} {v : Value} (ho : M.1.cls = RX1) (hd : decode M.2.1 pc = .ok (.getfield 116, 3)) (he : h a = some (.inr (1, fs))) (hv : fs[4]? = some v) (kk : V l G M rc rs Fz (pc + 3) ls (v :: st) n h cells slots) : V l G M rc rs Fz pc ls (.ref a :: st) n h cells slots :=
  v_getf (k := 4) (C := RX0) (T := TX0) (N := 5) hd he rfl inX0 (by decide) (by rw [ho]; exact q1_125) hv kk
theorem fX1_118 {l : Launch} {G : vG} {M : vM} {rc rs : Nat} {Fz : vFin} {pc : Nat} {ls : List (Option Value)} {st : List Value} {n : Nat} {h : AH} {cells slots : Nat} {a : Nat} {fs : List Value} {v : Value} (ho : M.1.cls = RX1) (hd : decode M.2.1 pc = .ok (.getfield 118, 3)) (he : h a = some (.inr (1, fs))) (hv : fs[2]? = some v) (kk : V l G M rc rs Fz (pc + 3) ls (v :: st) n h cells slots) : V l G M rc rs Fz pc ls (.ref a :: st) n h cells slots :=
  v_getf (k := 2) (C := RX0) (T := TX0) (N := 5) hd he rfl inX0 (by decide) (by rw [ho]; exact q1_120) hv kk
theorem fX1_121 {l : Launch} {G : vG} {M : vM} {rc rs : Nat} {Fz : vFin} {pc : Nat} {ls : List (Option Value)} {st : List Value} {n : Nat} {h : AH} {cells slots : Nat} {a : Nat} {fs : List Value} {v : Value} (ho : M.1.cls = RX1) (hd : decode M.2.1 pc = .ok (.getfield 121, 3)) (he : h a = some (.inr (1, fs))) (hv : fs[1]? = some v) (kk : V l G M rc rs Fz (pc + 3) ls (v :: st) n h cells slots) : V l G M rc rs Fz pc ls (.ref a :: st) n h cells slots :=
  v_getf (k := 1) (C := RX0) (T := TX0) (N := 5) hd he rfl inX0 (by decide) (by rw [ho]; exact q1_117) hv kk
theorem fX1_124 {l : Launch} {G : vG} {M : vM} {rc rs : Nat} {Fz : vFin} {pc : Nat} {ls : List (Option Value)} {st : List Value} {n : Nat} {h : AH} {cells slots : Nat} {a : Nat} {fs : List Value} {v : Value} (ho : M.1.cls = RX1) (hd : decode M.2.1 pc = .ok (.getfield 124, 3)) (he : h a = some (.inr (1, fs))) (hv : fs[3]? = some v) (kk : V l G M rc rs Fz (pc + 3) ls (v :: st) n h cells slots) : V l G M rc rs Fz pc ls (.ref a :: st) n h cells slots :=
  v_getf (k := 3) (C := RX0) (T := TX0) (N := 5) hd he rfl inX0 (by decide) (by rw [ho]; exact q1_123) hv kk
theorem fX1_140 {l : Launch} {G : vG} {M : vM} {rc rs : Nat} {Fz : vFin} {pc : Nat} {ls : List (Option Value)} {st : List Value} {n : Nat} {h : AH} {cells slots : Nat} {a : Nat} {fs : List Value} {v : Value} (ho : M.1.cls = RX1) (hd : decode M.2.1 pc = .ok (.getfield 140, 3)) (he : h a = some (.inr (3, fs))) (hv : fs[5]? = some v) (kk : V l G M rc rs Fz (pc + 3) ls (v :: st) n h cells slots) : V l G M rc rs Fz pc ls (.ref a :: st) n h cells slots :=
  v_getf (k := 5) (C := RX2) (T := TX2) (N := 7) hd he rfl inX2 (by decide) (by rw [ho]; exact q1_56) hv kk
theorem fX1_146 {l : Launch} {G : vG} {M : vM} {rc rs : Nat} {Fz : vFin} {pc : Nat} {ls : List (Option Value)} {st : List Value} {n : Nat} {h : AH} {cells slots : Nat} {a : Nat} {fs : List Value} {v : Value} (ho : M.1.cls = RX1) (hd : decode M.2.1 pc = .ok (.getfield 146, 3)) (he : h a = some (.inr (3, fs))) (hv : fs[3]? = some v) (kk : V l G M rc rs Fz (pc + 3) ls (v :: st) n h cells slots) : V l G M rc rs Fz pc ls (.ref a :: st) n h cells slots :=
  v_getf (k := 3) (C := RX2) (T := TX2) (N := 7) hd he rfl inX2 (by decide) (by rw [ho]; exact q1_50) hv kk
theorem fX1_149 {l : Launch} {G : vG} {M : vM} {rc rs : Nat} {Fz : vFin} {pc : Nat} {ls : List (Option Value)} {st : List Value} {n : Nat} {h : AH} {cells slots : Nat} {a : Nat} {fs : List Value} {v : Value} (ho : M.1.cls = RX1) (hd : decode M.2.1 pc = .ok (.getfield 149, 3)) (he : h a = some (.inr (3, fs))) (hv : fs[6]? = some v) (kk : V l G M rc rs Fz (pc + 3) ls (v :: st) n h cells slots) : V l G M rc rs Fz pc ls (.ref a :: st) n h cells slots :=
  v_getf (k := 6) (C := RX2) (T := TX2) (N := 7) hd he rfl inX2 (by decide) (by rw [ho]; exact q1_59) hv kk
theorem fX1_152 {l : Launch} {G : vG} {M : vM} {rc rs : Nat} {Fz : vFin} {pc : Nat} {ls : List (Option Value)} {st : List Value} {n : Nat} {h : AH} {cells slots : Nat} {a : Nat} {fs : List Value} {v : Value} (ho : M.1.cls = RX1) (hd : decode M.2.1 pc = .ok (.getfield 152, 3)) (he : h a = some (.inr (3, fs))) (hv : fs[4]? = some v) (kk : V l G M rc rs Fz (pc + 3) ls (v :: st) n h cells slots) : V l G M rc rs Fz pc ls (.ref a :: st) n h cells slots :=
  v_getf (k := 4) (C := RX2) (T := TX2) (N := 7) hd he rfl inX2 (by decide) (by rw [ho]; exact q1_53) hv kk
theorem fX1_158 {l : Launch} {G : vG} {M : vM} {rc rs : Nat} {Fz : vFin} {pc : Nat} {ls : List (Option Value)} {st : List Value} {n : Nat} {h : AH} {cells slots : Nat} {a : Nat} {fs : List Value} {v : Value} (ho : M.1.cls = RX1) (hd : decode M.2.1 pc = .ok (.getfield 158, 3)) (he : h a = some (.inr (3, fs))) (hv : fs[2]? = some v) (kk : V l G M rc rs Fz (pc + 3) ls (v :: st) n h cells slots) : V l G M rc rs Fz pc ls (.ref a :: st) n h cells slots :=
  v_getf (k := 2) (C := RX2) (T := TX2) (N := 7) hd he rfl inX2 (by decide) (by rw [ho]; exact q1_47) hv kk
theorem fX2_9 {l : Launch} {G : vG} {M : vM} {rc rs : Nat} {Fz : vFin} {pc : Nat} {ls : List (Option Value)} {st : List Value} {n : Nat} {h : AH} {cells slots : Nat} {a : Nat} {fs : List Value} {v : Value} (ho : M.1.cls = RX2) (hd : decode M.2.1 pc = .ok (.getfield 9, 3)) (he : h a = some (.inr (3, fs))) (hv : fs[0]? = some v) (kk : V l G M rc rs Fz (pc + 3) ls (v :: st) n h cells slots) : V l G M rc rs Fz pc ls (.ref a :: st) n h cells slots :=
  v_getf (k := 0) (C := RX2) (T := TX2) (N := 7) hd he rfl inX2 (by decide) (by rw [ho]; exact q1_40) hv kk
theorem pX2_9 {l : Launch} {G : vG} {M : vM} {rc rs : Nat} {Fz : vFin} {pc : Nat} {ls : List (Option Value)} {st : List Value} {n : Nat} {h : AH} {cells slots : Nat} {a : Nat} {fs : List Value} {x : Int32} (ho : M.1.cls = RX2)  (hd : decode M.2.1 pc = .ok (.putfield 9, 3)) (he : h a = some (.inr (3, fs))) (hl : 0 < fs.length)  (kk : V l G M rc rs Fz (pc + 3) ls (st) n (va_up h a (some (.inr (3, fs.set 0 (.int x))))) cells slots) : V l G M rc rs Fz pc ls (.int x :: .ref a :: st) n h cells slots :=
  v_putf (k := 0) (C := RX2) (T := TX2) (N := 7) hd he rfl inX2 tyX2 tyX2_ok nmX2 (by decide) (by rw [ho]; exact q1_40) (Or.inl rfl) rfl rfl hl kk
theorem fX2_15 {l : Launch} {G : vG} {M : vM} {rc rs : Nat} {Fz : vFin} {pc : Nat} {ls : List (Option Value)} {st : List Value} {n : Nat} {h : AH} {cells slots : Nat} {a : Nat} {fs : List Value} {v : Value} (ho : M.1.cls = RX2) (hd : decode M.2.1 pc = .ok (.getfield 15, 3)) (he : h a = some (.inr (3, fs))) (hv : fs[1]? = some v) (kk : V l G M rc rs Fz (pc + 3) ls (v :: st) n h cells slots) : V l G M rc rs Fz pc ls (.ref a :: st) n h cells slots :=
  v_getf (k := 1) (C := RX2) (T := TX2) (N := 7) hd he rfl inX2 (by decide) (by rw [ho]; exact q1_42) hv kk
theorem pX2_15 {l : Launch} {G : vG} {M : vM} {rc rs : Nat} {Fz : vFin} {pc : Nat} {ls : List (Option Value)} {st : List Value} {n : Nat} {h : AH} {cells slots : Nat} {a : Nat} {fs : List Value} {x : Nat} (ho : M.1.cls = RX2) (hi : M.1.name = "<init>") (hd : decode M.2.1 pc = .ok (.putfield 15, 3)) (he : h a = some (.inr (3, fs))) (hl : 1 < fs.length)  (kk : V l G M rc rs Fz (pc + 3) ls (st) n (va_up h a (some (.inr (3, fs.set 1 (.ref x))))) cells slots) : V l G M rc rs Fz pc ls (.ref x :: .ref a :: st) n h cells slots :=
  v_putf (k := 1) (C := RX2) (T := TX2) (N := 7) hd he rfl inX2 tyX2 tyX2_ok nmX2 (by decide) (by rw [ho]; exact q1_42) (Or.inr ⟨rfl, hi, by rw [ho]; rfl⟩) rfl rfl hl kk
theorem fX2_19 {l : Launch} {G : vG} {M : vM} {rc rs : Nat} {Fz : vFin} {pc : Nat} {ls : List (Option Value)} {st : List Value} {n : Nat} {h : AH} {cells slots : Nat} {a : Nat} {fs : List Value} {v : Value} (ho : M.1.cls = RX2) (hd : decode M.2.1 pc = .ok (.getfield 19, 3)) (he : h a = some (.inr (3, fs))) (hv : fs[2]? = some v) (kk : V l G M rc rs Fz (pc + 3) ls (v :: st) n h cells slots) : V l G M rc rs Fz pc ls (.ref a :: st) n h cells slots :=
  v_getf (k := 2) (C := RX2) (T := TX2) (N := 7) hd he rfl inX2 (by decide) (by rw [ho]; exact q1_45) hv kk
theorem pX2_19 {l : Launch} {G : vG} {M : vM} {rc rs : Nat} {Fz : vFin} {pc : Nat} {ls : List (Option Value)} {st : List Value} {n : Nat} {h : AH} {cells slots : Nat} {a : Nat} {fs : List Value} {x : Nat} (ho : M.1.cls = RX2) (hi : M.1.name = "<init>") (hd : decode M.2.1 pc = .ok (.putfield 19, 3)) (he : h a = some (.inr (3, fs))) (hl : 2 < fs.length)  (kk : V l G M rc rs Fz (pc + 3) ls (st) n (va_up h a (some (.inr (3, fs.set 2 (.ref x))))) cells slots) : V l G M rc rs Fz pc ls (.ref x :: .ref a :: st) n h cells slots :=
  v_putf (k := 2) (C := RX2) (T := TX2) (N := 7) hd he rfl inX2 tyX2 tyX2_ok nmX2 (by decide) (by rw [ho]; exact q1_45) (Or.inr ⟨rfl, hi, by rw [ho]; rfl⟩) rfl rfl hl kk
theorem fX2_22 {l : Launch} {G : vG} {M : vM} {rc rs : Nat} {Fz : vFin} {pc : Nat} {ls : List (Option Value)} {st : List Value} {n : Nat} {h : AH} {cells slots : Nat} {a : Nat} {fs : List Value} {v : Value} (ho : M.1.cls = RX2) (hd : decode M.2.1 pc = .ok (.getfield 22, 3)) (he : h a = some (.inr (3, fs))) (hv : fs[3]? = some v) (kk : V l G M rc rs Fz (pc + 3) ls (v :: st) n h cells slots) : V l G M rc rs Fz pc ls (.ref a :: st) n h cells slots :=
  v_getf (k := 3) (C := RX2) (T := TX2) (N := 7) hd he rfl inX2 (by decide) (by rw [ho]; exact q1_48) hv kk
theorem pX2_22 {l : Launch} {G : vG} {M : vM} {rc rs : Nat} {Fz : vFin} {pc : Nat} {ls : List (Option Value)} {st : List Value} {n : Nat} {h : AH} {cells slots : Nat} {a : Nat} {fs : List Value} {x : Nat} (ho : M.1.cls = RX2) (hi : M.1.name = "<init>") (hd : decode M.2.1 pc = .ok (.putfield 22, 3)) (he : h a = some (.inr (3, fs))) (hl : 3 < fs.length)  (kk : V l G M rc rs Fz (pc + 3) ls (st) n (va_up h a (some (.inr (3, fs.set 3 (.ref x))))) cells slots) : V l G M rc rs Fz pc ls (.ref x :: .ref a :: st) n h cells slots :=
  v_putf (k := 3) (C := RX2) (T := TX2) (N := 7) hd he rfl inX2 tyX2 tyX2_ok nmX2 (by decide) (by rw [ho]; exact q1_48) (Or.inr ⟨rfl, hi, by rw [ho]; rfl⟩) rfl rfl hl kk
theorem fX2_25 {l : Launch} {G : vG} {M : vM} {rc rs : Nat} {Fz : vFin} {pc : Nat} {ls : List (Option Value)} {st : List Value} {n : Nat} {h : AH} {cells slots : Nat} {a : Nat} {fs : List Value} {v : Value} (ho : M.1.cls = RX2) (hd : decode M.2.1 pc = .ok (.getfield 25, 3)) (he : h a = some (.inr (3, fs))) (hv : fs[4]? = some v) (kk : V l G M rc rs Fz (pc + 3) ls (v :: st) n h cells slots) : V l G M rc rs Fz pc ls (.ref a :: st) n h cells slots :=
  v_getf (k := 4) (C := RX2) (T := TX2) (N := 7) hd he rfl inX2 (by decide) (by rw [ho]; exact q1_51) hv kk
theorem pX2_25 {l : Launch} {G : vG} {M : vM} {rc rs : Nat} {Fz : vFin} {pc : Nat} {ls : List (Option Value)} {st : List Value} {n : Nat} {h : AH} {cells slots : Nat} {a : Nat} {fs : List Value} {x : Nat} (ho : M.1.cls = RX2) (hi : M.1.name = "<init>") (hd : decode M.2.1 pc = .ok (.putfield 25, 3)) (he : h a = some (.inr (3, fs))) (hl : 4 < fs.length)  (kk : V l G M rc rs Fz (pc + 3) ls (st) n (va_up h a (some (.inr (3, fs.set 4 (.ref x))))) cells slots) : V l G M rc rs Fz pc ls (.ref x :: .ref a :: st) n h cells slots :=
  v_putf (k := 4) (C := RX2) (T := TX2) (N := 7) hd he rfl inX2 tyX2 tyX2_ok nmX2 (by decide) (by rw [ho]; exact q1_51) (Or.inr ⟨rfl, hi, by rw [ho]; rfl⟩) rfl rfl hl kk
theorem fX2_28 {l : Launch} {G : vG} {M : vM} {rc rs : Nat} {Fz : vFin} {pc : Nat} {ls : List (Option Value)} {st : List Value} {n : Nat} {h : AH} {cells slots : Nat} {a : Nat} {fs : List Value} {v : Value} (ho : M.1.cls = RX2) (hd : decode M.2.1 pc = .ok (.getfield 28, 3)) (he : h a = some (.inr (3, fs))) (hv : fs[5]? = some v) (kk : V l G M rc rs Fz (pc + 3) ls (v :: st) n h cells slots) : V l G M rc rs Fz pc ls (.ref a :: st) n h cells slots :=
  v_getf (k := 5) (C := RX2) (T := TX2) (N := 7) hd he rfl inX2 (by decide) (by rw [ho]; exact q1_54) hv kk
theorem pX2_28 {l : Launch} {G : vG} {M : vM} {rc rs : Nat} {Fz : vFin} {pc : Nat} {ls : List (Option Value)} {st : List Value} {n : Nat} {h : AH} {cells slots : Nat} {a : Nat} {fs : List Value} {x : Nat} (ho : M.1.cls = RX2) (hi : M.1.name = "<init>") (hd : decode M.2.1 pc = .ok (.putfield 28, 3)) (he : h a = some (.inr (3, fs))) (hl : 5 < fs.length)  (kk : V l G M rc rs Fz (pc + 3) ls (st) n (va_up h a (some (.inr (3, fs.set 5 (.ref x))))) cells slots) : V l G M rc rs Fz pc ls (.ref x :: .ref a :: st) n h cells slots :=
  v_putf (k := 5) (C := RX2) (T := TX2) (N := 7) hd he rfl inX2 tyX2 tyX2_ok nmX2 (by decide) (by rw [ho]; exact q1_54) (Or.inr ⟨rfl, hi, by rw [ho]; rfl⟩) rfl rfl hl kk
theorem fX2_31 {l : Launch} {G : vG} {M : vM} {rc rs : Nat} {Fz : vFin} {pc : Nat} {ls : List (Option Value)} {st : List Value} {n : Nat} {h : AH} {cells slots : Nat} {a : Nat} {fs : List Value} {v : Value} (ho : M.1.cls = RX2) (hd : decode M.2.1 pc = .ok (.getfield 31, 3)) (he : h a = some (.inr (3, fs))) (hv : fs[6]? = some v) (kk : V l G M rc rs Fz (pc + 3) ls (v :: st) n h cells slots) : V l G M rc rs Fz pc ls (.ref a :: st) n h cells slots :=
  v_getf (k := 6) (C := RX2) (T := TX2) (N := 7) hd he rfl inX2 (by decide) (by rw [ho]; exact q1_57) hv kk
theorem pX2_31 {l : Launch} {G : vG} {M : vM} {rc rs : Nat} {Fz : vFin} {pc : Nat} {ls : List (Option Value)} {st : List Value} {n : Nat} {h : AH} {cells slots : Nat} {a : Nat} {fs : List Value} {x : Nat} (ho : M.1.cls = RX2) (hi : M.1.name = "<init>") (hd : decode M.2.1 pc = .ok (.putfield 31, 3)) (he : h a = some (.inr (3, fs))) (hl : 6 < fs.length)  (kk : V l G M rc rs Fz (pc + 3) ls (st) n (va_up h a (some (.inr (3, fs.set 6 (.ref x))))) cells slots) : V l G M rc rs Fz pc ls (.ref x :: .ref a :: st) n h cells slots :=
  v_putf (k := 6) (C := RX2) (T := TX2) (N := 7) hd he rfl inX2 tyX2 tyX2_ok nmX2 (by decide) (by rw [ho]; exact q1_57) (Or.inr ⟨rfl, hi, by rw [ho]; rfl⟩) rfl rfl hl kk
theorem fX3_9 {l : Launch} {G : vG} {M : vM} {rc rs : Nat} {Fz : vFin} {pc : Nat} {ls : List (Option Value)} {st : List Value} {n : Nat} {h : AH} {cells slots : Nat} {a : Nat} {fs : List Value} {v : Value} (ho : M.1.cls = RX3) (hd : decode M.2.1 pc = .ok (.getfield 9, 3)) (he : h a = some (.inr (4, fs))) (hv : fs[0]? = some v) (kk : V l G M rc rs Fz (pc + 3) ls (v :: st) n h cells slots) : V l G M rc rs Fz pc ls (.ref a :: st) n h cells slots :=
  v_getf (k := 0) (C := RX3) (T := TX3) (N := 3) hd he rfl inX3 (by decide) (by rw [ho]; exact q1_188) hv kk
theorem pX3_9 {l : Launch} {G : vG} {M : vM} {rc rs : Nat} {Fz : vFin} {pc : Nat} {ls : List (Option Value)} {st : List Value} {n : Nat} {h : AH} {cells slots : Nat} {a : Nat} {fs : List Value} {x : Int32} (ho : M.1.cls = RX3)  (hd : decode M.2.1 pc = .ok (.putfield 9, 3)) (he : h a = some (.inr (4, fs))) (hl : 0 < fs.length)  (kk : V l G M rc rs Fz (pc + 3) ls (st) n (va_up h a (some (.inr (4, fs.set 0 (.int x))))) cells slots) : V l G M rc rs Fz pc ls (.int x :: .ref a :: st) n h cells slots :=
  v_putf (k := 0) (C := RX3) (T := TX3) (N := 3) hd he rfl inX3 tyX3 tyX3_ok nmX3 (by decide) (by rw [ho]; exact q1_188) (Or.inl rfl) rfl rfl hl kk
theorem fX3_15 {l : Launch} {G : vG} {M : vM} {rc rs : Nat} {Fz : vFin} {pc : Nat} {ls : List (Option Value)} {st : List Value} {n : Nat} {h : AH} {cells slots : Nat} {a : Nat} {fs : List Value} {v : Value} (ho : M.1.cls = RX3) (hd : decode M.2.1 pc = .ok (.getfield 15, 3)) (he : h a = some (.inr (4, fs))) (hv : fs[1]? = some v) (kk : V l G M rc rs Fz (pc + 3) ls (v :: st) n h cells slots) : V l G M rc rs Fz pc ls (.ref a :: st) n h cells slots :=
  v_getf (k := 1) (C := RX3) (T := TX3) (N := 3) hd he rfl inX3 (by decide) (by rw [ho]; exact q1_190) hv kk
theorem pX3_15 {l : Launch} {G : vG} {M : vM} {rc rs : Nat} {Fz : vFin} {pc : Nat} {ls : List (Option Value)} {st : List Value} {n : Nat} {h : AH} {cells slots : Nat} {a : Nat} {fs : List Value} {x : Int32} (ho : M.1.cls = RX3)  (hd : decode M.2.1 pc = .ok (.putfield 15, 3)) (he : h a = some (.inr (4, fs))) (hl : 1 < fs.length)  (kk : V l G M rc rs Fz (pc + 3) ls (st) n (va_up h a (some (.inr (4, fs.set 1 (.int x))))) cells slots) : V l G M rc rs Fz pc ls (.int x :: .ref a :: st) n h cells slots :=
  v_putf (k := 1) (C := RX3) (T := TX3) (N := 3) hd he rfl inX3 tyX3 tyX3_ok nmX3 (by decide) (by rw [ho]; exact q1_190) (Or.inl rfl) rfl rfl hl kk
theorem fX3_20 {l : Launch} {G : vG} {M : vM} {rc rs : Nat} {Fz : vFin} {pc : Nat} {ls : List (Option Value)} {st : List Value} {n : Nat} {h : AH} {cells slots : Nat} {a : Nat} {fs : List Value} {v : Value} (ho : M.1.cls = RX3) (hd : decode M.2.1 pc = .ok (.getfield 20, 3)) (he : h a = some (.inr (4, fs))) (hv : fs[2]? = some v) (kk : V l G M rc rs Fz (pc + 3) ls (v :: st) n h cells slots) : V l G M rc rs Fz pc ls (.ref a :: st) n h cells slots :=
  v_getf (k := 2) (C := RX3) (T := TX3) (N := 3) hd he rfl inX3 (by decide) (by rw [ho]; exact q1_191) hv kk
theorem pX3_20 {l : Launch} {G : vG} {M : vM} {rc rs : Nat} {Fz : vFin} {pc : Nat} {ls : List (Option Value)} {st : List Value} {n : Nat} {h : AH} {cells slots : Nat} {a : Nat} {fs : List Value} {x : Nat} (ho : M.1.cls = RX3) (hi : M.1.name = "<init>") (hd : decode M.2.1 pc = .ok (.putfield 20, 3)) (he : h a = some (.inr (4, fs))) (hl : 2 < fs.length)  (kk : V l G M rc rs Fz (pc + 3) ls (st) n (va_up h a (some (.inr (4, fs.set 2 (.ref x))))) cells slots) : V l G M rc rs Fz pc ls (.ref x :: .ref a :: st) n h cells slots :=
  v_putf (k := 2) (C := RX3) (T := TX3) (N := 3) hd he rfl inX3 tyX3 tyX3_ok nmX3 (by decide) (by rw [ho]; exact q1_191) (Or.inr ⟨rfl, hi, by rw [ho]; rfl⟩) rfl rfl hl kk
theorem fX4_9 {l : Launch} {G : vG} {M : vM} {rc rs : Nat} {Fz : vFin} {pc : Nat} {ls : List (Option Value)} {st : List Value} {n : Nat} {h : AH} {cells slots : Nat} {a : Nat} {fs : List Value} {v : Value} (ho : M.1.cls = RX4) (hd : decode M.2.1 pc = .ok (.getfield 9, 3)) (he : h a = some (.inr (5, fs))) (hv : fs[0]? = some v) (kk : V l G M rc rs Fz (pc + 3) ls (v :: st) n h cells slots) : V l G M rc rs Fz pc ls (.ref a :: st) n h cells slots :=
  v_getf (k := 0) (C := RX4) (T := TX4) (N := 5) hd he rfl inX4 (by decide) (by rw [ho]; exact q1_82) hv kk
theorem pX4_9 {l : Launch} {G : vG} {M : vM} {rc rs : Nat} {Fz : vFin} {pc : Nat} {ls : List (Option Value)} {st : List Value} {n : Nat} {h : AH} {cells slots : Nat} {a : Nat} {fs : List Value} {x : Int32} (ho : M.1.cls = RX4)  (hd : decode M.2.1 pc = .ok (.putfield 9, 3)) (he : h a = some (.inr (5, fs))) (hl : 0 < fs.length)  (kk : V l G M rc rs Fz (pc + 3) ls (st) n (va_up h a (some (.inr (5, fs.set 0 (.int x))))) cells slots) : V l G M rc rs Fz pc ls (.int x :: .ref a :: st) n h cells slots :=
  v_putf (k := 0) (C := RX4) (T := TX4) (N := 5) hd he rfl inX4 tyX4 tyX4_ok nmX4 (by decide) (by rw [ho]; exact q1_82) (Or.inl rfl) rfl rfl hl kk
theorem fX4_15 {l : Launch} {G : vG} {M : vM} {rc rs : Nat} {Fz : vFin} {pc : Nat} {ls : List (Option Value)} {st : List Value} {n : Nat} {h : AH} {cells slots : Nat} {a : Nat} {fs : List Value} {v : Value} (ho : M.1.cls = RX4) (hd : decode M.2.1 pc = .ok (.getfield 15, 3)) (he : h a = some (.inr (5, fs))) (hv : fs[1]? = some v) (kk : V l G M rc rs Fz (pc + 3) ls (v :: st) n h cells slots) : V l G M rc rs Fz pc ls (.ref a :: st) n h cells slots :=
  v_getf (k := 1) (C := RX4) (T := TX4) (N := 5) hd he rfl inX4 (by decide) (by rw [ho]; exact q1_85) hv kk
theorem pX4_15 {l : Launch} {G : vG} {M : vM} {rc rs : Nat} {Fz : vFin} {pc : Nat} {ls : List (Option Value)} {st : List Value} {n : Nat} {h : AH} {cells slots : Nat} {a : Nat} {fs : List Value} {x : Nat} (ho : M.1.cls = RX4) (hi : M.1.name = "<init>") (hd : decode M.2.1 pc = .ok (.putfield 15, 3)) (he : h a = some (.inr (5, fs))) (hl : 1 < fs.length)  (kk : V l G M rc rs Fz (pc + 3) ls (st) n (va_up h a (some (.inr (5, fs.set 1 (.ref x))))) cells slots) : V l G M rc rs Fz pc ls (.ref x :: .ref a :: st) n h cells slots :=
  v_putf (k := 1) (C := RX4) (T := TX4) (N := 5) hd he rfl inX4 tyX4 tyX4_ok nmX4 (by decide) (by rw [ho]; exact q1_85) (Or.inr ⟨rfl, hi, by rw [ho]; rfl⟩) rfl rfl hl kk
theorem fX4_19 {l : Launch} {G : vG} {M : vM} {rc rs : Nat} {Fz : vFin} {pc : Nat} {ls : List (Option Value)} {st : List Value} {n : Nat} {h : AH} {cells slots : Nat} {a : Nat} {fs : List Value} {v : Value} (ho : M.1.cls = RX4) (hd : decode M.2.1 pc = .ok (.getfield 19, 3)) (he : h a = some (.inr (5, fs))) (hv : fs[2]? = some v) (kk : V l G M rc rs Fz (pc + 3) ls (v :: st) n h cells slots) : V l G M rc rs Fz pc ls (.ref a :: st) n h cells slots :=
  v_getf (k := 2) (C := RX4) (T := TX4) (N := 5) hd he rfl inX4 (by decide) (by rw [ho]; exact q1_88) hv kk
theorem pX4_19 {l : Launch} {G : vG} {M : vM} {rc rs : Nat} {Fz : vFin} {pc : Nat} {ls : List (Option Value)} {st : List Value} {n : Nat} {h : AH} {cells slots : Nat} {a : Nat} {fs : List Value} {x : Nat} (ho : M.1.cls = RX4) (hi : M.1.name = "<init>") (hd : decode M.2.1 pc = .ok (.putfield 19, 3)) (he : h a = some (.inr (5, fs))) (hl : 2 < fs.length)  (kk : V l G M rc rs Fz (pc + 3) ls (st) n (va_up h a (some (.inr (5, fs.set 2 (.ref x))))) cells slots) : V l G M rc rs Fz pc ls (.ref x :: .ref a :: st) n h cells slots :=
  v_putf (k := 2) (C := RX4) (T := TX4) (N := 5) hd he rfl inX4 tyX4 tyX4_ok nmX4 (by decide) (by rw [ho]; exact q1_88) (Or.inr ⟨rfl, hi, by rw [ho]; rfl⟩) rfl rfl hl kk
theorem fX4_22 {l : Launch} {G : vG} {M : vM} {rc rs : Nat} {Fz : vFin} {pc : Nat} {ls : List (Option Value)} {st : List Value} {n : Nat} {h : AH} {cells slots : Nat} {a : Nat} {fs : List Value} {v : Value} (ho : M.1.cls = RX4) (hd : decode M.2.1 pc = .ok (.getfield 22, 3)) (he : h a = some (.inr (5, fs))) (hv : fs[3]? = some v) (kk : V l G M rc rs Fz (pc + 3) ls (v :: st) n h cells slots) : V l G M rc rs Fz pc ls (.ref a :: st) n h cells slots :=
  v_getf (k := 3) (C := RX4) (T := TX4) (N := 5) hd he rfl inX4 (by decide) (by rw [ho]; exact q1_91) hv kk
theorem pX4_22 {l : Launch} {G : vG} {M : vM} {rc rs : Nat} {Fz : vFin} {pc : Nat} {ls : List (Option Value)} {st : List Value} {n : Nat} {h : AH} {cells slots : Nat} {a : Nat} {fs : List Value} {x : Nat} (ho : M.1.cls = RX4) (hi : M.1.name = "<init>") (hd : decode M.2.1 pc = .ok (.putfield 22, 3)) (he : h a = some (.inr (5, fs))) (hl : 3 < fs.length)  (kk : V l G M rc rs Fz (pc + 3) ls (st) n (va_up h a (some (.inr (5, fs.set 3 (.ref x))))) cells slots) : V l G M rc rs Fz pc ls (.ref x :: .ref a :: st) n h cells slots :=
  v_putf (k := 3) (C := RX4) (T := TX4) (N := 5) hd he rfl inX4 tyX4 tyX4_ok nmX4 (by decide) (by rw [ho]; exact q1_91) (Or.inr ⟨rfl, hi, by rw [ho]; rfl⟩) rfl rfl hl kk
theorem fX4_25 {l : Launch} {G : vG} {M : vM} {rc rs : Nat} {Fz : vFin} {pc : Nat} {ls : List (Option Value)} {st : List Value} {n : Nat} {h : AH} {cells slots : Nat} {a : Nat} {fs : List Value} {v : Value} (ho : M.1.cls = RX4) (hd : decode M.2.1 pc = .ok (.getfield 25, 3)) (he : h a = some (.inr (5, fs))) (hv : fs[4]? = some v) (kk : V l G M rc rs Fz (pc + 3) ls (v :: st) n h cells slots) : V l G M rc rs Fz pc ls (.ref a :: st) n h cells slots :=
  v_getf (k := 4) (C := RX4) (T := TX4) (N := 5) hd he rfl inX4 (by decide) (by rw [ho]; exact q1_94) hv kk
theorem pX4_25 {l : Launch} {G : vG} {M : vM} {rc rs : Nat} {Fz : vFin} {pc : Nat} {ls : List (Option Value)} {st : List Value} {n : Nat} {h : AH} {cells slots : Nat} {a : Nat} {fs : List Value} {x : Nat} (ho : M.1.cls = RX4) (hi : M.1.name = "<init>") (hd : decode M.2.1 pc = .ok (.putfield 25, 3)) (he : h a = some (.inr (5, fs))) (hl : 4 < fs.length)  (kk : V l G M rc rs Fz (pc + 3) ls (st) n (va_up h a (some (.inr (5, fs.set 4 (.ref x))))) cells slots) : V l G M rc rs Fz pc ls (.ref x :: .ref a :: st) n h cells slots :=
  v_putf (k := 4) (C := RX4) (T := TX4) (N := 5) hd he rfl inX4 tyX4 tyX4_ok nmX4 (by decide) (by rw [ho]; exact q1_94) (Or.inr ⟨rfl, hi, by rw [ho]; rfl⟩) rfl rfl hl kk
theorem fX5_12 {l : Launch} {G : vG} {M : vM} {rc rs : Nat} {Fz : vFin} {pc : Nat} {ls : List (Option Value)} {st : List Value} {n : Nat} {h : AH} {cells slots : Nat} {a : Nat} {fs : List Value} {v : Value} (ho : M.1.cls = RX5) (hd : decode M.2.1 pc = .ok (.getfield 12, 3)) (he : h a = some (.inr (6, fs))) (hv : fs[0]? = some v) (kk : V l G M rc rs Fz (pc + 3) ls (v :: st) n h cells slots) : V l G M rc rs Fz pc ls (.ref a :: st) n h cells slots :=
  v_getf (k := 0) (C := RX5) (T := TX5) (N := 6) hd he rfl inX5 (by decide) (by rw [ho]; exact q1_237) hv kk
theorem pX5_12 {l : Launch} {G : vG} {M : vM} {rc rs : Nat} {Fz : vFin} {pc : Nat} {ls : List (Option Value)} {st : List Value} {n : Nat} {h : AH} {cells slots : Nat} {a : Nat} {fs : List Value} {x : Nat} (ho : M.1.cls = RX5) (hi : M.1.name = "<init>") (hd : decode M.2.1 pc = .ok (.putfield 12, 3)) (he : h a = some (.inr (6, fs))) (hl : 0 < fs.length)  (kk : V l G M rc rs Fz (pc + 3) ls (st) n (va_up h a (some (.inr (6, fs.set 0 (.ref x))))) cells slots) : V l G M rc rs Fz pc ls (.ref x :: .ref a :: st) n h cells slots :=
  v_putf (k := 0) (C := RX5) (T := TX5) (N := 6) hd he rfl inX5 tyX5 tyX5_ok nmX5 (by decide) (by rw [ho]; exact q1_237) (Or.inr ⟨rfl, hi, by rw [ho]; rfl⟩) rfl rfl hl kk
theorem fX5_18 {l : Launch} {G : vG} {M : vM} {rc rs : Nat} {Fz : vFin} {pc : Nat} {ls : List (Option Value)} {st : List Value} {n : Nat} {h : AH} {cells slots : Nat} {a : Nat} {fs : List Value} {v : Value} (ho : M.1.cls = RX5) (hd : decode M.2.1 pc = .ok (.getfield 18, 3)) (he : h a = some (.inr (6, fs))) (hv : fs[1]? = some v) (kk : V l G M rc rs Fz (pc + 3) ls (v :: st) n h cells slots) : V l G M rc rs Fz pc ls (.ref a :: st) n h cells slots :=
  v_getf (k := 1) (C := RX5) (T := TX5) (N := 6) hd he rfl inX5 (by decide) (by rw [ho]; exact q1_239) hv kk
theorem pX5_18 {l : Launch} {G : vG} {M : vM} {rc rs : Nat} {Fz : vFin} {pc : Nat} {ls : List (Option Value)} {st : List Value} {n : Nat} {h : AH} {cells slots : Nat} {a : Nat} {fs : List Value} {x : Int32} (ho : M.1.cls = RX5)  (hd : decode M.2.1 pc = .ok (.putfield 18, 3)) (he : h a = some (.inr (6, fs))) (hl : 1 < fs.length)  (kk : V l G M rc rs Fz (pc + 3) ls (st) n (va_up h a (some (.inr (6, fs.set 1 (.int x))))) cells slots) : V l G M rc rs Fz pc ls (.int x :: .ref a :: st) n h cells slots :=
  v_putf (k := 1) (C := RX5) (T := TX5) (N := 6) hd he rfl inX5 tyX5 tyX5_ok nmX5 (by decide) (by rw [ho]; exact q1_239) (Or.inl rfl) rfl rfl hl kk
theorem fX5_22 {l : Launch} {G : vG} {M : vM} {rc rs : Nat} {Fz : vFin} {pc : Nat} {ls : List (Option Value)} {st : List Value} {n : Nat} {h : AH} {cells slots : Nat} {a : Nat} {fs : List Value} {v : Value} (ho : M.1.cls = RX5) (hd : decode M.2.1 pc = .ok (.getfield 22, 3)) (he : h a = some (.inr (6, fs))) (hv : fs[2]? = some v) (kk : V l G M rc rs Fz (pc + 3) ls (v :: st) n h cells slots) : V l G M rc rs Fz pc ls (.ref a :: st) n h cells slots :=
  v_getf (k := 2) (C := RX5) (T := TX5) (N := 6) hd he rfl inX5 (by decide) (by rw [ho]; exact q2_1) hv kk
theorem pX5_22 {l : Launch} {G : vG} {M : vM} {rc rs : Nat} {Fz : vFin} {pc : Nat} {ls : List (Option Value)} {st : List Value} {n : Nat} {h : AH} {cells slots : Nat} {a : Nat} {fs : List Value} {x : Int32} (ho : M.1.cls = RX5)  (hd : decode M.2.1 pc = .ok (.putfield 22, 3)) (he : h a = some (.inr (6, fs))) (hl : 2 < fs.length)  (kk : V l G M rc rs Fz (pc + 3) ls (st) n (va_up h a (some (.inr (6, fs.set 2 (.int x))))) cells slots) : V l G M rc rs Fz pc ls (.int x :: .ref a :: st) n h cells slots :=
  v_putf (k := 2) (C := RX5) (T := TX5) (N := 6) hd he rfl inX5 tyX5 tyX5_ok nmX5 (by decide) (by rw [ho]; exact q2_1) (Or.inl rfl) rfl rfl hl kk
theorem fX5_25 {l : Launch} {G : vG} {M : vM} {rc rs : Nat} {Fz : vFin} {pc : Nat} {ls : List (Option Value)} {st : List Value} {n : Nat} {h : AH} {cells slots : Nat} {a : Nat} {fs : List Value} {v : Value} (ho : M.1.cls = RX5) (hd : decode M.2.1 pc = .ok (.getfield 25, 3)) (he : h a = some (.inr (6, fs))) (hv : fs[3]? = some v) (kk : V l G M rc rs Fz (pc + 3) ls (v :: st) n h cells slots) : V l G M rc rs Fz pc ls (.ref a :: st) n h cells slots :=
  v_getf (k := 3) (C := RX5) (T := TX5) (N := 6) hd he rfl inX5 (by decide) (by rw [ho]; exact q2_3) hv kk
theorem pX5_25 {l : Launch} {G : vG} {M : vM} {rc rs : Nat} {Fz : vFin} {pc : Nat} {ls : List (Option Value)} {st : List Value} {n : Nat} {h : AH} {cells slots : Nat} {a : Nat} {fs : List Value} {x : Int32} (ho : M.1.cls = RX5)  (hd : decode M.2.1 pc = .ok (.putfield 25, 3)) (he : h a = some (.inr (6, fs))) (hl : 3 < fs.length)  (kk : V l G M rc rs Fz (pc + 3) ls (st) n (va_up h a (some (.inr (6, fs.set 3 (.int x))))) cells slots) : V l G M rc rs Fz pc ls (.int x :: .ref a :: st) n h cells slots :=
  v_putf (k := 3) (C := RX5) (T := TX5) (N := 6) hd he rfl inX5 tyX5 tyX5_ok nmX5 (by decide) (by rw [ho]; exact q2_3) (Or.inl rfl) rfl rfl hl kk
theorem fX5_28 {l : Launch} {G : vG} {M : vM} {rc rs : Nat} {Fz : vFin} {pc : Nat} {ls : List (Option Value)} {st : List Value} {n : Nat} {h : AH} {cells slots : Nat} {a : Nat} {fs : List Value} {v : Value} (ho : M.1.cls = RX5) (hd : decode M.2.1 pc = .ok (.getfield 28, 3)) (he : h a = some (.inr (6, fs))) (hv : fs[4]? = some v) (kk : V l G M rc rs Fz (pc + 3) ls (v :: st) n h cells slots) : V l G M rc rs Fz pc ls (.ref a :: st) n h cells slots :=
  v_getf (k := 4) (C := RX5) (T := TX5) (N := 6) hd he rfl inX5 (by decide) (by rw [ho]; exact q2_4) hv kk
theorem pX5_28 {l : Launch} {G : vG} {M : vM} {rc rs : Nat} {Fz : vFin} {pc : Nat} {ls : List (Option Value)} {st : List Value} {n : Nat} {h : AH} {cells slots : Nat} {a : Nat} {fs : List Value} {x : Nat} (ho : M.1.cls = RX5) (hi : M.1.name = "<init>") (hd : decode M.2.1 pc = .ok (.putfield 28, 3)) (he : h a = some (.inr (6, fs))) (hl : 4 < fs.length)  (kk : V l G M rc rs Fz (pc + 3) ls (st) n (va_up h a (some (.inr (6, fs.set 4 (.ref x))))) cells slots) : V l G M rc rs Fz pc ls (.ref x :: .ref a :: st) n h cells slots :=
  v_putf (k := 4) (C := RX5) (T := TX5) (N := 6) hd he rfl inX5 tyX5 tyX5_ok nmX5 (by decide) (by rw [ho]; exact q2_4) (Or.inr ⟨rfl, hi, by rw [ho]; rfl⟩) rfl rfl hl kk
theorem fX5_32 {l : Launch} {G : vG} {M : vM} {rc rs : Nat} {Fz : vFin} {pc : Nat} {ls : List (Option Value)} {st : List Value} {n : Nat} {h : AH} {cells slots : Nat} {a : Nat} {fs : List Value} {v : Value} (ho : M.1.cls = RX5) (hd : decode M.2.1 pc = .ok (.getfield 32, 3)) (he : h a = some (.inr (6, fs))) (hv : fs[5]? = some v) (kk : V l G M rc rs Fz (pc + 3) ls (v :: st) n h cells slots) : V l G M rc rs Fz pc ls (.ref a :: st) n h cells slots :=
  v_getf (k := 5) (C := RX5) (T := TX5) (N := 6) hd he rfl inX5 (by decide) (by rw [ho]; exact q2_5) hv kk
theorem pX5_32 {l : Launch} {G : vG} {M : vM} {rc rs : Nat} {Fz : vFin} {pc : Nat} {ls : List (Option Value)} {st : List Value} {n : Nat} {h : AH} {cells slots : Nat} {a : Nat} {fs : List Value} {x : Nat} (ho : M.1.cls = RX5) (hi : M.1.name = "<init>") (hd : decode M.2.1 pc = .ok (.putfield 32, 3)) (he : h a = some (.inr (6, fs))) (hl : 5 < fs.length)  (kk : V l G M rc rs Fz (pc + 3) ls (st) n (va_up h a (some (.inr (6, fs.set 5 (.ref x))))) cells slots) : V l G M rc rs Fz pc ls (.ref x :: .ref a :: st) n h cells slots :=
  v_putf (k := 5) (C := RX5) (T := TX5) (N := 6) hd he rfl inX5 tyX5 tyX5_ok nmX5 (by decide) (by rw [ho]; exact q2_5) (Or.inr ⟨rfl, hi, by rw [ho]; rfl⟩) rfl rfl hl kk
theorem fX6_10 {l : Launch} {G : vG} {M : vM} {rc rs : Nat} {Fz : vFin} {pc : Nat} {ls : List (Option Value)} {st : List Value} {n : Nat} {h : AH} {cells slots : Nat} {a : Nat} {fs : List Value} {v : Value} (ho : M.1.cls = RX6) (hd : decode M.2.1 pc = .ok (.getfield 10, 3)) (he : h a = some (.inr (7, fs))) (hv : fs[0]? = some v) (kk : V l G M rc rs Fz (pc + 3) ls (v :: st) n h cells slots) : V l G M rc rs Fz pc ls (.ref a :: st) n h cells slots :=
  v_getf (k := 0) (C := RX6) (T := TX6) (N := 10) hd he rfl inX6 (by decide) (by rw [ho]; exact q2_22) hv kk
theorem pX6_10 {l : Launch} {G : vG} {M : vM} {rc rs : Nat} {Fz : vFin} {pc : Nat} {ls : List (Option Value)} {st : List Value} {n : Nat} {h : AH} {cells slots : Nat} {a : Nat} {fs : List Value} {x : Nat} (ho : M.1.cls = RX6) (hi : M.1.name = "<init>") (hd : decode M.2.1 pc = .ok (.putfield 10, 3)) (he : h a = some (.inr (7, fs))) (hl : 0 < fs.length)  (kk : V l G M rc rs Fz (pc + 3) ls (st) n (va_up h a (some (.inr (7, fs.set 0 (.ref x))))) cells slots) : V l G M rc rs Fz pc ls (.ref x :: .ref a :: st) n h cells slots :=
  v_putf (k := 0) (C := RX6) (T := TX6) (N := 10) hd he rfl inX6 tyX6 tyX6_ok nmX6 (by decide) (by rw [ho]; exact q2_22) (Or.inr ⟨rfl, hi, by rw [ho]; rfl⟩) rfl rfl hl kk
theorem fX6_16 {l : Launch} {G : vG} {M : vM} {rc rs : Nat} {Fz : vFin} {pc : Nat} {ls : List (Option Value)} {st : List Value} {n : Nat} {h : AH} {cells slots : Nat} {a : Nat} {fs : List Value} {v : Value} (ho : M.1.cls = RX6) (hd : decode M.2.1 pc = .ok (.getfield 16, 3)) (he : h a = some (.inr (7, fs))) (hv : fs[1]? = some v) (kk : V l G M rc rs Fz (pc + 3) ls (v :: st) n h cells slots) : V l G M rc rs Fz pc ls (.ref a :: st) n h cells slots :=
  v_getf (k := 1) (C := RX6) (T := TX6) (N := 10) hd he rfl inX6 (by decide) (by rw [ho]; exact q2_23) hv kk
theorem pX6_16 {l : Launch} {G : vG} {M : vM} {rc rs : Nat} {Fz : vFin} {pc : Nat} {ls : List (Option Value)} {st : List Value} {n : Nat} {h : AH} {cells slots : Nat} {a : Nat} {fs : List Value} {x : Nat} (ho : M.1.cls = RX6) (hi : M.1.name = "<init>") (hd : decode M.2.1 pc = .ok (.putfield 16, 3)) (he : h a = some (.inr (7, fs))) (hl : 1 < fs.length)  (kk : V l G M rc rs Fz (pc + 3) ls (st) n (va_up h a (some (.inr (7, fs.set 1 (.ref x))))) cells slots) : V l G M rc rs Fz pc ls (.ref x :: .ref a :: st) n h cells slots :=
  v_putf (k := 1) (C := RX6) (T := TX6) (N := 10) hd he rfl inX6 tyX6 tyX6_ok nmX6 (by decide) (by rw [ho]; exact q2_23) (Or.inr ⟨rfl, hi, by rw [ho]; rfl⟩) rfl rfl hl kk
theorem fX6_19 {l : Launch} {G : vG} {M : vM} {rc rs : Nat} {Fz : vFin} {pc : Nat} {ls : List (Option Value)} {st : List Value} {n : Nat} {h : AH} {cells slots : Nat} {a : Nat} {fs : List Value} {v : Value} (ho : M.1.cls = RX6) (hd : decode M.2.1 pc = .ok (.getfield 19, 3)) (he : h a = some (.inr (7, fs))) (hv : fs[2]? = some v) (kk : V l G M rc rs Fz (pc + 3) ls (v :: st) n h cells slots) : V l G M rc rs Fz pc ls (.ref a :: st) n h cells slots :=
  v_getf (k := 2) (C := RX6) (T := TX6) (N := 10) hd he rfl inX6 (by decide) (by rw [ho]; exact q2_24) hv kk
theorem pX6_19 {l : Launch} {G : vG} {M : vM} {rc rs : Nat} {Fz : vFin} {pc : Nat} {ls : List (Option Value)} {st : List Value} {n : Nat} {h : AH} {cells slots : Nat} {a : Nat} {fs : List Value} {x : Nat} (ho : M.1.cls = RX6) (hi : M.1.name = "<init>") (hd : decode M.2.1 pc = .ok (.putfield 19, 3)) (he : h a = some (.inr (7, fs))) (hl : 2 < fs.length)  (kk : V l G M rc rs Fz (pc + 3) ls (st) n (va_up h a (some (.inr (7, fs.set 2 (.ref x))))) cells slots) : V l G M rc rs Fz pc ls (.ref x :: .ref a :: st) n h cells slots :=
  v_putf (k := 2) (C := RX6) (T := TX6) (N := 10) hd he rfl inX6 tyX6 tyX6_ok nmX6 (by decide) (by rw [ho]; exact q2_24) (Or.inr ⟨rfl, hi, by rw [ho]; rfl⟩) rfl rfl hl kk
theorem fX6_22 {l : Launch} {G : vG} {M : vM} {rc rs : Nat} {Fz : vFin} {pc : Nat} {ls : List (Option Value)} {st : List Value} {n : Nat} {h : AH} {cells slots : Nat} {a : Nat} {fs : List Value} {v : Value} (ho : M.1.cls = RX6) (hd : decode M.2.1 pc = .ok (.getfield 22, 3)) (he : h a = some (.inr (7, fs))) (hv : fs[3]? = some v) (kk : V l G M rc rs Fz (pc + 3) ls (v :: st) n h cells slots) : V l G M rc rs Fz pc ls (.ref a :: st) n h cells slots :=
  v_getf (k := 3) (C := RX6) (T := TX6) (N := 10) hd he rfl inX6 (by decide) (by rw [ho]; exact q2_25) hv kk
theorem pX6_22 {l : Launch} {G : vG} {M : vM} {rc rs : Nat} {Fz : vFin} {pc : Nat} {ls : List (Option Value)} {st : List Value} {n : Nat} {h : AH} {cells slots : Nat} {a : Nat} {fs : List Value} {x : Nat} (ho : M.1.cls = RX6) (hi : M.1.name = "<init>") (hd : decode M.2.1 pc = .ok (.putfield 22, 3)) (he : h a = some (.inr (7, fs))) (hl : 3 < fs.length)  (kk : V l G M rc rs Fz (pc + 3) ls (st) n (va_up h a (some (.inr (7, fs.set 3 (.ref x))))) cells slots) : V l G M rc rs Fz pc ls (.ref x :: .ref a :: st) n h cells slots :=
  v_putf (k := 3) (C := RX6) (T := TX6) (N := 10) hd he rfl inX6 tyX6 tyX6_ok nmX6 (by decide) (by rw [ho]; exact q2_25) (Or.inr ⟨rfl, hi, by rw [ho]; rfl⟩) rfl rfl hl kk
theorem fX6_28 {l : Launch} {G : vG} {M : vM} {rc rs : Nat} {Fz : vFin} {pc : Nat} {ls : List (Option Value)} {st : List Value} {n : Nat} {h : AH} {cells slots : Nat} {a : Nat} {fs : List Value} {v : Value} (ho : M.1.cls = RX6) (hd : decode M.2.1 pc = .ok (.getfield 28, 3)) (he : h a = some (.inr (7, fs))) (hv : fs[4]? = some v) (kk : V l G M rc rs Fz (pc + 3) ls (v :: st) n h cells slots) : V l G M rc rs Fz pc ls (.ref a :: st) n h cells slots :=
  v_getf (k := 4) (C := RX6) (T := TX6) (N := 10) hd he rfl inX6 (by decide) (by rw [ho]; exact q2_26) hv kk
theorem pX6_28 {l : Launch} {G : vG} {M : vM} {rc rs : Nat} {Fz : vFin} {pc : Nat} {ls : List (Option Value)} {st : List Value} {n : Nat} {h : AH} {cells slots : Nat} {a : Nat} {fs : List Value} {x : Nat} (ho : M.1.cls = RX6) (hi : M.1.name = "<init>") (hd : decode M.2.1 pc = .ok (.putfield 28, 3)) (he : h a = some (.inr (7, fs))) (hl : 4 < fs.length)  (kk : V l G M rc rs Fz (pc + 3) ls (st) n (va_up h a (some (.inr (7, fs.set 4 (.ref x))))) cells slots) : V l G M rc rs Fz pc ls (.ref x :: .ref a :: st) n h cells slots :=
  v_putf (k := 4) (C := RX6) (T := TX6) (N := 10) hd he rfl inX6 tyX6 tyX6_ok nmX6 (by decide) (by rw [ho]; exact q2_26) (Or.inr ⟨rfl, hi, by rw [ho]; rfl⟩) rfl rfl hl kk
theorem fX6_35 {l : Launch} {G : vG} {M : vM} {rc rs : Nat} {Fz : vFin} {pc : Nat} {ls : List (Option Value)} {st : List Value} {n : Nat} {h : AH} {cells slots : Nat} {a : Nat} {fs : List Value} {v : Value} (ho : M.1.cls = RX6) (hd : decode M.2.1 pc = .ok (.getfield 35, 3)) (he : h a = some (.inr (7, fs))) (hv : fs[5]? = some v) (kk : V l G M rc rs Fz (pc + 3) ls (v :: st) n h cells slots) : V l G M rc rs Fz pc ls (.ref a :: st) n h cells slots :=
  v_getf (k := 5) (C := RX6) (T := TX6) (N := 10) hd he rfl inX6 (by decide) (by rw [ho]; exact q2_27) hv kk
theorem pX6_35 {l : Launch} {G : vG} {M : vM} {rc rs : Nat} {Fz : vFin} {pc : Nat} {ls : List (Option Value)} {st : List Value} {n : Nat} {h : AH} {cells slots : Nat} {a : Nat} {fs : List Value} {x : Nat} (ho : M.1.cls = RX6) (hi : M.1.name = "<init>") (hd : decode M.2.1 pc = .ok (.putfield 35, 3)) (he : h a = some (.inr (7, fs))) (hl : 5 < fs.length)  (kk : V l G M rc rs Fz (pc + 3) ls (st) n (va_up h a (some (.inr (7, fs.set 5 (.ref x))))) cells slots) : V l G M rc rs Fz pc ls (.ref x :: .ref a :: st) n h cells slots :=
  v_putf (k := 5) (C := RX6) (T := TX6) (N := 10) hd he rfl inX6 tyX6 tyX6_ok nmX6 (by decide) (by rw [ho]; exact q2_27) (Or.inr ⟨rfl, hi, by rw [ho]; rfl⟩) rfl rfl hl kk
theorem fX6_42 {l : Launch} {G : vG} {M : vM} {rc rs : Nat} {Fz : vFin} {pc : Nat} {ls : List (Option Value)} {st : List Value} {n : Nat} {h : AH} {cells slots : Nat} {a : Nat} {fs : List Value} {v : Value} (ho : M.1.cls = RX6) (hd : decode M.2.1 pc = .ok (.getfield 42, 3)) (he : h a = some (.inr (7, fs))) (hv : fs[6]? = some v) (kk : V l G M rc rs Fz (pc + 3) ls (v :: st) n h cells slots) : V l G M rc rs Fz pc ls (.ref a :: st) n h cells slots :=
  v_getf (k := 6) (C := RX6) (T := TX6) (N := 10) hd he rfl inX6 (by decide) (by rw [ho]; exact q2_28) hv kk
theorem pX6_42 {l : Launch} {G : vG} {M : vM} {rc rs : Nat} {Fz : vFin} {pc : Nat} {ls : List (Option Value)} {st : List Value} {n : Nat} {h : AH} {cells slots : Nat} {a : Nat} {fs : List Value} {x : Nat} (ho : M.1.cls = RX6) (hi : M.1.name = "<init>") (hd : decode M.2.1 pc = .ok (.putfield 42, 3)) (he : h a = some (.inr (7, fs))) (hl : 6 < fs.length)  (kk : V l G M rc rs Fz (pc + 3) ls (st) n (va_up h a (some (.inr (7, fs.set 6 (.ref x))))) cells slots) : V l G M rc rs Fz pc ls (.ref x :: .ref a :: st) n h cells slots :=
  v_putf (k := 6) (C := RX6) (T := TX6) (N := 10) hd he rfl inX6 tyX6 tyX6_ok nmX6 (by decide) (by rw [ho]; exact q2_28) (Or.inr ⟨rfl, hi, by rw [ho]; rfl⟩) rfl rfl hl kk
theorem fX6_46 {l : Launch} {G : vG} {M : vM} {rc rs : Nat} {Fz : vFin} {pc : Nat} {ls : List (Option Value)} {st : List Value} {n : Nat} {h : AH} {cells slots : Nat} {a : Nat} {fs : List Value} {v : Value} (ho : M.1.cls = RX6) (hd : decode M.2.1 pc = .ok (.getfield 46, 3)) (he : h a = some (.inr (7, fs))) (hv : fs[7]? = some v) (kk : V l G M rc rs Fz (pc + 3) ls (v :: st) n h cells slots) : V l G M rc rs Fz pc ls (.ref a :: st) n h cells slots :=
  v_getf (k := 7) (C := RX6) (T := TX6) (N := 10) hd he rfl inX6 (by decide) (by rw [ho]; exact q2_29) hv kk
theorem pX6_46 {l : Launch} {G : vG} {M : vM} {rc rs : Nat} {Fz : vFin} {pc : Nat} {ls : List (Option Value)} {st : List Value} {n : Nat} {h : AH} {cells slots : Nat} {a : Nat} {fs : List Value} {x : Int32} (ho : M.1.cls = RX6)  (hd : decode M.2.1 pc = .ok (.putfield 46, 3)) (he : h a = some (.inr (7, fs))) (hl : 7 < fs.length) (hn : narrow .boolean (.int x) = .int x) (hfit : fits .boolean (.int x) = true) (kk : V l G M rc rs Fz (pc + 3) ls (st) n (va_up h a (some (.inr (7, fs.set 7 (.int x))))) cells slots) : V l G M rc rs Fz pc ls (.int x :: .ref a :: st) n h cells slots :=
  v_putf (k := 7) (C := RX6) (T := TX6) (N := 10) hd he rfl inX6 tyX6 tyX6_ok nmX6 (by decide) (by rw [ho]; exact q2_29) (Or.inl rfl) hn hfit hl kk
theorem fX6_50 {l : Launch} {G : vG} {M : vM} {rc rs : Nat} {Fz : vFin} {pc : Nat} {ls : List (Option Value)} {st : List Value} {n : Nat} {h : AH} {cells slots : Nat} {a : Nat} {fs : List Value} {v : Value} (ho : M.1.cls = RX6) (hd : decode M.2.1 pc = .ok (.getfield 50, 3)) (he : h a = some (.inr (7, fs))) (hv : fs[8]? = some v) (kk : V l G M rc rs Fz (pc + 3) ls (v :: st) n h cells slots) : V l G M rc rs Fz pc ls (.ref a :: st) n h cells slots :=
  v_getf (k := 8) (C := RX6) (T := TX6) (N := 10) hd he rfl inX6 (by decide) (by rw [ho]; exact q2_30) hv kk
theorem pX6_50 {l : Launch} {G : vG} {M : vM} {rc rs : Nat} {Fz : vFin} {pc : Nat} {ls : List (Option Value)} {st : List Value} {n : Nat} {h : AH} {cells slots : Nat} {a : Nat} {fs : List Value} {x : Int32} (ho : M.1.cls = RX6)  (hd : decode M.2.1 pc = .ok (.putfield 50, 3)) (he : h a = some (.inr (7, fs))) (hl : 8 < fs.length)  (kk : V l G M rc rs Fz (pc + 3) ls (st) n (va_up h a (some (.inr (7, fs.set 8 (.int x))))) cells slots) : V l G M rc rs Fz pc ls (.int x :: .ref a :: st) n h cells slots :=
  v_putf (k := 8) (C := RX6) (T := TX6) (N := 10) hd he rfl inX6 tyX6 tyX6_ok nmX6 (by decide) (by rw [ho]; exact q2_30) (Or.inl rfl) rfl rfl hl kk
theorem fX6_54 {l : Launch} {G : vG} {M : vM} {rc rs : Nat} {Fz : vFin} {pc : Nat} {ls : List (Option Value)} {st : List Value} {n : Nat} {h : AH} {cells slots : Nat} {a : Nat} {fs : List Value} {v : Value} (ho : M.1.cls = RX6) (hd : decode M.2.1 pc = .ok (.getfield 54, 3)) (he : h a = some (.inr (7, fs))) (hv : fs[9]? = some v) (kk : V l G M rc rs Fz (pc + 3) ls (v :: st) n h cells slots) : V l G M rc rs Fz pc ls (.ref a :: st) n h cells slots :=
  v_getf (k := 9) (C := RX6) (T := TX6) (N := 10) hd he rfl inX6 (by decide) (by rw [ho]; exact q2_31) hv kk
theorem pX6_54 {l : Launch} {G : vG} {M : vM} {rc rs : Nat} {Fz : vFin} {pc : Nat} {ls : List (Option Value)} {st : List Value} {n : Nat} {h : AH} {cells slots : Nat} {a : Nat} {fs : List Value} {x : Int32} (ho : M.1.cls = RX6)  (hd : decode M.2.1 pc = .ok (.putfield 54, 3)) (he : h a = some (.inr (7, fs))) (hl : 9 < fs.length)  (kk : V l G M rc rs Fz (pc + 3) ls (st) n (va_up h a (some (.inr (7, fs.set 9 (.int x))))) cells slots) : V l G M rc rs Fz pc ls (.int x :: .ref a :: st) n h cells slots :=
  v_putf (k := 9) (C := RX6) (T := TX6) (N := 10) hd he rfl inX6 tyX6 tyX6_ok nmX6 (by decide) (by rw [ho]; exact q2_31) (Or.inl rfl) rfl rfl hl kk
theorem fX6_81 {l : Launch} {G : vG} {M : vM} {rc rs : Nat} {Fz : vFin} {pc : Nat} {ls : List (Option Value)} {st : List Value} {n : Nat} {h : AH} {cells slots : Nat} {a : Nat} {fs : List Value} {v : Value} (ho : M.1.cls = RX6) (hd : decode M.2.1 pc = .ok (.getfield 81, 3)) (he : h a = some (.inr (2, fs))) (hv : fs[0]? = some v) (kk : V l G M rc rs Fz (pc + 3) ls (v :: st) n h cells slots) : V l G M rc rs Fz pc ls (.ref a :: st) n h cells slots :=
  v_getf (k := 0) (C := RX1) (T := TX1) (N := 10) hd he rfl inX1 (by decide) (by rw [ho]; exact q1_139) hv kk
theorem fX6_91 {l : Launch} {G : vG} {M : vM} {rc rs : Nat} {Fz : vFin} {pc : Nat} {ls : List (Option Value)} {st : List Value} {n : Nat} {h : AH} {cells slots : Nat} {a : Nat} {fs : List Value} {v : Value} (ho : M.1.cls = RX6) (hd : decode M.2.1 pc = .ok (.getfield 91, 3)) (he : h a = some (.inr (3, fs))) (hv : fs[1]? = some v) (kk : V l G M rc rs Fz (pc + 3) ls (v :: st) n h cells slots) : V l G M rc rs Fz pc ls (.ref a :: st) n h cells slots :=
  v_getf (k := 1) (C := RX2) (T := TX2) (N := 7) hd he rfl inX2 (by decide) (by rw [ho]; exact q1_43) hv kk
theorem fX6_95 {l : Launch} {G : vG} {M : vM} {rc rs : Nat} {Fz : vFin} {pc : Nat} {ls : List (Option Value)} {st : List Value} {n : Nat} {h : AH} {cells slots : Nat} {a : Nat} {fs : List Value} {v : Value} (ho : M.1.cls = RX6) (hd : decode M.2.1 pc = .ok (.getfield 95, 3)) (he : h a = some (.inr (3, fs))) (hv : fs[2]? = some v) (kk : V l G M rc rs Fz (pc + 3) ls (v :: st) n h cells slots) : V l G M rc rs Fz pc ls (.ref a :: st) n h cells slots :=
  v_getf (k := 2) (C := RX2) (T := TX2) (N := 7) hd he rfl inX2 (by decide) (by rw [ho]; exact q1_46) hv kk
theorem fX6_98 {l : Launch} {G : vG} {M : vM} {rc rs : Nat} {Fz : vFin} {pc : Nat} {ls : List (Option Value)} {st : List Value} {n : Nat} {h : AH} {cells slots : Nat} {a : Nat} {fs : List Value} {v : Value} (ho : M.1.cls = RX6) (hd : decode M.2.1 pc = .ok (.getfield 98, 3)) (he : h a = some (.inr (3, fs))) (hv : fs[3]? = some v) (kk : V l G M rc rs Fz (pc + 3) ls (v :: st) n h cells slots) : V l G M rc rs Fz pc ls (.ref a :: st) n h cells slots :=
  v_getf (k := 3) (C := RX2) (T := TX2) (N := 7) hd he rfl inX2 (by decide) (by rw [ho]; exact q1_49) hv kk
theorem fX6_101 {l : Launch} {G : vG} {M : vM} {rc rs : Nat} {Fz : vFin} {pc : Nat} {ls : List (Option Value)} {st : List Value} {n : Nat} {h : AH} {cells slots : Nat} {a : Nat} {fs : List Value} {v : Value} (ho : M.1.cls = RX6) (hd : decode M.2.1 pc = .ok (.getfield 101, 3)) (he : h a = some (.inr (3, fs))) (hv : fs[4]? = some v) (kk : V l G M rc rs Fz (pc + 3) ls (v :: st) n h cells slots) : V l G M rc rs Fz pc ls (.ref a :: st) n h cells slots :=
  v_getf (k := 4) (C := RX2) (T := TX2) (N := 7) hd he rfl inX2 (by decide) (by rw [ho]; exact q1_52) hv kk
theorem fX6_107 {l : Launch} {G : vG} {M : vM} {rc rs : Nat} {Fz : vFin} {pc : Nat} {ls : List (Option Value)} {st : List Value} {n : Nat} {h : AH} {cells slots : Nat} {a : Nat} {fs : List Value} {v : Value} (ho : M.1.cls = RX6) (hd : decode M.2.1 pc = .ok (.getfield 107, 3)) (he : h a = some (.inr (2, fs))) (hv : fs[2]? = some v) (kk : V l G M rc rs Fz (pc + 3) ls (v :: st) n h cells slots) : V l G M rc rs Fz pc ls (.ref a :: st) n h cells slots :=
  v_getf (k := 2) (C := RX1) (T := TX1) (N := 10) hd he rfl inX1 (by decide) (by rw [ho]; exact q1_143) hv kk
theorem fX6_111 {l : Launch} {G : vG} {M : vM} {rc rs : Nat} {Fz : vFin} {pc : Nat} {ls : List (Option Value)} {st : List Value} {n : Nat} {h : AH} {cells slots : Nat} {a : Nat} {fs : List Value} {v : Value} (ho : M.1.cls = RX6) (hd : decode M.2.1 pc = .ok (.getfield 111, 3)) (he : h a = some (.inr (1, fs))) (hv : fs[1]? = some v) (kk : V l G M rc rs Fz (pc + 3) ls (v :: st) n h cells slots) : V l G M rc rs Fz pc ls (.ref a :: st) n h cells slots :=
  v_getf (k := 1) (C := RX0) (T := TX0) (N := 5) hd he rfl inX0 (by decide) (by rw [ho]; exact q1_116) hv kk
theorem fX6_120 {l : Launch} {G : vG} {M : vM} {rc rs : Nat} {Fz : vFin} {pc : Nat} {ls : List (Option Value)} {st : List Value} {n : Nat} {h : AH} {cells slots : Nat} {a : Nat} {fs : List Value} {v : Value} (ho : M.1.cls = RX6) (hd : decode M.2.1 pc = .ok (.getfield 120, 3)) (he : h a = some (.inr (3, fs))) (hv : fs[5]? = some v) (kk : V l G M rc rs Fz (pc + 3) ls (v :: st) n h cells slots) : V l G M rc rs Fz pc ls (.ref a :: st) n h cells slots :=
  v_getf (k := 5) (C := RX2) (T := TX2) (N := 7) hd he rfl inX2 (by decide) (by rw [ho]; exact q1_55) hv kk
theorem fX6_123 {l : Launch} {G : vG} {M : vM} {rc rs : Nat} {Fz : vFin} {pc : Nat} {ls : List (Option Value)} {st : List Value} {n : Nat} {h : AH} {cells slots : Nat} {a : Nat} {fs : List Value} {v : Value} (ho : M.1.cls = RX6) (hd : decode M.2.1 pc = .ok (.getfield 123, 3)) (he : h a = some (.inr (3, fs))) (hv : fs[6]? = some v) (kk : V l G M rc rs Fz (pc + 3) ls (v :: st) n h cells slots) : V l G M rc rs Fz pc ls (.ref a :: st) n h cells slots :=
  v_getf (k := 6) (C := RX2) (T := TX2) (N := 7) hd he rfl inX2 (by decide) (by rw [ho]; exact q1_58) hv kk
theorem fX6_126 {l : Launch} {G : vG} {M : vM} {rc rs : Nat} {Fz : vFin} {pc : Nat} {ls : List (Option Value)} {st : List Value} {n : Nat} {h : AH} {cells slots : Nat} {a : Nat} {fs : List Value} {v : Value} (ho : M.1.cls = RX6) (hd : decode M.2.1 pc = .ok (.getfield 126, 3)) (he : h a = some (.inr (2, fs))) (hv : fs[1]? = some v) (kk : V l G M rc rs Fz (pc + 3) ls (v :: st) n h cells slots) : V l G M rc rs Fz pc ls (.ref a :: st) n h cells slots :=
  v_getf (k := 1) (C := RX1) (T := TX1) (N := 10) hd he rfl inX1 (by decide) (by rw [ho]; exact q1_141) hv kk
theorem fX6_133 {l : Launch} {G : vG} {M : vM} {rc rs : Nat} {Fz : vFin} {pc : Nat} {ls : List (Option Value)} {st : List Value} {n : Nat} {h : AH} {cells slots : Nat} {a : Nat} {fs : List Value} {v : Value} (ho : M.1.cls = RX6) (hd : decode M.2.1 pc = .ok (.getfield 133, 3)) (he : h a = some (.inr (5, fs))) (hv : fs[1]? = some v) (kk : V l G M rc rs Fz (pc + 3) ls (v :: st) n h cells slots) : V l G M rc rs Fz pc ls (.ref a :: st) n h cells slots :=
  v_getf (k := 1) (C := RX4) (T := TX4) (N := 5) hd he rfl inX4 (by decide) (by rw [ho]; exact q1_86) hv kk
theorem fX6_139 {l : Launch} {G : vG} {M : vM} {rc rs : Nat} {Fz : vFin} {pc : Nat} {ls : List (Option Value)} {st : List Value} {n : Nat} {h : AH} {cells slots : Nat} {a : Nat} {fs : List Value} {v : Value} (ho : M.1.cls = RX6) (hd : decode M.2.1 pc = .ok (.getfield 139, 3)) (he : h a = some (.inr (5, fs))) (hv : fs[2]? = some v) (kk : V l G M rc rs Fz (pc + 3) ls (v :: st) n h cells slots) : V l G M rc rs Fz pc ls (.ref a :: st) n h cells slots :=
  v_getf (k := 2) (C := RX4) (T := TX4) (N := 5) hd he rfl inX4 (by decide) (by rw [ho]; exact q1_90) hv kk
theorem fX6_142 {l : Launch} {G : vG} {M : vM} {rc rs : Nat} {Fz : vFin} {pc : Nat} {ls : List (Option Value)} {st : List Value} {n : Nat} {h : AH} {cells slots : Nat} {a : Nat} {fs : List Value} {v : Value} (ho : M.1.cls = RX6) (hd : decode M.2.1 pc = .ok (.getfield 142, 3)) (he : h a = some (.inr (5, fs))) (hv : fs[3]? = some v) (kk : V l G M rc rs Fz (pc + 3) ls (v :: st) n h cells slots) : V l G M rc rs Fz pc ls (.ref a :: st) n h cells slots :=
  v_getf (k := 3) (C := RX4) (T := TX4) (N := 5) hd he rfl inX4 (by decide) (by rw [ho]; exact q1_93) hv kk
theorem fX6_145 {l : Launch} {G : vG} {M : vM} {rc rs : Nat} {Fz : vFin} {pc : Nat} {ls : List (Option Value)} {st : List Value} {n : Nat} {h : AH} {cells slots : Nat} {a : Nat} {fs : List Value} {v : Value} (ho : M.1.cls = RX6) (hd : decode M.2.1 pc = .ok (.getfield 145, 3)) (he : h a = some (.inr (2, fs))) (hv : fs[5]? = some v) (kk : V l G M rc rs Fz (pc + 3) ls (v :: st) n h cells slots) : V l G M rc rs Fz pc ls (.ref a :: st) n h cells slots :=
  v_getf (k := 5) (C := RX1) (T := TX1) (N := 10) hd he rfl inX1 (by decide) (by rw [ho]; exact q1_149) hv kk
theorem pX6_145 {l : Launch} {G : vG} {M : vM} {rc rs : Nat} {Fz : vFin} {pc : Nat} {ls : List (Option Value)} {st : List Value} {n : Nat} {h : AH} {cells slots : Nat} {a : Nat} {fs : List Value} {x : Int32} (ho : M.1.cls = RX6)  (hd : decode M.2.1 pc = .ok (.putfield 145, 3)) (he : h a = some (.inr (2, fs))) (hl : 5 < fs.length)  (kk : V l G M rc rs Fz (pc + 3) ls (st) n (va_up h a (some (.inr (2, fs.set 5 (.int x))))) cells slots) : V l G M rc rs Fz pc ls (.int x :: .ref a :: st) n h cells slots :=
  v_putf (k := 5) (C := RX1) (T := TX1) (N := 10) hd he rfl inX1 tyX1 tyX1_ok nmX1 (by decide) (by rw [ho]; exact q1_149) (Or.inl rfl) rfl rfl hl kk
theorem fX6_151 {l : Launch} {G : vG} {M : vM} {rc rs : Nat} {Fz : vFin} {pc : Nat} {ls : List (Option Value)} {st : List Value} {n : Nat} {h : AH} {cells slots : Nat} {a : Nat} {fs : List Value} {v : Value} (ho : M.1.cls = RX6) (hd : decode M.2.1 pc = .ok (.getfield 151, 3)) (he : h a = some (.inr (1, fs))) (hv : fs[2]? = some v) (kk : V l G M rc rs Fz (pc + 3) ls (v :: st) n h cells slots) : V l G M rc rs Fz pc ls (.ref a :: st) n h cells slots :=
  v_getf (k := 2) (C := RX0) (T := TX0) (N := 5) hd he rfl inX0 (by decide) (by rw [ho]; exact q1_119) hv kk
theorem fX6_161 {l : Launch} {G : vG} {M : vM} {rc rs : Nat} {Fz : vFin} {pc : Nat} {ls : List (Option Value)} {st : List Value} {n : Nat} {h : AH} {cells slots : Nat} {a : Nat} {fs : List Value} {v : Value} (ho : M.1.cls = RX6) (hd : decode M.2.1 pc = .ok (.getfield 161, 3)) (he : h a = some (.inr (2, fs))) (hv : fs[3]? = some v) (kk : V l G M rc rs Fz (pc + 3) ls (v :: st) n h cells slots) : V l G M rc rs Fz pc ls (.ref a :: st) n h cells slots :=
  v_getf (k := 3) (C := RX1) (T := TX1) (N := 10) hd he rfl inX1 (by decide) (by rw [ho]; exact q1_145) hv kk
theorem fX6_167 {l : Launch} {G : vG} {M : vM} {rc rs : Nat} {Fz : vFin} {pc : Nat} {ls : List (Option Value)} {st : List Value} {n : Nat} {h : AH} {cells slots : Nat} {a : Nat} {fs : List Value} {v : Value} (ho : M.1.cls = RX6) (hd : decode M.2.1 pc = .ok (.getfield 167, 3)) (he : h a = some (.inr (2, fs))) (hv : fs[4]? = some v) (kk : V l G M rc rs Fz (pc + 3) ls (v :: st) n h cells slots) : V l G M rc rs Fz pc ls (.ref a :: st) n h cells slots :=
  v_getf (k := 4) (C := RX1) (T := TX1) (N := 10) hd he rfl inX1 (by decide) (by rw [ho]; exact q1_147) hv kk
theorem fX6_170 {l : Launch} {G : vG} {M : vM} {rc rs : Nat} {Fz : vFin} {pc : Nat} {ls : List (Option Value)} {st : List Value} {n : Nat} {h : AH} {cells slots : Nat} {a : Nat} {fs : List Value} {v : Value} (ho : M.1.cls = RX6) (hd : decode M.2.1 pc = .ok (.getfield 170, 3)) (he : h a = some (.inr (1, fs))) (hv : fs[3]? = some v) (kk : V l G M rc rs Fz (pc + 3) ls (v :: st) n h cells slots) : V l G M rc rs Fz pc ls (.ref a :: st) n h cells slots :=
  v_getf (k := 3) (C := RX0) (T := TX0) (N := 5) hd he rfl inX0 (by decide) (by rw [ho]; exact q1_122) hv kk
theorem fX6_187 {l : Launch} {G : vG} {M : vM} {rc rs : Nat} {Fz : vFin} {pc : Nat} {ls : List (Option Value)} {st : List Value} {n : Nat} {h : AH} {cells slots : Nat} {a : Nat} {fs : List Value} {v : Value} (ho : M.1.cls = RX6) (hd : decode M.2.1 pc = .ok (.getfield 187, 3)) (he : h a = some (.inr (1, fs))) (hv : fs[0]? = some v) (kk : V l G M rc rs Fz (pc + 3) ls (v :: st) n h cells slots) : V l G M rc rs Fz pc ls (.ref a :: st) n h cells slots :=
  v_getf (k := 0) (C := RX0) (T := TX0) (N := 5) hd he rfl inX0 (by decide) (by rw [ho]; exact q1_114) hv kk
theorem fX6_190 {l : Launch} {G : vG} {M : vM} {rc rs : Nat} {Fz : vFin} {pc : Nat} {ls : List (Option Value)} {st : List Value} {n : Nat} {h : AH} {cells slots : Nat} {a : Nat} {fs : List Value} {v : Value} (ho : M.1.cls = RX6) (hd : decode M.2.1 pc = .ok (.getfield 190, 3)) (he : h a = some (.inr (1, fs))) (hv : fs[4]? = some v) (kk : V l G M rc rs Fz (pc + 3) ls (v :: st) n h cells slots) : V l G M rc rs Fz pc ls (.ref a :: st) n h cells slots :=
  v_getf (k := 4) (C := RX0) (T := TX0) (N := 5) hd he rfl inX0 (by decide) (by rw [ho]; exact q1_126) hv kk
theorem fX6_218 {l : Launch} {G : vG} {M : vM} {rc rs : Nat} {Fz : vFin} {pc : Nat} {ls : List (Option Value)} {st : List Value} {n : Nat} {h : AH} {cells slots : Nat} {a : Nat} {fs : List Value} {v : Value} (ho : M.1.cls = RX6) (hd : decode M.2.1 pc = .ok (.getfield 218, 3)) (he : h a = some (.inr (6, fs))) (hv : fs[0]? = some v) (kk : V l G M rc rs Fz (pc + 3) ls (v :: st) n h cells slots) : V l G M rc rs Fz pc ls (.ref a :: st) n h cells slots :=
  v_getf (k := 0) (C := RX5) (T := TX5) (N := 6) hd he rfl inX5 (by decide) (by rw [ho]; exact q1_238) hv kk
theorem fX6_236 {l : Launch} {G : vG} {M : vM} {rc rs : Nat} {Fz : vFin} {pc : Nat} {ls : List (Option Value)} {st : List Value} {n : Nat} {h : AH} {cells slots : Nat} {a : Nat} {fs : List Value} {v : Value} (ho : M.1.cls = RX6) (hd : decode M.2.1 pc = .ok (.getfield 236, 3)) (he : h a = some (.inr (6, fs))) (hv : fs[2]? = some v) (kk : V l G M rc rs Fz (pc + 3) ls (v :: st) n h cells slots) : V l G M rc rs Fz pc ls (.ref a :: st) n h cells slots :=
  v_getf (k := 2) (C := RX5) (T := TX5) (N := 6) hd he rfl inX5 (by decide) (by rw [ho]; exact q2_2) hv kk
theorem fX6_239 {l : Launch} {G : vG} {M : vM} {rc rs : Nat} {Fz : vFin} {pc : Nat} {ls : List (Option Value)} {st : List Value} {n : Nat} {h : AH} {cells slots : Nat} {a : Nat} {fs : List Value} {v : Value} (ho : M.1.cls = RX6) (hd : decode M.2.1 pc = .ok (.getfield 239, 3)) (he : h a = some (.inr (6, fs))) (hv : fs[1]? = some v) (kk : V l G M rc rs Fz (pc + 3) ls (v :: st) n h cells slots) : V l G M rc rs Fz pc ls (.ref a :: st) n h cells slots :=
  v_getf (k := 1) (C := RX5) (T := TX5) (N := 6) hd he rfl inX5 (by decide) (by rw [ho]; exact q2_0) hv kk
theorem fX6_257 {l : Launch} {G : vG} {M : vM} {rc rs : Nat} {Fz : vFin} {pc : Nat} {ls : List (Option Value)} {st : List Value} {n : Nat} {h : AH} {cells slots : Nat} {a : Nat} {fs : List Value} {v : Value} (ho : M.1.cls = RX6) (hd : decode M.2.1 pc = .ok (.getfield 257, 3)) (he : h a = some (.inr (3, fs))) (hv : fs[0]? = some v) (kk : V l G M rc rs Fz (pc + 3) ls (v :: st) n h cells slots) : V l G M rc rs Fz pc ls (.ref a :: st) n h cells slots :=
  v_getf (k := 0) (C := RX2) (T := TX2) (N := 7) hd he rfl inX2 (by decide) (by rw [ho]; exact q1_41) hv kk
theorem fX6_258 {l : Launch} {G : vG} {M : vM} {rc rs : Nat} {Fz : vFin} {pc : Nat} {ls : List (Option Value)} {st : List Value} {n : Nat} {h : AH} {cells slots : Nat} {a : Nat} {fs : List Value} {v : Value} (ho : M.1.cls = RX6) (hd : decode M.2.1 pc = .ok (.getfield 258, 3)) (he : h a = some (.inr (5, fs))) (hv : fs[0]? = some v) (kk : V l G M rc rs Fz (pc + 3) ls (v :: st) n h cells slots) : V l G M rc rs Fz pc ls (.ref a :: st) n h cells slots :=
  v_getf (k := 0) (C := RX4) (T := TX4) (N := 5) hd he rfl inX4 (by decide) (by rw [ho]; exact q1_84) hv kk
theorem fX6_259 {l : Launch} {G : vG} {M : vM} {rc rs : Nat} {Fz : vFin} {pc : Nat} {ls : List (Option Value)} {st : List Value} {n : Nat} {h : AH} {cells slots : Nat} {a : Nat} {fs : List Value} {v : Value} (ho : M.1.cls = RX6) (hd : decode M.2.1 pc = .ok (.getfield 259, 3)) (he : h a = some (.inr (2, fs))) (hv : fs[6]? = some v) (kk : V l G M rc rs Fz (pc + 3) ls (v :: st) n h cells slots) : V l G M rc rs Fz pc ls (.ref a :: st) n h cells slots :=
  v_getf (k := 6) (C := RX1) (T := TX1) (N := 10) hd he rfl inX1 (by decide) (by rw [ho]; exact q1_151) hv kk
theorem pX6_259 {l : Launch} {G : vG} {M : vM} {rc rs : Nat} {Fz : vFin} {pc : Nat} {ls : List (Option Value)} {st : List Value} {n : Nat} {h : AH} {cells slots : Nat} {a : Nat} {fs : List Value} {x : Int32} (ho : M.1.cls = RX6)  (hd : decode M.2.1 pc = .ok (.putfield 259, 3)) (he : h a = some (.inr (2, fs))) (hl : 6 < fs.length)  (kk : V l G M rc rs Fz (pc + 3) ls (st) n (va_up h a (some (.inr (2, fs.set 6 (.int x))))) cells slots) : V l G M rc rs Fz pc ls (.int x :: .ref a :: st) n h cells slots :=
  v_putf (k := 6) (C := RX1) (T := TX1) (N := 10) hd he rfl inX1 tyX1 tyX1_ok nmX1 (by decide) (by rw [ho]; exact q1_151) (Or.inl rfl) rfl rfl hl kk
theorem fX6_262 {l : Launch} {G : vG} {M : vM} {rc rs : Nat} {Fz : vFin} {pc : Nat} {ls : List (Option Value)} {st : List Value} {n : Nat} {h : AH} {cells slots : Nat} {a : Nat} {fs : List Value} {v : Value} (ho : M.1.cls = RX6) (hd : decode M.2.1 pc = .ok (.getfield 262, 3)) (he : h a = some (.inr (2, fs))) (hv : fs[7]? = some v) (kk : V l G M rc rs Fz (pc + 3) ls (v :: st) n h cells slots) : V l G M rc rs Fz pc ls (.ref a :: st) n h cells slots :=
  v_getf (k := 7) (C := RX1) (T := TX1) (N := 10) hd he rfl inX1 (by decide) (by rw [ho]; exact q1_153) hv kk
theorem fX6_265 {l : Launch} {G : vG} {M : vM} {rc rs : Nat} {Fz : vFin} {pc : Nat} {ls : List (Option Value)} {st : List Value} {n : Nat} {h : AH} {cells slots : Nat} {a : Nat} {fs : List Value} {v : Value} (ho : M.1.cls = RX6) (hd : decode M.2.1 pc = .ok (.getfield 265, 3)) (he : h a = some (.inr (2, fs))) (hv : fs[8]? = some v) (kk : V l G M rc rs Fz (pc + 3) ls (v :: st) n h cells slots) : V l G M rc rs Fz pc ls (.ref a :: st) n h cells slots :=
  v_getf (k := 8) (C := RX1) (T := TX1) (N := 10) hd he rfl inX1 (by decide) (by rw [ho]; exact q1_155) hv kk
theorem fX6_268 {l : Launch} {G : vG} {M : vM} {rc rs : Nat} {Fz : vFin} {pc : Nat} {ls : List (Option Value)} {st : List Value} {n : Nat} {h : AH} {cells slots : Nat} {a : Nat} {fs : List Value} {v : Value} (ho : M.1.cls = RX6) (hd : decode M.2.1 pc = .ok (.getfield 268, 3)) (he : h a = some (.inr (2, fs))) (hv : fs[9]? = some v) (kk : V l G M rc rs Fz (pc + 3) ls (v :: st) n h cells slots) : V l G M rc rs Fz pc ls (.ref a :: st) n h cells slots :=
  v_getf (k := 9) (C := RX1) (T := TX1) (N := 10) hd he rfl inX1 (by decide) (by rw [ho]; exact q1_157) hv kk
theorem fX6_274 {l : Launch} {G : vG} {M : vM} {rc rs : Nat} {Fz : vFin} {pc : Nat} {ls : List (Option Value)} {st : List Value} {n : Nat} {h : AH} {cells slots : Nat} {a : Nat} {fs : List Value} {v : Value} (ho : M.1.cls = RX6) (hd : decode M.2.1 pc = .ok (.getfield 274, 3)) (he : h a = some (.inr (4, fs))) (hv : fs[0]? = some v) (kk : V l G M rc rs Fz (pc + 3) ls (v :: st) n h cells slots) : V l G M rc rs Fz pc ls (.ref a :: st) n h cells slots :=
  v_getf (k := 0) (C := RX3) (T := TX3) (N := 3) hd he rfl inX3 (by decide) (by rw [ho]; exact q1_189) hv kk
theorem fX7_7 {l : Launch} {G : vG} {M : vM} {rc rs : Nat} {Fz : vFin} {pc : Nat} {ls : List (Option Value)} {st : List Value} {n : Nat} {h : AH} {cells slots : Nat} {a : Nat} {fs : List Value} {v : Value} (ho : M.1.cls = RX7) (hd : decode M.2.1 pc = .ok (.getfield 7, 3)) (he : h a = some (.inr (8, fs))) (hv : fs[5]? = some v) (kk : V l G M rc rs Fz (pc + 3) ls (v :: st) n h cells slots) : V l G M rc rs Fz pc ls (.ref a :: st) n h cells slots :=
  v_getf (k := 5) (C := RX7) (T := TX7) (N := 18) hd he rfl inX7 (by decide) (by rw [ho]; exact q5_1) hv kk
theorem pX7_7 {l : Launch} {G : vG} {M : vM} {rc rs : Nat} {Fz : vFin} {pc : Nat} {ls : List (Option Value)} {st : List Value} {n : Nat} {h : AH} {cells slots : Nat} {a : Nat} {fs : List Value} {x : Nat} (ho : M.1.cls = RX7) (hi : M.1.name = "<init>") (hd : decode M.2.1 pc = .ok (.putfield 7, 3)) (he : h a = some (.inr (8, fs))) (hl : 5 < fs.length)  (kk : V l G M rc rs Fz (pc + 3) ls (st) n (va_up h a (some (.inr (8, fs.set 5 (.ref x))))) cells slots) : V l G M rc rs Fz pc ls (.ref x :: .ref a :: st) n h cells slots :=
  v_putf (k := 5) (C := RX7) (T := TX7) (N := 18) hd he rfl inX7 tyX7 tyX7_ok nmX7 (by decide) (by rw [ho]; exact q5_1) (Or.inr ⟨rfl, hi, by rw [ho]; rfl⟩) rfl rfl hl kk
theorem fX7_13 {l : Launch} {G : vG} {M : vM} {rc rs : Nat} {Fz : vFin} {pc : Nat} {ls : List (Option Value)} {st : List Value} {n : Nat} {h : AH} {cells slots : Nat} {a : Nat} {fs : List Value} {v : Value} (ho : M.1.cls = RX7) (hd : decode M.2.1 pc = .ok (.getfield 13, 3)) (he : h a = some (.inr (8, fs))) (hv : fs[6]? = some v) (kk : V l G M rc rs Fz (pc + 3) ls (v :: st) n h cells slots) : V l G M rc rs Fz pc ls (.ref a :: st) n h cells slots :=
  v_getf (k := 6) (C := RX7) (T := TX7) (N := 18) hd he rfl inX7 (by decide) (by rw [ho]; exact q5_2) hv kk
theorem pX7_13 {l : Launch} {G : vG} {M : vM} {rc rs : Nat} {Fz : vFin} {pc : Nat} {ls : List (Option Value)} {st : List Value} {n : Nat} {h : AH} {cells slots : Nat} {a : Nat} {fs : List Value} {x : Nat} (ho : M.1.cls = RX7) (hi : M.1.name = "<init>") (hd : decode M.2.1 pc = .ok (.putfield 13, 3)) (he : h a = some (.inr (8, fs))) (hl : 6 < fs.length)  (kk : V l G M rc rs Fz (pc + 3) ls (st) n (va_up h a (some (.inr (8, fs.set 6 (.ref x))))) cells slots) : V l G M rc rs Fz pc ls (.ref x :: .ref a :: st) n h cells slots :=
  v_putf (k := 6) (C := RX7) (T := TX7) (N := 18) hd he rfl inX7 tyX7 tyX7_ok nmX7 (by decide) (by rw [ho]; exact q5_2) (Or.inr ⟨rfl, hi, by rw [ho]; rfl⟩) rfl rfl hl kk
theorem fX7_16 {l : Launch} {G : vG} {M : vM} {rc rs : Nat} {Fz : vFin} {pc : Nat} {ls : List (Option Value)} {st : List Value} {n : Nat} {h : AH} {cells slots : Nat} {a : Nat} {fs : List Value} {v : Value} (ho : M.1.cls = RX7) (hd : decode M.2.1 pc = .ok (.getfield 16, 3)) (he : h a = some (.inr (8, fs))) (hv : fs[7]? = some v) (kk : V l G M rc rs Fz (pc + 3) ls (v :: st) n h cells slots) : V l G M rc rs Fz pc ls (.ref a :: st) n h cells slots :=
  v_getf (k := 7) (C := RX7) (T := TX7) (N := 18) hd he rfl inX7 (by decide) (by rw [ho]; exact q5_3) hv kk
theorem pX7_16 {l : Launch} {G : vG} {M : vM} {rc rs : Nat} {Fz : vFin} {pc : Nat} {ls : List (Option Value)} {st : List Value} {n : Nat} {h : AH} {cells slots : Nat} {a : Nat} {fs : List Value} {x : Nat} (ho : M.1.cls = RX7) (hi : M.1.name = "<init>") (hd : decode M.2.1 pc = .ok (.putfield 16, 3)) (he : h a = some (.inr (8, fs))) (hl : 7 < fs.length)  (kk : V l G M rc rs Fz (pc + 3) ls (st) n (va_up h a (some (.inr (8, fs.set 7 (.ref x))))) cells slots) : V l G M rc rs Fz pc ls (.ref x :: .ref a :: st) n h cells slots :=
  v_putf (k := 7) (C := RX7) (T := TX7) (N := 18) hd he rfl inX7 tyX7 tyX7_ok nmX7 (by decide) (by rw [ho]; exact q5_3) (Or.inr ⟨rfl, hi, by rw [ho]; rfl⟩) rfl rfl hl kk
theorem fX7_19 {l : Launch} {G : vG} {M : vM} {rc rs : Nat} {Fz : vFin} {pc : Nat} {ls : List (Option Value)} {st : List Value} {n : Nat} {h : AH} {cells slots : Nat} {a : Nat} {fs : List Value} {v : Value} (ho : M.1.cls = RX7) (hd : decode M.2.1 pc = .ok (.getfield 19, 3)) (he : h a = some (.inr (8, fs))) (hv : fs[8]? = some v) (kk : V l G M rc rs Fz (pc + 3) ls (v :: st) n h cells slots) : V l G M rc rs Fz pc ls (.ref a :: st) n h cells slots :=
  v_getf (k := 8) (C := RX7) (T := TX7) (N := 18) hd he rfl inX7 (by decide) (by rw [ho]; exact q5_4) hv kk
theorem pX7_19 {l : Launch} {G : vG} {M : vM} {rc rs : Nat} {Fz : vFin} {pc : Nat} {ls : List (Option Value)} {st : List Value} {n : Nat} {h : AH} {cells slots : Nat} {a : Nat} {fs : List Value} {x : Nat} (ho : M.1.cls = RX7) (hi : M.1.name = "<init>") (hd : decode M.2.1 pc = .ok (.putfield 19, 3)) (he : h a = some (.inr (8, fs))) (hl : 8 < fs.length)  (kk : V l G M rc rs Fz (pc + 3) ls (st) n (va_up h a (some (.inr (8, fs.set 8 (.ref x))))) cells slots) : V l G M rc rs Fz pc ls (.ref x :: .ref a :: st) n h cells slots :=
  v_putf (k := 8) (C := RX7) (T := TX7) (N := 18) hd he rfl inX7 tyX7 tyX7_ok nmX7 (by decide) (by rw [ho]; exact q5_4) (Or.inr ⟨rfl, hi, by rw [ho]; rfl⟩) rfl rfl hl kk
theorem fX7_22 {l : Launch} {G : vG} {M : vM} {rc rs : Nat} {Fz : vFin} {pc : Nat} {ls : List (Option Value)} {st : List Value} {n : Nat} {h : AH} {cells slots : Nat} {a : Nat} {fs : List Value} {v : Value} (ho : M.1.cls = RX7) (hd : decode M.2.1 pc = .ok (.getfield 22, 3)) (he : h a = some (.inr (8, fs))) (hv : fs[9]? = some v) (kk : V l G M rc rs Fz (pc + 3) ls (v :: st) n h cells slots) : V l G M rc rs Fz pc ls (.ref a :: st) n h cells slots :=
  v_getf (k := 9) (C := RX7) (T := TX7) (N := 18) hd he rfl inX7 (by decide) (by rw [ho]; exact q5_5) hv kk
theorem pX7_22 {l : Launch} {G : vG} {M : vM} {rc rs : Nat} {Fz : vFin} {pc : Nat} {ls : List (Option Value)} {st : List Value} {n : Nat} {h : AH} {cells slots : Nat} {a : Nat} {fs : List Value} {x : Nat} (ho : M.1.cls = RX7) (hi : M.1.name = "<init>") (hd : decode M.2.1 pc = .ok (.putfield 22, 3)) (he : h a = some (.inr (8, fs))) (hl : 9 < fs.length)  (kk : V l G M rc rs Fz (pc + 3) ls (st) n (va_up h a (some (.inr (8, fs.set 9 (.ref x))))) cells slots) : V l G M rc rs Fz pc ls (.ref x :: .ref a :: st) n h cells slots :=
  v_putf (k := 9) (C := RX7) (T := TX7) (N := 18) hd he rfl inX7 tyX7 tyX7_ok nmX7 (by decide) (by rw [ho]; exact q5_5) (Or.inr ⟨rfl, hi, by rw [ho]; rfl⟩) rfl rfl hl kk
theorem fX7_25 {l : Launch} {G : vG} {M : vM} {rc rs : Nat} {Fz : vFin} {pc : Nat} {ls : List (Option Value)} {st : List Value} {n : Nat} {h : AH} {cells slots : Nat} {a : Nat} {fs : List Value} {v : Value} (ho : M.1.cls = RX7) (hd : decode M.2.1 pc = .ok (.getfield 25, 3)) (he : h a = some (.inr (8, fs))) (hv : fs[10]? = some v) (kk : V l G M rc rs Fz (pc + 3) ls (v :: st) n h cells slots) : V l G M rc rs Fz pc ls (.ref a :: st) n h cells slots :=
  v_getf (k := 10) (C := RX7) (T := TX7) (N := 18) hd he rfl inX7 (by decide) (by rw [ho]; exact q5_6) hv kk
theorem pX7_25 {l : Launch} {G : vG} {M : vM} {rc rs : Nat} {Fz : vFin} {pc : Nat} {ls : List (Option Value)} {st : List Value} {n : Nat} {h : AH} {cells slots : Nat} {a : Nat} {fs : List Value} {x : Nat} (ho : M.1.cls = RX7) (hi : M.1.name = "<init>") (hd : decode M.2.1 pc = .ok (.putfield 25, 3)) (he : h a = some (.inr (8, fs))) (hl : 10 < fs.length)  (kk : V l G M rc rs Fz (pc + 3) ls (st) n (va_up h a (some (.inr (8, fs.set 10 (.ref x))))) cells slots) : V l G M rc rs Fz pc ls (.ref x :: .ref a :: st) n h cells slots :=
  v_putf (k := 10) (C := RX7) (T := TX7) (N := 18) hd he rfl inX7 tyX7 tyX7_ok nmX7 (by decide) (by rw [ho]; exact q5_6) (Or.inr ⟨rfl, hi, by rw [ho]; rfl⟩) rfl rfl hl kk
theorem fX7_28 {l : Launch} {G : vG} {M : vM} {rc rs : Nat} {Fz : vFin} {pc : Nat} {ls : List (Option Value)} {st : List Value} {n : Nat} {h : AH} {cells slots : Nat} {a : Nat} {fs : List Value} {v : Value} (ho : M.1.cls = RX7) (hd : decode M.2.1 pc = .ok (.getfield 28, 3)) (he : h a = some (.inr (8, fs))) (hv : fs[11]? = some v) (kk : V l G M rc rs Fz (pc + 3) ls (v :: st) n h cells slots) : V l G M rc rs Fz pc ls (.ref a :: st) n h cells slots :=
  v_getf (k := 11) (C := RX7) (T := TX7) (N := 18) hd he rfl inX7 (by decide) (by rw [ho]; exact q5_7) hv kk
theorem pX7_28 {l : Launch} {G : vG} {M : vM} {rc rs : Nat} {Fz : vFin} {pc : Nat} {ls : List (Option Value)} {st : List Value} {n : Nat} {h : AH} {cells slots : Nat} {a : Nat} {fs : List Value} {x : Nat} (ho : M.1.cls = RX7) (hi : M.1.name = "<init>") (hd : decode M.2.1 pc = .ok (.putfield 28, 3)) (he : h a = some (.inr (8, fs))) (hl : 11 < fs.length)  (kk : V l G M rc rs Fz (pc + 3) ls (st) n (va_up h a (some (.inr (8, fs.set 11 (.ref x))))) cells slots) : V l G M rc rs Fz pc ls (.ref x :: .ref a :: st) n h cells slots :=
  v_putf (k := 11) (C := RX7) (T := TX7) (N := 18) hd he rfl inX7 tyX7 tyX7_ok nmX7 (by decide) (by rw [ho]; exact q5_7) (Or.inr ⟨rfl, hi, by rw [ho]; rfl⟩) rfl rfl hl kk
theorem fX7_31 {l : Launch} {G : vG} {M : vM} {rc rs : Nat} {Fz : vFin} {pc : Nat} {ls : List (Option Value)} {st : List Value} {n : Nat} {h : AH} {cells slots : Nat} {a : Nat} {fs : List Value} {v : Value} (ho : M.1.cls = RX7) (hd : decode M.2.1 pc = .ok (.getfield 31, 3)) (he : h a = some (.inr (8, fs))) (hv : fs[0]? = some v) (kk : V l G M rc rs Fz (pc + 3) ls (v :: st) n h cells slots) : V l G M rc rs Fz pc ls (.ref a :: st) n h cells slots :=
  v_getf (k := 0) (C := RX7) (T := TX7) (N := 18) hd he rfl inX7 (by decide) (by rw [ho]; exact q4_236) hv kk
theorem pX7_31 {l : Launch} {G : vG} {M : vM} {rc rs : Nat} {Fz : vFin} {pc : Nat} {ls : List (Option Value)} {st : List Value} {n : Nat} {h : AH} {cells slots : Nat} {a : Nat} {fs : List Value} {x : Int32} (ho : M.1.cls = RX7)  (hd : decode M.2.1 pc = .ok (.putfield 31, 3)) (he : h a = some (.inr (8, fs))) (hl : 0 < fs.length)  (kk : V l G M rc rs Fz (pc + 3) ls (st) n (va_up h a (some (.inr (8, fs.set 0 (.int x))))) cells slots) : V l G M rc rs Fz pc ls (.int x :: .ref a :: st) n h cells slots :=
  v_putf (k := 0) (C := RX7) (T := TX7) (N := 18) hd he rfl inX7 tyX7 tyX7_ok nmX7 (by decide) (by rw [ho]; exact q4_236) (Or.inl rfl) rfl rfl hl kk
theorem fX7_35 {l : Launch} {G : vG} {M : vM} {rc rs : Nat} {Fz : vFin} {pc : Nat} {ls : List (Option Value)} {st : List Value} {n : Nat} {h : AH} {cells slots : Nat} {a : Nat} {fs : List Value} {v : Value} (ho : M.1.cls = RX7) (hd : decode M.2.1 pc = .ok (.getfield 35, 3)) (he : h a = some (.inr (8, fs))) (hv : fs[2]? = some v) (kk : V l G M rc rs Fz (pc + 3) ls (v :: st) n h cells slots) : V l G M rc rs Fz pc ls (.ref a :: st) n h cells slots :=
  v_getf (k := 2) (C := RX7) (T := TX7) (N := 18) hd he rfl inX7 (by decide) (by rw [ho]; exact q4_238) hv kk
theorem pX7_35 {l : Launch} {G : vG} {M : vM} {rc rs : Nat} {Fz : vFin} {pc : Nat} {ls : List (Option Value)} {st : List Value} {n : Nat} {h : AH} {cells slots : Nat} {a : Nat} {fs : List Value} {x : Int32} (ho : M.1.cls = RX7)  (hd : decode M.2.1 pc = .ok (.putfield 35, 3)) (he : h a = some (.inr (8, fs))) (hl : 2 < fs.length)  (kk : V l G M rc rs Fz (pc + 3) ls (st) n (va_up h a (some (.inr (8, fs.set 2 (.int x))))) cells slots) : V l G M rc rs Fz pc ls (.int x :: .ref a :: st) n h cells slots :=
  v_putf (k := 2) (C := RX7) (T := TX7) (N := 18) hd he rfl inX7 tyX7 tyX7_ok nmX7 (by decide) (by rw [ho]; exact q4_238) (Or.inl rfl) rfl rfl hl kk
theorem fX7_38 {l : Launch} {G : vG} {M : vM} {rc rs : Nat} {Fz : vFin} {pc : Nat} {ls : List (Option Value)} {st : List Value} {n : Nat} {h : AH} {cells slots : Nat} {a : Nat} {fs : List Value} {v : Value} (ho : M.1.cls = RX7) (hd : decode M.2.1 pc = .ok (.getfield 38, 3)) (he : h a = some (.inr (8, fs))) (hv : fs[3]? = some v) (kk : V l G M rc rs Fz (pc + 3) ls (v :: st) n h cells slots) : V l G M rc rs Fz pc ls (.ref a :: st) n h cells slots :=
  v_getf (k := 3) (C := RX7) (T := TX7) (N := 18) hd he rfl inX7 (by decide) (by rw [ho]; exact q4_239) hv kk
theorem pX7_38 {l : Launch} {G : vG} {M : vM} {rc rs : Nat} {Fz : vFin} {pc : Nat} {ls : List (Option Value)} {st : List Value} {n : Nat} {h : AH} {cells slots : Nat} {a : Nat} {fs : List Value} {x : Int32} (ho : M.1.cls = RX7)  (hd : decode M.2.1 pc = .ok (.putfield 38, 3)) (he : h a = some (.inr (8, fs))) (hl : 3 < fs.length)  (kk : V l G M rc rs Fz (pc + 3) ls (st) n (va_up h a (some (.inr (8, fs.set 3 (.int x))))) cells slots) : V l G M rc rs Fz pc ls (.int x :: .ref a :: st) n h cells slots :=
  v_putf (k := 3) (C := RX7) (T := TX7) (N := 18) hd he rfl inX7 tyX7 tyX7_ok nmX7 (by decide) (by rw [ho]; exact q4_239) (Or.inl rfl) rfl rfl hl kk
theorem fX7_49 {l : Launch} {G : vG} {M : vM} {rc rs : Nat} {Fz : vFin} {pc : Nat} {ls : List (Option Value)} {st : List Value} {n : Nat} {h : AH} {cells slots : Nat} {a : Nat} {fs : List Value} {v : Value} (ho : M.1.cls = RX7) (hd : decode M.2.1 pc = .ok (.getfield 49, 3)) (he : h a = some (.inr (8, fs))) (hv : fs[1]? = some v) (kk : V l G M rc rs Fz (pc + 3) ls (v :: st) n h cells slots) : V l G M rc rs Fz pc ls (.ref a :: st) n h cells slots :=
  v_getf (k := 1) (C := RX7) (T := TX7) (N := 18) hd he rfl inX7 (by decide) (by rw [ho]; exact q4_237) hv kk
theorem pX7_49 {l : Launch} {G : vG} {M : vM} {rc rs : Nat} {Fz : vFin} {pc : Nat} {ls : List (Option Value)} {st : List Value} {n : Nat} {h : AH} {cells slots : Nat} {a : Nat} {fs : List Value} {x : Int32} (ho : M.1.cls = RX7)  (hd : decode M.2.1 pc = .ok (.putfield 49, 3)) (he : h a = some (.inr (8, fs))) (hl : 1 < fs.length)  (kk : V l G M rc rs Fz (pc + 3) ls (st) n (va_up h a (some (.inr (8, fs.set 1 (.int x))))) cells slots) : V l G M rc rs Fz pc ls (.int x :: .ref a :: st) n h cells slots :=
  v_putf (k := 1) (C := RX7) (T := TX7) (N := 18) hd he rfl inX7 tyX7 tyX7_ok nmX7 (by decide) (by rw [ho]; exact q4_237) (Or.inl rfl) rfl rfl hl kk
theorem fX7_170 {l : Launch} {G : vG} {M : vM} {rc rs : Nat} {Fz : vFin} {pc : Nat} {ls : List (Option Value)} {st : List Value} {n : Nat} {h : AH} {cells slots : Nat} {a : Nat} {fs : List Value} {v : Value} (ho : M.1.cls = RX7) (hd : decode M.2.1 pc = .ok (.getfield 170, 3)) (he : h a = some (.inr (8, fs))) (hv : fs[15]? = some v) (kk : V l G M rc rs Fz (pc + 3) ls (v :: st) n h cells slots) : V l G M rc rs Fz pc ls (.ref a :: st) n h cells slots :=
  v_getf (k := 15) (C := RX7) (T := TX7) (N := 18) hd he rfl inX7 (by decide) (by rw [ho]; exact q5_11) hv kk
theorem pX7_170 {l : Launch} {G : vG} {M : vM} {rc rs : Nat} {Fz : vFin} {pc : Nat} {ls : List (Option Value)} {st : List Value} {n : Nat} {h : AH} {cells slots : Nat} {a : Nat} {fs : List Value} {x : Int32} (ho : M.1.cls = RX7)  (hd : decode M.2.1 pc = .ok (.putfield 170, 3)) (he : h a = some (.inr (8, fs))) (hl : 15 < fs.length)  (kk : V l G M rc rs Fz (pc + 3) ls (st) n (va_up h a (some (.inr (8, fs.set 15 (.int x))))) cells slots) : V l G M rc rs Fz pc ls (.int x :: .ref a :: st) n h cells slots :=
  v_putf (k := 15) (C := RX7) (T := TX7) (N := 18) hd he rfl inX7 tyX7 tyX7_ok nmX7 (by decide) (by rw [ho]; exact q5_11) (Or.inl rfl) rfl rfl hl kk
theorem fX7_176 {l : Launch} {G : vG} {M : vM} {rc rs : Nat} {Fz : vFin} {pc : Nat} {ls : List (Option Value)} {st : List Value} {n : Nat} {h : AH} {cells slots : Nat} {a : Nat} {fs : List Value} {v : Value} (ho : M.1.cls = RX7) (hd : decode M.2.1 pc = .ok (.getfield 176, 3)) (he : h a = some (.inr (8, fs))) (hv : fs[12]? = some v) (kk : V l G M rc rs Fz (pc + 3) ls (v :: st) n h cells slots) : V l G M rc rs Fz pc ls (.ref a :: st) n h cells slots :=
  v_getf (k := 12) (C := RX7) (T := TX7) (N := 18) hd he rfl inX7 (by decide) (by rw [ho]; exact q5_8) hv kk
theorem pX7_176 {l : Launch} {G : vG} {M : vM} {rc rs : Nat} {Fz : vFin} {pc : Nat} {ls : List (Option Value)} {st : List Value} {n : Nat} {h : AH} {cells slots : Nat} {a : Nat} {fs : List Value} {x : Int32} (ho : M.1.cls = RX7)  (hd : decode M.2.1 pc = .ok (.putfield 176, 3)) (he : h a = some (.inr (8, fs))) (hl : 12 < fs.length)  (kk : V l G M rc rs Fz (pc + 3) ls (st) n (va_up h a (some (.inr (8, fs.set 12 (.int x))))) cells slots) : V l G M rc rs Fz pc ls (.int x :: .ref a :: st) n h cells slots :=
  v_putf (k := 12) (C := RX7) (T := TX7) (N := 18) hd he rfl inX7 tyX7 tyX7_ok nmX7 (by decide) (by rw [ho]; exact q5_8) (Or.inl rfl) rfl rfl hl kk
theorem fX7_179 {l : Launch} {G : vG} {M : vM} {rc rs : Nat} {Fz : vFin} {pc : Nat} {ls : List (Option Value)} {st : List Value} {n : Nat} {h : AH} {cells slots : Nat} {a : Nat} {fs : List Value} {v : Value} (ho : M.1.cls = RX7) (hd : decode M.2.1 pc = .ok (.getfield 179, 3)) (he : h a = some (.inr (8, fs))) (hv : fs[13]? = some v) (kk : V l G M rc rs Fz (pc + 3) ls (v :: st) n h cells slots) : V l G M rc rs Fz pc ls (.ref a :: st) n h cells slots :=
  v_getf (k := 13) (C := RX7) (T := TX7) (N := 18) hd he rfl inX7 (by decide) (by rw [ho]; exact q5_9) hv kk
theorem pX7_179 {l : Launch} {G : vG} {M : vM} {rc rs : Nat} {Fz : vFin} {pc : Nat} {ls : List (Option Value)} {st : List Value} {n : Nat} {h : AH} {cells slots : Nat} {a : Nat} {fs : List Value} {x : Int32} (ho : M.1.cls = RX7)  (hd : decode M.2.1 pc = .ok (.putfield 179, 3)) (he : h a = some (.inr (8, fs))) (hl : 13 < fs.length)  (kk : V l G M rc rs Fz (pc + 3) ls (st) n (va_up h a (some (.inr (8, fs.set 13 (.int x))))) cells slots) : V l G M rc rs Fz pc ls (.int x :: .ref a :: st) n h cells slots :=
  v_putf (k := 13) (C := RX7) (T := TX7) (N := 18) hd he rfl inX7 tyX7 tyX7_ok nmX7 (by decide) (by rw [ho]; exact q5_9) (Or.inl rfl) rfl rfl hl kk
theorem fX7_182 {l : Launch} {G : vG} {M : vM} {rc rs : Nat} {Fz : vFin} {pc : Nat} {ls : List (Option Value)} {st : List Value} {n : Nat} {h : AH} {cells slots : Nat} {a : Nat} {fs : List Value} {v : Value} (ho : M.1.cls = RX7) (hd : decode M.2.1 pc = .ok (.getfield 182, 3)) (he : h a = some (.inr (8, fs))) (hv : fs[14]? = some v) (kk : V l G M rc rs Fz (pc + 3) ls (v :: st) n h cells slots) : V l G M rc rs Fz pc ls (.ref a :: st) n h cells slots :=
  v_getf (k := 14) (C := RX7) (T := TX7) (N := 18) hd he rfl inX7 (by decide) (by rw [ho]; exact q5_10) hv kk
theorem pX7_182 {l : Launch} {G : vG} {M : vM} {rc rs : Nat} {Fz : vFin} {pc : Nat} {ls : List (Option Value)} {st : List Value} {n : Nat} {h : AH} {cells slots : Nat} {a : Nat} {fs : List Value} {x : Int32} (ho : M.1.cls = RX7)  (hd : decode M.2.1 pc = .ok (.putfield 182, 3)) (he : h a = some (.inr (8, fs))) (hl : 14 < fs.length)  (kk : V l G M rc rs Fz (pc + 3) ls (st) n (va_up h a (some (.inr (8, fs.set 14 (.int x))))) cells slots) : V l G M rc rs Fz pc ls (.int x :: .ref a :: st) n h cells slots :=
  v_putf (k := 14) (C := RX7) (T := TX7) (N := 18) hd he rfl inX7 tyX7 tyX7_ok nmX7 (by decide) (by rw [ho]; exact q5_10) (Or.inl rfl) rfl rfl hl kk
theorem fX7_185 {l : Launch} {G : vG} {M : vM} {rc rs : Nat} {Fz : vFin} {pc : Nat} {ls : List (Option Value)} {st : List Value} {n : Nat} {h : AH} {cells slots : Nat} {a : Nat} {fs : List Value} {v : Value} (ho : M.1.cls = RX7) (hd : decode M.2.1 pc = .ok (.getfield 185, 3)) (he : h a = some (.inr (8, fs))) (hv : fs[16]? = some v) (kk : V l G M rc rs Fz (pc + 3) ls (v :: st) n h cells slots) : V l G M rc rs Fz pc ls (.ref a :: st) n h cells slots :=
  v_getf (k := 16) (C := RX7) (T := TX7) (N := 18) hd he rfl inX7 (by decide) (by rw [ho]; exact q5_12) hv kk
theorem pX7_185 {l : Launch} {G : vG} {M : vM} {rc rs : Nat} {Fz : vFin} {pc : Nat} {ls : List (Option Value)} {st : List Value} {n : Nat} {h : AH} {cells slots : Nat} {a : Nat} {fs : List Value} {x : Int32} (ho : M.1.cls = RX7)  (hd : decode M.2.1 pc = .ok (.putfield 185, 3)) (he : h a = some (.inr (8, fs))) (hl : 16 < fs.length) (hn : narrow .boolean (.int x) = .int x) (hfit : fits .boolean (.int x) = true) (kk : V l G M rc rs Fz (pc + 3) ls (st) n (va_up h a (some (.inr (8, fs.set 16 (.int x))))) cells slots) : V l G M rc rs Fz pc ls (.int x :: .ref a :: st) n h cells slots :=
  v_putf (k := 16) (C := RX7) (T := TX7) (N := 18) hd he rfl inX7 tyX7 tyX7_ok nmX7 (by decide) (by rw [ho]; exact q5_12) (Or.inl rfl) hn hfit hl kk
theorem fX7_207 {l : Launch} {G : vG} {M : vM} {rc rs : Nat} {Fz : vFin} {pc : Nat} {ls : List (Option Value)} {st : List Value} {n : Nat} {h : AH} {cells slots : Nat} {a : Nat} {fs : List Value} {v : Value} (ho : M.1.cls = RX7) (hd : decode M.2.1 pc = .ok (.getfield 207, 3)) (he : h a = some (.inr (8, fs))) (hv : fs[17]? = some v) (kk : V l G M rc rs Fz (pc + 3) ls (v :: st) n h cells slots) : V l G M rc rs Fz pc ls (.ref a :: st) n h cells slots :=
  v_getf (k := 17) (C := RX7) (T := TX7) (N := 18) hd he rfl inX7 (by decide) (by rw [ho]; exact q5_13) hv kk
theorem pX7_207 {l : Launch} {G : vG} {M : vM} {rc rs : Nat} {Fz : vFin} {pc : Nat} {ls : List (Option Value)} {st : List Value} {n : Nat} {h : AH} {cells slots : Nat} {a : Nat} {fs : List Value} {x : Int32} (ho : M.1.cls = RX7)  (hd : decode M.2.1 pc = .ok (.putfield 207, 3)) (he : h a = some (.inr (8, fs))) (hl : 17 < fs.length) (hn : narrow .boolean (.int x) = .int x) (hfit : fits .boolean (.int x) = true) (kk : V l G M rc rs Fz (pc + 3) ls (st) n (va_up h a (some (.inr (8, fs.set 17 (.int x))))) cells slots) : V l G M rc rs Fz pc ls (.int x :: .ref a :: st) n h cells slots :=
  v_putf (k := 17) (C := RX7) (T := TX7) (N := 18) hd he rfl inX7 tyX7 tyX7_ok nmX7 (by decide) (by rw [ho]; exact q5_13) (Or.inl rfl) hn hfit hl kk
theorem fX7_223 {l : Launch} {G : vG} {M : vM} {rc rs : Nat} {Fz : vFin} {pc : Nat} {ls : List (Option Value)} {st : List Value} {n : Nat} {h : AH} {cells slots : Nat} {a : Nat} {fs : List Value} {v : Value} (ho : M.1.cls = RX7) (hd : decode M.2.1 pc = .ok (.getfield 223, 3)) (he : h a = some (.inr (8, fs))) (hv : fs[4]? = some v) (kk : V l G M rc rs Fz (pc + 3) ls (v :: st) n h cells slots) : V l G M rc rs Fz pc ls (.ref a :: st) n h cells slots :=
  v_getf (k := 4) (C := RX7) (T := TX7) (N := 18) hd he rfl inX7 (by decide) (by rw [ho]; exact q5_0) hv kk
theorem pX7_223 {l : Launch} {G : vG} {M : vM} {rc rs : Nat} {Fz : vFin} {pc : Nat} {ls : List (Option Value)} {st : List Value} {n : Nat} {h : AH} {cells slots : Nat} {a : Nat} {fs : List Value} {x : Int32} (ho : M.1.cls = RX7)  (hd : decode M.2.1 pc = .ok (.putfield 223, 3)) (he : h a = some (.inr (8, fs))) (hl : 4 < fs.length) (hn : narrow .boolean (.int x) = .int x) (hfit : fits .boolean (.int x) = true) (kk : V l G M rc rs Fz (pc + 3) ls (st) n (va_up h a (some (.inr (8, fs.set 4 (.int x))))) cells slots) : V l G M rc rs Fz pc ls (.int x :: .ref a :: st) n h cells slots :=
  v_putf (k := 4) (C := RX7) (T := TX7) (N := 18) hd he rfl inX7 tyX7 tyX7_ok nmX7 (by decide) (by rw [ho]; exact q5_0) (Or.inl rfl) hn hfit hl kk
abbrev mJ0_charAt_5068e : vM := (yJ0_charAt_5068e, cJ0_charAt_5068e, 2, (some (.char)), 4, 85)
abbrev mJ0_checkBoundsBeginEnd_23922 : vM := (yJ0_checkBoundsBeginEnd_23922, cJ0_checkBoundsBeginEnd_23922, 3, none, 1, 23)
abbrev mJ0_checkBoundsOffCount_cabcc : vM := (yJ0_checkBoundsOffCount_cabcc, cJ0_checkBoundsOffCount_cabcc, 3, (some (.int)), 1, 23)
abbrev mJ0_checkIndex_df160 : vM := (yJ0_checkIndex_df160, cJ0_checkIndex_df160, 2, none, 1, 22)
abbrev mJ0_coder_7d493 : vM := (yJ0_coder_7d493, cJ0_coder_7d493, 1, (some (.byte)), 0, 0)
abbrev mJ0_isEmpty_aae02 : vM := (yJ0_isEmpty_aae02, cJ0_isEmpty_aae02, 1, (some (.boolean)), 0, 0)
abbrev mJ0_isLatin1_aae02 : vM := (yJ0_isLatin1_aae02, cJ0_isLatin1_aae02, 1, (some (.boolean)), 0, 0)
abbrev mJ0_length_8abf5 : vM := (yJ0_length_8abf5, cJ0_length_8abf5, 1, (some (.int)), 1, 20)
abbrev mJ1_canEncode_fc78d : vM := (yJ1_canEncode_fc78d, cJ1_canEncode_fc78d, 1, (some (.boolean)), 0, 0)
abbrev mJ1_charAt_3b067 : vM := (yJ1_charAt_3b067, cJ1_charAt_3b067, 2, (some (.char)), 2, 43)
abbrev mJ1_fillNull_b72d1 : vM := (yJ1_fillNull_b72d1, cJ1_fillNull_b72d1, 3, none, 2, 46)
abbrev mJ1_inflate_0e8fd : vM := (yJ1_inflate_0e8fd, cJ1_inflate_0e8fd, 5, none, 4, 92)
abbrev mJ2_charAt_3b067 : vM := (yJ2_charAt_3b067, cJ2_charAt_3b067, 2, (some (.char)), 3, 64)
abbrev mJ2_checkBoundsBeginEnd_d044e : vM := (yJ2_checkBoundsBeginEnd_d044e, cJ2_checkBoundsBeginEnd_d044e, 3, none, 2, 45)
abbrev mJ2_checkBoundsOffCount_d044e : vM := (yJ2_checkBoundsOffCount_d044e, cJ2_checkBoundsOffCount_d044e, 3, none, 2, 45)
abbrev mJ2_checkIndex_2214a : vM := (yJ2_checkIndex_2214a, cJ2_checkIndex_2214a, 2, none, 2, 43)
abbrev mJ2_fillNull_b72d1 : vM := (yJ2_fillNull_b72d1, cJ2_fillNull_b72d1, 3, none, 2, 46)
abbrev mJ2_getChar_3b067 : vM := (yJ2_getChar_3b067, cJ2_getChar_3b067, 2, (some (.char)), 1, 20)
abbrev mJ2_getChars_46870 : vM := (yJ2_getChars_46870, cJ2_getChars_46870, 5, (some (.int)), 3, 68)
abbrev mJ2_getChars_ba4f3 : vM := (yJ2_getChars_ba4f3, cJ2_getChars_ba4f3, 7, (some (.int)), 2, 42)
abbrev mJ2_inflate_0e8fd : vM := (yJ2_inflate_0e8fd, cJ2_inflate_0e8fd, 6, none, 3, 67)
abbrev mJ2_length_9d52b : vM := (yJ2_length_9d52b, cJ2_length_9d52b, 1, (some (.int)), 0, 0)
abbrev mJ2_newBytesFor_77867 : vM := (yJ2_newBytesFor_77867, cJ2_newBytesFor_77867, 1, (some ((.array .byte))), 1, 20)
abbrev mJ2_newBytesLength_0f7a4 : vM := (yJ2_newBytesLength_0f7a4, cJ2_newBytesLength_0f7a4, 1, (some (.int)), 0, 0)
abbrev mJ2_putCharSB_b72d1 : vM := (yJ2_putCharSB_b72d1, cJ2_putCharSB_b72d1, 3, none, 3, 64)
abbrev mJ2_putChar_b72d1 : vM := (yJ2_putChar_b72d1, cJ2_putChar_b72d1, 3, none, 1, 20)
abbrev mJ3_checkFromIndexSize_8c36e : vM := (yJ3_checkFromIndexSize_8c36e, cJ3_checkFromIndexSize_8c36e, 4, (some (.int)), 0, 0)
abbrev mJ3_checkFromToIndex_8c36e : vM := (yJ3_checkFromToIndex_8c36e, cJ3_checkFromToIndex_8c36e, 4, (some (.int)), 0, 0)
abbrev mJ3_checkIndex_8e157 : vM := (yJ3_checkIndex_8e157, cJ3_checkIndex_8e157, 3, (some (.int)), 0, 0)
abbrev mJ4_append_bf812 : vM := (yJ4_append_bf812, cJ4_append_bf812, 2, (some ((.object "java/lang/StringBuilder"))), 5, 115)
abbrev mJ4_append_cf468 : vM := (yJ4_append_cf468, cJ4_append_cf468, 2, (some ((.object "java/lang/StringBuilder"))), 7, 158)
abbrev mJ4_charAt_5068e : vM := (yJ4_charAt_5068e, cJ4_charAt_5068e, 2, (some (.char)), 3, 67)
abbrev mJ4_init_da8c8 : vM := (yJ4_init_da8c8, cJ4_init_da8c8, 1, none, 3, 61)
abbrev mJ4_length_8abf5 : vM := (yJ4_length_8abf5, cJ4_length_8abf5, 1, (some (.int)), 1, 20)
abbrev mJ4_setLength_d00df : vM := (yJ4_setLength_d00df, cJ4_setLength_d00df, 2, none, 5, 113)
abbrev mJ5_append_3fe6f : vM := (yJ5_append_3fe6f, cJ5_append_3fe6f, 2, (some ((.object "java/lang/AbstractStringBuilder"))), 6, 137)
abbrev mJ5_append_c97b9 : vM := (yJ5_append_c97b9, cJ5_append_c97b9, 4, (some ((.object "java/lang/AbstractStringBuilder"))), 4, 92)
abbrev mJ5_charAt_5068e : vM := (yJ5_charAt_5068e, cJ5_charAt_5068e, 5, (some (.char)), 2, 43)
abbrev mJ5_ensureCapacityInternal_d00df : vM := (yJ5_ensureCapacityInternal_d00df, cJ5_ensureCapacityInternal_d00df, 3, none, 3, 70)
abbrev mJ5_inflate_da8c8 : vM := (yJ5_inflate_da8c8, cJ5_inflate_da8c8, 2, none, 5, 116)
abbrev mJ5_init_d00df : vM := (yJ5_init_d00df, cJ5_init_d00df, 2, none, 2, 40)
abbrev mJ5_isLatin1_aae02 : vM := (yJ5_isLatin1_aae02, cJ5_isLatin1_aae02, 1, (some (.boolean)), 0, 0)
abbrev mJ5_length_8abf5 : vM := (yJ5_length_8abf5, cJ5_length_8abf5, 1, (some (.int)), 0, 0)
abbrev mJ5_newCapacity_0f7a4 : vM := (yJ5_newCapacity_0f7a4, cJ5_newCapacity_0f7a4, 6, (some (.int)), 2, 45)
abbrev mJ5_setLength_d00df : vM := (yJ5_setLength_d00df, cJ5_setLength_d00df, 2, none, 4, 92)
abbrev mJ6_getChars_ba4f3 : vM := (yJ6_getChars_ba4f3, cJ6_getChars_ba4f3, 7, (some (.int)), 0, 0)
abbrev mJ6_stringSize_0f7a4 : vM := (yJ6_stringSize_0f7a4, cJ6_stringSize_0f7a4, 4, (some (.int)), 0, 0)
abbrev mJ7_copyOf_9075b : vM := (yJ7_copyOf_9075b, cJ7_copyOf_9075b, 3, (some ((.array .byte))), 1, 27)
abbrev mJ7_fill_eb02e : vM := (yJ7_fill_eb02e, cJ7_fill_eb02e, 5, none, 1, 22)
abbrev mJ7_rangeCheck_23922 : vM := (yJ7_rangeCheck_23922, cJ7_rangeCheck_23922, 3, none, 0, 0)
abbrev mJ8_hugeLength_7cf53 : vM := (yJ8_hugeLength_7cf53, cJ8_hugeLength_7cf53, 3, (some (.int)), 0, 0)
abbrev mJ8_newLength_cabcc : vM := (yJ8_newLength_cabcc, cJ8_newLength_cabcc, 4, (some (.int)), 1, 22)
abbrev mJ9_max_7cf53 : vM := (yJ9_max_7cf53, cJ9_max_7cf53, 2, (some (.int)), 0, 0)
abbrev mJ9_min_7cf53 : vM := (yJ9_min_7cf53, cJ9_min_7cf53, 2, (some (.int)), 0, 0)
abbrev mX0_init : vM := (yX0_init, cX0_init, 1, none, 1, 20)
abbrev mX0_insert : vM := (yX0_insert, cX0_insert, 7, none, 1, 22)
abbrev mX0_jokeOfFoolAt : vM := (yX0_jokeOfFoolAt, cX0_jokeOfFoolAt, 4, (some (.int)), 0, 0)
abbrev mX0_move : vM := (yX0_move, cX0_move, 3, none, 0, 0)
abbrev mX0_removeFirst : vM := (yX0_removeFirst, cX0_removeFirst, 2, none, 1, 22)
abbrev mX0_take : vM := (yX0_take, cX0_take, 2, none, 2, 48)
abbrev mX0_with : vM := (yX0_with, cX0_with, 5, (some (.int)), 0, 0)
abbrev mX1_bestByWit : vM := (yX1_bestByWit, cX1_bestByWit, 9, (some (.int)), 3, 69)
abbrev mX1_bestJokeByJoke : vM := (yX1_bestJokeByJoke, cX1_bestJokeByJoke, 7, (some (.int)), 3, 69)
abbrev mX1_carryFirstOut : vM := (yX1_carryFirstOut, cX1_carryFirstOut, 4, (some (.int)), 3, 70)
abbrev mX1_doesAnyEndAt : vM := (yX1_doesAnyEndAt, cX1_doesAnyEndAt, 3, (some (.boolean)), 0, 0)
abbrev mX1_endHourByHour : vM := (yX1_endHourByHour, cX1_endHourByHour, 2, (some (.int)), 1, 22)
abbrev mX1_endJokeByJoke : vM := (yX1_endJokeByJoke, cX1_endJokeByJoke, 3, (some (.int)), 1, 21)
abbrev mX1_gain : vM := (yX1_gain, cX1_gain, 4, none, 1, 21)
abbrev mX1_holds : vM := (yX1_holds, cX1_holds, 2, (some (.boolean)), 0, 0)
abbrev mX1_init : vM := (yX1_init, cX1_init, 1, none, 2, 40)
abbrev mX1_isAhead : vM := (yX1_isAhead, cX1_isAhead, 6, (some (.boolean)), 0, 0)
abbrev mX1_isBarred : vM := (yX1_isBarred, cX1_isBarred, 3, (some (.boolean)), 1, 21)
abbrev mX1_laughs : vM := (yX1_laughs, cX1_laughs, 5, (some (.int)), 1, 22)
abbrev mX1_laughsNow : vM := (yX1_laughsNow, cX1_laughsNow, 4, (some (.int)), 2, 46)
abbrev mX1_patents : vM := (yX1_patents, cX1_patents, 3, (some (.int)), 1, 21)
abbrev mX1_patentsOf : vM := (yX1_patentsOf, cX1_patentsOf, 4, (some (.int)), 1, 21)
abbrev mX1_payFine : vM := (yX1_payFine, cX1_payFine, 4, none, 2, 44)
abbrev mX1_payUnion : vM := (yX1_payUnion, cX1_payUnion, 4, (some (.int)), 1, 21)
abbrev mX1_perform : vM := (yX1_perform, cX1_perform, 5, (some (.int)), 2, 46)
abbrev mX1_placeFor : vM := (yX1_placeFor, cX1_placeFor, 5, (some (.int)), 1, 25)
abbrev mX1_take : vM := (yX1_take, cX1_take, 2, none, 3, 69)
abbrev mX2_add : vM := (yX2_add, cX2_add, 3, (some (.int)), 0, 0)
abbrev mX2_atRank : vM := (yX2_atRank, cX2_atRank, 3, (some (.int)), 2, 45)
abbrev mX2_countAhead : vM := (yX2_countAhead, cX2_countAhead, 4, (some (.int)), 1, 22)
abbrev mX2_has : vM := (yX2_has, cX2_has, 2, (some (.boolean)), 0, 0)
abbrev mX2_init : vM := (yX2_init, cX2_init, 1, none, 1, 20)
abbrev mX2_isAhead : vM := (yX2_isAhead, cX2_isAhead, 3, (some (.boolean)), 0, 0)
abbrev mX2_take : vM := (yX2_take, cX2_take, 2, none, 2, 48)
abbrev mX3_forgetAll : vM := (yX3_forgetAll, cX3_forgetAll, 1, none, 0, 0)
abbrev mX3_giveLatestBack : vM := (yX3_giveLatestBack, cX3_giveLatestBack, 2, none, 4, 90)
abbrev mX3_init : vM := (yX3_init, cX3_init, 2, none, 3, 60)
abbrev mX3_keep : vM := (yX3_keep, cX3_keep, 2, none, 4, 90)
abbrev mX4_add : vM := (yX4_add, cX4_add, 3, (some (.int)), 0, 0)
abbrev mX4_addTelling : vM := (yX4_addTelling, cX4_addTelling, 3, none, 0, 0)
abbrev mX4_atRank : vM := (yX4_atRank, cX4_atRank, 3, (some (.int)), 4, 92)
abbrev mX4_countAhead : vM := (yX4_countAhead, cX4_countAhead, 4, (some (.int)), 3, 69)
abbrev mX4_has : vM := (yX4_has, cX4_has, 2, (some (.boolean)), 0, 0)
abbrev mX4_init : vM := (yX4_init, cX4_init, 1, none, 1, 20)
abbrev mX4_isAhead : vM := (yX4_isAhead, cX4_isAhead, 5, (some (.boolean)), 2, 45)
abbrev mX4_take : vM := (yX4_take, cX4_take, 2, none, 2, 48)
abbrev mX4_tellings : vM := (yX4_tellings, cX4_tellings, 4, (some (.int)), 1, 22)
abbrev mX4_tellingsAt : vM := (yX4_tellingsAt, cX4_tellingsAt, 4, (some (.int)), 1, 22)
abbrev mX4_toldAt : vM := (yX4_toldAt, cX4_toldAt, 3, (some (.int)), 0, 0)
abbrev mX5_init : vM := (yX5_init, cX5_init, 1, none, 4, 81)
abbrev mX5_isDigitAhead : vM := (yX5_isDigitAhead, cX5_isDigitAhead, 1, (some (.boolean)), 4, 88)
abbrev mX5_keepNumber : vM := (yX5_keepNumber, cX5_keepNumber, 2, none, 0, 0)
abbrev mX5_letter : vM := (yX5_letter, cX5_letter, 2, (some (.char)), 0, 0)
abbrev mX5_number : vM := (yX5_number, cX5_number, 3, (some (.int)), 0, 0)
abbrev mX5_read : vM := (yX5_read, cX5_read, 1, (some (.boolean)), 8, 175)
abbrev mX5_readNumber : vM := (yX5_readNumber, cX5_readNumber, 4, (some (.boolean)), 5, 108)
abbrev mX5_readOrder : vM := (yX5_readOrder, cX5_readOrder, 4, (some (.boolean)), 7, 152)
abbrev mX5_readPart : vM := (yX5_readPart, cX5_readPart, 2, (some (.boolean)), 6, 131)
abbrev mX5_readPlusOrMinus : vM := (yX5_readPlusOrMinus, cX5_readPlusOrMinus, 1, (some (.boolean)), 5, 109)
abbrev mX5_readSign : vM := (yX5_readSign, cX5_readSign, 2, (some (.boolean)), 4, 88)
abbrev mX5_shapeOf : vM := (yX5_shapeOf, cX5_shapeOf, 1, (some ((.object "java/lang/String"))), 0, 0)
abbrev mX6_account : vM := (yX6_account, cX6_account, 2, (some (.int)), 2, 43)
abbrev mX6_admit : vM := (yX6_admit, cX6_admit, 2, (some (.int)), 1, 22)
abbrev mX6_append : vM := (yX6_append, cX6_append, 2, (some (.int)), 8, 179)
abbrev mX6_areBestsTheSame : vM := (yX6_areBestsTheSame, cX6_areBestsTheSame, 3, (some (.boolean)), 4, 97)
abbrev mX6_areCoinsAccountedFor : vM := (yX6_areCoinsAccountedFor, cX6_areCoinsAccountedFor, 3, (some (.boolean)), 1, 25)
abbrev mX6_areTellingsAccountedFor : vM := (yX6_areTellingsAccountedFor, cX6_areTellingsAccountedFor, 3, (some (.boolean)), 2, 45)
abbrev mX6_audit : vM := (yX6_audit, cX6_audit, 2, (some (.int)), 6, 132)
abbrev mX6_best : vM := (yX6_best, cX6_best, 3, (some (.int)), 4, 95)
abbrev mX6_bestAgain : vM := (yX6_bestAgain, cX6_bestAgain, 3, (some (.int)), 4, 97)
abbrev mX6_book : vM := (yX6_book, cX6_book, 5, (some (.int)), 6, 132)
abbrev mX6_booking : vM := (yX6_booking, cX6_booking, 3, (some (.int)), 0, 0)
abbrev mX6_carryNextOut : vM := (yX6_carryNextOut, cX6_carryNextOut, 1, (some (.int)), 4, 93)
abbrev mX6_carryOrderOut : vM := (yX6_carryOrderOut, cX6_carryOrderOut, 6, (some (.int)), 5, 113)
abbrev mX6_character : vM := (yX6_character, cX6_character, 2, (some (.int)), 4, 88)
abbrev mX6_collect : vM := (yX6_collect, cX6_collect, 4, (some (.int)), 2, 44)
abbrev mX6_copy : vM := (yX6_copy, cX6_copy, 2, none, 1, 27)
abbrev mX6_cover : vM := (yX6_cover, cX6_cover, 2, (some (.int)), 2, 44)
abbrev mX6_elapse : vM := (yX6_elapse, cX6_elapse, 3, (some (.int)), 2, 43)
abbrev mX6_ends : vM := (yX6_ends, cX6_ends, 1, (some (.int)), 2, 43)
abbrev mX6_endsAgain : vM := (yX6_endsAgain, cX6_endsAgain, 1, (some (.int)), 2, 43)
abbrev mX6_exempt : vM := (yX6_exempt, cX6_exempt, 3, (some (.int)), 6, 132)
abbrev mX6_fool : vM := (yX6_fool, cX6_fool, 2, (some (.int)), 6, 132)
abbrev mX6_foolOf : vM := (yX6_foolOf, cX6_foolOf, 3, (some (.int)), 2, 44)
abbrev mX6_forecast : vM := (yX6_forecast, cX6_forecast, 2, (some (.int)), 4, 93)
abbrev mX6_grant : vM := (yX6_grant, cX6_grant, 5, (some (.int)), 2, 44)
abbrev mX6_init : vM := (yX6_init, cX6_init, 1, none, 5, 101)
abbrev mX6_insure : vM := (yX6_insure, cX6_insure, 2, (some (.int)), 6, 132)
abbrev mX6_invent : vM := (yX6_invent, cX6_invent, 2, (some (.int)), 1, 22)
abbrev mX6_isBalanced : vM := (yX6_isBalanced, cX6_isBalanced, 2, (some (.int)), 5, 119)
abbrev mX6_isThrone : vM := (yX6_isThrone, cX6_isThrone, 1, (some (.boolean)), 0, 0)
abbrev mX6_joke : vM := (yX6_joke, cX6_joke, 2, (some (.int)), 6, 132)
abbrev mX6_jokeOf : vM := (yX6_jokeOf, cX6_jokeOf, 3, (some (.int)), 2, 45)
abbrev mX6_meanWit : vM := (yX6_meanWit, cX6_meanWit, 1, (some (.double)), 1, 25)
abbrev mX6_next : vM := (yX6_next, cX6_next, 1, (some (.int)), 6, 132)
abbrev mX6_pass : vM := (yX6_pass, cX6_pass, 2, (some (.int)), 6, 132)
abbrev mX6_patent : vM := (yX6_patent, cX6_patent, 4, (some (.int)), 6, 132)
abbrev mX6_ranked : vM := (yX6_ranked, cX6_ranked, 2, (some (.int)), 3, 67)
abbrev mX6_reason : vM := (yX6_reason, cX6_reason, 2, (some (.int)), 0, 0)
abbrev mX6_refuse : vM := (yX6_refuse, cX6_refuse, 3, (some (.int)), 0, 0)
abbrev mX6_remember : vM := (yX6_remember, cX6_remember, 2, (some (.int)), 5, 111)
abbrev mX6_reserve : vM := (yX6_reserve, cX6_reserve, 7, (some (.int)), 2, 49)
abbrev mX6_restore : vM := (yX6_restore, cX6_restore, 1, (some (.int)), 4, 90)
abbrev mX6_run : vM := (yX6_run, cX6_run, 3, (some (.int)), 9, 195)
abbrev mX6_save : vM := (yX6_save, cX6_save, 1, (some (.int)), 4, 90)
abbrev mX6_setExempt : vM := (yX6_setExempt, cX6_setExempt, 3, (some (.int)), 1, 25)
abbrev mX6_slipShare : vM := (yX6_slipShare, cX6_slipShare, 2, (some (.float)), 1, 25)
abbrev mX6_stalest : vM := (yX6_stalest, cX6_stalest, 2, (some (.int)), 5, 114)
abbrev mX6_sum : vM := (yX6_sum, cX6_sum, 6, (some (.int)), 0, 0)
abbrev mX6_tell : vM := (yX6_tell, cX6_tell, 3, (some (.int)), 9, 201)
abbrev mX6_tellBookings : vM := (yX6_tellBookings, cX6_tellBookings, 2, (some (.int)), 9, 201)
abbrev mX6_throneOf : vM := (yX6_throneOf, cX6_throneOf, 3, (some (.int)), 2, 45)
abbrev mX6_told : vM := (yX6_told, cX6_told, 3, (some (.int)), 1, 22)
abbrev mX6_undo : vM := (yX6_undo, cX6_undo, 1, (some (.int)), 5, 111)
abbrev mX6_would : vM := (yX6_would, cX6_would, 4, (some (.int)), 3, 69)
abbrev mX6_write : vM := (yX6_write, cX6_write, 3, none, 8, 179)
abbrev mX7_account : vM := (yX7_account, cX7_account, 2, (some (.int)), 3, 65)
abbrev mX7_all : vM := (yX7_all, cX7_all, 4, (some (.int)), 1, 21)
abbrev mX7_append : vM := (yX7_append, cX7_append, 2, (some (.int)), 1, 22)
abbrev mX7_at : vM := (yX7_at, cX7_at, 2, (some (.int)), 0, 0)
abbrev mX7_audit : vM := (yX7_audit, cX7_audit, 2, (some (.int)), 3, 67)
abbrev mX7_audits : vM := (yX7_audits, cX7_audits, 4, (some (.int)), 2, 44)
abbrev mX7_begins : vM := (yX7_begins, cX7_begins, 1, none, 1, 22)
abbrev mX7_behind : vM := (yX7_behind, cX7_behind, 3, (some (.int)), 2, 45)
abbrev mX7_best : vM := (yX7_best, cX7_best, 7, (some (.int)), 4, 88)
abbrev mX7_bestAgain : vM := (yX7_bestAgain, cX7_bestAgain, 3, (some (.int)), 5, 114)
abbrev mX7_book : vM := (yX7_book, cX7_book, 5, (some (.int)), 4, 92)
abbrev mX7_booked : vM := (yX7_booked, cX7_booked, 3, (some (.int)), 0, 0)
abbrev mX7_booking : vM := (yX7_booking, cX7_booking, 3, (some (.int)), 1, 22)
abbrev mX7_bookings : vM := (yX7_bookings, cX7_bookings, 5, (some (.int)), 1, 22)
abbrev mX7_books : vM := (yX7_books, cX7_books, 8, (some (.int)), 3, 65)
abbrev mX7_carries : vM := (yX7_carries, cX7_carries, 5, (some (.int)), 4, 89)
abbrev mX7_character : vM := (yX7_character, cX7_character, 2, (some (.int)), 1, 22)
abbrev mX7_closes : vM := (yX7_closes, cX7_closes, 3, (some (.int)), 1, 22)
abbrev mX7_comes : vM := (yX7_comes, cX7_comes, 3, (some (.int)), 2, 43)
abbrev mX7_digits : vM := (yX7_digits, cX7_digits, 4, (some (.int)), 1, 22)
abbrev mX7_does : vM := (yX7_does, cX7_does, 6, (some (.int)), 5, 113)
abbrev mX7_earns : vM := (yX7_earns, cX7_earns, 4, none, 1, 21)
abbrev mX7_ends : vM := (yX7_ends, cX7_ends, 3, (some (.int)), 2, 42)
abbrev mX7_endsAgain : vM := (yX7_endsAgain, cX7_endsAgain, 1, (some (.int)), 3, 64)
abbrev mX7_exempt : vM := (yX7_exempt, cX7_exempt, 3, (some (.int)), 3, 67)
abbrev mX7_exempts : vM := (yX7_exempts, cX7_exempts, 5, (some (.int)), 2, 43)
abbrev mX7_fail : vM := (yX7_fail, cX7_fail, 2, (some (.int)), 0, 0)
abbrev mX7_fool : vM := (yX7_fool, cX7_fool, 2, (some (.int)), 3, 65)
abbrev mX7_foolOf : vM := (yX7_foolOf, cX7_foolOf, 3, (some (.int)), 3, 65)
abbrev mX7_forecast : vM := (yX7_forecast, cX7_forecast, 4, (some (.int)), 5, 113)
abbrev mX7_in : vM := (yX7_in, cX7_in, 2, (some (.int)), 0, 0)
abbrev mX7_init : vM := (yX7_init, cX7_init, 1, none, 1, 20)
abbrev mX7_insure : vM := (yX7_insure, cX7_insure, 2, (some (.int)), 3, 65)
abbrev mX7_insures : vM := (yX7_insures, cX7_insures, 2, (some (.int)), 2, 44)
abbrev mX7_isAhead : vM := (yX7_isAhead, cX7_isAhead, 6, (some (.boolean)), 1, 22)
abbrev mX7_isBalanced : vM := (yX7_isBalanced, cX7_isBalanced, 1, (some (.int)), 2, 44)
abbrev mX7_isBarred : vM := (yX7_isBarred, cX7_isBarred, 4, (some (.boolean)), 2, 42)
abbrev mX7_isFool : vM := (yX7_isFool, cX7_isFool, 2, (some (.boolean)), 1, 22)
abbrev mX7_isIn : vM := (yX7_isIn, cX7_isIn, 3, (some (.boolean)), 0, 0)
abbrev mX7_isJoke : vM := (yX7_isJoke, cX7_isJoke, 2, (some (.boolean)), 1, 22)
abbrev mX7_isKnown : vM := (yX7_isKnown, cX7_isKnown, 1, (some (.boolean)), 0, 0)
abbrev mX7_isThrone : vM := (yX7_isThrone, cX7_isThrone, 1, (some (.boolean)), 1, 22)
abbrev mX7_joke : vM := (yX7_joke, cX7_joke, 2, (some (.int)), 3, 65)
abbrev mX7_jokeFor : vM := (yX7_jokeFor, cX7_jokeFor, 4, (some (.int)), 1, 22)
abbrev mX7_jokeOf : vM := (yX7_jokeOf, cX7_jokeOf, 4, (some (.int)), 2, 46)
abbrev mX7_jokes : vM := (yX7_jokes, cX7_jokes, 3, (some (.int)), 2, 43)
abbrev mX7_laughs : vM := (yX7_laughs, cX7_laughs, 5, (some (.int)), 1, 21)
abbrev mX7_lays : vM := (yX7_lays, cX7_lays, 3, none, 0, 0)
abbrev mX7_mark : vM := (yX7_mark, cX7_mark, 2, none, 1, 20)
abbrev mX7_meanWit : vM := (yX7_meanWit, cX7_meanWit, 3, (some (.double)), 1, 21)
abbrev mX7_next : vM := (yX7_next, cX7_next, 1, (some (.int)), 5, 113)
abbrev mX7_of : vM := (yX7_of, cX7_of, 2, (some (.int)), 0, 0)
abbrev mX7_order : vM := (yX7_order, cX7_order, 7, none, 6, 138)
abbrev mX7_orders : vM := (yX7_orders, cX7_orders, 2, (some (.int)), 7, 164)
abbrev mX7_owner : vM := (yX7_owner, cX7_owner, 2, (some (.int)), 1, 21)
abbrev mX7_pass : vM := (yX7_pass, cX7_pass, 2, (some (.int)), 4, 87)
abbrev mX7_passes : vM := (yX7_passes, cX7_passes, 3, (some (.int)), 3, 65)
abbrev mX7_patent : vM := (yX7_patent, cX7_patent, 4, (some (.int)), 3, 68)
abbrev mX7_patents : vM := (yX7_patents, cX7_patents, 5, (some (.int)), 2, 44)
abbrev mX7_patentsOf : vM := (yX7_patentsOf, cX7_patentsOf, 4, (some (.int)), 2, 42)
abbrev mX7_pays : vM := (yX7_pays, cX7_pays, 4, (some (.int)), 1, 21)
abbrev mX7_plus : vM := (yX7_plus, cX7_plus, 2, (some (.int)), 2, 41)
abbrev mX7_ranked : vM := (yX7_ranked, cX7_ranked, 6, (some (.int)), 1, 21)
abbrev mX7_reason : vM := (yX7_reason, cX7_reason, 2, (some (.int)), 0, 0)
abbrev mX7_refuses : vM := (yX7_refuses, cX7_refuses, 3, (some (.int)), 1, 21)
abbrev mX7_restore : vM := (yX7_restore, cX7_restore, 1, (some (.int)), 1, 22)
abbrev mX7_run : vM := (yX7_run, cX7_run, 2, (some (.int)), 8, 185)
abbrev mX7_save : vM := (yX7_save, cX7_save, 1, (some (.int)), 1, 22)
abbrev mX7_sign : vM := (yX7_sign, cX7_sign, 1, (some (.int)), 0, 0)
abbrev mX7_slipShare : vM := (yX7_slipShare, cX7_slipShare, 1, (some (.float)), 2, 44)
abbrev mX7_slips : vM := (yX7_slips, cX7_slips, 2, none, 2, 44)
abbrev mX7_stalest : vM := (yX7_stalest, cX7_stalest, 6, (some (.int)), 1, 23)
abbrev mX7_tell : vM := (yX7_tell, cX7_tell, 3, (some (.int)), 2, 43)
abbrev mX7_tellBookings : vM := (yX7_tellBookings, cX7_tellBookings, 2, (some (.int)), 2, 43)
abbrev mX7_tellings : vM := (yX7_tellings, cX7_tellings, 4, (some (.int)), 0, 0)
abbrev mX7_tells : vM := (yX7_tells, cX7_tells, 5, (some (.int)), 3, 65)
abbrev mX7_throneOf : vM := (yX7_throneOf, cX7_throneOf, 3, (some (.int)), 2, 46)
abbrev mX7_told : vM := (yX7_told, cX7_told, 3, (some (.int)), 2, 43)
abbrev mX7_undo : vM := (yX7_undo, cX7_undo, 2, (some (.int)), 0, 0)
abbrev mX7_would : vM := (yX7_would, cX7_would, 4, (some (.int)), 4, 88)
abbrev mX7_wouldGet : vM := (yX7_wouldGet, cX7_wouldGet, 4, (some (.int)), 3, 65)
abbrev mX7_writes : vM := (yX7_writes, cX7_writes, 2, none, 0, 0)
abbrev mX7_writesNumber : vM := (yX7_writesNumber, cX7_writesNumber, 3, none, 1, 21)
abbrev mL_law : vM := (yL_law, cL_law, 8, some .boolean, 12, 446)
theorem wJ0_492 : cV RJ0 492 mJ0_isLatin1_aae02 0 := ⟨q4_59, q4_60, q4_61, q1_10, q4_62, ⟨by decide +kernel, by decide +kernel, by decide +kernel⟩⟩
theorem wJ0_495 : cS RJ0 495 mJ1_charAt_3b067 2 := ⟨q4_63, q4_64, q1_17, q4_65, ⟨by decide +kernel, by decide +kernel, by decide +kernel⟩⟩
theorem wJ0_498 : cS RJ0 498 mJ2_charAt_3b067 2 := ⟨q4_67, q4_68, q1_11, q4_69, ⟨by decide +kernel, by decide +kernel, by decide +kernel⟩⟩
theorem wJ0_1062 : cS RJ0 1062 mJ3_checkFromToIndex_8c36e 4 := ⟨q4_157, q4_158, q1_18, q4_159, ⟨by decide +kernel, by decide +kernel, by decide +kernel⟩⟩
theorem wJ0_1065 : cS RJ0 1065 mJ3_checkFromIndexSize_8c36e 4 := ⟨q3_220, q3_221, q1_18, q3_222, ⟨by decide +kernel, by decide +kernel, by decide +kernel⟩⟩
theorem wJ0_1059 : cS RJ0 1059 mJ3_checkIndex_8e157 3 := ⟨q4_1, q4_2, q1_18, q4_3, ⟨by decide +kernel, by decide +kernel, by decide +kernel⟩⟩
theorem wJ0_335 : cV RJ0 335 mJ0_coder_7d493 0 := ⟨q4_50, q4_51, q4_52, q1_10, q4_53, ⟨by decide +kernel, by decide +kernel, by decide +kernel⟩⟩
theorem wJ1_9 : cS RJ1 9 mJ0_checkIndex_df160 2 := ⟨q4_66, q3_239, q1_10, q4_0, ⟨by decide +kernel, by decide +kernel, by decide +kernel⟩⟩
theorem wJ1_236 : cS RJ1 236 mJ7_fill_eb02e 4 := ⟨q4_105, q4_106, q1_16, q4_107, ⟨by decide +kernel, by decide +kernel, by decide +kernel⟩⟩
theorem wJ1_240 : cS RJ1 240 mJ2_inflate_0e8fd 5 := ⟨q3_206, q3_207, q1_11, q3_208, ⟨by decide +kernel, by decide +kernel, by decide +kernel⟩⟩
theorem wJ2_67 : cS RJ2 67 mJ2_checkIndex_2214a 2 := ⟨q3_235, q3_236, q1_11, q3_237, ⟨by decide +kernel, by decide +kernel, by decide +kernel⟩⟩
theorem wJ2_71 : cS RJ2 71 mJ2_getChar_3b067 2 := ⟨q4_70, q4_27, q1_11, q4_28, ⟨by decide +kernel, by decide +kernel, by decide +kernel⟩⟩
theorem wJ2_48 : cS RJ2 48 mJ2_length_9d52b 1 := ⟨q3_212, q3_213, q1_11, q3_214, ⟨by decide +kernel, by decide +kernel, by decide +kernel⟩⟩
theorem wJ2_241 : cS RJ2 241 mJ0_checkBoundsBeginEnd_23922 3 := ⟨q4_154, q4_155, q1_10, q4_156, ⟨by decide +kernel, by decide +kernel, by decide +kernel⟩⟩
theorem wJ2_419 : cS RJ2 419 mJ0_checkBoundsOffCount_cabcc 3 := ⟨q3_215, q3_216, q1_10, q3_217, ⟨by decide +kernel, by decide +kernel, by decide +kernel⟩⟩
theorem wJ2_414 : cS RJ2 414 mJ0_checkIndex_df160 2 := ⟨q3_238, q3_239, q1_10, q4_0, ⟨by decide +kernel, by decide +kernel, by decide +kernel⟩⟩
theorem wJ2_380 : cS RJ2 380 mJ7_fill_eb02e 4 := ⟨q4_114, q4_106, q1_16, q4_107, ⟨by decide +kernel, by decide +kernel, by decide +kernel⟩⟩
theorem wJ2_96 : cS RJ2 96 mJ2_checkBoundsBeginEnd_d044e 3 := ⟨q4_151, q4_152, q1_11, q4_153, ⟨by decide +kernel, by decide +kernel, by decide +kernel⟩⟩
theorem wJ2_393 : cS RJ2 393 mJ2_getChars_ba4f3 3 := ⟨q4_160, q4_161, q1_11, q4_162, ⟨by decide +kernel, by decide +kernel, by decide +kernel⟩⟩
theorem wJ2_111 : cS RJ2 111 mJ2_putChar_b72d1 3 := ⟨q3_223, q3_224, q1_11, q3_225, ⟨by decide +kernel, by decide +kernel, by decide +kernel⟩⟩
theorem wJ2_173 : cS RJ2 173 mJ2_checkBoundsOffCount_d044e 3 := ⟨q3_209, q3_210, q1_11, q3_211, ⟨by decide +kernel, by decide +kernel, by decide +kernel⟩⟩
theorem wJ2_11 : cS RJ2 11 mJ2_newBytesLength_0f7a4 1 := ⟨q1_219, q1_220, q1_11, q1_221, ⟨by decide +kernel, by decide +kernel, by decide +kernel⟩⟩
theorem wJ4_1 : cI RJ4 1 mJ5_init_d00df 1 := ⟨q1_210, q1_211, q1_8, q1_212, by decide +kernel, ⟨by decide +kernel, by decide +kernel, by decide +kernel⟩⟩
theorem wJ5_191 : cS RJ5 191 mJ1_canEncode_fc78d 1 := ⟨q3_196, q3_197, q1_17, q3_198, ⟨by decide +kernel, by decide +kernel, by decide +kernel⟩⟩
theorem wJ5_197 : cS RJ5 197 mJ2_putCharSB_b72d1 3 := ⟨q3_232, q3_233, q1_11, q3_234, ⟨by decide +kernel, by decide +kernel, by decide +kernel⟩⟩
theorem wJ5_245 : cS RJ5 245 mJ6_stringSize_0f7a4 1 := ⟨q4_138, q4_139, q1_19, q4_140, ⟨by decide +kernel, by decide +kernel, by decide +kernel⟩⟩
theorem wJ5_248 : cS RJ5 248 mJ6_getChars_ba4f3 3 := ⟨q4_141, q4_142, q1_19, q4_143, ⟨by decide +kernel, by decide +kernel, by decide +kernel⟩⟩
theorem wJ5_251 : cS RJ5 251 mJ2_getChars_46870 4 := ⟨q4_148, q4_149, q1_11, q4_150, ⟨by decide +kernel, by decide +kernel, by decide +kernel⟩⟩
theorem wJ5_144 : cS RJ5 144 mJ0_checkIndex_df160 2 := ⟨q4_25, q3_239, q1_10, q4_0, ⟨by decide +kernel, by decide +kernel, by decide +kernel⟩⟩
theorem wJ5_148 : cS RJ5 148 mJ2_getChar_3b067 2 := ⟨q4_26, q4_27, q1_11, q4_28, ⟨by decide +kernel, by decide +kernel, by decide +kernel⟩⟩
theorem wJ5_108 : cS RJ5 108 mJ7_copyOf_9075b 2 := ⟨q3_179, q3_180, q1_16, q3_181, ⟨by decide +kernel, by decide +kernel, by decide +kernel⟩⟩
theorem wJ5_26 : cS RJ5 26 mJ2_newBytesFor_77867 1 := ⟨q1_216, q1_217, q1_11, q1_218, ⟨by decide +kernel, by decide +kernel, by decide +kernel⟩⟩
theorem wJ5_125 : cS RJ5 125 mJ1_inflate_0e8fd 5 := ⟨q3_203, q3_204, q1_17, q3_205, ⟨by decide +kernel, by decide +kernel, by decide +kernel⟩⟩
theorem wJ5_114 : cS RJ5 114 mJ8_newLength_cabcc 3 := ⟨q3_170, q3_171, q1_15, q3_172, ⟨by decide +kernel, by decide +kernel, by decide +kernel⟩⟩
theorem wJ5_133 : cS RJ5 133 mJ1_fillNull_b72d1 3 := ⟨q4_102, q4_103, q1_17, q4_104, ⟨by decide +kernel, by decide +kernel, by decide +kernel⟩⟩
theorem wJ5_137 : cS RJ5 137 mJ2_fillNull_b72d1 3 := ⟨q4_111, q4_112, q1_11, q4_113, ⟨by decide +kernel, by decide +kernel, by decide +kernel⟩⟩
theorem wJ7_13 : cS RJ7 13 mJ7_rangeCheck_23922 3 := ⟨q4_108, q4_109, q1_16, q4_110, ⟨by decide +kernel, by decide +kernel, by decide +kernel⟩⟩
theorem wJ8_201 : cS RJ8 201 mJ8_hugeLength_7cf53 2 := ⟨q3_175, q3_176, q1_15, q3_177, ⟨by decide +kernel, by decide +kernel, by decide +kernel⟩⟩
theorem wL_9 : cI RL 9 mX6_init 0 := ⟨q1_22, q1_23, q1_1, q1_24, by decide +kernel, ⟨by decide +kernel, by decide +kernel, by decide +kernel⟩⟩
theorem wL_12 : cI RL 12 mX7_init 0 := ⟨q4_232, q4_233, q1_12, q4_234, by decide +kernel, ⟨by decide +kernel, by decide +kernel, by decide +kernel⟩⟩
theorem wL_13 : cV RL 13 mX6_fool 1 := ⟨q2_53, q2_54, q2_55, q1_1, q2_56, ⟨by decide +kernel, by decide +kernel, by decide +kernel⟩⟩
theorem wL_17 : cV RL 17 mX7_fool 1 := ⟨q5_51, q5_52, q5_53, q1_12, q5_54, ⟨by decide +kernel, by decide +kernel, by decide +kernel⟩⟩
theorem wL_18 : cV RL 18 mX6_joke 1 := ⟨q2_107, q2_108, q2_109, q1_1, q2_110, ⟨by decide +kernel, by decide +kernel, by decide +kernel⟩⟩
theorem wL_21 : cV RL 21 mX7_joke 1 := ⟨q5_84, q5_85, q5_86, q1_12, q5_87, ⟨by decide +kernel, by decide +kernel, by decide +kernel⟩⟩
theorem wL_22 : cV RL 22 mX6_patent 3 := ⟨q2_119, q2_120, q2_121, q1_1, q2_122, ⟨by decide +kernel, by decide +kernel, by decide +kernel⟩⟩
theorem wL_26 : cV RL 26 mX7_patent 3 := ⟨q5_95, q5_96, q5_97, q1_12, q5_98, ⟨by decide +kernel, by decide +kernel, by decide +kernel⟩⟩
theorem wL_27 : cV RL 27 mX6_insure 1 := ⟨q2_144, q2_145, q2_146, q1_1, q2_147, ⟨by decide +kernel, by decide +kernel, by decide +kernel⟩⟩
theorem wL_30 : cV RL 30 mX7_insure 1 := ⟨q5_119, q5_120, q5_121, q1_12, q5_122, ⟨by decide +kernel, by decide +kernel, by decide +kernel⟩⟩
theorem wL_31 : cV RL 31 mX6_audit 1 := ⟨q2_152, q2_153, q2_154, q1_1, q2_155, ⟨by decide +kernel, by decide +kernel, by decide +kernel⟩⟩
theorem wL_34 : cV RL 34 mX7_audit 1 := ⟨q5_127, q5_128, q5_129, q1_12, q5_130, ⟨by decide +kernel, by decide +kernel, by decide +kernel⟩⟩
theorem wL_35 : cV RL 35 mX6_foolOf 2 := ⟨q2_160, q2_161, q2_162, q1_1, q2_163, ⟨by decide +kernel, by decide +kernel, by decide +kernel⟩⟩
theorem wL_39 : cV RL 39 mX7_foolOf 2 := ⟨q5_135, q5_136, q5_137, q1_12, q5_138, ⟨by decide +kernel, by decide +kernel, by decide +kernel⟩⟩
theorem wL_40 : cV RL 40 mX6_jokeOf 2 := ⟨q2_173, q2_174, q2_175, q1_1, q2_176, ⟨by decide +kernel, by decide +kernel, by decide +kernel⟩⟩
theorem wL_43 : cV RL 43 mX7_jokeOf 2 := ⟨q5_151, q5_152, q5_153, q1_12, q5_154, ⟨by decide +kernel, by decide +kernel, by decide +kernel⟩⟩
theorem wL_44 : cV RL 44 mX6_exempt 2 := ⟨q2_185, q2_186, q2_187, q1_1, q2_188, ⟨by decide +kernel, by decide +kernel, by decide +kernel⟩⟩
theorem wL_47 : cV RL 47 mX7_exempt 2 := ⟨q5_159, q5_160, q5_161, q1_12, q5_162, ⟨by decide +kernel, by decide +kernel, by decide +kernel⟩⟩
theorem wL_48 : cV RL 48 mX6_throneOf 2 := ⟨q2_199, q2_200, q2_201, q1_1, q2_202, ⟨by decide +kernel, by decide +kernel, by decide +kernel⟩⟩
theorem wL_51 : cV RL 51 mX7_throneOf 2 := ⟨q5_173, q5_174, q5_175, q1_12, q5_176, ⟨by decide +kernel, by decide +kernel, by decide +kernel⟩⟩
theorem wL_52 : cV RL 52 mX6_told 2 := ⟨q2_207, q2_208, q2_209, q1_1, q2_210, ⟨by decide +kernel, by decide +kernel, by decide +kernel⟩⟩
theorem wL_55 : cV RL 55 mX7_told 2 := ⟨q5_177, q5_178, q5_179, q1_12, q5_180, ⟨by decide +kernel, by decide +kernel, by decide +kernel⟩⟩
theorem wL_56 : cV RL 56 mX6_book 4 := ⟨q2_212, q2_213, q2_214, q1_1, q2_215, ⟨by decide +kernel, by decide +kernel, by decide +kernel⟩⟩
theorem wL_60 : cV RL 60 mX7_book 4 := ⟨q5_181, q5_182, q5_183, q1_12, q5_184, ⟨by decide +kernel, by decide +kernel, by decide +kernel⟩⟩
theorem wL_61 : cV RL 61 mX6_next 0 := ⟨q3_4, q3_5, q3_6, q1_1, q3_7, ⟨by decide +kernel, by decide +kernel, by decide +kernel⟩⟩
theorem wL_65 : cV RL 65 mX7_next 0 := ⟨q5_201, q5_202, q5_203, q1_12, q5_204, ⟨by decide +kernel, by decide +kernel, by decide +kernel⟩⟩
theorem wL_66 : cV RL 66 mX6_pass 1 := ⟨q3_46, q3_47, q3_48, q1_1, q3_49, ⟨by decide +kernel, by decide +kernel, by decide +kernel⟩⟩
theorem wL_69 : cV RL 69 mX7_pass 1 := ⟨q5_225, q5_226, q5_227, q1_12, q5_228, ⟨by decide +kernel, by decide +kernel, by decide +kernel⟩⟩
theorem wL_70 : cV RL 70 mX6_booking 2 := ⟨q3_58, q3_59, q3_60, q1_1, q3_61, ⟨by decide +kernel, by decide +kernel, by decide +kernel⟩⟩
theorem wL_73 : cV RL 73 mX7_booking 2 := ⟨q5_233, q5_234, q5_235, q1_12, q5_236, ⟨by decide +kernel, by decide +kernel, by decide +kernel⟩⟩
theorem wL_74 : cV RL 74 mX6_would 3 := ⟨q3_62, q3_63, q3_64, q1_1, q3_65, ⟨by decide +kernel, by decide +kernel, by decide +kernel⟩⟩
theorem wL_77 : cV RL 77 mX7_would 3 := ⟨q5_237, q5_238, q5_239, q1_12, q6_0, ⟨by decide +kernel, by decide +kernel, by decide +kernel⟩⟩
theorem wL_78 : cV RL 78 mX6_best 2 := ⟨q3_70, q3_71, q3_72, q1_1, q3_73, ⟨by decide +kernel, by decide +kernel, by decide +kernel⟩⟩
theorem wL_81 : cV RL 81 mX7_best 2 := ⟨q6_5, q6_6, q6_7, q1_12, q6_8, ⟨by decide +kernel, by decide +kernel, by decide +kernel⟩⟩
theorem wL_82 : cV RL 82 mX6_bestAgain 2 := ⟨q3_79, q3_80, q3_81, q1_1, q3_82, ⟨by decide +kernel, by decide +kernel, by decide +kernel⟩⟩
theorem wL_85 : cV RL 85 mX7_bestAgain 2 := ⟨q6_9, q6_10, q6_11, q1_12, q6_12, ⟨by decide +kernel, by decide +kernel, by decide +kernel⟩⟩
theorem wL_86 : cV RL 86 mX6_ends 0 := ⟨q3_87, q3_88, q3_89, q1_1, q3_90, ⟨by decide +kernel, by decide +kernel, by decide +kernel⟩⟩
theorem wL_89 : cV RL 89 mX7_ends 0 := ⟨q6_14, q6_15, q6_16, q1_12, q6_17, ⟨by decide +kernel, by decide +kernel, by decide +kernel⟩⟩
theorem wL_90 : cV RL 90 mX6_endsAgain 0 := ⟨q3_95, q3_96, q3_97, q1_1, q3_98, ⟨by decide +kernel, by decide +kernel, by decide +kernel⟩⟩
theorem wL_93 : cV RL 93 mX7_endsAgain 0 := ⟨q6_18, q6_19, q6_20, q1_12, q6_21, ⟨by decide +kernel, by decide +kernel, by decide +kernel⟩⟩
theorem wL_94 : cV RL 94 mX6_forecast 0 := ⟨q3_107, q3_108, q3_109, q1_1, q3_110, ⟨by decide +kernel, by decide +kernel, by decide +kernel⟩⟩
theorem wL_97 : cV RL 97 mX7_forecast 0 := ⟨q6_23, q6_24, q6_25, q1_12, q6_26, ⟨by decide +kernel, by decide +kernel, by decide +kernel⟩⟩
theorem wL_98 : cV RL 98 mX6_ranked 1 := ⟨q3_111, q3_112, q3_113, q1_1, q3_114, ⟨by decide +kernel, by decide +kernel, by decide +kernel⟩⟩
theorem wL_101 : cV RL 101 mX7_ranked 1 := ⟨q6_31, q6_32, q6_33, q1_12, q6_34, ⟨by decide +kernel, by decide +kernel, by decide +kernel⟩⟩
theorem wL_102 : cV RL 102 mX6_stalest 1 := ⟨q3_127, q3_128, q3_129, q1_1, q3_130, ⟨by decide +kernel, by decide +kernel, by decide +kernel⟩⟩
theorem wL_105 : cV RL 105 mX7_stalest 1 := ⟨q6_35, q6_36, q6_37, q1_12, q6_38, ⟨by decide +kernel, by decide +kernel, by decide +kernel⟩⟩
theorem wL_106 : cV RL 106 mX6_append 1 := ⟨q3_144, q3_145, q3_146, q1_1, q3_147, ⟨by decide +kernel, by decide +kernel, by decide +kernel⟩⟩
theorem wL_109 : cV RL 109 mX7_append 1 := ⟨q6_39, q6_40, q6_41, q1_12, q6_42, ⟨by decide +kernel, by decide +kernel, by decide +kernel⟩⟩
theorem wL_110 : cV RL 110 mX6_run 0 := ⟨q4_4, q4_5, q4_6, q1_1, q4_7, ⟨by decide +kernel, by decide +kernel, by decide +kernel⟩⟩
theorem wL_113 : cV RL 113 mX7_run 0 := ⟨q6_43, q6_44, q6_45, q1_12, q6_46, ⟨by decide +kernel, by decide +kernel, by decide +kernel⟩⟩
theorem wL_114 : cV RL 114 mX6_tell 1 := ⟨q4_127, q4_128, q4_129, q1_1, q4_130, ⟨by decide +kernel, by decide +kernel, by decide +kernel⟩⟩
theorem wL_117 : cV RL 117 mX7_tell 1 := ⟨q6_82, q6_83, q6_84, q1_12, q6_85, ⟨by decide +kernel, by decide +kernel, by decide +kernel⟩⟩
theorem wL_118 : cV RL 118 mX6_tellBookings 0 := ⟨q4_169, q4_170, q4_171, q1_1, q4_172, ⟨by decide +kernel, by decide +kernel, by decide +kernel⟩⟩
theorem wL_121 : cV RL 121 mX7_tellBookings 0 := ⟨q6_94, q6_95, q6_96, q1_12, q6_97, ⟨by decide +kernel, by decide +kernel, by decide +kernel⟩⟩
theorem wL_122 : cV RL 122 mX6_character 1 := ⟨q4_173, q4_174, q4_175, q1_1, q4_176, ⟨by decide +kernel, by decide +kernel, by decide +kernel⟩⟩
theorem wL_125 : cV RL 125 mX7_character 1 := ⟨q6_98, q6_99, q6_100, q1_12, q6_101, ⟨by decide +kernel, by decide +kernel, by decide +kernel⟩⟩
theorem wL_126 : cV RL 126 mX6_reason 1 := ⟨q4_178, q4_179, q4_180, q1_1, q4_181, ⟨by decide +kernel, by decide +kernel, by decide +kernel⟩⟩
theorem wL_130 : cV RL 130 mX7_reason 1 := ⟨q6_102, q6_103, q6_104, q1_12, q6_105, ⟨by decide +kernel, by decide +kernel, by decide +kernel⟩⟩
theorem wL_131 : cV RL 131 mX6_account 1 := ⟨q4_182, q4_183, q4_184, q1_1, q4_185, ⟨by decide +kernel, by decide +kernel, by decide +kernel⟩⟩
theorem wL_134 : cV RL 134 mX7_account 1 := ⟨q6_106, q6_107, q6_108, q1_12, q6_109, ⟨by decide +kernel, by decide +kernel, by decide +kernel⟩⟩
theorem wL_135 : cV RL 135 mX6_isBalanced 0 := ⟨q4_186, q4_187, q4_188, q1_1, q4_189, ⟨by decide +kernel, by decide +kernel, by decide +kernel⟩⟩
theorem wL_138 : cV RL 138 mX7_isBalanced 0 := ⟨q6_110, q6_111, q6_112, q1_12, q6_113, ⟨by decide +kernel, by decide +kernel, by decide +kernel⟩⟩
theorem wL_139 : cV RL 139 mX6_meanWit 0 := ⟨q4_202, q4_203, q4_204, q1_1, q4_205, ⟨by decide +kernel, by decide +kernel, by decide +kernel⟩⟩
theorem wL_143 : cV RL 143 mX7_meanWit 0 := ⟨q6_114, q6_115, q6_116, q1_12, q6_117, ⟨by decide +kernel, by decide +kernel, by decide +kernel⟩⟩
theorem wL_144 : cV RL 144 mX6_slipShare 0 := ⟨q4_206, q4_207, q4_208, q1_1, q4_209, ⟨by decide +kernel, by decide +kernel, by decide +kernel⟩⟩
theorem wL_148 : cV RL 148 mX7_slipShare 0 := ⟨q6_118, q6_119, q6_120, q1_12, q6_121, ⟨by decide +kernel, by decide +kernel, by decide +kernel⟩⟩
theorem wL_149 : cV RL 149 mX6_undo 0 := ⟨q4_210, q4_211, q4_212, q1_1, q4_213, ⟨by decide +kernel, by decide +kernel, by decide +kernel⟩⟩
theorem wL_152 : cV RL 152 mX7_undo 0 := ⟨q6_122, q6_123, q6_124, q1_12, q6_125, ⟨by decide +kernel, by decide +kernel, by decide +kernel⟩⟩
theorem wL_153 : cV RL 153 mX6_save 0 := ⟨q4_218, q4_219, q4_220, q1_1, q4_221, ⟨by decide +kernel, by decide +kernel, by decide +kernel⟩⟩
theorem wL_156 : cV RL 156 mX7_save 0 := ⟨q6_126, q6_127, q6_128, q1_12, q6_129, ⟨by decide +kernel, by decide +kernel, by decide +kernel⟩⟩
theorem wL_157 : cV RL 157 mX6_restore 0 := ⟨q4_222, q4_223, q4_224, q1_1, q4_225, ⟨by decide +kernel, by decide +kernel, by decide +kernel⟩⟩
theorem wL_160 : cV RL 160 mX7_restore 0 := ⟨q6_130, q6_131, q6_132, q1_12, q6_133, ⟨by decide +kernel, by decide +kernel, by decide +kernel⟩⟩
theorem wX0_32 : cV RX0 32 mX0_move 2 := ⟨q3_0, q3_2, s1_10, q1_5, q3_3, ⟨by decide +kernel, by decide +kernel, by decide +kernel⟩⟩
theorem wX0_28 : cSN RX0 28 mX6_copy "JesterUnion" 2 := ⟨List.mem_of_getElem? (i := 8) (by decide +kernel), q2_66, q1_1, q2_67, ⟨by decide +kernel, by decide +kernel, by decide +kernel⟩⟩
theorem wX1_108 : cV RX1 108 mX1_laughsNow 3 := ⟨q3_78, q3_67, q3_68, q1_2, q3_69, ⟨by decide +kernel, by decide +kernel, by decide +kernel⟩⟩
theorem wX1_127 : cV RX1 127 mX0_removeFirst 0 := ⟨q3_16, q3_17, q3_18, q1_5, q3_19, ⟨by decide +kernel, by decide +kernel, by decide +kernel⟩⟩
theorem wX1_100 : cV RX1 100 mX1_isBarred 2 := ⟨q3_20, q2_221, q2_222, q1_2, q2_223, ⟨by decide +kernel, by decide +kernel, by decide +kernel⟩⟩
theorem wX1_130 : cV RX1 130 mX1_payFine 2 := ⟨q3_21, q3_23, s1_12, q1_2, q3_24, ⟨by decide +kernel, by decide +kernel, by decide +kernel⟩⟩
theorem wX1_134 : cV RX1 134 mX1_perform 3 := ⟨q3_29, q3_31, s1_14, q1_2, q3_32, ⟨by decide +kernel, by decide +kernel, by decide +kernel⟩⟩
theorem wX1_82 : cV RX1 82 mX1_doesAnyEndAt 1 := ⟨q3_103, q3_105, s2_1, q1_2, q3_106, ⟨by decide +kernel, by decide +kernel, by decide +kernel⟩⟩
theorem wX1_72 : cV RX1 72 mX1_holds 1 := ⟨q2_168, q2_136, q2_137, q1_2, q2_138, ⟨by decide +kernel, by decide +kernel, by decide +kernel⟩⟩
theorem wX1_11 : cIN RX1 11 mX2_init "JesterUnion" 0 := ⟨List.mem_of_getElem? (i := 1) (by decide +kernel), q1_37, q1_3, q1_38, by decide +kernel, ⟨by decide +kernel, by decide +kernel, by decide +kernel⟩⟩
theorem wX1_20 : cIN RX1 20 mX4_init "JesterUnion" 0 := ⟨List.mem_of_getElem? (i := 2) (by decide +kernel), q1_79, q1_4, q1_80, by decide +kernel, ⟨by decide +kernel, by decide +kernel, by decide +kernel⟩⟩
theorem wX1_27 : cIN RX1 27 mX0_init "JesterUnion" 0 := ⟨List.mem_of_getElem? (i := 3) (by decide +kernel), q1_109, q1_5, q1_110, by decide +kernel, ⟨by decide +kernel, by decide +kernel, by decide +kernel⟩⟩
theorem wX1_85 : cV RX1 85 mX4_toldAt 2 := ⟨q3_37, q2_182, q2_183, q1_4, q2_184, ⟨by decide +kernel, by decide +kernel, by decide +kernel⟩⟩
theorem wX1_104 : cV RX1 104 mX1_laughs 3 := ⟨q3_33, q3_35, s1_15, q1_2, q3_36, ⟨by decide +kernel, by decide +kernel, by decide +kernel⟩⟩
theorem wX1_143 : cV RX1 143 mX1_gain 2 := ⟨q3_25, q3_27, s1_13, q1_2, q3_28, ⟨by decide +kernel, by decide +kernel, by decide +kernel⟩⟩
theorem wX1_137 : cV RX1 137 mX4_addTelling 2 := ⟨q3_41, q3_42, q3_43, q1_4, q3_44, ⟨by decide +kernel, by decide +kernel, by decide +kernel⟩⟩
theorem wX1_155 : cV RX1 155 mX1_payUnion 2 := ⟨q3_45, q2_140, q2_141, q1_2, q2_142, ⟨by decide +kernel, by decide +kernel, by decide +kernel⟩⟩
theorem wX1_112 : cV RX1 112 mX1_isAhead 4 := ⟨q2_232, q2_234, s1_9, q1_2, q2_235, ⟨by decide +kernel, by decide +kernel, by decide +kernel⟩⟩
theorem wX1_55 : cV RX1 55 mX2_take 1 := ⟨q2_61, q2_62, q2_63, q1_3, q2_64, ⟨by decide +kernel, by decide +kernel, by decide +kernel⟩⟩
theorem wX1_59 : cV RX1 59 mX4_take 1 := ⟨q2_74, q2_75, q2_76, q1_4, q2_77, ⟨by decide +kernel, by decide +kernel, by decide +kernel⟩⟩
theorem wX1_62 : cV RX1 62 mX0_take 1 := ⟨q2_79, q2_80, q2_81, q1_5, q2_82, ⟨by decide +kernel, by decide +kernel, by decide +kernel⟩⟩
theorem wX1_65 : cSN RX1 65 mX6_copy "JesterUnion" 2 := ⟨List.mem_of_getElem? (i := 9) (by decide +kernel), q2_66, q1_1, q2_67, ⟨by decide +kernel, by decide +kernel, by decide +kernel⟩⟩
theorem wX2_38 : cV RX2 38 mX2_countAhead 1 := ⟨q3_119, q3_121, s2_2, q1_3, q3_122, ⟨by decide +kernel, by decide +kernel, by decide +kernel⟩⟩
theorem wX2_42 : cV RX2 42 mX2_isAhead 2 := ⟨q3_123, q3_125, s2_3, q1_3, q3_126, ⟨by decide +kernel, by decide +kernel, by decide +kernel⟩⟩
theorem wX2_34 : cSN RX2 34 mX6_copy "JesterUnion" 2 := ⟨List.mem_of_getElem? (i := 6) (by decide +kernel), q2_66, q1_1, q2_67, ⟨by decide +kernel, by decide +kernel, by decide +kernel⟩⟩
theorem wX3_25 : cV RX3 25 mX1_take 1 := ⟨q2_105, q2_58, q2_59, q1_2, q2_60, ⟨by decide +kernel, by decide +kernel, by decide +kernel⟩⟩
theorem wX3_24 : cIN RX3 24 mX1_init "JesterUnion" 0 := ⟨List.mem_of_getElem? (i := 4) (by decide +kernel), q1_31, q1_2, q1_32, by decide +kernel, ⟨by decide +kernel, by decide +kernel, by decide +kernel⟩⟩
theorem wX4_36 : cV RX4 36 mX4_countAhead 1 := ⟨q3_135, q3_137, s2_4, q1_4, q3_138, ⟨by decide +kernel, by decide +kernel, by decide +kernel⟩⟩
theorem wX4_40 : cV RX4 40 mX4_isAhead 2 := ⟨q3_139, q3_141, s2_5, q1_4, q3_142, ⟨by decide +kernel, by decide +kernel, by decide +kernel⟩⟩
theorem wX4_44 : cV RX4 44 mX4_tellings 1 := ⟨q3_143, q2_178, q2_179, q1_4, q2_180, ⟨by decide +kernel, by decide +kernel, by decide +kernel⟩⟩
theorem wX4_28 : cSN RX4 28 mX6_copy "JesterUnion" 2 := ⟨List.mem_of_getElem? (i := 7) (by decide +kernel), q2_66, q1_1, q2_67, ⟨by decide +kernel, by decide +kernel, by decide +kernel⟩⟩
theorem wX4_32 : cV RX4 32 mX4_toldAt 2 := ⟨q2_181, q2_182, q2_183, q1_4, q2_184, ⟨by decide +kernel, by decide +kernel, by decide +kernel⟩⟩
theorem wX5_11 : cI RX5 11 mJ4_init_da8c8 0 := ⟨q1_207, q1_208, q1_9, q1_209, by decide +kernel, ⟨by decide +kernel, by decide +kernel, by decide +kernel⟩⟩
theorem wX5_40 : cV RX5 40 mJ4_length_8abf5 0 := ⟨q4_16, q3_149, q3_150, q1_9, q3_151, ⟨by decide +kernel, by decide +kernel, by decide +kernel⟩⟩
theorem wX5_48 : cV RX5 48 mJ4_charAt_5068e 1 := ⟨q4_17, q4_18, q4_19, q1_9, q4_20, ⟨by decide +kernel, by decide +kernel, by decide +kernel⟩⟩
theorem wX5_36 : cV RX5 36 mX5_readOrder 0 := ⟨q4_12, q4_14, s2_6, q1_7, q4_15, ⟨by decide +kernel, by decide +kernel, by decide +kernel⟩⟩
theorem wX5_44 : cV RX5 44 mX5_readSign 1 := ⟨q4_91, q4_93, s2_12, q1_7, q4_94, ⟨by decide +kernel, by decide +kernel, by decide +kernel⟩⟩
theorem wX5_93 : cV RX5 93 mX5_isDigitAhead 0 := ⟨q4_79, q4_81, s2_9, q1_7, q4_82, ⟨by decide +kernel, by decide +kernel, by decide +kernel⟩⟩
theorem wX5_96 : cV RX5 96 mX5_keepNumber 1 := ⟨q4_83, q4_85, s2_10, q1_7, q4_86, ⟨by decide +kernel, by decide +kernel, by decide +kernel⟩⟩
theorem wX5_52 : cS RX5 52 mX5_shapeOf 1 := ⟨q4_29, q4_30, q1_7, q4_31, ⟨by decide +kernel, by decide +kernel, by decide +kernel⟩⟩
theorem wX5_56 : cV RX5 56 mJ0_isEmpty_aae02 0 := ⟨q4_42, q4_43, q4_44, q1_10, q4_45, ⟨by decide +kernel, by decide +kernel, by decide +kernel⟩⟩
theorem wX5_61 : cV RX5 61 mJ0_length_8abf5 0 := ⟨q4_46, q4_47, q4_48, q1_10, q4_49, ⟨by decide +kernel, by decide +kernel, by decide +kernel⟩⟩
theorem wX5_62 : cV RX5 62 mJ0_charAt_5068e 1 := ⟨q4_55, q4_56, q4_57, q1_10, q4_58, ⟨by decide +kernel, by decide +kernel, by decide +kernel⟩⟩
theorem wX5_63 : cV RX5 63 mX5_readPart 1 := ⟨q4_71, q4_73, s2_7, q1_7, q4_74, ⟨by decide +kernel, by decide +kernel, by decide +kernel⟩⟩
theorem wX5_86 : cV RX5 86 mX5_readNumber 1 := ⟨q4_75, q4_77, s2_8, q1_7, q4_78, ⟨by decide +kernel, by decide +kernel, by decide +kernel⟩⟩
theorem wX5_90 : cV RX5 90 mX5_readPlusOrMinus 0 := ⟨q4_87, q4_89, s2_11, q1_7, q4_90, ⟨by decide +kernel, by decide +kernel, by decide +kernel⟩⟩
theorem wX6_210 : cS RX6 210 mX6_sum 1 := ⟨q2_196, q2_197, q1_1, q2_198, ⟨by decide +kernel, by decide +kernel, by decide +kernel⟩⟩
theorem wX6_271 : cV RX6 271 mX1_patents 0 := ⟨q3_54, q3_55, q3_56, q1_2, q3_57, ⟨by decide +kernel, by decide +kernel, by decide +kernel⟩⟩
theorem wX6_221 : cV RX6 221 mJ4_length_8abf5 0 := ⟨q3_148, q3_149, q3_150, q1_9, q3_151, ⟨by decide +kernel, by decide +kernel, by decide +kernel⟩⟩
theorem wX6_243 : cV RX6 243 mX6_refuse 2 := ⟨q2_89, q2_91, s1_1, q1_1, q2_92, ⟨by decide +kernel, by decide +kernel, by decide +kernel⟩⟩
theorem wX6_290 : cV RX6 290 mX2_add 1 := ⟨q2_93, q2_94, q2_95, q1_3, q2_96, ⟨by decide +kernel, by decide +kernel, by decide +kernel⟩⟩
theorem wX6_224 : cV RX6 224 mJ4_append_cf468 1 := ⟨q3_155, q3_156, q3_157, q1_9, q3_158, ⟨by decide +kernel, by decide +kernel, by decide +kernel⟩⟩
theorem wX6_195 : cV RX6 195 mX1_bestJokeByJoke 2 := ⟨q3_74, q3_75, q3_76, q1_2, q3_77, ⟨by decide +kernel, by decide +kernel, by decide +kernel⟩⟩
theorem wX6_198 : cV RX6 198 mX1_bestByWit 2 := ⟨q3_83, q3_84, q3_85, q1_2, q3_86, ⟨by decide +kernel, by decide +kernel, by decide +kernel⟩⟩
theorem wX6_164 : cV RX6 164 mX4_tellingsAt 1 := ⟨q2_203, q2_204, q2_205, q1_4, q2_206, ⟨by decide +kernel, by decide +kernel, by decide +kernel⟩⟩
theorem wX6_57 : cV RX6 57 mX1_take 1 := ⟨q2_57, q2_58, q2_59, q1_2, q2_60, ⟨by decide +kernel, by decide +kernel, by decide +kernel⟩⟩
theorem wX6_78 : cV RX6 78 mX6_collect 1 := ⟨q2_156, q2_158, s1_6, q1_1, q2_159, ⟨by decide +kernel, by decide +kernel, by decide +kernel⟩⟩
theorem wX6_65 : cV RX6 65 mX6_remember 1 := ⟨q2_97, q2_99, s1_2, q1_1, q2_100, ⟨by decide +kernel, by decide +kernel, by decide +kernel⟩⟩
theorem wX6_85 : cV RX6 85 mX2_has 1 := ⟨q2_127, q2_128, q2_129, q1_3, q2_130, ⟨by decide +kernel, by decide +kernel, by decide +kernel⟩⟩
theorem wX6_158 : cS RX6 158 mX6_isThrone 1 := ⟨q2_193, q2_194, q1_1, q2_195, ⟨by decide +kernel, by decide +kernel, by decide +kernel⟩⟩
theorem wX6_176 : cV RX6 176 mX6_reserve 4 := ⟨q2_216, q2_218, s1_8, q1_1, q2_219, ⟨by decide +kernel, by decide +kernel, by decide +kernel⟩⟩
theorem wX6_207 : cV RX6 207 mX1_carryFirstOut 0 := ⟨q3_12, q3_13, q3_14, q1_2, q3_15, ⟨by decide +kernel, by decide +kernel, by decide +kernel⟩⟩
theorem wX6_311 : cV RX6 311 mX5_number 2 := ⟨q4_119, q4_120, q4_121, q1_7, q4_122, ⟨by decide +kernel, by decide +kernel, by decide +kernel⟩⟩
theorem wX6_314 : cV RX6 314 mX5_letter 1 := ⟨q4_123, q4_124, q4_125, q1_7, q4_126, ⟨by decide +kernel, by decide +kernel, by decide +kernel⟩⟩
theorem wX6_61 : cV RX6 61 mX6_admit 1 := ⟨q2_85, q2_87, s1_0, q1_1, q2_88, ⟨by decide +kernel, by decide +kernel, by decide +kernel⟩⟩
theorem wX6_68 : cV RX6 68 mX6_invent 1 := ⟨q2_111, q2_113, s1_3, q1_1, q2_114, ⟨by decide +kernel, by decide +kernel, by decide +kernel⟩⟩
theorem wX6_71 : cV RX6 71 mX6_grant 3 := ⟨q2_123, q2_125, s1_4, q1_1, q2_126, ⟨by decide +kernel, by decide +kernel, by decide +kernel⟩⟩
theorem wX6_180 : cV RX6 180 mX6_carryNextOut 0 := ⟨q3_8, q3_10, s1_11, q1_1, q3_11, ⟨by decide +kernel, by decide +kernel, by decide +kernel⟩⟩
theorem wX6_75 : cV RX6 75 mX6_cover 1 := ⟨q2_148, q2_150, s1_5, q1_1, q2_151, ⟨by decide +kernel, by decide +kernel, by decide +kernel⟩⟩
theorem wX6_154 : cV RX6 154 mX6_setExempt 2 := ⟨q2_189, q2_191, s1_7, q1_1, q2_192, ⟨by decide +kernel, by decide +kernel, by decide +kernel⟩⟩
theorem wX6_184 : cV RX6 184 mX6_elapse 1 := ⟨q3_50, q3_52, s2_0, q1_1, q3_53, ⟨by decide +kernel, by decide +kernel, by decide +kernel⟩⟩
theorem wX6_253 : cV RX6 253 mJ4_charAt_5068e 1 := ⟨q4_177, q4_18, q4_19, q1_9, q4_20, ⟨by decide +kernel, by decide +kernel, by decide +kernel⟩⟩
theorem wX6_294 : cV RX6 294 mX1_payUnion 2 := ⟨q2_139, q2_140, q2_141, q1_2, q2_142, ⟨by decide +kernel, by decide +kernel, by decide +kernel⟩⟩
theorem wX6_201 : cV RX6 201 mX1_endJokeByJoke 0 := ⟨q3_91, q3_92, q3_93, q1_2, q3_94, ⟨by decide +kernel, by decide +kernel, by decide +kernel⟩⟩
theorem wX6_204 : cV RX6 204 mX1_endHourByHour 0 := ⟨q3_99, q3_100, q3_101, q1_2, q3_102, ⟨by decide +kernel, by decide +kernel, by decide +kernel⟩⟩
theorem wX6_104 : cV RX6 104 mX1_patentsOf 1 := ⟨q2_164, q2_165, q2_166, q1_2, q2_167, ⟨by decide +kernel, by decide +kernel, by decide +kernel⟩⟩
theorem wX6_116 : cV RX6 116 mX0_with 2 := ⟨q2_169, q2_170, q2_171, q1_5, q2_172, ⟨by decide +kernel, by decide +kernel, by decide +kernel⟩⟩
theorem wX6_130 : cV RX6 130 mX4_has 1 := ⟨q2_131, q2_132, q2_133, q1_4, q2_134, ⟨by decide +kernel, by decide +kernel, by decide +kernel⟩⟩
theorem wX6_136 : cV RX6 136 mX1_holds 1 := ⟨q2_135, q2_136, q2_137, q1_2, q2_138, ⟨by decide +kernel, by decide +kernel, by decide +kernel⟩⟩
theorem wX6_9 : cIN RX6 9 mX1_init "JesterUnion" 0 := ⟨List.mem_of_getElem? (i := 0) (by decide +kernel), q1_31, q1_2, q1_32, by decide +kernel, ⟨by decide +kernel, by decide +kernel, by decide +kernel⟩⟩
theorem wX6_27 : cI RX6 27 mX3_init 0 := ⟨q1_181, q1_182, q1_6, q1_183, by decide +kernel, ⟨by decide +kernel, by decide +kernel, by decide +kernel⟩⟩
theorem wX6_34 : cIN RX6 34 mX5_init "JesterUnion" 0 := ⟨List.mem_of_getElem? (i := 5) (by decide +kernel), q1_202, q1_7, q1_203, by decide +kernel, ⟨by decide +kernel, by decide +kernel, by decide +kernel⟩⟩
theorem wX6_41 : cI RX6 41 mJ4_init_da8c8 0 := ⟨q2_21, q1_208, q1_9, q1_209, by decide +kernel, ⟨by decide +kernel, by decide +kernel, by decide +kernel⟩⟩
theorem wX6_293 : cV RX6 293 mX4_add 1 := ⟨q2_115, q2_116, q2_117, q1_4, q2_118, ⟨by decide +kernel, by decide +kernel, by decide +kernel⟩⟩
theorem wX6_275 : cV RX6 275 mX6_areCoinsAccountedFor 0 := ⟨q4_190, q4_192, s2_15, q1_1, q4_193, ⟨by decide +kernel, by decide +kernel, by decide +kernel⟩⟩
theorem wX6_278 : cV RX6 278 mX6_areTellingsAccountedFor 0 := ⟨q4_194, q4_196, s3_0, q1_1, q4_197, ⟨by decide +kernel, by decide +kernel, by decide +kernel⟩⟩
theorem wX6_281 : cV RX6 281 mX6_areBestsTheSame 0 := ⟨q4_198, q4_200, s3_1, q1_1, q4_201, ⟨by decide +kernel, by decide +kernel, by decide +kernel⟩⟩
theorem wX6_148 : cV RX6 148 mX4_tellings 1 := ⟨q2_177, q2_178, q2_179, q1_4, q2_180, ⟨by decide +kernel, by decide +kernel, by decide +kernel⟩⟩
theorem wX6_214 : cV RX6 214 mX2_atRank 1 := ⟨q3_115, q3_116, q3_117, q1_3, q3_118, ⟨by decide +kernel, by decide +kernel, by decide +kernel⟩⟩
theorem wX6_317 : cV RX6 317 mX3_keep 1 := ⟨q2_101, q2_102, q2_103, q1_6, q2_104, ⟨by decide +kernel, by decide +kernel, by decide +kernel⟩⟩
theorem wX6_297 : cV RX6 297 mX1_isBarred 2 := ⟨q2_220, q2_221, q2_222, q1_2, q2_223, ⟨by decide +kernel, by decide +kernel, by decide +kernel⟩⟩
theorem wX6_301 : cV RX6 301 mX0_jokeOfFoolAt 2 := ⟨q2_224, q2_225, q2_226, q1_5, q2_227, ⟨by decide +kernel, by decide +kernel, by decide +kernel⟩⟩
theorem wX6_304 : cV RX6 304 mX1_placeFor 3 := ⟨q2_228, q2_229, q2_230, q1_2, q2_231, ⟨by decide +kernel, by decide +kernel, by decide +kernel⟩⟩
theorem wX6_307 : cV RX6 307 mX0_insert 5 := ⟨q2_236, q2_237, q2_238, q1_5, q2_239, ⟨by decide +kernel, by decide +kernel, by decide +kernel⟩⟩
theorem wX6_287 : cV RX6 287 mX3_forgetAll 0 := ⟨q4_226, q4_227, q4_228, q1_6, q4_229, ⟨by decide +kernel, by decide +kernel, by decide +kernel⟩⟩
theorem wX6_228 : cV RX6 228 mX5_read 0 := ⟨q4_8, q4_9, q4_10, q1_7, q4_11, ⟨by decide +kernel, by decide +kernel, by decide +kernel⟩⟩
theorem wX6_232 : cV RX6 232 mJ4_setLength_d00df 1 := ⟨q4_95, q4_96, q4_97, q1_9, q4_98, ⟨by decide +kernel, by decide +kernel, by decide +kernel⟩⟩
theorem wX6_240 : cV RX6 240 mX6_carryOrderOut 1 := ⟨q4_115, q4_117, s2_13, q1_1, q4_118, ⟨by decide +kernel, by decide +kernel, by decide +kernel⟩⟩
theorem wX6_217 : cV RX6 217 mX4_atRank 1 := ⟨q3_131, q3_132, q3_133, q1_4, q3_134, ⟨by decide +kernel, by decide +kernel, by decide +kernel⟩⟩
theorem wX6_246 : cV RX6 246 mJ4_append_bf812 1 := ⟨q4_131, q4_132, q4_133, q1_9, q4_134, ⟨by decide +kernel, by decide +kernel, by decide +kernel⟩⟩
theorem wX6_249 : cV RX6 249 mX6_write 2 := ⟨q4_165, q4_167, s2_14, q1_1, q4_168, ⟨by decide +kernel, by decide +kernel, by decide +kernel⟩⟩
theorem wX6_173 : cV RX6 173 mX4_toldAt 2 := ⟨q2_211, q2_182, q2_183, q1_4, q2_184, ⟨by decide +kernel, by decide +kernel, by decide +kernel⟩⟩
theorem wX6_284 : cV RX6 284 mX3_giveLatestBack 1 := ⟨q4_214, q4_215, q4_216, q1_6, q4_217, ⟨by decide +kernel, by decide +kernel, by decide +kernel⟩⟩
theorem wX6_192 : cV RX6 192 mX1_laughsNow 3 := ⟨q3_66, q3_67, q3_68, q1_2, q3_69, ⟨by decide +kernel, by decide +kernel, by decide +kernel⟩⟩
theorem wX7_167 : cV RX7 167 mX7_all 1 := ⟨q6_27, q6_29, s4_15, q1_12, q6_30, ⟨by decide +kernel, by decide +kernel, by decide +kernel⟩⟩
theorem wX7_104 : cV RX7 104 mX7_patentsOf 1 := ⟨q5_139, q5_141, s3_15, q1_12, q5_142, ⟨by decide +kernel, by decide +kernel, by decide +kernel⟩⟩
theorem wX7_63 : cS RX7 63 mX7_at 2 := ⟨q5_77, q5_78, q1_12, q5_79, ⟨by decide +kernel, by decide +kernel, by decide +kernel⟩⟩
theorem wX7_52 : cS RX7 52 mX7_isIn 3 := ⟨q5_66, q5_67, q1_12, q5_68, ⟨by decide +kernel, by decide +kernel, by decide +kernel⟩⟩
theorem wX7_69 : cV RX7 69 mX7_begins 0 := ⟨q5_55, q5_57, s3_2, q1_12, q5_58, ⟨by decide +kernel, by decide +kernel, by decide +kernel⟩⟩
theorem wX7_98 : cV RX7 98 mX7_audits 1 := ⟨q5_131, q5_133, s3_14, q1_12, q5_134, ⟨by decide +kernel, by decide +kernel, by decide +kernel⟩⟩
theorem wX7_75 : cV RX7 75 mX7_closes 1 := ⟨q5_80, q5_82, s3_6, q1_12, q5_83, ⟨by decide +kernel, by decide +kernel, by decide +kernel⟩⟩
theorem wX7_81 : cV RX7 81 mX7_isFool 1 := ⟨q5_103, q5_105, s3_9, q1_12, q5_106, ⟨by decide +kernel, by decide +kernel, by decide +kernel⟩⟩
theorem wX7_41 : cV RX7 41 mX7_fail 1 := ⟨q5_69, q5_71, s3_4, q1_12, q5_72, ⟨by decide +kernel, by decide +kernel, by decide +kernel⟩⟩
theorem wX7_66 : cV RX7 66 mX7_refuses 2 := ⟨q5_73, q5_75, s3_5, q1_12, q5_76, ⟨by decide +kernel, by decide +kernel, by decide +kernel⟩⟩
theorem wX7_88 : cV RX7 88 mX7_pays 2 := ⟨q5_115, q5_117, s3_12, q1_12, q5_118, ⟨by decide +kernel, by decide +kernel, by decide +kernel⟩⟩
theorem wX7_45 : cS RX7 45 mX7_lays 2 := ⟨q5_59, q5_60, q1_12, q5_61, ⟨by decide +kernel, by decide +kernel, by decide +kernel⟩⟩
theorem wX7_192 : cV RX7 192 mX7_mark 1 := ⟨q6_70, q6_72, s5_5, q1_12, q6_73, ⟨by decide +kernel, by decide +kernel, by decide +kernel⟩⟩
theorem wX7_195 : cV RX7 195 mX7_digits 1 := ⟨q6_62, q6_64, s5_3, q1_12, q6_65, ⟨by decide +kernel, by decide +kernel, by decide +kernel⟩⟩
theorem wX7_113 : cS RX7 113 mX7_isThrone 1 := ⟨q5_167, q5_168, q1_12, q5_169, ⟨by decide +kernel, by decide +kernel, by decide +kernel⟩⟩
theorem wX7_158 : cV RX7 158 mX7_wouldGet 3 := ⟨q6_1, q6_3, s4_14, q1_12, q6_4, ⟨by decide +kernel, by decide +kernel, by decide +kernel⟩⟩
theorem wX7_161 : cV RX7 161 mX7_best 2 := ⟨q6_13, q6_6, q6_7, q1_12, q6_8, ⟨by decide +kernel, by decide +kernel, by decide +kernel⟩⟩
theorem wX7_133 : cV RX7 133 mX7_books 4 := ⟨q5_185, q5_187, s4_4, q1_12, q5_188, ⟨by decide +kernel, by decide +kernel, by decide +kernel⟩⟩
theorem wX7_101 : cV RX7 101 mX7_booked 2 := ⟨q5_147, q5_149, s4_1, q1_12, q5_150, ⟨by decide +kernel, by decide +kernel, by decide +kernel⟩⟩
theorem wX7_85 : cV RX7 85 mX7_isJoke 1 := ⟨q5_107, q5_109, s3_10, q1_12, q5_110, ⟨by decide +kernel, by decide +kernel, by decide +kernel⟩⟩
theorem wX7_122 : cV RX7 122 mX7_jokeFor 2 := ⟨q5_189, q5_191, s4_5, q1_12, q5_192, ⟨by decide +kernel, by decide +kernel, by decide +kernel⟩⟩
theorem wX7_116 : cS RX7 116 mX7_of 2 := ⟨q5_170, q5_171, q1_12, q5_172, ⟨by decide +kernel, by decide +kernel, by decide +kernel⟩⟩
theorem wX7_125 : cV RX7 125 mX7_isBarred 2 := ⟨q5_193, q5_195, s4_6, q1_12, q5_196, ⟨by decide +kernel, by decide +kernel, by decide +kernel⟩⟩
theorem wX7_60 : cV RX7 60 mX7_owner 1 := ⟨q5_111, q5_113, s3_11, q1_12, q5_114, ⟨by decide +kernel, by decide +kernel, by decide +kernel⟩⟩
theorem wX7_129 : cV RX7 129 mX7_isAhead 4 := ⟨q5_197, q5_199, s4_7, q1_12, q5_200, ⟨by decide +kernel, by decide +kernel, by decide +kernel⟩⟩
theorem wX7_144 : cV RX7 144 mX7_earns 2 := ⟨q5_209, q5_211, s4_9, q1_12, q5_212, ⟨by decide +kernel, by decide +kernel, by decide +kernel⟩⟩
theorem wX7_148 : cV RX7 148 mX7_tells 3 := ⟨q5_213, q5_215, s4_10, q1_12, q5_216, ⟨by decide +kernel, by decide +kernel, by decide +kernel⟩⟩
theorem wX7_189 : cV RX7 189 mX7_sign 0 := ⟨q6_55, q6_57, s5_2, q1_12, q6_58, ⟨by decide +kernel, by decide +kernel, by decide +kernel⟩⟩
theorem wX7_72 : cV RX7 72 mX7_comes 1 := ⟨q5_62, q5_64, s3_3, q1_12, q5_65, ⟨by decide +kernel, by decide +kernel, by decide +kernel⟩⟩
theorem wX7_78 : cV RX7 78 mX7_jokes 1 := ⟨q5_88, q5_90, s3_7, q1_12, q5_91, ⟨by decide +kernel, by decide +kernel, by decide +kernel⟩⟩
theorem wX7_91 : cV RX7 91 mX7_patents 3 := ⟨q5_99, q5_101, s3_8, q1_12, q5_102, ⟨by decide +kernel, by decide +kernel, by decide +kernel⟩⟩
theorem wX7_151 : cV RX7 151 mX7_carries 0 := ⟨q5_205, q5_207, s4_8, q1_12, q5_208, ⟨by decide +kernel, by decide +kernel, by decide +kernel⟩⟩
theorem wX7_95 : cV RX7 95 mX7_insures 1 := ⟨q5_123, q5_125, s3_13, q1_12, q5_126, ⟨by decide +kernel, by decide +kernel, by decide +kernel⟩⟩
theorem wX7_119 : cV RX7 119 mX7_exempts 2 := ⟨q5_163, q5_165, s4_3, q1_12, q5_166, ⟨by decide +kernel, by decide +kernel, by decide +kernel⟩⟩
theorem wX7_155 : cV RX7 155 mX7_passes 1 := ⟨q5_229, q5_231, s4_13, q1_12, q5_232, ⟨by decide +kernel, by decide +kernel, by decide +kernel⟩⟩
theorem wX7_56 : cS RX7 56 mX7_in 2 := ⟨q5_92, q5_93, q1_12, q5_94, ⟨by decide +kernel, by decide +kernel, by decide +kernel⟩⟩
theorem wX7_164 : cV RX7 164 mX7_ends 0 := ⟨q6_22, q6_15, q6_16, q1_12, q6_17, ⟨by decide +kernel, by decide +kernel, by decide +kernel⟩⟩
theorem wX7_107 : cV RX7 107 mX7_bookings 2 := ⟨q5_143, q5_145, s4_0, q1_12, q5_146, ⟨by decide +kernel, by decide +kernel, by decide +kernel⟩⟩
theorem wX7_110 : cV RX7 110 mX7_tellings 1 := ⟨q5_155, q5_157, s4_2, q1_12, q5_158, ⟨by decide +kernel, by decide +kernel, by decide +kernel⟩⟩
theorem wX7_198 : cS RX7 198 mX7_isKnown 1 := ⟨q6_59, q6_60, q1_12, q6_61, ⟨by decide +kernel, by decide +kernel, by decide +kernel⟩⟩
theorem wX7_201 : cV RX7 201 mX7_behind 2 := ⟨q6_66, q6_68, s5_4, q1_12, q6_69, ⟨by decide +kernel, by decide +kernel, by decide +kernel⟩⟩
theorem wX7_204 : cV RX7 204 mX7_plus 0 := ⟨q6_74, q6_76, s5_6, q1_12, q6_77, ⟨by decide +kernel, by decide +kernel, by decide +kernel⟩⟩
theorem wX7_210 : cV RX7 210 mX7_does 5 := ⟨q6_78, q6_80, s5_7, q1_12, q6_81, ⟨by decide +kernel, by decide +kernel, by decide +kernel⟩⟩
theorem wX7_214 : cV RX7 214 mX7_order 0 := ⟨q6_51, q6_53, s5_1, q1_12, q6_54, ⟨by decide +kernel, by decide +kernel, by decide +kernel⟩⟩
theorem wX7_217 : cV RX7 217 mX7_orders 0 := ⟨q6_47, q6_49, s5_0, q1_12, q6_50, ⟨by decide +kernel, by decide +kernel, by decide +kernel⟩⟩
theorem wX7_220 : cV RX7 220 mX7_writesNumber 1 := ⟨q6_86, q6_88, s5_8, q1_12, q6_89, ⟨by decide +kernel, by decide +kernel, by decide +kernel⟩⟩
theorem wX7_173 : cV RX7 173 mX7_writes 1 := ⟨q6_90, q6_92, s5_9, q1_12, q6_93, ⟨by decide +kernel, by decide +kernel, by decide +kernel⟩⟩
theorem wX7_137 : cV RX7 137 mX7_laughs 3 := ⟨q5_217, q5_219, s4_11, q1_12, q5_220, ⟨by decide +kernel, by decide +kernel, by decide +kernel⟩⟩
theorem wX7_140 : cV RX7 140 mX7_slips 1 := ⟨q5_221, q5_223, s4_12, q1_12, q5_224, ⟨by decide +kernel, by decide +kernel, by decide +kernel⟩⟩
