theorem inX0 : ∀ w ∈ u_ws RX0 TX0 5, w ∈ gw := List.forall_mem_cons.mpr ⟨q1_127, List.forall_mem_cons.mpr ⟨q1_129, List.forall_mem_cons.mpr ⟨q1_131, List.forall_mem_cons.mpr ⟨q1_133, List.forall_mem_cons.mpr ⟨q1_135, fun _ h => absurd h List.not_mem_nil⟩⟩⟩⟩⟩
theorem inX1 : ∀ w ∈ u_ws RX1 TX1 10, w ∈ gw := List.forall_mem_cons.mpr ⟨q1_158, List.forall_mem_cons.mpr ⟨q1_160, List.forall_mem_cons.mpr ⟨q1_162, List.forall_mem_cons.mpr ⟨q1_164, List.forall_mem_cons.mpr ⟨q1_166, List.forall_mem_cons.mpr ⟨q1_168, List.forall_mem_cons.mpr ⟨q1_170, List.forall_mem_cons.mpr ⟨q1_172, List.forall_mem_cons.mpr ⟨q1_174, List.forall_mem_cons.mpr ⟨q1_176, fun _ h => absurd h List.not_mem_nil⟩⟩⟩⟩⟩⟩⟩⟩⟩⟩
theorem inX2 : ∀ w ∈ u_ws RX2 TX2 7, w ∈ gw := List.forall_mem_cons.mpr ⟨q1_60, List.forall_mem_cons.mpr ⟨q1_62, List.forall_mem_cons.mpr ⟨q1_64, List.forall_mem_cons.mpr ⟨q1_66, List.forall_mem_cons.mpr ⟨q1_68, List.forall_mem_cons.mpr ⟨q1_70, List.forall_mem_cons.mpr ⟨q1_72, fun _ h => absurd h List.not_mem_nil⟩⟩⟩⟩⟩⟩⟩
theorem inX3 : ∀ w ∈ u_ws RX3 TX3 3, w ∈ gw := List.forall_mem_cons.mpr ⟨q1_192, List.forall_mem_cons.mpr ⟨q1_194, List.forall_mem_cons.mpr ⟨q1_196, fun _ h => absurd h List.not_mem_nil⟩⟩⟩
theorem inX4 : ∀ w ∈ u_ws RX4 TX4 5, w ∈ gw := List.forall_mem_cons.mpr ⟨q1_95, List.forall_mem_cons.mpr ⟨q1_97, List.forall_mem_cons.mpr ⟨q1_99, List.forall_mem_cons.mpr ⟨q1_101, List.forall_mem_cons.mpr ⟨q1_103, fun _ h => absurd h List.not_mem_nil⟩⟩⟩⟩⟩
theorem inX5 : ∀ w ∈ u_ws RX5 TX5 6, w ∈ gw := List.forall_mem_cons.mpr ⟨q2_7, List.forall_mem_cons.mpr ⟨q2_9, List.forall_mem_cons.mpr ⟨q2_11, List.forall_mem_cons.mpr ⟨q2_13, List.forall_mem_cons.mpr ⟨q2_15, List.forall_mem_cons.mpr ⟨q2_17, fun _ h => absurd h List.not_mem_nil⟩⟩⟩⟩⟩⟩
theorem inX6 : ∀ w ∈ u_ws RX6 TX6 10, w ∈ gw := List.forall_mem_cons.mpr ⟨q2_33, List.forall_mem_cons.mpr ⟨q2_35, List.forall_mem_cons.mpr ⟨q2_37, List.forall_mem_cons.mpr ⟨q2_39, List.forall_mem_cons.mpr ⟨q2_41, List.forall_mem_cons.mpr ⟨q2_43, List.forall_mem_cons.mpr ⟨q2_45, List.forall_mem_cons.mpr ⟨q2_47, List.forall_mem_cons.mpr ⟨q2_49, List.forall_mem_cons.mpr ⟨q2_51, fun _ h => absurd h List.not_mem_nil⟩⟩⟩⟩⟩⟩⟩⟩⟩⟩
theorem inX7 : ∀ w ∈ u_ws RX7 TX7 1, w ∈ gw := List.forall_mem_cons.mpr ⟨q4_62, fun _ h => absurd h List.not_mem_nil⟩
theorem inJ4 : ∀ w ∈ u_ws RJ4 TJ4 4, w ∈ gw := List.forall_mem_cons.mpr ⟨q1_228, List.forall_mem_cons.mpr ⟨q1_230, List.forall_mem_cons.mpr ⟨q1_232, List.forall_mem_cons.mpr ⟨q1_234, fun _ h => absurd h List.not_mem_nil⟩⟩⟩⟩
theorem inJ0 : ∀ w ∈ u_ws RJ0 TJ0 4, w ∈ gw := List.forall_mem_cons.mpr ⟨q4_212, List.forall_mem_cons.mpr ⟨q4_214, List.forall_mem_cons.mpr ⟨q4_216, List.forall_mem_cons.mpr ⟨q4_218, fun _ h => absurd h List.not_mem_nil⟩⟩⟩⟩
theorem fJ0_9 {l : Launch} {G : vG} {M : vM} {rc rs : Nat} {Fz : vFin} {pc : Nat} {ls : List (Option Value)} {st : List Value} {n : Nat} {h : AH} {cells slots : Nat} {a : Nat} {fs : List Value} {v : Value} (ho : M.1.cls = RJ0) (hd : decode M.2.1 pc = .ok (.getfield 9, 3)) (he : h a = some (.inr (9, fs))) (hv : fs[0]? = some v) (kk : V l G M rc rs Fz (pc + 3) ls (v :: st) n h cells slots) : V l G M rc rs Fz pc ls (.ref a :: st) n h cells slots :=
  v_getf (k := 0) (C := RJ0) (T := TJ0) (N := 4) hd he rfl inJ0 (by decide) (by rw [ho]; exact q4_210) hv kk
theorem pJ0_9 {l : Launch} {G : vG} {M : vM} {rc rs : Nat} {Fz : vFin} {pc : Nat} {ls : List (Option Value)} {st : List Value} {n : Nat} {h : AH} {cells slots : Nat} {a : Nat} {fs : List Value} {x : Nat} (ho : M.1.cls = RJ0) (hi : M.1.name = "<init>") (hd : decode M.2.1 pc = .ok (.putfield 9, 3)) (he : h a = some (.inr (9, fs))) (hl : 0 < fs.length)  (kk : V l G M rc rs Fz (pc + 3) ls (st) n (va_up h a (some (.inr (9, fs.set 0 (.ref x))))) cells slots) : V l G M rc rs Fz pc ls (.ref x :: .ref a :: st) n h cells slots :=
  v_putf (k := 0) (C := RJ0) (T := TJ0) (N := 4) hd he rfl inJ0 tyJ0 tyJ0_ok nmJ0 (by decide) (by rw [ho]; exact q4_210) (Or.inr ⟨rfl, hi, by rw [ho]; rfl⟩) rfl rfl hl kk
theorem fJ0_15 {l : Launch} {G : vG} {M : vM} {rc rs : Nat} {Fz : vFin} {pc : Nat} {ls : List (Option Value)} {st : List Value} {n : Nat} {h : AH} {cells slots : Nat} {a : Nat} {fs : List Value} {v : Value} (ho : M.1.cls = RJ0) (hd : decode M.2.1 pc = .ok (.getfield 15, 3)) (he : h a = some (.inr (9, fs))) (hv : fs[1]? = some v) (kk : V l G M rc rs Fz (pc + 3) ls (v :: st) n h cells slots) : V l G M rc rs Fz pc ls (.ref a :: st) n h cells slots :=
  v_getf (k := 1) (C := RJ0) (T := TJ0) (N := 4) hd he rfl inJ0 (by decide) (by rw [ho]; exact q4_211) hv kk
theorem pJ0_15 {l : Launch} {G : vG} {M : vM} {rc rs : Nat} {Fz : vFin} {pc : Nat} {ls : List (Option Value)} {st : List Value} {n : Nat} {h : AH} {cells slots : Nat} {a : Nat} {fs : List Value} {x : Int32} (ho : M.1.cls = RJ0) (hi : M.1.name = "<init>") (hd : decode M.2.1 pc = .ok (.putfield 15, 3)) (he : h a = some (.inr (9, fs))) (hl : 1 < fs.length) (hn : narrow .byte (.int x) = .int x) (hfit : fits .byte (.int x) = true) (kk : V l G M rc rs Fz (pc + 3) ls (st) n (va_up h a (some (.inr (9, fs.set 1 (.int x))))) cells slots) : V l G M rc rs Fz pc ls (.int x :: .ref a :: st) n h cells slots :=
  v_putf (k := 1) (C := RJ0) (T := TJ0) (N := 4) hd he rfl inJ0 tyJ0 tyJ0_ok nmJ0 (by decide) (by rw [ho]; exact q4_211) (Or.inr ⟨rfl, hi, by rw [ho]; rfl⟩) hn hfit hl kk
theorem fJ0_1048 {l : Launch} {G : vG} {M : vM} {rc rs : Nat} {Fz : vFin} {pc : Nat} {ls : List (Option Value)} {st : List Value} {n : Nat} {h : AH} {cells slots : Nat} {a : Nat} {fs : List Value} {v : Value} (ho : M.1.cls = RJ0) (hd : decode M.2.1 pc = .ok (.getfield 1048, 3)) (he : h a = some (.inr (0, fs))) (hv : fs[2]? = some v) (kk : V l G M rc rs Fz (pc + 3) ls (v :: st) n h cells slots) : V l G M rc rs Fz pc ls (.ref a :: st) n h cells slots :=
  v_getf (k := 2) (C := RJ4) (T := TJ4) (N := 4) hd he rfl inJ4 (by decide) (by rw [ho]; exact q1_226) hv kk
theorem fJ5_15 {l : Launch} {G : vG} {M : vM} {rc rs : Nat} {Fz : vFin} {pc : Nat} {ls : List (Option Value)} {st : List Value} {n : Nat} {h : AH} {cells slots : Nat} {a : Nat} {fs : List Value} {v : Value} (ho : M.1.cls = RJ5) (hd : decode M.2.1 pc = .ok (.getfield 15, 3)) (he : h a = some (.inr (0, fs))) (hv : fs[0]? = some v) (kk : V l G M rc rs Fz (pc + 3) ls (v :: st) n h cells slots) : V l G M rc rs Fz pc ls (.ref a :: st) n h cells slots :=
  v_getf (k := 0) (C := RJ4) (T := TJ4) (N := 4) hd he rfl inJ4 (by decide) (by rw [ho]; exact q1_223) hv kk
theorem pJ5_15 {l : Launch} {G : vG} {M : vM} {rc rs : Nat} {Fz : vFin} {pc : Nat} {ls : List (Option Value)} {st : List Value} {n : Nat} {h : AH} {cells slots : Nat} {a : Nat} {fs : List Value} {x : Nat} (ho : M.1.cls = RJ5)  (hd : decode M.2.1 pc = .ok (.putfield 15, 3)) (he : h a = some (.inr (0, fs))) (hl : 0 < fs.length)  (kk : V l G M rc rs Fz (pc + 3) ls (st) n (va_up h a (some (.inr (0, fs.set 0 (.ref x))))) cells slots) : V l G M rc rs Fz pc ls (.ref x :: .ref a :: st) n h cells slots :=
  v_putf (k := 0) (C := RJ4) (T := TJ4) (N := 4) hd he rfl inJ4 tyJ4 tyJ4_ok nmJ4 (by decide) (by rw [ho]; exact q1_223) (Or.inl rfl) rfl rfl hl kk
theorem fJ5_22 {l : Launch} {G : vG} {M : vM} {rc rs : Nat} {Fz : vFin} {pc : Nat} {ls : List (Option Value)} {st : List Value} {n : Nat} {h : AH} {cells slots : Nat} {a : Nat} {fs : List Value} {v : Value} (ho : M.1.cls = RJ5) (hd : decode M.2.1 pc = .ok (.getfield 22, 3)) (he : h a = some (.inr (0, fs))) (hv : fs[1]? = some v) (kk : V l G M rc rs Fz (pc + 3) ls (v :: st) n h cells slots) : V l G M rc rs Fz pc ls (.ref a :: st) n h cells slots :=
  v_getf (k := 1) (C := RJ4) (T := TJ4) (N := 4) hd he rfl inJ4 (by decide) (by rw [ho]; exact q1_224) hv kk
theorem pJ5_22 {l : Launch} {G : vG} {M : vM} {rc rs : Nat} {Fz : vFin} {pc : Nat} {ls : List (Option Value)} {st : List Value} {n : Nat} {h : AH} {cells slots : Nat} {a : Nat} {fs : List Value} {x : Int32} (ho : M.1.cls = RJ5)  (hd : decode M.2.1 pc = .ok (.putfield 22, 3)) (he : h a = some (.inr (0, fs))) (hl : 1 < fs.length) (hn : narrow .byte (.int x) = .int x) (hfit : fits .byte (.int x) = true) (kk : V l G M rc rs Fz (pc + 3) ls (st) n (va_up h a (some (.inr (0, fs.set 1 (.int x))))) cells slots) : V l G M rc rs Fz pc ls (.int x :: .ref a :: st) n h cells slots :=
  v_putf (k := 1) (C := RJ4) (T := TJ4) (N := 4) hd he rfl inJ4 tyJ4 tyJ4_ok nmJ4 (by decide) (by rw [ho]; exact q1_224) (Or.inl rfl) hn hfit hl kk
theorem pJ5_73 {l : Launch} {G : vG} {M : vM} {rc rs : Nat} {Fz : vFin} {pc : Nat} {ls : List (Option Value)} {st : List Value} {n : Nat} {h : AH} {cells slots : Nat} {a : Nat} {fs : List Value} {x : Int32} (ho : M.1.cls = RJ5)  (hd : decode M.2.1 pc = .ok (.putfield 73, 3)) (he : h a = some (.inr (0, fs))) (hl : 2 < fs.length) (hn : narrow .boolean (.int x) = .int x) (hfit : fits .boolean (.int x) = true) (kk : V l G M rc rs Fz (pc + 3) ls (st) n (va_up h a (some (.inr (0, fs.set 2 (.int x))))) cells slots) : V l G M rc rs Fz pc ls (.int x :: .ref a :: st) n h cells slots :=
  v_putf (k := 2) (C := RJ4) (T := TJ4) (N := 4) hd he rfl inJ4 tyJ4 tyJ4_ok nmJ4 (by decide) (by rw [ho]; exact q1_225) (Or.inl rfl) hn hfit hl kk
theorem fJ5_79 {l : Launch} {G : vG} {M : vM} {rc rs : Nat} {Fz : vFin} {pc : Nat} {ls : List (Option Value)} {st : List Value} {n : Nat} {h : AH} {cells slots : Nat} {a : Nat} {fs : List Value} {v : Value} (ho : M.1.cls = RJ5) (hd : decode M.2.1 pc = .ok (.getfield 79, 3)) (he : h a = some (.inr (0, fs))) (hv : fs[3]? = some v) (kk : V l G M rc rs Fz (pc + 3) ls (v :: st) n h cells slots) : V l G M rc rs Fz pc ls (.ref a :: st) n h cells slots :=
  v_getf (k := 3) (C := RJ4) (T := TJ4) (N := 4) hd he rfl inJ4 (by decide) (by rw [ho]; exact q1_227) hv kk
theorem pJ5_79 {l : Launch} {G : vG} {M : vM} {rc rs : Nat} {Fz : vFin} {pc : Nat} {ls : List (Option Value)} {st : List Value} {n : Nat} {h : AH} {cells slots : Nat} {a : Nat} {fs : List Value} {x : Int32} (ho : M.1.cls = RJ5)  (hd : decode M.2.1 pc = .ok (.putfield 79, 3)) (he : h a = some (.inr (0, fs))) (hl : 3 < fs.length)  (kk : V l G M rc rs Fz (pc + 3) ls (st) n (va_up h a (some (.inr (0, fs.set 3 (.int x))))) cells slots) : V l G M rc rs Fz pc ls (.int x :: .ref a :: st) n h cells slots :=
  v_putf (k := 3) (C := RJ4) (T := TJ4) (N := 4) hd he rfl inJ4 tyJ4 tyJ4_ok nmJ4 (by decide) (by rw [ho]; exact q1_227) (Or.inl rfl) rfl rfl hl kk
theorem fX0_9 {l : Launch} {G : vG} {M : vM} {rc rs : Nat} {Fz : vFin} {pc : Nat} {ls : List (Option Value)} {st : List Value} {n : Nat} {h : AH} {cells slots : Nat} {a : Nat} {fs : List Value} {v : Value} (ho : M.1.cls = RX0) (hd : decode M.2.1 pc = .ok (.getfield 9, 3)) (he : h a = some (.inr (1, fs))) (hv : fs[0]? = some v) (kk : V l G M rc rs Fz (pc + 3) ls (v :: st) n h cells slots) : V l G M rc rs Fz pc ls (.ref a :: st) n h cells slots :=
  v_getf (k := 0) (C := RX0) (T := TX0) (N := 5) hd he rfl inX0 (by decide) (by rw [ho]; exact q1_112) hv kk
theorem pX0_9 {l : Launch} {G : vG} {M : vM} {rc rs : Nat} {Fz : vFin} {pc : Nat} {ls : List (Option Value)} {st : List Value} {n : Nat} {h : AH} {cells slots : Nat} {a : Nat} {fs : List Value} {x : Int32} (ho : M.1.cls = RX0)  (hd : decode M.2.1 pc = .ok (.putfield 9, 3)) (he : h a = some (.inr (1, fs))) (hl : 0 < fs.length)  (kk : V l G M rc rs Fz (pc + 3) ls (st) n (va_up h a (some (.inr (1, fs.set 0 (.int x))))) cells slots) : V l G M rc rs Fz pc ls (.int x :: .ref a :: st) n h cells slots :=
  v_putf (k := 0) (C := RX0) (T := TX0) (N := 5) hd he rfl inX0 tyX0 tyX0_ok nmX0 (by decide) (by rw [ho]; exact q1_112) (Or.inl rfl) rfl rfl hl kk
theorem fX0_15 {l : Launch} {G : vG} {M : vM} {rc rs : Nat} {Fz : vFin} {pc : Nat} {ls : List (Option Value)} {st : List Value} {n : Nat} {h : AH} {cells slots : Nat} {a : Nat} {fs : List Value} {v : Value} (ho : M.1.cls = RX0) (hd : decode M.2.1 pc = .ok (.getfield 15, 3)) (he : h a = some (.inr (1, fs))) (hv : fs[1]? = some v) (kk : V l G M rc rs Fz (pc + 3) ls (v :: st) n h cells slots) : V l G M rc rs Fz pc ls (.ref a :: st) n h cells slots :=
  v_getf (k := 1) (C := RX0) (T := TX0) (N := 5) hd he rfl inX0 (by decide) (by rw [ho]; exact q1_115) hv kk
theorem pX0_15 {l : Launch} {G : vG} {M : vM} {rc rs : Nat} {Fz : vFin} {pc : Nat} {ls : List (Option Value)} {st : List Value} {n : Nat} {h : AH} {cells slots : Nat} {a : Nat} {fs : List Value} {x : Nat} (ho : M.1.cls = RX0) (hi : M.1.name = "<init>") (hd : decode M.2.1 pc = .ok (.putfield 15, 3)) (he : h a = some (.inr (1, fs))) (hl : 1 < fs.length)  (kk : V l G M rc rs Fz (pc + 3) ls (st) n (va_up h a (some (.inr (1, fs.set 1 (.ref x))))) cells slots) : V l G M rc rs Fz pc ls (.ref x :: .ref a :: st) n h cells slots :=
  v_putf (k := 1) (C := RX0) (T := TX0) (N := 5) hd he rfl inX0 tyX0 tyX0_ok nmX0 (by decide) (by rw [ho]; exact q1_115) (Or.inr ⟨rfl, hi, by rw [ho]; rfl⟩) rfl rfl hl kk
theorem fX0_19 {l : Launch} {G : vG} {M : vM} {rc rs : Nat} {Fz : vFin} {pc : Nat} {ls : List (Option Value)} {st : List Value} {n : Nat} {h : AH} {cells slots : Nat} {a : Nat} {fs : List Value} {v : Value} (ho : M.1.cls = RX0) (hd : decode M.2.1 pc = .ok (.getfield 19, 3)) (he : h a = some (.inr (1, fs))) (hv : fs[2]? = some v) (kk : V l G M rc rs Fz (pc + 3) ls (v :: st) n h cells slots) : V l G M rc rs Fz pc ls (.ref a :: st) n h cells slots :=
  v_getf (k := 2) (C := RX0) (T := TX0) (N := 5) hd he rfl inX0 (by decide) (by rw [ho]; exact q1_118) hv kk
theorem pX0_19 {l : Launch} {G : vG} {M : vM} {rc rs : Nat} {Fz : vFin} {pc : Nat} {ls : List (Option Value)} {st : List Value} {n : Nat} {h : AH} {cells slots : Nat} {a : Nat} {fs : List Value} {x : Nat} (ho : M.1.cls = RX0) (hi : M.1.name = "<init>") (hd : decode M.2.1 pc = .ok (.putfield 19, 3)) (he : h a = some (.inr (1, fs))) (hl : 2 < fs.length)  (kk : V l G M rc rs Fz (pc + 3) ls (st) n (va_up h a (some (.inr (1, fs.set 2 (.ref x))))) cells slots) : V l G M rc rs Fz pc ls (.ref x :: .ref a :: st) n h cells slots :=
  v_putf (k := 2) (C := RX0) (T := TX0) (N := 5) hd he rfl inX0 tyX0 tyX0_ok nmX0 (by decide) (by rw [ho]; exact q1_118) (Or.inr ⟨rfl, hi, by rw [ho]; rfl⟩) rfl rfl hl kk
theorem fX0_22 {l : Launch} {G : vG} {M : vM} {rc rs : Nat} {Fz : vFin} {pc : Nat} {ls : List (Option Value)} {st : List Value} {n : Nat} {h : AH} {cells slots : Nat} {a : Nat} {fs : List Value} {v : Value} (ho : M.1.cls = RX0) (hd : decode M.2.1 pc = .ok (.getfield 22, 3)) (he : h a = some (.inr (1, fs))) (hv : fs[3]? = some v) (kk : V l G M rc rs Fz (pc + 3) ls (v :: st) n h cells slots) : V l G M rc rs Fz pc ls (.ref a :: st) n h cells slots :=
  v_getf (k := 3) (C := RX0) (T := TX0) (N := 5) hd he rfl inX0 (by decide) (by rw [ho]; exact q1_121) hv kk
theorem pX0_22 {l : Launch} {G : vG} {M : vM} {rc rs : Nat} {Fz : vFin} {pc : Nat} {ls : List (Option Value)} {st : List Value} {n : Nat} {h : AH} {cells slots : Nat} {a : Nat} {fs : List Value} {x : Nat} (ho : M.1.cls = RX0) (hi : M.1.name = "<init>") (hd : decode M.2.1 pc = .ok (.putfield 22, 3)) (he : h a = some (.inr (1, fs))) (hl : 3 < fs.length)  (kk : V l G M rc rs Fz (pc + 3) ls (st) n (va_up h a (some (.inr (1, fs.set 3 (.ref x))))) cells slots) : V l G M rc rs Fz pc ls (.ref x :: .ref a :: st) n h cells slots :=
  v_putf (k := 3) (C := RX0) (T := TX0) (N := 5) hd he rfl inX0 tyX0 tyX0_ok nmX0 (by decide) (by rw [ho]; exact q1_121) (Or.inr ⟨rfl, hi, by rw [ho]; rfl⟩) rfl rfl hl kk
theorem fX0_25 {l : Launch} {G : vG} {M : vM} {rc rs : Nat} {Fz : vFin} {pc : Nat} {ls : List (Option Value)} {st : List Value} {n : Nat} {h : AH} {cells slots : Nat} {a : Nat} {fs : List Value} {v : Value} (ho : M.1.cls = RX0) (hd : decode M.2.1 pc = .ok (.getfield 25, 3)) (he : h a = some (.inr (1, fs))) (hv : fs[4]? = some v) (kk : V l G M rc rs Fz (pc + 3) ls (v :: st) n h cells slots) : V l G M rc rs Fz pc ls (.ref a :: st) n h cells slots :=
  v_getf (k := 4) (C := RX0) (T := TX0) (N := 5) hd he rfl inX0 (by decide) (by rw [ho]; exact q1_124) hv kk
theorem pX0_25 {l : Launch} {G : vG} {M : vM} {rc rs : Nat} {Fz : vFin} {pc : Nat} {ls : List (Option Value)} {st : List Value} {n : Nat} {h : AH} {cells slots : Nat} {a : Nat} {fs : List Value} {x : Nat} (ho : M.1.cls = RX0) (hi : M.1.name = "<init>") (hd : decode M.2.1 pc = .ok (.putfield 25, 3)) (he : h a = some (.inr (1, fs))) (hl : 4 < fs.length)  (kk : V l G M rc rs Fz (pc + 3) ls (st) n (va_up h a (some (.inr (1, fs.set 4 (.ref x))))) cells slots) : V l G M rc rs Fz pc ls (.ref x :: .ref a :: st) n h cells slots :=
  v_putf (k := 4) (C := RX0) (T := TX0) (N := 5) hd he rfl inX0 tyX0 tyX0_ok nmX0 (by decide) (by rw [ho]; exact q1_124) (Or.inr ⟨rfl, hi, by rw [ho]; rfl⟩) rfl rfl hl kk
theorem fX1_12 {l : Launch} {G : vG} {M : vM} {rc rs : Nat} {Fz : vFin} {pc : Nat} {ls : List (Option Value)} {st : List Value} {n : Nat} {h : AH} {cells slots : Nat} {a : Nat} {fs : List Value} {v : Value} (ho : M.1.cls = RX1) (hd : decode M.2.1 pc = .ok (.getfield 12, 3)) (he : h a = some (.inr (2, fs))) (hv : fs[0]? = some v) (kk : V l G M rc rs Fz (pc + 3) ls (v :: st) n h cells slots) : V l G M rc rs Fz pc ls (.ref a :: st) n h cells slots :=
  v_getf (k := 0) (C := RX1) (T := TX1) (N := 10) hd he rfl inX1 (by decide) (by rw [ho]; exact q1_138) hv kk
theorem pX1_12 {l : Launch} {G : vG} {M : vM} {rc rs : Nat} {Fz : vFin} {pc : Nat} {ls : List (Option Value)} {st : List Value} {n : Nat} {h : AH} {cells slots : Nat} {a : Nat} {fs : List Value} {x : Nat} (ho : M.1.cls = RX1) (hi : M.1.name = "<init>") (hd : decode M.2.1 pc = .ok (.putfield 12, 3)) (he : h a = some (.inr (2, fs))) (hl : 0 < fs.length)  (kk : V l G M rc rs Fz (pc + 3) ls (st) n (va_up h a (some (.inr (2, fs.set 0 (.ref x))))) cells slots) : V l G M rc rs Fz pc ls (.ref x :: .ref a :: st) n h cells slots :=
  v_putf (k := 0) (C := RX1) (T := TX1) (N := 10) hd he rfl inX1 tyX1 tyX1_ok nmX1 (by decide) (by rw [ho]; exact q1_138) (Or.inr ⟨rfl, hi, by rw [ho]; rfl⟩) rfl rfl hl kk
theorem fX1_21 {l : Launch} {G : vG} {M : vM} {rc rs : Nat} {Fz : vFin} {pc : Nat} {ls : List (Option Value)} {st : List Value} {n : Nat} {h : AH} {cells slots : Nat} {a : Nat} {fs : List Value} {v : Value} (ho : M.1.cls = RX1) (hd : decode M.2.1 pc = .ok (.getfield 21, 3)) (he : h a = some (.inr (2, fs))) (hv : fs[1]? = some v) (kk : V l G M rc rs Fz (pc + 3) ls (v :: st) n h cells slots) : V l G M rc rs Fz pc ls (.ref a :: st) n h cells slots :=
  v_getf (k := 1) (C := RX1) (T := TX1) (N := 10) hd he rfl inX1 (by decide) (by rw [ho]; exact q1_140) hv kk
theorem pX1_21 {l : Launch} {G : vG} {M : vM} {rc rs : Nat} {Fz : vFin} {pc : Nat} {ls : List (Option Value)} {st : List Value} {n : Nat} {h : AH} {cells slots : Nat} {a : Nat} {fs : List Value} {x : Nat} (ho : M.1.cls = RX1) (hi : M.1.name = "<init>") (hd : decode M.2.1 pc = .ok (.putfield 21, 3)) (he : h a = some (.inr (2, fs))) (hl : 1 < fs.length)  (kk : V l G M rc rs Fz (pc + 3) ls (st) n (va_up h a (some (.inr (2, fs.set 1 (.ref x))))) cells slots) : V l G M rc rs Fz pc ls (.ref x :: .ref a :: st) n h cells slots :=
  v_putf (k := 1) (C := RX1) (T := TX1) (N := 10) hd he rfl inX1 tyX1 tyX1_ok nmX1 (by decide) (by rw [ho]; exact q1_140) (Or.inr ⟨rfl, hi, by rw [ho]; rfl⟩) rfl rfl hl kk
theorem fX1_28 {l : Launch} {G : vG} {M : vM} {rc rs : Nat} {Fz : vFin} {pc : Nat} {ls : List (Option Value)} {st : List Value} {n : Nat} {h : AH} {cells slots : Nat} {a : Nat} {fs : List Value} {v : Value} (ho : M.1.cls = RX1) (hd : decode M.2.1 pc = .ok (.getfield 28, 3)) (he : h a = some (.inr (2, fs))) (hv : fs[2]? = some v) (kk : V l G M rc rs Fz (pc + 3) ls (v :: st) n h cells slots) : V l G M rc rs Fz pc ls (.ref a :: st) n h cells slots :=
  v_getf (k := 2) (C := RX1) (T := TX1) (N := 10) hd he rfl inX1 (by decide) (by rw [ho]; exact q1_142) hv kk
theorem pX1_28 {l : Launch} {G : vG} {M : vM} {rc rs : Nat} {Fz : vFin} {pc : Nat} {ls : List (Option Value)} {st : List Value} {n : Nat} {h : AH} {cells slots : Nat} {a : Nat} {fs : List Value} {x : Nat} (ho : M.1.cls = RX1) (hi : M.1.name = "<init>") (hd : decode M.2.1 pc = .ok (.putfield 28, 3)) (he : h a = some (.inr (2, fs))) (hl : 2 < fs.length)  (kk : V l G M rc rs Fz (pc + 3) ls (st) n (va_up h a (some (.inr (2, fs.set 2 (.ref x))))) cells slots) : V l G M rc rs Fz pc ls (.ref x :: .ref a :: st) n h cells slots :=
  v_putf (k := 2) (C := RX1) (T := TX1) (N := 10) hd he rfl inX1 tyX1 tyX1_ok nmX1 (by decide) (by rw [ho]; exact q1_142) (Or.inr ⟨rfl, hi, by rw [ho]; rfl⟩) rfl rfl hl kk
theorem fX1_32 {l : Launch} {G : vG} {M : vM} {rc rs : Nat} {Fz : vFin} {pc : Nat} {ls : List (Option Value)} {st : List Value} {n : Nat} {h : AH} {cells slots : Nat} {a : Nat} {fs : List Value} {v : Value} (ho : M.1.cls = RX1) (hd : decode M.2.1 pc = .ok (.getfield 32, 3)) (he : h a = some (.inr (2, fs))) (hv : fs[3]? = some v) (kk : V l G M rc rs Fz (pc + 3) ls (v :: st) n h cells slots) : V l G M rc rs Fz pc ls (.ref a :: st) n h cells slots :=
  v_getf (k := 3) (C := RX1) (T := TX1) (N := 10) hd he rfl inX1 (by decide) (by rw [ho]; exact q1_144) hv kk
theorem pX1_32 {l : Launch} {G : vG} {M : vM} {rc rs : Nat} {Fz : vFin} {pc : Nat} {ls : List (Option Value)} {st : List Value} {n : Nat} {h : AH} {cells slots : Nat} {a : Nat} {fs : List Value} {x : Nat} (ho : M.1.cls = RX1) (hi : M.1.name = "<init>") (hd : decode M.2.1 pc = .ok (.putfield 32, 3)) (he : h a = some (.inr (2, fs))) (hl : 3 < fs.length)  (kk : V l G M rc rs Fz (pc + 3) ls (st) n (va_up h a (some (.inr (2, fs.set 3 (.ref x))))) cells slots) : V l G M rc rs Fz pc ls (.ref x :: .ref a :: st) n h cells slots :=
  v_putf (k := 3) (C := RX1) (T := TX1) (N := 10) hd he rfl inX1 tyX1 tyX1_ok nmX1 (by decide) (by rw [ho]; exact q1_144) (Or.inr ⟨rfl, hi, by rw [ho]; rfl⟩) rfl rfl hl kk
theorem fX1_36 {l : Launch} {G : vG} {M : vM} {rc rs : Nat} {Fz : vFin} {pc : Nat} {ls : List (Option Value)} {st : List Value} {n : Nat} {h : AH} {cells slots : Nat} {a : Nat} {fs : List Value} {v : Value} (ho : M.1.cls = RX1) (hd : decode M.2.1 pc = .ok (.getfield 36, 3)) (he : h a = some (.inr (2, fs))) (hv : fs[4]? = some v) (kk : V l G M rc rs Fz (pc + 3) ls (v :: st) n h cells slots) : V l G M rc rs Fz pc ls (.ref a :: st) n h cells slots :=
  v_getf (k := 4) (C := RX1) (T := TX1) (N := 10) hd he rfl inX1 (by decide) (by rw [ho]; exact q1_146) hv kk
theorem pX1_36 {l : Launch} {G : vG} {M : vM} {rc rs : Nat} {Fz : vFin} {pc : Nat} {ls : List (Option Value)} {st : List Value} {n : Nat} {h : AH} {cells slots : Nat} {a : Nat} {fs : List Value} {x : Nat} (ho : M.1.cls = RX1) (hi : M.1.name = "<init>") (hd : decode M.2.1 pc = .ok (.putfield 36, 3)) (he : h a = some (.inr (2, fs))) (hl : 4 < fs.length)  (kk : V l G M rc rs Fz (pc + 3) ls (st) n (va_up h a (some (.inr (2, fs.set 4 (.ref x))))) cells slots) : V l G M rc rs Fz pc ls (.ref x :: .ref a :: st) n h cells slots :=
  v_putf (k := 4) (C := RX1) (T := TX1) (N := 10) hd he rfl inX1 tyX1 tyX1_ok nmX1 (by decide) (by rw [ho]; exact q1_146) (Or.inr ⟨rfl, hi, by rw [ho]; rfl⟩) rfl rfl hl kk
theorem fX1_39 {l : Launch} {G : vG} {M : vM} {rc rs : Nat} {Fz : vFin} {pc : Nat} {ls : List (Option Value)} {st : List Value} {n : Nat} {h : AH} {cells slots : Nat} {a : Nat} {fs : List Value} {v : Value} (ho : M.1.cls = RX1) (hd : decode M.2.1 pc = .ok (.getfield 39, 3)) (he : h a = some (.inr (2, fs))) (hv : fs[5]? = some v) (kk : V l G M rc rs Fz (pc + 3) ls (v :: st) n h cells slots) : V l G M rc rs Fz pc ls (.ref a :: st) n h cells slots :=
  v_getf (k := 5) (C := RX1) (T := TX1) (N := 10) hd he rfl inX1 (by decide) (by rw [ho]; exact q1_148) hv kk
theorem pX1_39 {l : Launch} {G : vG} {M : vM} {rc rs : Nat} {Fz : vFin} {pc : Nat} {ls : List (Option Value)} {st : List Value} {n : Nat} {h : AH} {cells slots : Nat} {a : Nat} {fs : List Value} {x : Int32} (ho : M.1.cls = RX1)  (hd : decode M.2.1 pc = .ok (.putfield 39, 3)) (he : h a = some (.inr (2, fs))) (hl : 5 < fs.length)  (kk : V l G M rc rs Fz (pc + 3) ls (st) n (va_up h a (some (.inr (2, fs.set 5 (.int x))))) cells slots) : V l G M rc rs Fz pc ls (.int x :: .ref a :: st) n h cells slots :=
  v_putf (k := 5) (C := RX1) (T := TX1) (N := 10) hd he rfl inX1 tyX1 tyX1_ok nmX1 (by decide) (by rw [ho]; exact q1_148) (Or.inl rfl) rfl rfl hl kk
theorem fX1_43 {l : Launch} {G : vG} {M : vM} {rc rs : Nat} {Fz : vFin} {pc : Nat} {ls : List (Option Value)} {st : List Value} {n : Nat} {h : AH} {cells slots : Nat} {a : Nat} {fs : List Value} {v : Value} (ho : M.1.cls = RX1) (hd : decode M.2.1 pc = .ok (.getfield 43, 3)) (he : h a = some (.inr (2, fs))) (hv : fs[6]? = some v) (kk : V l G M rc rs Fz (pc + 3) ls (v :: st) n h cells slots) : V l G M rc rs Fz pc ls (.ref a :: st) n h cells slots :=
  v_getf (k := 6) (C := RX1) (T := TX1) (N := 10) hd he rfl inX1 (by decide) (by rw [ho]; exact q1_150) hv kk
theorem pX1_43 {l : Launch} {G : vG} {M : vM} {rc rs : Nat} {Fz : vFin} {pc : Nat} {ls : List (Option Value)} {st : List Value} {n : Nat} {h : AH} {cells slots : Nat} {a : Nat} {fs : List Value} {x : Int32} (ho : M.1.cls = RX1)  (hd : decode M.2.1 pc = .ok (.putfield 43, 3)) (he : h a = some (.inr (2, fs))) (hl : 6 < fs.length)  (kk : V l G M rc rs Fz (pc + 3) ls (st) n (va_up h a (some (.inr (2, fs.set 6 (.int x))))) cells slots) : V l G M rc rs Fz pc ls (.int x :: .ref a :: st) n h cells slots :=
  v_putf (k := 6) (C := RX1) (T := TX1) (N := 10) hd he rfl inX1 tyX1 tyX1_ok nmX1 (by decide) (by rw [ho]; exact q1_150) (Or.inl rfl) rfl rfl hl kk
theorem fX1_46 {l : Launch} {G : vG} {M : vM} {rc rs : Nat} {Fz : vFin} {pc : Nat} {ls : List (Option Value)} {st : List Value} {n : Nat} {h : AH} {cells slots : Nat} {a : Nat} {fs : List Value} {v : Value} (ho : M.1.cls = RX1) (hd : decode M.2.1 pc = .ok (.getfield 46, 3)) (he : h a = some (.inr (2, fs))) (hv : fs[7]? = some v) (kk : V l G M rc rs Fz (pc + 3) ls (v :: st) n h cells slots) : V l G M rc rs Fz pc ls (.ref a :: st) n h cells slots :=
  v_getf (k := 7) (C := RX1) (T := TX1) (N := 10) hd he rfl inX1 (by decide) (by rw [ho]; exact q1_152) hv kk
theorem pX1_46 {l : Launch} {G : vG} {M : vM} {rc rs : Nat} {Fz : vFin} {pc : Nat} {ls : List (Option Value)} {st : List Value} {n : Nat} {h : AH} {cells slots : Nat} {a : Nat} {fs : List Value} {x : Int32} (ho : M.1.cls = RX1)  (hd : decode M.2.1 pc = .ok (.putfield 46, 3)) (he : h a = some (.inr (2, fs))) (hl : 7 < fs.length)  (kk : V l G M rc rs Fz (pc + 3) ls (st) n (va_up h a (some (.inr (2, fs.set 7 (.int x))))) cells slots) : V l G M rc rs Fz pc ls (.int x :: .ref a :: st) n h cells slots :=
  v_putf (k := 7) (C := RX1) (T := TX1) (N := 10) hd he rfl inX1 tyX1 tyX1_ok nmX1 (by decide) (by rw [ho]; exact q1_152) (Or.inl rfl) rfl rfl hl kk
theorem fX1_49 {l : Launch} {G : vG} {M : vM} {rc rs : Nat} {Fz : vFin} {pc : Nat} {ls : List (Option Value)} {st : List Value} {n : Nat} {h : AH} {cells slots : Nat} {a : Nat} {fs : List Value} {v : Value} (ho : M.1.cls = RX1) (hd : decode M.2.1 pc = .ok (.getfield 49, 3)) (he : h a = some (.inr (2, fs))) (hv : fs[8]? = some v) (kk : V l G M rc rs Fz (pc + 3) ls (v :: st) n h cells slots) : V l G M rc rs Fz pc ls (.ref a :: st) n h cells slots :=
  v_getf (k := 8) (C := RX1) (T := TX1) (N := 10) hd he rfl inX1 (by decide) (by rw [ho]; exact q1_154) hv kk
theorem pX1_49 {l : Launch} {G : vG} {M : vM} {rc rs : Nat} {Fz : vFin} {pc : Nat} {ls : List (Option Value)} {st : List Value} {n : Nat} {h : AH} {cells slots : Nat} {a : Nat} {fs : List Value} {x : Int32} (ho : M.1.cls = RX1)  (hd : decode M.2.1 pc = .ok (.putfield 49, 3)) (he : h a = some (.inr (2, fs))) (hl : 8 < fs.length)  (kk : V l G M rc rs Fz (pc + 3) ls (st) n (va_up h a (some (.inr (2, fs.set 8 (.int x))))) cells slots) : V l G M rc rs Fz pc ls (.int x :: .ref a :: st) n h cells slots :=
  v_putf (k := 8) (C := RX1) (T := TX1) (N := 10) hd he rfl inX1 tyX1 tyX1_ok nmX1 (by decide) (by rw [ho]; exact q1_154) (Or.inl rfl) rfl rfl hl kk
theorem fX1_52 {l : Launch} {G : vG} {M : vM} {rc rs : Nat} {Fz : vFin} {pc : Nat} {ls : List (Option Value)} {st : List Value} {n : Nat} {h : AH} {cells slots : Nat} {a : Nat} {fs : List Value} {v : Value} (ho : M.1.cls = RX1) (hd : decode M.2.1 pc = .ok (.getfield 52, 3)) (he : h a = some (.inr (2, fs))) (hv : fs[9]? = some v) (kk : V l G M rc rs Fz (pc + 3) ls (v :: st) n h cells slots) : V l G M rc rs Fz pc ls (.ref a :: st) n h cells slots :=
  v_getf (k := 9) (C := RX1) (T := TX1) (N := 10) hd he rfl inX1 (by decide) (by rw [ho]; exact q1_156) hv kk
theorem pX1_52 {l : Launch} {G : vG} {M : vM} {rc rs : Nat} {Fz : vFin} {pc : Nat} {ls : List (Option Value)} {st : List Value} {n : Nat} {h : AH} {cells slots : Nat} {a : Nat} {fs : List Value} {x : Int32} (ho : M.1.cls = RX1)  (hd : decode M.2.1 pc = .ok (.putfield 52, 3)) (he : h a = some (.inr (2, fs))) (hl : 9 < fs.length)  (kk : V l G M rc rs Fz (pc + 3) ls (st) n (va_up h a (some (.inr (2, fs.set 9 (.int x))))) cells slots) : V l G M rc rs Fz pc ls (.int x :: .ref a :: st) n h cells slots :=
  v_putf (k := 9) (C := RX1) (T := TX1) (N := 10) hd he rfl inX1 tyX1 tyX1_ok nmX1 (by decide) (by rw [ho]; exact q1_156) (Or.inl rfl) rfl rfl hl kk
theorem fX1_69 {l : Launch} {G : vG} {M : vM} {rc rs : Nat} {Fz : vFin} {pc : Nat} {ls : List (Option Value)} {st : List Value} {n : Nat} {h : AH} {cells slots : Nat} {a : Nat} {fs : List Value} {v : Value} (ho : M.1.cls = RX1) (hd : decode M.2.1 pc = .ok (.getfield 69, 3)) (he : h a = some (.inr (5, fs))) (hv : fs[3]? = some v) (kk : V l G M rc rs Fz (pc + 3) ls (v :: st) n h cells slots) : V l G M rc rs Fz pc ls (.ref a :: st) n h cells slots :=
  v_getf (k := 3) (C := RX4) (T := TX4) (N := 5) hd he rfl inX4 (by decide) (by rw [ho]; exact q1_92) hv kk
theorem fX1_76 {l : Launch} {G : vG} {M : vM} {rc rs : Nat} {Fz : vFin} {pc : Nat} {ls : List (Option Value)} {st : List Value} {n : Nat} {h : AH} {cells slots : Nat} {a : Nat} {fs : List Value} {v : Value} (ho : M.1.cls = RX1) (hd : decode M.2.1 pc = .ok (.getfield 76, 3)) (he : h a = some (.inr (5, fs))) (hv : fs[2]? = some v) (kk : V l G M rc rs Fz (pc + 3) ls (v :: st) n h cells slots) : V l G M rc rs Fz pc ls (.ref a :: st) n h cells slots :=
  v_getf (k := 2) (C := RX4) (T := TX4) (N := 5) hd he rfl inX4 (by decide) (by rw [ho]; exact q1_89) hv kk
theorem fX1_79 {l : Launch} {G : vG} {M : vM} {rc rs : Nat} {Fz : vFin} {pc : Nat} {ls : List (Option Value)} {st : List Value} {n : Nat} {h : AH} {cells slots : Nat} {a : Nat} {fs : List Value} {v : Value} (ho : M.1.cls = RX1) (hd : decode M.2.1 pc = .ok (.getfield 79, 3)) (he : h a = some (.inr (5, fs))) (hv : fs[0]? = some v) (kk : V l G M rc rs Fz (pc + 3) ls (v :: st) n h cells slots) : V l G M rc rs Fz pc ls (.ref a :: st) n h cells slots :=
  v_getf (k := 0) (C := RX4) (T := TX4) (N := 5) hd he rfl inX4 (by decide) (by rw [ho]; exact q1_83) hv kk
theorem fX1_89 {l : Launch} {G : vG} {M : vM} {rc rs : Nat} {Fz : vFin} {pc : Nat} {ls : List (Option Value)} {st : List Value} {n : Nat} {h : AH} {cells slots : Nat} {a : Nat} {fs : List Value} {v : Value} (ho : M.1.cls = RX1) (hd : decode M.2.1 pc = .ok (.getfield 89, 3)) (he : h a = some (.inr (5, fs))) (hv : fs[1]? = some v) (kk : V l G M rc rs Fz (pc + 3) ls (v :: st) n h cells slots) : V l G M rc rs Fz pc ls (.ref a :: st) n h cells slots :=
  v_getf (k := 1) (C := RX4) (T := TX4) (N := 5) hd he rfl inX4 (by decide) (by rw [ho]; exact q1_87) hv kk
theorem fX1_92 {l : Launch} {G : vG} {M : vM} {rc rs : Nat} {Fz : vFin} {pc : Nat} {ls : List (Option Value)} {st : List Value} {n : Nat} {h : AH} {cells slots : Nat} {a : Nat} {fs : List Value} {v : Value} (ho : M.1.cls = RX1) (hd : decode M.2.1 pc = .ok (.getfield 92, 3)) (he : h a = some (.inr (3, fs))) (hv : fs[1]? = some v) (kk : V l G M rc rs Fz (pc + 3) ls (v :: st) n h cells slots) : V l G M rc rs Fz pc ls (.ref a :: st) n h cells slots :=
  v_getf (k := 1) (C := RX2) (T := TX2) (N := 7) hd he rfl inX2 (by decide) (by rw [ho]; exact q1_44) hv kk
theorem fX1_111 {l : Launch} {G : vG} {M : vM} {rc rs : Nat} {Fz : vFin} {pc : Nat} {ls : List (Option Value)} {st : List Value} {n : Nat} {h : AH} {cells slots : Nat} {a : Nat} {fs : List Value} {v : Value} (ho : M.1.cls = RX1) (hd : decode M.2.1 pc = .ok (.getfield 111, 3)) (he : h a = some (.inr (1, fs))) (hv : fs[0]? = some v) (kk : V l G M rc rs Fz (pc + 3) ls (v :: st) n h cells slots) : V l G M rc rs Fz pc ls (.ref a :: st) n h cells slots :=
  v_getf (k := 0) (C := RX0) (T := TX0) (N := 5) hd he rfl inX0 (by decide) (by rw [ho]; exact q1_113) hv kk
theorem fX1_116 {l : Launch} {G : vG} {M : vM} {rc rs : Nat} {Fz : vFin} {pc : Nat} {ls : List (Option Value)} {st : List Value} {n : Nat} {h : AH} {cells slots : Nat} {a : Nat} {fs : List Value} {v : Value} (ho : M.1.cls = RX1) (hd : decode M.2.1 pc = .ok (.getfield 116, 3)) (he : h a = some (.inr (1, fs))) (hv : fs[4]? = some v) (kk : V l G M rc rs Fz (pc + 3) ls (v :: st) n h cells slots) : V l G M rc rs Fz pc ls (.ref a :: st) n h cells slots :=
  v_getf (k := 4) (C := RX0) (T := TX0) (N := 5) hd he rfl inX0 (by decide) (by rw [ho]; exact q1_125) hv kk
theorem fX1_118 {l : Launch} {G : vG} {M : vM} {rc rs : Nat} {Fz : vFin} {pc : Nat} {ls : List (Option Value)} {st : List Value} {n : Nat} {h : AH} {cells slots : Nat} {a : Nat} {fs : List Value} {v : Value} (ho : M.1.cls = RX1) (hd : decode M.2.1 pc = .ok (.getfield 118, 3)) (he : h a = some (.inr (1, fs))) (hv : fs[2]? = some v) (kk : V l G M rc rs Fz (pc + 3) ls (v :: st) n h cells slots) : V l G M rc rs Fz pc ls (.ref a :: st) n h cells slots :=
  v_getf (k := 2) (C := RX0) (T := TX0) (N := 5) hd he rfl inX0 (by decide) (by rw [ho]; exact q1_120) hv kk
theorem fX1_121 {l : Launch} {G : vG} {M : vM} {rc rs : Nat} {Fz : vFin} {pc : Nat} {ls : List (Option Value)} {st : List Value} {n : Nat} {h : AH} {cells slots : Nat} {a : Nat} {fs : List Value} {v : Value} (ho : M.1.cls = RX1) (hd : decode M.2.1 pc = .ok (.getfield 121, 3)) (he : h a = some (.inr (1, fs))) (hv : fs[1]? = some v) (kk : V l G M rc rs Fz (pc + 3) ls (v :: st) n h cells slots) : V l G M rc rs Fz pc ls (.ref a :: st) n h cells slots :=
  v_getf (k := 1) (C := RX0) (T := TX0) (N := 5) hd he rfl inX0 (by decide) (by rw [ho]; exact q1_117) hv kk
theorem fX1_124 {l : Launch} {G : vG} {M : vM} {rc rs : Nat} {Fz : vFin} {pc : Nat} {ls : List (Option Value)} {st : List Value} {n : Nat} {h : AH} {cells slots : Nat} {a : Nat} {fs : List Value} {v : Value} (ho : M.1.cls = RX1) (hd : decode M.2.1 pc = .ok (.getfield 124, 3)) (he : h a = some (.inr (1, fs))) (hv : fs[3]? = some v) (kk : V l G M rc rs Fz (pc + 3) ls (v :: st) n h cells slots) : V l G M rc rs Fz pc ls (.ref a :: st) n h cells slots :=
  v_getf (k := 3) (C := RX0) (T := TX0) (N := 5) hd he rfl inX0 (by decide) (by rw [ho]; exact q1_123) hv kk
theorem fX1_140 {l : Launch} {G : vG} {M : vM} {rc rs : Nat} {Fz : vFin} {pc : Nat} {ls : List (Option Value)} {st : List Value} {n : Nat} {h : AH} {cells slots : Nat} {a : Nat} {fs : List Value} {v : Value} (ho : M.1.cls = RX1) (hd : decode M.2.1 pc = .ok (.getfield 140, 3)) (he : h a = some (.inr (3, fs))) (hv : fs[5]? = some v) (kk : V l G M rc rs Fz (pc + 3) ls (v :: st) n h cells slots) : V l G M rc rs Fz pc ls (.ref a :: st) n h cells slots :=
  v_getf (k := 5) (C := RX2) (T := TX2) (N := 7) hd he rfl inX2 (by decide) (by rw [ho]; exact q1_56) hv kk
theorem fX1_146 {l : Launch} {G : vG} {M : vM} {rc rs : Nat} {Fz : vFin} {pc : Nat} {ls : List (Option Value)} {st : List Value} {n : Nat} {h : AH} {cells slots : Nat} {a : Nat} {fs : List Value} {v : Value} (ho : M.1.cls = RX1) (hd : decode M.2.1 pc = .ok (.getfield 146, 3)) (he : h a = some (.inr (3, fs))) (hv : fs[3]? = some v) (kk : V l G M rc rs Fz (pc + 3) ls (v :: st) n h cells slots) : V l G M rc rs Fz pc ls (.ref a :: st) n h cells slots :=
  v_getf (k := 3) (C := RX2) (T := TX2) (N := 7) hd he rfl inX2 (by decide) (by rw [ho]; exact q1_50) hv kk
theorem fX1_149 {l : Launch} {G : vG} {M : vM} {rc rs : Nat} {Fz : vFin} {pc : Nat} {ls : List (Option Value)} {st : List Value} {n : Nat} {h : AH} {cells slots : Nat} {a : Nat} {fs : List Value} {v : Value} (ho : M.1.cls = RX1) (hd : decode M.2.1 pc = .ok (.getfield 149, 3)) (he : h a = some (.inr (3, fs))) (hv : fs[6]? = some v) (kk : V l G M rc rs Fz (pc + 3) ls (v :: st) n h cells slots) : V l G M rc rs Fz pc ls (.ref a :: st) n h cells slots :=
  v_getf (k := 6) (C := RX2) (T := TX2) (N := 7) hd he rfl inX2 (by decide) (by rw [ho]; exact q1_59) hv kk
theorem fX1_152 {l : Launch} {G : vG} {M : vM} {rc rs : Nat} {Fz : vFin} {pc : Nat} {ls : List (Option Value)} {st : List Value} {n : Nat} {h : AH} {cells slots : Nat} {a : Nat} {fs : List Value} {v : Value} (ho : M.1.cls = RX1) (hd : decode M.2.1 pc = .ok (.getfield 152, 3)) (he : h a = some (.inr (3, fs))) (hv : fs[4]? = some v) (kk : V l G M rc rs Fz (pc + 3) ls (v :: st) n h cells slots) : V l G M rc rs Fz pc ls (.ref a :: st) n h cells slots :=
  v_getf (k := 4) (C := RX2) (T := TX2) (N := 7) hd he rfl inX2 (by decide) (by rw [ho]; exact q1_53) hv kk
theorem fX1_158 {l : Launch} {G : vG} {M : vM} {rc rs : Nat} {Fz : vFin} {pc : Nat} {ls : List (Option Value)} {st : List Value} {n : Nat} {h : AH} {cells slots : Nat} {a : Nat} {fs : List Value} {v : Value} (ho : M.1.cls = RX1) (hd : decode M.2.1 pc = .ok (.getfield 158, 3)) (he : h a = some (.inr (3, fs))) (hv : fs[2]? = some v) (kk : V l G M rc rs Fz (pc + 3) ls (v :: st) n h cells slots) : V l G M rc rs Fz pc ls (.ref a :: st) n h cells slots :=
  v_getf (k := 2) (C := RX2) (T := TX2) (N := 7) hd he rfl inX2 (by decide) (by rw [ho]; exact q1_47) hv kk
theorem fX2_9 {l : Launch} {G : vG} {M : vM} {rc rs : Nat} {Fz : vFin} {pc : Nat} {ls : List (Option Value)} {st : List Value} {n : Nat} {h : AH} {cells slots : Nat} {a : Nat} {fs : List Value} {v : Value} (ho : M.1.cls = RX2) (hd : decode M.2.1 pc = .ok (.getfield 9, 3)) (he : h a = some (.inr (3, fs))) (hv : fs[0]? = some v) (kk : V l G M rc rs Fz (pc + 3) ls (v :: st) n h cells slots) : V l G M rc rs Fz pc ls (.ref a :: st) n h cells slots :=
  v_getf (k := 0) (C := RX2) (T := TX2) (N := 7) hd he rfl inX2 (by decide) (by rw [ho]; exact q1_40) hv kk
theorem pX2_9 {l : Launch} {G : vG} {M : vM} {rc rs : Nat} {Fz : vFin} {pc : Nat} {ls : List (Option Value)} {st : List Value} {n : Nat} {h : AH} {cells slots : Nat} {a : Nat} {fs : List Value} {x : Int32} (ho : M.1.cls = RX2)  (hd : decode M.2.1 pc = .ok (.putfield 9, 3)) (he : h a = some (.inr (3, fs))) (hl : 0 < fs.length)  (kk : V l G M rc rs Fz (pc + 3) ls (st) n (va_up h a (some (.inr (3, fs.set 0 (.int x))))) cells slots) : V l G M rc rs Fz pc ls (.int x :: .ref a :: st) n h cells slots :=
  v_putf (k := 0) (C := RX2) (T := TX2) (N := 7) hd he rfl inX2 tyX2 tyX2_ok nmX2 (by decide) (by rw [ho]; exact q1_40) (Or.inl rfl) rfl rfl hl kk
theorem fX2_15 {l : Launch} {G : vG} {M : vM} {rc rs : Nat} {Fz : vFin} {pc : Nat} {ls : List (Option Value)} {st : List Value} {n : Nat} {h : AH} {cells slots : Nat} {a : Nat} {fs : List Value} {v : Value} (ho : M.1.cls = RX2) (hd : decode M.2.1 pc = .ok (.getfield 15, 3)) (he : h a = some (.inr (3, fs))) (hv : fs[1]? = some v) (kk : V l G M rc rs Fz (pc + 3) ls (v :: st) n h cells slots) : V l G M rc rs Fz pc ls (.ref a :: st) n h cells slots :=
  v_getf (k := 1) (C := RX2) (T := TX2) (N := 7) hd he rfl inX2 (by decide) (by rw [ho]; exact q1_42) hv kk
theorem pX2_15 {l : Launch} {G : vG} {M : vM} {rc rs : Nat} {Fz : vFin} {pc : Nat} {ls : List (Option Value)} {st : List Value} {n : Nat} {h : AH} {cells slots : Nat} {a : Nat} {fs : List Value} {x : Nat} (ho : M.1.cls = RX2) (hi : M.1.name = "<init>") (hd : decode M.2.1 pc = .ok (.putfield 15, 3)) (he : h a = some (.inr (3, fs))) (hl : 1 < fs.length)  (kk : V l G M rc rs Fz (pc + 3) ls (st) n (va_up h a (some (.inr (3, fs.set 1 (.ref x))))) cells slots) : V l G M rc rs Fz pc ls (.ref x :: .ref a :: st) n h cells slots :=
  v_putf (k := 1) (C := RX2) (T := TX2) (N := 7) hd he rfl inX2 tyX2 tyX2_ok nmX2 (by decide) (by rw [ho]; exact q1_42) (Or.inr ⟨rfl, hi, by rw [ho]; rfl⟩) rfl rfl hl kk
theorem fX2_19 {l : Launch} {G : vG} {M : vM} {rc rs : Nat} {Fz : vFin} {pc : Nat} {ls : List (Option Value)} {st : List Value} {n : Nat} {h : AH} {cells slots : Nat} {a : Nat} {fs : List Value} {v : Value} (ho : M.1.cls = RX2) (hd : decode M.2.1 pc = .ok (.getfield 19, 3)) (he : h a = some (.inr (3, fs))) (hv : fs[2]? = some v) (kk : V l G M rc rs Fz (pc + 3) ls (v :: st) n h cells slots) : V l G M rc rs Fz pc ls (.ref a :: st) n h cells slots :=
  v_getf (k := 2) (C := RX2) (T := TX2) (N := 7) hd he rfl inX2 (by decide) (by rw [ho]; exact q1_45) hv kk
theorem pX2_19 {l : Launch} {G : vG} {M : vM} {rc rs : Nat} {Fz : vFin} {pc : Nat} {ls : List (Option Value)} {st : List Value} {n : Nat} {h : AH} {cells slots : Nat} {a : Nat} {fs : List Value} {x : Nat} (ho : M.1.cls = RX2) (hi : M.1.name = "<init>") (hd : decode M.2.1 pc = .ok (.putfield 19, 3)) (he : h a = some (.inr (3, fs))) (hl : 2 < fs.length)  (kk : V l G M rc rs Fz (pc + 3) ls (st) n (va_up h a (some (.inr (3, fs.set 2 (.ref x))))) cells slots) : V l G M rc rs Fz pc ls (.ref x :: .ref a :: st) n h cells slots :=
  v_putf (k := 2) (C := RX2) (T := TX2) (N := 7) hd he rfl inX2 tyX2 tyX2_ok nmX2 (by decide) (by rw [ho]; exact q1_45) (Or.inr ⟨rfl, hi, by rw [ho]; rfl⟩) rfl rfl hl kk
theorem fX2_22 {l : Launch} {G : vG} {M : vM} {rc rs : Nat} {Fz : vFin} {pc : Nat} {ls : List (Option Value)} {st : List Value} {n : Nat} {h : AH} {cells slots : Nat} {a : Nat} {fs : List Value} {v : Value} (ho : M.1.cls = RX2) (hd : decode M.2.1 pc = .ok (.getfield 22, 3)) (he : h a = some (.inr (3, fs))) (hv : fs[3]? = some v) (kk : V l G M rc rs Fz (pc + 3) ls (v :: st) n h cells slots) : V l G M rc rs Fz pc ls (.ref a :: st) n h cells slots :=
  v_getf (k := 3) (C := RX2) (T := TX2) (N := 7) hd he rfl inX2 (by decide) (by rw [ho]; exact q1_48) hv kk
theorem pX2_22 {l : Launch} {G : vG} {M : vM} {rc rs : Nat} {Fz : vFin} {pc : Nat} {ls : List (Option Value)} {st : List Value} {n : Nat} {h : AH} {cells slots : Nat} {a : Nat} {fs : List Value} {x : Nat} (ho : M.1.cls = RX2) (hi : M.1.name = "<init>") (hd : decode M.2.1 pc = .ok (.putfield 22, 3)) (he : h a = some (.inr (3, fs))) (hl : 3 < fs.length)  (kk : V l G M rc rs Fz (pc + 3) ls (st) n (va_up h a (some (.inr (3, fs.set 3 (.ref x))))) cells slots) : V l G M rc rs Fz pc ls (.ref x :: .ref a :: st) n h cells slots :=
  v_putf (k := 3) (C := RX2) (T := TX2) (N := 7) hd he rfl inX2 tyX2 tyX2_ok nmX2 (by decide) (by rw [ho]; exact q1_48) (Or.inr ⟨rfl, hi, by rw [ho]; rfl⟩) rfl rfl hl kk
theorem fX2_25 {l : Launch} {G : vG} {M : vM} {rc rs : Nat} {Fz : vFin} {pc : Nat} {ls : List (Option Value)} {st : List Value} {n : Nat} {h : AH} {cells slots : Nat} {a : Nat} {fs : List Value} {v : Value} (ho : M.1.cls = RX2) (hd : decode M.2.1 pc = .ok (.getfield 25, 3)) (he : h a = some (.inr (3, fs))) (hv : fs[4]? = some v) (kk : V l G M rc rs Fz (pc + 3) ls (v :: st) n h cells slots) : V l G M rc rs Fz pc ls (.ref a :: st) n h cells slots :=
  v_getf (k := 4) (C := RX2) (T := TX2) (N := 7) hd he rfl inX2 (by decide) (by rw [ho]; exact q1_51) hv kk
theorem pX2_25 {l : Launch} {G : vG} {M : vM} {rc rs : Nat} {Fz : vFin} {pc : Nat} {ls : List (Option Value)} {st : List Value} {n : Nat} {h : AH} {cells slots : Nat} {a : Nat} {fs : List Value} {x : Nat} (ho : M.1.cls = RX2) (hi : M.1.name = "<init>") (hd : decode M.2.1 pc = .ok (.putfield 25, 3)) (he : h a = some (.inr (3, fs))) (hl : 4 < fs.length)  (kk : V l G M rc rs Fz (pc + 3) ls (st) n (va_up h a (some (.inr (3, fs.set 4 (.ref x))))) cells slots) : V l G M rc rs Fz pc ls (.ref x :: .ref a :: st) n h cells slots :=
  v_putf (k := 4) (C := RX2) (T := TX2) (N := 7) hd he rfl inX2 tyX2 tyX2_ok nmX2 (by decide) (by rw [ho]; exact q1_51) (Or.inr ⟨rfl, hi, by rw [ho]; rfl⟩) rfl rfl hl kk
theorem fX2_28 {l : Launch} {G : vG} {M : vM} {rc rs : Nat} {Fz : vFin} {pc : Nat} {ls : List (Option Value)} {st : List Value} {n : Nat} {h : AH} {cells slots : Nat} {a : Nat} {fs : List Value} {v : Value} (ho : M.1.cls = RX2) (hd : decode M.2.1 pc = .ok (.getfield 28, 3)) (he : h a = some (.inr (3, fs))) (hv : fs[5]? = some v) (kk : V l G M rc rs Fz (pc + 3) ls (v :: st) n h cells slots) : V l G M rc rs Fz pc ls (.ref a :: st) n h cells slots :=
  v_getf (k := 5) (C := RX2) (T := TX2) (N := 7) hd he rfl inX2 (by decide) (by rw [ho]; exact q1_54) hv kk
theorem pX2_28 {l : Launch} {G : vG} {M : vM} {rc rs : Nat} {Fz : vFin} {pc : Nat} {ls : List (Option Value)} {st : List Value} {n : Nat} {h : AH} {cells slots : Nat} {a : Nat} {fs : List Value} {x : Nat} (ho : M.1.cls = RX2) (hi : M.1.name = "<init>") (hd : decode M.2.1 pc = .ok (.putfield 28, 3)) (he : h a = some (.inr (3, fs))) (hl : 5 < fs.length)  (kk : V l G M rc rs Fz (pc + 3) ls (st) n (va_up h a (some (.inr (3, fs.set 5 (.ref x))))) cells slots) : V l G M rc rs Fz pc ls (.ref x :: .ref a :: st) n h cells slots :=
  v_putf (k := 5) (C := RX2) (T := TX2) (N := 7) hd he rfl inX2 tyX2 tyX2_ok nmX2 (by decide) (by rw [ho]; exact q1_54) (Or.inr ⟨rfl, hi, by rw [ho]; rfl⟩) rfl rfl hl kk
theorem fX2_31 {l : Launch} {G : vG} {M : vM} {rc rs : Nat} {Fz : vFin} {pc : Nat} {ls : List (Option Value)} {st : List Value} {n : Nat} {h : AH} {cells slots : Nat} {a : Nat} {fs : List Value} {v : Value} (ho : M.1.cls = RX2) (hd : decode M.2.1 pc = .ok (.getfield 31, 3)) (he : h a = some (.inr (3, fs))) (hv : fs[6]? = some v) (kk : V l G M rc rs Fz (pc + 3) ls (v :: st) n h cells slots) : V l G M rc rs Fz pc ls (.ref a :: st) n h cells slots :=
  v_getf (k := 6) (C := RX2) (T := TX2) (N := 7) hd he rfl inX2 (by decide) (by rw [ho]; exact q1_57) hv kk
theorem pX2_31 {l : Launch} {G : vG} {M : vM} {rc rs : Nat} {Fz : vFin} {pc : Nat} {ls : List (Option Value)} {st : List Value} {n : Nat} {h : AH} {cells slots : Nat} {a : Nat} {fs : List Value} {x : Nat} (ho : M.1.cls = RX2) (hi : M.1.name = "<init>") (hd : decode M.2.1 pc = .ok (.putfield 31, 3)) (he : h a = some (.inr (3, fs))) (hl : 6 < fs.length)  (kk : V l G M rc rs Fz (pc + 3) ls (st) n (va_up h a (some (.inr (3, fs.set 6 (.ref x))))) cells slots) : V l G M rc rs Fz pc ls (.ref x :: .ref a :: st) n h cells slots :=
  v_putf (k := 6) (C := RX2) (T := TX2) (N := 7) hd he rfl inX2 tyX2 tyX2_ok nmX2 (by decide) (by rw [ho]; exact q1_57) (Or.inr ⟨rfl, hi, by rw [ho]; rfl⟩) rfl rfl hl kk
theorem fX3_9 {l : Launch} {G : vG} {M : vM} {rc rs : Nat} {Fz : vFin} {pc : Nat} {ls : List (Option Value)} {st : List Value} {n : Nat} {h : AH} {cells slots : Nat} {a : Nat} {fs : List Value} {v : Value} (ho : M.1.cls = RX3) (hd : decode M.2.1 pc = .ok (.getfield 9, 3)) (he : h a = some (.inr (4, fs))) (hv : fs[0]? = some v) (kk : V l G M rc rs Fz (pc + 3) ls (v :: st) n h cells slots) : V l G M rc rs Fz pc ls (.ref a :: st) n h cells slots :=
  v_getf (k := 0) (C := RX3) (T := TX3) (N := 3) hd he rfl inX3 (by decide) (by rw [ho]; exact q1_188) hv kk
theorem pX3_9 {l : Launch} {G : vG} {M : vM} {rc rs : Nat} {Fz : vFin} {pc : Nat} {ls : List (Option Value)} {st : List Value} {n : Nat} {h : AH} {cells slots : Nat} {a : Nat} {fs : List Value} {x : Int32} (ho : M.1.cls = RX3)  (hd : decode M.2.1 pc = .ok (.putfield 9, 3)) (he : h a = some (.inr (4, fs))) (hl : 0 < fs.length)  (kk : V l G M rc rs Fz (pc + 3) ls (st) n (va_up h a (some (.inr (4, fs.set 0 (.int x))))) cells slots) : V l G M rc rs Fz pc ls (.int x :: .ref a :: st) n h cells slots :=
  v_putf (k := 0) (C := RX3) (T := TX3) (N := 3) hd he rfl inX3 tyX3 tyX3_ok nmX3 (by decide) (by rw [ho]; exact q1_188) (Or.inl rfl) rfl rfl hl kk
theorem fX3_15 {l : Launch} {G : vG} {M : vM} {rc rs : Nat} {Fz : vFin} {pc : Nat} {ls : List (Option Value)} {st : List Value} {n : Nat} {h : AH} {cells slots : Nat} {a : Nat} {fs : List Value} {v : Value} (ho : M.1.cls = RX3) (hd : decode M.2.1 pc = .ok (.getfield 15, 3)) (he : h a = some (.inr (4, fs))) (hv : fs[1]? = some v) (kk : V l G M rc rs Fz (pc + 3) ls (v :: st) n h cells slots) : V l G M rc rs Fz pc ls (.ref a :: st) n h cells slots :=
  v_getf (k := 1) (C := RX3) (T := TX3) (N := 3) hd he rfl inX3 (by decide) (by rw [ho]; exact q1_190) hv kk
theorem pX3_15 {l : Launch} {G : vG} {M : vM} {rc rs : Nat} {Fz : vFin} {pc : Nat} {ls : List (Option Value)} {st : List Value} {n : Nat} {h : AH} {cells slots : Nat} {a : Nat} {fs : List Value} {x : Int32} (ho : M.1.cls = RX3)  (hd : decode M.2.1 pc = .ok (.putfield 15, 3)) (he : h a = some (.inr (4, fs))) (hl : 1 < fs.length)  (kk : V l G M rc rs Fz (pc + 3) ls (st) n (va_up h a (some (.inr (4, fs.set 1 (.int x))))) cells slots) : V l G M rc rs Fz pc ls (.int x :: .ref a :: st) n h cells slots :=
  v_putf (k := 1) (C := RX3) (T := TX3) (N := 3) hd he rfl inX3 tyX3 tyX3_ok nmX3 (by decide) (by rw [ho]; exact q1_190) (Or.inl rfl) rfl rfl hl kk
theorem fX3_20 {l : Launch} {G : vG} {M : vM} {rc rs : Nat} {Fz : vFin} {pc : Nat} {ls : List (Option Value)} {st : List Value} {n : Nat} {h : AH} {cells slots : Nat} {a : Nat} {fs : List Value} {v : Value} (ho : M.1.cls = RX3) (hd : decode M.2.1 pc = .ok (.getfield 20, 3)) (he : h a = some (.inr (4, fs))) (hv : fs[2]? = some v) (kk : V l G M rc rs Fz (pc + 3) ls (v :: st) n h cells slots) : V l G M rc rs Fz pc ls (.ref a :: st) n h cells slots :=
  v_getf (k := 2) (C := RX3) (T := TX3) (N := 3) hd he rfl inX3 (by decide) (by rw [ho]; exact q1_191) hv kk
theorem pX3_20 {l : Launch} {G : vG} {M : vM} {rc rs : Nat} {Fz : vFin} {pc : Nat} {ls : List (Option Value)} {st : List Value} {n : Nat} {h : AH} {cells slots : Nat} {a : Nat} {fs : List Value} {x : Nat} (ho : M.1.cls = RX3) (hi : M.1.name = "<init>") (hd : decode M.2.1 pc = .ok (.putfield 20, 3)) (he : h a = some (.inr (4, fs))) (hl : 2 < fs.length)  (kk : V l G M rc rs Fz (pc + 3) ls (st) n (va_up h a (some (.inr (4, fs.set 2 (.ref x))))) cells slots) : V l G M rc rs Fz pc ls (.ref x :: .ref a :: st) n h cells slots :=
  v_putf (k := 2) (C := RX3) (T := TX3) (N := 3) hd he rfl inX3 tyX3 tyX3_ok nmX3 (by decide) (by rw [ho]; exact q1_191) (Or.inr ⟨rfl, hi, by rw [ho]; rfl⟩) rfl rfl hl kk
theorem fX4_9 {l : Launch} {G : vG} {M : vM} {rc rs : Nat} {Fz : vFin} {pc : Nat} {ls : List (Option Value)} {st : List Value} {n : Nat} {h : AH} {cells slots : Nat} {a : Nat} {fs : List Value} {v : Value} (ho : M.1.cls = RX4) (hd : decode M.2.1 pc = .ok (.getfield 9, 3)) (he : h a = some (.inr (5, fs))) (hv : fs[0]? = some v) (kk : V l G M rc rs Fz (pc + 3) ls (v :: st) n h cells slots) : V l G M rc rs Fz pc ls (.ref a :: st) n h cells slots :=
  v_getf (k := 0) (C := RX4) (T := TX4) (N := 5) hd he rfl inX4 (by decide) (by rw [ho]; exact q1_82) hv kk
theorem pX4_9 {l : Launch} {G : vG} {M : vM} {rc rs : Nat} {Fz : vFin} {pc : Nat} {ls : List (Option Value)} {st : List Value} {n : Nat} {h : AH} {cells slots : Nat} {a : Nat} {fs : List Value} {x : Int32} (ho : M.1.cls = RX4)  (hd : decode M.2.1 pc = .ok (.putfield 9, 3)) (he : h a = some (.inr (5, fs))) (hl : 0 < fs.length)  (kk : V l G M rc rs Fz (pc + 3) ls (st) n (va_up h a (some (.inr (5, fs.set 0 (.int x))))) cells slots) : V l G M rc rs Fz pc ls (.int x :: .ref a :: st) n h cells slots :=
  v_putf (k := 0) (C := RX4) (T := TX4) (N := 5) hd he rfl inX4 tyX4 tyX4_ok nmX4 (by decide) (by rw [ho]; exact q1_82) (Or.inl rfl) rfl rfl hl kk
theorem fX4_15 {l : Launch} {G : vG} {M : vM} {rc rs : Nat} {Fz : vFin} {pc : Nat} {ls : List (Option Value)} {st : List Value} {n : Nat} {h : AH} {cells slots : Nat} {a : Nat} {fs : List Value} {v : Value} (ho : M.1.cls = RX4) (hd : decode M.2.1 pc = .ok (.getfield 15, 3)) (he : h a = some (.inr (5, fs))) (hv : fs[1]? = some v) (kk : V l G M rc rs Fz (pc + 3) ls (v :: st) n h cells slots) : V l G M rc rs Fz pc ls (.ref a :: st) n h cells slots :=
  v_getf (k := 1) (C := RX4) (T := TX4) (N := 5) hd he rfl inX4 (by decide) (by rw [ho]; exact q1_85) hv kk
theorem pX4_15 {l : Launch} {G : vG} {M : vM} {rc rs : Nat} {Fz : vFin} {pc : Nat} {ls : List (Option Value)} {st : List Value} {n : Nat} {h : AH} {cells slots : Nat} {a : Nat} {fs : List Value} {x : Nat} (ho : M.1.cls = RX4) (hi : M.1.name = "<init>") (hd : decode M.2.1 pc = .ok (.putfield 15, 3)) (he : h a = some (.inr (5, fs))) (hl : 1 < fs.length)  (kk : V l G M rc rs Fz (pc + 3) ls (st) n (va_up h a (some (.inr (5, fs.set 1 (.ref x))))) cells slots) : V l G M rc rs Fz pc ls (.ref x :: .ref a :: st) n h cells slots :=
  v_putf (k := 1) (C := RX4) (T := TX4) (N := 5) hd he rfl inX4 tyX4 tyX4_ok nmX4 (by decide) (by rw [ho]; exact q1_85) (Or.inr ⟨rfl, hi, by rw [ho]; rfl⟩) rfl rfl hl kk
theorem fX4_19 {l : Launch} {G : vG} {M : vM} {rc rs : Nat} {Fz : vFin} {pc : Nat} {ls : List (Option Value)} {st : List Value} {n : Nat} {h : AH} {cells slots : Nat} {a : Nat} {fs : List Value} {v : Value} (ho : M.1.cls = RX4) (hd : decode M.2.1 pc = .ok (.getfield 19, 3)) (he : h a = some (.inr (5, fs))) (hv : fs[2]? = some v) (kk : V l G M rc rs Fz (pc + 3) ls (v :: st) n h cells slots) : V l G M rc rs Fz pc ls (.ref a :: st) n h cells slots :=
  v_getf (k := 2) (C := RX4) (T := TX4) (N := 5) hd he rfl inX4 (by decide) (by rw [ho]; exact q1_88) hv kk
theorem pX4_19 {l : Launch} {G : vG} {M : vM} {rc rs : Nat} {Fz : vFin} {pc : Nat} {ls : List (Option Value)} {st : List Value} {n : Nat} {h : AH} {cells slots : Nat} {a : Nat} {fs : List Value} {x : Nat} (ho : M.1.cls = RX4) (hi : M.1.name = "<init>") (hd : decode M.2.1 pc = .ok (.putfield 19, 3)) (he : h a = some (.inr (5, fs))) (hl : 2 < fs.length)  (kk : V l G M rc rs Fz (pc + 3) ls (st) n (va_up h a (some (.inr (5, fs.set 2 (.ref x))))) cells slots) : V l G M rc rs Fz pc ls (.ref x :: .ref a :: st) n h cells slots :=
  v_putf (k := 2) (C := RX4) (T := TX4) (N := 5) hd he rfl inX4 tyX4 tyX4_ok nmX4 (by decide) (by rw [ho]; exact q1_88) (Or.inr ⟨rfl, hi, by rw [ho]; rfl⟩) rfl rfl hl kk
theorem fX4_22 {l : Launch} {G : vG} {M : vM} {rc rs : Nat} {Fz : vFin} {pc : Nat} {ls : List (Option Value)} {st : List Value} {n : Nat} {h : AH} {cells slots : Nat} {a : Nat} {fs : List Value} {v : Value} (ho : M.1.cls = RX4) (hd : decode M.2.1 pc = .ok (.getfield 22, 3)) (he : h a = some (.inr (5, fs))) (hv : fs[3]? = some v) (kk : V l G M rc rs Fz (pc + 3) ls (v :: st) n h cells slots) : V l G M rc rs Fz pc ls (.ref a :: st) n h cells slots :=
  v_getf (k := 3) (C := RX4) (T := TX4) (N := 5) hd he rfl inX4 (by decide) (by rw [ho]; exact q1_91) hv kk
theorem pX4_22 {l : Launch} {G : vG} {M : vM} {rc rs : Nat} {Fz : vFin} {pc : Nat} {ls : List (Option Value)} {st : List Value} {n : Nat} {h : AH} {cells slots : Nat} {a : Nat} {fs : List Value} {x : Nat} (ho : M.1.cls = RX4) (hi : M.1.name = "<init>") (hd : decode M.2.1 pc = .ok (.putfield 22, 3)) (he : h a = some (.inr (5, fs))) (hl : 3 < fs.length)  (kk : V l G M rc rs Fz (pc + 3) ls (st) n (va_up h a (some (.inr (5, fs.set 3 (.ref x))))) cells slots) : V l G M rc rs Fz pc ls (.ref x :: .ref a :: st) n h cells slots :=
  v_putf (k := 3) (C := RX4) (T := TX4) (N := 5) hd he rfl inX4 tyX4 tyX4_ok nmX4 (by decide) (by rw [ho]; exact q1_91) (Or.inr ⟨rfl, hi, by rw [ho]; rfl⟩) rfl rfl hl kk
theorem fX4_25 {l : Launch} {G : vG} {M : vM} {rc rs : Nat} {Fz : vFin} {pc : Nat} {ls : List (Option Value)} {st : List Value} {n : Nat} {h : AH} {cells slots : Nat} {a : Nat} {fs : List Value} {v : Value} (ho : M.1.cls = RX4) (hd : decode M.2.1 pc = .ok (.getfield 25, 3)) (he : h a = some (.inr (5, fs))) (hv : fs[4]? = some v) (kk : V l G M rc rs Fz (pc + 3) ls (v :: st) n h cells slots) : V l G M rc rs Fz pc ls (.ref a :: st) n h cells slots :=
  v_getf (k := 4) (C := RX4) (T := TX4) (N := 5) hd he rfl inX4 (by decide) (by rw [ho]; exact q1_94) hv kk
theorem pX4_25 {l : Launch} {G : vG} {M : vM} {rc rs : Nat} {Fz : vFin} {pc : Nat} {ls : List (Option Value)} {st : List Value} {n : Nat} {h : AH} {cells slots : Nat} {a : Nat} {fs : List Value} {x : Nat} (ho : M.1.cls = RX4) (hi : M.1.name = "<init>") (hd : decode M.2.1 pc = .ok (.putfield 25, 3)) (he : h a = some (.inr (5, fs))) (hl : 4 < fs.length)  (kk : V l G M rc rs Fz (pc + 3) ls (st) n (va_up h a (some (.inr (5, fs.set 4 (.ref x))))) cells slots) : V l G M rc rs Fz pc ls (.ref x :: .ref a :: st) n h cells slots :=
  v_putf (k := 4) (C := RX4) (T := TX4) (N := 5) hd he rfl inX4 tyX4 tyX4_ok nmX4 (by decide) (by rw [ho]; exact q1_94) (Or.inr ⟨rfl, hi, by rw [ho]; rfl⟩) rfl rfl hl kk
theorem fX5_12 {l : Launch} {G : vG} {M : vM} {rc rs : Nat} {Fz : vFin} {pc : Nat} {ls : List (Option Value)} {st : List Value} {n : Nat} {h : AH} {cells slots : Nat} {a : Nat} {fs : List Value} {v : Value} (ho : M.1.cls = RX5) (hd : decode M.2.1 pc = .ok (.getfield 12, 3)) (he : h a = some (.inr (6, fs))) (hv : fs[0]? = some v) (kk : V l G M rc rs Fz (pc + 3) ls (v :: st) n h cells slots) : V l G M rc rs Fz pc ls (.ref a :: st) n h cells slots :=
  v_getf (k := 0) (C := RX5) (T := TX5) (N := 6) hd he rfl inX5 (by decide) (by rw [ho]; exact q1_238) hv kk
theorem pX5_12 {l : Launch} {G : vG} {M : vM} {rc rs : Nat} {Fz : vFin} {pc : Nat} {ls : List (Option Value)} {st : List Value} {n : Nat} {h : AH} {cells slots : Nat} {a : Nat} {fs : List Value} {x : Nat} (ho : M.1.cls = RX5) (hi : M.1.name = "<init>") (hd : decode M.2.1 pc = .ok (.putfield 12, 3)) (he : h a = some (.inr (6, fs))) (hl : 0 < fs.length)  (kk : V l G M rc rs Fz (pc + 3) ls (st) n (va_up h a (some (.inr (6, fs.set 0 (.ref x))))) cells slots) : V l G M rc rs Fz pc ls (.ref x :: .ref a :: st) n h cells slots :=
  v_putf (k := 0) (C := RX5) (T := TX5) (N := 6) hd he rfl inX5 tyX5 tyX5_ok nmX5 (by decide) (by rw [ho]; exact q1_238) (Or.inr ⟨rfl, hi, by rw [ho]; rfl⟩) rfl rfl hl kk
theorem fX5_18 {l : Launch} {G : vG} {M : vM} {rc rs : Nat} {Fz : vFin} {pc : Nat} {ls : List (Option Value)} {st : List Value} {n : Nat} {h : AH} {cells slots : Nat} {a : Nat} {fs : List Value} {v : Value} (ho : M.1.cls = RX5) (hd : decode M.2.1 pc = .ok (.getfield 18, 3)) (he : h a = some (.inr (6, fs))) (hv : fs[1]? = some v) (kk : V l G M rc rs Fz (pc + 3) ls (v :: st) n h cells slots) : V l G M rc rs Fz pc ls (.ref a :: st) n h cells slots :=
  v_getf (k := 1) (C := RX5) (T := TX5) (N := 6) hd he rfl inX5 (by decide) (by rw [ho]; exact q2_0) hv kk
theorem pX5_18 {l : Launch} {G : vG} {M : vM} {rc rs : Nat} {Fz : vFin} {pc : Nat} {ls : List (Option Value)} {st : List Value} {n : Nat} {h : AH} {cells slots : Nat} {a : Nat} {fs : List Value} {x : Int32} (ho : M.1.cls = RX5)  (hd : decode M.2.1 pc = .ok (.putfield 18, 3)) (he : h a = some (.inr (6, fs))) (hl : 1 < fs.length)  (kk : V l G M rc rs Fz (pc + 3) ls (st) n (va_up h a (some (.inr (6, fs.set 1 (.int x))))) cells slots) : V l G M rc rs Fz pc ls (.int x :: .ref a :: st) n h cells slots :=
  v_putf (k := 1) (C := RX5) (T := TX5) (N := 6) hd he rfl inX5 tyX5 tyX5_ok nmX5 (by decide) (by rw [ho]; exact q2_0) (Or.inl rfl) rfl rfl hl kk
theorem fX5_22 {l : Launch} {G : vG} {M : vM} {rc rs : Nat} {Fz : vFin} {pc : Nat} {ls : List (Option Value)} {st : List Value} {n : Nat} {h : AH} {cells slots : Nat} {a : Nat} {fs : List Value} {v : Value} (ho : M.1.cls = RX5) (hd : decode M.2.1 pc = .ok (.getfield 22, 3)) (he : h a = some (.inr (6, fs))) (hv : fs[2]? = some v) (kk : V l G M rc rs Fz (pc + 3) ls (v :: st) n h cells slots) : V l G M rc rs Fz pc ls (.ref a :: st) n h cells slots :=
  v_getf (k := 2) (C := RX5) (T := TX5) (N := 6) hd he rfl inX5 (by decide) (by rw [ho]; exact q2_2) hv kk
theorem pX5_22 {l : Launch} {G : vG} {M : vM} {rc rs : Nat} {Fz : vFin} {pc : Nat} {ls : List (Option Value)} {st : List Value} {n : Nat} {h : AH} {cells slots : Nat} {a : Nat} {fs : List Value} {x : Int32} (ho : M.1.cls = RX5)  (hd : decode M.2.1 pc = .ok (.putfield 22, 3)) (he : h a = some (.inr (6, fs))) (hl : 2 < fs.length)  (kk : V l G M rc rs Fz (pc + 3) ls (st) n (va_up h a (some (.inr (6, fs.set 2 (.int x))))) cells slots) : V l G M rc rs Fz pc ls (.int x :: .ref a :: st) n h cells slots :=
  v_putf (k := 2) (C := RX5) (T := TX5) (N := 6) hd he rfl inX5 tyX5 tyX5_ok nmX5 (by decide) (by rw [ho]; exact q2_2) (Or.inl rfl) rfl rfl hl kk
theorem fX5_25 {l : Launch} {G : vG} {M : vM} {rc rs : Nat} {Fz : vFin} {pc : Nat} {ls : List (Option Value)} {st : List Value} {n : Nat} {h : AH} {cells slots : Nat} {a : Nat} {fs : List Value} {v : Value} (ho : M.1.cls = RX5) (hd : decode M.2.1 pc = .ok (.getfield 25, 3)) (he : h a = some (.inr (6, fs))) (hv : fs[3]? = some v) (kk : V l G M rc rs Fz (pc + 3) ls (v :: st) n h cells slots) : V l G M rc rs Fz pc ls (.ref a :: st) n h cells slots :=
  v_getf (k := 3) (C := RX5) (T := TX5) (N := 6) hd he rfl inX5 (by decide) (by rw [ho]; exact q2_4) hv kk
theorem pX5_25 {l : Launch} {G : vG} {M : vM} {rc rs : Nat} {Fz : vFin} {pc : Nat} {ls : List (Option Value)} {st : List Value} {n : Nat} {h : AH} {cells slots : Nat} {a : Nat} {fs : List Value} {x : Int32} (ho : M.1.cls = RX5)  (hd : decode M.2.1 pc = .ok (.putfield 25, 3)) (he : h a = some (.inr (6, fs))) (hl : 3 < fs.length)  (kk : V l G M rc rs Fz (pc + 3) ls (st) n (va_up h a (some (.inr (6, fs.set 3 (.int x))))) cells slots) : V l G M rc rs Fz pc ls (.int x :: .ref a :: st) n h cells slots :=
  v_putf (k := 3) (C := RX5) (T := TX5) (N := 6) hd he rfl inX5 tyX5 tyX5_ok nmX5 (by decide) (by rw [ho]; exact q2_4) (Or.inl rfl) rfl rfl hl kk
theorem fX5_28 {l : Launch} {G : vG} {M : vM} {rc rs : Nat} {Fz : vFin} {pc : Nat} {ls : List (Option Value)} {st : List Value} {n : Nat} {h : AH} {cells slots : Nat} {a : Nat} {fs : List Value} {v : Value} (ho : M.1.cls = RX5) (hd : decode M.2.1 pc = .ok (.getfield 28, 3)) (he : h a = some (.inr (6, fs))) (hv : fs[4]? = some v) (kk : V l G M rc rs Fz (pc + 3) ls (v :: st) n h cells slots) : V l G M rc rs Fz pc ls (.ref a :: st) n h cells slots :=
  v_getf (k := 4) (C := RX5) (T := TX5) (N := 6) hd he rfl inX5 (by decide) (by rw [ho]; exact q2_5) hv kk
theorem pX5_28 {l : Launch} {G : vG} {M : vM} {rc rs : Nat} {Fz : vFin} {pc : Nat} {ls : List (Option Value)} {st : List Value} {n : Nat} {h : AH} {cells slots : Nat} {a : Nat} {fs : List Value} {x : Nat} (ho : M.1.cls = RX5) (hi : M.1.name = "<init>") (hd : decode M.2.1 pc = .ok (.putfield 28, 3)) (he : h a = some (.inr (6, fs))) (hl : 4 < fs.length)  (kk : V l G M rc rs Fz (pc + 3) ls (st) n (va_up h a (some (.inr (6, fs.set 4 (.ref x))))) cells slots) : V l G M rc rs Fz pc ls (.ref x :: .ref a :: st) n h cells slots :=
  v_putf (k := 4) (C := RX5) (T := TX5) (N := 6) hd he rfl inX5 tyX5 tyX5_ok nmX5 (by decide) (by rw [ho]; exact q2_5) (Or.inr ⟨rfl, hi, by rw [ho]; rfl⟩) rfl rfl hl kk
theorem fX5_32 {l : Launch} {G : vG} {M : vM} {rc rs : Nat} {Fz : vFin} {pc : Nat} {ls : List (Option Value)} {st : List Value} {n : Nat} {h : AH} {cells slots : Nat} {a : Nat} {fs : List Value} {v : Value} (ho : M.1.cls = RX5) (hd : decode M.2.1 pc = .ok (.getfield 32, 3)) (he : h a = some (.inr (6, fs))) (hv : fs[5]? = some v) (kk : V l G M rc rs Fz (pc + 3) ls (v :: st) n h cells slots) : V l G M rc rs Fz pc ls (.ref a :: st) n h cells slots :=
  v_getf (k := 5) (C := RX5) (T := TX5) (N := 6) hd he rfl inX5 (by decide) (by rw [ho]; exact q2_6) hv kk
theorem pX5_32 {l : Launch} {G : vG} {M : vM} {rc rs : Nat} {Fz : vFin} {pc : Nat} {ls : List (Option Value)} {st : List Value} {n : Nat} {h : AH} {cells slots : Nat} {a : Nat} {fs : List Value} {x : Nat} (ho : M.1.cls = RX5) (hi : M.1.name = "<init>") (hd : decode M.2.1 pc = .ok (.putfield 32, 3)) (he : h a = some (.inr (6, fs))) (hl : 5 < fs.length)  (kk : V l G M rc rs Fz (pc + 3) ls (st) n (va_up h a (some (.inr (6, fs.set 5 (.ref x))))) cells slots) : V l G M rc rs Fz pc ls (.ref x :: .ref a :: st) n h cells slots :=
  v_putf (k := 5) (C := RX5) (T := TX5) (N := 6) hd he rfl inX5 tyX5 tyX5_ok nmX5 (by decide) (by rw [ho]; exact q2_6) (Or.inr ⟨rfl, hi, by rw [ho]; rfl⟩) rfl rfl hl kk
theorem fX6_10 {l : Launch} {G : vG} {M : vM} {rc rs : Nat} {Fz : vFin} {pc : Nat} {ls : List (Option Value)} {st : List Value} {n : Nat} {h : AH} {cells slots : Nat} {a : Nat} {fs : List Value} {v : Value} (ho : M.1.cls = RX6) (hd : decode M.2.1 pc = .ok (.getfield 10, 3)) (he : h a = some (.inr (7, fs))) (hv : fs[0]? = some v) (kk : V l G M rc rs Fz (pc + 3) ls (v :: st) n h cells slots) : V l G M rc rs Fz pc ls (.ref a :: st) n h cells slots :=
  v_getf (k := 0) (C := RX6) (T := TX6) (N := 10) hd he rfl inX6 (by decide) (by rw [ho]; exact q2_23) hv kk
theorem pX6_10 {l : Launch} {G : vG} {M : vM} {rc rs : Nat} {Fz : vFin} {pc : Nat} {ls : List (Option Value)} {st : List Value} {n : Nat} {h : AH} {cells slots : Nat} {a : Nat} {fs : List Value} {x : Nat} (ho : M.1.cls = RX6) (hi : M.1.name = "<init>") (hd : decode M.2.1 pc = .ok (.putfield 10, 3)) (he : h a = some (.inr (7, fs))) (hl : 0 < fs.length)  (kk : V l G M rc rs Fz (pc + 3) ls (st) n (va_up h a (some (.inr (7, fs.set 0 (.ref x))))) cells slots) : V l G M rc rs Fz pc ls (.ref x :: .ref a :: st) n h cells slots :=
  v_putf (k := 0) (C := RX6) (T := TX6) (N := 10) hd he rfl inX6 tyX6 tyX6_ok nmX6 (by decide) (by rw [ho]; exact q2_23) (Or.inr ⟨rfl, hi, by rw [ho]; rfl⟩) rfl rfl hl kk
theorem fX6_16 {l : Launch} {G : vG} {M : vM} {rc rs : Nat} {Fz : vFin} {pc : Nat} {ls : List (Option Value)} {st : List Value} {n : Nat} {h : AH} {cells slots : Nat} {a : Nat} {fs : List Value} {v : Value} (ho : M.1.cls = RX6) (hd : decode M.2.1 pc = .ok (.getfield 16, 3)) (he : h a = some (.inr (7, fs))) (hv : fs[1]? = some v) (kk : V l G M rc rs Fz (pc + 3) ls (v :: st) n h cells slots) : V l G M rc rs Fz pc ls (.ref a :: st) n h cells slots :=
  v_getf (k := 1) (C := RX6) (T := TX6) (N := 10) hd he rfl inX6 (by decide) (by rw [ho]; exact q2_24) hv kk
theorem pX6_16 {l : Launch} {G : vG} {M : vM} {rc rs : Nat} {Fz : vFin} {pc : Nat} {ls : List (Option Value)} {st : List Value} {n : Nat} {h : AH} {cells slots : Nat} {a : Nat} {fs : List Value} {x : Nat} (ho : M.1.cls = RX6) (hi : M.1.name = "<init>") (hd : decode M.2.1 pc = .ok (.putfield 16, 3)) (he : h a = some (.inr (7, fs))) (hl : 1 < fs.length)  (kk : V l G M rc rs Fz (pc + 3) ls (st) n (va_up h a (some (.inr (7, fs.set 1 (.ref x))))) cells slots) : V l G M rc rs Fz pc ls (.ref x :: .ref a :: st) n h cells slots :=
  v_putf (k := 1) (C := RX6) (T := TX6) (N := 10) hd he rfl inX6 tyX6 tyX6_ok nmX6 (by decide) (by rw [ho]; exact q2_24) (Or.inr ⟨rfl, hi, by rw [ho]; rfl⟩) rfl rfl hl kk
theorem fX6_19 {l : Launch} {G : vG} {M : vM} {rc rs : Nat} {Fz : vFin} {pc : Nat} {ls : List (Option Value)} {st : List Value} {n : Nat} {h : AH} {cells slots : Nat} {a : Nat} {fs : List Value} {v : Value} (ho : M.1.cls = RX6) (hd : decode M.2.1 pc = .ok (.getfield 19, 3)) (he : h a = some (.inr (7, fs))) (hv : fs[2]? = some v) (kk : V l G M rc rs Fz (pc + 3) ls (v :: st) n h cells slots) : V l G M rc rs Fz pc ls (.ref a :: st) n h cells slots :=
  v_getf (k := 2) (C := RX6) (T := TX6) (N := 10) hd he rfl inX6 (by decide) (by rw [ho]; exact q2_25) hv kk
theorem pX6_19 {l : Launch} {G : vG} {M : vM} {rc rs : Nat} {Fz : vFin} {pc : Nat} {ls : List (Option Value)} {st : List Value} {n : Nat} {h : AH} {cells slots : Nat} {a : Nat} {fs : List Value} {x : Nat} (ho : M.1.cls = RX6) (hi : M.1.name = "<init>") (hd : decode M.2.1 pc = .ok (.putfield 19, 3)) (he : h a = some (.inr (7, fs))) (hl : 2 < fs.length)  (kk : V l G M rc rs Fz (pc + 3) ls (st) n (va_up h a (some (.inr (7, fs.set 2 (.ref x))))) cells slots) : V l G M rc rs Fz pc ls (.ref x :: .ref a :: st) n h cells slots :=
  v_putf (k := 2) (C := RX6) (T := TX6) (N := 10) hd he rfl inX6 tyX6 tyX6_ok nmX6 (by decide) (by rw [ho]; exact q2_25) (Or.inr ⟨rfl, hi, by rw [ho]; rfl⟩) rfl rfl hl kk
theorem fX6_22 {l : Launch} {G : vG} {M : vM} {rc rs : Nat} {Fz : vFin} {pc : Nat} {ls : List (Option Value)} {st : List Value} {n : Nat} {h : AH} {cells slots : Nat} {a : Nat} {fs : List Value} {v : Value} (ho : M.1.cls = RX6) (hd : decode M.2.1 pc = .ok (.getfield 22, 3)) (he : h a = some (.inr (7, fs))) (hv : fs[3]? = some v) (kk : V l G M rc rs Fz (pc + 3) ls (v :: st) n h cells slots) : V l G M rc rs Fz pc ls (.ref a :: st) n h cells slots :=
  v_getf (k := 3) (C := RX6) (T := TX6) (N := 10) hd he rfl inX6 (by decide) (by rw [ho]; exact q2_26) hv kk
theorem pX6_22 {l : Launch} {G : vG} {M : vM} {rc rs : Nat} {Fz : vFin} {pc : Nat} {ls : List (Option Value)} {st : List Value} {n : Nat} {h : AH} {cells slots : Nat} {a : Nat} {fs : List Value} {x : Nat} (ho : M.1.cls = RX6) (hi : M.1.name = "<init>") (hd : decode M.2.1 pc = .ok (.putfield 22, 3)) (he : h a = some (.inr (7, fs))) (hl : 3 < fs.length)  (kk : V l G M rc rs Fz (pc + 3) ls (st) n (va_up h a (some (.inr (7, fs.set 3 (.ref x))))) cells slots) : V l G M rc rs Fz pc ls (.ref x :: .ref a :: st) n h cells slots :=
  v_putf (k := 3) (C := RX6) (T := TX6) (N := 10) hd he rfl inX6 tyX6 tyX6_ok nmX6 (by decide) (by rw [ho]; exact q2_26) (Or.inr ⟨rfl, hi, by rw [ho]; rfl⟩) rfl rfl hl kk
theorem fX6_28 {l : Launch} {G : vG} {M : vM} {rc rs : Nat} {Fz : vFin} {pc : Nat} {ls : List (Option Value)} {st : List Value} {n : Nat} {h : AH} {cells slots : Nat} {a : Nat} {fs : List Value} {v : Value} (ho : M.1.cls = RX6) (hd : decode M.2.1 pc = .ok (.getfield 28, 3)) (he : h a = some (.inr (7, fs))) (hv : fs[4]? = some v) (kk : V l G M rc rs Fz (pc + 3) ls (v :: st) n h cells slots) : V l G M rc rs Fz pc ls (.ref a :: st) n h cells slots :=
  v_getf (k := 4) (C := RX6) (T := TX6) (N := 10) hd he rfl inX6 (by decide) (by rw [ho]; exact q2_27) hv kk
theorem pX6_28 {l : Launch} {G : vG} {M : vM} {rc rs : Nat} {Fz : vFin} {pc : Nat} {ls : List (Option Value)} {st : List Value} {n : Nat} {h : AH} {cells slots : Nat} {a : Nat} {fs : List Value} {x : Nat} (ho : M.1.cls = RX6) (hi : M.1.name = "<init>") (hd : decode M.2.1 pc = .ok (.putfield 28, 3)) (he : h a = some (.inr (7, fs))) (hl : 4 < fs.length)  (kk : V l G M rc rs Fz (pc + 3) ls (st) n (va_up h a (some (.inr (7, fs.set 4 (.ref x))))) cells slots) : V l G M rc rs Fz pc ls (.ref x :: .ref a :: st) n h cells slots :=
  v_putf (k := 4) (C := RX6) (T := TX6) (N := 10) hd he rfl inX6 tyX6 tyX6_ok nmX6 (by decide) (by rw [ho]; exact q2_27) (Or.inr ⟨rfl, hi, by rw [ho]; rfl⟩) rfl rfl hl kk
theorem fX6_35 {l : Launch} {G : vG} {M : vM} {rc rs : Nat} {Fz : vFin} {pc : Nat} {ls : List (Option Value)} {st : List Value} {n : Nat} {h : AH} {cells slots : Nat} {a : Nat} {fs : List Value} {v : Value} (ho : M.1.cls = RX6) (hd : decode M.2.1 pc = .ok (.getfield 35, 3)) (he : h a = some (.inr (7, fs))) (hv : fs[5]? = some v) (kk : V l G M rc rs Fz (pc + 3) ls (v :: st) n h cells slots) : V l G M rc rs Fz pc ls (.ref a :: st) n h cells slots :=
  v_getf (k := 5) (C := RX6) (T := TX6) (N := 10) hd he rfl inX6 (by decide) (by rw [ho]; exact q2_28) hv kk
theorem pX6_35 {l : Launch} {G : vG} {M : vM} {rc rs : Nat} {Fz : vFin} {pc : Nat} {ls : List (Option Value)} {st : List Value} {n : Nat} {h : AH} {cells slots : Nat} {a : Nat} {fs : List Value} {x : Nat} (ho : M.1.cls = RX6) (hi : M.1.name = "<init>") (hd : decode M.2.1 pc = .ok (.putfield 35, 3)) (he : h a = some (.inr (7, fs))) (hl : 5 < fs.length)  (kk : V l G M rc rs Fz (pc + 3) ls (st) n (va_up h a (some (.inr (7, fs.set 5 (.ref x))))) cells slots) : V l G M rc rs Fz pc ls (.ref x :: .ref a :: st) n h cells slots :=
  v_putf (k := 5) (C := RX6) (T := TX6) (N := 10) hd he rfl inX6 tyX6 tyX6_ok nmX6 (by decide) (by rw [ho]; exact q2_28) (Or.inr ⟨rfl, hi, by rw [ho]; rfl⟩) rfl rfl hl kk
theorem fX6_42 {l : Launch} {G : vG} {M : vM} {rc rs : Nat} {Fz : vFin} {pc : Nat} {ls : List (Option Value)} {st : List Value} {n : Nat} {h : AH} {cells slots : Nat} {a : Nat} {fs : List Value} {v : Value} (ho : M.1.cls = RX6) (hd : decode M.2.1 pc = .ok (.getfield 42, 3)) (he : h a = some (.inr (7, fs))) (hv : fs[6]? = some v) (kk : V l G M rc rs Fz (pc + 3) ls (v :: st) n h cells slots) : V l G M rc rs Fz pc ls (.ref a :: st) n h cells slots :=
  v_getf (k := 6) (C := RX6) (T := TX6) (N := 10) hd he rfl inX6 (by decide) (by rw [ho]; exact q2_29) hv kk
theorem pX6_42 {l : Launch} {G : vG} {M : vM} {rc rs : Nat} {Fz : vFin} {pc : Nat} {ls : List (Option Value)} {st : List Value} {n : Nat} {h : AH} {cells slots : Nat} {a : Nat} {fs : List Value} {x : Nat} (ho : M.1.cls = RX6) (hi : M.1.name = "<init>") (hd : decode M.2.1 pc = .ok (.putfield 42, 3)) (he : h a = some (.inr (7, fs))) (hl : 6 < fs.length)  (kk : V l G M rc rs Fz (pc + 3) ls (st) n (va_up h a (some (.inr (7, fs.set 6 (.ref x))))) cells slots) : V l G M rc rs Fz pc ls (.ref x :: .ref a :: st) n h cells slots :=
  v_putf (k := 6) (C := RX6) (T := TX6) (N := 10) hd he rfl inX6 tyX6 tyX6_ok nmX6 (by decide) (by rw [ho]; exact q2_29) (Or.inr ⟨rfl, hi, by rw [ho]; rfl⟩) rfl rfl hl kk
theorem fX6_46 {l : Launch} {G : vG} {M : vM} {rc rs : Nat} {Fz : vFin} {pc : Nat} {ls : List (Option Value)} {st : List Value} {n : Nat} {h : AH} {cells slots : Nat} {a : Nat} {fs : List Value} {v : Value} (ho : M.1.cls = RX6) (hd : decode M.2.1 pc = .ok (.getfield 46, 3)) (he : h a = some (.inr (7, fs))) (hv : fs[7]? = some v) (kk : V l G M rc rs Fz (pc + 3) ls (v :: st) n h cells slots) : V l G M rc rs Fz pc ls (.ref a :: st) n h cells slots :=
  v_getf (k := 7) (C := RX6) (T := TX6) (N := 10) hd he rfl inX6 (by decide) (by rw [ho]; exact q2_30) hv kk
theorem pX6_46 {l : Launch} {G : vG} {M : vM} {rc rs : Nat} {Fz : vFin} {pc : Nat} {ls : List (Option Value)} {st : List Value} {n : Nat} {h : AH} {cells slots : Nat} {a : Nat} {fs : List Value} {x : Int32} (ho : M.1.cls = RX6)  (hd : decode M.2.1 pc = .ok (.putfield 46, 3)) (he : h a = some (.inr (7, fs))) (hl : 7 < fs.length) (hn : narrow .boolean (.int x) = .int x) (hfit : fits .boolean (.int x) = true) (kk : V l G M rc rs Fz (pc + 3) ls (st) n (va_up h a (some (.inr (7, fs.set 7 (.int x))))) cells slots) : V l G M rc rs Fz pc ls (.int x :: .ref a :: st) n h cells slots :=
  v_putf (k := 7) (C := RX6) (T := TX6) (N := 10) hd he rfl inX6 tyX6 tyX6_ok nmX6 (by decide) (by rw [ho]; exact q2_30) (Or.inl rfl) hn hfit hl kk
theorem fX6_50 {l : Launch} {G : vG} {M : vM} {rc rs : Nat} {Fz : vFin} {pc : Nat} {ls : List (Option Value)} {st : List Value} {n : Nat} {h : AH} {cells slots : Nat} {a : Nat} {fs : List Value} {v : Value} (ho : M.1.cls = RX6) (hd : decode M.2.1 pc = .ok (.getfield 50, 3)) (he : h a = some (.inr (7, fs))) (hv : fs[8]? = some v) (kk : V l G M rc rs Fz (pc + 3) ls (v :: st) n h cells slots) : V l G M rc rs Fz pc ls (.ref a :: st) n h cells slots :=
  v_getf (k := 8) (C := RX6) (T := TX6) (N := 10) hd he rfl inX6 (by decide) (by rw [ho]; exact q2_31) hv kk
theorem pX6_50 {l : Launch} {G : vG} {M : vM} {rc rs : Nat} {Fz : vFin} {pc : Nat} {ls : List (Option Value)} {st : List Value} {n : Nat} {h : AH} {cells slots : Nat} {a : Nat} {fs : List Value} {x : Int32} (ho : M.1.cls = RX6)  (hd : decode M.2.1 pc = .ok (.putfield 50, 3)) (he : h a = some (.inr (7, fs))) (hl : 8 < fs.length)  (kk : V l G M rc rs Fz (pc + 3) ls (st) n (va_up h a (some (.inr (7, fs.set 8 (.int x))))) cells slots) : V l G M rc rs Fz pc ls (.int x :: .ref a :: st) n h cells slots :=
  v_putf (k := 8) (C := RX6) (T := TX6) (N := 10) hd he rfl inX6 tyX6 tyX6_ok nmX6 (by decide) (by rw [ho]; exact q2_31) (Or.inl rfl) rfl rfl hl kk
theorem fX6_54 {l : Launch} {G : vG} {M : vM} {rc rs : Nat} {Fz : vFin} {pc : Nat} {ls : List (Option Value)} {st : List Value} {n : Nat} {h : AH} {cells slots : Nat} {a : Nat} {fs : List Value} {v : Value} (ho : M.1.cls = RX6) (hd : decode M.2.1 pc = .ok (.getfield 54, 3)) (he : h a = some (.inr (7, fs))) (hv : fs[9]? = some v) (kk : V l G M rc rs Fz (pc + 3) ls (v :: st) n h cells slots) : V l G M rc rs Fz pc ls (.ref a :: st) n h cells slots :=
  v_getf (k := 9) (C := RX6) (T := TX6) (N := 10) hd he rfl inX6 (by decide) (by rw [ho]; exact q2_32) hv kk
theorem pX6_54 {l : Launch} {G : vG} {M : vM} {rc rs : Nat} {Fz : vFin} {pc : Nat} {ls : List (Option Value)} {st : List Value} {n : Nat} {h : AH} {cells slots : Nat} {a : Nat} {fs : List Value} {x : Int32} (ho : M.1.cls = RX6)  (hd : decode M.2.1 pc = .ok (.putfield 54, 3)) (he : h a = some (.inr (7, fs))) (hl : 9 < fs.length)  (kk : V l G M rc rs Fz (pc + 3) ls (st) n (va_up h a (some (.inr (7, fs.set 9 (.int x))))) cells slots) : V l G M rc rs Fz pc ls (.int x :: .ref a :: st) n h cells slots :=
  v_putf (k := 9) (C := RX6) (T := TX6) (N := 10) hd he rfl inX6 tyX6 tyX6_ok nmX6 (by decide) (by rw [ho]; exact q2_32) (Or.inl rfl) rfl rfl hl kk
theorem fX6_81 {l : Launch} {G : vG} {M : vM} {rc rs : Nat} {Fz : vFin} {pc : Nat} {ls : List (Option Value)} {st : List Value} {n : Nat} {h : AH} {cells slots : Nat} {a : Nat} {fs : List Value} {v : Value} (ho : M.1.cls = RX6) (hd : decode M.2.1 pc = .ok (.getfield 81, 3)) (he : h a = some (.inr (2, fs))) (hv : fs[0]? = some v) (kk : V l G M rc rs Fz (pc + 3) ls (v :: st) n h cells slots) : V l G M rc rs Fz pc ls (.ref a :: st) n h cells slots :=
  v_getf (k := 0) (C := RX1) (T := TX1) (N := 10) hd he rfl inX1 (by decide) (by rw [ho]; exact q1_139) hv kk
theorem fX6_91 {l : Launch} {G : vG} {M : vM} {rc rs : Nat} {Fz : vFin} {pc : Nat} {ls : List (Option Value)} {st : List Value} {n : Nat} {h : AH} {cells slots : Nat} {a : Nat} {fs : List Value} {v : Value} (ho : M.1.cls = RX6) (hd : decode M.2.1 pc = .ok (.getfield 91, 3)) (he : h a = some (.inr (3, fs))) (hv : fs[1]? = some v) (kk : V l G M rc rs Fz (pc + 3) ls (v :: st) n h cells slots) : V l G M rc rs Fz pc ls (.ref a :: st) n h cells slots :=
  v_getf (k := 1) (C := RX2) (T := TX2) (N := 7) hd he rfl inX2 (by decide) (by rw [ho]; exact q1_43) hv kk
theorem fX6_95 {l : Launch} {G : vG} {M : vM} {rc rs : Nat} {Fz : vFin} {pc : Nat} {ls : List (Option Value)} {st : List Value} {n : Nat} {h : AH} {cells slots : Nat} {a : Nat} {fs : List Value} {v : Value} (ho : M.1.cls = RX6) (hd : decode M.2.1 pc = .ok (.getfield 95, 3)) (he : h a = some (.inr (3, fs))) (hv : fs[2]? = some v) (kk : V l G M rc rs Fz (pc + 3) ls (v :: st) n h cells slots) : V l G M rc rs Fz pc ls (.ref a :: st) n h cells slots :=
  v_getf (k := 2) (C := RX2) (T := TX2) (N := 7) hd he rfl inX2 (by decide) (by rw [ho]; exact q1_46) hv kk
theorem fX6_98 {l : Launch} {G : vG} {M : vM} {rc rs : Nat} {Fz : vFin} {pc : Nat} {ls : List (Option Value)} {st : List Value} {n : Nat} {h : AH} {cells slots : Nat} {a : Nat} {fs : List Value} {v : Value} (ho : M.1.cls = RX6) (hd : decode M.2.1 pc = .ok (.getfield 98, 3)) (he : h a = some (.inr (3, fs))) (hv : fs[3]? = some v) (kk : V l G M rc rs Fz (pc + 3) ls (v :: st) n h cells slots) : V l G M rc rs Fz pc ls (.ref a :: st) n h cells slots :=
  v_getf (k := 3) (C := RX2) (T := TX2) (N := 7) hd he rfl inX2 (by decide) (by rw [ho]; exact q1_49) hv kk
theorem fX6_101 {l : Launch} {G : vG} {M : vM} {rc rs : Nat} {Fz : vFin} {pc : Nat} {ls : List (Option Value)} {st : List Value} {n : Nat} {h : AH} {cells slots : Nat} {a : Nat} {fs : List Value} {v : Value} (ho : M.1.cls = RX6) (hd : decode M.2.1 pc = .ok (.getfield 101, 3)) (he : h a = some (.inr (3, fs))) (hv : fs[4]? = some v) (kk : V l G M rc rs Fz (pc + 3) ls (v :: st) n h cells slots) : V l G M rc rs Fz pc ls (.ref a :: st) n h cells slots :=
  v_getf (k := 4) (C := RX2) (T := TX2) (N := 7) hd he rfl inX2 (by decide) (by rw [ho]; exact q1_52) hv kk
theorem fX6_107 {l : Launch} {G : vG} {M : vM} {rc rs : Nat} {Fz : vFin} {pc : Nat} {ls : List (Option Value)} {st : List Value} {n : Nat} {h : AH} {cells slots : Nat} {a : Nat} {fs : List Value} {v : Value} (ho : M.1.cls = RX6) (hd : decode M.2.1 pc = .ok (.getfield 107, 3)) (he : h a = some (.inr (2, fs))) (hv : fs[2]? = some v) (kk : V l G M rc rs Fz (pc + 3) ls (v :: st) n h cells slots) : V l G M rc rs Fz pc ls (.ref a :: st) n h cells slots :=
  v_getf (k := 2) (C := RX1) (T := TX1) (N := 10) hd he rfl inX1 (by decide) (by rw [ho]; exact q1_143) hv kk
theorem fX6_111 {l : Launch} {G : vG} {M : vM} {rc rs : Nat} {Fz : vFin} {pc : Nat} {ls : List (Option Value)} {st : List Value} {n : Nat} {h : AH} {cells slots : Nat} {a : Nat} {fs : List Value} {v : Value} (ho : M.1.cls = RX6) (hd : decode M.2.1 pc = .ok (.getfield 111, 3)) (he : h a = some (.inr (1, fs))) (hv : fs[1]? = some v) (kk : V l G M rc rs Fz (pc + 3) ls (v :: st) n h cells slots) : V l G M rc rs Fz pc ls (.ref a :: st) n h cells slots :=
  v_getf (k := 1) (C := RX0) (T := TX0) (N := 5) hd he rfl inX0 (by decide) (by rw [ho]; exact q1_116) hv kk
theorem fX6_120 {l : Launch} {G : vG} {M : vM} {rc rs : Nat} {Fz : vFin} {pc : Nat} {ls : List (Option Value)} {st : List Value} {n : Nat} {h : AH} {cells slots : Nat} {a : Nat} {fs : List Value} {v : Value} (ho : M.1.cls = RX6) (hd : decode M.2.1 pc = .ok (.getfield 120, 3)) (he : h a = some (.inr (3, fs))) (hv : fs[5]? = some v) (kk : V l G M rc rs Fz (pc + 3) ls (v :: st) n h cells slots) : V l G M rc rs Fz pc ls (.ref a :: st) n h cells slots :=
  v_getf (k := 5) (C := RX2) (T := TX2) (N := 7) hd he rfl inX2 (by decide) (by rw [ho]; exact q1_55) hv kk
theorem fX6_123 {l : Launch} {G : vG} {M : vM} {rc rs : Nat} {Fz : vFin} {pc : Nat} {ls : List (Option Value)} {st : List Value} {n : Nat} {h : AH} {cells slots : Nat} {a : Nat} {fs : List Value} {v : Value} (ho : M.1.cls = RX6) (hd : decode M.2.1 pc = .ok (.getfield 123, 3)) (he : h a = some (.inr (3, fs))) (hv : fs[6]? = some v) (kk : V l G M rc rs Fz (pc + 3) ls (v :: st) n h cells slots) : V l G M rc rs Fz pc ls (.ref a :: st) n h cells slots :=
  v_getf (k := 6) (C := RX2) (T := TX2) (N := 7) hd he rfl inX2 (by decide) (by rw [ho]; exact q1_58) hv kk
theorem fX6_126 {l : Launch} {G : vG} {M : vM} {rc rs : Nat} {Fz : vFin} {pc : Nat} {ls : List (Option Value)} {st : List Value} {n : Nat} {h : AH} {cells slots : Nat} {a : Nat} {fs : List Value} {v : Value} (ho : M.1.cls = RX6) (hd : decode M.2.1 pc = .ok (.getfield 126, 3)) (he : h a = some (.inr (2, fs))) (hv : fs[1]? = some v) (kk : V l G M rc rs Fz (pc + 3) ls (v :: st) n h cells slots) : V l G M rc rs Fz pc ls (.ref a :: st) n h cells slots :=
  v_getf (k := 1) (C := RX1) (T := TX1) (N := 10) hd he rfl inX1 (by decide) (by rw [ho]; exact q1_141) hv kk
theorem fX6_133 {l : Launch} {G : vG} {M : vM} {rc rs : Nat} {Fz : vFin} {pc : Nat} {ls : List (Option Value)} {st : List Value} {n : Nat} {h : AH} {cells slots : Nat} {a : Nat} {fs : List Value} {v : Value} (ho : M.1.cls = RX6) (hd : decode M.2.1 pc = .ok (.getfield 133, 3)) (he : h a = some (.inr (5, fs))) (hv : fs[1]? = some v) (kk : V l G M rc rs Fz (pc + 3) ls (v :: st) n h cells slots) : V l G M rc rs Fz pc ls (.ref a :: st) n h cells slots :=
  v_getf (k := 1) (C := RX4) (T := TX4) (N := 5) hd he rfl inX4 (by decide) (by rw [ho]; exact q1_86) hv kk
theorem fX6_139 {l : Launch} {G : vG} {M : vM} {rc rs : Nat} {Fz : vFin} {pc : Nat} {ls : List (Option Value)} {st : List Value} {n : Nat} {h : AH} {cells slots : Nat} {a : Nat} {fs : List Value} {v : Value} (ho : M.1.cls = RX6) (hd : decode M.2.1 pc = .ok (.getfield 139, 3)) (he : h a = some (.inr (5, fs))) (hv : fs[2]? = some v) (kk : V l G M rc rs Fz (pc + 3) ls (v :: st) n h cells slots) : V l G M rc rs Fz pc ls (.ref a :: st) n h cells slots :=
  v_getf (k := 2) (C := RX4) (T := TX4) (N := 5) hd he rfl inX4 (by decide) (by rw [ho]; exact q1_90) hv kk
theorem fX6_142 {l : Launch} {G : vG} {M : vM} {rc rs : Nat} {Fz : vFin} {pc : Nat} {ls : List (Option Value)} {st : List Value} {n : Nat} {h : AH} {cells slots : Nat} {a : Nat} {fs : List Value} {v : Value} (ho : M.1.cls = RX6) (hd : decode M.2.1 pc = .ok (.getfield 142, 3)) (he : h a = some (.inr (5, fs))) (hv : fs[3]? = some v) (kk : V l G M rc rs Fz (pc + 3) ls (v :: st) n h cells slots) : V l G M rc rs Fz pc ls (.ref a :: st) n h cells slots :=
  v_getf (k := 3) (C := RX4) (T := TX4) (N := 5) hd he rfl inX4 (by decide) (by rw [ho]; exact q1_93) hv kk
theorem fX6_145 {l : Launch} {G : vG} {M : vM} {rc rs : Nat} {Fz : vFin} {pc : Nat} {ls : List (Option Value)} {st : List Value} {n : Nat} {h : AH} {cells slots : Nat} {a : Nat} {fs : List Value} {v : Value} (ho : M.1.cls = RX6) (hd : decode M.2.1 pc = .ok (.getfield 145, 3)) (he : h a = some (.inr (2, fs))) (hv : fs[5]? = some v) (kk : V l G M rc rs Fz (pc + 3) ls (v :: st) n h cells slots) : V l G M rc rs Fz pc ls (.ref a :: st) n h cells slots :=
  v_getf (k := 5) (C := RX1) (T := TX1) (N := 10) hd he rfl inX1 (by decide) (by rw [ho]; exact q1_149) hv kk
theorem pX6_145 {l : Launch} {G : vG} {M : vM} {rc rs : Nat} {Fz : vFin} {pc : Nat} {ls : List (Option Value)} {st : List Value} {n : Nat} {h : AH} {cells slots : Nat} {a : Nat} {fs : List Value} {x : Int32} (ho : M.1.cls = RX6)  (hd : decode M.2.1 pc = .ok (.putfield 145, 3)) (he : h a = some (.inr (2, fs))) (hl : 5 < fs.length)  (kk : V l G M rc rs Fz (pc + 3) ls (st) n (va_up h a (some (.inr (2, fs.set 5 (.int x))))) cells slots) : V l G M rc rs Fz pc ls (.int x :: .ref a :: st) n h cells slots :=
  v_putf (k := 5) (C := RX1) (T := TX1) (N := 10) hd he rfl inX1 tyX1 tyX1_ok nmX1 (by decide) (by rw [ho]; exact q1_149) (Or.inl rfl) rfl rfl hl kk
theorem fX6_151 {l : Launch} {G : vG} {M : vM} {rc rs : Nat} {Fz : vFin} {pc : Nat} {ls : List (Option Value)} {st : List Value} {n : Nat} {h : AH} {cells slots : Nat} {a : Nat} {fs : List Value} {v : Value} (ho : M.1.cls = RX6) (hd : decode M.2.1 pc = .ok (.getfield 151, 3)) (he : h a = some (.inr (1, fs))) (hv : fs[2]? = some v) (kk : V l G M rc rs Fz (pc + 3) ls (v :: st) n h cells slots) : V l G M rc rs Fz pc ls (.ref a :: st) n h cells slots :=
  v_getf (k := 2) (C := RX0) (T := TX0) (N := 5) hd he rfl inX0 (by decide) (by rw [ho]; exact q1_119) hv kk
theorem fX6_161 {l : Launch} {G : vG} {M : vM} {rc rs : Nat} {Fz : vFin} {pc : Nat} {ls : List (Option Value)} {st : List Value} {n : Nat} {h : AH} {cells slots : Nat} {a : Nat} {fs : List Value} {v : Value} (ho : M.1.cls = RX6) (hd : decode M.2.1 pc = .ok (.getfield 161, 3)) (he : h a = some (.inr (2, fs))) (hv : fs[3]? = some v) (kk : V l G M rc rs Fz (pc + 3) ls (v :: st) n h cells slots) : V l G M rc rs Fz pc ls (.ref a :: st) n h cells slots :=
  v_getf (k := 3) (C := RX1) (T := TX1) (N := 10) hd he rfl inX1 (by decide) (by rw [ho]; exact q1_145) hv kk
theorem fX6_167 {l : Launch} {G : vG} {M : vM} {rc rs : Nat} {Fz : vFin} {pc : Nat} {ls : List (Option Value)} {st : List Value} {n : Nat} {h : AH} {cells slots : Nat} {a : Nat} {fs : List Value} {v : Value} (ho : M.1.cls = RX6) (hd : decode M.2.1 pc = .ok (.getfield 167, 3)) (he : h a = some (.inr (2, fs))) (hv : fs[4]? = some v) (kk : V l G M rc rs Fz (pc + 3) ls (v :: st) n h cells slots) : V l G M rc rs Fz pc ls (.ref a :: st) n h cells slots :=
  v_getf (k := 4) (C := RX1) (T := TX1) (N := 10) hd he rfl inX1 (by decide) (by rw [ho]; exact q1_147) hv kk
theorem fX6_170 {l : Launch} {G : vG} {M : vM} {rc rs : Nat} {Fz : vFin} {pc : Nat} {ls : List (Option Value)} {st : List Value} {n : Nat} {h : AH} {cells slots : Nat} {a : Nat} {fs : List Value} {v : Value} (ho : M.1.cls = RX6) (hd : decode M.2.1 pc = .ok (.getfield 170, 3)) (he : h a = some (.inr (1, fs))) (hv : fs[3]? = some v) (kk : V l G M rc rs Fz (pc + 3) ls (v :: st) n h cells slots) : V l G M rc rs Fz pc ls (.ref a :: st) n h cells slots :=
  v_getf (k := 3) (C := RX0) (T := TX0) (N := 5) hd he rfl inX0 (by decide) (by rw [ho]; exact q1_122) hv kk
theorem fX6_187 {l : Launch} {G : vG} {M : vM} {rc rs : Nat} {Fz : vFin} {pc : Nat} {ls : List (Option Value)} {st : List Value} {n : Nat} {h : AH} {cells slots : Nat} {a : Nat} {fs : List Value} {v : Value} (ho : M.1.cls = RX6) (hd : decode M.2.1 pc = .ok (.getfield 187, 3)) (he : h a = some (.inr (1, fs))) (hv : fs[0]? = some v) (kk : V l G M rc rs Fz (pc + 3) ls (v :: st) n h cells slots) : V l G M rc rs Fz pc ls (.ref a :: st) n h cells slots :=
  v_getf (k := 0) (C := RX0) (T := TX0) (N := 5) hd he rfl inX0 (by decide) (by rw [ho]; exact q1_114) hv kk
theorem fX6_190 {l : Launch} {G : vG} {M : vM} {rc rs : Nat} {Fz : vFin} {pc : Nat} {ls : List (Option Value)} {st : List Value} {n : Nat} {h : AH} {cells slots : Nat} {a : Nat} {fs : List Value} {v : Value} (ho : M.1.cls = RX6) (hd : decode M.2.1 pc = .ok (.getfield 190, 3)) (he : h a = some (.inr (1, fs))) (hv : fs[4]? = some v) (kk : V l G M rc rs Fz (pc + 3) ls (v :: st) n h cells slots) : V l G M rc rs Fz pc ls (.ref a :: st) n h cells slots :=
  v_getf (k := 4) (C := RX0) (T := TX0) (N := 5) hd he rfl inX0 (by decide) (by rw [ho]; exact q1_126) hv kk
theorem fX6_218 {l : Launch} {G : vG} {M : vM} {rc rs : Nat} {Fz : vFin} {pc : Nat} {ls : List (Option Value)} {st : List Value} {n : Nat} {h : AH} {cells slots : Nat} {a : Nat} {fs : List Value} {v : Value} (ho : M.1.cls = RX6) (hd : decode M.2.1 pc = .ok (.getfield 218, 3)) (he : h a = some (.inr (6, fs))) (hv : fs[0]? = some v) (kk : V l G M rc rs Fz (pc + 3) ls (v :: st) n h cells slots) : V l G M rc rs Fz pc ls (.ref a :: st) n h cells slots :=
  v_getf (k := 0) (C := RX5) (T := TX5) (N := 6) hd he rfl inX5 (by decide) (by rw [ho]; exact q1_239) hv kk
theorem fX6_236 {l : Launch} {G : vG} {M : vM} {rc rs : Nat} {Fz : vFin} {pc : Nat} {ls : List (Option Value)} {st : List Value} {n : Nat} {h : AH} {cells slots : Nat} {a : Nat} {fs : List Value} {v : Value} (ho : M.1.cls = RX6) (hd : decode M.2.1 pc = .ok (.getfield 236, 3)) (he : h a = some (.inr (6, fs))) (hv : fs[2]? = some v) (kk : V l G M rc rs Fz (pc + 3) ls (v :: st) n h cells slots) : V l G M rc rs Fz pc ls (.ref a :: st) n h cells slots :=
  v_getf (k := 2) (C := RX5) (T := TX5) (N := 6) hd he rfl inX5 (by decide) (by rw [ho]; exact q2_3) hv kk
theorem fX6_239 {l : Launch} {G : vG} {M : vM} {rc rs : Nat} {Fz : vFin} {pc : Nat} {ls : List (Option Value)} {st : List Value} {n : Nat} {h : AH} {cells slots : Nat} {a : Nat} {fs : List Value} {v : Value} (ho : M.1.cls = RX6) (hd : decode M.2.1 pc = .ok (.getfield 239, 3)) (he : h a = some (.inr (6, fs))) (hv : fs[1]? = some v) (kk : V l G M rc rs Fz (pc + 3) ls (v :: st) n h cells slots) : V l G M rc rs Fz pc ls (.ref a :: st) n h cells slots :=
  v_getf (k := 1) (C := RX5) (T := TX5) (N := 6) hd he rfl inX5 (by decide) (by rw [ho]; exact q2_1) hv kk
theorem fX6_257 {l : Launch} {G : vG} {M : vM} {rc rs : Nat} {Fz : vFin} {pc : Nat} {ls : List (Option Value)} {st : List Value} {n : Nat} {h : AH} {cells slots : Nat} {a : Nat} {fs : List Value} {v : Value} (ho : M.1.cls = RX6) (hd : decode M.2.1 pc = .ok (.getfield 257, 3)) (he : h a = some (.inr (3, fs))) (hv : fs[0]? = some v) (kk : V l G M rc rs Fz (pc + 3) ls (v :: st) n h cells slots) : V l G M rc rs Fz pc ls (.ref a :: st) n h cells slots :=
  v_getf (k := 0) (C := RX2) (T := TX2) (N := 7) hd he rfl inX2 (by decide) (by rw [ho]; exact q1_41) hv kk
theorem fX6_258 {l : Launch} {G : vG} {M : vM} {rc rs : Nat} {Fz : vFin} {pc : Nat} {ls : List (Option Value)} {st : List Value} {n : Nat} {h : AH} {cells slots : Nat} {a : Nat} {fs : List Value} {v : Value} (ho : M.1.cls = RX6) (hd : decode M.2.1 pc = .ok (.getfield 258, 3)) (he : h a = some (.inr (5, fs))) (hv : fs[0]? = some v) (kk : V l G M rc rs Fz (pc + 3) ls (v :: st) n h cells slots) : V l G M rc rs Fz pc ls (.ref a :: st) n h cells slots :=
  v_getf (k := 0) (C := RX4) (T := TX4) (N := 5) hd he rfl inX4 (by decide) (by rw [ho]; exact q1_84) hv kk
theorem fX6_259 {l : Launch} {G : vG} {M : vM} {rc rs : Nat} {Fz : vFin} {pc : Nat} {ls : List (Option Value)} {st : List Value} {n : Nat} {h : AH} {cells slots : Nat} {a : Nat} {fs : List Value} {v : Value} (ho : M.1.cls = RX6) (hd : decode M.2.1 pc = .ok (.getfield 259, 3)) (he : h a = some (.inr (2, fs))) (hv : fs[6]? = some v) (kk : V l G M rc rs Fz (pc + 3) ls (v :: st) n h cells slots) : V l G M rc rs Fz pc ls (.ref a :: st) n h cells slots :=
  v_getf (k := 6) (C := RX1) (T := TX1) (N := 10) hd he rfl inX1 (by decide) (by rw [ho]; exact q1_151) hv kk
theorem pX6_259 {l : Launch} {G : vG} {M : vM} {rc rs : Nat} {Fz : vFin} {pc : Nat} {ls : List (Option Value)} {st : List Value} {n : Nat} {h : AH} {cells slots : Nat} {a : Nat} {fs : List Value} {x : Int32} (ho : M.1.cls = RX6)  (hd : decode M.2.1 pc = .ok (.putfield 259, 3)) (he : h a = some (.inr (2, fs))) (hl : 6 < fs.length)  (kk : V l G M rc rs Fz (pc + 3) ls (st) n (va_up h a (some (.inr (2, fs.set 6 (.int x))))) cells slots) : V l G M rc rs Fz pc ls (.int x :: .ref a :: st) n h cells slots :=
  v_putf (k := 6) (C := RX1) (T := TX1) (N := 10) hd he rfl inX1 tyX1 tyX1_ok nmX1 (by decide) (by rw [ho]; exact q1_151) (Or.inl rfl) rfl rfl hl kk
theorem fX6_262 {l : Launch} {G : vG} {M : vM} {rc rs : Nat} {Fz : vFin} {pc : Nat} {ls : List (Option Value)} {st : List Value} {n : Nat} {h : AH} {cells slots : Nat} {a : Nat} {fs : List Value} {v : Value} (ho : M.1.cls = RX6) (hd : decode M.2.1 pc = .ok (.getfield 262, 3)) (he : h a = some (.inr (2, fs))) (hv : fs[7]? = some v) (kk : V l G M rc rs Fz (pc + 3) ls (v :: st) n h cells slots) : V l G M rc rs Fz pc ls (.ref a :: st) n h cells slots :=
  v_getf (k := 7) (C := RX1) (T := TX1) (N := 10) hd he rfl inX1 (by decide) (by rw [ho]; exact q1_153) hv kk
theorem fX6_265 {l : Launch} {G : vG} {M : vM} {rc rs : Nat} {Fz : vFin} {pc : Nat} {ls : List (Option Value)} {st : List Value} {n : Nat} {h : AH} {cells slots : Nat} {a : Nat} {fs : List Value} {v : Value} (ho : M.1.cls = RX6) (hd : decode M.2.1 pc = .ok (.getfield 265, 3)) (he : h a = some (.inr (2, fs))) (hv : fs[8]? = some v) (kk : V l G M rc rs Fz (pc + 3) ls (v :: st) n h cells slots) : V l G M rc rs Fz pc ls (.ref a :: st) n h cells slots :=
  v_getf (k := 8) (C := RX1) (T := TX1) (N := 10) hd he rfl inX1 (by decide) (by rw [ho]; exact q1_155) hv kk
theorem fX6_268 {l : Launch} {G : vG} {M : vM} {rc rs : Nat} {Fz : vFin} {pc : Nat} {ls : List (Option Value)} {st : List Value} {n : Nat} {h : AH} {cells slots : Nat} {a : Nat} {fs : List Value} {v : Value} (ho : M.1.cls = RX6) (hd : decode M.2.1 pc = .ok (.getfield 268, 3)) (he : h a = some (.inr (2, fs))) (hv : fs[9]? = some v) (kk : V l G M rc rs Fz (pc + 3) ls (v :: st) n h cells slots) : V l G M rc rs Fz pc ls (.ref a :: st) n h cells slots :=
  v_getf (k := 9) (C := RX1) (T := TX1) (N := 10) hd he rfl inX1 (by decide) (by rw [ho]; exact q1_157) hv kk
theorem fX6_274 {l : Launch} {G : vG} {M : vM} {rc rs : Nat} {Fz : vFin} {pc : Nat} {ls : List (Option Value)} {st : List Value} {n : Nat} {h : AH} {cells slots : Nat} {a : Nat} {fs : List Value} {v : Value} (ho : M.1.cls = RX6) (hd : decode M.2.1 pc = .ok (.getfield 274, 3)) (he : h a = some (.inr (4, fs))) (hv : fs[0]? = some v) (kk : V l G M rc rs Fz (pc + 3) ls (v :: st) n h cells slots) : V l G M rc rs Fz pc ls (.ref a :: st) n h cells slots :=
  v_getf (k := 0) (C := RX3) (T := TX3) (N := 3) hd he rfl inX3 (by decide) (by rw [ho]; exact q1_189) hv kk
theorem fX7_7 {l : Launch} {G : vG} {M : vM} {rc rs : Nat} {Fz : vFin} {pc : Nat} {ls : List (Option Value)} {st : List Value} {n : Nat} {h : AH} {cells slots : Nat} {a : Nat} {fs : List Value} {v : Value} (ho : M.1.cls = RX7) (hd : decode M.2.1 pc = .ok (.getfield 7, 3)) (he : h a = some (.inr (8, fs))) (hv : fs[0]? = some v) (kk : V l G M rc rs Fz (pc + 3) ls (v :: st) n h cells slots) : V l G M rc rs Fz pc ls (.ref a :: st) n h cells slots :=
  v_getf (k := 0) (C := RX7) (T := TX7) (N := 1) hd he rfl inX7 (by decide) (by rw [ho]; exact q4_61) hv kk
theorem pX7_7 {l : Launch} {G : vG} {M : vM} {rc rs : Nat} {Fz : vFin} {pc : Nat} {ls : List (Option Value)} {st : List Value} {n : Nat} {h : AH} {cells slots : Nat} {a : Nat} {fs : List Value} {x : Int32} (ho : M.1.cls = RX7)  (hd : decode M.2.1 pc = .ok (.putfield 7, 3)) (he : h a = some (.inr (8, fs))) (hl : 0 < fs.length)  (kk : V l G M rc rs Fz (pc + 3) ls (st) n (va_up h a (some (.inr (8, fs.set 0 (.int x))))) cells slots) : V l G M rc rs Fz pc ls (.int x :: .ref a :: st) n h cells slots :=
  v_putf (k := 0) (C := RX7) (T := TX7) (N := 1) hd he rfl inX7 tyX7 tyX7_ok nmX7 (by decide) (by rw [ho]; exact q4_61) (Or.inl rfl) rfl rfl hl kk
abbrev mJ0_charAt_5068e : vM := (yJ0_charAt_5068e, cJ0_charAt_5068e, 2, (some (.char)), 4, 85)
abbrev mJ0_checkBoundsBeginEnd_23922 : vM := (yJ0_checkBoundsBeginEnd_23922, cJ0_checkBoundsBeginEnd_23922, 3, none, 1, 23)
abbrev mJ0_checkBoundsOffCount_cabcc : vM := (yJ0_checkBoundsOffCount_cabcc, cJ0_checkBoundsOffCount_cabcc, 3, (some (.int)), 1, 23)
abbrev mJ0_checkIndex_df160 : vM := (yJ0_checkIndex_df160, cJ0_checkIndex_df160, 2, none, 1, 22)
abbrev mJ0_coder_7d493 : vM := (yJ0_coder_7d493, cJ0_coder_7d493, 1, (some (.byte)), 0, 0)
abbrev mJ0_equals_9ea2d : vM := (yJ0_equals_9ea2d, cJ0_equals_9ea2d, 3, (some (.boolean)), 1, 22)
abbrev mJ0_getBytes_840e7 : vM := (yJ0_getBytes_840e7, cJ0_getBytes_840e7, 4, none, 5, 116)
abbrev mJ0_init_81219 : vM := (yJ0_init_81219, cJ0_init_81219, 2, none, 6, 142)
abbrev mJ0_init_db425 : vM := (yJ0_init_db425, cJ0_init_db425, 5, none, 5, 118)
abbrev mJ0_isEmpty_aae02 : vM := (yJ0_isEmpty_aae02, cJ0_isEmpty_aae02, 1, (some (.boolean)), 0, 0)
abbrev mJ0_isLatin1_aae02 : vM := (yJ0_isLatin1_aae02, cJ0_isLatin1_aae02, 1, (some (.boolean)), 0, 0)
abbrev mJ0_length_8abf5 : vM := (yJ0_length_8abf5, cJ0_length_8abf5, 1, (some (.int)), 1, 20)
abbrev mJ1_canEncode_fc78d : vM := (yJ1_canEncode_fc78d, cJ1_canEncode_fc78d, 1, (some (.boolean)), 0, 0)
abbrev mJ1_charAt_3b067 : vM := (yJ1_charAt_3b067, cJ1_charAt_3b067, 2, (some (.char)), 2, 43)
abbrev mJ1_equals_b5fdf : vM := (yJ1_equals_b5fdf, cJ1_equals_b5fdf, 3, (some (.boolean)), 0, 0)
abbrev mJ1_fillNull_b72d1 : vM := (yJ1_fillNull_b72d1, cJ1_fillNull_b72d1, 3, none, 2, 46)
abbrev mJ1_inflate_0e8fd : vM := (yJ1_inflate_0e8fd, cJ1_inflate_0e8fd, 5, none, 4, 92)
abbrev mJ2_charAt_3b067 : vM := (yJ2_charAt_3b067, cJ2_charAt_3b067, 2, (some (.char)), 3, 64)
abbrev mJ2_checkBoundsBeginEnd_d044e : vM := (yJ2_checkBoundsBeginEnd_d044e, cJ2_checkBoundsBeginEnd_d044e, 3, none, 2, 45)
abbrev mJ2_checkBoundsOffCount_d044e : vM := (yJ2_checkBoundsOffCount_d044e, cJ2_checkBoundsOffCount_d044e, 3, none, 2, 45)
abbrev mJ2_checkIndex_2214a : vM := (yJ2_checkIndex_2214a, cJ2_checkIndex_2214a, 2, none, 2, 43)
abbrev mJ2_coderFromArrayLen_85cad : vM := (yJ2_coderFromArrayLen_85cad, cJ2_coderFromArrayLen_85cad, 2, (some (.byte)), 0, 0)
abbrev mJ2_compress_39247 : vM := (yJ2_compress_39247, cJ2_compress_39247, 6, (some ((.array .byte))), 4, 93)
abbrev mJ2_compress_5af95 : vM := (yJ2_compress_5af95, cJ2_compress_5af95, 7, (some (.int)), 3, 67)
abbrev mJ2_fillNull_b72d1 : vM := (yJ2_fillNull_b72d1, cJ2_fillNull_b72d1, 3, none, 2, 46)
abbrev mJ2_getChar_3b067 : vM := (yJ2_getChar_3b067, cJ2_getChar_3b067, 2, (some (.char)), 1, 20)
abbrev mJ2_getChars_46870 : vM := (yJ2_getChars_46870, cJ2_getChars_46870, 5, (some (.int)), 3, 68)
abbrev mJ2_getChars_ba4f3 : vM := (yJ2_getChars_ba4f3, cJ2_getChars_ba4f3, 7, (some (.int)), 2, 42)
abbrev mJ2_inflate_0e8fd : vM := (yJ2_inflate_0e8fd, cJ2_inflate_0e8fd, 6, none, 3, 67)
abbrev mJ2_length_9d52b : vM := (yJ2_length_9d52b, cJ2_length_9d52b, 1, (some (.int)), 0, 0)
abbrev mJ2_newBytesFor_77867 : vM := (yJ2_newBytesFor_77867, cJ2_newBytesFor_77867, 1, (some ((.array .byte))), 1, 20)
abbrev mJ2_newBytesLength_0f7a4 : vM := (yJ2_newBytesLength_0f7a4, cJ2_newBytesLength_0f7a4, 1, (some (.int)), 0, 0)
abbrev mJ2_putCharSB_b72d1 : vM := (yJ2_putCharSB_b72d1, cJ2_putCharSB_b72d1, 3, none, 3, 64)
abbrev mJ2_putChar_b72d1 : vM := (yJ2_putChar_b72d1, cJ2_putChar_b72d1, 3, none, 1, 20)
abbrev mJ2_putCharsAt_cd4e5 : vM := (yJ2_putCharsAt_cd4e5, cJ2_putCharsAt_cd4e5, 7, (some (.int)), 3, 67)
abbrev mJ3_checkFromIndexSize_8c36e : vM := (yJ3_checkFromIndexSize_8c36e, cJ3_checkFromIndexSize_8c36e, 4, (some (.int)), 0, 0)
abbrev mJ3_checkFromToIndex_8c36e : vM := (yJ3_checkFromToIndex_8c36e, cJ3_checkFromToIndex_8c36e, 4, (some (.int)), 0, 0)
abbrev mJ3_checkIndex_8e157 : vM := (yJ3_checkIndex_8e157, cJ3_checkIndex_8e157, 3, (some (.int)), 0, 0)
abbrev mJ4_append_15ec4 : vM := (yJ4_append_15ec4, cJ4_append_15ec4, 2, (some ((.object "java/lang/StringBuilder"))), 9, 202)
abbrev mJ4_append_bf812 : vM := (yJ4_append_bf812, cJ4_append_bf812, 2, (some ((.object "java/lang/StringBuilder"))), 5, 115)
abbrev mJ4_append_cf468 : vM := (yJ4_append_cf468, cJ4_append_cf468, 2, (some ((.object "java/lang/StringBuilder"))), 7, 158)
abbrev mJ4_charAt_5068e : vM := (yJ4_charAt_5068e, cJ4_charAt_5068e, 2, (some (.char)), 3, 67)
abbrev mJ4_init_da8c8 : vM := (yJ4_init_da8c8, cJ4_init_da8c8, 1, none, 3, 61)
abbrev mJ4_length_8abf5 : vM := (yJ4_length_8abf5, cJ4_length_8abf5, 1, (some (.int)), 1, 20)
abbrev mJ4_setLength_d00df : vM := (yJ4_setLength_d00df, cJ4_setLength_d00df, 2, none, 5, 113)
abbrev mJ4_toString_0e30d : vM := (yJ4_toString_0e30d, cJ4_toString_0e30d, 1, (some ((.object "java/lang/String"))), 7, 163)
abbrev mJ5_appendNull_278bc : vM := (yJ5_appendNull_278bc, cJ5_appendNull_278bc, 3, (some ((.object "java/lang/AbstractStringBuilder"))), 4, 93)
abbrev mJ5_append_3fe6f : vM := (yJ5_append_3fe6f, cJ5_append_3fe6f, 2, (some ((.object "java/lang/AbstractStringBuilder"))), 6, 137)
abbrev mJ5_append_c97b9 : vM := (yJ5_append_c97b9, cJ5_append_c97b9, 4, (some ((.object "java/lang/AbstractStringBuilder"))), 4, 92)
abbrev mJ5_append_cf1ce : vM := (yJ5_append_cf1ce, cJ5_append_cf1ce, 3, (some ((.object "java/lang/AbstractStringBuilder"))), 8, 180)
abbrev mJ5_charAt_5068e : vM := (yJ5_charAt_5068e, cJ5_charAt_5068e, 5, (some (.char)), 2, 43)
abbrev mJ5_ensureCapacityInternal_d00df : vM := (yJ5_ensureCapacityInternal_d00df, cJ5_ensureCapacityInternal_d00df, 3, none, 3, 70)
abbrev mJ5_getValue_6d5f1 : vM := (yJ5_getValue_6d5f1, cJ5_getValue_6d5f1, 1, (some ((.array .byte))), 0, 0)
abbrev mJ5_inflateIfNeededFor_a7421 : vM := (yJ5_inflateIfNeededFor_a7421, cJ5_inflateIfNeededFor_a7421, 2, none, 6, 137)
abbrev mJ5_inflate_da8c8 : vM := (yJ5_inflate_da8c8, cJ5_inflate_da8c8, 2, none, 5, 116)
abbrev mJ5_init_d00df : vM := (yJ5_init_d00df, cJ5_init_d00df, 2, none, 2, 40)
abbrev mJ5_isLatin1_aae02 : vM := (yJ5_isLatin1_aae02, cJ5_isLatin1_aae02, 1, (some (.boolean)), 0, 0)
abbrev mJ5_length_8abf5 : vM := (yJ5_length_8abf5, cJ5_length_8abf5, 1, (some (.int)), 0, 0)
abbrev mJ5_newCapacity_0f7a4 : vM := (yJ5_newCapacity_0f7a4, cJ5_newCapacity_0f7a4, 6, (some (.int)), 2, 45)
abbrev mJ5_putStringAt_47b60 : vM := (yJ5_putStringAt_47b60, cJ5_putStringAt_47b60, 3, none, 7, 158)
abbrev mJ5_setLength_d00df : vM := (yJ5_setLength_d00df, cJ5_setLength_d00df, 2, none, 4, 92)
abbrev mJ6_getChars_ba4f3 : vM := (yJ6_getChars_ba4f3, cJ6_getChars_ba4f3, 7, (some (.int)), 0, 0)
abbrev mJ6_stringSize_0f7a4 : vM := (yJ6_stringSize_0f7a4, cJ6_stringSize_0f7a4, 4, (some (.int)), 0, 0)
abbrev mJ7_checkLength_df160 : vM := (yJ7_checkLength_df160, cJ7_checkLength_df160, 2, none, 0, 0)
abbrev mJ7_copyOfRangeByte_39247 : vM := (yJ7_copyOfRangeByte_39247, cJ7_copyOfRangeByte_39247, 5, (some ((.array .byte))), 1, 27)
abbrev mJ7_copyOfRange_39247 : vM := (yJ7_copyOfRange_39247, cJ7_copyOfRange_39247, 3, (some ((.array .byte))), 2, 51)
abbrev mJ7_copyOf_9075b : vM := (yJ7_copyOf_9075b, cJ7_copyOf_9075b, 3, (some ((.array .byte))), 1, 27)
abbrev mJ7_fill_eb02e : vM := (yJ7_fill_eb02e, cJ7_fill_eb02e, 5, none, 1, 22)
abbrev mJ7_rangeCheck_23922 : vM := (yJ7_rangeCheck_23922, cJ7_rangeCheck_23922, 3, none, 0, 0)
abbrev mJ8_hugeLength_7cf53 : vM := (yJ8_hugeLength_7cf53, cJ8_hugeLength_7cf53, 3, (some (.int)), 0, 0)
abbrev mJ8_newLength_cabcc : vM := (yJ8_newLength_cabcc, cJ8_newLength_cabcc, 4, (some (.int)), 1, 22)
abbrev mJ9_max_7cf53 : vM := (yJ9_max_7cf53, cJ9_max_7cf53, 2, (some (.int)), 0, 0)
abbrev mJ9_min_7cf53 : vM := (yJ9_min_7cf53, cJ9_min_7cf53, 2, (some (.int)), 0, 0)
abbrev mL_acts : vM := (yL_acts, cL_acts, 5, (some (.int)), 7, 156)
abbrev mL_bookings : vM := (yL_bookings, cL_bookings, 6, (some (.boolean)), 10, 223)
abbrev mL_cell : vM := (yL_cell, cL_cell, 2, (some (.int)), 0, 0)
abbrev mL_fools : vM := (yL_fools, cL_fools, 15, (some (.boolean)), 10, 223)
abbrev mL_foretold : vM := (yL_foretold, cL_foretold, 18, (some (.boolean)), 7, 152)
abbrev mL_jokes : vM := (yL_jokes, cL_jokes, 14, (some (.boolean)), 6, 135)
abbrev mL_laughs : vM := (yL_laughs, cL_laughs, 8, (some (.boolean)), 5, 119)
abbrev mL_line : vM := (yL_line, cL_line, 4, (some ((.object "java/lang/String"))), 8, 183)
abbrev mL_some : vM := (yL_some, cL_some, 2, (some (.int)), 1, 21)
abbrev mL_stock : vM := (yL_stock, cL_stock, 2, (some (.int)), 7, 156)
abbrev mL_told : vM := (yL_told, cL_told, 4, (some ((.object "java/lang/String"))), 10, 223)
abbrev mX0_init : vM := (yX0_init, cX0_init, 1, none, 1, 20)
abbrev mX0_insert : vM := (yX0_insert, cX0_insert, 7, none, 1, 22)
abbrev mX0_jokeOfFoolAt : vM := (yX0_jokeOfFoolAt, cX0_jokeOfFoolAt, 4, (some (.int)), 0, 0)
abbrev mX0_move : vM := (yX0_move, cX0_move, 3, none, 0, 0)
abbrev mX0_removeFirst : vM := (yX0_removeFirst, cX0_removeFirst, 2, none, 1, 22)
abbrev mX0_take : vM := (yX0_take, cX0_take, 2, none, 2, 48)
abbrev mX0_with : vM := (yX0_with, cX0_with, 5, (some (.int)), 0, 0)
abbrev mX1_bestByWit : vM := (yX1_bestByWit, cX1_bestByWit, 9, (some (.int)), 3, 69)
abbrev mX1_bestJokeByJoke : vM := (yX1_bestJokeByJoke, cX1_bestJokeByJoke, 7, (some (.int)), 3, 69)
abbrev mX1_carryFirstOut : vM := (yX1_carryFirstOut, cX1_carryFirstOut, 4, (some (.int)), 3, 70)
abbrev mX1_doesAnyEndAt : vM := (yX1_doesAnyEndAt, cX1_doesAnyEndAt, 3, (some (.boolean)), 0, 0)
abbrev mX1_endHourByHour : vM := (yX1_endHourByHour, cX1_endHourByHour, 2, (some (.int)), 1, 22)
abbrev mX1_endJokeByJoke : vM := (yX1_endJokeByJoke, cX1_endJokeByJoke, 3, (some (.int)), 1, 21)
abbrev mX1_gain : vM := (yX1_gain, cX1_gain, 4, none, 1, 21)
abbrev mX1_holds : vM := (yX1_holds, cX1_holds, 2, (some (.boolean)), 0, 0)
abbrev mX1_init : vM := (yX1_init, cX1_init, 1, none, 2, 40)
abbrev mX1_isAhead : vM := (yX1_isAhead, cX1_isAhead, 6, (some (.boolean)), 0, 0)
abbrev mX1_isBarred : vM := (yX1_isBarred, cX1_isBarred, 3, (some (.boolean)), 1, 21)
abbrev mX1_laughs : vM := (yX1_laughs, cX1_laughs, 5, (some (.int)), 1, 22)
abbrev mX1_laughsNow : vM := (yX1_laughsNow, cX1_laughsNow, 4, (some (.int)), 2, 46)
abbrev mX1_patents : vM := (yX1_patents, cX1_patents, 3, (some (.int)), 1, 21)
abbrev mX1_patentsOf : vM := (yX1_patentsOf, cX1_patentsOf, 4, (some (.int)), 1, 21)
abbrev mX1_payFine : vM := (yX1_payFine, cX1_payFine, 4, none, 2, 44)
abbrev mX1_payUnion : vM := (yX1_payUnion, cX1_payUnion, 4, (some (.int)), 1, 21)
abbrev mX1_perform : vM := (yX1_perform, cX1_perform, 5, (some (.int)), 2, 46)
abbrev mX1_placeFor : vM := (yX1_placeFor, cX1_placeFor, 5, (some (.int)), 1, 25)
abbrev mX1_take : vM := (yX1_take, cX1_take, 2, none, 3, 69)
abbrev mX2_add : vM := (yX2_add, cX2_add, 3, (some (.int)), 0, 0)
abbrev mX2_atRank : vM := (yX2_atRank, cX2_atRank, 3, (some (.int)), 2, 45)
abbrev mX2_countAhead : vM := (yX2_countAhead, cX2_countAhead, 4, (some (.int)), 1, 22)
abbrev mX2_has : vM := (yX2_has, cX2_has, 2, (some (.boolean)), 0, 0)
abbrev mX2_init : vM := (yX2_init, cX2_init, 1, none, 1, 20)
abbrev mX2_isAhead : vM := (yX2_isAhead, cX2_isAhead, 3, (some (.boolean)), 0, 0)
abbrev mX2_take : vM := (yX2_take, cX2_take, 2, none, 2, 48)
abbrev mX3_forgetAll : vM := (yX3_forgetAll, cX3_forgetAll, 1, none, 0, 0)
abbrev mX3_giveLatestBack : vM := (yX3_giveLatestBack, cX3_giveLatestBack, 2, none, 4, 90)
abbrev mX3_init : vM := (yX3_init, cX3_init, 2, none, 3, 60)
abbrev mX3_keep : vM := (yX3_keep, cX3_keep, 2, none, 4, 90)
abbrev mX4_add : vM := (yX4_add, cX4_add, 3, (some (.int)), 0, 0)
abbrev mX4_addTelling : vM := (yX4_addTelling, cX4_addTelling, 3, none, 0, 0)
abbrev mX4_atRank : vM := (yX4_atRank, cX4_atRank, 3, (some (.int)), 4, 92)
abbrev mX4_countAhead : vM := (yX4_countAhead, cX4_countAhead, 4, (some (.int)), 3, 69)
abbrev mX4_has : vM := (yX4_has, cX4_has, 2, (some (.boolean)), 0, 0)
abbrev mX4_init : vM := (yX4_init, cX4_init, 1, none, 1, 20)
abbrev mX4_isAhead : vM := (yX4_isAhead, cX4_isAhead, 5, (some (.boolean)), 2, 45)
abbrev mX4_take : vM := (yX4_take, cX4_take, 2, none, 2, 48)
abbrev mX4_tellings : vM := (yX4_tellings, cX4_tellings, 4, (some (.int)), 1, 22)
abbrev mX4_tellingsAt : vM := (yX4_tellingsAt, cX4_tellingsAt, 4, (some (.int)), 1, 22)
abbrev mX4_toldAt : vM := (yX4_toldAt, cX4_toldAt, 3, (some (.int)), 0, 0)
abbrev mX5_init : vM := (yX5_init, cX5_init, 1, none, 4, 81)
abbrev mX5_isDigitAhead : vM := (yX5_isDigitAhead, cX5_isDigitAhead, 1, (some (.boolean)), 4, 88)
abbrev mX5_keepNumber : vM := (yX5_keepNumber, cX5_keepNumber, 2, none, 0, 0)
abbrev mX5_letter : vM := (yX5_letter, cX5_letter, 2, (some (.char)), 0, 0)
abbrev mX5_number : vM := (yX5_number, cX5_number, 3, (some (.int)), 0, 0)
abbrev mX5_read : vM := (yX5_read, cX5_read, 1, (some (.boolean)), 8, 175)
abbrev mX5_readNumber : vM := (yX5_readNumber, cX5_readNumber, 4, (some (.boolean)), 5, 108)
abbrev mX5_readOrder : vM := (yX5_readOrder, cX5_readOrder, 4, (some (.boolean)), 7, 152)
abbrev mX5_readPart : vM := (yX5_readPart, cX5_readPart, 2, (some (.boolean)), 6, 131)
abbrev mX5_readPlusOrMinus : vM := (yX5_readPlusOrMinus, cX5_readPlusOrMinus, 1, (some (.boolean)), 5, 109)
abbrev mX5_readSign : vM := (yX5_readSign, cX5_readSign, 2, (some (.boolean)), 4, 88)
abbrev mX5_shapeOf : vM := (yX5_shapeOf, cX5_shapeOf, 1, (some ((.object "java/lang/String"))), 0, 0)
abbrev mX6_account : vM := (yX6_account, cX6_account, 2, (some (.int)), 2, 43)
abbrev mX6_admit : vM := (yX6_admit, cX6_admit, 2, (some (.int)), 1, 22)
abbrev mX6_areBestsTheSame : vM := (yX6_areBestsTheSame, cX6_areBestsTheSame, 3, (some (.boolean)), 4, 97)
abbrev mX6_areCoinsAccountedFor : vM := (yX6_areCoinsAccountedFor, cX6_areCoinsAccountedFor, 3, (some (.boolean)), 1, 25)
abbrev mX6_areTellingsAccountedFor : vM := (yX6_areTellingsAccountedFor, cX6_areTellingsAccountedFor, 3, (some (.boolean)), 2, 45)
abbrev mX6_audit : vM := (yX6_audit, cX6_audit, 2, (some (.int)), 6, 132)
abbrev mX6_best : vM := (yX6_best, cX6_best, 3, (some (.int)), 4, 95)
abbrev mX6_bestAgain : vM := (yX6_bestAgain, cX6_bestAgain, 3, (some (.int)), 4, 97)
abbrev mX6_book : vM := (yX6_book, cX6_book, 5, (some (.int)), 6, 132)
abbrev mX6_booking : vM := (yX6_booking, cX6_booking, 3, (some (.int)), 0, 0)
abbrev mX6_carryNextOut : vM := (yX6_carryNextOut, cX6_carryNextOut, 1, (some (.int)), 4, 93)
abbrev mX6_carryOrderOut : vM := (yX6_carryOrderOut, cX6_carryOrderOut, 6, (some (.int)), 5, 113)
abbrev mX6_character : vM := (yX6_character, cX6_character, 2, (some (.int)), 4, 88)
abbrev mX6_collect : vM := (yX6_collect, cX6_collect, 4, (some (.int)), 2, 44)
abbrev mX6_copy : vM := (yX6_copy, cX6_copy, 2, none, 1, 27)
abbrev mX6_cover : vM := (yX6_cover, cX6_cover, 2, (some (.int)), 2, 44)
abbrev mX6_elapse : vM := (yX6_elapse, cX6_elapse, 3, (some (.int)), 2, 43)
abbrev mX6_ends : vM := (yX6_ends, cX6_ends, 1, (some (.int)), 2, 43)
abbrev mX6_endsAgain : vM := (yX6_endsAgain, cX6_endsAgain, 1, (some (.int)), 2, 43)
abbrev mX6_exempt : vM := (yX6_exempt, cX6_exempt, 3, (some (.int)), 6, 132)
abbrev mX6_fool : vM := (yX6_fool, cX6_fool, 2, (some (.int)), 6, 132)
abbrev mX6_foolOf : vM := (yX6_foolOf, cX6_foolOf, 3, (some (.int)), 2, 44)
abbrev mX6_forecast : vM := (yX6_forecast, cX6_forecast, 2, (some (.int)), 4, 93)
abbrev mX6_grant : vM := (yX6_grant, cX6_grant, 5, (some (.int)), 2, 44)
abbrev mX6_init : vM := (yX6_init, cX6_init, 1, none, 5, 101)
abbrev mX6_insure : vM := (yX6_insure, cX6_insure, 2, (some (.int)), 6, 132)
abbrev mX6_invent : vM := (yX6_invent, cX6_invent, 2, (some (.int)), 1, 22)
abbrev mX6_isBalanced : vM := (yX6_isBalanced, cX6_isBalanced, 2, (some (.int)), 5, 119)
abbrev mX6_isThrone : vM := (yX6_isThrone, cX6_isThrone, 1, (some (.boolean)), 0, 0)
abbrev mX6_joke : vM := (yX6_joke, cX6_joke, 2, (some (.int)), 6, 132)
abbrev mX6_jokeOf : vM := (yX6_jokeOf, cX6_jokeOf, 3, (some (.int)), 2, 45)
abbrev mX6_meanWit : vM := (yX6_meanWit, cX6_meanWit, 1, (some (.double)), 1, 25)
abbrev mX6_next : vM := (yX6_next, cX6_next, 1, (some (.int)), 6, 132)
abbrev mX6_pass : vM := (yX6_pass, cX6_pass, 2, (some (.int)), 6, 132)
abbrev mX6_patent : vM := (yX6_patent, cX6_patent, 4, (some (.int)), 6, 132)
abbrev mX6_ranked : vM := (yX6_ranked, cX6_ranked, 2, (some (.int)), 3, 67)
abbrev mX6_reason : vM := (yX6_reason, cX6_reason, 2, (some (.int)), 0, 0)
abbrev mX6_refuse : vM := (yX6_refuse, cX6_refuse, 3, (some (.int)), 0, 0)
abbrev mX6_remember : vM := (yX6_remember, cX6_remember, 2, (some (.int)), 5, 111)
abbrev mX6_reserve : vM := (yX6_reserve, cX6_reserve, 7, (some (.int)), 2, 49)
abbrev mX6_restore : vM := (yX6_restore, cX6_restore, 1, (some (.int)), 4, 90)
abbrev mX6_run : vM := (yX6_run, cX6_run, 3, (some (.int)), 9, 195)
abbrev mX6_save : vM := (yX6_save, cX6_save, 1, (some (.int)), 4, 90)
abbrev mX6_setExempt : vM := (yX6_setExempt, cX6_setExempt, 3, (some (.int)), 1, 25)
abbrev mX6_slipShare : vM := (yX6_slipShare, cX6_slipShare, 2, (some (.float)), 1, 25)
abbrev mX6_stalest : vM := (yX6_stalest, cX6_stalest, 2, (some (.int)), 5, 114)
abbrev mX6_sum : vM := (yX6_sum, cX6_sum, 6, (some (.int)), 0, 0)
abbrev mX6_tell : vM := (yX6_tell, cX6_tell, 3, (some (.int)), 9, 201)
abbrev mX6_tellBookings : vM := (yX6_tellBookings, cX6_tellBookings, 2, (some (.int)), 9, 201)
abbrev mX6_throneOf : vM := (yX6_throneOf, cX6_throneOf, 3, (some (.int)), 2, 45)
abbrev mX6_told : vM := (yX6_told, cX6_told, 3, (some (.int)), 1, 22)
abbrev mX6_undo : vM := (yX6_undo, cX6_undo, 1, (some (.int)), 5, 111)
abbrev mX6_would : vM := (yX6_would, cX6_would, 4, (some (.int)), 3, 69)
abbrev mX6_write : vM := (yX6_write, cX6_write, 3, none, 8, 179)
abbrev mX7_init : vM := (yX7_init, cX7_init, 2, none, 1, 20)
abbrev mX7_next : vM := (yX7_next, cX7_next, 2, (some (.int)), 0, 0)
theorem wJ0_492 : cV RJ0 492 mJ0_isLatin1_aae02 0 := ⟨q3_106, q3_107, q3_108, q1_10, q3_109, ⟨by decide +kernel, by decide +kernel, by decide +kernel⟩⟩
theorem wJ0_495 : cS RJ0 495 mJ1_charAt_3b067 2 := ⟨q3_110, q3_111, q1_15, q3_112, ⟨by decide +kernel, by decide +kernel, by decide +kernel⟩⟩
theorem wJ0_498 : cS RJ0 498 mJ2_charAt_3b067 2 := ⟨q3_114, q3_115, q1_11, q3_116, ⟨by decide +kernel, by decide +kernel, by decide +kernel⟩⟩
theorem wJ0_1062 : cS RJ0 1062 mJ3_checkFromToIndex_8c36e 4 := ⟨q4_115, q4_116, q1_14, q4_117, ⟨by decide +kernel, by decide +kernel, by decide +kernel⟩⟩
theorem wJ0_1065 : cS RJ0 1065 mJ3_checkFromIndexSize_8c36e 4 := ⟨q4_152, q4_153, q1_14, q4_154, ⟨by decide +kernel, by decide +kernel, by decide +kernel⟩⟩
theorem wJ0_1059 : cS RJ0 1059 mJ3_checkIndex_8e157 3 := ⟨q3_61, q3_62, q1_14, q3_63, ⟨by decide +kernel, by decide +kernel, by decide +kernel⟩⟩
theorem wJ0_541 : cS RJ0 541 mJ1_equals_b5fdf 2 := ⟨q5_101, q5_102, q1_15, q5_103, ⟨by decide +kernel, by decide +kernel, by decide +kernel⟩⟩
theorem wJ0_335 : cV RJ0 335 mJ0_coder_7d493 0 := ⟨q3_97, q3_98, q3_99, q1_10, q3_100, ⟨by decide +kernel, by decide +kernel, by decide +kernel⟩⟩
theorem wJ0_106 : cS RJ0 106 mJ1_inflate_0e8fd 5 := ⟨q5_10, q4_141, q1_15, q4_142, ⟨by decide +kernel, by decide +kernel, by decide +kernel⟩⟩
theorem wJ0_489 : cI RJ0 489 mJ0_init_db425 2 := ⟨q4_180, q4_181, q1_10, q4_182, by decide +kernel, ⟨by decide +kernel, by decide +kernel, by decide +kernel⟩⟩
theorem wJ0_54 : cS RJ0 54 mJ7_copyOfRange_39247 3 := ⟨q4_191, q4_192, q1_17, q4_193, ⟨by decide +kernel, by decide +kernel, by decide +kernel⟩⟩
theorem wJ0_1051 : cS RJ0 1051 mJ2_compress_39247 3 := ⟨q4_200, q4_201, q1_11, q4_202, ⟨by decide +kernel, by decide +kernel, by decide +kernel⟩⟩
theorem wJ0_47 : cS RJ0 47 mJ2_coderFromArrayLen_85cad 2 := ⟨q4_207, q4_208, q1_11, q4_209, ⟨by decide +kernel, by decide +kernel, by decide +kernel⟩⟩
theorem wJ1_9 : cS RJ1 9 mJ0_checkIndex_df160 2 := ⟨q3_113, q3_57, q1_10, q3_58, ⟨by decide +kernel, by decide +kernel, by decide +kernel⟩⟩
theorem wJ1_236 : cS RJ1 236 mJ7_fill_eb02e 4 := ⟨q3_190, q3_191, q1_17, q3_192, ⟨by decide +kernel, by decide +kernel, by decide +kernel⟩⟩
theorem wJ1_240 : cS RJ1 240 mJ2_inflate_0e8fd 5 := ⟨q4_143, q4_144, q1_11, q4_145, ⟨by decide +kernel, by decide +kernel, by decide +kernel⟩⟩
theorem wJ2_67 : cS RJ2 67 mJ2_checkIndex_2214a 2 := ⟨q3_117, q3_118, q1_11, q3_119, ⟨by decide +kernel, by decide +kernel, by decide +kernel⟩⟩
theorem wJ2_71 : cS RJ2 71 mJ2_getChar_3b067 2 := ⟨q3_121, q3_65, q1_11, q3_66, ⟨by decide +kernel, by decide +kernel, by decide +kernel⟩⟩
theorem wJ2_48 : cS RJ2 48 mJ2_length_9d52b 1 := ⟨q3_69, q3_70, q1_11, q3_71, ⟨by decide +kernel, by decide +kernel, by decide +kernel⟩⟩
theorem wJ2_241 : cS RJ2 241 mJ0_checkBoundsBeginEnd_23922 3 := ⟨q4_112, q4_113, q1_10, q4_114, ⟨by decide +kernel, by decide +kernel, by decide +kernel⟩⟩
theorem wJ2_419 : cS RJ2 419 mJ0_checkBoundsOffCount_cabcc 3 := ⟨q4_149, q4_150, q1_10, q4_151, ⟨by decide +kernel, by decide +kernel, by decide +kernel⟩⟩
theorem wJ2_414 : cS RJ2 414 mJ0_checkIndex_df160 2 := ⟨q3_120, q3_57, q1_10, q3_58, ⟨by decide +kernel, by decide +kernel, by decide +kernel⟩⟩
theorem wJ2_123 : cS RJ2 123 mJ2_compress_5af95 5 := ⟨q4_203, q4_204, q1_11, q4_205, ⟨by decide +kernel, by decide +kernel, by decide +kernel⟩⟩
theorem wJ2_11 : cS RJ2 11 mJ2_newBytesLength_0f7a4 1 := ⟨q1_219, q1_220, q1_11, q1_221, ⟨by decide +kernel, by decide +kernel, by decide +kernel⟩⟩
theorem wJ2_126 : cS RJ2 126 mJ7_copyOfRange_39247 3 := ⟨q4_206, q4_192, q1_17, q4_193, ⟨by decide +kernel, by decide +kernel, by decide +kernel⟩⟩
theorem wJ2_173 : cS RJ2 173 mJ2_checkBoundsOffCount_d044e 3 := ⟨q4_146, q4_147, q1_11, q4_148, ⟨by decide +kernel, by decide +kernel, by decide +kernel⟩⟩
theorem wJ2_380 : cS RJ2 380 mJ7_fill_eb02e 4 := ⟨q3_199, q3_191, q1_17, q3_192, ⟨by decide +kernel, by decide +kernel, by decide +kernel⟩⟩
theorem wJ2_96 : cS RJ2 96 mJ2_checkBoundsBeginEnd_d044e 3 := ⟨q4_109, q4_110, q1_11, q4_111, ⟨by decide +kernel, by decide +kernel, by decide +kernel⟩⟩
theorem wJ2_393 : cS RJ2 393 mJ2_getChars_ba4f3 3 := ⟨q4_118, q4_119, q1_11, q4_120, ⟨by decide +kernel, by decide +kernel, by decide +kernel⟩⟩
theorem wJ2_111 : cS RJ2 111 mJ2_putChar_b72d1 3 := ⟨q4_122, q4_123, q1_11, q4_124, ⟨by decide +kernel, by decide +kernel, by decide +kernel⟩⟩
theorem wJ4_1 : cI RJ4 1 mJ5_init_d00df 1 := ⟨q1_210, q1_211, q1_8, q1_212, by decide +kernel, ⟨by decide +kernel, by decide +kernel, by decide +kernel⟩⟩
theorem wJ4_137 : cI RJ4 137 mJ0_init_81219 1 := ⟨q4_177, q4_178, q1_10, q4_179, by decide +kernel, ⟨by decide +kernel, by decide +kernel, by decide +kernel⟩⟩
theorem wJ5_226 : cS RJ5 226 mJ2_putCharsAt_cd4e5 6 := ⟨q4_232, q4_233, q1_11, q4_234, ⟨by decide +kernel, by decide +kernel, by decide +kernel⟩⟩
theorem wJ5_191 : cS RJ5 191 mJ1_canEncode_fc78d 1 := ⟨q4_133, q4_134, q1_15, q4_135, ⟨by decide +kernel, by decide +kernel, by decide +kernel⟩⟩
theorem wJ5_197 : cS RJ5 197 mJ2_putCharSB_b72d1 3 := ⟨q4_155, q4_156, q1_11, q4_157, ⟨by decide +kernel, by decide +kernel, by decide +kernel⟩⟩
theorem wJ5_245 : cS RJ5 245 mJ6_stringSize_0f7a4 1 := ⟨q4_96, q4_97, q1_19, q4_98, ⟨by decide +kernel, by decide +kernel, by decide +kernel⟩⟩
theorem wJ5_248 : cS RJ5 248 mJ6_getChars_ba4f3 3 := ⟨q4_99, q4_100, q1_19, q4_101, ⟨by decide +kernel, by decide +kernel, by decide +kernel⟩⟩
theorem wJ5_251 : cS RJ5 251 mJ2_getChars_46870 4 := ⟨q4_106, q4_107, q1_11, q4_108, ⟨by decide +kernel, by decide +kernel, by decide +kernel⟩⟩
theorem wJ5_32 : cV RJ5 32 mJ0_length_8abf5 0 := ⟨q4_235, q3_94, q3_95, q1_10, q3_96, ⟨by decide +kernel, by decide +kernel, by decide +kernel⟩⟩
theorem wJ5_144 : cS RJ5 144 mJ0_checkIndex_df160 2 := ⟨q3_56, q3_57, q1_10, q3_58, ⟨by decide +kernel, by decide +kernel, by decide +kernel⟩⟩
theorem wJ5_148 : cS RJ5 148 mJ2_getChar_3b067 2 := ⟨q3_64, q3_65, q1_11, q3_66, ⟨by decide +kernel, by decide +kernel, by decide +kernel⟩⟩
theorem wJ5_108 : cS RJ5 108 mJ7_copyOf_9075b 2 := ⟨q3_170, q3_171, q1_17, q3_172, ⟨by decide +kernel, by decide +kernel, by decide +kernel⟩⟩
theorem wJ5_40 : cV RJ5 40 mJ0_coder_7d493 0 := ⟨q5_4, q3_98, q3_99, q1_10, q3_100, ⟨by decide +kernel, by decide +kernel, by decide +kernel⟩⟩
theorem wJ5_26 : cS RJ5 26 mJ2_newBytesFor_77867 1 := ⟨q1_216, q1_217, q1_11, q1_218, ⟨by decide +kernel, by decide +kernel, by decide +kernel⟩⟩
theorem wJ5_125 : cS RJ5 125 mJ1_inflate_0e8fd 5 := ⟨q4_140, q4_141, q1_15, q4_142, ⟨by decide +kernel, by decide +kernel, by decide +kernel⟩⟩
theorem wJ5_114 : cS RJ5 114 mJ8_newLength_cabcc 3 := ⟨q3_161, q3_162, q1_16, q3_163, ⟨by decide +kernel, by decide +kernel, by decide +kernel⟩⟩
theorem wJ5_399 : cV RJ5 399 mJ0_getBytes_840e7 3 := ⟨q5_5, q5_6, q5_7, q1_10, q5_8, ⟨by decide +kernel, by decide +kernel, by decide +kernel⟩⟩
theorem wJ5_133 : cS RJ5 133 mJ1_fillNull_b72d1 3 := ⟨q3_187, q3_188, q1_15, q3_189, ⟨by decide +kernel, by decide +kernel, by decide +kernel⟩⟩
theorem wJ5_137 : cS RJ5 137 mJ2_fillNull_b72d1 3 := ⟨q3_196, q3_197, q1_11, q3_198, ⟨by decide +kernel, by decide +kernel, by decide +kernel⟩⟩
theorem wJ7_343 : cS RJ7 343 mJ7_checkLength_df160 2 := ⟨q4_197, q4_198, q1_17, q4_199, ⟨by decide +kernel, by decide +kernel, by decide +kernel⟩⟩
theorem wJ7_339 : cS RJ7 339 mJ7_copyOfRangeByte_39247 3 := ⟨q4_194, q4_195, q1_17, q4_196, ⟨by decide +kernel, by decide +kernel, by decide +kernel⟩⟩
theorem wJ7_13 : cS RJ7 13 mJ7_rangeCheck_23922 3 := ⟨q3_193, q3_194, q1_17, q3_195, ⟨by decide +kernel, by decide +kernel, by decide +kernel⟩⟩
theorem wJ8_201 : cS RJ8 201 mJ8_hugeLength_7cf53 2 := ⟨q3_166, q3_167, q1_16, q3_168, ⟨by decide +kernel, by decide +kernel, by decide +kernel⟩⟩
theorem wL_34 : cV RL 34 mX6_account 1 := ⟨q3_226, q3_227, q3_228, q1_1, q3_229, ⟨by decide +kernel, by decide +kernel, by decide +kernel⟩⟩
theorem wL_37 : cS RL 37 mL_some 2 := ⟨q4_76, q4_77, q1_0, q4_78, ⟨by decide +kernel, by decide +kernel, by decide +kernel⟩⟩
theorem wL_23 : cV RL 23 mX7_next 1 := ⟨q4_65, q4_66, q4_67, q1_18, q4_68, ⟨by decide +kernel, by decide +kernel, by decide +kernel⟩⟩
theorem wL_43 : cV RL 43 mX6_fool 1 := ⟨q2_54, q2_55, q2_56, q1_1, q2_57, ⟨by decide +kernel, by decide +kernel, by decide +kernel⟩⟩
theorem wL_46 : cV RL 46 mX6_joke 1 := ⟨q2_108, q2_109, q2_110, q1_1, q2_111, ⟨by decide +kernel, by decide +kernel, by decide +kernel⟩⟩
theorem wL_49 : cV RL 49 mX6_patent 3 := ⟨q2_120, q2_121, q2_122, q1_1, q2_123, ⟨by decide +kernel, by decide +kernel, by decide +kernel⟩⟩
theorem wL_53 : cV RL 53 mX6_book 4 := ⟨q2_167, q2_168, q2_169, q1_1, q2_170, ⟨by decide +kernel, by decide +kernel, by decide +kernel⟩⟩
theorem wL_57 : cV RL 57 mX6_next 0 := ⟨q2_200, q2_201, q2_202, q1_1, q2_203, ⟨by decide +kernel, by decide +kernel, by decide +kernel⟩⟩
theorem wL_59 : cV RL 59 mX6_insure 1 := ⟨q4_80, q4_81, q4_82, q1_1, q4_83, ⟨by decide +kernel, by decide +kernel, by decide +kernel⟩⟩
theorem wL_62 : cV RL 62 mX6_audit 1 := ⟨q2_145, q2_146, q2_147, q1_1, q2_148, ⟨by decide +kernel, by decide +kernel, by decide +kernel⟩⟩
theorem wL_65 : cV RL 65 mX6_exempt 2 := ⟨q2_153, q2_154, q2_155, q1_1, q2_156, ⟨by decide +kernel, by decide +kernel, by decide +kernel⟩⟩
theorem wL_68 : cV RL 68 mX6_pass 1 := ⟨q3_5, q3_6, q3_7, q1_1, q3_8, ⟨by decide +kernel, by decide +kernel, by decide +kernel⟩⟩
theorem wL_73 : cI RL 73 mJ4_init_da8c8 0 := ⟨q4_88, q1_208, q1_9, q1_209, by decide +kernel, ⟨by decide +kernel, by decide +kernel, by decide +kernel⟩⟩
theorem wL_112 : cV RL 112 mX6_booking 2 := ⟨q5_50, q5_51, q5_52, q1_1, q5_53, ⟨by decide +kernel, by decide +kernel, by decide +kernel⟩⟩
theorem wL_103 : cV RL 103 mX6_jokeOf 2 := ⟨q5_28, q5_29, q5_30, q1_1, q5_31, ⟨by decide +kernel, by decide +kernel, by decide +kernel⟩⟩
theorem wL_94 : cV RL 94 mJ4_append_15ec4 1 := ⟨q4_221, q4_222, q4_223, q1_9, q4_224, ⟨by decide +kernel, by decide +kernel, by decide +kernel⟩⟩
theorem wL_84 : cV RL 84 mJ4_append_bf812 1 := ⟨q4_89, q4_90, q4_91, q1_9, q4_92, ⟨by decide +kernel, by decide +kernel, by decide +kernel⟩⟩
theorem wL_77 : cV RL 77 mJ4_append_cf468 1 := ⟨q4_126, q4_127, q4_128, q1_9, q4_129, ⟨by decide +kernel, by decide +kernel, by decide +kernel⟩⟩
theorem wL_109 : cV RL 109 mX6_tellBookings 0 := ⟨q5_40, q5_41, q5_42, q1_1, q5_43, ⟨by decide +kernel, by decide +kernel, by decide +kernel⟩⟩
theorem wL_90 : cS RL 90 mL_line 2 := ⟨q4_168, q4_169, q1_0, q4_170, ⟨by decide +kernel, by decide +kernel, by decide +kernel⟩⟩
theorem wL_80 : cV RL 80 mJ4_toString_0e30d 0 := ⟨q4_171, q4_172, q4_173, q1_9, q4_174, ⟨by decide +kernel, by decide +kernel, by decide +kernel⟩⟩
theorem wL_135 : cV RL 135 mJ0_equals_9ea2d 1 := ⟨q5_96, q5_97, q5_98, q1_10, q5_99, ⟨by decide +kernel, by decide +kernel, by decide +kernel⟩⟩
theorem wL_97 : cV RL 97 mX6_foolOf 2 := ⟨q5_11, q5_12, q5_13, q1_1, q5_14, ⟨by decide +kernel, by decide +kernel, by decide +kernel⟩⟩
theorem wL_132 : cV RL 132 mX6_ranked 1 := ⟨q5_80, q5_81, q5_82, q1_1, q5_83, ⟨by decide +kernel, by decide +kernel, by decide +kernel⟩⟩
theorem wL_87 : cV RL 87 mX6_tell 1 := ⟨q4_158, q4_159, q4_160, q1_1, q4_161, ⟨by decide +kernel, by decide +kernel, by decide +kernel⟩⟩
theorem wL_106 : cV RL 106 mX6_throneOf 2 := ⟨q5_36, q5_37, q5_38, q1_1, q5_39, ⟨by decide +kernel, by decide +kernel, by decide +kernel⟩⟩
theorem wL_139 : cV RL 139 mX6_slipShare 0 := ⟨q4_35, q4_36, q4_37, q1_1, q4_38, ⟨by decide +kernel, by decide +kernel, by decide +kernel⟩⟩
theorem wL_143 : cV RL 143 mX6_isBalanced 0 := ⟨q3_230, q3_231, q3_232, q1_1, q3_233, ⟨by decide +kernel, by decide +kernel, by decide +kernel⟩⟩
theorem wL_157 : cV RL 157 mX6_save 0 := ⟨q5_127, q5_128, q5_129, q1_1, q5_130, ⟨by decide +kernel, by decide +kernel, by decide +kernel⟩⟩
theorem wL_160 : cV RL 160 mX6_forecast 0 := ⟨q3_25, q3_26, q3_27, q1_1, q3_28, ⟨by decide +kernel, by decide +kernel, by decide +kernel⟩⟩
theorem wL_163 : cV RL 163 mX6_reason 1 := ⟨q3_222, q3_223, q3_224, q1_1, q3_225, ⟨by decide +kernel, by decide +kernel, by decide +kernel⟩⟩
theorem wL_100 : cV RL 100 mX6_told 2 := ⟨q5_23, q5_24, q5_25, q1_1, q5_26, ⟨by decide +kernel, by decide +kernel, by decide +kernel⟩⟩
theorem wL_167 : cV RL 167 mX6_restore 0 := ⟨q4_47, q4_48, q4_49, q1_1, q4_50, ⟨by decide +kernel, by decide +kernel, by decide +kernel⟩⟩
theorem wL_115 : cV RL 115 mX6_stalest 1 := ⟨q5_54, q5_55, q5_56, q1_1, q5_57, ⟨by decide +kernel, by decide +kernel, by decide +kernel⟩⟩
theorem wL_118 : cV RL 118 mX6_ends 0 := ⟨q3_17, q3_18, q3_19, q1_1, q3_20, ⟨by decide +kernel, by decide +kernel, by decide +kernel⟩⟩
theorem wL_121 : cV RL 121 mX6_endsAgain 0 := ⟨q5_71, q5_72, q5_73, q1_1, q5_74, ⟨by decide +kernel, by decide +kernel, by decide +kernel⟩⟩
theorem wL_124 : cV RL 124 mX6_meanWit 0 := ⟨q4_31, q4_32, q4_33, q1_1, q4_34, ⟨by decide +kernel, by decide +kernel, by decide +kernel⟩⟩
theorem wL_148 : cV RL 148 mX6_would 3 := ⟨q5_111, q5_112, q5_113, q1_1, q5_114, ⟨by decide +kernel, by decide +kernel, by decide +kernel⟩⟩
theorem wL_151 : cV RL 151 mX6_best 2 := ⟨q5_116, q5_117, q5_118, q1_1, q5_119, ⟨by decide +kernel, by decide +kernel, by decide +kernel⟩⟩
theorem wL_154 : cV RL 154 mX6_bestAgain 2 := ⟨q5_120, q5_121, q5_122, q1_1, q5_123, ⟨by decide +kernel, by decide +kernel, by decide +kernel⟩⟩
theorem wL_170 : cI RL 170 mX6_init 0 := ⟨q1_22, q1_23, q1_1, q1_24, by decide +kernel, ⟨by decide +kernel, by decide +kernel, by decide +kernel⟩⟩
theorem wL_171 : cV RL 171 mX6_undo 0 := ⟨q4_39, q4_40, q4_41, q1_1, q4_42, ⟨by decide +kernel, by decide +kernel, by decide +kernel⟩⟩
theorem wL_174 : cV RL 174 mX6_run 0 := ⟨q3_29, q3_30, q3_31, q1_1, q3_32, ⟨by decide +kernel, by decide +kernel, by decide +kernel⟩⟩
theorem wL_74 : cV RL 74 mX6_character 1 := ⟨q3_216, q3_217, q3_218, q1_1, q3_219, ⟨by decide +kernel, by decide +kernel, by decide +kernel⟩⟩
theorem wL_177 : cS RL 177 mL_stock 1 := ⟨q5_44, q5_45, q1_0, q5_46, ⟨by decide +kernel, by decide +kernel, by decide +kernel⟩⟩
theorem wL_181 : cS RL 181 mL_cell 2 := ⟨q4_70, q4_71, q1_0, q4_72, ⟨by decide +kernel, by decide +kernel, by decide +kernel⟩⟩
theorem wL_185 : cI RL 185 mX7_init 1 := ⟨q4_57, q4_58, q1_18, q4_59, by decide +kernel, ⟨by decide +kernel, by decide +kernel, by decide +kernel⟩⟩
theorem wL_188 : cS RL 188 mL_told 1 := ⟨q4_84, q4_85, q1_0, q4_86, ⟨by decide +kernel, by decide +kernel, by decide +kernel⟩⟩
theorem wL_191 : cS RL 191 mL_acts 3 := ⟨q4_73, q4_74, q1_0, q4_75, ⟨by decide +kernel, by decide +kernel, by decide +kernel⟩⟩
theorem wL_198 : cS RL 198 mL_jokes 1 := ⟨q5_47, q5_48, q1_0, q5_49, ⟨by decide +kernel, by decide +kernel, by decide +kernel⟩⟩
theorem wL_202 : cS RL 202 mL_fools 1 := ⟨q5_75, q5_76, q1_0, q5_77, ⟨by decide +kernel, by decide +kernel, by decide +kernel⟩⟩
theorem wL_205 : cS RL 205 mL_bookings 1 := ⟨q5_104, q5_105, q1_0, q5_106, ⟨by decide +kernel, by decide +kernel, by decide +kernel⟩⟩
theorem wL_208 : cS RL 208 mL_laughs 1 := ⟨q5_108, q5_109, q1_0, q5_110, ⟨by decide +kernel, by decide +kernel, by decide +kernel⟩⟩
theorem wL_211 : cS RL 211 mL_foretold 1 := ⟨q5_124, q5_125, q1_0, q5_126, ⟨by decide +kernel, by decide +kernel, by decide +kernel⟩⟩
theorem wX0_32 : cV RX0 32 mX0_move 2 := ⟨q2_196, q2_198, s1_9, q1_5, q2_199, ⟨by decide +kernel, by decide +kernel, by decide +kernel⟩⟩
theorem wX0_28 : cSN RX0 28 mX6_copy "JesterUnion" 2 := ⟨List.mem_of_getElem? (i := 8) (by decide +kernel), q2_67, q1_1, q2_68, ⟨by decide +kernel, by decide +kernel, by decide +kernel⟩⟩
theorem wX1_108 : cV RX1 108 mX1_laughsNow 3 := ⟨q4_15, q4_16, q4_17, q1_2, q4_18, ⟨by decide +kernel, by decide +kernel, by decide +kernel⟩⟩
theorem wX1_127 : cV RX1 127 mX0_removeFirst 0 := ⟨q2_212, q2_213, q2_214, q1_5, q2_215, ⟨by decide +kernel, by decide +kernel, by decide +kernel⟩⟩
theorem wX1_100 : cV RX1 100 mX1_isBarred 2 := ⟨q2_216, q2_176, q2_177, q1_2, q2_178, ⟨by decide +kernel, by decide +kernel, by decide +kernel⟩⟩
theorem wX1_130 : cV RX1 130 mX1_payFine 2 := ⟨q2_217, q2_219, s1_11, q1_2, q2_220, ⟨by decide +kernel, by decide +kernel, by decide +kernel⟩⟩
theorem wX1_134 : cV RX1 134 mX1_perform 3 := ⟨q2_225, q2_227, s1_13, q1_2, q2_228, ⟨by decide +kernel, by decide +kernel, by decide +kernel⟩⟩
theorem wX1_82 : cV RX1 82 mX1_doesAnyEndAt 1 := ⟨q4_27, q4_29, s2_12, q1_2, q4_30, ⟨by decide +kernel, by decide +kernel, by decide +kernel⟩⟩
theorem wX1_72 : cV RX1 72 mX1_holds 1 := ⟨q2_179, q2_137, q2_138, q1_2, q2_139, ⟨by decide +kernel, by decide +kernel, by decide +kernel⟩⟩
theorem wX1_11 : cIN RX1 11 mX2_init "JesterUnion" 0 := ⟨List.mem_of_getElem? (i := 1) (by decide +kernel), q1_37, q1_3, q1_38, by decide +kernel, ⟨by decide +kernel, by decide +kernel, by decide +kernel⟩⟩
theorem wX1_20 : cIN RX1 20 mX4_init "JesterUnion" 0 := ⟨List.mem_of_getElem? (i := 2) (by decide +kernel), q1_79, q1_4, q1_80, by decide +kernel, ⟨by decide +kernel, by decide +kernel, by decide +kernel⟩⟩
theorem wX1_27 : cIN RX1 27 mX0_init "JesterUnion" 0 := ⟨List.mem_of_getElem? (i := 3) (by decide +kernel), q1_109, q1_5, q1_110, by decide +kernel, ⟨by decide +kernel, by decide +kernel, by decide +kernel⟩⟩
theorem wX1_85 : cV RX1 85 mX4_toldAt 2 := ⟨q2_233, q2_234, q2_235, q1_4, q2_236, ⟨by decide +kernel, by decide +kernel, by decide +kernel⟩⟩
theorem wX1_104 : cV RX1 104 mX1_laughs 3 := ⟨q2_229, q2_231, s1_14, q1_2, q2_232, ⟨by decide +kernel, by decide +kernel, by decide +kernel⟩⟩
theorem wX1_143 : cV RX1 143 mX1_gain 2 := ⟨q2_221, q2_223, s1_12, q1_2, q2_224, ⟨by decide +kernel, by decide +kernel, by decide +kernel⟩⟩
theorem wX1_137 : cV RX1 137 mX4_addTelling 2 := ⟨q3_0, q3_1, q3_2, q1_4, q3_3, ⟨by decide +kernel, by decide +kernel, by decide +kernel⟩⟩
theorem wX1_155 : cV RX1 155 mX1_payUnion 2 := ⟨q3_4, q2_141, q2_142, q1_2, q2_143, ⟨by decide +kernel, by decide +kernel, by decide +kernel⟩⟩
theorem wX1_112 : cV RX1 112 mX1_isAhead 4 := ⟨q2_188, q2_190, s1_8, q1_2, q2_191, ⟨by decide +kernel, by decide +kernel, by decide +kernel⟩⟩
theorem wX1_55 : cV RX1 55 mX2_take 1 := ⟨q2_62, q2_63, q2_64, q1_3, q2_65, ⟨by decide +kernel, by decide +kernel, by decide +kernel⟩⟩
theorem wX1_59 : cV RX1 59 mX4_take 1 := ⟨q2_75, q2_76, q2_77, q1_4, q2_78, ⟨by decide +kernel, by decide +kernel, by decide +kernel⟩⟩
theorem wX1_62 : cV RX1 62 mX0_take 1 := ⟨q2_80, q2_81, q2_82, q1_5, q2_83, ⟨by decide +kernel, by decide +kernel, by decide +kernel⟩⟩
theorem wX1_65 : cSN RX1 65 mX6_copy "JesterUnion" 2 := ⟨List.mem_of_getElem? (i := 9) (by decide +kernel), q2_67, q1_1, q2_68, ⟨by decide +kernel, by decide +kernel, by decide +kernel⟩⟩
theorem wX2_38 : cV RX2 38 mX2_countAhead 1 := ⟨q5_88, q5_90, s3_0, q1_3, q5_91, ⟨by decide +kernel, by decide +kernel, by decide +kernel⟩⟩
theorem wX2_42 : cV RX2 42 mX2_isAhead 2 := ⟨q5_92, q5_94, s3_1, q1_3, q5_95, ⟨by decide +kernel, by decide +kernel, by decide +kernel⟩⟩
theorem wX2_34 : cSN RX2 34 mX6_copy "JesterUnion" 2 := ⟨List.mem_of_getElem? (i := 6) (by decide +kernel), q2_67, q1_1, q2_68, ⟨by decide +kernel, by decide +kernel, by decide +kernel⟩⟩
theorem wX3_25 : cV RX3 25 mX1_take 1 := ⟨q2_106, q2_59, q2_60, q1_2, q2_61, ⟨by decide +kernel, by decide +kernel, by decide +kernel⟩⟩
theorem wX3_24 : cIN RX3 24 mX1_init "JesterUnion" 0 := ⟨List.mem_of_getElem? (i := 4) (by decide +kernel), q1_31, q1_2, q1_32, by decide +kernel, ⟨by decide +kernel, by decide +kernel, by decide +kernel⟩⟩
theorem wX4_36 : cV RX4 36 mX4_countAhead 1 := ⟨q5_62, q5_64, s2_14, q1_4, q5_65, ⟨by decide +kernel, by decide +kernel, by decide +kernel⟩⟩
theorem wX4_40 : cV RX4 40 mX4_isAhead 2 := ⟨q5_66, q5_68, s2_15, q1_4, q5_69, ⟨by decide +kernel, by decide +kernel, by decide +kernel⟩⟩
theorem wX4_44 : cV RX4 44 mX4_tellings 1 := ⟨q5_70, q5_33, q5_34, q1_4, q5_35, ⟨by decide +kernel, by decide +kernel, by decide +kernel⟩⟩
theorem wX4_28 : cSN RX4 28 mX6_copy "JesterUnion" 2 := ⟨List.mem_of_getElem? (i := 7) (by decide +kernel), q2_67, q1_1, q2_68, ⟨by decide +kernel, by decide +kernel, by decide +kernel⟩⟩
theorem wX4_32 : cV RX4 32 mX4_toldAt 2 := ⟨q4_6, q2_234, q2_235, q1_4, q2_236, ⟨by decide +kernel, by decide +kernel, by decide +kernel⟩⟩
theorem wX5_11 : cI RX5 11 mJ4_init_da8c8 0 := ⟨q1_207, q1_208, q1_9, q1_209, by decide +kernel, ⟨by decide +kernel, by decide +kernel, by decide +kernel⟩⟩
theorem wX5_40 : cV RX5 40 mJ4_length_8abf5 0 := ⟨q3_41, q3_42, q3_43, q1_9, q3_44, ⟨by decide +kernel, by decide +kernel, by decide +kernel⟩⟩
theorem wX5_48 : cV RX5 48 mJ4_charAt_5068e 1 := ⟨q3_48, q3_49, q3_50, q1_9, q3_51, ⟨by decide +kernel, by decide +kernel, by decide +kernel⟩⟩
theorem wX5_36 : cV RX5 36 mX5_readOrder 0 := ⟨q3_37, q3_39, s2_0, q1_7, q3_40, ⟨by decide +kernel, by decide +kernel, by decide +kernel⟩⟩
theorem wX5_44 : cV RX5 44 mX5_readSign 1 := ⟨q3_142, q3_144, s2_6, q1_7, q3_145, ⟨by decide +kernel, by decide +kernel, by decide +kernel⟩⟩
theorem wX5_93 : cV RX5 93 mX5_isDigitAhead 0 := ⟨q3_130, q3_132, s2_3, q1_7, q3_133, ⟨by decide +kernel, by decide +kernel, by decide +kernel⟩⟩
theorem wX5_96 : cV RX5 96 mX5_keepNumber 1 := ⟨q3_134, q3_136, s2_4, q1_7, q3_137, ⟨by decide +kernel, by decide +kernel, by decide +kernel⟩⟩
theorem wX5_52 : cS RX5 52 mX5_shapeOf 1 := ⟨q3_76, q3_77, q1_7, q3_78, ⟨by decide +kernel, by decide +kernel, by decide +kernel⟩⟩
theorem wX5_56 : cV RX5 56 mJ0_isEmpty_aae02 0 := ⟨q3_89, q3_90, q3_91, q1_10, q3_92, ⟨by decide +kernel, by decide +kernel, by decide +kernel⟩⟩
theorem wX5_61 : cV RX5 61 mJ0_length_8abf5 0 := ⟨q3_93, q3_94, q3_95, q1_10, q3_96, ⟨by decide +kernel, by decide +kernel, by decide +kernel⟩⟩
theorem wX5_62 : cV RX5 62 mJ0_charAt_5068e 1 := ⟨q3_102, q3_103, q3_104, q1_10, q3_105, ⟨by decide +kernel, by decide +kernel, by decide +kernel⟩⟩
theorem wX5_63 : cV RX5 63 mX5_readPart 1 := ⟨q3_122, q3_124, s2_1, q1_7, q3_125, ⟨by decide +kernel, by decide +kernel, by decide +kernel⟩⟩
theorem wX5_86 : cV RX5 86 mX5_readNumber 1 := ⟨q3_126, q3_128, s2_2, q1_7, q3_129, ⟨by decide +kernel, by decide +kernel, by decide +kernel⟩⟩
theorem wX5_90 : cV RX5 90 mX5_readPlusOrMinus 0 := ⟨q3_138, q3_140, s2_5, q1_7, q3_141, ⟨by decide +kernel, by decide +kernel, by decide +kernel⟩⟩
theorem wX6_210 : cS RX6 210 mX6_sum 1 := ⟨q2_164, q2_165, q1_1, q2_166, ⟨by decide +kernel, by decide +kernel, by decide +kernel⟩⟩
theorem wX6_271 : cV RX6 271 mX1_patents 0 := ⟨q3_13, q3_14, q3_15, q1_2, q3_16, ⟨by decide +kernel, by decide +kernel, by decide +kernel⟩⟩
theorem wX6_221 : cV RX6 221 mJ4_length_8abf5 0 := ⟨q3_220, q3_42, q3_43, q1_9, q3_44, ⟨by decide +kernel, by decide +kernel, by decide +kernel⟩⟩
theorem wX6_243 : cV RX6 243 mX6_refuse 2 := ⟨q2_90, q2_92, s1_1, q1_1, q2_93, ⟨by decide +kernel, by decide +kernel, by decide +kernel⟩⟩
theorem wX6_290 : cV RX6 290 mX2_add 1 := ⟨q2_94, q2_95, q2_96, q1_3, q2_97, ⟨by decide +kernel, by decide +kernel, by decide +kernel⟩⟩
theorem wX6_195 : cV RX6 195 mX1_bestJokeByJoke 2 := ⟨q4_11, q4_12, q4_13, q1_2, q4_14, ⟨by decide +kernel, by decide +kernel, by decide +kernel⟩⟩
theorem wX6_198 : cV RX6 198 mX1_bestByWit 2 := ⟨q4_19, q4_20, q4_21, q1_2, q4_22, ⟨by decide +kernel, by decide +kernel, by decide +kernel⟩⟩
theorem wX6_164 : cV RX6 164 mX4_tellingsAt 1 := ⟨q4_2, q4_3, q4_4, q1_4, q4_5, ⟨by decide +kernel, by decide +kernel, by decide +kernel⟩⟩
theorem wX6_57 : cV RX6 57 mX1_take 1 := ⟨q2_58, q2_59, q2_60, q1_2, q2_61, ⟨by decide +kernel, by decide +kernel, by decide +kernel⟩⟩
theorem wX6_78 : cV RX6 78 mX6_collect 1 := ⟨q2_149, q2_151, s1_5, q1_1, q2_152, ⟨by decide +kernel, by decide +kernel, by decide +kernel⟩⟩
theorem wX6_65 : cV RX6 65 mX6_remember 1 := ⟨q2_98, q2_100, s1_2, q1_1, q2_101, ⟨by decide +kernel, by decide +kernel, by decide +kernel⟩⟩
theorem wX6_85 : cV RX6 85 mX2_has 1 := ⟨q2_128, q2_129, q2_130, q1_3, q2_131, ⟨by decide +kernel, by decide +kernel, by decide +kernel⟩⟩
theorem wX6_158 : cS RX6 158 mX6_isThrone 1 := ⟨q2_161, q2_162, q1_1, q2_163, ⟨by decide +kernel, by decide +kernel, by decide +kernel⟩⟩
theorem wX6_176 : cV RX6 176 mX6_reserve 4 := ⟨q2_171, q2_173, s1_7, q1_1, q2_174, ⟨by decide +kernel, by decide +kernel, by decide +kernel⟩⟩
theorem wX6_207 : cV RX6 207 mX1_carryFirstOut 0 := ⟨q2_208, q2_209, q2_210, q1_2, q2_211, ⟨by decide +kernel, by decide +kernel, by decide +kernel⟩⟩
theorem wX6_311 : cV RX6 311 mX5_number 2 := ⟨q3_204, q3_205, q3_206, q1_7, q3_207, ⟨by decide +kernel, by decide +kernel, by decide +kernel⟩⟩
theorem wX6_314 : cV RX6 314 mX5_letter 1 := ⟨q3_208, q3_209, q3_210, q1_7, q3_211, ⟨by decide +kernel, by decide +kernel, by decide +kernel⟩⟩
theorem wX6_61 : cV RX6 61 mX6_admit 1 := ⟨q2_86, q2_88, s1_0, q1_1, q2_89, ⟨by decide +kernel, by decide +kernel, by decide +kernel⟩⟩
theorem wX6_68 : cV RX6 68 mX6_invent 1 := ⟨q2_112, q2_114, s1_3, q1_1, q2_115, ⟨by decide +kernel, by decide +kernel, by decide +kernel⟩⟩
theorem wX6_71 : cV RX6 71 mX6_grant 3 := ⟨q2_124, q2_126, s1_4, q1_1, q2_127, ⟨by decide +kernel, by decide +kernel, by decide +kernel⟩⟩
theorem wX6_180 : cV RX6 180 mX6_carryNextOut 0 := ⟨q2_204, q2_206, s1_10, q1_1, q2_207, ⟨by decide +kernel, by decide +kernel, by decide +kernel⟩⟩
theorem wX6_75 : cV RX6 75 mX6_cover 1 := ⟨q3_212, q3_214, s2_8, q1_1, q3_215, ⟨by decide +kernel, by decide +kernel, by decide +kernel⟩⟩
theorem wX6_154 : cV RX6 154 mX6_setExempt 2 := ⟨q2_157, q2_159, s1_6, q1_1, q2_160, ⟨by decide +kernel, by decide +kernel, by decide +kernel⟩⟩
theorem wX6_184 : cV RX6 184 mX6_elapse 1 := ⟨q3_9, q3_11, s1_15, q1_1, q3_12, ⟨by decide +kernel, by decide +kernel, by decide +kernel⟩⟩
theorem wX6_253 : cV RX6 253 mJ4_charAt_5068e 1 := ⟨q3_221, q3_49, q3_50, q1_9, q3_51, ⟨by decide +kernel, by decide +kernel, by decide +kernel⟩⟩
theorem wX6_294 : cV RX6 294 mX1_payUnion 2 := ⟨q2_140, q2_141, q2_142, q1_2, q2_143, ⟨by decide +kernel, by decide +kernel, by decide +kernel⟩⟩
theorem wX6_201 : cV RX6 201 mX1_endJokeByJoke 0 := ⟨q3_21, q3_22, q3_23, q1_2, q3_24, ⟨by decide +kernel, by decide +kernel, by decide +kernel⟩⟩
theorem wX6_204 : cV RX6 204 mX1_endHourByHour 0 := ⟨q4_23, q4_24, q4_25, q1_2, q4_26, ⟨by decide +kernel, by decide +kernel, by decide +kernel⟩⟩
theorem wX6_104 : cV RX6 104 mX1_patentsOf 1 := ⟨q5_15, q5_16, q5_17, q1_2, q5_18, ⟨by decide +kernel, by decide +kernel, by decide +kernel⟩⟩
theorem wX6_116 : cV RX6 116 mX0_with 2 := ⟨q5_19, q5_20, q5_21, q1_5, q5_22, ⟨by decide +kernel, by decide +kernel, by decide +kernel⟩⟩
theorem wX6_130 : cV RX6 130 mX4_has 1 := ⟨q2_132, q2_133, q2_134, q1_4, q2_135, ⟨by decide +kernel, by decide +kernel, by decide +kernel⟩⟩
theorem wX6_136 : cV RX6 136 mX1_holds 1 := ⟨q2_136, q2_137, q2_138, q1_2, q2_139, ⟨by decide +kernel, by decide +kernel, by decide +kernel⟩⟩
theorem wX6_9 : cIN RX6 9 mX1_init "JesterUnion" 0 := ⟨List.mem_of_getElem? (i := 0) (by decide +kernel), q1_31, q1_2, q1_32, by decide +kernel, ⟨by decide +kernel, by decide +kernel, by decide +kernel⟩⟩
theorem wX6_27 : cI RX6 27 mX3_init 0 := ⟨q1_181, q1_182, q1_6, q1_183, by decide +kernel, ⟨by decide +kernel, by decide +kernel, by decide +kernel⟩⟩
theorem wX6_34 : cIN RX6 34 mX5_init "JesterUnion" 0 := ⟨List.mem_of_getElem? (i := 5) (by decide +kernel), q1_202, q1_7, q1_203, by decide +kernel, ⟨by decide +kernel, by decide +kernel, by decide +kernel⟩⟩
theorem wX6_41 : cI RX6 41 mJ4_init_da8c8 0 := ⟨q2_22, q1_208, q1_9, q1_209, by decide +kernel, ⟨by decide +kernel, by decide +kernel, by decide +kernel⟩⟩
theorem wX6_293 : cV RX6 293 mX4_add 1 := ⟨q2_116, q2_117, q2_118, q1_4, q2_119, ⟨by decide +kernel, by decide +kernel, by decide +kernel⟩⟩
theorem wX6_275 : cV RX6 275 mX6_areCoinsAccountedFor 0 := ⟨q3_234, q3_236, s2_9, q1_1, q3_237, ⟨by decide +kernel, by decide +kernel, by decide +kernel⟩⟩
theorem wX6_278 : cV RX6 278 mX6_areTellingsAccountedFor 0 := ⟨q3_238, q4_0, s2_10, q1_1, q4_1, ⟨by decide +kernel, by decide +kernel, by decide +kernel⟩⟩
theorem wX6_281 : cV RX6 281 mX6_areBestsTheSame 0 := ⟨q4_7, q4_9, s2_11, q1_1, q4_10, ⟨by decide +kernel, by decide +kernel, by decide +kernel⟩⟩
theorem wX6_148 : cV RX6 148 mX4_tellings 1 := ⟨q5_32, q5_33, q5_34, q1_4, q5_35, ⟨by decide +kernel, by decide +kernel, by decide +kernel⟩⟩
theorem wX6_214 : cV RX6 214 mX2_atRank 1 := ⟨q5_84, q5_85, q5_86, q1_3, q5_87, ⟨by decide +kernel, by decide +kernel, by decide +kernel⟩⟩
theorem wX6_317 : cV RX6 317 mX3_keep 1 := ⟨q2_102, q2_103, q2_104, q1_6, q2_105, ⟨by decide +kernel, by decide +kernel, by decide +kernel⟩⟩
theorem wX6_297 : cV RX6 297 mX1_isBarred 2 := ⟨q2_175, q2_176, q2_177, q1_2, q2_178, ⟨by decide +kernel, by decide +kernel, by decide +kernel⟩⟩
theorem wX6_301 : cV RX6 301 mX0_jokeOfFoolAt 2 := ⟨q2_180, q2_181, q2_182, q1_5, q2_183, ⟨by decide +kernel, by decide +kernel, by decide +kernel⟩⟩
theorem wX6_304 : cV RX6 304 mX1_placeFor 3 := ⟨q2_184, q2_185, q2_186, q1_2, q2_187, ⟨by decide +kernel, by decide +kernel, by decide +kernel⟩⟩
theorem wX6_307 : cV RX6 307 mX0_insert 5 := ⟨q2_192, q2_193, q2_194, q1_5, q2_195, ⟨by decide +kernel, by decide +kernel, by decide +kernel⟩⟩
theorem wX6_287 : cV RX6 287 mX3_forgetAll 0 := ⟨q4_51, q4_52, q4_53, q1_6, q4_54, ⟨by decide +kernel, by decide +kernel, by decide +kernel⟩⟩
theorem wX6_228 : cV RX6 228 mX5_read 0 := ⟨q3_33, q3_34, q3_35, q1_7, q3_36, ⟨by decide +kernel, by decide +kernel, by decide +kernel⟩⟩
theorem wX6_232 : cV RX6 232 mJ4_setLength_d00df 1 := ⟨q3_146, q3_147, q3_148, q1_9, q3_149, ⟨by decide +kernel, by decide +kernel, by decide +kernel⟩⟩
theorem wX6_240 : cV RX6 240 mX6_carryOrderOut 1 := ⟨q3_200, q3_202, s2_7, q1_1, q3_203, ⟨by decide +kernel, by decide +kernel, by decide +kernel⟩⟩
theorem wX6_217 : cV RX6 217 mX4_atRank 1 := ⟨q5_58, q5_59, q5_60, q1_4, q5_61, ⟨by decide +kernel, by decide +kernel, by decide +kernel⟩⟩
theorem wX6_246 : cV RX6 246 mJ4_append_bf812 1 := ⟨q4_162, q4_90, q4_91, q1_9, q4_92, ⟨by decide +kernel, by decide +kernel, by decide +kernel⟩⟩
theorem wX6_249 : cV RX6 249 mX6_write 2 := ⟨q4_163, q4_165, s2_13, q1_1, q4_166, ⟨by decide +kernel, by decide +kernel, by decide +kernel⟩⟩
theorem wX6_224 : cV RX6 224 mJ4_append_cf468 1 := ⟨q4_167, q4_127, q4_128, q1_9, q4_129, ⟨by decide +kernel, by decide +kernel, by decide +kernel⟩⟩
theorem wX6_173 : cV RX6 173 mX4_toldAt 2 := ⟨q5_27, q2_234, q2_235, q1_4, q2_236, ⟨by decide +kernel, by decide +kernel, by decide +kernel⟩⟩
theorem wX6_284 : cV RX6 284 mX3_giveLatestBack 1 := ⟨q4_43, q4_44, q4_45, q1_6, q4_46, ⟨by decide +kernel, by decide +kernel, by decide +kernel⟩⟩
theorem wX6_192 : cV RX6 192 mX1_laughsNow 3 := ⟨q5_115, q4_16, q4_17, q1_2, q4_18, ⟨by decide +kernel, by decide +kernel, by decide +kernel⟩⟩
