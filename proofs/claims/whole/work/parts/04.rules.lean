/-! THE RULES OF G -/
section RG
variable {E : Ev} {R : Room} {k : MK} {Z : ZT} {ca sl pc : Nat} {lv : List (Option AV)} {st : List AV} {M : Mem}
theorem G.pceq {pc' : Nat} (h : G E R k Z ca sl pc' lv st M) (e : pc = pc') : G E R k Z ca sl pc lv st M := e ▸ h
theorem g_iconst {n : Int} {v : Int32} (hd : decode k.2.1 pc = .ok (.iconst n, 1)) (hv : Int32.ofInt n = v) (h : G E R k Z ca sl (pc + 1) lv (vI v :: st) M) : G E R k Z ca sl pc lv (st) M :=
  fun p l e s m args below meth c H locs ls C hw hy hS hl => lv_iconst C.1 C.2.1 hd hv (h p l e s m args below meth c H locs ls C hw hy hS hl)
theorem g_bipush {n : Int} {v : Int32} (hd : decode k.2.1 pc = .ok (.bipush n, 2)) (hv : (Int8.ofInt n).toInt32 = v) (h : G E R k Z ca sl (pc + 2) lv (vI v :: st) M) : G E R k Z ca sl pc lv (st) M :=
  fun p l e s m args below meth c H locs ls C hw hy hS hl => lv_bipush C.1 C.2.1 hd hv (h p l e s m args below meth c H locs ls C hw hy hS hl)
theorem g_sipush {n : Int} {v : Int32} (hd : decode k.2.1 pc = .ok (.sipush n, 3)) (hv : (Int16.ofInt n).toInt32 = v) (h : G E R k Z ca sl (pc + 3) lv (vI v :: st) M) : G E R k Z ca sl pc lv (st) M :=
  fun p l e s m args below meth c H locs ls C hw hy hS hl => lv_sipush C.1 C.2.1 hd hv (h p l e s m args below meth c H locs ls C hw hy hS hl)
theorem g_lconst {n : Fin 2} {v : Int64} (hd : decode k.2.1 pc = .ok (.lconst n, 1)) (hv : Int64.ofNat (n : Nat) = v) (h : G E R k Z ca sl (pc + 1) lv (vL v :: st) M) : G E R k Z ca sl pc lv (st) M :=
  fun p l e s m args below meth c H locs ls C hw hy hS hl => lv_lconst C.1 C.2.1 hd hv (h p l e s m args below meth c H locs ls C hw hy hS hl)
theorem g_iload_n {f : Fin 4} {i : Nat} {x : Int32} (hd : decode k.2.1 pc = .ok (.iload_n f, 1)) (hi : (f : Nat) = i) (hv : lg lv i = some (vI x)) (h : G E R k Z ca sl (pc + 1) lv (vI x :: st) M) : G E R k Z ca sl pc lv st M :=
  fun p l e s m args below meth c H locs ls C hw hy hS hl => lv_iload_n C.1 C.2.1 hd hi (hl.at hv) (h p l e s m args below meth c H locs ls C hw hy hS hl)
theorem g_iload {i : Nat} {x : Int32} (hd : decode k.2.1 pc = .ok (.iload i, 2)) (hv : lg lv i = some (vI x)) (h : G E R k Z ca sl (pc + 2) lv (vI x :: st) M) : G E R k Z ca sl pc lv st M :=
  fun p l e s m args below meth c H locs ls C hw hy hS hl => lv_iload C.1 C.2.1 hd (hl.at hv) (h p l e s m args below meth c H locs ls C hw hy hS hl)
theorem g_lload_n {f : Fin 4} {i : Nat} {x : Int64} (hd : decode k.2.1 pc = .ok (.lload_n f, 1)) (hi : (f : Nat) = i) (hv : lg lv i = some (vL x)) (h : G E R k Z ca sl (pc + 1) lv (vL x :: st) M) : G E R k Z ca sl pc lv st M :=
  fun p l e s m args below meth c H locs ls C hw hy hS hl => lv_lload_n C.1 C.2.1 hd hi (hl.at hv) (h p l e s m args below meth c H locs ls C hw hy hS hl)
theorem g_lload {i : Nat} {x : Int64} (hd : decode k.2.1 pc = .ok (.lload i, 2)) (hv : lg lv i = some (vL x)) (h : G E R k Z ca sl (pc + 2) lv (vL x :: st) M) : G E R k Z ca sl pc lv st M :=
  fun p l e s m args below meth c H locs ls C hw hy hS hl => lv_lload C.1 C.2.1 hd (hl.at hv) (h p l e s m args below meth c H locs ls C hw hy hS hl)
theorem g_aloadR_n {f : Fin 4} {i : Nat} {x : Id} (hd : decode k.2.1 pc = .ok (.aload_n f, 1)) (hi : (f : Nat) = i) (hv : lg lv i = some (vR x)) (h : G E R k Z ca sl (pc + 1) lv (vR x :: st) M) : G E R k Z ca sl pc lv st M :=
  fun p l e s m args below meth c H locs ls C hw hy hS hl => lv_aload_n C.1 C.2.1 hd hi (hl.at hv) (h p l e s m args below meth c H locs ls C hw hy hS hl)
theorem g_aloadR {i : Nat} {x : Id} (hd : decode k.2.1 pc = .ok (.aload i, 2)) (hv : lg lv i = some (vR x)) (h : G E R k Z ca sl (pc + 2) lv (vR x :: st) M) : G E R k Z ca sl pc lv st M :=
  fun p l e s m args below meth c H locs ls C hw hy hS hl => lv_aload C.1 C.2.1 hd (hl.at hv) (h p l e s m args below meth c H locs ls C hw hy hS hl)
theorem g_aloadS_n {f : Fin 4} {i : Nat} {x : Nat} (hd : decode k.2.1 pc = .ok (.aload_n f, 1)) (hi : (f : Nat) = i) (hv : lg lv i = some (vS x)) (h : G E R k Z ca sl (pc + 1) lv (vS x :: st) M) : G E R k Z ca sl pc lv st M :=
  fun p l e s m args below meth c H locs ls C hw hy hS hl => lv_aload_n C.1 C.2.1 hd hi (hl.at hv) (h p l e s m args below meth c H locs ls C hw hy hS hl)
theorem g_aloadS {i : Nat} {x : Nat} (hd : decode k.2.1 pc = .ok (.aload i, 2)) (hv : lg lv i = some (vS x)) (h : G E R k Z ca sl (pc + 2) lv (vS x :: st) M) : G E R k Z ca sl pc lv st M :=
  fun p l e s m args below meth c H locs ls C hw hy hS hl => lv_aload C.1 C.2.1 hd (hl.at hv) (h p l e s m args below meth c H locs ls C hw hy hS hl)
theorem g_istore_n_g {f : Fin 4} {i : Nat} {x : Int32} (hd : decode k.2.1 pc = .ok (.istore_n f, 1)) (hi0 : (f : Nat) = i) (hi : i < lv.length) (hn : ∀ j, j + 1 = i → nl (lg lv j) = true) (h : G E R k Z ca sl (pc + 1) (lst lv i (some (vI x))) st M) : G E R k Z ca sl pc lv (vI x :: st) M :=
  fun p l e s m args below meth c H locs ls C hw hy hS hl => lv_istore_n C.1 C.2.1 hd hi0 hl.2 (by rw [← hl.1]; exact hi) rfl (fun ls' hl' => h p l e s m args below meth c H locs ls' C hw hy hS (hl.st1 hi hn hl'))
theorem g_istore_g {i : Nat} {x : Int32} (hd : decode k.2.1 pc = .ok (.istore i, 2)) (hi : i < lv.length) (hn : ∀ j, j + 1 = i → nl (lg lv j) = true) (h : G E R k Z ca sl (pc + 2) (lst lv i (some (vI x))) st M) : G E R k Z ca sl pc lv (vI x :: st) M :=
  fun p l e s m args below meth c H locs ls C hw hy hS hl => lv_istore C.1 C.2.1 hd hl.2 (by rw [← hl.1]; exact hi) rfl (fun ls' hl' => h p l e s m args below meth c H locs ls' C hw hy hS (hl.st1 hi hn hl'))
theorem g_astore_n_g {f : Fin 4} {i : Nat} {x : Id} (hd : decode k.2.1 pc = .ok (.astore_n f, 1)) (hi0 : (f : Nat) = i) (hi : i < lv.length) (hn : ∀ j, j + 1 = i → nl (lg lv j) = true) (h : G E R k Z ca sl (pc + 1) (lst lv i (some (vR x))) st M) : G E R k Z ca sl pc lv (vR x :: st) M :=
  fun p l e s m args below meth c H locs ls C hw hy hS hl => lv_astore_n C.1 C.2.1 hd hi0 hl.2 (by rw [← hl.1]; exact hi) rfl (fun ls' hl' => h p l e s m args below meth c H locs ls' C hw hy hS (hl.st1 hi hn hl'))
theorem g_astore_g {i : Nat} {x : Id} (hd : decode k.2.1 pc = .ok (.astore i, 2)) (hi : i < lv.length) (hn : ∀ j, j + 1 = i → nl (lg lv j) = true) (h : G E R k Z ca sl (pc + 2) (lst lv i (some (vR x))) st M) : G E R k Z ca sl pc lv (vR x :: st) M :=
  fun p l e s m args below meth c H locs ls C hw hy hS hl => lv_astore C.1 C.2.1 hd hl.2 (by rw [← hl.1]; exact hi) rfl (fun ls' hl' => h p l e s m args below meth c H locs ls' C hw hy hS (hl.st1 hi hn hl'))
theorem g_lstore_n_g {f : Fin 4} {i : Nat} {x : Int64} (hd : decode k.2.1 pc = .ok (.lstore_n f, 1)) (hi0 : (f : Nat) = i) (hi : i + 1 < lv.length) (hn : ∀ j, j + 1 = i → nl (lg lv j) = true) (h : G E R k Z ca sl (pc + 1) (lst (lst lv i (some (vL x))) (i + 1) none) st M) : G E R k Z ca sl pc lv (vL x :: st) M :=
  fun p l e s m args below meth c H locs ls C hw hy hS hl => lv_lstore_n C.1 C.2.1 hd hi0 hl.2 (by rw [← hl.1]; exact hi) rfl (fun ls' hl' => h p l e s m args below meth c H locs ls' C hw hy hS (hl.st2 (Nat.lt_of_succ_lt hi) hn hl'))
theorem g_lstore_g {i : Nat} {x : Int64} (hd : decode k.2.1 pc = .ok (.lstore i, 2)) (hi : i + 1 < lv.length) (hn : ∀ j, j + 1 = i → nl (lg lv j) = true) (h : G E R k Z ca sl (pc + 2) (lst (lst lv i (some (vL x))) (i + 1) none) st M) : G E R k Z ca sl pc lv (vL x :: st) M :=
  fun p l e s m args below meth c H locs ls C hw hy hS hl => lv_lstore C.1 C.2.1 hd hl.2 (by rw [← hl.1]; exact hi) rfl (fun ls' hl' => h p l e s m args below meth c H locs ls' C hw hy hS (hl.st2 (Nat.lt_of_succ_lt hi) hn hl'))
theorem g_iinc_g {i : Nat} {n : Int} {x v : Int32} (hd : decode k.2.1 pc = .ok (.iinc i n, 3)) (hi : i < lv.length) (hv : lg lv i = some (vI x)) (hn : ∀ j, j + 1 = i → nl (lg lv j) = true) (hx : x + Int32.ofInt n = v) (h : G E R k Z ca sl (pc + 3) (lst lv i (some (vI v))) st M) : G E R k Z ca sl pc lv st M := by
  intro p l e s m args below meth c H locs ls C hw hy hS hl
  obtain ⟨q, hq⟩ := List.getElem?_of_mem (mem_en.mpr ⟨vI x, Nat.zero_le _, (by rw [Nat.sub_zero]; exact hv), rfl⟩ : (i, cv E (vI x)) ∈ en E 0 lv)
  exact lv_iinc C.1 C.2.1 hd hl.2 hq hx (by rw [← hl.1]; exact hi) rfl (fun ls' hl' => h p l e s m args below meth c H locs ls' C hw hy hS (hl.st1 hi hn hl'))
theorem g_istore_0 {b : Option AV} {r : List (Option AV)} {x : Int32} (hd : decode k.2.1 pc = .ok (.istore_n 0, 1)) (h : G E R k Z ca sl (pc + 1) (some (vI x) :: r) st M) : G E R k Z ca sl pc (b :: r) (vI x :: st) M :=
  g_istore_n_g (i := 0) hd rfl (by simp) (fun j e => by cases e) h
theorem g_astore_0 {b : Option AV} {r : List (Option AV)} {x : Id} (hd : decode k.2.1 pc = .ok (.astore_n 0, 1)) (h : G E R k Z ca sl (pc + 1) (some (vR x) :: r) st M) : G E R k Z ca sl pc (b :: r) (vR x :: st) M :=
  g_astore_n_g (i := 0) hd rfl (by simp) (fun j e => by cases e) h
theorem g_iinc_0 {r : List (Option AV)} {n : Int} {x v : Int32} (hd : decode k.2.1 pc = .ok (.iinc 0 n, 3)) (hx : x + Int32.ofInt n = v) (h : G E R k Z ca sl (pc + 3) (some (vI v) :: r) st M) : G E R k Z ca sl pc (some (vI x) :: r) st M :=
  g_iinc_g (i := 0) hd (by simp) rfl (fun j e => by cases e) hx h
theorem g_istore_1 {a0 b : Option AV} {r : List (Option AV)} {x : Int32} (hd : decode k.2.1 pc = .ok (.istore_n 1, 1)) (hn : nl a0 = true) (h : G E R k Z ca sl (pc + 1) (a0 :: some (vI x) :: r) st M) : G E R k Z ca sl pc (a0 :: b :: r) (vI x :: st) M :=
  g_istore_n_g (i := 1) hd rfl (by simp) (fun j e => by cases e; exact hn) h
theorem g_astore_1 {a0 b : Option AV} {r : List (Option AV)} {x : Id} (hd : decode k.2.1 pc = .ok (.astore_n 1, 1)) (hn : nl a0 = true) (h : G E R k Z ca sl (pc + 1) (a0 :: some (vR x) :: r) st M) : G E R k Z ca sl pc (a0 :: b :: r) (vR x :: st) M :=
  g_astore_n_g (i := 1) hd rfl (by simp) (fun j e => by cases e; exact hn) h
theorem g_iinc_1 {a0 : Option AV} {r : List (Option AV)} {n : Int} {x v : Int32} (hd : decode k.2.1 pc = .ok (.iinc 1 n, 3)) (hn : nl a0 = true) (hx : x + Int32.ofInt n = v) (h : G E R k Z ca sl (pc + 3) (a0 :: some (vI v) :: r) st M) : G E R k Z ca sl pc (a0 :: some (vI x) :: r) st M :=
  g_iinc_g (i := 1) hd (by simp) rfl (fun j e => by cases e; exact hn) hx h
theorem g_istore_2 {a0 a1 b : Option AV} {r : List (Option AV)} {x : Int32} (hd : decode k.2.1 pc = .ok (.istore_n 2, 1)) (hn : nl a1 = true) (h : G E R k Z ca sl (pc + 1) (a0 :: a1 :: some (vI x) :: r) st M) : G E R k Z ca sl pc (a0 :: a1 :: b :: r) (vI x :: st) M :=
  g_istore_n_g (i := 2) hd rfl (by simp) (fun j e => by cases e; exact hn) h
theorem g_astore_2 {a0 a1 b : Option AV} {r : List (Option AV)} {x : Id} (hd : decode k.2.1 pc = .ok (.astore_n 2, 1)) (hn : nl a1 = true) (h : G E R k Z ca sl (pc + 1) (a0 :: a1 :: some (vR x) :: r) st M) : G E R k Z ca sl pc (a0 :: a1 :: b :: r) (vR x :: st) M :=
  g_astore_n_g (i := 2) hd rfl (by simp) (fun j e => by cases e; exact hn) h
theorem g_iinc_2 {a0 a1 : Option AV} {r : List (Option AV)} {n : Int} {x v : Int32} (hd : decode k.2.1 pc = .ok (.iinc 2 n, 3)) (hn : nl a1 = true) (hx : x + Int32.ofInt n = v) (h : G E R k Z ca sl (pc + 3) (a0 :: a1 :: some (vI v) :: r) st M) : G E R k Z ca sl pc (a0 :: a1 :: some (vI x) :: r) st M :=
  g_iinc_g (i := 2) hd (by simp) rfl (fun j e => by cases e; exact hn) hx h
theorem g_istore_3 {a0 a1 a2 b : Option AV} {r : List (Option AV)} {x : Int32} (hd : decode k.2.1 pc = .ok (.istore_n 3, 1)) (hn : nl a2 = true) (h : G E R k Z ca sl (pc + 1) (a0 :: a1 :: a2 :: some (vI x) :: r) st M) : G E R k Z ca sl pc (a0 :: a1 :: a2 :: b :: r) (vI x :: st) M :=
  g_istore_n_g (i := 3) hd rfl (by simp) (fun j e => by cases e; exact hn) h
theorem g_astore_3 {a0 a1 a2 b : Option AV} {r : List (Option AV)} {x : Id} (hd : decode k.2.1 pc = .ok (.astore_n 3, 1)) (hn : nl a2 = true) (h : G E R k Z ca sl (pc + 1) (a0 :: a1 :: a2 :: some (vR x) :: r) st M) : G E R k Z ca sl pc (a0 :: a1 :: a2 :: b :: r) (vR x :: st) M :=
  g_astore_n_g (i := 3) hd rfl (by simp) (fun j e => by cases e; exact hn) h
theorem g_iinc_3 {a0 a1 a2 : Option AV} {r : List (Option AV)} {n : Int} {x v : Int32} (hd : decode k.2.1 pc = .ok (.iinc 3 n, 3)) (hn : nl a2 = true) (hx : x + Int32.ofInt n = v) (h : G E R k Z ca sl (pc + 3) (a0 :: a1 :: a2 :: some (vI v) :: r) st M) : G E R k Z ca sl pc (a0 :: a1 :: a2 :: some (vI x) :: r) st M :=
  g_iinc_g (i := 3) hd (by simp) rfl (fun j e => by cases e; exact hn) hx h
theorem g_istore_4 {a0 a1 a2 a3 b : Option AV} {r : List (Option AV)} {x : Int32} (hd : decode k.2.1 pc = .ok (.istore 4, 2)) (hn : nl a3 = true) (h : G E R k Z ca sl (pc + 2) (a0 :: a1 :: a2 :: a3 :: some (vI x) :: r) st M) : G E R k Z ca sl pc (a0 :: a1 :: a2 :: a3 :: b :: r) (vI x :: st) M :=
  g_istore_g (i := 4) hd (by simp) (fun j e => by cases e; exact hn) h
theorem g_astore_4 {a0 a1 a2 a3 b : Option AV} {r : List (Option AV)} {x : Id} (hd : decode k.2.1 pc = .ok (.astore 4, 2)) (hn : nl a3 = true) (h : G E R k Z ca sl (pc + 2) (a0 :: a1 :: a2 :: a3 :: some (vR x) :: r) st M) : G E R k Z ca sl pc (a0 :: a1 :: a2 :: a3 :: b :: r) (vR x :: st) M :=
  g_astore_g (i := 4) hd (by simp) (fun j e => by cases e; exact hn) h
theorem g_iinc_4 {a0 a1 a2 a3 : Option AV} {r : List (Option AV)} {n : Int} {x v : Int32} (hd : decode k.2.1 pc = .ok (.iinc 4 n, 3)) (hn : nl a3 = true) (hx : x + Int32.ofInt n = v) (h : G E R k Z ca sl (pc + 3) (a0 :: a1 :: a2 :: a3 :: some (vI v) :: r) st M) : G E R k Z ca sl pc (a0 :: a1 :: a2 :: a3 :: some (vI x) :: r) st M :=
  g_iinc_g (i := 4) hd (by simp) rfl (fun j e => by cases e; exact hn) hx h
theorem g_istore_5 {a0 a1 a2 a3 a4 b : Option AV} {r : List (Option AV)} {x : Int32} (hd : decode k.2.1 pc = .ok (.istore 5, 2)) (hn : nl a4 = true) (h : G E R k Z ca sl (pc + 2) (a0 :: a1 :: a2 :: a3 :: a4 :: some (vI x) :: r) st M) : G E R k Z ca sl pc (a0 :: a1 :: a2 :: a3 :: a4 :: b :: r) (vI x :: st) M :=
  g_istore_g (i := 5) hd (by simp) (fun j e => by cases e; exact hn) h
theorem g_astore_5 {a0 a1 a2 a3 a4 b : Option AV} {r : List (Option AV)} {x : Id} (hd : decode k.2.1 pc = .ok (.astore 5, 2)) (hn : nl a4 = true) (h : G E R k Z ca sl (pc + 2) (a0 :: a1 :: a2 :: a3 :: a4 :: some (vR x) :: r) st M) : G E R k Z ca sl pc (a0 :: a1 :: a2 :: a3 :: a4 :: b :: r) (vR x :: st) M :=
  g_astore_g (i := 5) hd (by simp) (fun j e => by cases e; exact hn) h
theorem g_iinc_5 {a0 a1 a2 a3 a4 : Option AV} {r : List (Option AV)} {n : Int} {x v : Int32} (hd : decode k.2.1 pc = .ok (.iinc 5 n, 3)) (hn : nl a4 = true) (hx : x + Int32.ofInt n = v) (h : G E R k Z ca sl (pc + 3) (a0 :: a1 :: a2 :: a3 :: a4 :: some (vI v) :: r) st M) : G E R k Z ca sl pc (a0 :: a1 :: a2 :: a3 :: a4 :: some (vI x) :: r) st M :=
  g_iinc_g (i := 5) hd (by simp) rfl (fun j e => by cases e; exact hn) hx h
theorem g_istore_6 {a0 a1 a2 a3 a4 a5 b : Option AV} {r : List (Option AV)} {x : Int32} (hd : decode k.2.1 pc = .ok (.istore 6, 2)) (hn : nl a5 = true) (h : G E R k Z ca sl (pc + 2) (a0 :: a1 :: a2 :: a3 :: a4 :: a5 :: some (vI x) :: r) st M) : G E R k Z ca sl pc (a0 :: a1 :: a2 :: a3 :: a4 :: a5 :: b :: r) (vI x :: st) M :=
  g_istore_g (i := 6) hd (by simp) (fun j e => by cases e; exact hn) h
theorem g_astore_6 {a0 a1 a2 a3 a4 a5 b : Option AV} {r : List (Option AV)} {x : Id} (hd : decode k.2.1 pc = .ok (.astore 6, 2)) (hn : nl a5 = true) (h : G E R k Z ca sl (pc + 2) (a0 :: a1 :: a2 :: a3 :: a4 :: a5 :: some (vR x) :: r) st M) : G E R k Z ca sl pc (a0 :: a1 :: a2 :: a3 :: a4 :: a5 :: b :: r) (vR x :: st) M :=
  g_astore_g (i := 6) hd (by simp) (fun j e => by cases e; exact hn) h
theorem g_iinc_6 {a0 a1 a2 a3 a4 a5 : Option AV} {r : List (Option AV)} {n : Int} {x v : Int32} (hd : decode k.2.1 pc = .ok (.iinc 6 n, 3)) (hn : nl a5 = true) (hx : x + Int32.ofInt n = v) (h : G E R k Z ca sl (pc + 3) (a0 :: a1 :: a2 :: a3 :: a4 :: a5 :: some (vI v) :: r) st M) : G E R k Z ca sl pc (a0 :: a1 :: a2 :: a3 :: a4 :: a5 :: some (vI x) :: r) st M :=
  g_iinc_g (i := 6) hd (by simp) rfl (fun j e => by cases e; exact hn) hx h
theorem g_istore_7 {a0 a1 a2 a3 a4 a5 a6 b : Option AV} {r : List (Option AV)} {x : Int32} (hd : decode k.2.1 pc = .ok (.istore 7, 2)) (hn : nl a6 = true) (h : G E R k Z ca sl (pc + 2) (a0 :: a1 :: a2 :: a3 :: a4 :: a5 :: a6 :: some (vI x) :: r) st M) : G E R k Z ca sl pc (a0 :: a1 :: a2 :: a3 :: a4 :: a5 :: a6 :: b :: r) (vI x :: st) M :=
  g_istore_g (i := 7) hd (by simp) (fun j e => by cases e; exact hn) h
theorem g_astore_7 {a0 a1 a2 a3 a4 a5 a6 b : Option AV} {r : List (Option AV)} {x : Id} (hd : decode k.2.1 pc = .ok (.astore 7, 2)) (hn : nl a6 = true) (h : G E R k Z ca sl (pc + 2) (a0 :: a1 :: a2 :: a3 :: a4 :: a5 :: a6 :: some (vR x) :: r) st M) : G E R k Z ca sl pc (a0 :: a1 :: a2 :: a3 :: a4 :: a5 :: a6 :: b :: r) (vR x :: st) M :=
  g_astore_g (i := 7) hd (by simp) (fun j e => by cases e; exact hn) h
theorem g_iinc_7 {a0 a1 a2 a3 a4 a5 a6 : Option AV} {r : List (Option AV)} {n : Int} {x v : Int32} (hd : decode k.2.1 pc = .ok (.iinc 7 n, 3)) (hn : nl a6 = true) (hx : x + Int32.ofInt n = v) (h : G E R k Z ca sl (pc + 3) (a0 :: a1 :: a2 :: a3 :: a4 :: a5 :: a6 :: some (vI v) :: r) st M) : G E R k Z ca sl pc (a0 :: a1 :: a2 :: a3 :: a4 :: a5 :: a6 :: some (vI x) :: r) st M :=
  g_iinc_g (i := 7) hd (by simp) rfl (fun j e => by cases e; exact hn) hx h
theorem g_istore_8 {a0 a1 a2 a3 a4 a5 a6 a7 b : Option AV} {r : List (Option AV)} {x : Int32} (hd : decode k.2.1 pc = .ok (.istore 8, 2)) (hn : nl a7 = true) (h : G E R k Z ca sl (pc + 2) (a0 :: a1 :: a2 :: a3 :: a4 :: a5 :: a6 :: a7 :: some (vI x) :: r) st M) : G E R k Z ca sl pc (a0 :: a1 :: a2 :: a3 :: a4 :: a5 :: a6 :: a7 :: b :: r) (vI x :: st) M :=
  g_istore_g (i := 8) hd (by simp) (fun j e => by cases e; exact hn) h
theorem g_astore_8 {a0 a1 a2 a3 a4 a5 a6 a7 b : Option AV} {r : List (Option AV)} {x : Id} (hd : decode k.2.1 pc = .ok (.astore 8, 2)) (hn : nl a7 = true) (h : G E R k Z ca sl (pc + 2) (a0 :: a1 :: a2 :: a3 :: a4 :: a5 :: a6 :: a7 :: some (vR x) :: r) st M) : G E R k Z ca sl pc (a0 :: a1 :: a2 :: a3 :: a4 :: a5 :: a6 :: a7 :: b :: r) (vR x :: st) M :=
  g_astore_g (i := 8) hd (by simp) (fun j e => by cases e; exact hn) h
theorem g_iinc_8 {a0 a1 a2 a3 a4 a5 a6 a7 : Option AV} {r : List (Option AV)} {n : Int} {x v : Int32} (hd : decode k.2.1 pc = .ok (.iinc 8 n, 3)) (hn : nl a7 = true) (hx : x + Int32.ofInt n = v) (h : G E R k Z ca sl (pc + 3) (a0 :: a1 :: a2 :: a3 :: a4 :: a5 :: a6 :: a7 :: some (vI v) :: r) st M) : G E R k Z ca sl pc (a0 :: a1 :: a2 :: a3 :: a4 :: a5 :: a6 :: a7 :: some (vI x) :: r) st M :=
  g_iinc_g (i := 8) hd (by simp) rfl (fun j e => by cases e; exact hn) hx h
theorem g_istore_9 {a0 a1 a2 a3 a4 a5 a6 a7 a8 b : Option AV} {r : List (Option AV)} {x : Int32} (hd : decode k.2.1 pc = .ok (.istore 9, 2)) (hn : nl a8 = true) (h : G E R k Z ca sl (pc + 2) (a0 :: a1 :: a2 :: a3 :: a4 :: a5 :: a6 :: a7 :: a8 :: some (vI x) :: r) st M) : G E R k Z ca sl pc (a0 :: a1 :: a2 :: a3 :: a4 :: a5 :: a6 :: a7 :: a8 :: b :: r) (vI x :: st) M :=
  g_istore_g (i := 9) hd (by simp) (fun j e => by cases e; exact hn) h
theorem g_astore_9 {a0 a1 a2 a3 a4 a5 a6 a7 a8 b : Option AV} {r : List (Option AV)} {x : Id} (hd : decode k.2.1 pc = .ok (.astore 9, 2)) (hn : nl a8 = true) (h : G E R k Z ca sl (pc + 2) (a0 :: a1 :: a2 :: a3 :: a4 :: a5 :: a6 :: a7 :: a8 :: some (vR x) :: r) st M) : G E R k Z ca sl pc (a0 :: a1 :: a2 :: a3 :: a4 :: a5 :: a6 :: a7 :: a8 :: b :: r) (vR x :: st) M :=
  g_astore_g (i := 9) hd (by simp) (fun j e => by cases e; exact hn) h
theorem g_iinc_9 {a0 a1 a2 a3 a4 a5 a6 a7 a8 : Option AV} {r : List (Option AV)} {n : Int} {x v : Int32} (hd : decode k.2.1 pc = .ok (.iinc 9 n, 3)) (hn : nl a8 = true) (hx : x + Int32.ofInt n = v) (h : G E R k Z ca sl (pc + 3) (a0 :: a1 :: a2 :: a3 :: a4 :: a5 :: a6 :: a7 :: a8 :: some (vI v) :: r) st M) : G E R k Z ca sl pc (a0 :: a1 :: a2 :: a3 :: a4 :: a5 :: a6 :: a7 :: a8 :: some (vI x) :: r) st M :=
  g_iinc_g (i := 9) hd (by simp) rfl (fun j e => by cases e; exact hn) hx h
theorem g_istore_10 {a0 a1 a2 a3 a4 a5 a6 a7 a8 a9 b : Option AV} {r : List (Option AV)} {x : Int32} (hd : decode k.2.1 pc = .ok (.istore 10, 2)) (hn : nl a9 = true) (h : G E R k Z ca sl (pc + 2) (a0 :: a1 :: a2 :: a3 :: a4 :: a5 :: a6 :: a7 :: a8 :: a9 :: some (vI x) :: r) st M) : G E R k Z ca sl pc (a0 :: a1 :: a2 :: a3 :: a4 :: a5 :: a6 :: a7 :: a8 :: a9 :: b :: r) (vI x :: st) M :=
  g_istore_g (i := 10) hd (by simp) (fun j e => by cases e; exact hn) h
theorem g_astore_10 {a0 a1 a2 a3 a4 a5 a6 a7 a8 a9 b : Option AV} {r : List (Option AV)} {x : Id} (hd : decode k.2.1 pc = .ok (.astore 10, 2)) (hn : nl a9 = true) (h : G E R k Z ca sl (pc + 2) (a0 :: a1 :: a2 :: a3 :: a4 :: a5 :: a6 :: a7 :: a8 :: a9 :: some (vR x) :: r) st M) : G E R k Z ca sl pc (a0 :: a1 :: a2 :: a3 :: a4 :: a5 :: a6 :: a7 :: a8 :: a9 :: b :: r) (vR x :: st) M :=
  g_astore_g (i := 10) hd (by simp) (fun j e => by cases e; exact hn) h
theorem g_iinc_10 {a0 a1 a2 a3 a4 a5 a6 a7 a8 a9 : Option AV} {r : List (Option AV)} {n : Int} {x v : Int32} (hd : decode k.2.1 pc = .ok (.iinc 10 n, 3)) (hn : nl a9 = true) (hx : x + Int32.ofInt n = v) (h : G E R k Z ca sl (pc + 3) (a0 :: a1 :: a2 :: a3 :: a4 :: a5 :: a6 :: a7 :: a8 :: a9 :: some (vI v) :: r) st M) : G E R k Z ca sl pc (a0 :: a1 :: a2 :: a3 :: a4 :: a5 :: a6 :: a7 :: a8 :: a9 :: some (vI x) :: r) st M :=
  g_iinc_g (i := 10) hd (by simp) rfl (fun j e => by cases e; exact hn) hx h
theorem g_istore_11 {a0 a1 a2 a3 a4 a5 a6 a7 a8 a9 a10 b : Option AV} {r : List (Option AV)} {x : Int32} (hd : decode k.2.1 pc = .ok (.istore 11, 2)) (hn : nl a10 = true) (h : G E R k Z ca sl (pc + 2) (a0 :: a1 :: a2 :: a3 :: a4 :: a5 :: a6 :: a7 :: a8 :: a9 :: a10 :: some (vI x) :: r) st M) : G E R k Z ca sl pc (a0 :: a1 :: a2 :: a3 :: a4 :: a5 :: a6 :: a7 :: a8 :: a9 :: a10 :: b :: r) (vI x :: st) M :=
  g_istore_g (i := 11) hd (by simp) (fun j e => by cases e; exact hn) h
theorem g_astore_11 {a0 a1 a2 a3 a4 a5 a6 a7 a8 a9 a10 b : Option AV} {r : List (Option AV)} {x : Id} (hd : decode k.2.1 pc = .ok (.astore 11, 2)) (hn : nl a10 = true) (h : G E R k Z ca sl (pc + 2) (a0 :: a1 :: a2 :: a3 :: a4 :: a5 :: a6 :: a7 :: a8 :: a9 :: a10 :: some (vR x) :: r) st M) : G E R k Z ca sl pc (a0 :: a1 :: a2 :: a3 :: a4 :: a5 :: a6 :: a7 :: a8 :: a9 :: a10 :: b :: r) (vR x :: st) M :=
  g_astore_g (i := 11) hd (by simp) (fun j e => by cases e; exact hn) h
theorem g_iinc_11 {a0 a1 a2 a3 a4 a5 a6 a7 a8 a9 a10 : Option AV} {r : List (Option AV)} {n : Int} {x v : Int32} (hd : decode k.2.1 pc = .ok (.iinc 11 n, 3)) (hn : nl a10 = true) (hx : x + Int32.ofInt n = v) (h : G E R k Z ca sl (pc + 3) (a0 :: a1 :: a2 :: a3 :: a4 :: a5 :: a6 :: a7 :: a8 :: a9 :: a10 :: some (vI v) :: r) st M) : G E R k Z ca sl pc (a0 :: a1 :: a2 :: a3 :: a4 :: a5 :: a6 :: a7 :: a8 :: a9 :: a10 :: some (vI x) :: r) st M :=
  g_iinc_g (i := 11) hd (by simp) rfl (fun j e => by cases e; exact hn) hx h
theorem g_iadd {x y : Int32} (hd : decode k.2.1 pc = .ok (.iadd, 1)) (h : G E R k Z ca sl (pc + 1) lv (vI (x + y) :: st) M) : G E R k Z ca sl pc lv (vI y :: vI x :: st) M :=
  fun p l e s m args below meth c H locs ls C hw hy hS hl => lv_iadd C.1 C.2.1 hd (h p l e s m args below meth c H locs ls C hw hy hS hl)
theorem g_isub {x y : Int32} (hd : decode k.2.1 pc = .ok (.isub, 1)) (h : G E R k Z ca sl (pc + 1) lv (vI (x - y) :: st) M) : G E R k Z ca sl pc lv (vI y :: vI x :: st) M :=
  fun p l e s m args below meth c H locs ls C hw hy hS hl => lv_isub C.1 C.2.1 hd (h p l e s m args below meth c H locs ls C hw hy hS hl)
theorem g_imul {x y : Int32} (hd : decode k.2.1 pc = .ok (.imul, 1)) (h : G E R k Z ca sl (pc + 1) lv (vI (x * y) :: st) M) : G E R k Z ca sl pc lv (vI y :: vI x :: st) M :=
  fun p l e s m args below meth c H locs ls C hw hy hS hl => lv_imul C.1 C.2.1 hd (h p l e s m args below meth c H locs ls C hw hy hS hl)
theorem g_iand {x y : Int32} (hd : decode k.2.1 pc = .ok (.iand, 1)) (h : G E R k Z ca sl (pc + 1) lv (vI (x &&& y) :: st) M) : G E R k Z ca sl pc lv (vI y :: vI x :: st) M :=
  fun p l e s m args below meth c H locs ls C hw hy hS hl => lv_iand C.1 C.2.1 hd (h p l e s m args below meth c H locs ls C hw hy hS hl)
theorem g_ior {x y : Int32} (hd : decode k.2.1 pc = .ok (.ior, 1)) (h : G E R k Z ca sl (pc + 1) lv (vI (x ||| y) :: st) M) : G E R k Z ca sl pc lv (vI y :: vI x :: st) M :=
  fun p l e s m args below meth c H locs ls C hw hy hS hl => lv_ior C.1 C.2.1 hd (h p l e s m args below meth c H locs ls C hw hy hS hl)
theorem g_ixor {x y : Int32} (hd : decode k.2.1 pc = .ok (.ixor, 1)) (h : G E R k Z ca sl (pc + 1) lv (vI (x ^^^ y) :: st) M) : G E R k Z ca sl pc lv (vI y :: vI x :: st) M :=
  fun p l e s m args below meth c H locs ls C hw hy hS hl => lv_ixor C.1 C.2.1 hd (h p l e s m args below meth c H locs ls C hw hy hS hl)
theorem g_ineg {x : Int32} (hd : decode k.2.1 pc = .ok (.ineg, 1)) (h : G E R k Z ca sl (pc + 1) lv (vI (-x) :: st) M) : G E R k Z ca sl pc lv (vI x :: st) M :=
  fun p l e s m args below meth c H locs ls C hw hy hS hl => lv_ineg C.1 C.2.1 hd (h p l e s m args below meth c H locs ls C hw hy hS hl)
theorem g_idiv {x y : Int32} (hd : decode k.2.1 pc = .ok (.idiv, 1)) (hne : ¬ y = 0) (h : G E R k Z ca sl (pc + 1) lv (vI (x / y) :: st) M) : G E R k Z ca sl pc lv (vI y :: vI x :: st) M :=
  fun p l e s m args below meth c H locs ls C hw hy hS hl => lv_idiv C.1 C.2.1 hd hne (h p l e s m args below meth c H locs ls C hw hy hS hl)
theorem g_irem {x y : Int32} (hd : decode k.2.1 pc = .ok (.irem, 1)) (hne : ¬ y = 0) (h : G E R k Z ca sl (pc + 1) lv (vI (x - x / y * y) :: st) M) : G E R k Z ca sl pc lv (vI y :: vI x :: st) M :=
  fun p l e s m args below meth c H locs ls C hw hy hS hl => lv_irem C.1 C.2.1 hd hne (h p l e s m args below meth c H locs ls C hw hy hS hl)
theorem g_ladd {x y : Int64} (hd : decode k.2.1 pc = .ok (.ladd, 1)) (h : G E R k Z ca sl (pc + 1) lv (vL (x + y) :: st) M) : G E R k Z ca sl pc lv (vL y :: vL x :: st) M :=
  fun p l e s m args below meth c H locs ls C hw hy hS hl => lv_ladd C.1 C.2.1 hd (h p l e s m args below meth c H locs ls C hw hy hS hl)
theorem g_land {x y : Int64} (hd : decode k.2.1 pc = .ok (.land, 1)) (h : G E R k Z ca sl (pc + 1) lv (vL (x &&& y) :: st) M) : G E R k Z ca sl pc lv (vL y :: vL x :: st) M :=
  fun p l e s m args below meth c H locs ls C hw hy hS hl => lv_land C.1 C.2.1 hd (h p l e s m args below meth c H locs ls C hw hy hS hl)
theorem g_lor {x y : Int64} (hd : decode k.2.1 pc = .ok (.lor, 1)) (h : G E R k Z ca sl (pc + 1) lv (vL (x ||| y) :: st) M) : G E R k Z ca sl pc lv (vL y :: vL x :: st) M :=
  fun p l e s m args below meth c H locs ls C hw hy hS hl => lv_lor C.1 C.2.1 hd (h p l e s m args below meth c H locs ls C hw hy hS hl)
theorem g_ishl {x y : Int32} (hd : decode k.2.1 pc = .ok (.ishl, 1)) (h : G E R k Z ca sl (pc + 1) lv (vI (x <<< (y &&& 31)) :: st) M) : G E R k Z ca sl pc lv (vI y :: vI x :: st) M :=
  fun p l e s m args below meth c H locs ls C hw hy hS hl => lv_ishl C.1 C.2.1 hd (h p l e s m args below meth c H locs ls C hw hy hS hl)
theorem g_ishr {x y : Int32} (hd : decode k.2.1 pc = .ok (.ishr, 1)) (h : G E R k Z ca sl (pc + 1) lv (vI (x >>> (y &&& 31)) :: st) M) : G E R k Z ca sl pc lv (vI y :: vI x :: st) M :=
  fun p l e s m args below meth c H locs ls C hw hy hS hl => lv_ishr C.1 C.2.1 hd (h p l e s m args below meth c H locs ls C hw hy hS hl)
theorem g_i2l {x : Int32} (hd : decode k.2.1 pc = .ok (.i2l, 1)) (h : G E R k Z ca sl (pc + 1) lv (vL x.toInt64 :: st) M) : G E R k Z ca sl pc lv (vI x :: st) M :=
  fun p l e s m args below meth c H locs ls C hw hy hS hl => lv_i2l C.1 C.2.1 hd rfl (h p l e s m args below meth c H locs ls C hw hy hS hl)
theorem g_l2i {x : Int64} (hd : decode k.2.1 pc = .ok (.l2i, 1)) (h : G E R k Z ca sl (pc + 1) lv (vI x.toInt32 :: st) M) : G E R k Z ca sl pc lv (vL x :: st) M :=
  fun p l e s m args below meth c H locs ls C hw hy hS hl => lv_l2i C.1 C.2.1 hd rfl (h p l e s m args below meth c H locs ls C hw hy hS hl)
theorem g_i2b {x : Int32} (hd : decode k.2.1 pc = .ok (.i2b, 1)) (h : G E R k Z ca sl (pc + 1) lv (vI x.toInt8.toInt32 :: st) M) : G E R k Z ca sl pc lv (vI x :: st) M :=
  fun p l e s m args below meth c H locs ls C hw hy hS hl => lv_i2b C.1 C.2.1 hd rfl (h p l e s m args below meth c H locs ls C hw hy hS hl)
theorem g_i2s {x : Int32} (hd : decode k.2.1 pc = .ok (.i2s, 1)) (h : G E R k Z ca sl (pc + 1) lv (vI x.toInt16.toInt32 :: st) M) : G E R k Z ca sl pc lv (vI x :: st) M :=
  fun p l e s m args below meth c H locs ls C hw hy hS hl => lv_i2s C.1 C.2.1 hd rfl (h p l e s m args below meth c H locs ls C hw hy hS hl)
theorem g_iushr {x y : Int32} (hd : decode k.2.1 pc = .ok (.iushr, 1)) (h : G E R k Z ca sl (pc + 1) lv (vI (x.toUInt32 >>> (y.toUInt32 &&& Int32.toUInt32 31)).toInt32 :: st) M) : G E R k Z ca sl pc lv (vI y :: vI x :: st) M :=
  fun p l e s m args below meth c H locs ls C hw hy hS hl => lv_iushr C.1 C.2.1 hd rfl (h p l e s m args below meth c H locs ls C hw hy hS hl)
theorem g_lshl {x : Int64} {y : Int32} (hd : decode k.2.1 pc = .ok (.lshl, 1)) (h : G E R k Z ca sl (pc + 1) lv (vL (x <<< (y.toInt64 &&& 63)) :: st) M) : G E R k Z ca sl pc lv (vI y :: vL x :: st) M :=
  fun p l e s m args below meth c H locs ls C hw hy hS hl => lv_lshl C.1 C.2.1 hd rfl (h p l e s m args below meth c H locs ls C hw hy hS hl)
theorem cv_cat1 {E : Ev} {v : AV} (h : nl (some v) = true) : (cv E v).category = 1 := by
  rcases v with x | x | x | x | x <;> first | rfl | cases h
theorem g_dup {v : AV} (hd : decode k.2.1 pc = .ok (.dup, 1)) (hv : nl (some v) = true) (h : G E R k Z ca sl (pc + 1) lv (v :: v :: st) M) : G E R k Z ca sl pc lv (v :: st) M :=
  fun p l e s m args below meth c H locs ls C hw hy hS hl => lv_dup C.1 C.2.1 hd (cv_cat1 hv) (h p l e s m args below meth c H locs ls C hw hy hS hl)
theorem g_pop {v : AV} (hd : decode k.2.1 pc = .ok (.pop, 1)) (hv : nl (some v) = true) (h : G E R k Z ca sl (pc + 1) lv st M) : G E R k Z ca sl pc lv (v :: st) M :=
  fun p l e s m args below meth c H locs ls C hw hy hS hl => lv_pop C.1 C.2.1 hd (cv_cat1 hv) (h p l e s m args below meth c H locs ls C hw hy hS hl)
theorem g_dup2 {v w : AV} (hd : decode k.2.1 pc = .ok (.dup2, 1)) (hv : nl (some v) = true) (hw0 : nl (some w) = true) (h : G E R k Z ca sl (pc + 1) lv (v :: w :: v :: w :: st) M) : G E R k Z ca sl pc lv (v :: w :: st) M :=
  fun p l e s m args below meth c H locs ls C hw hy hS hl => lv_dup2_11 C.1 C.2.1 hd (cv_cat1 hv) (cv_cat1 hw0) (h p l e s m args below meth c H locs ls C hw hy hS hl)
theorem g_dup_x1 {v w : AV} (hd : decode k.2.1 pc = .ok (.dup_x1, 1)) (hv : nl (some v) = true) (hw0 : nl (some w) = true) (h : G E R k Z ca sl (pc + 1) lv (v :: w :: v :: st) M) : G E R k Z ca sl pc lv (v :: w :: st) M :=
  fun p l e s m args below meth c H locs ls C hw hy hS hl => lv_dup_x1 C.1 C.2.1 hd (cv_cat1 hv) (cv_cat1 hw0) (h p l e s m args below meth c H locs ls C hw hy hS hl)
theorem g_goto {o : Int} {tgt : Nat} (hd : decode k.2.1 pc = .ok (.goto o, 3)) (ht : (pc : Int) + o = (tgt : Int)) (h : G E R k Z ca sl tgt lv st M) : G E R k Z ca sl pc lv st M :=
  fun p l e s m args below meth c H locs ls C hw hy hS hl => lv_goto C.1 C.2.1 hd ht (h p l e s m args below meth c H locs ls C hw hy hS hl)
theorem g_if_eq {x : Int32} {o : Int} {tgt : Nat} (hd : decode k.2.1 pc = .ok (.ifCond .eq o, 3)) (ht : (pc : Int) + o = (tgt : Int)) (h1 : x = 0 → G E R k Z ca sl tgt lv st M) (h2 : ¬ x = 0 → G E R k Z ca sl (pc + 3) lv st M) : G E R k Z ca sl pc lv (vI x :: st) M :=
  fun p l e s m args below meth c H locs ls C hw hy hS hl => lv_if_eq C.1 C.2.1 hd ht (fun q => h1 q p l e s m args below meth c H locs ls C hw hy hS hl) (fun q => h2 q p l e s m args below meth c H locs ls C hw hy hS hl)
theorem g_if_ne {x : Int32} {o : Int} {tgt : Nat} (hd : decode k.2.1 pc = .ok (.ifCond .ne o, 3)) (ht : (pc : Int) + o = (tgt : Int)) (h1 : ¬ x = 0 → G E R k Z ca sl tgt lv st M) (h2 : x = 0 → G E R k Z ca sl (pc + 3) lv st M) : G E R k Z ca sl pc lv (vI x :: st) M :=
  fun p l e s m args below meth c H locs ls C hw hy hS hl => lv_if_ne C.1 C.2.1 hd ht (fun q => h1 q p l e s m args below meth c H locs ls C hw hy hS hl) (fun q => h2 q p l e s m args below meth c H locs ls C hw hy hS hl)
theorem g_if_lt {x : Int32} {o : Int} {tgt : Nat} (hd : decode k.2.1 pc = .ok (.ifCond .lt o, 3)) (ht : (pc : Int) + o = (tgt : Int)) (h1 : x < 0 → G E R k Z ca sl tgt lv st M) (h2 : ¬ x < 0 → G E R k Z ca sl (pc + 3) lv st M) : G E R k Z ca sl pc lv (vI x :: st) M :=
  fun p l e s m args below meth c H locs ls C hw hy hS hl => lv_if_lt C.1 C.2.1 hd ht (fun q => h1 q p l e s m args below meth c H locs ls C hw hy hS hl) (fun q => h2 q p l e s m args below meth c H locs ls C hw hy hS hl)
theorem g_if_ge {x : Int32} {o : Int} {tgt : Nat} (hd : decode k.2.1 pc = .ok (.ifCond .ge o, 3)) (ht : (pc : Int) + o = (tgt : Int)) (h1 : 0 ≤ x → G E R k Z ca sl tgt lv st M) (h2 : ¬ 0 ≤ x → G E R k Z ca sl (pc + 3) lv st M) : G E R k Z ca sl pc lv (vI x :: st) M :=
  fun p l e s m args below meth c H locs ls C hw hy hS hl => lv_if_ge C.1 C.2.1 hd ht (fun q => h1 q p l e s m args below meth c H locs ls C hw hy hS hl) (fun q => h2 q p l e s m args below meth c H locs ls C hw hy hS hl)
theorem g_if_gt {x : Int32} {o : Int} {tgt : Nat} (hd : decode k.2.1 pc = .ok (.ifCond .gt o, 3)) (ht : (pc : Int) + o = (tgt : Int)) (h1 : 0 < x → G E R k Z ca sl tgt lv st M) (h2 : ¬ 0 < x → G E R k Z ca sl (pc + 3) lv st M) : G E R k Z ca sl pc lv (vI x :: st) M :=
  fun p l e s m args below meth c H locs ls C hw hy hS hl => lv_if_gt C.1 C.2.1 hd ht (fun q => h1 q p l e s m args below meth c H locs ls C hw hy hS hl) (fun q => h2 q p l e s m args below meth c H locs ls C hw hy hS hl)
theorem g_if_le {x : Int32} {o : Int} {tgt : Nat} (hd : decode k.2.1 pc = .ok (.ifCond .le o, 3)) (ht : (pc : Int) + o = (tgt : Int)) (h1 : x ≤ 0 → G E R k Z ca sl tgt lv st M) (h2 : ¬ x ≤ 0 → G E R k Z ca sl (pc + 3) lv st M) : G E R k Z ca sl pc lv (vI x :: st) M :=
  fun p l e s m args below meth c H locs ls C hw hy hS hl => lv_if_le C.1 C.2.1 hd ht (fun q => h1 q p l e s m args below meth c H locs ls C hw hy hS hl) (fun q => h2 q p l e s m args below meth c H locs ls C hw hy hS hl)
theorem g_icmp_eq {x y : Int32} {o : Int} {tgt : Nat} (hd : decode k.2.1 pc = .ok (.if_icmp .eq o, 3)) (ht : (pc : Int) + o = (tgt : Int)) (h1 : x = y → G E R k Z ca sl tgt lv st M) (h2 : ¬ x = y → G E R k Z ca sl (pc + 3) lv st M) : G E R k Z ca sl pc lv (vI y :: vI x :: st) M :=
  fun p l e s m args below meth c H locs ls C hw hy hS hl => lv_icmp_eq C.1 C.2.1 hd ht (fun q => h1 q p l e s m args below meth c H locs ls C hw hy hS hl) (fun q => h2 q p l e s m args below meth c H locs ls C hw hy hS hl)
theorem g_icmp_ne {x y : Int32} {o : Int} {tgt : Nat} (hd : decode k.2.1 pc = .ok (.if_icmp .ne o, 3)) (ht : (pc : Int) + o = (tgt : Int)) (h1 : ¬ x = y → G E R k Z ca sl tgt lv st M) (h2 : x = y → G E R k Z ca sl (pc + 3) lv st M) : G E R k Z ca sl pc lv (vI y :: vI x :: st) M :=
  fun p l e s m args below meth c H locs ls C hw hy hS hl => lv_icmp_ne C.1 C.2.1 hd ht (fun q => h1 q p l e s m args below meth c H locs ls C hw hy hS hl) (fun q => h2 q p l e s m args below meth c H locs ls C hw hy hS hl)
theorem g_icmp_lt {x y : Int32} {o : Int} {tgt : Nat} (hd : decode k.2.1 pc = .ok (.if_icmp .lt o, 3)) (ht : (pc : Int) + o = (tgt : Int)) (h1 : x < y → G E R k Z ca sl tgt lv st M) (h2 : ¬ x < y → G E R k Z ca sl (pc + 3) lv st M) : G E R k Z ca sl pc lv (vI y :: vI x :: st) M :=
  fun p l e s m args below meth c H locs ls C hw hy hS hl => lv_icmp_lt C.1 C.2.1 hd ht (fun q => h1 q p l e s m args below meth c H locs ls C hw hy hS hl) (fun q => h2 q p l e s m args below meth c H locs ls C hw hy hS hl)
theorem g_icmp_ge {x y : Int32} {o : Int} {tgt : Nat} (hd : decode k.2.1 pc = .ok (.if_icmp .ge o, 3)) (ht : (pc : Int) + o = (tgt : Int)) (h1 : y ≤ x → G E R k Z ca sl tgt lv st M) (h2 : ¬ y ≤ x → G E R k Z ca sl (pc + 3) lv st M) : G E R k Z ca sl pc lv (vI y :: vI x :: st) M :=
  fun p l e s m args below meth c H locs ls C hw hy hS hl => lv_icmp_ge C.1 C.2.1 hd ht (fun q => h1 q p l e s m args below meth c H locs ls C hw hy hS hl) (fun q => h2 q p l e s m args below meth c H locs ls C hw hy hS hl)
theorem g_icmp_gt {x y : Int32} {o : Int} {tgt : Nat} (hd : decode k.2.1 pc = .ok (.if_icmp .gt o, 3)) (ht : (pc : Int) + o = (tgt : Int)) (h1 : y < x → G E R k Z ca sl tgt lv st M) (h2 : ¬ y < x → G E R k Z ca sl (pc + 3) lv st M) : G E R k Z ca sl pc lv (vI y :: vI x :: st) M :=
  fun p l e s m args below meth c H locs ls C hw hy hS hl => lv_icmp_gt C.1 C.2.1 hd ht (fun q => h1 q p l e s m args below meth c H locs ls C hw hy hS hl) (fun q => h2 q p l e s m args below meth c H locs ls C hw hy hS hl)
theorem g_icmp_le {x y : Int32} {o : Int} {tgt : Nat} (hd : decode k.2.1 pc = .ok (.if_icmp .le o, 3)) (ht : (pc : Int) + o = (tgt : Int)) (h1 : x ≤ y → G E R k Z ca sl tgt lv st M) (h2 : ¬ x ≤ y → G E R k Z ca sl (pc + 3) lv st M) : G E R k Z ca sl pc lv (vI y :: vI x :: st) M :=
  fun p l e s m args below meth c H locs ls C hw hy hS hl => lv_icmp_le C.1 C.2.1 hd ht (fun q => h1 q p l e s m args below meth c H locs ls C hw hy hS hl) (fun q => h2 q p l e s m args below meth c H locs ls C hw hy hS hl)
theorem g_tableOut {d lo hi : Int} {os : Array Int} {len : Nat} {x : Int32} {tgt : Nat} (hd : decode k.2.1 pc = .ok (.tableswitch d lo hi os, len)) (hx : x.toInt < lo ∨ hi < x.toInt) (ht : (pc : Int) + d = (tgt : Int)) (h : G E R k Z ca sl tgt lv st M) : G E R k Z ca sl pc lv (vI x :: st) M :=
  fun p l e s m args below meth c H locs ls C hw hy hS hl => lv_tableOut C.1 C.2.1 hd hx ht (h p l e s m args below meth c H locs ls C hw hy hS hl)
theorem g_tableIn {d lo hi : Int} {os : Array Int} {len : Nat} {x : Int32} {o : Int} {tgt : Nat} (hd : decode k.2.1 pc = .ok (.tableswitch d lo hi os, len)) (h1 : ¬ x.toInt < lo) (h2 : ¬ hi < x.toInt) (ho : os[(x.toInt - lo).toNat]? = some o) (ht : (pc : Int) + o = (tgt : Int)) (h : G E R k Z ca sl tgt lv st M) : G E R k Z ca sl pc lv (vI x :: st) M :=
  fun p l e s m args below meth c H locs ls C hw hy hS hl => lv_tableIn C.1 C.2.1 hd h1 h2 ho ht (h p l e s m args below meth c H locs ls C hw hy hS hl)
theorem g_lookup {d : Int} {ps : Array (Int × Int)} {len : Nat} {x : Int32} {o : Int} {tgt : Nat} (hd : decode k.2.1 pc = .ok (.lookupswitch d ps, len)) (hp : (ps.toList.zip (ps.toList.drop 1)).all (fun (a, next) => a.1 < next.1) = true) (ho : Op.lookupswitch.offset ps.toList d x.toInt = o) (ht : (pc : Int) + o = (tgt : Int)) (h : G E R k Z ca sl tgt lv st M) : G E R k Z ca sl pc lv (vI x :: st) M :=
  fun p l e s m args below meth c H locs ls C hw hy hS hl => lv_lookup C.1 C.2.1 hd hp ho ht (h p l e s m args below meth c H locs ls C hw hy hS hl)
theorem g_ldc {idx : Nat} {v : Int32} (hd : decode k.2.1 pc = .ok (.ldc idx, 2)) (hc : Jvm.Cond.constant k.1.cls idx v ∈ TB) (h : G E R k Z ca sl (pc + 2) lv (vI v :: st) M) : G E R k Z ca sl pc lv st M :=
  fun p l e s m args below meth c H locs ls C hw hy hS hl => lv_ldc C.1 C.2.1 C.2.2.2.2.2.1 (C.2.2.2.2.2.2.1 _ hc) hd (h p l e s m args below meth c H locs ls C hw hy hS hl)
theorem g_ldcw {idx : Nat} {v : Int32} (hd : decode k.2.1 pc = .ok (.ldc_w idx, 3)) (hc : Jvm.Cond.constant k.1.cls idx v ∈ TB) (h : G E R k Z ca sl (pc + 3) lv (vI v :: st) M) : G E R k Z ca sl pc lv st M :=
  fun p l e s m args below meth c H locs ls C hw hy hS hl => lv_ldcw C.1 C.2.1 C.2.2.2.2.2.1 (C.2.2.2.2.2.2.1 _ hc) hd (h p l e s m args below meth c H locs ls C hw hy hS hl)
theorem g_ldc2 {idx : Nat} {v : Int64} (hd : decode k.2.1 pc = .ok (.ldc2_w idx, 3)) (hc : Jvm.Cond.constantLong k.1.cls idx v ∈ TB) (h : G E R k Z ca sl (pc + 3) lv (vL v :: st) M) : G E R k Z ca sl pc lv st M :=
  fun p l e s m args below meth c H locs ls C hw hy hS hl => lv_ldc2 C.1 C.2.1 C.2.2.2.2.2.1 (C.2.2.2.2.2.2.1 _ hc) hd (h p l e s m args below meth c H locs ls C hw hy hS hl)
end RG
