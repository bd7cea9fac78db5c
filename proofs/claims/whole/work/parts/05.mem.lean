/-! FIELDS, ARRAYS, STATICS -/
theorem fw_ok0 : ∀ w ∈ u_ws RX0 TX0 5, w ∈ lw_tbl ∧ goodWord w = true := by decide +kernel
theorem fw_ok1 : ∀ w ∈ u_ws RX1 TX1 4, w ∈ lw_tbl ∧ goodWord w = true := by decide +kernel
theorem fw_ok2 : ∀ w ∈ u_ws RX2 TX2 10, w ∈ lw_tbl ∧ goodWord w = true := by decide +kernel
theorem fw_ok3 : ∀ w ∈ u_ws RX3 TX3 6, w ∈ lw_tbl ∧ goodWord w = true := by decide +kernel
theorem fw_ok4 : ∀ w ∈ u_ws RX4 TX4 9, w ∈ lw_tbl ∧ goodWord w = true := by decide +kernel
theorem fw_ok5 : ∀ w ∈ u_ws RX5 TX5 4, w ∈ lw_tbl ∧ goodWord w = true := by decide +kernel
theorem fw_ok6 : ∀ w ∈ u_ws RX6 TX6 11, w ∈ lw_tbl ∧ goodWord w = true := by decide +kernel
theorem fw_ok7 : ∀ w ∈ u_ws RX7 TX7 50, w ∈ lw_tbl ∧ goodWord w = true := by decide +kernel
def ClsOk (c : Nat) (q : vw_C) : Prop := (∀ k, k < q.2.2 → parseFieldDescriptor (q.2.1 k).2.2.1 = some (tyOf c k)) ∧ (∀ a, a < q.2.2 → ∀ b, b < q.2.2 → a ≠ b → (q.2.1 a).2.1 ≠ (q.2.1 b).2.1) ∧ q.2.2 = nfl c ∧ ∀ w ∈ u_ws q.1 q.2.1 q.2.2, w ∈ TB
theorem cls_ok {c : Nat} {q : vw_C} (h : classes[c]? = some q) : ClsOk c q := by
  match c, h with
  | 0, h => cases h; exact ⟨tyX0_ok, nmX0, rfl, fun w hw => List.mem_filter.mpr (fw_ok0 w hw)⟩
  | 1, h => cases h; exact ⟨tyX1_ok, nmX1, rfl, fun w hw => List.mem_filter.mpr (fw_ok1 w hw)⟩
  | 2, h => cases h; exact ⟨tyX2_ok, nmX2, rfl, fun w hw => List.mem_filter.mpr (fw_ok2 w hw)⟩
  | 3, h => cases h; exact ⟨tyX3_ok, nmX3, rfl, fun w hw => List.mem_filter.mpr (fw_ok3 w hw)⟩
  | 4, h => cases h; exact ⟨tyX4_ok, nmX4, rfl, fun w hw => List.mem_filter.mpr (fw_ok4 w hw)⟩
  | 5, h => cases h; exact ⟨tyX5_ok, nmX5, rfl, fun w hw => List.mem_filter.mpr (fw_ok5 w hw)⟩
  | 6, h => cases h; exact ⟨tyX6_ok, nmX6, rfl, fun w hw => List.mem_filter.mpr (fw_ok6 w hw)⟩
  | 7, h => cases h; exact ⟨tyX7_ok, nmX7, rfl, fun w hw => List.mem_filter.mpr (fw_ok7 w hw)⟩
  | n + 8, h => simp [classes] at h
/-- a field, by the index of the pool of a class -/
def FL (cls : String) (c fk idx : Nat) (fin : Bool) : Prop := ∃ q : vw_C, classes[c]? = some q ∧ fk < q.2.2 ∧ (q.2.1 fk).1 = q.1 ∧ (q.2.1 fk).2.2.2 = fin ∧ Cond.fieldLink cls idx q.1 (q.2.1 fk).2.1 (q.2.1 fk).2.2.1 ∈ TB
/-- an object of the world -/
theorem Wdy.ob {E : Ev} {M : Mem} {H : Heap} {a : Id} {c : Nat} (h : Wdy E M H) (hs : shp a = (0, c)) (ha : vld a = true) (hn : off a < mN M) : t_OB (ad E a) ((eD E).1 c) (nfl c) ((eD E).2 c) H (fval E M c a) := by
  have := h.2 a ha hn
  unfold cellAt at this
  rw [hs] at this
  exact this
theorem Wdy.ar1 {E : Ev} {M : Mem} {H : Heap} {a : Id} {n : Nat} (h : Wdy E M H) (hs : shp a = (1, n)) (ha : vld a = true) (hn : off a < mN M) : H[ad E a]? = some (arrV (eA E 0) n fun j => .int (mI M a j)) := by
  have := h.2 a ha hn
  unfold cellAt at this
  rw [hs] at this
  exact this
theorem Wdy.ar2 {E : Ev} {M : Mem} {H : Heap} {a : Id} {n : Nat} (h : Wdy E M H) (hs : shp a = (2, n)) (ha : vld a = true) (hn : off a < mN M) : H[ad E a]? = some (arrV (eA E 1) n fun j => .long (mJ M a j)) := by
  have := h.2 a ha hn
  unfold cellAt at this
  rw [hs] at this
  exact this
theorem Wdy.ar3 {E : Ev} {M : Mem} {H : Heap} {a : Id} {n : Nat} (h : Wdy E M H) (hs : shp a = (3, n)) (ha : vld a = true) (hn : off a < mN M) : H[ad E a]? = some (arrV (eA E 2) n fun j => orf E (mR M a j)) := by
  have := h.2 a ha hn
  unfold cellAt at this
  rw [hs] at this
  exact this
theorem Wdy.ar4 {E : Ev} {M : Mem} {H : Heap} {a : Id} {n : Nat} (h : Wdy E M H) (hs : shp a = (4, n)) (ha : vld a = true) (hn : off a < mN M) : H[ad E a]? = some (arrV (eA E 3) n fun j => orf E (mR M a j)) := by
  have := h.2 a ha hn
  unfold cellAt at this
  rw [hs] at this
  exact this
/-- an index that is a number below n -/
theorem ix_in {i : Int32} {j n : Nat} (hi : i = nI j) (hj : j < n) (hn : n < 2 ^ 31) : vp_in i n ∧ i.toNatClampNeg = j := by
  subst hi
  exact ⟨vp_in_nI hj hn, nI_clamp (by omega)⟩
theorem eZ_ad {E : Ev} {a : Id} : eZ E (ad E a) := Nat.le_add_right _ _
section RM
variable {E : Ev} {R : Room} {k : MK} {Z : ZT} {ca sl pc : Nat} {lv : List (Option AV)} {st : List AV} {M : Mem}
theorem g_getf {a : Id} {c fk idx : Nat} {fin : Bool} {v : AV} (hd : decode k.2.1 pc = .ok (.getfield idx, 3)) (hf : FL k.1.cls c fk idx fin) (hs : shp a = (0, c)) (ha : vld a = true) (hn : off a < mN M) (hv : fval E M c a fk = cv E v)
    (h : G E R k Z ca sl (pc + 3) lv (v :: st) M) : G E R k Z ca sl pc lv (vR a :: st) M := by
  intro p l e s m args below meth c0 H locs ls C hw hy hS hl
  obtain ⟨q, hc, hk, hC, -, hlink⟩ := hf
  obtain ⟨-, -, hN, hin⟩ := cls_ok hc
  have hts := C.2.2.2.2.2.2.1
  obtain ⟨cell, q1, q2, q3, q4⟩ := hy.ob hs ha hn
  obtain ⟨hSl, hfc, kC, hkC, hkind⟩ := hw.1 c _ hc
  obtain ⟨cf, kf, fi, f, hi, hsl⟩ := hSl fk hk
  rw [hC] at hi
  refine W.getf C.1 C.2.1 C.2.2.2.2.2.1 (hts _ hlink) hi (u_facts hfc hkC (u_lays hts hin hk) (by rw [hC]; exact hi)).1 q1 (by rw [q3]; exact fun h => by cases h) (v := cv E v) ?_ rfl rfl hd (h p l e s m args below meth c0 H locs ls C hw hy hS hl)
  rw [hsl, q4 fk (by rw [← hN]; exact hk), hv]
theorem g_getI {a : Id} {c fk idx : Nat} {fin : Bool} (hd : decode k.2.1 pc = .ok (.getfield idx, 3)) (hf : FL k.1.cls c fk idx fin) (hs : shp a = (0, c)) (ha : vld a = true) (hn : off a < mN M) (ht : fval E M c a fk = .int (mI M a fk))
    (h : G E R k Z ca sl (pc + 3) lv (vI (mI M a fk) :: st) M) : G E R k Z ca sl pc lv (vR a :: st) M := g_getf (v := vI (mI M a fk)) hd hf hs ha hn ht h
theorem g_getR {a b : Id} {c fk idx : Nat} {fin : Bool} (hd : decode k.2.1 pc = .ok (.getfield idx, 3)) (hf : FL k.1.cls c fk idx fin) (hs : shp a = (0, c)) (ha : vld a = true) (hn : off a < mN M) (hr : mR M a fk = some b) (ht : fval E M c a fk = orf E (mR M a fk))
    (h : G E R k Z ca sl (pc + 3) lv (vR b :: st) M) : G E R k Z ca sl pc lv (vR a :: st) M := g_getf (v := vR b) hd hf hs ha hn (by rw [ht, hr]; rfl) h
theorem g_putf {a : Id} {c fk idx : Nat} {v : AV} {M' : Mem} (hd : decode k.2.1 pc = .ok (.putfield idx, 3)) (hf : FL k.1.cls c fk idx false) (hs : shp a = (0, c)) (ha : vld a = true) (hn : off a < mN M)
    (hnar : narrow (tyOf c fk) (cv E v) = cv E v) (hfit : fits (tyOf c fk) (cv E v) = true) (hM : mN M' = mN M) (hk : ∀ b : Id, b ≠ a → mI M' b = mI M b ∧ mJ M' b = mJ M b ∧ mR M' b = mR M b) (hV : ∀ j, fval E M' c a j = if j = fk then cv E v else fval E M c a j)
    (h : G E R k Z ca sl (pc + 3) lv st M') : G E R k Z ca sl pc lv (v :: vR a :: st) M := by
  intro p l e s m args below meth c0 H locs ls C hw hy hS hl
  obtain ⟨q, hc, hkk, hC, hfin, hlink⟩ := hf
  obtain ⟨hty, hnm, hN, hin⟩ := cls_ok hc
  have hts := C.2.2.2.2.2.2.1
  have hK : va_K (eD E) classes [] s := ⟨hw.1, fun k q h => by simp at h⟩
  have hap := va_apart (own := k.1.cls) hts hin (tyOf c) hty hnm hK hc
  obtain ⟨cell, q1, q2, q3, q4⟩ := hy.ob hs ha hn
  rw [← hN] at q4
  obtain ⟨hSl, hfc, kC, hkC, hkind⟩ := hw.1 c _ hc
  obtain ⟨cf, kf, fi, f, hi, hsl⟩ := hSl fk hkk
  have hlay := hts _ (hin _ (u_in_lay hkk))
  unfold u_lay at hlay
  rw [if_neg (by rw [hfin]; decide)] at hlay
  have hst := (u_facts hfc hkC (u_lays hts hin hkk) hi).1
  have h6 := u_store hfc hkC hkind hlay hi (hty fk hkk) hnar hfit
  rw [hC] at hi
  refine W.putK C.1 C.2.1 (f := f) ⟨C.2.2.2.2.2.1, hts _ hlink, ⟨_, _, _, hi⟩, hst⟩ (by rw [q2]; exact h6) q1 q3 (by rw [hsl]; exact k2_hasslot (q4 fk hkk)) rfl rfl hd fun H' e1 e2 e3 => ?_
  rw [hsl] at e1 ⊢
  refine h p l e s m args below meth c0 H' _ ls C hw (hy.set ha hM e2 e3 ?_ hk) (hS.put e2 e3 eZ_ad) hl
  unfold cellAt
  rw [hs]
  exact t_OB.to (V := updV (fval E M c a) fk (cv E v)) ⟨_, e1, q2, q3, by rw [← hN]; exact t_set q4 hap hkk _⟩ (fun j _ => by rw [hV]; rfl)
theorem sI_hk {M : Mem} {a : Id} {k : Nat} {x : Int32} : ∀ b : Id, b ≠ a → mI (sI M a k x) b = mI M b ∧ mJ (sI M a k x) b = mJ M b ∧ mR (sI M a k x) b = mR M b := fun b hb => ⟨by funext j; simp [mI, sI, hb], rfl, rfl⟩
theorem sJ_hk {M : Mem} {a : Id} {k : Nat} {x : Int64} : ∀ b : Id, b ≠ a → mI (sJ M a k x) b = mI M b ∧ mJ (sJ M a k x) b = mJ M b ∧ mR (sJ M a k x) b = mR M b := fun b hb => ⟨rfl, by funext j; simp [mJ, sJ, hb], rfl⟩
theorem sR_hk {M : Mem} {a : Id} {k : Nat} {x : Option Id} : ∀ b : Id, b ≠ a → mI (sR M a k x) b = mI M b ∧ mJ (sR M a k x) b = mJ M b ∧ mR (sR M a k x) b = mR M b := fun b hb => ⟨rfl, rfl, by funext j; simp [mR, sR, hb]⟩
/-- of a field's type: 0 int, 1 boolean, 2 reference -/
def tk (c fk : Nat) : Nat := match tyOf c fk with
  | .int => 0
  | .boolean => 1
  | _ => 2
theorem fval_sI {E : Ev} {M : Mem} {c : Nat} {a : Id} {fk : Nat} {x : Int32} (h : tyOf c fk = .int ∨ tyOf c fk = .boolean) (j : Nat) : fval E (sI M a fk x) c a j = if j = fk then .int x else fval E M c a j := by
  by_cases hj : j = fk
  · subst hj
    rw [if_pos rfl]
    rcases h with h | h <;> simp [fval, h, mI, sI]
  · rw [if_neg hj]
    simp [fval, mI, mR, sI, hj]
theorem g_putI {a : Id} {c fk idx : Nat} {x : Int32} (hd : decode k.2.1 pc = .ok (.putfield idx, 3)) (hf : FL k.1.cls c fk idx false) (hs : shp a = (0, c)) (ha : vld a = true) (hn : off a < mN M) (ht : tyOf c fk = .int)
    (h : G E R k Z ca sl (pc + 3) lv st (sI M a fk x)) : G E R k Z ca sl pc lv (vI x :: vR a :: st) M :=
  g_putf (M' := sI M a fk x) hd hf hs ha hn (by rw [ht]; rfl) (by rw [ht]; rfl) rfl sI_hk (fun j => fval_sI (Or.inl ht) j) h
theorem nar_z {x : Int32} (h : x = 0 ∨ x = 1) : narrow .boolean (.int x) = .int x ∧ fits .boolean (.int x) = true := by
  rcases h with rfl | rfl <;> exact ⟨by decide +kernel, by decide +kernel⟩
theorem g_putZ {a : Id} {c fk idx : Nat} {x : Int32} (hd : decode k.2.1 pc = .ok (.putfield idx, 3)) (hf : FL k.1.cls c fk idx false) (hs : shp a = (0, c)) (ha : vld a = true) (hn : off a < mN M) (ht : tyOf c fk = .boolean) (hx : x = 0 ∨ x = 1)
    (h : G E R k Z ca sl (pc + 3) lv st (sI M a fk x)) : G E R k Z ca sl pc lv (vI x :: vR a :: st) M :=
  g_putf (M' := sI M a fk x) hd hf hs ha hn (by rw [ht]; exact (nar_z hx).1) (by rw [ht]; exact (nar_z hx).2) rfl sI_hk (fun j => fval_sI (Or.inr ht) j) h
/-! arrays -/
theorem g_iald {a : Id} {n j : Nat} {i : Int32} (hd : decode k.2.1 pc = .ok (.iaload, 1)) (hs : shp a = (1, n)) (ha : vld a = true) (hn : off a < mN M) (hi : i = nI j) (hj : j < n) (hn2 : n < 2 ^ 31)
    (h : G E R k Z ca sl (pc + 1) lv (vI (mI M a j) :: st) M) : G E R k Z ca sl pc lv (vI i :: vR a :: st) M := by
  intro p l e s m args below meth c0 H locs ls C hw hy hS hl
  obtain ⟨h1, h2⟩ := ix_in hi hj hn2
  exact W.iald (v := .int (mI M a j)) C.1 C.2.1 (hy.ar1 hs ha hn) (hw.2.1.1.1 n _) (fun q => by cases q) (by rw [arrV_size]; exact h1) (by rw [h2, arrV_read _ _ hj]) rfl rfl hd (h p l e s m args below meth c0 H locs ls C hw hy hS hl)
theorem g_lald {a : Id} {n j : Nat} {i : Int32} (hd : decode k.2.1 pc = .ok (.laload, 1)) (hs : shp a = (2, n)) (ha : vld a = true) (hn : off a < mN M) (hi : i = nI j) (hj : j < n) (hn2 : n < 2 ^ 31)
    (h : G E R k Z ca sl (pc + 1) lv (vL (mJ M a j) :: st) M) : G E R k Z ca sl pc lv (vI i :: vR a :: st) M := by
  intro p l e s m args below meth c0 H locs ls C hw hy hS hl
  obtain ⟨h1, h2⟩ := ix_in hi hj hn2
  exact W.lald (v := .long (mJ M a j)) C.1 C.2.1 (hy.ar2 hs ha hn) (hw.2.1.2.1.1 n _) (fun q => by cases q) (by rw [arrV_size]; exact h1) (by rw [h2, arrV_read _ _ hj]) rfl rfl hd (h p l e s m args below meth c0 H locs ls C hw hy hS hl)
theorem g_aald3 {a b : Id} {n j : Nat} {i : Int32} (hd : decode k.2.1 pc = .ok (.aaload, 1)) (hs : shp a = (3, n)) (ha : vld a = true) (hn : off a < mN M) (hi : i = nI j) (hj : j < n) (hn2 : n < 2 ^ 31) (hr : mR M a j = some b)
    (h : G E R k Z ca sl (pc + 1) lv (vR b :: st) M) : G E R k Z ca sl pc lv (vI i :: vR a :: st) M := by
  intro p l e s m args below meth c0 H locs ls C hw hy hS hl
  obtain ⟨h1, h2⟩ := ix_in hi hj hn2
  exact W.aald (v := .ref (ad E b)) (ty := .object RX2) C.1 C.2.1 (hy.ar3 hs ha hn) (hw.2.1.2.2.1.1 n _) rfl (fun q => by cases q) (by rw [arrV_size]; exact h1) (by rw [h2, arrV_read _ _ hj, hr]; rfl) rfl rfl hd (h p l e s m args below meth c0 H locs ls C hw hy hS hl)
theorem g_aald4 {a b : Id} {n j : Nat} {i : Int32} (hd : decode k.2.1 pc = .ok (.aaload, 1)) (hs : shp a = (4, n)) (ha : vld a = true) (hn : off a < mN M) (hi : i = nI j) (hj : j < n) (hn2 : n < 2 ^ 31) (hr : mR M a j = some b)
    (h : G E R k Z ca sl (pc + 1) lv (vR b :: st) M) : G E R k Z ca sl pc lv (vI i :: vR a :: st) M := by
  intro p l e s m args below meth c0 H locs ls C hw hy hS hl
  obtain ⟨h1, h2⟩ := ix_in hi hj hn2
  exact W.aald (v := .ref (ad E b)) (ty := .object RX5) C.1 C.2.1 (hy.ar4 hs ha hn) (hw.2.1.2.2.2.1 n _) rfl (fun q => by cases q) (by rw [arrV_size]; exact h1) (by rw [h2, arrV_read _ _ hj, hr]; rfl) rfl rfl hd (h p l e s m args below meth c0 H locs ls C hw hy hS hl)
theorem g_alen {a : Id} {t n : Nat} (hd : decode k.2.1 pc = .ok (.arraylength, 1)) (hs : shp a = (t, n)) (ht : t = 1 ∨ t = 2 ∨ t = 3 ∨ t = 4) (ha : vld a = true) (hn : off a < mN M)
    (h : G E R k Z ca sl (pc + 1) lv (vI (nI n) :: st) M) : G E R k Z ca sl pc lv (vR a :: st) M := by
  intro p l e s m args below meth c0 H locs ls C hw hy hS hl
  have hk := h p l e s m args below meth c0 H locs ls C hw hy hS hl
  rcases ht with rfl | rfl | rfl | rfl
  · exact W.alen C.1 C.2.1 (hy.ar1 hs ha hn) (hw.2.1.1.1 n _) (by rw [arrV_size]; rfl) rfl rfl hd hk
  · exact W.alen C.1 C.2.1 (hy.ar2 hs ha hn) (hw.2.1.2.1.1 n _) (by rw [arrV_size]; rfl) rfl rfl hd hk
  · exact W.alen C.1 C.2.1 (hy.ar3 hs ha hn) (hw.2.1.2.2.1.1 n _) (by rw [arrV_size]; rfl) rfl rfl hd hk
  · exact W.alen C.1 C.2.1 (hy.ar4 hs ha hn) (hw.2.1.2.2.2.1 n _) (by rw [arrV_size]; rfl) rfl rfl hd hk
theorem g_iast {a : Id} {n j : Nat} {i x : Int32} (hd : decode k.2.1 pc = .ok (.iastore, 1)) (hs : shp a = (1, n)) (ha : vld a = true) (hn : off a < mN M) (hi : i = nI j) (hj : j < n) (hn2 : n < 2 ^ 31)
    (h : G E R k Z ca sl (pc + 1) lv st (sI M a j x)) : G E R k Z ca sl pc lv (vI x :: vI i :: vR a :: st) M := by
  intro p l e s m args below meth c0 H locs ls C hw hy hS hl
  obtain ⟨h1, h2⟩ := ix_in hi hj hn2
  refine W.iast C.1 C.2.1 (hy.ar1 hs ha hn) (hw.2.1.1.1 n _) (fun q => by cases q) (by rw [arrV_size]; exact h1) rfl rfl hd fun H1 e1 z oq => ?_
  refine h p l e s m args below meth c0 H1 _ ls C hw (hy.set ha rfl z oq ?_ sI_hk) (hS.put z oq eZ_ad) hl
  unfold cellAt
  rw [hs]
  show H1[_]? = _
  rw [e1, h2, arrV_store]
  congr 2
  funext q
  by_cases hq : q = j
  · subst hq; simp [updV, mI, sI]
  · simp [updV, mI, sI, hq]
theorem g_last {a : Id} {n j : Nat} {i : Int32} {x : Int64} (hd : decode k.2.1 pc = .ok (.lastore, 1)) (hs : shp a = (2, n)) (ha : vld a = true) (hn : off a < mN M) (hi : i = nI j) (hj : j < n) (hn2 : n < 2 ^ 31)
    (h : G E R k Z ca sl (pc + 1) lv st (sJ M a j x)) : G E R k Z ca sl pc lv (vL x :: vI i :: vR a :: st) M := by
  intro p l e s m args below meth c0 H locs ls C hw hy hS hl
  obtain ⟨h1, h2⟩ := ix_in hi hj hn2
  refine W.last C.1 C.2.1 (hy.ar2 hs ha hn) (hw.2.1.2.1.1 n _) (fun q => by cases q) (by rw [arrV_size]; exact h1) rfl rfl hd fun H1 e1 z oq => ?_
  refine h p l e s m args below meth c0 H1 _ ls C hw (hy.set ha rfl z oq ?_ sJ_hk) (hS.put z oq eZ_ad) hl
  unfold cellAt
  rw [hs]
  show H1[_]? = _
  rw [e1, h2, arrV_store]
  congr 2
  funext q
  by_cases hq : q = j
  · subst hq; simp [updV, mJ, sJ]
  · simp [updV, mJ, sJ, hq]
end RM
