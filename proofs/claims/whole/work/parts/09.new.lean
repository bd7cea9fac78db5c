/-! MAKING OBJECTS -/
/-- a thing is made: all of it is 0 or null -/
def nwM (M : Mem) (a : Id) : Mem := (fun b j => if b = a then 0 else M.1 b j, fun b j => if b = a then 0 else M.2.1 b j, fun b j => if b = a then none else M.2.2.1 b j, M.2.2.2 + 1)
theorem nwM_hk {M : Mem} {a : Id} : ∀ b : Id, b ≠ a → mI (nwM M a) b = mI M b ∧ mJ (nwM M a) b = mJ M b ∧ mR (nwM M a) b = mR M b := fun b hb => ⟨by funext j; simp [mI, nwM, hb], by funext j; simp [mJ, nwM, hb], by funext j; simp [mR, nwM, hb]⟩
theorem Wdy.push {E : Ev} {M : Mem} {H H' : Heap} {a : Id} (h : Wdy E M H) (ha : vld a = true) (hn : off a = mN M) (hz : H'.size = H.size + 1) (ho : ∀ q : Nat, q < H.size → H'[q]? = H[q]?) (hc : cellAt E (nwM M a) H' a) : Wdy E (nwM M a) H' := by
  refine ⟨by rw [hz, h.1]; rfl, fun b hb hbn => ?_⟩
  have hbn : off b < mN M + 1 := hbn
  by_cases hba : b = a
  · rw [hba]; exact hc
  · have hlt : off b < mN M := by
      rcases Nat.lt_or_ge (off b) (mN M) with q | q
      · exact q
      · exact absurd (vld_inj hb ha (by omega)) hba
    obtain ⟨k1, k2, k3⟩ := nwM_hk (M := M) b hba
    exact cellAt_congr (h.2 b hb hlt) (ho _ (by unfold ad; rw [h.1]; omega)) k1 k2 k3
theorem ad_sz {E : Ev} {M : Mem} {H : Heap} {a : Id} (h : Wdy E M H) (hn : off a = mN M) : H.size = ad E a := by unfold ad; rw [h.1, hn]
theorem va_S.push {A : Nat → Prop} {H0 H H1 : Heap} {locs : List Loc} (h : va_S A H0 H locs) (hz : H1.size = H.size + 1) (ho : ∀ q : Nat, q < H.size → H1[q]? = H[q]?) : va_S A H0 H1 locs :=
  ⟨by have := h.1; omega, fun x h1 h2 => (ho x (Nat.lt_of_lt_of_le h1 h.1)).trans (h.2.1 x h1 h2), h.2.2⟩
theorem nI_nn0 {n : Nat} (h : n < 2 ^ 31) : ¬ nI n < 0 := fun z => by
  rw [Int32.lt_iff_toInt_lt, nI_toInt h] at z
  have z0 : (0 : Int32).toInt = 0 := by decide
  omega
section RN
variable {E : Ev} {R : Room} {k : MK} {Z : ZT} {ca sl pc : Nat} {lv : List (Option AV)} {st : List AV} {M : Mem}
theorem dfv {ty : FieldType} (h : ty = .int ∨ ty = .boolean) : defaultValue ty = .int 0 := by rcases h with rfl | rfl <;> rfl
/-- the default of each field of the classes -/
def dfOk (c : Nat) : Prop := ∀ j, j < nfl c → defaultValue (tyOf c j) = (match tyOf c j with | .int => .int 0 | .boolean => .int 0 | _ => .null)
theorem df_all : ∀ c, c < 8 → dfOk c := by
  intro c hc j hj
  have : ∀ c, c < 8 → ∀ j, j < nfl c → tyOf c j = .int ∨ tyOf c j = .boolean ∨ (∃ n, tyOf c j = .object n) ∨ (∃ t, tyOf c j = .array t) := by
    intro c hc j hj
    have q : c = 0 ∨ c = 1 ∨ c = 2 ∨ c = 3 ∨ c = 4 ∨ c = 5 ∨ c = 6 ∨ c = 7 := by omega
    rcases hty : tyOf c j with _ | _ | _ | _ | _ | _ | _ | _ | n | t
    all_goals first
      | exact Or.inl rfl
      | exact Or.inr (Or.inl rfl)
      | exact Or.inr (Or.inr (Or.inl ⟨_, rfl⟩))
      | exact Or.inr (Or.inr (Or.inr ⟨_, rfl⟩))
      | skip
    all_goals
      exfalso
      have all : ∀ c, c < 8 → ∀ j, j < nfl c → (match tyOf c j with | .int => true | .boolean => true | .object _ => true | .array _ => true | _ => false) = true := by decide +kernel
      have z := all c hc j hj
      rw [hty] at z
      cases z
  rcases this c hc j hj with h | h | ⟨n, h⟩ | ⟨t, h⟩ <;> rw [h] <;> rfl
theorem fval_new {E : Ev} {M : Mem} {c : Nat} {a : Id} (hc : c < 8) {j : Nat} (hj : j < nfl c) : fval E (nwM M a) c a j = defaultValue (tyOf c j) := by
  rw [df_all c hc j hj]
  unfold fval
  have e1 : mI (nwM M a) a j = 0 := by simp [mI, nwM]
  have e2 : mR (nwM M a) a j = none := by simp [mR, nwM]
  rw [e1, e2]
  rfl
theorem g_new {a : Id} {c idx n : Nat} {q : vw_C} (hd : decode k.2.1 pc = .ok (.new idx, 3)) (hc : classes[c]? = some q) (hc8 : c < 8) (hs : shp a = (0, c)) (ha : vld a = true) (hn : off a = mN M)
    (hl : Cond.classLink k.1.cls idx q.1 ∈ TB) (hi : Cond.instantiable q.1 n ∈ TB) (hini : Cond.initialized q.1 ∈ TB) (hcells : ca + 1 ≤ R.cells) (hslots : sl + n ≤ R.slots)
    (h : G E R k Z (ca + 1) (sl + n) (pc + 3) lv (vR a :: st) (nwM M a)) : G E R k Z ca sl pc lv st M := by
  intro p l e s m args below meth c0 H locs ls C hw hy hS hl0
  have hts := C.2.2.2.2.2.2.1
  obtain ⟨hty, hnm, hN, hin⟩ := cls_ok hc
  have hKn := hw.1 c _ hc
  refine W.newcK C.1 C.2.1 C.2.2.2.2.2.1 (hts _ hl) (hts _ hi) (hts _ hini) rfl hd hcells hslots hKn.2.1 (ad_sz hy hn) fun H1 kC hkC e1 z1 o1 => ?_
  have hz : H1.size = H.size + 1 := by rw [z1, ad_sz hy hn]
  have ho : ∀ x : Nat, x < H.size → H1[x]? = H[x]? := fun x hx => o1 x (by rw [← ad_sz hy hn]; exact hx)
  refine h p l e s m args below meth c0 H1 locs ls C hw (hy.push ha hn hz ho ?_) (hS.push hz ho) hl0
  unfold cellAt
  rw [hs]
  have hb := u_born (tyOf c) hts hin hKn hkC e1 hty
  rw [hN] at hb
  exact hb.to (fun j hj => (fval_new hc8 hj).symm)
theorem g_newI {a : Id} {n : Nat} {x : Int32} (hd : decode k.2.1 pc = .ok (.newarray .int, 2)) (hx : x = nI n) (hs : shp a = (1, n)) (ha : vld a = true) (hn : off a = mN M) (hl : Cond.arrayClass .int ∈ TB) (hb : n * 4 ≤ 536870912) (hcells : ca + 1 ≤ R.cells) (hslots : sl + n ≤ R.slots)
    (h : G E R k Z (ca + 1) (sl + n) (pc + 2) lv (vR a :: st) (nwM M a)) : G E R k Z ca sl pc lv (vI x :: st) M := by
  intro p l e s m args below meth c0 H locs ls C hw hy hS hl0
  have hts := C.2.2.2.2.2.2.1
  subst hx
  have hnt : (nI n).toInt = (n : Int) := nI_toInt (by omega)
  refine va_newaK (atype := .int) C.1 C.2.1 (hts _ hl) rfl hd rfl (nI_nn0 (by omega)) (nI_clamp (by omega)) hb hcells hslots (ad_sz hy hn) fun H1 cA e1 z1 o1 hAr hNm => ?_
  have hz : H1.size = H.size + 1 := by rw [z1, ad_sz hy hn]
  have ho : ∀ x : Nat, x < H.size → H1[x]? = H[x]? := fun x hx => o1 x (by rw [← ad_sz hy hn]; exact hx)
  refine h p l e s m args below meth c0 H1 locs ls C hw (hy.push ha hn hz ho ?_) (hS.push hz ho) hl0
  unfold cellAt
  rw [hs]
  show H1[_]? = _
  have hcA : cA = eA E 0 := Option.some.inj (hNm.symm.trans hw.2.1.1.2)
  rw [e1, hcA]
  congr 2
  funext j
  simp [mI, nwM, newarray.typeOf, defaultValue]
theorem g_newL {a : Id} {n : Nat} {x : Int32} (hd : decode k.2.1 pc = .ok (.newarray .long, 2)) (hx : x = nI n) (hs : shp a = (2, n)) (ha : vld a = true) (hn : off a = mN M) (hl : Cond.arrayClass .long ∈ TB) (hb : n * 8 ≤ 536870912) (hcells : ca + 1 ≤ R.cells) (hslots : sl + n ≤ R.slots)
    (h : G E R k Z (ca + 1) (sl + n) (pc + 2) lv (vR a :: st) (nwM M a)) : G E R k Z ca sl pc lv (vI x :: st) M := by
  intro p l e s m args below meth c0 H locs ls C hw hy hS hl0
  have hts := C.2.2.2.2.2.2.1
  subst hx
  have hnt : (nI n).toInt = (n : Int) := nI_toInt (by omega)
  refine va_newaK (atype := .long) C.1 C.2.1 (hts _ hl) rfl hd rfl (nI_nn0 (by omega)) (nI_clamp (by omega)) hb hcells hslots (ad_sz hy hn) fun H1 cA e1 z1 o1 hAr hNm => ?_
  have hz : H1.size = H.size + 1 := by rw [z1, ad_sz hy hn]
  have ho : ∀ x : Nat, x < H.size → H1[x]? = H[x]? := fun x hx => o1 x (by rw [← ad_sz hy hn]; exact hx)
  refine h p l e s m args below meth c0 H1 locs ls C hw (hy.push ha hn hz ho ?_) (hS.push hz ho) hl0
  unfold cellAt
  rw [hs]
  show H1[_]? = _
  have hcA : cA = eA E 1 := Option.some.inj (hNm.symm.trans hw.2.1.2.1.2)
  rw [e1, hcA]
  congr 2
  funext j
  simp [mJ, nwM, newarray.typeOf, defaultValue]
/-- an array of references: t 3 Persons, 4 Shelves -/
theorem g_anew3 {a : Id} {n idx : Nat} {x : Int32} (hd : decode k.2.1 pc = .ok (.anewarray idx, 3)) (hx : x = nI n) (hs : shp a = (3, n)) (ha : vld a = true) (hn : off a = mN M) (hl : Cond.classLink k.1.cls idx RX2 ∈ TB) (hb : n * 4 ≤ 536870912) (hcells : ca + 1 ≤ R.cells) (hslots : sl + n ≤ R.slots)
    (h : G E R k Z (ca + 1) (sl + n) (pc + 3) lv (vR a :: st) (nwM M a)) : G E R k Z ca sl pc lv (vI x :: st) M := by
  intro p l e s m args below meth c0 H locs ls C hw hy hS hl0
  have hts := C.2.2.2.2.2.2.1
  subst hx
  have hnt : (nI n).toInt = (n : Int) := nI_toInt (by omega)
  have hnc : (nI n).toNatClampNeg = n := nI_clamp (by omega)
  refine W.anew C.1 C.2.1 C.2.2.2.2.2.1 (hts _ hl) (va_AO.use hw.2.2.1.2.1) rfl hd rfl (nI_nn0 (by omega)) (by rw [hnc]; exact hb) hcells (by rw [hnc]; exact hslots) fun cA kA comp f1 f2 f3 f4 => ?_
  rw [hnc]
  generalize hH1 : H.push ({ cls := cA, slots := Array.replicate n .null, vm := .none } : Cell) = H1
  have hz : H1.size = H.size + 1 := by rw [← hH1, Array.size_push]
  have ho : ∀ q : Nat, q < H.size → H1[q]? = H[q]? := fun q hq => by rw [← hH1, Array.getElem?_push, if_neg (Nat.ne_of_lt hq)]
  have e1 : H1[H.size]? = some (arrV cA n (fun _ => .null)) := by rw [← hH1, Array.getElem?_push_size, ← arrV_new]
  have hk := h p l e s m args below meth c0 H1 locs ls C hw (hy.push ha hn hz ho (by
    unfold cellAt
    rw [hs]
    show H1[_]? = _
    obtain ⟨kA2, comp2, g1, g2, g3, g4⟩ := hw.2.1.2.2.1.2
    have hcA : cA = eA E 2 := Option.some.inj (f1.symm.trans g4)
    rw [← ad_sz hy hn, e1, hcA]
    congr 2
    funext j
    simp [mR, nwM, orf])) (hS.push hz ho) hl0
  rw [ad_sz hy hn]
  exact hk
theorem g_anew4 {a : Id} {n idx : Nat} {x : Int32} (hd : decode k.2.1 pc = .ok (.anewarray idx, 3)) (hx : x = nI n) (hs : shp a = (4, n)) (ha : vld a = true) (hn : off a = mN M) (hl : Cond.classLink k.1.cls idx RX5 ∈ TB) (hb : n * 4 ≤ 536870912) (hcells : ca + 1 ≤ R.cells) (hslots : sl + n ≤ R.slots)
    (h : G E R k Z (ca + 1) (sl + n) (pc + 3) lv (vR a :: st) (nwM M a)) : G E R k Z ca sl pc lv (vI x :: st) M := by
  intro p l e s m args below meth c0 H locs ls C hw hy hS hl0
  have hts := C.2.2.2.2.2.2.1
  subst hx
  have hnt : (nI n).toInt = (n : Int) := nI_toInt (by omega)
  have hnc : (nI n).toNatClampNeg = n := nI_clamp (by omega)
  refine W.anew C.1 C.2.1 C.2.2.2.2.2.1 (hts _ hl) (va_AO.use hw.2.2.1.2.2) rfl hd rfl (nI_nn0 (by omega)) (by rw [hnc]; exact hb) hcells (by rw [hnc]; exact hslots) fun cA kA comp f1 f2 f3 f4 => ?_
  rw [hnc]
  generalize hH1 : H.push ({ cls := cA, slots := Array.replicate n .null, vm := .none } : Cell) = H1
  have hz : H1.size = H.size + 1 := by rw [← hH1, Array.size_push]
  have ho : ∀ q : Nat, q < H.size → H1[q]? = H[q]? := fun q hq => by rw [← hH1, Array.getElem?_push, if_neg (Nat.ne_of_lt hq)]
  have e1 : H1[H.size]? = some (arrV cA n (fun _ => .null)) := by rw [← hH1, Array.getElem?_push_size, ← arrV_new]
  have hk := h p l e s m args below meth c0 H1 locs ls C hw (hy.push ha hn hz ho (by
    unfold cellAt
    rw [hs]
    show H1[_]? = _
    obtain ⟨kA2, comp2, g1, g2, g3, g4⟩ := hw.2.1.2.2.2.2
    have hcA : cA = eA E 3 := Option.some.inj (f1.symm.trans g4)
    rw [← ad_sz hy hn, e1, hcA]
    congr 2
    funext j
    simp [mR, nwM, orf])) (hS.push hz ho) hl0
  rw [ad_sz hy hn]
  exact hk
/-- a final field that holds a reference, in a constructor -/
theorem g_putR {a b : Id} {c fk idx : Nat} (hd : decode k.2.1 pc = .ok (.putfield idx, 3)) (hf : FL k.1.cls c fk idx true) (hin2 : k.1.name = "<init>") (hcls : ∀ q : vw_C, classes[c]? = some q → q.1 = k.1.cls) (hs : shp a = (0, c)) (ha : vld a = true) (hn : off a < mN M)
    (ht : (match tyOf c fk with | .object _ => true | .array _ => true | _ => false) = true)
    (h : G E R k Z ca sl (pc + 3) lv st (sR M a fk (some b))) : G E R k Z ca sl pc lv (vR b :: vR a :: st) M := by
  intro p l e s m args below meth c0 H locs ls C hw hy hS hl
  obtain ⟨q, hc, hkk, hC, hfin, hlink⟩ := hf
  obtain ⟨hty, hnm, hN, hin⟩ := cls_ok hc
  have hts := C.2.2.2.2.2.2.1
  have hK : va_K (eD E) classes [] s := ⟨hw.1, fun k q h => by simp at h⟩
  have hap := va_apart (own := k.1.cls) hts hin (tyOf c) hty hnm hK hc
  obtain ⟨cell, q1, q2, q3, q4⟩ := hy.ob hs ha hn
  rw [← hN] at q4
  obtain ⟨hSl, hfc, kC, hkC, hkind⟩ := hw.1 c _ hc
  obtain ⟨cf, kf, fi, f, hi, hsl⟩ := hSl fk hkk
  have hlay := hts _ (hin _ (u_in_lay hkk))
  unfold u_lay at hlay
  rw [if_pos hfin] at hlay
  have hst := (u_facts hfc hkC (u_lays hts hin hkk) hi).1
  have hcf : m.cls = cf := by
    obtain ⟨_, _, c', _, _, _, -, -, hf', -, -, -, hown2, -⟩ := Cond.laysFinal_spec hlay
    have e1 : c' = cf := by have := hi.symm.trans hf'; simp at this; exact this.1.symm
    rw [hC, hcls q hc] at hown2
    rw [← e1]; exact Option.some.inj (C.2.2.2.2.2.1.symm.trans hown2)
  have hnr : narrow (tyOf c fk) (.ref (ad E b)) = .ref (ad E b) ∧ fits (tyOf c fk) (.ref (ad E b)) = true := by
    revert ht
    cases tyOf c fk <;> intro ht <;> first | (cases ht; done) | exact ⟨rfl, rfl⟩
  have h6 := u_fits hfc hkC hkind (Or.inr hlay) hi (hty fk hkk) hnr.1 hnr.2
  rw [hC] at hi
  refine W.putFinK C.1 C.2.1 (f := f) C.2.2.2.2.2.1 (hts _ hlink) hi hst hcf (C.2.2.2.2.2.2.2.trans hin2) (by rw [q2]; exact h6) q1 q3 (by rw [hsl]; exact k2_hasslot (q4 fk hkk)) rfl rfl hd fun H' e1 e2 e3 => ?_
  rw [hsl] at e1 ⊢
  refine h p l e s m args below meth c0 H' _ ls C hw (hy.set ha rfl e2 e3 ?_ sR_hk) (hS.put e2 e3 eZ_ad) hl
  unfold cellAt
  rw [hs]
  refine t_OB.to (V := updV (fval E M c a) fk (.ref (ad E b))) ⟨_, e1, q2, q3, by rw [← hN]; exact t_set q4 hap hkk _⟩ (fun j _ => ?_)
  unfold updV
  by_cases hj : j = fk
  · subst hj
    unfold fval
    have e : mR (sR M a j (some b)) a j = some b := by simp [mR, sR]
    rw [e]
    revert ht
    cases tyOf c j <;> intro ht <;> first | (cases ht; done) | simp [orf]
  · simp only [hj, if_false]
    unfold fval
    have e : mR (sR M a fk (some b)) a j = mR M a j := by simp [mR, sR, hj]
    rw [e]
    rfl
theorem g_aast3 {a b : Id} {n j : Nat} {i : Int32} (hd : decode k.2.1 pc = .ok (.aastore, 1)) (hs : shp a = (3, n)) (ha : vld a = true) (hn : off a < mN M) (hsb : shp b = (0, 2)) (hb : vld b = true) (hbn : off b < mN M) (hi : i = nI j) (hj : j < n) (hn2 : n < 2 ^ 31)
    (h : G E R k Z ca sl (pc + 1) lv st (sR M a j (some b))) : G E R k Z ca sl pc lv (vR b :: vI i :: vR a :: st) M := by
  intro p l e s m args below meth c0 H locs ls C hw hy hS hl
  obtain ⟨h1, h2⟩ := ix_in hi hj hn2
  obtain ⟨cellV, g1, g2, g3, -⟩ := hy.ob hsb hb hbn
  have hcls := (hw.1 2 (RX2, TX2, 10) rfl).2
  obtain ⟨kA, comp, k1, k2, k3, -⟩ := hw.2.1.2.2.1.2
  have hcomp : comp = (eD E).1 2 := Option.some.inj (k3.symm.trans hcls.1)
  subst hcomp
  obtain ⟨kC, hkC, -⟩ := hcls.2
  refine W.aast C.1 C.2.1 (hy.ar3 hs ha hn) (fun q h => by cases h) (fun h => by cases h) k1 k2 rfl hkC ⟨fun q => h1 (Or.inl q), by rw [arrV_size, h2]; exact hj⟩ g1 (fun q h => by rw [g3] at h; cases h) (by rw [g2]; exact hkC) (by rw [g2]; exact va_assign hcls) rfl rfl hd fun H1 e1 z oq => ?_
  refine h p l e s m args below meth c0 H1 _ ls C hw (hy.set ha rfl z oq ?_ sR_hk) (hS.put z oq eZ_ad) hl
  unfold cellAt
  rw [hs]
  show H1[_]? = _
  rw [e1, h2, arrV_store]
  congr 2
  funext q
  by_cases hq : q = j
  · subst hq; simp [updV, mR, sR, orf]
  · simp [updV, mR, sR, hq]
theorem g_aast4 {a b : Id} {n j : Nat} {i : Int32} (hd : decode k.2.1 pc = .ok (.aastore, 1)) (hs : shp a = (4, n)) (ha : vld a = true) (hn : off a < mN M) (hsb : shp b = (0, 5)) (hb : vld b = true) (hbn : off b < mN M) (hi : i = nI j) (hj : j < n) (hn2 : n < 2 ^ 31)
    (h : G E R k Z ca sl (pc + 1) lv st (sR M a j (some b))) : G E R k Z ca sl pc lv (vR b :: vI i :: vR a :: st) M := by
  intro p l e s m args below meth c0 H locs ls C hw hy hS hl
  obtain ⟨h1, h2⟩ := ix_in hi hj hn2
  obtain ⟨cellV, g1, g2, g3, -⟩ := hy.ob hsb hb hbn
  have hcls := (hw.1 5 (RX5, TX5, 4) rfl).2
  obtain ⟨kA, comp, k1, k2, k3, -⟩ := hw.2.1.2.2.2.2
  have hcomp : comp = (eD E).1 5 := Option.some.inj (k3.symm.trans hcls.1)
  subst hcomp
  obtain ⟨kC, hkC, -⟩ := hcls.2
  refine W.aast C.1 C.2.1 (hy.ar4 hs ha hn) (fun q h => by cases h) (fun h => by cases h) k1 k2 rfl hkC ⟨fun q => h1 (Or.inl q), by rw [arrV_size, h2]; exact hj⟩ g1 (fun q h => by rw [g3] at h; cases h) (by rw [g2]; exact hkC) (by rw [g2]; exact va_assign hcls) rfl rfl hd fun H1 e1 z oq => ?_
  refine h p l e s m args below meth c0 H1 _ ls C hw (hy.set ha rfl z oq ?_ sR_hk) (hS.put z oq eZ_ad) hl
  unfold cellAt
  rw [hs]
  show H1[_]? = _
  rw [e1, h2, arrV_store]
  congr 2
  funext q
  by_cases hq : q = j
  · subst hq; simp [updV, mR, sR, orf]
  · simp [updV, mR, sR, hq]
theorem g_oinit {a : Id} {idx : Nat} (hd : decode k.2.1 pc = .ok (.invokespecial idx, 3)) (hl0 : Cond.methodLink k.1.cls idx Lib.objectInit ∈ TB) (h1 : Cond.instanceMethod Lib.objectInit ∈ TB) (h2 : Cond.code Lib.objectInit ⟨#[0xb1]⟩ 1 none ∈ TB) (hR : 1 ≤ R.frames) (hL : (st.map vcat).sum + 12 ≤ R.locals)
    (h : G E R k Z ca sl (pc + 3) lv st M) : G E R k Z ca sl pc lv (vR a :: st) M := by
  intro p l e s m args below meth c0 H locs ls C hw hy hS hl
  have hts := C.2.2.2.2.2.2.1
  refine W.objInit C.1 C.2.1 C.2.2.2.2.2.1 (hts _ hl0) (hts _ h1) (hts _ h2) rfl (hl.2.1.trans C.2.2.1.symm) rfl hd hR ?_ (h p l e s m args below meth c0 H locs ls C hw hy hS hl)
  have hc : ((st.map (cv E)).map fun v => v.category).sum = (st.map vcat).sum := by rw [List.map_map]; congr 2; funext v; exact cv_vcat
  show 2 * 0 + _ + 12 ≤ _
  rw [hc]; omega
end RN
