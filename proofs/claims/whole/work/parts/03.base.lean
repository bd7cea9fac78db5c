/-! THE BASE: one memory of abstract objects for the class and the reference, and a judgement G over the machine -/
def TB : List Cond := lw_tbl.filter goodWord
theorem TB_of (i : Nat) {w : Cond} (h1 : lw_tbl[i]? = some w) (h2 : goodWord w = true) : w ∈ TB := List.mem_filter.mpr ⟨List.mem_of_getElem? h1, h2⟩
theorem TB_good {w : Cond} (h : w ∈ TB) : (w.onTables && w.keeps) = true ∨ ∃ ty, w = .arrayClass ty := good_of_word (List.mem_filter.mp h).2
theorem TB_hts {args : Array Value} {s : State} (h : ∀ w ∈ lw_tbl, w.before args s = true) : ∀ w ∈ TB, w.before args s = true := fun w hw => h w (List.mem_filter.mp hw).1
/-- the words on private members of nest mates -/
def NBf : List (String × Nat × String × String × String × String) := [(RX3, 102, "ThirdEvening", "KIND_ABOVE", "[I", "ThirdEvening"), (RX0, 39, "ThirdEvening", "KIND_ABOVE", "[I", "ThirdEvening")]
def NBm : List (String × Nat × MethodName × String) := [(RX4, 17, yX2_init, RX6), (RX6, 24, yX1_init, RX6), (RX6, 35, yX5_init, RX6), (RX6, 42, yX3_init, RX6), (RX6, 49, yX0_init, RX6), (RX3, 131, yX6_leastOf, RX6), (RX3, 134, yX6_mostOf, RX6), (RX4, 79, yX6_isIn, RX6), (RX4, 103, yX6_isUnder, RX6), (RX0, 46, yX6_kindAbove, RX6)]
def NBW (U : State) : Prop := ((∀ q ∈ NBf, va_Nw (.fieldLinkNest q.1 q.2.1 q.2.2.1 q.2.2.2.1 q.2.2.2.2.1 q.2.2.2.2.2) U) ∧ ∀ q ∈ NBm, va_Nw (.methodLinkNest q.1 q.2.1 q.2.2.1 q.2.2.2) U) ∧ va_AO RX2 U ∧ va_AO RX5 U
theorem NBW.warm {s U : State} (hW : s.WarmedH U.vm) (h : NBW s) : NBW U := ⟨⟨fun q hq => va_Nw.warmF hW (h.1.1 q hq), fun q hq => va_Nw.warmM hW (h.1.2 q hq)⟩, va_AO.moved hW.alike h.2.1, va_AO.moved hW.alike h.2.2⟩
theorem NBW.same {u U : State} (hv : u.vm = U.vm) (h : NBW u) : NBW U := ⟨⟨fun q hq => va_Nw.same rfl hv (h.1.1 q hq), fun q hq => va_Nw.same rfl hv (h.1.2 q hq)⟩, va_AO.moved (by rw [hv]; exact Vm.Alike.refl _) h.2.1, va_AO.moved (by rw [hv]; exact Vm.Alike.refl _) h.2.2⟩
/-! objects: by a sort of thing and two numbers -/
abbrev Id : Type := Nat × Nat × Nat
def sb (k : Nat) : Nat := if k = 3 then 45 else 1 + 13 * k
def off : Id → Nat
  | (0, _, _) => 0
  | (1, k, _) => sb k
  | (2, k, i) => if i = 10 then sb k + 2 else sb k + 3 + i
  | (3, k, _) => sb k + 1
  | (4, _, _) => 40
  | (5, s, _) => if s = 8 then 42 else 62 + 2 * s
  | (6, s, _) => if s = 8 then 43 else 63 + 2 * s
  | (7, _, _) => 41
  | (8, _, _) => 44
  | (9, _, _) => 58
  | (10, _, _) => 59
  | (11, _, _) => 60
  | (12, _, _) => 61
  | (20, _, _) => 78
  | (21, j, _) => 79 + j
  | _ => 0
def scIds (k : Nat) : List Id := (1, k, 0) :: (3, k, 0) :: (2, k, 10) :: (List.range 10).map fun i => (2, k, i)
def idTable : List Id := (0, 0, 0) :: (scIds 0 ++ scIds 1 ++ scIds 2 ++ [(4, 0, 0), (7, 0, 0), (5, 8, 0), (6, 8, 0), (8, 0, 0)] ++ scIds 3 ++ [(9, 0, 0), (10, 0, 0), (11, 0, 0), (12, 0, 0)] ++ (List.range 8).flatMap (fun s => [(5, s, 0), (6, s, 0)]) ++ [(20, 0, 0)] ++ (List.range 25).map (fun j => (21, j, 0)))
def vld (a : Id) : Bool := idTable[off a]? == some a
theorem idTable_length : idTable.length = 104 := by decide +kernel
theorem vld_inj {a b : Id} (ha : vld a = true) (hb : vld b = true) (h : off a = off b) : a = b := by
  simp only [vld, beq_iff_eq] at ha hb
  rw [h, hb] at ha
  exact (Option.some.inj ha).symm
theorem vld_sc {k : Nat} (hk : k < 4) : vld (1, k, 0) = true := by
  have : ∀ k, k < 4 → vld (1, k, 0) = true := by decide +kernel
  exact this k hk
theorem vld_pe {k i : Nat} (hk : k < 4) (hi : i < 11) : vld (2, k, i) = true := by
  have : ∀ k, k < 4 → ∀ i, i < 11 → vld (2, k, i) = true := by decide +kernel
  exact this k hk i hi
theorem vld_pp {k : Nat} (hk : k < 4) : vld (3, k, 0) = true := by
  have : ∀ k, k < 4 → vld (3, k, 0) = true := by decide +kernel
  exact this k hk
theorem vld_sh {k : Nat} (hk : k < 9) : vld (5, k, 0) = true := by
  have : ∀ k, k < 9 → vld (5, k, 0) = true := by decide +kernel
  exact this k hk
theorem vld_el {k : Nat} (hk : k < 9) : vld (6, k, 0) = true := by
  have : ∀ k, k < 9 → vld (6, k, 0) = true := by decide +kernel
  exact this k hk
/-- (0, c) an object of the c-th class, (1, n) ints, (2, n) longs, (3, n) Persons, (4, n) Shelves -/
def shp : Id → Nat × Nat
  | (0, _, _) => (0, 6)
  | (1, _, _) => (0, 4)
  | (2, _, _) => (0, 2)
  | (3, _, _) => (3, 10)
  | (4, _, _) => (0, 1)
  | (5, _, _) => (0, 5)
  | (6, _, _) => (2, 160)
  | (7, _, _) => (4, 8)
  | (8, _, _) => (0, 3)
  | (9, _, _) => (1, 160)
  | (10, _, _) => (0, 0)
  | (11, _, _) => (1, 20)
  | (12, _, _) => (1, 8)
  | (20, _, _) => (0, 7)
  | (21, 14, _) => (2, 1280)
  | (21, 15, _) => (2, 160)
  | (21, j, _) => (1, [8, 10, 10, 10, 10, 10, 10, 10, 10, 10, 8, 8, 8, 8, 0, 0, 48, 7, 4, 4, 100, 100, 100, 10, 20].getD j 0)
  | _ => (9, 0)
abbrev classes : List vw_C := [(RX0, TX0, 5), (RX1, TX1, 4), (RX2, TX2, 10), (RX3, TX3, 6), (RX4, TX4, 9), (RX5, TX5, 4), (RX6, TX6, 11), (RX7, TX7, 50)]
def tyOf (c : Nat) : Nat → FieldType := match c with
  | 0 => tyX0
  | 1 => tyX1
  | 2 => tyX2
  | 3 => tyX3
  | 4 => tyX4
  | 5 => tyX5
  | 6 => tyX6
  | _ => tyX7
/-- the memory: ints, longs, references (static once made), how many cells are made -/
abbrev Mem : Type := (Id → Nat → Int32) × (Id → Nat → Int64) × (Id → Nat → Option Id) × Nat
abbrev mI (M : Mem) : Id → Nat → Int32 := M.1
abbrev mJ (M : Mem) : Id → Nat → Int64 := M.2.1
abbrev mR (M : Mem) : Id → Nat → Option Id := M.2.2.1
abbrev mN (M : Mem) : Nat := M.2.2.2
/-- base, classes, array classes, places of what is only read, the script -/
abbrev Ev : Type := Nat × va_G × (Nat → ClassId) × (Nat → Nat) × Nat × (Nat → Int32)
abbrev eB (E : Ev) : Nat := E.1
abbrev eD (E : Ev) : va_G := E.2.1
abbrev eA (E : Ev) : Nat → ClassId := E.2.2.1
abbrev eR (E : Ev) : Nat → Nat := E.2.2.2.1
abbrev eL (E : Ev) : Nat := E.2.2.2.2.1
abbrev eX (E : Ev) : Nat → Int32 := E.2.2.2.2.2
def eZ (E : Ev) : Nat → Prop := fun q => eB E ≤ q
def ad (E : Ev) (a : Id) : Nat := eB E + off a
/-- values: int, long, object, something only read, null -/
abbrev AV : Type := Int32 ⊕ Int64 ⊕ Id ⊕ Nat ⊕ Unit
abbrev vI (x : Int32) : AV := .inl x
abbrev vL (x : Int64) : AV := .inr (.inl x)
abbrev vR (a : Id) : AV := .inr (.inr (.inl a))
abbrev vS (t : Nat) : AV := .inr (.inr (.inr (.inl t)))
abbrev vN : AV := .inr (.inr (.inr (.inr ())))
def cv (E : Ev) : AV → Value
  | .inl x => .int x
  | .inr (.inl x) => .long x
  | .inr (.inr (.inl a)) => .ref (ad E a)
  | .inr (.inr (.inr (.inl t))) => .ref (eR E t)
  | .inr (.inr (.inr (.inr _))) => .null
def orf (E : Ev) (r : Option Id) : Value := match r with
  | none => .null
  | some a => .ref (ad E a)
def fval (E : Ev) (M : Mem) (c : Nat) (a : Id) (k : Nat) : Value := match tyOf c k with
  | .int => .int (mI M a k)
  | .boolean => .int (mI M a k)
  | _ => orf E (mR M a k)
def nfl (c : Nat) : Nat := [5, 4, 10, 6, 9, 4, 11, 50].getD c 0
def cellAt (E : Ev) (M : Mem) (H : Heap) (a : Id) : Prop := match shp a with
  | (0, c) => t_OB (ad E a) ((eD E).1 c) (nfl c) ((eD E).2 c) H (fval E M c a)
  | (1, n) => H[ad E a]? = some (arrV (eA E 0) n fun j => .int (mI M a j))
  | (2, n) => H[ad E a]? = some (arrV (eA E 1) n fun j => .long (mJ M a j))
  | (3, n) => H[ad E a]? = some (arrV (eA E 2) n fun j => orf E (mR M a j))
  | (4, n) => H[ad E a]? = some (arrV (eA E 3) n fun j => orf E (mR M a j))
  | _ => True
/-- the static arrays -/
def roF (t : Nat) : String := ["KIND_ABOVE", "LEAST_SETTING", "MOST_SETTING", "BODIES"].getD t ""
def roC (t : Nat) : String := [RX6, RX6, RX6, RX0].getD t ""
def roV (t : Nat) : List Int32 := [[-1, 0, 0, 1, 2, 0, 3], [0, 0, 1, 0], [20, 9, 12, 10], [10, 11, 12, 20, -1, -1, -1, 30, -1, 40, -1, -1, -1, -1, 60, 51, -1, 50, 70, 71, -1]].getD t []
/-- the words of the Reader: seven String constants; eR E 10 on: the Strings, eR E 20 on: their bytes -/
def jsX (i : Nat) : Nat := [88, 90, 92, 94, 96, 98, 100].getD i 0
def jsT (i : Nat) : String := ["person", "friend", "gone", "level", "rain", "chairs", "bar"].getD i ""
def jsB (i : Nat) : List Int32 := [[112, 101, 114, 115, 111, 110], [102, 114, 105, 101, 110, 100], [103, 111, 110, 101], [108, 101, 118, 101, 108], [114, 97, 105, 110], [99, 104, 97, 105, 114, 115], [98, 97, 114]].getD i []
/-- a static of which only 'a reference or null' is told -/
def vF (E : Ev) : Value := if eR E 31 = 0 then .ref (eR E 30) else .null
def Wsr (E : Ev) (U : State) (H : Heap) : Prop :=
  (∀ i, i < 7 → va_O "java/lang/String" (eR E (10 + i)) (eZ E) U H ∧ va_OF "java/lang/String" "coder" "B" (.int 0) (eR E (10 + i)) (eZ E) U H ∧ va_OF "java/lang/String" "value" "[B" (.ref (eR E (20 + i))) (eR E (10 + i)) (eZ E) U H ∧ va_T .byte (eR E (20 + i)) (jsB i).length (fun j => .int ((jsB i).getD j 0)) (eZ E) U H) ∧
  (∀ i, i < 7 → vk_R RX3 (jsX i) (jsT i) (eR E (10 + i)) U) ∧
  va_Z "java/lang/String" "COMPACT_STRINGS" "Z" (.int 1) (eZ E) U H ∧
  va_Z "jdk/internal/util/Preconditions" "SIOOBE_FORMATTER" "Ljava/util/function/BiFunction;" (vF E) (eZ E) U H
theorem Wsr.mv {E : Ev} {u U : State} {H : Heap} (hvm : u.vm.Alike U.vm) (hR : ∀ i, i < 7 → vk_R RX3 (jsX i) (jsT i) (eR E (10 + i)) U) (h : Wsr E u H) : Wsr E U H :=
  ⟨fun i hi => ⟨va_O.moved hvm (h.1 i hi).1, va_OF.moved hvm (h.1 i hi).2.1, va_OF.moved hvm (h.1 i hi).2.2.1, va_T.moved hvm (h.1 i hi).2.2.2⟩, hR, va_Z.moved hvm h.2.2.1, va_Z.moved hvm h.2.2.2⟩
theorem Wsr.kept {E : Ev} {U : State} {H H1 : Heap} (h : Wsr E U H) (hq : ∀ a : Nat, a < H.size → ¬ eZ E a → H1[a]? = H[a]?) : Wsr E U H1 :=
  ⟨fun i hi => ⟨(h.1 i hi).1.kept hq, (h.1 i hi).2.1.kept hq, (h.1 i hi).2.2.1.kept hq, (h.1 i hi).2.2.2.kept hq⟩, h.2.1, va_Z.kept h.2.2.1 hq, va_Z.kept h.2.2.2 hq⟩
def Wst (E : Ev) (U : State) (H : Heap) : Prop :=
  (∀ (c : Nat) (q : vw_C), classes[c]? = some q → u_Kn U q.1 q.2.1 q.2.2 ((eD E).1 c) ((eD E).2 c)) ∧
  ((ArrOfT U (eA E 0) .int ∧ va_RA U (eA E 0) .int) ∧ (ArrOfT U (eA E 1) .long ∧ va_RA U (eA E 1) .long) ∧ (ArrOfT U (eA E 2) (.object RX2) ∧ va_RA U (eA E 2) (.object RX2)) ∧ (ArrOfT U (eA E 3) (.object RX5) ∧ va_RA U (eA E 3) (.object RX5))) ∧
  NBW U ∧
  (∀ t, t < 4 → va_Z (roC t) (roF t) "[I" (.ref (eR E t)) (eZ E) U H ∧ va_T .int (eR E t) (roV t).length (fun j => .int ((roV t).getD j 0)) (eZ E) U H) ∧
  (va_X (eR E 4) (eL E) (eX E) U H ∧ eR E 4 < H.size ∧ ¬ eZ E (eR E 4) ∧ Wsr E U H)
def Wdy (E : Ev) (M : Mem) (H : Heap) : Prop := H.size = eB E + mN M ∧ ∀ a : Id, vld a = true → off a < mN M → cellAt E M H a
theorem Wst.moved {E : Ev} {u U : State} {H : Heap} (hW : u.WarmedH U.vm) (h : Wst E u H) : Wst E U H := by
  have hvm := hW.alike
  obtain ⟨h1, ⟨⟨a1, b1⟩, ⟨a2, b2⟩, ⟨a3, b3⟩, ⟨a4, b4⟩⟩, h3, h4, h5, h6, h7, h8⟩ := h
  exact ⟨fun c q hq => u_Kn_moved hvm (h1 c q hq), ⟨⟨arrOfT_moved hvm a1, b1.moved hvm⟩, ⟨arrOfT_moved hvm a2, b2.moved hvm⟩, ⟨arrOfT_moved hvm a3, b3.moved hvm⟩, ⟨arrOfT_moved hvm a4, b4.moved hvm⟩⟩, h3.warm hW, fun t ht => ⟨va_Z.moved hvm (h4 t ht).1, va_T.moved hvm (h4 t ht).2⟩, h5.moved hvm, h6, h7, h8.mv hvm (fun i hi => vk_R.warm hW (h8.2.1 i hi))⟩
theorem Wst.same {E : Ev} {u U : State} {H : Heap} (hv : u.vm = U.vm) (h : Wst E u H) : Wst E U H := by
  have hvm : u.vm.Alike U.vm := by rw [hv]; exact Vm.Alike.refl _
  obtain ⟨h1, ⟨⟨a1, b1⟩, ⟨a2, b2⟩, ⟨a3, b3⟩, ⟨a4, b4⟩⟩, h3, h4, h5, h6, h7, h8⟩ := h
  exact ⟨fun c q hq => u_Kn_moved hvm (h1 c q hq), ⟨⟨arrOfT_moved hvm a1, b1.moved hvm⟩, ⟨arrOfT_moved hvm a2, b2.moved hvm⟩, ⟨arrOfT_moved hvm a3, b3.moved hvm⟩, ⟨arrOfT_moved hvm a4, b4.moved hvm⟩⟩, h3.same hv, fun t ht => ⟨va_Z.moved hvm (h4 t ht).1, va_T.moved hvm (h4 t ht).2⟩, h5.moved hvm, h6, h7, h8.mv hvm (fun i hi => vk_R.same hv.symm (h8.2.1 i hi))⟩
theorem Wst.kept {E : Ev} {U : State} {H H1 : Heap} (h : Wst E U H) (hz : H.size ≤ H1.size) (hq : ∀ a : Nat, a < H.size → ¬ eZ E a → H1[a]? = H[a]?) : Wst E U H1 := by
  obtain ⟨h1, h2, h3, h4, h5, h6, h7, h8⟩ := h
  exact ⟨h1, h2, h3, fun t ht => ⟨va_Z.kept (h4 t ht).1 hq, va_T.kept (h4 t ht).2 hq⟩, h5.kept (hq _ h6 h7), by omega, h7, h8.kept hq⟩
theorem cellAt_congr {E : Ev} {M M' : Mem} {H H' : Heap} {a : Id} (h : cellAt E M H a) (hH : H'[ad E a]? = H[ad E a]?) (h1 : mI M' a = mI M a) (h2 : mJ M' a = mJ M a) (h3 : mR M' a = mR M a) : cellAt E M' H' a := by
  unfold cellAt at h ⊢
  have hf : ∀ c, fval E M' c a = fval E M c a := fun c => by funext k; simp only [fval]; rw [h1, h3]
  generalize shp a = z at h ⊢
  obtain ⟨j, x⟩ := z
  match j, h with
  | 0, h =>
    show t_OB _ _ _ _ _ (fval E M' x a)
    rw [hf]
    exact t_OB.kept h hH
  | 1, h =>
    show H'[_]? = some (arrV _ _ fun j => .int (mI M' a j))
    rw [hH, h1]; exact h
  | 2, h =>
    show H'[_]? = some (arrV _ _ fun j => .long (mJ M' a j))
    rw [hH, h2]; exact h
  | 3, h =>
    show H'[_]? = some (arrV _ _ fun j => orf E (mR M' a j))
    rw [hH, h3]; exact h
  | 4, h =>
    show H'[_]? = some (arrV _ _ fun j => orf E (mR M' a j))
    rw [hH, h3]; exact h
  | n + 5, h => trivial
theorem Wdy.set {E : Ev} {M M' : Mem} {H H' : Heap} {a : Id} (h : Wdy E M H) (ha : vld a = true) (hn : mN M' = mN M) (hz : H'.size = H.size) (ho : ∀ q : Nat, q ≠ ad E a → H'[q]? = H[q]?) (hc : cellAt E M' H' a)
    (hk : ∀ b : Id, b ≠ a → mI M' b = mI M b ∧ mJ M' b = mJ M b ∧ mR M' b = mR M b) : Wdy E M' H' := by
  refine ⟨by rw [hz, hn]; exact h.1, fun b hb hbn => ?_⟩
  by_cases hba : b = a
  · rw [hba]; exact hc
  · obtain ⟨k1, k2, k3⟩ := hk b hba
    refine cellAt_congr (h.2 b hb (by rw [← hn]; exact hbn)) (ho _ fun e => hba (vld_inj hb ha ?_)) k1 k2 k3
    unfold ad at e; omega
/-- writes -/
def sI (M : Mem) (a : Id) (k : Nat) (x : Int32) : Mem := (fun b j => if b = a ∧ j = k then x else M.1 b j, M.2)
def sJ (M : Mem) (a : Id) (k : Nat) (x : Int64) : Mem := (M.1, fun b j => if b = a ∧ j = k then x else M.2.1 b j, M.2.2)
def sR (M : Mem) (a : Id) (k : Nat) (x : Option Id) : Mem := (M.1, M.2.1, fun b j => if b = a ∧ j = k then x else M.2.2.1 b j, M.2.2.2)
/-! methods: name, bytes, locals, what comes back -/
abbrev MK : Type := MethodName × ByteArray × Nat × Option FieldType
def ws_ (k : MK) : List Cond := Cond.code k.1 k.2.1 k.2.2.1 k.2.2.2 :: TB
abbrev rm (n mc ms : Nat) : Room := { frames := n, cells := mc, slots := ms, locals := 44 * n }
def Cx (p : Program) (s : State) (m : MethodId) (args : Array Value) (meth : Method) (c : Code) (k : MK) : Prop := p.tables.exec = Jvm.exec ∧ c.code = k.2.1 ∧ c.maxLocals = k.2.2.1 ∧ meth.sig.returnType = k.2.2.2 ∧ meth.locks = false ∧ s.vm.findClass k.1.cls = some m.cls ∧ (∀ w ∈ TB, w.before args s = true) ∧ meth.name = k.1.name
/-- locals by their places -/
def lg : List (Option AV) → Nat → Option AV
  | [], _ => none
  | v :: _, 0 => v
  | _ :: r, n + 1 => lg r n
def lst : List (Option AV) → Nat → Option AV → List (Option AV)
  | [], _, _ => []
  | _ :: r, 0, v => v :: r
  | a :: r, n + 1, v => a :: lst r n v
def nl : Option AV → Bool
  | some (.inr (.inl _)) => false
  | _ => true
def en (E : Ev) : Nat → List (Option AV) → List (Nat × Value)
  | _, [] => []
  | j, none :: r => en E (j + 1) r
  | j, some v :: r => (j, cv E v) :: en E (j + 1) r
def hasL (E : Ev) (ls : Array Slot) (nL : Nat) (lv : List (Option AV)) : Prop := lv.length = nL ∧ lv_has ls nL (en E 0 lv)
theorem mem_en {E : Ev} {i : Nat} {w : Value} : ∀ {lv : List (Option AV)} {j : Nat}, (i, w) ∈ en E j lv ↔ ∃ v, j ≤ i ∧ lg lv (i - j) = some v ∧ cv E v = w := by
  intro lv
  induction lv with
  | nil => intro j; simp [en, lg]
  | cons a r ih =>
    intro j
    have hs : ∀ v, (j ≤ i ∧ lg (a :: r) (i - j) = some v ∧ cv E v = w) ↔ ((i = j ∧ a = some v ∧ cv E v = w) ∨ (j + 1 ≤ i ∧ lg r (i - (j + 1)) = some v ∧ cv E v = w)) := by
      intro v
      constructor
      · rintro ⟨h1, h2, h3⟩
        by_cases hij : i = j
        · subst hij; rw [Nat.sub_self] at h2; exact Or.inl ⟨rfl, h2, h3⟩
        · have e : i - j = (i - (j + 1)) + 1 := by omega
          rw [e] at h2
          exact Or.inr ⟨by omega, h2, h3⟩
      · rintro (⟨rfl, h2, h3⟩ | ⟨h1, h2, h3⟩)
        · exact ⟨Nat.le_refl _, by rw [Nat.sub_self]; exact h2, h3⟩
        · have e : i - j = (i - (j + 1)) + 1 := by omega
          exact ⟨by omega, by rw [e]; exact h2, h3⟩
    simp only [hs]
    cases a with
    | none => simp only [en, ih]; simp
    | some u =>
      simp only [en, List.mem_cons, ih, Prod.mk.injEq]
      constructor
      · rintro (⟨rfl, rfl⟩ | ⟨v, h⟩)
        · exact ⟨u, Or.inl ⟨rfl, rfl, rfl⟩⟩
        · exact ⟨v, Or.inr h⟩
      · rintro ⟨v, ⟨rfl, h, rfl⟩ | h⟩
        · exact Or.inl ⟨rfl, by rw [Option.some.inj h]⟩
        · exact Or.inr ⟨v, h⟩
theorem lg_lst : ∀ (lv : List (Option AV)) (i j : Nat) (v : Option AV), lg (lst lv i v) j = if j = i then (if i < lv.length then v else none) else lg lv j := by
  intro lv
  induction lv with
  | nil => intro i j v; simp [lst, lg]
  | cons a r ih =>
    intro i j v
    cases i with
    | zero => cases j <;> simp [lst, lg]
    | succ i => cases j with
      | zero => simp [lst, lg]
      | succ j => simp [lst, lg, ih]
theorem lst_length : ∀ (lv : List (Option AV)) (i : Nat) (v : Option AV), (lst lv i v).length = lv.length := by
  intro lv
  induction lv with
  | nil => intro i v; rfl
  | cons a r ih => intro i v; cases i <;> simp [lst, ih]
theorem hasL.at {E : Ev} {ls : Array Slot} {nL : Nat} {lv : List (Option AV)} (h : hasL E ls nL lv) {i : Nat} {v : AV} (hv : lg lv i = some v) : ls[i]? = some (.val (cv E v)) :=
  h.2.2.2 (i, cv E v) (mem_en.mpr ⟨v, Nat.zero_le _, hv, rfl⟩)
theorem cv_cat2 {E : Ev} {v : AV} (h : nl (some v) = true) : ¬ (cv E v).category = 2 := by
  rcases v with x | x | x | x | x
  · intro h; cases h
  · cases h
  · intro h; cases h
  · intro h; cases h
  · intro h; cases h
theorem hasL.st1 {E : Ev} {ls ls' : Array Slot} {nL i : Nat} {v : AV} {lv : List (Option AV)} (h : hasL E ls nL lv) (hi : i < lv.length) (hn : ∀ j, j + 1 = i → nl (lg lv j) = true)
    (h' : lv_has ls' nL ((i, cv E v) :: (en E 0 lv).filter (fun q => !(q.1 == i) && !(q.1 + 1 == i && q.2.category == 2)))) : hasL E ls' nL (lst lv i (some v)) := by
  refine ⟨by rw [lst_length]; exact h.1, h'.1, h'.2.1, ?_⟩
  rintro ⟨j, w⟩ hq
  obtain ⟨u, -, hu, rfl⟩ := mem_en.mp hq
  rw [Nat.sub_zero, lg_lst] at hu
  refine h'.2.2 _ ?_
  by_cases hj : j = i
  · rw [if_pos hj, if_pos hi] at hu
    rw [hj, Option.some.inj hu]; exact List.mem_cons_self
  · rw [if_neg hj] at hu
    refine List.mem_cons_of_mem _ (List.mem_filter.mpr ⟨mem_en.mpr ⟨u, Nat.zero_le _, hu, rfl⟩, ?_⟩)
    by_cases hji : j + 1 = i
    · have := hn j hji
      rw [hu] at this
      have hc := cv_cat2 (E := E) this
      simp [hj, hji, hc]
    · simp [hj, hji]
theorem hasL.st2 {E : Ev} {ls ls' : Array Slot} {nL i : Nat} {v : AV} {lv : List (Option AV)} (h : hasL E ls nL lv) (hi : i < lv.length) (hn : ∀ j, j + 1 = i → nl (lg lv j) = true)
    (h' : lv_has ls' nL ((i, cv E v) :: (en E 0 lv).filter (fun q => !(q.1 == i) && (!(q.1 == i + 1) && !(q.1 + 1 == i && q.2.category == 2))))) : hasL E ls' nL (lst (lst lv i (some v)) (i + 1) none) := by
  refine ⟨by rw [lst_length, lst_length]; exact h.1, h'.1, h'.2.1, ?_⟩
  rintro ⟨j, w⟩ hq
  obtain ⟨u, -, hu, rfl⟩ := mem_en.mp hq
  rw [Nat.sub_zero, lg_lst] at hu
  refine h'.2.2 _ ?_
  by_cases hj1 : j = i + 1
  · rw [if_pos hj1] at hu
    split at hu <;> cases hu
  rw [if_neg hj1, lg_lst] at hu
  by_cases hj : j = i
  · rw [if_pos hj, if_pos hi] at hu
    rw [hj, Option.some.inj hu]; exact List.mem_cons_self
  · rw [if_neg hj] at hu
    refine List.mem_cons_of_mem _ (List.mem_filter.mpr ⟨mem_en.mpr ⟨u, Nat.zero_le _, hu, rfl⟩, ?_⟩)
    by_cases hji : j + 1 = i
    · have := hn j hji
      rw [hu] at this
      have hc := cv_cat2 (E := E) this
      simp [hj, hj1, hji, hc]
    · simp [hj, hj1, hji]
abbrev ZT : Type := List Frame → Array Value → State → State → Prop
def G (E : Ev) (R : Room) (k : MK) (Z : ZT) (ca sl : Nat) (pc : Nat) (lv : List (Option AV)) (st : List AV) (M : Mem) : Prop :=
  ∀ (p : Program) (l : Launch) (e : Env) (s : State) (m : MethodId) (args : Array Value) (below : List Frame) (meth : Method) (c : Code) (H : Heap) (locs : List Loc) (ls : Array Slot),
    Cx p s m args meth c k → Wst E s s.heap → Wdy E M H → va_S (eZ E) s.heap H locs → hasL E ls k.2.2.1 lv →
    W p l e R s m args below meth c H locs ca sl (Z below args s) (F0 m pc ls (st.map (cv E)))
abbrev QT : Type := Option AV → Mem → Prop
def QC (E : Ev) (Q : QT) : Array Value → State → Outcome → State → Prop := fun _ st o t => (∃ (r : Option AV) (M' : Mem), o = .returned (r.map (cv E)) ∧ Q r M' ∧ Wdy E M' t.heap) ∧ va_F (eZ E) st t
def ZQ (E : Ev) (Q : QT) (mc ms : Nat) : ZT := fun below args s => MQ below (QC E Q) args s mc ms (eZ E)
def Mth (E : Ev) (n mc ms : Nat) (k : MK) (as : List AV) (M : Mem) (Q : QT) : Prop := ∀ l : Launch, Met l k.1 (ws_ k) (rm n mc ms) (va_Pc (as.map (cv E)) (fun U => Wst E U U.heap ∧ Wdy E M U.heap)) (QC E Q) mc ms (eZ E)
