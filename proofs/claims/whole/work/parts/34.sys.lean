/-! WHAT THE CLASS AND THE REFERENCE BOTH KEEP -/
/-- a shelf: 0 nothing, 1 a row, 2 one of the people; its sort, who, how many, what -/
abbrev Sf : Type := Nat × Int32 × Int32 × Nat × (Nat → Int64)
/-- the school, the image, the shelves, refusals, the fault, the trace -/
abbrev Sys : Type := Sc × Option Sc × (Nat → Sf) × (Nat → Int32) × Int32 × List Int32
abbrev xS (X : Sys) : Sc := X.1
abbrev xI (X : Sys) : Option Sc := X.2.1
abbrev xH (X : Sys) : Nat → Sf := X.2.2.1
abbrev xR (X : Sys) : Nat → Int32 := X.2.2.2.1
abbrev xF (X : Sys) : Int32 := X.2.2.2.2.1
abbrev xL (X : Sys) : List Int32 := X.2.2.2.2.2
def setS (X : Sys) (S : Sc) : Sys := (S, X.2)
def setI (X : Sys) (I : Option Sc) : Sys := (X.1, I, X.2.2)
def setH (X : Sys) (t : Nat) (v : Sf) : Sys := (X.1, X.2.1, fun s => if s = t then v else X.2.2.1 s, X.2.2.2)
def setR (X : Sys) (j : Nat) : Sys := (X.1, X.2.1, X.2.2.1, fun i => if i = j then X.2.2.2.1 j + 1 else X.2.2.2.1 i, X.2.2.2.2)
def setF (X : Sys) (f : Int32) : Sys := (X.1, X.2.1, X.2.2.1, X.2.2.2.1, f, X.2.2.2.2.2)
def setL (X : Sys) (L : List Int32) : Sys := (X.1, X.2.1, X.2.2.1, X.2.2.2.1, X.2.2.2.2.1, L)
/-- a refusal -/
def rfX (X : Sys) (j : Nat) : Int32 × Sys := (-(nI j), setR X j)
def RepSf (M : Mem) (s : Nat) (v : Sf) : Prop :=
  (v.1 = 0 ∧ mI M (5, s, 0) 0 = -1 ∧ mI M (5, s, 0) 1 = -1 ∧ mI M (5, s, 0) 2 = 0) ∨
  (v.1 = 1 ∧ mI M (5, s, 0) 0 = v.2.1 ∧ mI M (5, s, 0) 1 = -1 ∧ mI M (5, s, 0) 2 = nI v.2.2.2.1 ∧ ∀ j, j < 160 → mJ M (6, s, 0) j = v.2.2.2.2 j) ∨
  (v.1 = 2 ∧ mI M (5, s, 0) 0 = -1 ∧ mI M (5, s, 0) 1 = v.2.2.1 ∧ mI M (5, s, 0) 2 = 0)
def OkSf (n : Nat) (v : Sf) : Prop := (v.1 = 0 ∨ v.1 = 1 ∨ v.1 = 2) ∧ (v.1 = 1 → IN v.2.1 4 ∧ v.2.2.2.1 ≤ 160) ∧ (v.1 = 2 → IN v.2.2.1 n)
def RepIm (M : Mem) : Option Sc → Prop
  | none => mI M (0, 0, 0) 3 = 0
  | some S => mI M (0, 0, 0) 3 = 1 ∧ RepC M 2 S
def RepTr (M : Mem) (L : List Int32) : Prop := mI M (10, 0, 0) 0 = nI L.length ∧ ∀ i, i < 20 → i < L.length → mI M (11, 0, 0) i = L.getD i 0
def RepCl (M : Mem) (X : Sys) : Prop := RepC M 0 (xS X) ∧ RepIm M (xI X) ∧ (∀ s, s < 8 → RepSf M s (xH X s)) ∧ RepSf M 8 (0, 0, 0, 0, fun _ => 0) ∧ (∀ j, 1 ≤ j → j < 8 → mI M (12, 0, 0) j = xR X j) ∧ mI M (0, 0, 0) 10 = xF X ∧ RepTr M (xL X)
def OkX (X : Sys) : Prop := OkS (xS X) ∧ (∀ S, xI X = some S → OkS S) ∧ (∀ s, s < 8 → OkSf (xS X).1 (xH X s)) ∧ (xL X).length ≤ 100
/-- the class leaves the reference's cells as they are -/
def FrC (M M' : Mem) : Prop := M'.2.2 = M.2.2 ∧ ∀ b : Id, 20 ≤ b.1 → mI M' b = mI M b ∧ mJ M' b = mJ M b
theorem FrC.rf {M : Mem} : FrC M M := ⟨rfl, fun _ _ => ⟨rfl, rfl⟩⟩
theorem FrC.tr {M M1 M2 : Mem} (h1 : FrC M M1) (h2 : FrC M1 M2) : FrC M M2 := ⟨h2.1.trans h1.1, fun b hb => ⟨(h2.2 b hb).1.trans (h1.2 b hb).1, (h2.2 b hb).2.trans (h1.2 b hb).2⟩⟩
theorem FrC.W {M M1 : Mem} (h : FrC M M1) (hW : Wi M) : Wi M1 := by unfold Wi; rw [h.1]; exact hW
theorem FrC.of {D : Id → Nat → Prop} {M M1 : Mem} (h : FrI D M M1) (hD : ∀ b j, 20 ≤ b.1 → ¬ D b j) : FrC M M1 := ⟨by rw [h.1], fun b hb => ⟨funext fun j => h.2 b j (hD b j hb), by unfold mJ; rw [h.1]⟩⟩
theorem frC_sI {M : Mem} {a : Id} {k : Nat} {x : Int32} (ha : a.1 < 20) : FrC M (sI M a k x) := ⟨rfl, fun b hb => ⟨(sI_hk b (by intro q; subst q; omega)).1, rfl⟩⟩
theorem frC_sJ {M : Mem} {a : Id} {k : Nat} {x : Int64} (ha : a.1 < 20) : FrC M (sJ M a k x) := ⟨rfl, fun b hb => ⟨rfl, (sJ_hk b (by intro q; subst q; omega)).2.1⟩⟩
theorem frC_flJ {M : Mem} {a : Id} {n : Nat} {x : Int64} (ha : a.1 < 20) : FrC M (flJ M a n x) := ⟨rfl, fun b hb => ⟨rfl, by
  funext j; simp only [mJ, flJ]; rw [if_neg (by intro q; have := q.1; subst this; omega)]⟩⟩
theorem D_lt {k : Nat} : (∀ b j, 20 ≤ b.1 → ¬ Dk k b j) ∧ (∀ b j, 20 ≤ b.1 → ¬ DW k b j) ∧ (∀ b j, 20 ≤ b.1 → ¬ D9 k b j) :=
  ⟨fun b j h q => by rcases q.1 with q | q <;> omega, fun b j h q => by rcases q with q | q; rcases q.1 with q | q <;> omega; omega, fun b j h q => by have := q.1; omega⟩
/-- what the class may change that nobody sees: the outlook, the plan, the reader and its school, what draws -/
def DX : Id → Nat → Prop := fun b j => b.1 = 4 ∨ b.1 = 8 ∨ b.1 = 9 ∨ ((b.1 = 1 ∨ b.1 = 2) ∧ (b.2.1 = 1 ∨ b.2.1 = 3)) ∨ (b.1 = 2 ∧ j = 9)
theorem RepSf.same {M M' : Mem} {s : Nat} {v : Sf} (h : RepSf M s v) (h1 : mI M' (5, s, 0) = mI M (5, s, 0)) (h2 : mJ M' (6, s, 0) = mJ M (6, s, 0)) : RepSf M' s v := by unfold RepSf; rw [h1, h2]; exact h
theorem RepTr.same {M M' : Mem} {L : List Int32} (h : RepTr M L) (h1 : mI M' (10, 0, 0) 0 = mI M (10, 0, 0) 0) (h2 : mI M' (11, 0, 0) = mI M (11, 0, 0)) : RepTr M' L := by unfold RepTr; rw [h1, h2]; exact h
theorem RepIm.same {M M' : Mem} {I : Option Sc} (h : RepIm M I) (h1 : mI M' (0, 0, 0) 3 = mI M (0, 0, 0) 3) (h2 : ∀ S, RepC M 2 S → RepC M' 2 S) : RepIm M' I := by
  cases I with
  | none => exact h1.trans h
  | some S => exact ⟨h1.trans h.1, h2 S h.2⟩
theorem RepC.same {M M' : Mem} {k : Nat} {S : Sc} (h : RepC M k S) (h1 : mI M' (1, k, 0) = mI M (1, k, 0)) (h2 : ∀ i f, f < 9 → mI M' (2, k, i) f = mI M (2, k, i) f) : RepC M' k S :=
  ⟨by rw [h1]; exact h.1, fun j a b => by rw [h1]; exact h.2.1 j a b, fun i f a b => by rw [h2 i f b]; exact h.2.2 i f a b⟩
theorem RepCl.hid {D : Id → Nat → Prop} {M M' : Mem} {X : Sys} (h : RepCl M X) (hf : FrI D M M') (hD : ∀ b j, D b j → DX b j) : RepCl M' X := by
  obtain ⟨h1, h2, h3, h4, h5, h6, h7⟩ := h
  have hf := hf.mono hD
  have hJ : ∀ b, mJ M' b = mJ M b := fun b => by unfold mJ; rw [hf.1]
  have hI : ∀ b : Id, b.1 = 0 ∨ b.1 = 5 ∨ b.1 = 10 ∨ b.1 = 11 ∨ b.1 = 12 → mI M' b = mI M b := fun b hb => funext fun j => hf.2 b j (fun q => by unfold DX at q; omega)
  have hk : ∀ k, k = 0 ∨ k = 2 → ∀ S, RepC M k S → RepC M' k S := fun k hk S hR => hR.fr hf (fun j q => by unfold DX at q; simp at q; omega) (fun i f hf2 q => by unfold DX at q; simp at q; omega)
  refine ⟨hk 0 (Or.inl rfl) _ h1, h2.same (by rw [hI _ (Or.inl rfl)]) (hk 2 (Or.inr rfl)), fun s hs => (h3 s hs).same (hI _ (by simp)) (hJ _), h4.same (hI _ (by simp)) (hJ _), fun j a b => by rw [hI _ (by simp)]; exact h5 j a b, by rw [hI _ (by simp)]; exact h6, h7.same (by rw [hI _ (by simp)]) (hI _ (by simp))⟩
theorem repCl_rfz {M : Mem} {X : Sys} {j : Nat} (h : RepCl M X) (hj1 : 1 ≤ j) (hj : j < 8) : RepCl (rfz M j) (setR X j) := by
  obtain ⟨h1, h2, h3, h4, h5, h6, h7⟩ := h
  have hI : ∀ b : Id, b ≠ (12, 0, 0) → mI (rfz M j) b = mI M b := fun b hb => (sI_hk b hb).1
  refine ⟨h1.same (hI _ (by intro q; cases q)) (fun i f _ => by rw [hI _ (by intro q; cases q)]), h2.same (by rw [hI _ (by intro q; cases q)]) (fun S hS => hS.same (hI _ (by intro q; cases q)) (fun i f _ => by rw [hI _ (by intro q; cases q)])), fun s hs => (h3 s hs).same (hI _ (by intro q; cases q)) rfl, h4.same (hI _ (by intro q; cases q)) rfl, fun i a b => ?_, by rw [hI _ (by intro q; cases q)]; exact h6, h7.same (by rw [hI _ (by intro q; cases q)]) (hI _ (by intro q; cases q))⟩
  show (if (12, 0, 0) = ((12, 0, 0) : Id) ∧ i = j then M.1 (12, 0, 0) j + 1 else M.1 (12, 0, 0) i) = (if i = j then X.2.2.2.1 j + 1 else X.2.2.2.1 i)
  by_cases hij : i = j
  · subst hij; rw [if_pos ⟨rfl, rfl⟩, if_pos rfl, show M.1 (12, 0, 0) i = xR X i from h5 i a b]
  · rw [if_neg (fun q => hij q.2), if_neg hij]; exact h5 i a b
theorem RepCl.shelf {M M' : Mem} {X : Sys} {t : Nat} {v : Sf} (h : RepCl M X) (ht : t < 8) (hf : ∀ b : Id, b ≠ (5, t, 0) → b ≠ (6, t, 0) → mI M' b = mI M b ∧ mJ M' b = mJ M b) (hn : RepSf M' t v) : RepCl M' (setH X t v) := by
  obtain ⟨h1, h2, h3, h4, h5, h6, h7⟩ := h
  have hI : ∀ b : Id, b.1 ≠ 5 → b.1 ≠ 6 → mI M' b = mI M b := fun b a c => (hf b (by intro q; subst q; exact a rfl) (by intro q; subst q; exact c rfl)).1
  have hk : ∀ k S, RepC M k S → RepC M' k S := fun k S hS => hS.same (hI _ (by simp) (by simp)) (fun i f _ => by rw [hI _ (by simp) (by simp)])
  have hs2 : ∀ s, s ≠ t → ∀ v, RepSf M s v → RepSf M' s v := fun s hs v hv => hv.same (hf _ (by intro q; injection q with q1 q2; injection q2 with q3 q4; exact hs q3) (by intro q; cases q)).1 (hf _ (by intro q; cases q) (by intro q; injection q with q1 q2; injection q2 with q3 q4; exact hs q3)).2
  refine ⟨hk 0 _ h1, h2.same (by rw [hI _ (by simp) (by simp)]) (hk 2), fun s hs => ?_, hs2 8 (by omega) _ h4, fun j a b => by rw [hI _ (by simp) (by simp)]; exact h5 j a b, by rw [hI _ (by simp) (by simp)]; exact h6, h7.same (by rw [hI _ (by simp) (by simp)]) (hI _ (by simp) (by simp))⟩
  simp only [setH, xH]
  by_cases hst : s = t
  · subst hst; rw [if_pos rfl]; exact hn
  · rw [if_neg hst]; exact hs2 s hst _ (h3 s hs)
theorem RepCl.now {M M' : Mem} {X : Sys} {S' : Sc} (h : RepCl M X) (hf : FrI (Dk 0) M M') (hn : RepC M' 0 S') : RepCl M' (setS X S') := by
  obtain ⟨h1, h2, h3, h4, h5, h6, h7⟩ := h
  have hI : ∀ b : Id, b.1 ≠ 1 → b.1 ≠ 2 → mI M' b = mI M b := fun b a c => funext fun j => hf.2 b j (fun q => by rcases q.1 with q | q <;> contradiction)
  have hJ : ∀ b, mJ M' b = mJ M b := fun b => by unfold mJ; rw [hf.1]
  exact ⟨hn, h2.same (by rw [hI _ (by simp) (by simp)]) (fun S hS => hS.fr hf (Dk_ne (by decide)).1 (Dk_ne (by decide)).2), fun s hs => (h3 s hs).same (hI _ (by simp) (by simp)) (hJ _), h4.same (hI _ (by simp) (by simp)) (hJ _), fun j a b => by rw [hI _ (by simp) (by simp)]; exact h5 j a b, by rw [hI _ (by simp) (by simp)]; exact h6, h7.same (by rw [hI _ (by simp) (by simp)]) (hI _ (by simp) (by simp))⟩
theorem RepCl.flt {M : Mem} {X : Sys} {x : Int32} (h : RepCl M X) : RepCl (sI M (0, 0, 0) 10 x) (setF X x) := by
  obtain ⟨h1, h2, h3, h4, h5, h6, h7⟩ := h
  have hI : ∀ b : Id, b ≠ (0, 0, 0) → mI (sI M (0, 0, 0) 10 x) b = mI M b := fun b hb => (sI_hk b hb).1
  have hk : ∀ k S, RepC M k S → RepC (sI M (0, 0, 0) 10 x) k S := fun k S hS => hS.same (hI _ (by intro q; cases q)) (fun i f _ => by rw [hI _ (by intro q; cases q)])
  exact ⟨hk 0 _ h1, h2.same (by simp [mI, sI]) (hk 2), fun s hs => (h3 s hs).same (hI _ (by intro q; cases q)) rfl, h4.same (hI _ (by intro q; cases q)) rfl, fun j a b => by rw [hI _ (by intro q; cases q)]; exact h5 j a b, by simp [mI, sI, setF], h7.same (by rw [hI _ (by intro q; cases q)]) (hI _ (by intro q; cases q))⟩
