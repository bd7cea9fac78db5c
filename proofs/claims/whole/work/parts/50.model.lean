/-! THE REFERENCE: WHAT IT KEEPS; SMALL METHODS -/
def RepR (M : Mem) (S : Sc) : Prop := mI M (20, 0, 0) 0 = nI S.1 ∧ (∀ j, 1 ≤ j → j < 7 → mI M (20, 0, 0) j = S.2.1 j) ∧ ∀ i f, i < S.1 → f < 9 → mI M (21, f + 1, 0) i = S.2.2 i f
def RepSv (M : Mem) (b : Nat) (S : Sc) : Prop := mI M (21, b, 0) 90 = nI S.1 ∧ (∀ j, 1 ≤ j → j < 7 → mI M (21, b, 0) (90 + j) = S.2.1 j) ∧ ∀ i f, i < S.1 → f < 9 → mI M (21, b, 0) (10 * f + i) = S.2.2 i f
def RepSfM (M : Mem) (s : Nat) (v : Sf) : Prop := mI M (21, 10, 0) s = nI v.1 ∧ (v.1 = 1 → mI M (21, 11, 0) s = v.2.1 ∧ mI M (21, 12, 0) s = nI v.2.2.2.1 ∧ ∀ j, j < 160 → mJ M (21, 14, 0) (160 * s + j) = v.2.2.2.2 j) ∧ (v.1 = 2 → mI M (21, 13, 0) s = v.2.2.1)
def RepImM (M : Mem) : Option Sc → Prop
  | none => mI M (20, 0, 0) 49 = 0
  | some S => mI M (20, 0, 0) 49 = 1 ∧ RepSv M 21 S
def RepTrM (M : Mem) (L : List Int32) : Prop := mI M (20, 0, 0) 48 = nI L.length ∧ ∀ i, i < 20 → i < L.length → mI M (21, 24, 0) i = L.getD i 0
def wdK : List Int32 := [112, 101, 114, 115, 111, 110, 32, 0, 102, 114, 105, 101, 110, 100, 32, 0, 108, 101, 118, 101, 108, 32, 0, 114, 97, 105, 110, 32, 0, 99, 104, 97, 105, 114, 115, 32, 0, 98, 97, 114, 32, 0, 103, 111, 110, 101, 32, 0]
def nmK : List Int32 := [4, 2, 1, 1, 1, 1, 1]
def msK : List Int32 := [6, 9, 20, 1]
def RepKM (M : Mem) : Prop := (∀ j, j < 48 → mI M (21, 16, 0) j = wdK.getD j 0) ∧ (∀ j, j < 7 → mI M (21, 17, 0) j = nmK.getD j 0) ∧ ∀ j, j < 4 → mI M (21, 18, 0) j = msK.getD j 0
def RepMo (M : Mem) (X : Sys) : Prop := RepR M (xS X) ∧ RepImM M (xI X) ∧ (∀ s, s < 8 → RepSfM M s (xH X s)) ∧ (∀ j, 1 ≤ j → j < 8 → mI M (21, 0, 0) j = xR X j) ∧ mI M (20, 0, 0) 7 = xF X ∧ RepTrM M (xL X) ∧ RepKM M
/-- the reference leaves the class's cells as they are -/
def FrM (M M' : Mem) : Prop := M'.2.2 = M.2.2 ∧ ∀ b : Id, b.1 < 20 → mI M' b = mI M b ∧ mJ M' b = mJ M b
theorem FrM.rf {M : Mem} : FrM M M := ⟨rfl, fun _ _ => ⟨rfl, rfl⟩⟩
theorem FrM.tr {M M1 M2 : Mem} (h1 : FrM M M1) (h2 : FrM M1 M2) : FrM M M2 := ⟨h2.1.trans h1.1, fun b hb => ⟨(h2.2 b hb).1.trans (h1.2 b hb).1, (h2.2 b hb).2.trans (h1.2 b hb).2⟩⟩
theorem FrM.W {M M1 : Mem} (h : FrM M M1) (hW : Wi M) : Wi M1 := by unfold Wi; rw [h.1]; exact hW
theorem frM_sI {M : Mem} {a : Id} {k : Nat} {x : Int32} (ha : 20 ≤ a.1) : FrM M (sI M a k x) := ⟨rfl, fun b hb => ⟨(sI_hk b (by intro q; subst q; omega)).1, rfl⟩⟩
theorem frM_sJ {M : Mem} {a : Id} {k : Nat} {x : Int64} (ha : 20 ≤ a.1) : FrM M (sJ M a k x) := ⟨rfl, fun b hb => ⟨rfl, (sJ_hk b (by intro q; subst q; omega)).2.1⟩⟩
/-- what is not seen between calls, and the school -/
def DC : Id → Nat → Prop := fun b f => b.1 = 20 ∧ 36 ≤ f ∧ f ≤ 39
def DS : Id → Nat → Prop := fun b f => (b.1 = 20 ∧ f < 7) ∨ (b.1 = 21 ∧ 1 ≤ b.2.1 ∧ b.2.1 ≤ 9)
def DM : Id → Nat → Prop := fun b f => (b.1 = 20 ∧ (f < 7 ∨ (28 ≤ f ∧ f ≤ 32) ∨ (36 ≤ f ∧ f ≤ 45))) ∨ (b.1 = 21 ∧ ((1 ≤ b.2.1 ∧ b.2.1 ≤ 9) ∨ b.2.1 = 19 ∨ b.2.1 = 20 ∨ b.2.1 = 22 ∨ b.2.1 = 23))
theorem DC_DM : ∀ b f, DC b f → DM b f := fun b f h => Or.inl ⟨h.1, Or.inr (Or.inr ⟨h.2.1, by have := h.2.2; omega⟩)⟩
theorem DS_DM : ∀ b f, DS b f → DM b f := fun b f h => h.elim (fun h => Or.inl ⟨h.1, Or.inl h.2⟩) (fun h => Or.inr ⟨h.1, Or.inl h.2⟩)
theorem DM_20 : ∀ b f, DM b f → 20 ≤ b.1 := fun b f h => h.elim (fun h => by omega) (fun h => by omega)
theorem FrM.of {D : Id → Nat → Prop} {M M1 : Mem} (h : FrI D M M1) (hD : ∀ b f, D b f → 20 ≤ b.1) : FrM M M1 := ⟨by rw [h.1], fun b hb => ⟨funext fun j => h.2 b j (fun q => by have := hD b j q; omega), by unfold mJ; rw [h.1]⟩⟩
theorem frM_DM {M M1 : Mem} (h : FrI DM M M1) : FrM M M1 := FrM.of h DM_20
theorem RepR.fr {D : Id → Nat → Prop} {M M' : Mem} {S : Sc} (h : RepR M S) (hf : FrI D M M') (h1 : ∀ j, j < 7 → ¬ D (20, 0, 0) j) (h2 : ∀ i f, f < 9 → ¬ D (21, f + 1, 0) i) : RepR M' S :=
  ⟨(hf.2 _ _ (h1 0 (by decide))).trans h.1, fun j a b => (hf.2 _ _ (h1 j b)).trans (h.2.1 j a b), fun i f a b => (hf.2 _ _ (h2 i f b)).trans (h.2.2 i f a b)⟩
theorem RepR.dc {M M' : Mem} {S : Sc} (h : RepR M S) (hf : FrI DC M M') : RepR M' S := h.fr hf (fun j hj q => by have := q.2.1; omega) (fun i f _ q => by cases q.1)
theorem RepMo.sch {M M' : Mem} {X : Sys} {S' : Sc} (h : RepMo M X) (hf : FrI DM M M') (hS : RepR M' S') : RepMo M' (setS X S') := by
  obtain ⟨h1, h2, h3, h4, h5, h6, h7⟩ := h
  have hJ : ∀ b, mJ M' b = mJ M b := fun b => by unfold mJ; rw [hf.1]
  have hA : ∀ j i, (j = 0 ∨ (10 ≤ j ∧ j ≤ 18) ∨ j = 21 ∨ j = 24) → mI M' (21, j, 0) i = mI M (21, j, 0) i := fun j i hj => hf.2 _ _ (fun q => by
    rcases q with q | q
    · cases q.1
    · have := q.2; simp only at this; omega)
  have hB : ∀ f, (f = 7 ∨ f = 48 ∨ f = 49) → mI M' (20, 0, 0) f = mI M (20, 0, 0) f := fun f hf2 => hf.2 _ _ (fun q => by
    rcases q with q | q
    · have := q.2; omega
    · cases q.1)
  refine ⟨hS, ?_, fun s hs => ?_, fun j a b => (hA 0 j (by omega)).trans (h4 j a b), (hB 7 (by omega)).trans h5, ?_, ?_⟩
  · show RepImM M' (xI X)
    revert h2
    cases xI X with
    | none => exact fun h2 => (hB 49 (by omega)).trans h2
    | some S => exact fun h2 => ⟨(hB 49 (by omega)).trans h2.1, (hA _ _ (by omega)).trans h2.2.1, fun j a b => (hA _ _ (by omega)).trans (h2.2.2.1 j a b), fun i f a b => (hA _ _ (by omega)).trans (h2.2.2.2 i f a b)⟩
  · obtain ⟨g1, g2, g3⟩ := h3 s hs
    exact ⟨(hA _ _ (by omega)).trans g1, fun q => ⟨(hA _ _ (by omega)).trans (g2 q).1, (hA _ _ (by omega)).trans (g2 q).2.1, fun j hj => by rw [hJ]; exact (g2 q).2.2 j hj⟩, fun q => (hA _ _ (by omega)).trans (g3 q)⟩
  · exact ⟨(hB 48 (by omega)).trans h6.1, fun i a b => (hA _ _ (by omega)).trans (h6.2 i a b)⟩
  · exact ⟨fun j hj => (hA _ _ (by omega)).trans (h7.1 j hj), fun j hj => (hA _ _ (by omega)).trans (h7.2.1 j hj), fun j hj => (hA _ _ (by omega)).trans (h7.2.2 j hj)⟩
theorem RepMo.dm {M M' : Mem} {X : Sys} (h : RepMo M X) (hf : FrI DM M M') (hS : RepR M' (xS X)) : RepMo M' X := h.sch hf hS
def rfm (M : Mem) (j : Nat) : Mem := sI M (21, 0, 0) j (mI M (21, 0, 0) j + 1)
theorem repMo_rfm {M : Mem} {X : Sys} {j : Nat} (h : RepMo M X) (hj1 : 1 ≤ j) (hj : j < 8) : RepMo (rfm M j) (setR X j) := by
  obtain ⟨h1, h2, h3, h4, h5, h6, h7⟩ := h
  have hI : ∀ b : Id, b ≠ (21, 0, 0) → mI (rfm M j) b = mI M b := fun b hb => (sI_hk b hb).1
  have hA : ∀ i, i ≠ 0 → mI (rfm M j) (21, i, 0) = mI M (21, i, 0) := fun i hi => hI _ (by intro q; injection q with _ q; injection q with q _; exact hi q)
  have hB : mI (rfm M j) (20, 0, 0) = mI M (20, 0, 0) := hI _ (by intro q; cases q)
  refine ⟨⟨by rw [hB]; exact h1.1, fun j a b => by rw [hB]; exact h1.2.1 j a b, fun i f a b => by rw [hA _ (by omega)]; exact h1.2.2 i f a b⟩, ?_, fun s hs => ?_, fun i a b => ?_, by rw [hB]; exact h5, ?_, ?_⟩
  · show RepImM _ (xI X)
    revert h2
    cases xI X with
    | none => exact fun h2 => by show mI _ _ _ = _; rw [hB]; exact h2
    | some S => exact fun h2 => ⟨by rw [hB]; exact h2.1, by unfold RepSv; rw [hA _ (by decide)]; exact h2.2⟩
  · show RepSfM _ s (xH X s)
    unfold RepSfM
    rw [hA _ (by decide), hA _ (by decide), hA _ (by decide), hA _ (by decide)]
    exact h3 s hs
  · show (if (21, 0, 0) = ((21, 0, 0) : Id) ∧ i = j then M.1 (21, 0, 0) j + 1 else M.1 (21, 0, 0) i) = (if i = j then X.2.2.2.1 j + 1 else X.2.2.2.1 i)
    by_cases hij : i = j
    · subst hij; rw [if_pos ⟨rfl, rfl⟩, if_pos rfl, show M.1 (21, 0, 0) i = xR X i from h4 i a b]
    · rw [if_neg (fun q => hij q.2), if_neg hij]; exact h4 i a b
  · unfold RepTrM; rw [hB, hA _ (by decide)]; exact h6
  · unfold RepKM; rw [hA _ (by decide), hA _ (by decide), hA _ (by decide)]; exact h7
set_option maxHeartbeats 4000000 in
set_option maxRecDepth 100000 in
theorem wp_X7_no {E : Ev} {M : Mem} {Q : QT} (hW : Wi M) {b : Int32} {j : Nat} (hb : b = -(nI j)) (hj : j < 8) (h : Q (some (vI (-(nI j)))) (rfm M j)) : Mth E 0 0 0 kX7_no [vR (20, 0, 0), vI b] M Q := by
  refine mth_of (by decide +kernel) [some (vR (20, 0, 0)), some (vI b)] (Nat.le_of_ble_eq_true rfl) rfl ?_
  refine g_aloadR_n dX7_no_0 rfl rfl ?_
  refine n_getR dX7_no_1 fX7_25 rfl hW vld_x20 rfl rfl ?_
  refine g_iload_n dX7_no_4 rfl rfl ?_
  refine g_ineg dX7_no_5 ?_
  refine g_dup2 dX7_no_6 rfl rfl ?_
  refine n_iald (j := j) dX7_no_7 rfl hW (vld_ma (by decide : 0 < 25)) (by decide) (by rw [hb]; exact nn_nI j) hj ?_
  refine g_iconst dX7_no_8 (v := 1) (by decide) ?_
  refine g_iadd dX7_no_9 ?_
  refine n_iast (j := j) dX7_no_10 rfl hW (vld_ma (by decide : 0 < 25)) (by decide) (by rw [hb]; exact nn_nI j) hj ?_
  refine g_iload_n dX7_no_11 rfl rfl ?_
  refine g_iret dX7_no_12 rfl ?_
  rw [hb]
  exact h
set_option maxHeartbeats 4000000 in
set_option maxRecDepth 100000 in
theorem wp_X7_noTen {E : Ev} {M : Mem} {Q : QT} (hW : Wi M) {b : Int32} {j : Nat} (hb : b = -(nI j)) (hj : j < 8) (h : Q (some (vI (-(nI j) - 10))) (rfm M j)) : Mth E 0 0 0 kX7_noTen [vR (20, 0, 0), vI b] M Q := by
  refine mth_of (by decide +kernel) [some (vR (20, 0, 0)), some (vI b)] (Nat.le_of_ble_eq_true rfl) rfl ?_
  refine g_aloadR_n dX7_noTen_0 rfl rfl ?_
  refine n_getR dX7_noTen_1 fX7_25 rfl hW vld_x20 rfl rfl ?_
  refine g_iload_n dX7_noTen_4 rfl rfl ?_
  refine g_ineg dX7_noTen_5 ?_
  refine g_dup2 dX7_noTen_6 rfl rfl ?_
  refine n_iald (j := j) dX7_noTen_7 rfl hW (vld_ma (by decide : 0 < 25)) (by decide) (by rw [hb]; exact nn_nI j) hj ?_
  refine g_iconst dX7_noTen_8 (v := 1) (by decide) ?_
  refine g_iadd dX7_noTen_9 ?_
  refine n_iast (j := j) dX7_noTen_10 rfl hW (vld_ma (by decide : 0 < 25)) (by decide) (by rw [hb]; exact nn_nI j) hj ?_
  refine g_iload_n dX7_noTen_11 rfl rfl ?_
  refine g_bipush dX7_noTen_12 (v := 10) (by decide) ?_
  refine g_isub dX7_noTen_14 ?_
  refine g_iret dX7_noTen_15 rfl ?_
  rw [hb]
  exact h
set_option maxHeartbeats 4000000 in
set_option maxRecDepth 100000 in
theorem wp_X7_isShelf {E : Ev} {M : Mem} {Q : QT} {s : Int32} (h : Q (some (vI (b2 (IN s 8)))) M) : Mth E 0 0 0 kX7_isShelf [vR (20, 0, 0), vI s] M Q := by
  refine mth_of (by decide +kernel) [some (vR (20, 0, 0)), some (vI s)] (Nat.le_of_ble_eq_true rfl) rfl ?_
  refine g_iload_n dX7_isShelf_0 rfl rfl ?_
  refine g_if_lt (tgt := 14) dX7_isShelf_1 (by decide) (fun c1 => ?_) (fun c1 => ?_)
  · refine g_iconst dX7_isShelf_14 (v := 0) (by decide) ?_
    refine g_zret dX7_isShelf_15 rfl (Or.inl rfl) ?_
    exact qI h (b2_f (by simp only [IN, Int32.lt_iff_toInt_lt, Int32.le_iff_toInt_le, ← Int32.toInt_inj, zcs, zn] at *; omega))
  · refine g_iload_n dX7_isShelf_4 rfl rfl ?_
    refine g_bipush dX7_isShelf_5 (v := 8) (by decide) ?_
    refine g_icmp_ge (tgt := 14) dX7_isShelf_7 (by decide) (fun c7 => ?_) (fun c7 => ?_)
    · refine g_iconst dX7_isShelf_14 (v := 0) (by decide) ?_
      refine g_zret dX7_isShelf_15 rfl (Or.inl rfl) ?_
      exact qI h (b2_f (by simp only [IN, Int32.lt_iff_toInt_lt, Int32.le_iff_toInt_le, ← Int32.toInt_inj, zcs, zn] at *; omega))
    · refine g_iconst dX7_isShelf_10 (v := 1) (by decide) ?_
      refine g_goto (tgt := 15) dX7_isShelf_11 (by decide) ?_
      refine g_zret dX7_isShelf_15 rfl (Or.inr rfl) ?_
      exact qI h (b2_t (by simp only [IN, Int32.lt_iff_toInt_lt, Int32.le_iff_toInt_le, ← Int32.toInt_inj, zcs, zn] at *; omega))
set_option maxHeartbeats 4000000 in
set_option maxRecDepth 100000 in
theorem wp_X7_isOne {E : Ev} {M : Mem} {Q : QT} (hW : Wi M) {n : Nat} (hn : mI M (20, 0, 0) 0 = nI n) (hn10 : n ≤ 10) {x : Int32} (h : Q (some (vI (b2 (IN x n)))) M) : Mth E 0 0 0 kX7_isOne [vR (20, 0, 0), vI x] M Q := by
  have hnt := nI_toInt (n := n) (by omega)
  refine mth_of (by decide +kernel) [some (vR (20, 0, 0)), some (vI x)] (Nat.le_of_ble_eq_true rfl) rfl ?_
  refine g_iload_n dX7_isOne_0 rfl rfl ?_
  refine g_if_lt (tgt := 16) dX7_isOne_1 (by decide) (fun c1 => ?_) (fun c1 => ?_)
  · refine g_iconst dX7_isOne_16 (v := 0) (by decide) ?_
    refine g_zret dX7_isOne_17 rfl (Or.inl rfl) ?_
    exact qI h (b2_f (by simp only [IN, Int32.lt_iff_toInt_lt, Int32.le_iff_toInt_le, zcs, hnt] at *; omega))
  · refine g_iload_n dX7_isOne_4 rfl rfl ?_
    refine g_aloadR_n dX7_isOne_5 rfl rfl ?_
    refine n_getI dX7_isOne_6 fX7_102 rfl hW vld_x20 (Or.inl rfl) ?_
    rw [hn]
    refine g_icmp_ge (tgt := 16) dX7_isOne_9 (by decide) (fun c9 => ?_) (fun c9 => ?_)
    · refine g_iconst dX7_isOne_16 (v := 0) (by decide) ?_
      refine g_zret dX7_isOne_17 rfl (Or.inl rfl) ?_
      exact qI h (b2_f (by simp only [IN, Int32.lt_iff_toInt_lt, Int32.le_iff_toInt_le, zcs, hnt] at *; omega))
    · refine g_iconst dX7_isOne_12 (v := 1) (by decide) ?_
      refine g_goto (tgt := 17) dX7_isOne_13 (by decide) ?_
      refine g_zret dX7_isOne_17 rfl (Or.inr rfl) ?_
      exact qI h (b2_t (by simp only [IN, Int32.lt_iff_toInt_lt, Int32.le_iff_toInt_le, zcs, hnt] at *; omega))
abbrev fromP (v a b : Int32) : Prop := a.toInt ≤ v.toInt ∧ v.toInt ≤ b.toInt
set_option maxHeartbeats 4000000 in
set_option maxRecDepth 100000 in
theorem wp_X7_isFrom {E : Ev} {M : Mem} {Q : QT} {v a b : Int32} (h : Q (some (vI (b2 (fromP v a b)))) M) : Mth E 0 0 0 kX7_isFrom [vR (20, 0, 0), vI v, vI a, vI b] M Q := by
  refine mth_of (by decide +kernel) [some (vR (20, 0, 0)), some (vI v), some (vI a), some (vI b)] (Nat.le_of_ble_eq_true rfl) rfl ?_
  refine g_iload_n dX7_isFrom_0 rfl rfl ?_
  refine g_iload_n dX7_isFrom_1 rfl rfl ?_
  refine g_icmp_lt (tgt := 14) dX7_isFrom_2 (by decide) (fun c2 => ?_) (fun c2 => ?_)
  · refine g_iconst dX7_isFrom_14 (v := 0) (by decide) ?_
    refine g_zret dX7_isFrom_15 rfl (Or.inl rfl) ?_
    exact qI h (b2_f (by simp only [fromP, Int32.lt_iff_toInt_lt, Int32.le_iff_toInt_le] at *; omega))
  · refine g_iload_n dX7_isFrom_5 rfl rfl ?_
    refine g_iload_n dX7_isFrom_6 rfl rfl ?_
    refine g_icmp_gt (tgt := 14) dX7_isFrom_7 (by decide) (fun c7 => ?_) (fun c7 => ?_)
    · refine g_iconst dX7_isFrom_14 (v := 0) (by decide) ?_
      refine g_zret dX7_isFrom_15 rfl (Or.inl rfl) ?_
      exact qI h (b2_f (by simp only [fromP, Int32.lt_iff_toInt_lt, Int32.le_iff_toInt_le] at *; omega))
    · refine g_iconst dX7_isFrom_10 (v := 1) (by decide) ?_
      refine g_goto (tgt := 15) dX7_isFrom_11 (by decide) ?_
      refine g_zret dX7_isFrom_15 rfl (Or.inr rfl) ?_
      exact qI h (b2_t (by simp only [fromP, Int32.lt_iff_toInt_lt, Int32.le_iff_toInt_le] at *; omega))
set_option maxHeartbeats 4000000 in
set_option maxRecDepth 100000 in
theorem wp_X7_isMany {E : Ev} {M : Mem} {Q : QT} (hW : Wi M) {v : Int32} (h : Q (some (vI (b2 (IN v 25)))) M) : Mth E 1 0 0 kX7_isMany [vR (20, 0, 0), vI v] M Q := by
  refine mth_of (by decide +kernel) [some (vR (20, 0, 0)), some (vI v)] (Nat.le_of_ble_eq_true rfl) rfl ?_
  refine g_aloadR_n dX7_isMany_0 rfl rfl ?_
  refine g_iload_n dX7_isMany_1 rfl rfl ?_
  refine g_iconst dX7_isMany_2 (v := 0) (by decide) ?_
  refine g_bipush dX7_isMany_3 (v := 24) (by decide) ?_
  refine n_v3i (n' := 0) dX7_isMany_5 mX7_isFrom lX7_120 rfl hW vld_x20 rfl rfl ⟨Nat.le_of_ble_eq_true rfl, Nat.le_of_ble_eq_true rfl⟩ ⟨Nat.zero_le _, Nat.zero_le _⟩ (Nat.le_of_ble_eq_true rfl) ?_
  refine wp_X7_isFrom ?_
  refine ⟨_, rfl, ?_⟩
  refine g_zret dX7_isMany_8 rfl (by unfold b2; split <;> simp) ?_
  refine qI h ?_
  unfold b2 fromP
  have e : ((0 : Int32).toInt ≤ v.toInt ∧ v.toInt ≤ (24 : Int32).toInt) ↔ IN v 25 := by simp only [IN, zcs]; omega
  simp only [e]
abbrev iuP (a k : Int32) : Prop := k.toInt = 0 ∨ k.toInt = a.toInt ∨ (k.toInt = 1 ∧ (a.toInt = 3 ∨ a.toInt = 6)) ∨ (k.toInt = 3 ∧ a.toInt = 6) ∨ (k.toInt = 2 ∧ a.toInt = 4)
theorem iu_eq0 : (List.range 7).all (fun a => (List.range 7).all fun k => b2 (iuP (nI a) (nI k)) == undr 7 (nI a) (nI k)) = true := by decide +kernel
theorem iu_eq {a k : Int32} (ha : IN a 7) (hk : IN k 7) : b2 (iuP a k) = undr 7 a k := by
  have h := List.all_eq_true.mp (List.all_eq_true.mp iu_eq0 _ (List.mem_range.mpr (IN_nI ha).2)) _ (List.mem_range.mpr (IN_nI hk).2)
  rw [← (IN_nI ha).1, ← (IN_nI hk).1] at h
  simpa using h
set_option maxHeartbeats 4000000 in
set_option maxRecDepth 100000 in
theorem wp_X7_isUnder {E : Ev} {M : Mem} {Q : QT} {a k : Int32} (h : Q (some (vI (b2 (iuP a k)))) M) : Mth E 0 0 0 kX7_isUnder [vR (20, 0, 0), vI a, vI k] M Q := by
  refine mth_of (by decide +kernel) [some (vR (20, 0, 0)), some (vI a), some (vI k)] (Nat.le_of_ble_eq_true rfl) rfl ?_
  refine g_iload_n dX7_isUnder_0 rfl rfl ?_
  refine g_if_eq (tgt := 46) dX7_isUnder_1 (by decide) (fun c1 => ?_) (fun c1 => ?_)
  · refine g_iconst dX7_isUnder_46 (v := 1) (by decide) ?_
    refine g_goto (tgt := 51) dX7_isUnder_47 (by decide) ?_
    refine g_zret dX7_isUnder_51 rfl (Or.inr rfl) ?_
    exact qI h (b2_t (by simp only [iuP, ← Int32.toInt_inj, zcs] at *; omega))
  · refine g_iload_n dX7_isUnder_4 rfl rfl ?_
    refine g_iload_n dX7_isUnder_5 rfl rfl ?_
    refine g_icmp_eq (tgt := 46) dX7_isUnder_6 (by decide) (fun c6 => ?_) (fun c6 => ?_)
    · refine g_iconst dX7_isUnder_46 (v := 1) (by decide) ?_
      refine g_goto (tgt := 51) dX7_isUnder_47 (by decide) ?_
      refine g_zret dX7_isUnder_51 rfl (Or.inr rfl) ?_
      exact qI h (b2_t (by simp only [iuP, ← Int32.toInt_inj, zcs] at *; omega))
    · refine g_iload_n dX7_isUnder_9 rfl rfl ?_
      refine g_iconst dX7_isUnder_10 (v := 1) (by decide) ?_
      refine g_icmp_ne (tgt := 25) dX7_isUnder_11 (by decide) (fun c11 => ?_) (fun c11 => ?_)
      · refine g_iload_n dX7_isUnder_25 rfl rfl ?_
        refine g_iconst dX7_isUnder_26 (v := 3) (by decide) ?_
        refine g_icmp_ne (tgt := 36) dX7_isUnder_27 (by decide) (fun c27 => ?_) (fun c27 => ?_)
        · refine g_iload_n dX7_isUnder_36 rfl rfl ?_
          refine g_iconst dX7_isUnder_37 (v := 2) (by decide) ?_
          refine g_icmp_ne (tgt := 50) dX7_isUnder_38 (by decide) (fun c38 => ?_) (fun c38 => ?_)
          · refine g_iconst dX7_isUnder_50 (v := 0) (by decide) ?_
            refine g_zret dX7_isUnder_51 rfl (Or.inl rfl) ?_
            exact qI h (b2_f (by simp only [iuP, ← Int32.toInt_inj, zcs] at *; omega))
          · refine g_iload_n dX7_isUnder_41 rfl rfl ?_
            refine g_iconst dX7_isUnder_42 (v := 4) (by decide) ?_
            refine g_icmp_ne (tgt := 50) dX7_isUnder_43 (by decide) (fun c43 => ?_) (fun c43 => ?_)
            · refine g_iconst dX7_isUnder_50 (v := 0) (by decide) ?_
              refine g_zret dX7_isUnder_51 rfl (Or.inl rfl) ?_
              exact qI h (b2_f (by simp only [iuP, ← Int32.toInt_inj, zcs] at *; omega))
            · refine g_iconst dX7_isUnder_46 (v := 1) (by decide) ?_
              refine g_goto (tgt := 51) dX7_isUnder_47 (by decide) ?_
              refine g_zret dX7_isUnder_51 rfl (Or.inr rfl) ?_
              exact qI h (b2_t (by simp only [iuP, ← Int32.toInt_inj, zcs] at *; omega))
        · refine g_iload_n dX7_isUnder_30 rfl rfl ?_
          refine g_bipush dX7_isUnder_31 (v := 6) (by decide) ?_
          refine g_icmp_eq (tgt := 46) dX7_isUnder_33 (by decide) (fun c33 => ?_) (fun c33 => ?_)
          · refine g_iconst dX7_isUnder_46 (v := 1) (by decide) ?_
            refine g_goto (tgt := 51) dX7_isUnder_47 (by decide) ?_
            refine g_zret dX7_isUnder_51 rfl (Or.inr rfl) ?_
            exact qI h (b2_t (by simp only [iuP, ← Int32.toInt_inj, zcs] at *; omega))
          · refine g_iload_n dX7_isUnder_36 rfl rfl ?_
            refine g_iconst dX7_isUnder_37 (v := 2) (by decide) ?_
            refine g_icmp_ne (tgt := 50) dX7_isUnder_38 (by decide) (fun c38 => ?_) (fun c38 => ?_)
            · refine g_iconst dX7_isUnder_50 (v := 0) (by decide) ?_
              refine g_zret dX7_isUnder_51 rfl (Or.inl rfl) ?_
              exact qI h (b2_f (by simp only [iuP, ← Int32.toInt_inj, zcs] at *; omega))
            · refine g_iload_n dX7_isUnder_41 rfl rfl ?_
              refine g_iconst dX7_isUnder_42 (v := 4) (by decide) ?_
              refine g_icmp_ne (tgt := 50) dX7_isUnder_43 (by decide) (fun c43 => ?_) (fun c43 => ?_)
              · refine g_iconst dX7_isUnder_50 (v := 0) (by decide) ?_
                refine g_zret dX7_isUnder_51 rfl (Or.inl rfl) ?_
                exact qI h (b2_f (by simp only [iuP, ← Int32.toInt_inj, zcs] at *; omega))
              · refine g_iconst dX7_isUnder_46 (v := 1) (by decide) ?_
                refine g_goto (tgt := 51) dX7_isUnder_47 (by decide) ?_
                refine g_zret dX7_isUnder_51 rfl (Or.inr rfl) ?_
                exact qI h (b2_t (by simp only [iuP, ← Int32.toInt_inj, zcs] at *; omega))
      · refine g_iload_n dX7_isUnder_14 rfl rfl ?_
        refine g_iconst dX7_isUnder_15 (v := 3) (by decide) ?_
        refine g_icmp_eq (tgt := 46) dX7_isUnder_16 (by decide) (fun c16 => ?_) (fun c16 => ?_)
        · refine g_iconst dX7_isUnder_46 (v := 1) (by decide) ?_
          refine g_goto (tgt := 51) dX7_isUnder_47 (by decide) ?_
          refine g_zret dX7_isUnder_51 rfl (Or.inr rfl) ?_
          exact qI h (b2_t (by simp only [iuP, ← Int32.toInt_inj, zcs] at *; omega))
        · refine g_iload_n dX7_isUnder_19 rfl rfl ?_
          refine g_bipush dX7_isUnder_20 (v := 6) (by decide) ?_
          refine g_icmp_eq (tgt := 46) dX7_isUnder_22 (by decide) (fun c22 => ?_) (fun c22 => ?_)
          · refine g_iconst dX7_isUnder_46 (v := 1) (by decide) ?_
            refine g_goto (tgt := 51) dX7_isUnder_47 (by decide) ?_
            refine g_zret dX7_isUnder_51 rfl (Or.inr rfl) ?_
            exact qI h (b2_t (by simp only [iuP, ← Int32.toInt_inj, zcs] at *; omega))
          · refine g_iload_n dX7_isUnder_25 rfl rfl ?_
            refine g_iconst dX7_isUnder_26 (v := 3) (by decide) ?_
            refine g_icmp_ne (tgt := 36) dX7_isUnder_27 (by decide) (fun c27 => ?_) (fun c27 => ?_)
            · refine g_iload_n dX7_isUnder_36 rfl rfl ?_
              refine g_iconst dX7_isUnder_37 (v := 2) (by decide) ?_
              refine g_icmp_ne (tgt := 50) dX7_isUnder_38 (by decide) (fun c38 => ?_) (fun c38 => ?_)
              · refine g_iconst dX7_isUnder_50 (v := 0) (by decide) ?_
                refine g_zret dX7_isUnder_51 rfl (Or.inl rfl) ?_
                exact qI h (b2_f (by simp only [iuP, ← Int32.toInt_inj, zcs] at *; omega))
              · refine g_iload_n dX7_isUnder_41 rfl rfl ?_
                refine g_iconst dX7_isUnder_42 (v := 4) (by decide) ?_
                refine g_icmp_ne (tgt := 50) dX7_isUnder_43 (by decide) (fun c43 => ?_) (fun c43 => ?_)
                · refine g_iconst dX7_isUnder_50 (v := 0) (by decide) ?_
                  refine g_zret dX7_isUnder_51 rfl (Or.inl rfl) ?_
                  exact qI h (b2_f (by simp only [iuP, ← Int32.toInt_inj, zcs] at *; omega))
                · refine g_iconst dX7_isUnder_46 (v := 1) (by decide) ?_
                  refine g_goto (tgt := 51) dX7_isUnder_47 (by decide) ?_
                  refine g_zret dX7_isUnder_51 rfl (Or.inr rfl) ?_
                  exact qI h (b2_t (by simp only [iuP, ← Int32.toInt_inj, zcs] at *; omega))
            · refine g_iload_n dX7_isUnder_30 rfl rfl ?_
              refine g_bipush dX7_isUnder_31 (v := 6) (by decide) ?_
              refine g_icmp_eq (tgt := 46) dX7_isUnder_33 (by decide) (fun c33 => ?_) (fun c33 => ?_)
              · refine g_iconst dX7_isUnder_46 (v := 1) (by decide) ?_
                refine g_goto (tgt := 51) dX7_isUnder_47 (by decide) ?_
                refine g_zret dX7_isUnder_51 rfl (Or.inr rfl) ?_
                exact qI h (b2_t (by simp only [iuP, ← Int32.toInt_inj, zcs] at *; omega))
              · refine g_iload_n dX7_isUnder_36 rfl rfl ?_
                refine g_iconst dX7_isUnder_37 (v := 2) (by decide) ?_
                refine g_icmp_ne (tgt := 50) dX7_isUnder_38 (by decide) (fun c38 => ?_) (fun c38 => ?_)
                · refine g_iconst dX7_isUnder_50 (v := 0) (by decide) ?_
                  refine g_zret dX7_isUnder_51 rfl (Or.inl rfl) ?_
                  exact qI h (b2_f (by simp only [iuP, ← Int32.toInt_inj, zcs] at *; omega))
                · refine g_iload_n dX7_isUnder_41 rfl rfl ?_
                  refine g_iconst dX7_isUnder_42 (v := 4) (by decide) ?_
                  refine g_icmp_ne (tgt := 50) dX7_isUnder_43 (by decide) (fun c43 => ?_) (fun c43 => ?_)
                  · refine g_iconst dX7_isUnder_50 (v := 0) (by decide) ?_
                    refine g_zret dX7_isUnder_51 rfl (Or.inl rfl) ?_
                    exact qI h (b2_f (by simp only [iuP, ← Int32.toInt_inj, zcs] at *; omega))
                  · refine g_iconst dX7_isUnder_46 (v := 1) (by decide) ?_
                    refine g_goto (tgt := 51) dX7_isUnder_47 (by decide) ?_
                    refine g_zret dX7_isUnder_51 rfl (Or.inr rfl) ?_
                    exact qI h (b2_t (by simp only [iuP, ← Int32.toInt_inj, zcs] at *; omega))
theorem asked_eq {w : Nat} {v a b : Int32} (ha : lo_ (nI w) = a) (hb : hi_ (nI w) = b) : b2 (fromP v a b) = b2 (fromP v (lo_ (nI w)) (hi_ (nI w))) := by rw [ha, hb]
theorem nI_ne {w k : Nat} (hw : w < 2 ^ 31) (hk : k < 2 ^ 31) (h : ¬ nI w = nI k) : w ≠ k := fun q => h (by rw [q])
set_option maxHeartbeats 4000000 in
set_option maxRecDepth 100000 in
theorem wp_X7_isAsked {E : Ev} {M : Mem} {Q : QT} (hW : Wi M) {w : Nat} (hw : w < 4) {v : Int32} (h : Q (some (vI (b2 (fromP v (lo_ (nI w)) (hi_ (nI w)))))) M) : Mth E 1 0 0 kX7_isAsked [vR (20, 0, 0), vI (nI w), vI v] M Q := by
  have hwc : w = 0 ∨ w = 1 ∨ w = 2 ∨ w = 3 := by omega
  refine mth_of (by decide +kernel) [some (vR (20, 0, 0)), some (vI (nI w)), some (vI v)] (Nat.le_of_ble_eq_true rfl) rfl ?_
  refine g_iload_n dX7_isAsked_0 rfl rfl ?_
  refine g_if_ne (tgt := 15) dX7_isAsked_1 (by decide) (fun c1 => ?_) (fun c1 => ?_)
  · refine g_iload_n dX7_isAsked_15 rfl rfl ?_
    refine g_iconst dX7_isAsked_16 (v := 1) (by decide) ?_
    refine g_icmp_ne (tgt := 31) dX7_isAsked_17 (by decide) (fun c17 => ?_) (fun c17 => ?_)
    · refine g_iload_n dX7_isAsked_31 rfl rfl ?_
      refine g_iconst dX7_isAsked_32 (v := 2) (by decide) ?_
      refine g_icmp_ne (tgt := 47) dX7_isAsked_33 (by decide) (fun c33 => ?_) (fun c33 => ?_)
      · refine g_aloadR_n dX7_isAsked_47 rfl rfl ?_
        refine g_iload_n dX7_isAsked_48 rfl rfl ?_
        refine g_iconst dX7_isAsked_49 (v := 0) (by decide) ?_
        refine g_bipush dX7_isAsked_50 (v := 10) (by decide) ?_
        refine n_v3i (n' := 0) dX7_isAsked_52 mX7_isFrom lX7_120 rfl hW vld_x20 rfl rfl ⟨Nat.le_of_ble_eq_true rfl, Nat.le_of_ble_eq_true rfl⟩ ⟨Nat.zero_le _, Nat.zero_le _⟩ (Nat.le_of_ble_eq_true rfl) ?_
        refine wp_X7_isFrom ?_
        refine ⟨_, rfl, ?_⟩
        refine g_zret dX7_isAsked_55 rfl (by unfold b2; split <;> simp) ?_
        first
          | (obtain rfl : w = 0 := by
               rcases hwc with rfl | rfl | rfl | rfl
               all_goals first | rfl | (exfalso; revert c1 c17 c33; decide)
             exact qI h (asked_eq (by decide) (by decide)))
          | (obtain rfl : w = 1 := by
               rcases hwc with rfl | rfl | rfl | rfl
               all_goals first | rfl | (exfalso; revert c1 c17 c33; decide)
             exact qI h (asked_eq (by decide) (by decide)))
          | (obtain rfl : w = 2 := by
               rcases hwc with rfl | rfl | rfl | rfl
               all_goals first | rfl | (exfalso; revert c1 c17 c33; decide)
             exact qI h (asked_eq (by decide) (by decide)))
          | (obtain rfl : w = 3 := by
               rcases hwc with rfl | rfl | rfl | rfl
               all_goals first | rfl | (exfalso; revert c1 c17 c33; decide)
             exact qI h (asked_eq (by decide) (by decide)))
      · refine g_aloadR_n dX7_isAsked_36 rfl rfl ?_
        refine g_iload_n dX7_isAsked_37 rfl rfl ?_
        refine g_iconst dX7_isAsked_38 (v := 1) (by decide) ?_
        refine g_bipush dX7_isAsked_39 (v := 12) (by decide) ?_
        refine n_v3i (n' := 0) dX7_isAsked_41 mX7_isFrom lX7_120 rfl hW vld_x20 rfl rfl ⟨Nat.le_of_ble_eq_true rfl, Nat.le_of_ble_eq_true rfl⟩ ⟨Nat.zero_le _, Nat.zero_le _⟩ (Nat.le_of_ble_eq_true rfl) ?_
        refine wp_X7_isFrom ?_
        refine ⟨_, rfl, ?_⟩
        refine g_goto (tgt := 55) dX7_isAsked_44 (by decide) ?_
        refine g_zret dX7_isAsked_55 rfl (by unfold b2; split <;> simp) ?_
        first
          | (obtain rfl : w = 0 := by
               rcases hwc with rfl | rfl | rfl | rfl
               all_goals first | rfl | (exfalso; revert c1 c17 c33; decide)
             exact qI h (asked_eq (by decide) (by decide)))
          | (obtain rfl : w = 1 := by
               rcases hwc with rfl | rfl | rfl | rfl
               all_goals first | rfl | (exfalso; revert c1 c17 c33; decide)
             exact qI h (asked_eq (by decide) (by decide)))
          | (obtain rfl : w = 2 := by
               rcases hwc with rfl | rfl | rfl | rfl
               all_goals first | rfl | (exfalso; revert c1 c17 c33; decide)
             exact qI h (asked_eq (by decide) (by decide)))
          | (obtain rfl : w = 3 := by
               rcases hwc with rfl | rfl | rfl | rfl
               all_goals first | rfl | (exfalso; revert c1 c17 c33; decide)
             exact qI h (asked_eq (by decide) (by decide)))
    · refine g_aloadR_n dX7_isAsked_20 rfl rfl ?_
      refine g_iload_n dX7_isAsked_21 rfl rfl ?_
      refine g_iconst dX7_isAsked_22 (v := 0) (by decide) ?_
      refine g_bipush dX7_isAsked_23 (v := 9) (by decide) ?_
      refine n_v3i (n' := 0) dX7_isAsked_25 mX7_isFrom lX7_120 rfl hW vld_x20 rfl rfl ⟨Nat.le_of_ble_eq_true rfl, Nat.le_of_ble_eq_true rfl⟩ ⟨Nat.zero_le _, Nat.zero_le _⟩ (Nat.le_of_ble_eq_true rfl) ?_
      refine wp_X7_isFrom ?_
      refine ⟨_, rfl, ?_⟩
      refine g_goto (tgt := 55) dX7_isAsked_28 (by decide) ?_
      refine g_zret dX7_isAsked_55 rfl (by unfold b2; split <;> simp) ?_
      first
        | (obtain rfl : w = 0 := by
             rcases hwc with rfl | rfl | rfl | rfl
             all_goals first | rfl | (exfalso; revert c1 c17; decide)
           exact qI h (asked_eq (by decide) (by decide)))
        | (obtain rfl : w = 1 := by
             rcases hwc with rfl | rfl | rfl | rfl
             all_goals first | rfl | (exfalso; revert c1 c17; decide)
           exact qI h (asked_eq (by decide) (by decide)))
        | (obtain rfl : w = 2 := by
             rcases hwc with rfl | rfl | rfl | rfl
             all_goals first | rfl | (exfalso; revert c1 c17; decide)
           exact qI h (asked_eq (by decide) (by decide)))
        | (obtain rfl : w = 3 := by
             rcases hwc with rfl | rfl | rfl | rfl
             all_goals first | rfl | (exfalso; revert c1 c17; decide)
           exact qI h (asked_eq (by decide) (by decide)))
  · refine g_aloadR_n dX7_isAsked_4 rfl rfl ?_
    refine g_iload_n dX7_isAsked_5 rfl rfl ?_
    refine g_iconst dX7_isAsked_6 (v := 0) (by decide) ?_
    refine g_bipush dX7_isAsked_7 (v := 20) (by decide) ?_
    refine n_v3i (n' := 0) dX7_isAsked_9 mX7_isFrom lX7_120 rfl hW vld_x20 rfl rfl ⟨Nat.le_of_ble_eq_true rfl, Nat.le_of_ble_eq_true rfl⟩ ⟨Nat.zero_le _, Nat.zero_le _⟩ (Nat.le_of_ble_eq_true rfl) ?_
    refine wp_X7_isFrom ?_
    refine ⟨_, rfl, ?_⟩
    refine g_goto (tgt := 55) dX7_isAsked_12 (by decide) ?_
    refine g_zret dX7_isAsked_55 rfl (by unfold b2; split <;> simp) ?_
    first
      | (obtain rfl : w = 0 := by
           rcases hwc with rfl | rfl | rfl | rfl
           all_goals first | rfl | (exfalso; revert c1; decide)
         exact qI h (asked_eq (by decide) (by decide)))
      | (obtain rfl : w = 1 := by
           rcases hwc with rfl | rfl | rfl | rfl
           all_goals first | rfl | (exfalso; revert c1; decide)
         exact qI h (asked_eq (by decide) (by decide)))
      | (obtain rfl : w = 2 := by
           rcases hwc with rfl | rfl | rfl | rfl
           all_goals first | rfl | (exfalso; revert c1; decide)
         exact qI h (asked_eq (by decide) (by decide)))
      | (obtain rfl : w = 3 := by
           rcases hwc with rfl | rfl | rfl | rfl
           all_goals first | rfl | (exfalso; revert c1; decide)
         exact qI h (asked_eq (by decide) (by decide)))
set_option maxHeartbeats 4000000 in
set_option maxRecDepth 100000 in
theorem wp_X7_asks {E : Ev} {M : Mem} {Q : QT} (hW : Wi M) {w : Nat} (hw : w < 4) {v : Int32} (h : Q none (sI M (20, 0, 0) (w + 1) v)) : Mth E 0 0 0 kX7_asks [vR (20, 0, 0), vI (nI w), vI v] M Q := by
  have hwc : w = 0 ∨ w = 1 ∨ w = 2 ∨ w = 3 := by omega
  refine mth_of (by decide +kernel) [some (vR (20, 0, 0)), some (vI (nI w)), some (vI v)] (Nat.le_of_ble_eq_true rfl) rfl ?_
  refine g_iload_n dX7_asks_0 rfl rfl ?_
  refine g_if_ne (tgt := 12) dX7_asks_1 (by decide) (fun c1 => ?_) (fun c1 => ?_)
  · refine g_iload_n dX7_asks_12 rfl rfl ?_
    refine g_iconst dX7_asks_13 (v := 1) (by decide) ?_
    refine g_icmp_ne (tgt := 25) dX7_asks_14 (by decide) (fun c14 => ?_) (fun c14 => ?_)
    · refine g_iload_n dX7_asks_25 rfl rfl ?_
      refine g_iconst dX7_asks_26 (v := 2) (by decide) ?_
      refine g_icmp_ne (tgt := 38) dX7_asks_27 (by decide) (fun c27 => ?_) (fun c27 => ?_)
      · refine g_aloadR_n dX7_asks_38 rfl rfl ?_
        refine g_iload_n dX7_asks_39 rfl rfl ?_
        refine n_putI dX7_asks_40 fX7_16 rfl hW vld_x20 rfl ?_
        refine g_vret dX7_asks_43 rfl ?_
        first
          | (obtain rfl : w = 0 := by
               rcases hwc with rfl | rfl | rfl | rfl
               all_goals first | rfl | (exfalso; revert c1 c14 c27; decide)
             exact h)
          | (obtain rfl : w = 1 := by
               rcases hwc with rfl | rfl | rfl | rfl
               all_goals first | rfl | (exfalso; revert c1 c14 c27; decide)
             exact h)
          | (obtain rfl : w = 2 := by
               rcases hwc with rfl | rfl | rfl | rfl
               all_goals first | rfl | (exfalso; revert c1 c14 c27; decide)
             exact h)
          | (obtain rfl : w = 3 := by
               rcases hwc with rfl | rfl | rfl | rfl
               all_goals first | rfl | (exfalso; revert c1 c14 c27; decide)
             exact h)
      · refine g_aloadR_n dX7_asks_30 rfl rfl ?_
        refine g_iload_n dX7_asks_31 rfl rfl ?_
        refine n_putI dX7_asks_32 fX7_13 rfl hW vld_x20 rfl ?_
        refine g_goto (tgt := 43) dX7_asks_35 (by decide) ?_
        refine g_vret dX7_asks_43 rfl ?_
        first
          | (obtain rfl : w = 0 := by
               rcases hwc with rfl | rfl | rfl | rfl
               all_goals first | rfl | (exfalso; revert c1 c14 c27; decide)
             exact h)
          | (obtain rfl : w = 1 := by
               rcases hwc with rfl | rfl | rfl | rfl
               all_goals first | rfl | (exfalso; revert c1 c14 c27; decide)
             exact h)
          | (obtain rfl : w = 2 := by
               rcases hwc with rfl | rfl | rfl | rfl
               all_goals first | rfl | (exfalso; revert c1 c14 c27; decide)
             exact h)
          | (obtain rfl : w = 3 := by
               rcases hwc with rfl | rfl | rfl | rfl
               all_goals first | rfl | (exfalso; revert c1 c14 c27; decide)
             exact h)
    · refine g_aloadR_n dX7_asks_17 rfl rfl ?_
      refine g_iload_n dX7_asks_18 rfl rfl ?_
      refine n_putI dX7_asks_19 fX7_131 rfl hW vld_x20 rfl ?_
      refine g_goto (tgt := 43) dX7_asks_22 (by decide) ?_
      refine g_vret dX7_asks_43 rfl ?_
      first
        | (obtain rfl : w = 0 := by
             rcases hwc with rfl | rfl | rfl | rfl
             all_goals first | rfl | (exfalso; revert c1 c14; decide)
           exact h)
        | (obtain rfl : w = 1 := by
             rcases hwc with rfl | rfl | rfl | rfl
             all_goals first | rfl | (exfalso; revert c1 c14; decide)
           exact h)
        | (obtain rfl : w = 2 := by
             rcases hwc with rfl | rfl | rfl | rfl
             all_goals first | rfl | (exfalso; revert c1 c14; decide)
           exact h)
        | (obtain rfl : w = 3 := by
             rcases hwc with rfl | rfl | rfl | rfl
             all_goals first | rfl | (exfalso; revert c1 c14; decide)
           exact h)
  · refine g_aloadR_n dX7_asks_4 rfl rfl ?_
    refine g_iload_n dX7_asks_5 rfl rfl ?_
    refine n_putI dX7_asks_6 fX7_7 rfl hW vld_x20 rfl ?_
    refine g_goto (tgt := 43) dX7_asks_9 (by decide) ?_
    refine g_vret dX7_asks_43 rfl ?_
    first
      | (obtain rfl : w = 0 := by
           rcases hwc with rfl | rfl | rfl | rfl
           all_goals first | rfl | (exfalso; revert c1; decide)
         exact h)
      | (obtain rfl : w = 1 := by
           rcases hwc with rfl | rfl | rfl | rfl
           all_goals first | rfl | (exfalso; revert c1; decide)
         exact h)
      | (obtain rfl : w = 2 := by
           rcases hwc with rfl | rfl | rfl | rfl
           all_goals first | rfl | (exfalso; revert c1; decide)
         exact h)
      | (obtain rfl : w = 3 := by
           rcases hwc with rfl | rfl | rfl | rfl
           all_goals first | rfl | (exfalso; revert c1; decide)
         exact h)
