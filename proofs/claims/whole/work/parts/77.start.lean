/-! THE START: BOTH ARE MADE, THEN THE ROUND -/
def MZ0 : Mem := mS7 (nwM (mS6 (nwM M00 (0, 0, 0))) (20, 0, 0))
def S00 : Sc := (0, fun j => [0, 8, 0, 8, 3, 0, 1].getD j 0, fun _ _ => 0)
def X00 : Sys := (S00, none, fun _ => noSf, fun _ => 0, -1, [])
theorem mf_n2 : mN (nwM (mS6 (nwM M00 (0, 0, 0))) (20, 0, 0)) = 79 := by decide +kernel
theorem mf_n : mN MZ0 = 104 := by decide +kernel
theorem wire_lt {a b : Id} {k : Nat} (h : wire a k = some b) : k < 50 := by
  rcases Nat.lt_or_ge k 50 with q | q
  · exact q
  · exfalso
    unfold wire at h
    split at h <;> first | omega | (cases h; done) | (split at h; omega; cases h; done) | (rw [if_neg (by omega), if_neg (by omega), if_neg (by omega), if_neg (by omega), if_neg (by omega), if_neg (by omega), if_neg (by omega)] at h; cases h)
theorem mf_w : ∀ a ∈ idTable, ∀ k, k < 50 → wire a k = none ∨ mR MZ0 a k = wire a k := by decide +kernel
theorem mf_wi : Wi MZ0 := ⟨mf_n, fun a k b ha hw => by
  have hm : a ∈ idTable := by
    simp only [vld, beq_iff_eq] at ha
    exact List.mem_of_getElem? ha
  rcases mf_w a hm k (wire_lt hw) with q | q
  · rw [q] at hw; cases hw
  · exact q.trans hw⟩
theorem mf_c1 : (mI MZ0 (1, 0, 0) 2 = 0 ∧ ∀ j, j < 7 → 1 ≤ j → mI MZ0 (1, 0, 0) (j + 2) = [0, 8, 0, 8, 3, 0, 1].getD j 0) ∧ mI MZ0 (0, 0, 0) 3 = 0 ∧ mI MZ0 (0, 0, 0) 10 = -1 ∧ mI MZ0 (10, 0, 0) 0 = 0 := by decide +kernel
theorem mf_c2 : ∀ s, s < 9 → mI MZ0 (5, s, 0) 0 = -1 ∧ mI MZ0 (5, s, 0) 1 = -1 ∧ mI MZ0 (5, s, 0) 2 = 0 := by decide +kernel
theorem mf_c3 : ∀ j, j < 8 → mI MZ0 (12, 0, 0) j = 0 := by decide +kernel
theorem mf_m1 : (mI MZ0 (20, 0, 0) 0 = 0 ∧ ∀ j, j < 7 → 1 ≤ j → mI MZ0 (20, 0, 0) j = [0, 8, 0, 8, 3, 0, 1].getD j 0) ∧ mI MZ0 (20, 0, 0) 49 = 0 ∧ mI MZ0 (20, 0, 0) 7 = -1 ∧ mI MZ0 (20, 0, 0) 48 = 0 := by decide +kernel
theorem mf_m2 : ∀ j, j < 8 → mI MZ0 (21, 10, 0) j = 0 ∧ mI MZ0 (21, 0, 0) j = 0 := by decide +kernel
theorem mf_m3 : ∀ j, j < 48 → mI MZ0 (21, 16, 0) j = wdK.getD j 0 := by decide +kernel
theorem mf_m4 : (∀ j, j < 7 → mI MZ0 (21, 17, 0) j = nmK.getD j 0) ∧ ∀ j, j < 4 → mI MZ0 (21, 18, 0) j = msK.getD j 0 := by decide +kernel
theorem mf_cl : RepCl MZ0 X00 := ⟨⟨mf_c1.1.1, fun j a b => mf_c1.1.2 j b a, fun i f h => absurd h (Nat.not_lt_zero _)⟩, mf_c1.2.1, fun s hs => Or.inl ⟨rfl, mf_c2 s (by omega)⟩, Or.inl ⟨rfl, mf_c2 8 (by omega)⟩, fun j a b => mf_c3 j b, mf_c1.2.2.1, mf_c1.2.2.2, fun i a b => absurd b (Nat.not_lt_zero _)⟩
theorem mf_mo : RepMo MZ0 X00 := ⟨⟨mf_m1.1.1, fun j a b => mf_m1.1.2 j b a, fun i f h => absurd h (Nat.not_lt_zero _)⟩, mf_m1.2.1, fun s hs => ⟨(mf_m2 s hs).1, fun q => absurd (show noSf.1 = 1 from q) (by decide), fun q => absurd (show noSf.1 = 2 from q) (by decide)⟩, fun j a b => (mf_m2 j b).2, mf_m1.2.2.1, ⟨mf_m1.2.2.2, fun i a b => absurd b (Nat.not_lt_zero _)⟩, mf_m3, mf_m4.1, mf_m4.2⟩
theorem ok_00 : OkX X00 := ⟨⟨by decide, by decide, by decide, by decide, by decide, fun i hi => absurd hi (Nat.not_lt_zero _)⟩, fun S h => (by cases h), fun s hs => okSf_no _, by decide⟩
set_option maxHeartbeats 4000000 in
set_option maxRecDepth 100000 in
theorem whole_go {E : Ev} {nm : String} (hL : eL E ≤ 3072) : G E room_1 (kL nm) (ZL E) 0 0 0 [some (vS 4), none, none, none] [] M00 := by
  refine g_new (a := (0, 0, 0)) (c := 6) dXL_law_0 rfl (by decide) rfl vld_x0 rfl clXL_7 inX6 iiX6 (Nat.le_of_ble_eq_true rfl) (Nat.le_of_ble_eq_true rfl) ?_
  refine g_dup dXL_law_3 rfl ?_
  refine g_ini0 (n' := 4) (mc := 77) (ms := 2203) dXL_law_4 mX6_init rfl lXL_9 ⟨Nat.le_of_ble_eq_true rfl, Nat.le_of_ble_eq_true rfl⟩ ⟨Nat.le_of_ble_eq_true rfl, Nat.le_of_ble_eq_true rfl⟩ (Nat.le_of_ble_eq_true rfl) (fun Q1 hQ1 => ?_)
  refine wp_X6_init rfl ((hQ1 none _).mpr ?_)
  refine g_mem (fun N6 e6 => ?_)
  have hn6 : off (20, 0, 0) = mN N6 := by rw [e6]; decide +kernel
  refine g_astore_1 dXL_law_7 rfl ?_
  refine g_new (a := (20, 0, 0)) (c := 7) dXL_law_8 rfl (by decide) rfl vld_x20 hn6 clXL_10 inX7 iiX7 (Nat.le_of_ble_eq_true rfl) (Nat.le_of_ble_eq_true rfl) ?_
  refine g_dup dXL_law_11 rfl ?_
  refine g_ini0 (n' := 1) (mc := 25) (ms := 1963) dXL_law_12 mX7_init rfl lXL_12 ⟨Nat.le_of_ble_eq_true rfl, Nat.le_of_ble_eq_true rfl⟩ ⟨Nat.le_of_ble_eq_true rfl, Nat.le_of_ble_eq_true rfl⟩ (Nat.le_of_ble_eq_true rfl) (fun Q2 hQ2 => ?_)
  refine wp_X7_init (by rw [e6]; exact mf_n2) ((hQ2 none _).mpr ?_)
  refine g_mem (fun N7 e7 => ?_)
  have h7 : N7 = MZ0 := by rw [e7, e6]; rfl
  clear e7 hn6
  subst h7
  refine g_astore_2 dXL_law_15 rfl ?_
  refine g_iconst dXL_law_16 (v := 0) (by decide) ?_
  refine g_istore_3 dXL_law_17 rfl ?_
  exact lp_law (E := E) (nm := nm) hL 512 0 (by omega) (by omega) MZ0 X00 mf_wi mf_cl mf_mo ok_00
