/-! PERSON -/
/-- all fields of an object anew -/
def sP (M : Mem) (a : Id) (F : Nat → Int32) : Mem := (fun b j => if b = a then F j else M.1 b j, M.2)
theorem sI_sP {M : Mem} {a : Id} {k : Nat} {x : Int32} : sI M a k x = sP M a (fun j => if j = k then x else mI M a j) := by
  refine Prod.ext (funext fun b => funext fun j => ?_) rfl
  by_cases hb : b = a
  · subst hb; simp [sI, sP, mI]
  · simp [sI, sP, hb]
theorem sP_sP {M : Mem} {a : Id} {F F' : Nat → Int32} : sP (sP M a F) a F' = sP M a F' := by
  refine Prod.ext (funext fun b => funext fun j => ?_) rfl
  by_cases hb : b = a <;> simp [sP, hb]
theorem mI_sP {M : Mem} {a : Id} {F : Nat → Int32} {j : Nat} : mI (sP M a F) a j = F j := by simp [mI, sP]
theorem mI_sP_ne {M : Mem} {a b : Id} {F : Nat → Int32} (h : b ≠ a) : mI (sP M a F) b = mI M b := by funext j; simp [mI, sP, h]
theorem sP_self {M : Mem} {a : Id} : sP M a (mI M a) = M := by
  refine Prod.ext (funext fun b => funext fun j => ?_) rfl
  by_cases hb : b = a
  · subst hb; simp [sP, mI]
  · simp [sP, hb]
def mdF (a e : Int32) : Int32 := b2 (0 < a + 2 ∧ e - e / (a + 2) * (a + 2) = 0)
def pullF (f : Nat → Int32) (l r e : Int32) : Int32 :=
  let st := (if 0 ≤ l - f 2 then l - f 2 else 0 - (l - f 2)) / 2
  let w := 12 - r - st - 2 * f 5 + (if f 3 = 0 then 0 else (if 0 < 4 - e / 3 then 4 - e / 3 else 0))
  if f 0 = 1 then w + f 1 else if f 0 = 3 ∨ f 0 = 6 then w + f 1 + 2 else if f 0 = 2 then w - f 1 else if f 0 = 4 then w - f 1 - st else if f 0 = 5 then (if mdF (f 1) e = 0 then w else w - 20) else w
def satF (f : Nat → Int32) : Nat → Int32 := fun j => if j = 7 then f 7 + 1 else if j = 5 then (if 0 < f 5 - 1 then f 5 - 1 else 0) else if j = 2 then (if f 2 + 1 < 20 then f 2 + 1 else 20) else if j = 6 then 0 else f j
def awayF (f : Nat → Int32) : Nat → Int32 := fun j => if j = 5 then (if f 5 + 1 < 9 then f 5 + 1 else 9) else if j = 6 then f 6 + 1 else if j = 8 then (if (if f 3 = 0 then 2 else 3) ≤ f 6 + 1 then 1 else f 8) else f j
def entF (f : Nat → Int32) (kd a ow pd : Int32) : Nat → Int32 := fun j => if j = 0 then kd else if j = 1 then a else if j = 2 then ow else if j = 3 then pd else if j = 4 then -1 else if j = 5 then 0 else if j = 6 then 0 else if j = 7 then 0 else if j = 8 then 0 else f j
def markI (w : Nat) : Nat := [0, 1, 2, 3, 5, 6, 7, 8].getD w 8
set_option maxHeartbeats 4000000 in
set_option maxRecDepth 100000 in
theorem wp_X2_isMatchDay {E : Ev} {M : Mem} {Q : QT} (hW : Wi M) {k i : Nat} (hk : k < 4) (hi : i < 11) {e : Int32} (h : Q (some (vI (mdF (mI M (2, k, i) 1) e))) M) : Mth E 0 0 0 kX2_isMatchDay [vR (2, k, i), vI e] M Q := by
  refine mth_of (by decide +kernel) [some (vR (2, k, i)), some (vI e), none] (Nat.le_of_ble_eq_true rfl) rfl ?_
  refine g_aloadR_n dX2_isMatchDay_0 rfl rfl ?_
  refine n_getI dX2_isMatchDay_1 fX2_18 rfl hW (vld_pe hk hi) (Or.inl rfl) ?_
  refine g_iconst dX2_isMatchDay_4 (v := 2) (by decide) ?_
  refine g_iadd dX2_isMatchDay_5 ?_
  refine g_istore_2 dX2_isMatchDay_6 rfl ?_
  refine g_iload_n dX2_isMatchDay_7 rfl rfl ?_
  refine g_if_le (tgt := 21) dX2_isMatchDay_8 (by decide) (fun c8 => ?_) (fun c8 => ?_)
  · refine g_iconst dX2_isMatchDay_21 (v := 0) (by decide) ?_
    refine g_zret dX2_isMatchDay_22 rfl (Or.inl rfl) ?_
    exact qI h (by unfold mdF; first | exact b2_t ⟨by simpa using c8, by assumption⟩ | exact b2_f (fun q => c14 q.2) | exact b2_f (fun q => by have := c8; simp only [Int32.lt_iff_toInt_lt, Int32.le_iff_toInt_le] at this q; omega))
  · refine g_iload_n dX2_isMatchDay_11 rfl rfl ?_
    refine g_iload_n dX2_isMatchDay_12 rfl rfl ?_
    refine g_irem dX2_isMatchDay_13 (fun q => by rw [q] at c8; exact absurd c8 (by decide)) ?_
    refine g_if_ne (tgt := 21) dX2_isMatchDay_14 (by decide) (fun c14 => ?_) (fun c14 => ?_)
    · refine g_iconst dX2_isMatchDay_21 (v := 0) (by decide) ?_
      refine g_zret dX2_isMatchDay_22 rfl (Or.inl rfl) ?_
      exact qI h (by unfold mdF; first | exact b2_t ⟨by simpa using c8, by assumption⟩ | exact b2_f (fun q => c14 q.2) | exact b2_f (fun q => by have := c8; simp only [Int32.lt_iff_toInt_lt, Int32.le_iff_toInt_le] at this q; omega))
    · refine g_iconst dX2_isMatchDay_17 (v := 1) (by decide) ?_
      refine g_goto (tgt := 22) dX2_isMatchDay_18 (by decide) ?_
      refine g_zret dX2_isMatchDay_22 rfl (Or.inr rfl) ?_
      exact qI h (by unfold mdF; first | exact b2_t ⟨by simpa using c8, by assumption⟩ | exact b2_f (fun q => c14 q.2) | exact b2_f (fun q => by have := c8; simp only [Int32.lt_iff_toInt_lt, Int32.le_iff_toInt_le] at this q; omega))
set_option maxHeartbeats 4000000 in
set_option maxRecDepth 100000 in
theorem wp_X2_pullOn {E : Ev} {M : Mem} {Q : QT} (hW : Wi M) {k i : Nat} (hk : k < 4) (hi : i < 11) {l r e : Int32} (h : Q (some (vI (pullF (mI M (2, k, i)) l r e))) M) : Mth E 1 0 0 kX2_pullOn [vR (2, k, i), vI l, vI r, vI e] M Q := by
  refine mth_of (by decide +kernel) [some (vR (2, k, i)), some (vI l), some (vI r), some (vI e), none, none] (Nat.le_of_ble_eq_true rfl) rfl ?_
  refine g_iload_n dX2_pullOn_0 rfl rfl ?_
  refine g_aloadR_n dX2_pullOn_1 rfl rfl ?_
  refine n_getI dX2_pullOn_2 fX2_21 rfl hW (vld_pe hk hi) (Or.inl rfl) ?_
  refine g_isub dX2_pullOn_5 ?_
  refine n_mabs dX2_pullOn_6 lX2_40 ⟨Nat.le_of_ble_eq_true rfl, Nat.le_of_ble_eq_true rfl⟩ ⟨Nat.zero_le _, Nat.zero_le _⟩ ?_
  refine g_iconst dX2_pullOn_9 (v := 2) (by decide) ?_
  refine g_idiv dX2_pullOn_10 (by decide) ?_
  refine g_istore_4 dX2_pullOn_11 rfl ?_
  refine g_bipush dX2_pullOn_13 (v := 12) (by decide) ?_
  refine g_iload_n dX2_pullOn_15 rfl rfl ?_
  refine g_isub dX2_pullOn_16 ?_
  refine g_iload dX2_pullOn_17 rfl ?_
  refine g_isub dX2_pullOn_19 ?_
  refine g_iconst dX2_pullOn_20 (v := 2) (by decide) ?_
  refine g_aloadR_n dX2_pullOn_21 rfl rfl ?_
  refine n_getI dX2_pullOn_22 fX2_28 rfl hW (vld_pe hk hi) (Or.inl rfl) ?_
  refine g_imul dX2_pullOn_25 ?_
  refine g_isub dX2_pullOn_26 ?_
  refine g_istore_5 dX2_pullOn_27 rfl ?_
  refine g_aloadR_n dX2_pullOn_29 rfl rfl ?_
  refine n_getI dX2_pullOn_30 fX2_24 rfl hW (vld_pe hk hi) (Or.inr rfl) ?_
  refine g_if_eq (tgt := 50) dX2_pullOn_33 (by decide) (fun c33 => ?_) (fun c33 => ?_)
  · refine g_aloadR_n dX2_pullOn_50 rfl rfl ?_
    refine n_getI dX2_pullOn_51 fX2_15 rfl hW (vld_pe hk hi) (Or.inl rfl) ?_
    refine g_top (fun y54 e54 => ?_)
    by_cases s54_0 : y54 = 1
    · refine g_tableIn (tgt := 92) dX2_pullOn_54 (by rw [s54_0]; decide) (by rw [s54_0]; decide) (o := 38) (by rw [s54_0]; decide) (by decide) ?_
      refine g_iload dX2_pullOn_92 rfl ?_
      refine g_aloadR_n dX2_pullOn_94 rfl rfl ?_
      refine n_getI dX2_pullOn_95 fX2_18 rfl hW (vld_pe hk hi) (Or.inl rfl) ?_
      refine g_iadd dX2_pullOn_98 ?_
      refine g_iret dX2_pullOn_99 rfl ?_
      subst e54
      exact qI h (by simp only [pullF]; simp [*])
    by_cases s54_1 : y54 = 2
    · refine g_tableIn (tgt := 110) dX2_pullOn_54 (by rw [s54_1]; decide) (by rw [s54_1]; decide) (o := 56) (by rw [s54_1]; decide) (by decide) ?_
      refine g_iload dX2_pullOn_110 rfl ?_
      refine g_aloadR_n dX2_pullOn_112 rfl rfl ?_
      refine n_getI dX2_pullOn_113 fX2_18 rfl hW (vld_pe hk hi) (Or.inl rfl) ?_
      refine g_isub dX2_pullOn_116 ?_
      refine g_iret dX2_pullOn_117 rfl ?_
      subst e54
      exact qI h (by simp only [pullF]; simp [*])
    by_cases s54_2 : y54 = 3
    · refine g_tableIn (tgt := 100) dX2_pullOn_54 (by rw [s54_2]; decide) (by rw [s54_2]; decide) (o := 46) (by rw [s54_2]; decide) (by decide) ?_
      refine g_iload dX2_pullOn_100 rfl ?_
      refine g_aloadR_n dX2_pullOn_102 rfl rfl ?_
      refine n_getI dX2_pullOn_103 fX2_18 rfl hW (vld_pe hk hi) (Or.inl rfl) ?_
      refine g_iadd dX2_pullOn_106 ?_
      refine g_iconst dX2_pullOn_107 (v := 2) (by decide) ?_
      refine g_iadd dX2_pullOn_108 ?_
      refine g_iret dX2_pullOn_109 rfl ?_
      subst e54
      exact qI h (by simp only [pullF]; simp [*])
    by_cases s54_3 : y54 = 4
    · refine g_tableIn (tgt := 118) dX2_pullOn_54 (by rw [s54_3]; decide) (by rw [s54_3]; decide) (o := 64) (by rw [s54_3]; decide) (by decide) ?_
      refine g_iload dX2_pullOn_118 rfl ?_
      refine g_aloadR_n dX2_pullOn_120 rfl rfl ?_
      refine n_getI dX2_pullOn_121 fX2_18 rfl hW (vld_pe hk hi) (Or.inl rfl) ?_
      refine g_isub dX2_pullOn_124 ?_
      refine g_iload dX2_pullOn_125 rfl ?_
      refine g_isub dX2_pullOn_127 ?_
      refine g_iret dX2_pullOn_128 rfl ?_
      subst e54
      exact qI h (by simp only [pullF]; simp [*])
    by_cases s54_4 : y54 = 5
    · refine g_tableIn (tgt := 129) dX2_pullOn_54 (by rw [s54_4]; decide) (by rw [s54_4]; decide) (o := 75) (by rw [s54_4]; decide) (by decide) ?_
      refine g_aloadR_n dX2_pullOn_129 rfl rfl ?_
      refine g_iload_n dX2_pullOn_130 rfl rfl ?_
      refine n_v1i (n' := 0) dX2_pullOn_131 mX2_isMatchDay lX2_50 rfl hW (vld_pe hk hi) rfl rfl ⟨Nat.le_of_ble_eq_true rfl, Nat.le_of_ble_eq_true rfl⟩ ⟨Nat.zero_le _, Nat.zero_le _⟩ (Nat.le_of_ble_eq_true rfl) ?_
      refine wp_X2_isMatchDay (by exact hW) hk hi ?_
      refine ⟨_, rfl, ?_⟩
      refine g_if_eq (tgt := 145) dX2_pullOn_134 (by decide) (fun c134 => ?_) (fun c134 => ?_)
      · refine g_iload dX2_pullOn_145 rfl ?_
        refine g_iret dX2_pullOn_147 rfl ?_
        subst e54
        exact qI h (by simp only [pullF]; simp [*])
      · refine g_iload dX2_pullOn_137 rfl ?_
        refine g_bipush dX2_pullOn_139 (v := 20) (by decide) ?_
        refine g_isub dX2_pullOn_141 ?_
        refine g_goto (tgt := 147) dX2_pullOn_142 (by decide) ?_
        refine g_iret dX2_pullOn_147 rfl ?_
        subst e54
        exact qI h (by simp only [pullF]; simp [*])
    by_cases s54_5 : y54 = 6
    · refine g_tableIn (tgt := 100) dX2_pullOn_54 (by rw [s54_5]; decide) (by rw [s54_5]; decide) (o := 46) (by rw [s54_5]; decide) (by decide) ?_
      refine g_iload dX2_pullOn_100 rfl ?_
      refine g_aloadR_n dX2_pullOn_102 rfl rfl ?_
      refine n_getI dX2_pullOn_103 fX2_18 rfl hW (vld_pe hk hi) (Or.inl rfl) ?_
      refine g_iadd dX2_pullOn_106 ?_
      refine g_iconst dX2_pullOn_107 (v := 2) (by decide) ?_
      refine g_iadd dX2_pullOn_108 ?_
      refine g_iret dX2_pullOn_109 rfl ?_
      subst e54
      exact qI h (by simp only [pullF]; simp [*])
    refine g_tableOut (tgt := 148) dX2_pullOn_54 (by have t0 : ¬ y54.toInt = 1 := sw_ne s54_0; have t1 : ¬ y54.toInt = 2 := sw_ne s54_1; have t2 : ¬ y54.toInt = 3 := sw_ne s54_2; have t3 : ¬ y54.toInt = 4 := sw_ne s54_3; have t4 : ¬ y54.toInt = 5 := sw_ne s54_4; have t5 : ¬ y54.toInt = 6 := sw_ne s54_5; omega) (by decide) ?_
    refine g_iload dX2_pullOn_148 rfl ?_
    refine g_iret dX2_pullOn_150 rfl ?_
    subst e54
    exact qI h (by simp only [pullF]; simp [*])
  · refine g_iload dX2_pullOn_36 rfl ?_
    refine g_iconst dX2_pullOn_38 (v := 0) (by decide) ?_
    refine g_iconst dX2_pullOn_39 (v := 4) (by decide) ?_
    refine g_iload_n dX2_pullOn_40 rfl rfl ?_
    refine g_iconst dX2_pullOn_41 (v := 3) (by decide) ?_
    refine g_idiv dX2_pullOn_42 (by decide) ?_
    refine g_isub dX2_pullOn_43 ?_
    refine n_mmax dX2_pullOn_44 lX2_46 ⟨Nat.le_of_ble_eq_true rfl, Nat.le_of_ble_eq_true rfl⟩ ⟨Nat.zero_le _, Nat.zero_le _⟩ ?_
    refine g_iadd dX2_pullOn_47 ?_
    refine g_istore_5 dX2_pullOn_48 rfl ?_
    refine g_aloadR_n dX2_pullOn_50 rfl rfl ?_
    refine n_getI dX2_pullOn_51 fX2_15 rfl hW (vld_pe hk hi) (Or.inl rfl) ?_
    refine g_top (fun y54 e54 => ?_)
    by_cases s54_0 : y54 = 1
    · refine g_tableIn (tgt := 92) dX2_pullOn_54 (by rw [s54_0]; decide) (by rw [s54_0]; decide) (o := 38) (by rw [s54_0]; decide) (by decide) ?_
      refine g_iload dX2_pullOn_92 rfl ?_
      refine g_aloadR_n dX2_pullOn_94 rfl rfl ?_
      refine n_getI dX2_pullOn_95 fX2_18 rfl hW (vld_pe hk hi) (Or.inl rfl) ?_
      refine g_iadd dX2_pullOn_98 ?_
      refine g_iret dX2_pullOn_99 rfl ?_
      subst e54
      exact qI h (by simp only [pullF]; simp [*])
    by_cases s54_1 : y54 = 2
    · refine g_tableIn (tgt := 110) dX2_pullOn_54 (by rw [s54_1]; decide) (by rw [s54_1]; decide) (o := 56) (by rw [s54_1]; decide) (by decide) ?_
      refine g_iload dX2_pullOn_110 rfl ?_
      refine g_aloadR_n dX2_pullOn_112 rfl rfl ?_
      refine n_getI dX2_pullOn_113 fX2_18 rfl hW (vld_pe hk hi) (Or.inl rfl) ?_
      refine g_isub dX2_pullOn_116 ?_
      refine g_iret dX2_pullOn_117 rfl ?_
      subst e54
      exact qI h (by simp only [pullF]; simp [*])
    by_cases s54_2 : y54 = 3
    · refine g_tableIn (tgt := 100) dX2_pullOn_54 (by rw [s54_2]; decide) (by rw [s54_2]; decide) (o := 46) (by rw [s54_2]; decide) (by decide) ?_
      refine g_iload dX2_pullOn_100 rfl ?_
      refine g_aloadR_n dX2_pullOn_102 rfl rfl ?_
      refine n_getI dX2_pullOn_103 fX2_18 rfl hW (vld_pe hk hi) (Or.inl rfl) ?_
      refine g_iadd dX2_pullOn_106 ?_
      refine g_iconst dX2_pullOn_107 (v := 2) (by decide) ?_
      refine g_iadd dX2_pullOn_108 ?_
      refine g_iret dX2_pullOn_109 rfl ?_
      subst e54
      exact qI h (by simp only [pullF]; simp [*])
    by_cases s54_3 : y54 = 4
    · refine g_tableIn (tgt := 118) dX2_pullOn_54 (by rw [s54_3]; decide) (by rw [s54_3]; decide) (o := 64) (by rw [s54_3]; decide) (by decide) ?_
      refine g_iload dX2_pullOn_118 rfl ?_
      refine g_aloadR_n dX2_pullOn_120 rfl rfl ?_
      refine n_getI dX2_pullOn_121 fX2_18 rfl hW (vld_pe hk hi) (Or.inl rfl) ?_
      refine g_isub dX2_pullOn_124 ?_
      refine g_iload dX2_pullOn_125 rfl ?_
      refine g_isub dX2_pullOn_127 ?_
      refine g_iret dX2_pullOn_128 rfl ?_
      subst e54
      exact qI h (by simp only [pullF]; simp [*])
    by_cases s54_4 : y54 = 5
    · refine g_tableIn (tgt := 129) dX2_pullOn_54 (by rw [s54_4]; decide) (by rw [s54_4]; decide) (o := 75) (by rw [s54_4]; decide) (by decide) ?_
      refine g_aloadR_n dX2_pullOn_129 rfl rfl ?_
      refine g_iload_n dX2_pullOn_130 rfl rfl ?_
      refine n_v1i (n' := 0) dX2_pullOn_131 mX2_isMatchDay lX2_50 rfl hW (vld_pe hk hi) rfl rfl ⟨Nat.le_of_ble_eq_true rfl, Nat.le_of_ble_eq_true rfl⟩ ⟨Nat.zero_le _, Nat.zero_le _⟩ (Nat.le_of_ble_eq_true rfl) ?_
      refine wp_X2_isMatchDay (by exact hW) hk hi ?_
      refine ⟨_, rfl, ?_⟩
      refine g_if_eq (tgt := 145) dX2_pullOn_134 (by decide) (fun c134 => ?_) (fun c134 => ?_)
      · refine g_iload dX2_pullOn_145 rfl ?_
        refine g_iret dX2_pullOn_147 rfl ?_
        subst e54
        exact qI h (by simp only [pullF]; simp [*])
      · refine g_iload dX2_pullOn_137 rfl ?_
        refine g_bipush dX2_pullOn_139 (v := 20) (by decide) ?_
        refine g_isub dX2_pullOn_141 ?_
        refine g_goto (tgt := 147) dX2_pullOn_142 (by decide) ?_
        refine g_iret dX2_pullOn_147 rfl ?_
        subst e54
        exact qI h (by simp only [pullF]; simp [*])
    by_cases s54_5 : y54 = 6
    · refine g_tableIn (tgt := 100) dX2_pullOn_54 (by rw [s54_5]; decide) (by rw [s54_5]; decide) (o := 46) (by rw [s54_5]; decide) (by decide) ?_
      refine g_iload dX2_pullOn_100 rfl ?_
      refine g_aloadR_n dX2_pullOn_102 rfl rfl ?_
      refine n_getI dX2_pullOn_103 fX2_18 rfl hW (vld_pe hk hi) (Or.inl rfl) ?_
      refine g_iadd dX2_pullOn_106 ?_
      refine g_iconst dX2_pullOn_107 (v := 2) (by decide) ?_
      refine g_iadd dX2_pullOn_108 ?_
      refine g_iret dX2_pullOn_109 rfl ?_
      subst e54
      exact qI h (by simp only [pullF]; simp [*])
    refine g_tableOut (tgt := 148) dX2_pullOn_54 (by have t0 : ¬ y54.toInt = 1 := sw_ne s54_0; have t1 : ¬ y54.toInt = 2 := sw_ne s54_1; have t2 : ¬ y54.toInt = 3 := sw_ne s54_2; have t3 : ¬ y54.toInt = 4 := sw_ne s54_3; have t4 : ¬ y54.toInt = 5 := sw_ne s54_4; have t5 : ¬ y54.toInt = 6 := sw_ne s54_5; omega) (by decide) ?_
    refine g_iload dX2_pullOn_148 rfl ?_
    refine g_iret dX2_pullOn_150 rfl ?_
    subst e54
    exact qI h (by simp only [pullF]; simp [*])
set_option maxHeartbeats 4000000 in
set_option maxRecDepth 100000 in
theorem wp_X2_sat {E : Ev} {M : Mem} {Q : QT} (hW : Wi M) {k i : Nat} (hk : k < 4) (hi : i < 11) (h : Q none (sP M (2, k, i) (satF (mI M (2, k, i))))) : Mth E 1 0 0 kX2_sat [vR (2, k, i)] M Q := by
  refine mth_of (by decide +kernel) [some (vR (2, k, i))] (Nat.le_of_ble_eq_true rfl) rfl ?_
  refine g_aloadR_n dX2_sat_0 rfl rfl ?_
  refine g_dup dX2_sat_1 rfl ?_
  refine n_getI dX2_sat_2 fX2_34 rfl hW (vld_pe hk hi) (Or.inl rfl) ?_
  refine g_iconst dX2_sat_5 (v := 1) (by decide) ?_
  refine g_iadd dX2_sat_6 ?_
  refine n_putI dX2_sat_7 fX2_34 rfl hW (vld_pe hk hi) rfl ?_
  refine g_aloadR_n dX2_sat_10 rfl rfl ?_
  refine g_iconst dX2_sat_11 (v := 0) (by decide) ?_
  refine g_aloadR_n dX2_sat_12 rfl rfl ?_
  refine n_getI dX2_sat_13 fX2_28 rfl hW (vld_pe hk hi) (Or.inl rfl) ?_
  refine g_iconst dX2_sat_16 (v := 1) (by decide) ?_
  refine g_isub dX2_sat_17 ?_
  refine n_mmax dX2_sat_18 lX2_46 ⟨Nat.le_of_ble_eq_true rfl, Nat.le_of_ble_eq_true rfl⟩ ⟨Nat.zero_le _, Nat.zero_le _⟩ ?_
  refine n_putI dX2_sat_21 fX2_28 rfl hW (vld_pe hk hi) rfl ?_
  refine g_aloadR_n dX2_sat_24 rfl rfl ?_
  refine g_bipush dX2_sat_25 (v := 20) (by decide) ?_
  refine g_aloadR_n dX2_sat_27 rfl rfl ?_
  refine n_getI dX2_sat_28 fX2_21 rfl hW (vld_pe hk hi) (Or.inl rfl) ?_
  refine g_iconst dX2_sat_31 (v := 1) (by decide) ?_
  refine g_iadd dX2_sat_32 ?_
  refine n_mmin dX2_sat_33 lX2_54 ⟨Nat.le_of_ble_eq_true rfl, Nat.le_of_ble_eq_true rfl⟩ ⟨Nat.zero_le _, Nat.zero_le _⟩ ?_
  refine n_putI dX2_sat_36 fX2_21 rfl hW (vld_pe hk hi) rfl ?_
  refine g_aloadR_n dX2_sat_39 rfl rfl ?_
  refine g_iconst dX2_sat_40 (v := 0) (by decide) ?_
  refine n_putI dX2_sat_41 fX2_31 rfl hW (vld_pe hk hi) rfl ?_
  refine g_vret dX2_sat_44 rfl ?_
  refine qM h ?_
  try simp only [sI_sP, sP_sP, mI_sP]
  congr 1; funext j
  simp only [satF]
  by_cases j7 : j = 7
  · subst j7; simp_all
  by_cases j5 : j = 5
  · subst j5; simp_all
  by_cases j2 : j = 2
  · subst j2; simp_all
  by_cases j6 : j = 6
  · subst j6; simp_all
  simp_all
set_option maxHeartbeats 4000000 in
set_option maxRecDepth 100000 in
theorem wp_X2_stayedAway {E : Ev} {M : Mem} {Q : QT} (hW : Wi M) {k i : Nat} (hk : k < 4) (hi : i < 11) (h : Q none (sP M (2, k, i) (awayF (mI M (2, k, i))))) : Mth E 1 0 0 kX2_stayedAway [vR (2, k, i)] M Q := by
  refine mth_of (by decide +kernel) [some (vR (2, k, i))] (Nat.le_of_ble_eq_true rfl) rfl ?_
  refine g_aloadR_n dX2_stayedAway_0 rfl rfl ?_
  refine g_bipush dX2_stayedAway_1 (v := 9) (by decide) ?_
  refine g_aloadR_n dX2_stayedAway_3 rfl rfl ?_
  refine n_getI dX2_stayedAway_4 fX2_28 rfl hW (vld_pe hk hi) (Or.inl rfl) ?_
  refine g_iconst dX2_stayedAway_7 (v := 1) (by decide) ?_
  refine g_iadd dX2_stayedAway_8 ?_
  refine n_mmin dX2_stayedAway_9 lX2_54 ⟨Nat.le_of_ble_eq_true rfl, Nat.le_of_ble_eq_true rfl⟩ ⟨Nat.zero_le _, Nat.zero_le _⟩ ?_
  refine n_putI dX2_stayedAway_12 fX2_28 rfl hW (vld_pe hk hi) rfl ?_
  refine g_aloadR_n dX2_stayedAway_15 rfl rfl ?_
  refine g_dup dX2_stayedAway_16 rfl ?_
  refine n_getI dX2_stayedAway_17 fX2_31 rfl hW (vld_pe hk hi) (Or.inl rfl) ?_
  refine g_iconst dX2_stayedAway_20 (v := 1) (by decide) ?_
  refine g_iadd dX2_stayedAway_21 ?_
  refine n_putI dX2_stayedAway_22 fX2_31 rfl hW (vld_pe hk hi) rfl ?_
  refine g_aloadR_n dX2_stayedAway_25 rfl rfl ?_
  refine n_getI dX2_stayedAway_26 fX2_31 rfl hW (vld_pe hk hi) (Or.inl rfl) ?_
  refine g_aloadR_n dX2_stayedAway_29 rfl rfl ?_
  refine n_getI dX2_stayedAway_30 fX2_24 rfl hW (vld_pe hk hi) (Or.inr rfl) ?_
  refine g_if_eq (tgt := 40) dX2_stayedAway_33 (by decide) (fun c33 => ?_) (fun c33 => ?_)
  · refine g_iconst dX2_stayedAway_40 (v := 2) (by decide) ?_
    refine g_icmp_lt (tgt := 49) dX2_stayedAway_41 (by decide) (fun c41 => ?_) (fun c41 => ?_)
    · refine g_vret dX2_stayedAway_49 rfl ?_
      simp only [sI_sP, sP_sP, mI_sP] at *
      refine qM h ?_
      try simp only [sI_sP, sP_sP, mI_sP]
      congr 1; funext j
      simp only [awayF]
      by_cases j5 : j = 5
      · subst j5; first | (simp_all; done) | (simp_all; intro q; exact absurd q (Int32.not_le.mpr (by assumption)))
      by_cases j6 : j = 6
      · subst j6; first | (simp_all; done) | (simp_all; intro q; exact absurd q (Int32.not_le.mpr (by assumption)))
      by_cases j8 : j = 8
      · subst j8; first | (simp_all; done) | (simp_all; intro q; exact absurd q (Int32.not_le.mpr (by assumption)))
      first | (simp_all; done) | (simp_all; intro q; exact absurd q (Int32.not_le.mpr (by assumption)))
    · refine g_aloadR_n dX2_stayedAway_44 rfl rfl ?_
      refine g_iconst dX2_stayedAway_45 (v := 1) (by decide) ?_
      refine n_putZ dX2_stayedAway_46 fX2_37 rfl hW (vld_pe hk hi) rfl (Or.inr rfl) ?_
      refine g_vret dX2_stayedAway_49 rfl ?_
      simp only [sI_sP, sP_sP, mI_sP] at *
      refine qM h ?_
      try simp only [sI_sP, sP_sP, mI_sP]
      congr 1; funext j
      simp only [awayF]
      by_cases j5 : j = 5
      · subst j5; first | (simp_all; done) | (simp_all; intro q; exact absurd q (Int32.not_le.mpr (by assumption)))
      by_cases j6 : j = 6
      · subst j6; first | (simp_all; done) | (simp_all; intro q; exact absurd q (Int32.not_le.mpr (by assumption)))
      by_cases j8 : j = 8
      · subst j8; first | (simp_all; done) | (simp_all; intro q; exact absurd q (Int32.not_le.mpr (by assumption)))
      first | (simp_all; done) | (simp_all; intro q; exact absurd q (Int32.not_le.mpr (by assumption)))
  · refine g_iconst dX2_stayedAway_36 (v := 3) (by decide) ?_
    refine g_goto (tgt := 41) dX2_stayedAway_37 (by decide) ?_
    refine g_icmp_lt (tgt := 49) dX2_stayedAway_41 (by decide) (fun c41 => ?_) (fun c41 => ?_)
    · refine g_vret dX2_stayedAway_49 rfl ?_
      simp only [sI_sP, sP_sP, mI_sP] at *
      refine qM h ?_
      try simp only [sI_sP, sP_sP, mI_sP]
      congr 1; funext j
      simp only [awayF]
      by_cases j5 : j = 5
      · subst j5; first | (simp_all; done) | (simp_all; intro q; exact absurd q (Int32.not_le.mpr (by assumption)))
      by_cases j6 : j = 6
      · subst j6; first | (simp_all; done) | (simp_all; intro q; exact absurd q (Int32.not_le.mpr (by assumption)))
      by_cases j8 : j = 8
      · subst j8; first | (simp_all; done) | (simp_all; intro q; exact absurd q (Int32.not_le.mpr (by assumption)))
      first | (simp_all; done) | (simp_all; intro q; exact absurd q (Int32.not_le.mpr (by assumption)))
    · refine g_aloadR_n dX2_stayedAway_44 rfl rfl ?_
      refine g_iconst dX2_stayedAway_45 (v := 1) (by decide) ?_
      refine n_putZ dX2_stayedAway_46 fX2_37 rfl hW (vld_pe hk hi) rfl (Or.inr rfl) ?_
      refine g_vret dX2_stayedAway_49 rfl ?_
      simp only [sI_sP, sP_sP, mI_sP] at *
      refine qM h ?_
      try simp only [sI_sP, sP_sP, mI_sP]
      congr 1; funext j
      simp only [awayF]
      by_cases j5 : j = 5
      · subst j5; first | (simp_all; done) | (simp_all; intro q; exact absurd q (Int32.not_le.mpr (by assumption)))
      by_cases j6 : j = 6
      · subst j6; first | (simp_all; done) | (simp_all; intro q; exact absurd q (Int32.not_le.mpr (by assumption)))
      by_cases j8 : j = 8
      · subst j8; first | (simp_all; done) | (simp_all; intro q; exact absurd q (Int32.not_le.mpr (by assumption)))
      first | (simp_all; done) | (simp_all; intro q; exact absurd q (Int32.not_le.mpr (by assumption)))
set_option maxHeartbeats 4000000 in
set_option maxRecDepth 100000 in
theorem wp_X2_enter {E : Ev} {M : Mem} {Q : QT} (hW : Wi M) {k i : Nat} (hk : k < 4) (hi : i < 11) {kd a ow pd : Int32} (hpd : pd = 0 ∨ pd = 1) (h : Q none (sP M (2, k, i) (entF (mI M (2, k, i)) kd a ow pd))) : Mth E 0 0 0 kX2_enter [vR (2, k, i), vI kd, vI a, vI ow, vI pd] M Q := by
  refine mth_of (by decide +kernel) [some (vR (2, k, i)), some (vI kd), some (vI a), some (vI ow), some (vI pd)] (Nat.le_of_ble_eq_true rfl) rfl ?_
  refine g_aloadR_n dX2_enter_0 rfl rfl ?_
  refine g_iload_n dX2_enter_1 rfl rfl ?_
  refine n_putI dX2_enter_2 fX2_15 rfl hW (vld_pe hk hi) rfl ?_
  refine g_aloadR_n dX2_enter_5 rfl rfl ?_
  refine g_iload_n dX2_enter_6 rfl rfl ?_
  refine n_putI dX2_enter_7 fX2_18 rfl hW (vld_pe hk hi) rfl ?_
  refine g_aloadR_n dX2_enter_10 rfl rfl ?_
  refine g_iload_n dX2_enter_11 rfl rfl ?_
  refine n_putI dX2_enter_12 fX2_21 rfl hW (vld_pe hk hi) rfl ?_
  refine g_aloadR_n dX2_enter_15 rfl rfl ?_
  refine g_iload dX2_enter_16 rfl ?_
  refine n_putZ dX2_enter_18 fX2_24 rfl hW (vld_pe hk hi) rfl hpd ?_
  refine g_aloadR_n dX2_enter_21 rfl rfl ?_
  refine g_iconst dX2_enter_22 (v := (-1)) (by decide) ?_
  refine n_putI dX2_enter_23 fX2_9 rfl hW (vld_pe hk hi) rfl ?_
  refine g_aloadR_n dX2_enter_26 rfl rfl ?_
  refine g_iconst dX2_enter_27 (v := 0) (by decide) ?_
  refine n_putI dX2_enter_28 fX2_28 rfl hW (vld_pe hk hi) rfl ?_
  refine g_aloadR_n dX2_enter_31 rfl rfl ?_
  refine g_iconst dX2_enter_32 (v := 0) (by decide) ?_
  refine n_putI dX2_enter_33 fX2_31 rfl hW (vld_pe hk hi) rfl ?_
  refine g_aloadR_n dX2_enter_36 rfl rfl ?_
  refine g_iconst dX2_enter_37 (v := 0) (by decide) ?_
  refine n_putI dX2_enter_38 fX2_34 rfl hW (vld_pe hk hi) rfl ?_
  refine g_aloadR_n dX2_enter_41 rfl rfl ?_
  refine g_iconst dX2_enter_42 (v := 0) (by decide) ?_
  refine n_putZ dX2_enter_43 fX2_37 rfl hW (vld_pe hk hi) rfl (Or.inl rfl) ?_
  refine g_vret dX2_enter_46 rfl ?_
  refine qM h ?_
  try simp only [sI_sP, sP_sP, mI_sP]
  congr 1; funext j
  simp only [entF]
  by_cases j0 : j = 0
  · subst j0; simp_all
  by_cases j1 : j = 1
  · subst j1; simp_all
  by_cases j2 : j = 2
  · subst j2; simp_all
  by_cases j3 : j = 3
  · subst j3; simp_all
  by_cases j4 : j = 4
  · subst j4; simp_all
  by_cases j5 : j = 5
  · subst j5; simp_all
  by_cases j6 : j = 6
  · subst j6; simp_all
  by_cases j7 : j = 7
  · subst j7; simp_all
  by_cases j8 : j = 8
  · subst j8; simp_all
  simp_all
set_option maxHeartbeats 4000000 in
set_option maxRecDepth 100000 in
theorem wp_X2_become {E : Ev} {M : Mem} {Q : QT} (hW : Wi M) {k i : Nat} (hk : k < 4) (hi : i < 11) {k2 i2 : Nat} (hk2 : k2 < 4) (hi2 : i2 < 11) (hne : ((2, k2, i2) : Id) ≠ (2, k, i)) (hp : mI M (2, k2, i2) 3 = 0 ∨ mI M (2, k2, i2) 3 = 1) (hg : mI M (2, k2, i2) 8 = 0 ∨ mI M (2, k2, i2) 8 = 1) (h : Q none (sP M (2, k, i) (fun j => if j < 9 then mI M (2, k2, i2) j else mI M (2, k, i) j))) : Mth E 0 0 0 kX2_become [vR (2, k, i), vR (2, k2, i2)] M Q := by
  refine mth_of (by decide +kernel) [some (vR (2, k, i)), some (vR (2, k2, i2))] (Nat.le_of_ble_eq_true rfl) rfl ?_
  refine g_aloadR_n dX2_become_0 rfl rfl ?_
  refine g_aloadR_n dX2_become_1 rfl rfl ?_
  refine n_getI dX2_become_2 fX2_15 rfl hW (vld_pe hk2 hi2) (Or.inl rfl) ?_
  refine n_putI dX2_become_5 fX2_15 rfl hW (vld_pe hk hi) rfl ?_
  refine g_aloadR_n dX2_become_8 rfl rfl ?_
  refine g_aloadR_n dX2_become_9 rfl rfl ?_
  refine n_getI dX2_become_10 fX2_18 rfl hW (vld_pe hk2 hi2) (Or.inl rfl) ?_
  refine n_putI dX2_become_13 fX2_18 rfl hW (vld_pe hk hi) rfl ?_
  refine g_aloadR_n dX2_become_16 rfl rfl ?_
  refine g_aloadR_n dX2_become_17 rfl rfl ?_
  refine n_getI dX2_become_18 fX2_21 rfl hW (vld_pe hk2 hi2) (Or.inl rfl) ?_
  refine n_putI dX2_become_21 fX2_21 rfl hW (vld_pe hk hi) rfl ?_
  refine g_aloadR_n dX2_become_24 rfl rfl ?_
  refine g_aloadR_n dX2_become_25 rfl rfl ?_
  refine n_getI dX2_become_26 fX2_24 rfl hW (vld_pe hk2 hi2) (Or.inr rfl) ?_
  refine n_putZ dX2_become_29 fX2_24 rfl hW (vld_pe hk hi) rfl (by simpa only [sI_sP, sP_sP, mI_sP_ne hne] using hp) ?_
  refine g_aloadR_n dX2_become_32 rfl rfl ?_
  refine g_aloadR_n dX2_become_33 rfl rfl ?_
  refine n_getI dX2_become_34 fX2_9 rfl hW (vld_pe hk2 hi2) (Or.inl rfl) ?_
  refine n_putI dX2_become_37 fX2_9 rfl hW (vld_pe hk hi) rfl ?_
  refine g_aloadR_n dX2_become_40 rfl rfl ?_
  refine g_aloadR_n dX2_become_41 rfl rfl ?_
  refine n_getI dX2_become_42 fX2_28 rfl hW (vld_pe hk2 hi2) (Or.inl rfl) ?_
  refine n_putI dX2_become_45 fX2_28 rfl hW (vld_pe hk hi) rfl ?_
  refine g_aloadR_n dX2_become_48 rfl rfl ?_
  refine g_aloadR_n dX2_become_49 rfl rfl ?_
  refine n_getI dX2_become_50 fX2_31 rfl hW (vld_pe hk2 hi2) (Or.inl rfl) ?_
  refine n_putI dX2_become_53 fX2_31 rfl hW (vld_pe hk hi) rfl ?_
  refine g_aloadR_n dX2_become_56 rfl rfl ?_
  refine g_aloadR_n dX2_become_57 rfl rfl ?_
  refine n_getI dX2_become_58 fX2_34 rfl hW (vld_pe hk2 hi2) (Or.inl rfl) ?_
  refine n_putI dX2_become_61 fX2_34 rfl hW (vld_pe hk hi) rfl ?_
  refine g_aloadR_n dX2_become_64 rfl rfl ?_
  refine g_aloadR_n dX2_become_65 rfl rfl ?_
  refine n_getI dX2_become_66 fX2_37 rfl hW (vld_pe hk2 hi2) (Or.inr rfl) ?_
  refine n_putZ dX2_become_69 fX2_37 rfl hW (vld_pe hk hi) rfl (by simpa only [sI_sP, sP_sP, mI_sP_ne hne] using hg) ?_
  refine g_vret dX2_become_72 rfl ?_
  refine qM h ?_
  simp only [sI_sP, sP_sP, mI_sP, mI_sP_ne hne]
  congr 1; funext j
  by_cases hj : j < 9
  · rw [if_pos hj]
    rcases (by omega : j = 0 ∨ j = 1 ∨ j = 2 ∨ j = 3 ∨ j = 4 ∨ j = 5 ∨ j = 6 ∨ j = 7 ∨ j = 8) with rfl | rfl | rfl | rfl | rfl | rfl | rfl | rfl | rfl <;> simp
  · rw [if_neg hj]
    have a0 : j ≠ 0 := by omega
    have a1 : j ≠ 1 := by omega
    have a2 : j ≠ 2 := by omega
    have a3 : j ≠ 3 := by omega
    have a4 : j ≠ 4 := by omega
    have a5 : j ≠ 5 := by omega
    have a6 : j ≠ 6 := by omega
    have a7 : j ≠ 7 := by omega
    have a8 : j ≠ 8 := by omega
    simp only [if_neg a0, if_neg a1, if_neg a2, if_neg a3, if_neg a4, if_neg a5, if_neg a6, if_neg a7, if_neg a8]
set_option maxHeartbeats 4000000 in
set_option maxRecDepth 100000 in
theorem wp_X2_mark {E : Ev} {M : Mem} {Q : QT} (hW : Wi M) {k i : Nat} (hk : k < 4) (hi : i < 11) {x : Int32} (hx : IN x 8) (hp : mI M (2, k, i) 3 = 0 ∨ mI M (2, k, i) 3 = 1) (hg : mI M (2, k, i) 8 = 0 ∨ mI M (2, k, i) 8 = 1) (h : Q (some (vI (mI M (2, k, i) (markI x.toNatClampNeg)))) M) : Mth E 0 0 0 kX2_mark [vR (2, k, i), vI x] M Q := by
  refine mth_of (by decide +kernel) [some (vR (2, k, i)), some (vI x)] (Nat.le_of_ble_eq_true rfl) rfl ?_
  refine g_iload_n dX2_mark_0 rfl rfl ?_
  refine g_top (fun y1 e1 => ?_)
  by_cases s1_0 : y1 = 0
  · refine g_tableIn (tgt := 44) dX2_mark_1 (by rw [s1_0]; decide) (by rw [s1_0]; decide) (o := 43) (by rw [s1_0]; decide) (by decide) ?_
    refine g_aloadR_n dX2_mark_44 rfl rfl ?_
    refine n_getI dX2_mark_45 fX2_15 rfl hW (vld_pe hk hi) (Or.inl rfl) ?_
    refine g_iret dX2_mark_48 rfl ?_
    subst e1
    refine qI h ?_
    first | (rw [s1_0]; exact rfl) | (rw [s1_1]; exact rfl) | (rw [s1_2]; exact rfl) | (rw [s1_3]; exact rfl) | (rw [s1_4]; exact rfl) | (rw [s1_5]; exact rfl) | (rw [s1_6]; exact rfl) | (have e7 : y1 = 7 := (by obtain ⟨q1, q2⟩ := hx; have t0 := sw_ne s1_0; have t1 := sw_ne s1_1; have t2 := sw_ne s1_2; have t3 := sw_ne s1_3; have t4 := sw_ne s1_4; have t5 := sw_ne s1_5; have t6 := sw_ne s1_6; simp only [zcs] at t0 t1 t2 t3 t4 t5 t6; apply Int32.toInt_inj.mp; simp only [zcs]; omega); rw [e7]; exact rfl)
  by_cases s1_1 : y1 = 1
  · refine g_tableIn (tgt := 49) dX2_mark_1 (by rw [s1_1]; decide) (by rw [s1_1]; decide) (o := 48) (by rw [s1_1]; decide) (by decide) ?_
    refine g_aloadR_n dX2_mark_49 rfl rfl ?_
    refine n_getI dX2_mark_50 fX2_18 rfl hW (vld_pe hk hi) (Or.inl rfl) ?_
    refine g_iret dX2_mark_53 rfl ?_
    subst e1
    refine qI h ?_
    first | (rw [s1_0]; exact rfl) | (rw [s1_1]; exact rfl) | (rw [s1_2]; exact rfl) | (rw [s1_3]; exact rfl) | (rw [s1_4]; exact rfl) | (rw [s1_5]; exact rfl) | (rw [s1_6]; exact rfl) | (have e7 : y1 = 7 := (by obtain ⟨q1, q2⟩ := hx; have t0 := sw_ne s1_0; have t1 := sw_ne s1_1; have t2 := sw_ne s1_2; have t3 := sw_ne s1_3; have t4 := sw_ne s1_4; have t5 := sw_ne s1_5; have t6 := sw_ne s1_6; simp only [zcs] at t0 t1 t2 t3 t4 t5 t6; apply Int32.toInt_inj.mp; simp only [zcs]; omega); rw [e7]; exact rfl)
  by_cases s1_2 : y1 = 2
  · refine g_tableIn (tgt := 54) dX2_mark_1 (by rw [s1_2]; decide) (by rw [s1_2]; decide) (o := 53) (by rw [s1_2]; decide) (by decide) ?_
    refine g_aloadR_n dX2_mark_54 rfl rfl ?_
    refine n_getI dX2_mark_55 fX2_21 rfl hW (vld_pe hk hi) (Or.inl rfl) ?_
    refine g_iret dX2_mark_58 rfl ?_
    subst e1
    refine qI h ?_
    first | (rw [s1_0]; exact rfl) | (rw [s1_1]; exact rfl) | (rw [s1_2]; exact rfl) | (rw [s1_3]; exact rfl) | (rw [s1_4]; exact rfl) | (rw [s1_5]; exact rfl) | (rw [s1_6]; exact rfl) | (have e7 : y1 = 7 := (by obtain ⟨q1, q2⟩ := hx; have t0 := sw_ne s1_0; have t1 := sw_ne s1_1; have t2 := sw_ne s1_2; have t3 := sw_ne s1_3; have t4 := sw_ne s1_4; have t5 := sw_ne s1_5; have t6 := sw_ne s1_6; simp only [zcs] at t0 t1 t2 t3 t4 t5 t6; apply Int32.toInt_inj.mp; simp only [zcs]; omega); rw [e7]; exact rfl)
  by_cases s1_3 : y1 = 3
  · refine g_tableIn (tgt := 59) dX2_mark_1 (by rw [s1_3]; decide) (by rw [s1_3]; decide) (o := 58) (by rw [s1_3]; decide) (by decide) ?_
    refine g_aloadR_n dX2_mark_59 rfl rfl ?_
    refine n_getI dX2_mark_60 fX2_24 rfl hW (vld_pe hk hi) (Or.inr rfl) ?_
    refine g_if_eq (tgt := 70) dX2_mark_63 (by decide) (fun c63 => ?_) (fun c63 => ?_)
    · refine g_iconst dX2_mark_70 (v := 0) (by decide) ?_
      refine g_iret dX2_mark_71 rfl ?_
      subst e1
      refine qI h ?_
      first | (first | (rw [s1_0]; exact c63.symm) | (rw [s1_1]; exact c63.symm) | (rw [s1_2]; exact c63.symm) | (rw [s1_3]; exact c63.symm) | (rw [s1_4]; exact c63.symm) | (rw [s1_5]; exact c63.symm) | (rw [s1_6]; exact c63.symm) | (have e7 : y1 = 7 := (by obtain ⟨q1, q2⟩ := hx; have t0 := sw_ne s1_0; have t1 := sw_ne s1_1; have t2 := sw_ne s1_2; have t3 := sw_ne s1_3; have t4 := sw_ne s1_4; have t5 := sw_ne s1_5; have t6 := sw_ne s1_6; simp only [zcs] at t0 t1 t2 t3 t4 t5 t6; apply Int32.toInt_inj.mp; simp only [zcs]; omega); rw [e7]; exact c63.symm)) | (first | (rw [s1_0]; exact c91.symm) | (rw [s1_1]; exact c91.symm) | (rw [s1_2]; exact c91.symm) | (rw [s1_3]; exact c91.symm) | (rw [s1_4]; exact c91.symm) | (rw [s1_5]; exact c91.symm) | (rw [s1_6]; exact c91.symm) | (have e7 : y1 = 7 := (by obtain ⟨q1, q2⟩ := hx; have t0 := sw_ne s1_0; have t1 := sw_ne s1_1; have t2 := sw_ne s1_2; have t3 := sw_ne s1_3; have t4 := sw_ne s1_4; have t5 := sw_ne s1_5; have t6 := sw_ne s1_6; simp only [zcs] at t0 t1 t2 t3 t4 t5 t6; apply Int32.toInt_inj.mp; simp only [zcs]; omega); rw [e7]; exact c91.symm))
    · refine g_iconst dX2_mark_66 (v := 1) (by decide) ?_
      refine g_goto (tgt := 71) dX2_mark_67 (by decide) ?_
      refine g_iret dX2_mark_71 rfl ?_
      subst e1
      refine qI h ?_
      first | (first | (rw [s1_0]; exact (hp.resolve_left c63).symm) | (rw [s1_1]; exact (hp.resolve_left c63).symm) | (rw [s1_2]; exact (hp.resolve_left c63).symm) | (rw [s1_3]; exact (hp.resolve_left c63).symm) | (rw [s1_4]; exact (hp.resolve_left c63).symm) | (rw [s1_5]; exact (hp.resolve_left c63).symm) | (rw [s1_6]; exact (hp.resolve_left c63).symm) | (have e7 : y1 = 7 := (by obtain ⟨q1, q2⟩ := hx; have t0 := sw_ne s1_0; have t1 := sw_ne s1_1; have t2 := sw_ne s1_2; have t3 := sw_ne s1_3; have t4 := sw_ne s1_4; have t5 := sw_ne s1_5; have t6 := sw_ne s1_6; simp only [zcs] at t0 t1 t2 t3 t4 t5 t6; apply Int32.toInt_inj.mp; simp only [zcs]; omega); rw [e7]; exact (hp.resolve_left c63).symm)) | (first | (rw [s1_0]; exact (hg.resolve_left c91).symm) | (rw [s1_1]; exact (hg.resolve_left c91).symm) | (rw [s1_2]; exact (hg.resolve_left c91).symm) | (rw [s1_3]; exact (hg.resolve_left c91).symm) | (rw [s1_4]; exact (hg.resolve_left c91).symm) | (rw [s1_5]; exact (hg.resolve_left c91).symm) | (rw [s1_6]; exact (hg.resolve_left c91).symm) | (have e7 : y1 = 7 := (by obtain ⟨q1, q2⟩ := hx; have t0 := sw_ne s1_0; have t1 := sw_ne s1_1; have t2 := sw_ne s1_2; have t3 := sw_ne s1_3; have t4 := sw_ne s1_4; have t5 := sw_ne s1_5; have t6 := sw_ne s1_6; simp only [zcs] at t0 t1 t2 t3 t4 t5 t6; apply Int32.toInt_inj.mp; simp only [zcs]; omega); rw [e7]; exact (hg.resolve_left c91).symm))
  by_cases s1_4 : y1 = 4
  · refine g_tableIn (tgt := 72) dX2_mark_1 (by rw [s1_4]; decide) (by rw [s1_4]; decide) (o := 71) (by rw [s1_4]; decide) (by decide) ?_
    refine g_aloadR_n dX2_mark_72 rfl rfl ?_
    refine n_getI dX2_mark_73 fX2_28 rfl hW (vld_pe hk hi) (Or.inl rfl) ?_
    refine g_iret dX2_mark_76 rfl ?_
    subst e1
    refine qI h ?_
    first | (rw [s1_0]; exact rfl) | (rw [s1_1]; exact rfl) | (rw [s1_2]; exact rfl) | (rw [s1_3]; exact rfl) | (rw [s1_4]; exact rfl) | (rw [s1_5]; exact rfl) | (rw [s1_6]; exact rfl) | (have e7 : y1 = 7 := (by obtain ⟨q1, q2⟩ := hx; have t0 := sw_ne s1_0; have t1 := sw_ne s1_1; have t2 := sw_ne s1_2; have t3 := sw_ne s1_3; have t4 := sw_ne s1_4; have t5 := sw_ne s1_5; have t6 := sw_ne s1_6; simp only [zcs] at t0 t1 t2 t3 t4 t5 t6; apply Int32.toInt_inj.mp; simp only [zcs]; omega); rw [e7]; exact rfl)
  by_cases s1_5 : y1 = 5
  · refine g_tableIn (tgt := 77) dX2_mark_1 (by rw [s1_5]; decide) (by rw [s1_5]; decide) (o := 76) (by rw [s1_5]; decide) (by decide) ?_
    refine g_aloadR_n dX2_mark_77 rfl rfl ?_
    refine n_getI dX2_mark_78 fX2_31 rfl hW (vld_pe hk hi) (Or.inl rfl) ?_
    refine g_iret dX2_mark_81 rfl ?_
    subst e1
    refine qI h ?_
    first | (rw [s1_0]; exact rfl) | (rw [s1_1]; exact rfl) | (rw [s1_2]; exact rfl) | (rw [s1_3]; exact rfl) | (rw [s1_4]; exact rfl) | (rw [s1_5]; exact rfl) | (rw [s1_6]; exact rfl) | (have e7 : y1 = 7 := (by obtain ⟨q1, q2⟩ := hx; have t0 := sw_ne s1_0; have t1 := sw_ne s1_1; have t2 := sw_ne s1_2; have t3 := sw_ne s1_3; have t4 := sw_ne s1_4; have t5 := sw_ne s1_5; have t6 := sw_ne s1_6; simp only [zcs] at t0 t1 t2 t3 t4 t5 t6; apply Int32.toInt_inj.mp; simp only [zcs]; omega); rw [e7]; exact rfl)
  by_cases s1_6 : y1 = 6
  · refine g_tableIn (tgt := 82) dX2_mark_1 (by rw [s1_6]; decide) (by rw [s1_6]; decide) (o := 81) (by rw [s1_6]; decide) (by decide) ?_
    refine g_aloadR_n dX2_mark_82 rfl rfl ?_
    refine n_getI dX2_mark_83 fX2_34 rfl hW (vld_pe hk hi) (Or.inl rfl) ?_
    refine g_iret dX2_mark_86 rfl ?_
    subst e1
    refine qI h ?_
    first | (rw [s1_0]; exact rfl) | (rw [s1_1]; exact rfl) | (rw [s1_2]; exact rfl) | (rw [s1_3]; exact rfl) | (rw [s1_4]; exact rfl) | (rw [s1_5]; exact rfl) | (rw [s1_6]; exact rfl) | (have e7 : y1 = 7 := (by obtain ⟨q1, q2⟩ := hx; have t0 := sw_ne s1_0; have t1 := sw_ne s1_1; have t2 := sw_ne s1_2; have t3 := sw_ne s1_3; have t4 := sw_ne s1_4; have t5 := sw_ne s1_5; have t6 := sw_ne s1_6; simp only [zcs] at t0 t1 t2 t3 t4 t5 t6; apply Int32.toInt_inj.mp; simp only [zcs]; omega); rw [e7]; exact rfl)
  refine g_tableOut (tgt := 87) dX2_mark_1 (by have t0 : ¬ y1.toInt = 0 := sw_ne s1_0; have t1 : ¬ y1.toInt = 1 := sw_ne s1_1; have t2 : ¬ y1.toInt = 2 := sw_ne s1_2; have t3 : ¬ y1.toInt = 3 := sw_ne s1_3; have t4 : ¬ y1.toInt = 4 := sw_ne s1_4; have t5 : ¬ y1.toInt = 5 := sw_ne s1_5; have t6 : ¬ y1.toInt = 6 := sw_ne s1_6; omega) (by decide) ?_
  refine g_aloadR_n dX2_mark_87 rfl rfl ?_
  refine n_getI dX2_mark_88 fX2_37 rfl hW (vld_pe hk hi) (Or.inr rfl) ?_
  refine g_if_eq (tgt := 98) dX2_mark_91 (by decide) (fun c91 => ?_) (fun c91 => ?_)
  · refine g_iconst dX2_mark_98 (v := 0) (by decide) ?_
    refine g_iret dX2_mark_99 rfl ?_
    subst e1
    refine qI h ?_
    first | (first | (rw [s1_0]; exact c63.symm) | (rw [s1_1]; exact c63.symm) | (rw [s1_2]; exact c63.symm) | (rw [s1_3]; exact c63.symm) | (rw [s1_4]; exact c63.symm) | (rw [s1_5]; exact c63.symm) | (rw [s1_6]; exact c63.symm) | (have e7 : y1 = 7 := (by obtain ⟨q1, q2⟩ := hx; have t0 := sw_ne s1_0; have t1 := sw_ne s1_1; have t2 := sw_ne s1_2; have t3 := sw_ne s1_3; have t4 := sw_ne s1_4; have t5 := sw_ne s1_5; have t6 := sw_ne s1_6; simp only [zcs] at t0 t1 t2 t3 t4 t5 t6; apply Int32.toInt_inj.mp; simp only [zcs]; omega); rw [e7]; exact c63.symm)) | (first | (rw [s1_0]; exact c91.symm) | (rw [s1_1]; exact c91.symm) | (rw [s1_2]; exact c91.symm) | (rw [s1_3]; exact c91.symm) | (rw [s1_4]; exact c91.symm) | (rw [s1_5]; exact c91.symm) | (rw [s1_6]; exact c91.symm) | (have e7 : y1 = 7 := (by obtain ⟨q1, q2⟩ := hx; have t0 := sw_ne s1_0; have t1 := sw_ne s1_1; have t2 := sw_ne s1_2; have t3 := sw_ne s1_3; have t4 := sw_ne s1_4; have t5 := sw_ne s1_5; have t6 := sw_ne s1_6; simp only [zcs] at t0 t1 t2 t3 t4 t5 t6; apply Int32.toInt_inj.mp; simp only [zcs]; omega); rw [e7]; exact c91.symm))
  · refine g_iconst dX2_mark_94 (v := 1) (by decide) ?_
    refine g_goto (tgt := 99) dX2_mark_95 (by decide) ?_
    refine g_iret dX2_mark_99 rfl ?_
    subst e1
    refine qI h ?_
    first | (first | (rw [s1_0]; exact (hp.resolve_left c63).symm) | (rw [s1_1]; exact (hp.resolve_left c63).symm) | (rw [s1_2]; exact (hp.resolve_left c63).symm) | (rw [s1_3]; exact (hp.resolve_left c63).symm) | (rw [s1_4]; exact (hp.resolve_left c63).symm) | (rw [s1_5]; exact (hp.resolve_left c63).symm) | (rw [s1_6]; exact (hp.resolve_left c63).symm) | (have e7 : y1 = 7 := (by obtain ⟨q1, q2⟩ := hx; have t0 := sw_ne s1_0; have t1 := sw_ne s1_1; have t2 := sw_ne s1_2; have t3 := sw_ne s1_3; have t4 := sw_ne s1_4; have t5 := sw_ne s1_5; have t6 := sw_ne s1_6; simp only [zcs] at t0 t1 t2 t3 t4 t5 t6; apply Int32.toInt_inj.mp; simp only [zcs]; omega); rw [e7]; exact (hp.resolve_left c63).symm)) | (first | (rw [s1_0]; exact (hg.resolve_left c91).symm) | (rw [s1_1]; exact (hg.resolve_left c91).symm) | (rw [s1_2]; exact (hg.resolve_left c91).symm) | (rw [s1_3]; exact (hg.resolve_left c91).symm) | (rw [s1_4]; exact (hg.resolve_left c91).symm) | (rw [s1_5]; exact (hg.resolve_left c91).symm) | (rw [s1_6]; exact (hg.resolve_left c91).symm) | (have e7 : y1 = 7 := (by obtain ⟨q1, q2⟩ := hx; have t0 := sw_ne s1_0; have t1 := sw_ne s1_1; have t2 := sw_ne s1_2; have t3 := sw_ne s1_3; have t4 := sw_ne s1_4; have t5 := sw_ne s1_5; have t6 := sw_ne s1_6; simp only [zcs] at t0 t1 t2 t3 t4 t5 t6; apply Int32.toInt_inj.mp; simp only [zcs]; omega); rw [e7]; exact (hg.resolve_left c91).symm))
set_option maxHeartbeats 4000000 in
set_option maxRecDepth 100000 in
theorem wp_X2_sayingAs {E : Ev} {M : Mem} {Q : QT} (hW : Wi M) {k i : Nat} (hk : k < 4) (hi : i < 11) {x : Int32} (h : Q (some (vI (mI M (2, k, i) (if x = 1 ∨ x = 3 ∨ x = 6 then 7 else if x = 2 ∨ x = 4 then 5 else if x = 5 then 1 else 2)))) M) : Mth E 0 0 0 kX2_sayingAs [vR (2, k, i), vI x] M Q := by
  refine mth_of (by decide +kernel) [some (vR (2, k, i)), some (vI x)] (Nat.le_of_ble_eq_true rfl) rfl ?_
  refine g_iload_n dX2_sayingAs_0 rfl rfl ?_
  refine g_top (fun y1 e1 => ?_)
  by_cases s1_0 : y1 = 1
  · refine g_tableIn (tgt := 40) dX2_sayingAs_1 (by rw [s1_0]; decide) (by rw [s1_0]; decide) (o := 39) (by rw [s1_0]; decide) (by decide) ?_
    refine g_aloadR_n dX2_sayingAs_40 rfl rfl ?_
    refine n_getI dX2_sayingAs_41 fX2_34 rfl hW (vld_pe hk hi) (Or.inl rfl) ?_
    refine g_iret dX2_sayingAs_44 rfl ?_
    subst e1
    exact qI h (by simp [*])
  by_cases s1_1 : y1 = 2
  · refine g_tableIn (tgt := 45) dX2_sayingAs_1 (by rw [s1_1]; decide) (by rw [s1_1]; decide) (o := 44) (by rw [s1_1]; decide) (by decide) ?_
    refine g_aloadR_n dX2_sayingAs_45 rfl rfl ?_
    refine n_getI dX2_sayingAs_46 fX2_28 rfl hW (vld_pe hk hi) (Or.inl rfl) ?_
    refine g_iret dX2_sayingAs_49 rfl ?_
    subst e1
    exact qI h (by simp [*])
  by_cases s1_2 : y1 = 3
  · refine g_tableIn (tgt := 40) dX2_sayingAs_1 (by rw [s1_2]; decide) (by rw [s1_2]; decide) (o := 39) (by rw [s1_2]; decide) (by decide) ?_
    refine g_aloadR_n dX2_sayingAs_40 rfl rfl ?_
    refine n_getI dX2_sayingAs_41 fX2_34 rfl hW (vld_pe hk hi) (Or.inl rfl) ?_
    refine g_iret dX2_sayingAs_44 rfl ?_
    subst e1
    exact qI h (by simp [*])
  by_cases s1_3 : y1 = 4
  · refine g_tableIn (tgt := 45) dX2_sayingAs_1 (by rw [s1_3]; decide) (by rw [s1_3]; decide) (o := 44) (by rw [s1_3]; decide) (by decide) ?_
    refine g_aloadR_n dX2_sayingAs_45 rfl rfl ?_
    refine n_getI dX2_sayingAs_46 fX2_28 rfl hW (vld_pe hk hi) (Or.inl rfl) ?_
    refine g_iret dX2_sayingAs_49 rfl ?_
    subst e1
    exact qI h (by simp [*])
  by_cases s1_4 : y1 = 5
  · refine g_tableIn (tgt := 50) dX2_sayingAs_1 (by rw [s1_4]; decide) (by rw [s1_4]; decide) (o := 49) (by rw [s1_4]; decide) (by decide) ?_
    refine g_aloadR_n dX2_sayingAs_50 rfl rfl ?_
    refine n_getI dX2_sayingAs_51 fX2_18 rfl hW (vld_pe hk hi) (Or.inl rfl) ?_
    refine g_iret dX2_sayingAs_54 rfl ?_
    subst e1
    exact qI h (by simp [*])
  by_cases s1_5 : y1 = 6
  · refine g_tableIn (tgt := 40) dX2_sayingAs_1 (by rw [s1_5]; decide) (by rw [s1_5]; decide) (o := 39) (by rw [s1_5]; decide) (by decide) ?_
    refine g_aloadR_n dX2_sayingAs_40 rfl rfl ?_
    refine n_getI dX2_sayingAs_41 fX2_34 rfl hW (vld_pe hk hi) (Or.inl rfl) ?_
    refine g_iret dX2_sayingAs_44 rfl ?_
    subst e1
    exact qI h (by simp [*])
  refine g_tableOut (tgt := 55) dX2_sayingAs_1 (by have t0 : ¬ y1.toInt = 1 := sw_ne s1_0; have t1 : ¬ y1.toInt = 2 := sw_ne s1_1; have t2 : ¬ y1.toInt = 3 := sw_ne s1_2; have t3 : ¬ y1.toInt = 4 := sw_ne s1_3; have t4 : ¬ y1.toInt = 5 := sw_ne s1_4; have t5 : ¬ y1.toInt = 6 := sw_ne s1_5; omega) (by decide) ?_
  refine g_aloadR_n dX2_sayingAs_55 rfl rfl ?_
  refine n_getI dX2_sayingAs_56 fX2_21 rfl hW (vld_pe hk hi) (Or.inl rfl) ?_
  refine g_iret dX2_sayingAs_59 rfl ?_
  subst e1
  exact qI h (by simp [*])
