/-! SHELVES -/
section RL
variable {E : Ev} {R : Room} {k : MK} {Z : ZT} {ca sl pc : Nat} {lv : List (Option AV)} {st : List AV} {M : Mem}
theorem g_lcmp {x y : Int64} (hd : decode k.2.1 pc = .ok (.lcmp, 1)) (h : G E R k Z ca sl (pc + 1) lv (vI (lg_cmp x y) :: st) M) : G E R k Z ca sl pc lv (vL y :: vL x :: st) M :=
  fun p l e s m args below meth c H locs ls C hw hy hS hl => W.lcmp C.1 C.2.1 hd (h p l e s m args below meth c H locs ls C hw hy hS hl)
end RL
theorem lcmp_gt {x y : Int64} : 0 < lg_cmp x y ↔ y < x := by
  unfold lg_cmp
  split
  · simp [*]
  · split <;> simp [*]
set_option maxHeartbeats 4000000 in
set_option maxRecDepth 100000 in
theorem wp_X5_isRow {E : Ev} {M : Mem} {Q : QT} (hW : Wi M) {s : Nat} (hs : s < 9) (h : Q (some (vI (b2 (¬ mI M (5, s, 0) 0 = -1)))) M) : Mth E 0 0 0 kX5_isRow [vR (5, s, 0)] M Q := by
  refine mth_of (by decide +kernel) [some (vR (5, s, 0))] (Nat.le_of_ble_eq_true rfl) rfl ?_
  refine g_aloadR_n dX5_isRow_0 rfl rfl ?_
  refine n_getI dX5_isRow_1 fX5_9 rfl hW (vld_sh hs) (Or.inl rfl) ?_
  refine g_iconst dX5_isRow_4 (v := (-1)) (by decide) ?_
  refine g_icmp_eq (tgt := 12) dX5_isRow_5 (by decide) (fun c5 => ?_) (fun c5 => ?_)
  · refine g_iconst dX5_isRow_12 (v := 0) (by decide) ?_
    refine g_zret dX5_isRow_13 rfl (Or.inl rfl) ?_
    exact qI h (b2_f (by simpa using c5))
  · refine g_iconst dX5_isRow_8 (v := 1) (by decide) ?_
    refine g_goto (tgt := 13) dX5_isRow_9 (by decide) ?_
    refine g_zret dX5_isRow_13 rfl (Or.inr rfl) ?_
    exact qI h (b2_t (by simpa using c5))
set_option maxHeartbeats 4000000 in
set_option maxRecDepth 100000 in
theorem wp_X5_isPerson {E : Ev} {M : Mem} {Q : QT} (hW : Wi M) {s : Nat} (hs : s < 9) (h : Q (some (vI (b2 (¬ mI M (5, s, 0) 1 = -1)))) M) : Mth E 0 0 0 kX5_isPerson [vR (5, s, 0)] M Q := by
  refine mth_of (by decide +kernel) [some (vR (5, s, 0))] (Nat.le_of_ble_eq_true rfl) rfl ?_
  refine g_aloadR_n dX5_isPerson_0 rfl rfl ?_
  refine n_getI dX5_isPerson_1 fX5_15 rfl hW (vld_sh hs) (Or.inl rfl) ?_
  refine g_iconst dX5_isPerson_4 (v := (-1)) (by decide) ?_
  refine g_icmp_eq (tgt := 12) dX5_isPerson_5 (by decide) (fun c5 => ?_) (fun c5 => ?_)
  · refine g_iconst dX5_isPerson_12 (v := 0) (by decide) ?_
    refine g_zret dX5_isPerson_13 rfl (Or.inl rfl) ?_
    exact qI h (b2_f (by simpa using c5))
  · refine g_iconst dX5_isPerson_8 (v := 1) (by decide) ?_
    refine g_goto (tgt := 13) dX5_isPerson_9 (by decide) ?_
    refine g_zret dX5_isPerson_13 rfl (Or.inr rfl) ?_
    exact qI h (b2_t (by simpa using c5))
def hrM (M : Mem) (s : Nat) (so n : Int32) : Mem := flJ (sI (sI (sI M (5, s, 0) 0 so) (5, s, 0) 1 (-1)) (5, s, 0) 2 n) (6, s, 0) 160 0
def hpM (M : Mem) (s : Nat) (p : Int32) : Mem := sI (sI (sI M (5, s, 0) 0 (-1)) (5, s, 0) 1 p) (5, s, 0) 2 0
set_option maxHeartbeats 4000000 in
set_option maxRecDepth 100000 in
theorem wp_X5_holdRow {E : Ev} {M : Mem} {Q : QT} (hW : Wi M) {s : Nat} (hs : s < 9) {so n : Int32} (h : Q none (hrM M s so n)) : Mth E 1 0 0 kX5_holdRow [vR (5, s, 0), vI so, vI n] M Q := by
  refine mth_of (by decide +kernel) [some (vR (5, s, 0)), some (vI so), some (vI n)] (Nat.le_of_ble_eq_true rfl) rfl ?_
  refine g_aloadR_n dX5_holdRow_0 rfl rfl ?_
  refine g_iload_n dX5_holdRow_1 rfl rfl ?_
  refine n_putI dX5_holdRow_2 fX5_9 rfl hW (vld_sh hs) rfl ?_
  refine g_aloadR_n dX5_holdRow_5 rfl rfl ?_
  refine g_iconst dX5_holdRow_6 (v := (-1)) (by decide) ?_
  refine n_putI dX5_holdRow_7 fX5_15 rfl hW (vld_sh hs) rfl ?_
  refine g_aloadR_n dX5_holdRow_10 rfl rfl ?_
  refine g_iload_n dX5_holdRow_11 rfl rfl ?_
  refine n_putI dX5_holdRow_12 fX5_22 rfl hW (vld_sh hs) rfl ?_
  refine g_aloadR_n dX5_holdRow_15 rfl rfl ?_
  refine n_getR dX5_holdRow_16 fX5_18 rfl hW (vld_sh hs) rfl rfl ?_
  refine g_lconst dX5_holdRow_19 (v := 0) (by decide) ?_
  refine n_s2v (n' := 0) dX5_holdRow_20 mJ7_fill_d0a16 lX5_25 ⟨Nat.le_of_ble_eq_true rfl, Nat.le_of_ble_eq_true rfl⟩ ⟨Nat.zero_le _, Nat.zero_le _⟩ (Nat.le_of_ble_eq_true rfl) ?_
  refine wp_J7_fill (by exact hW) hs ?_
  refine ⟨rfl, ?_⟩
  refine g_vret dX5_holdRow_23 rfl ?_
  exact h
set_option maxHeartbeats 4000000 in
set_option maxRecDepth 100000 in
theorem wp_X5_holdPerson {E : Ev} {M : Mem} {Q : QT} (hW : Wi M) {s : Nat} (hs : s < 9) {p : Int32} (h : Q none (hpM M s p)) : Mth E 0 0 0 kX5_holdPerson [vR (5, s, 0), vI p] M Q := by
  refine mth_of (by decide +kernel) [some (vR (5, s, 0)), some (vI p)] (Nat.le_of_ble_eq_true rfl) rfl ?_
  refine g_aloadR_n dX5_holdPerson_0 rfl rfl ?_
  refine g_iconst dX5_holdPerson_1 (v := (-1)) (by decide) ?_
  refine n_putI dX5_holdPerson_2 fX5_9 rfl hW (vld_sh hs) rfl ?_
  refine g_aloadR_n dX5_holdPerson_5 rfl rfl ?_
  refine g_iload_n dX5_holdPerson_6 rfl rfl ?_
  refine n_putI dX5_holdPerson_7 fX5_15 rfl hW (vld_sh hs) rfl ?_
  refine g_aloadR_n dX5_holdPerson_10 rfl rfl ?_
  refine g_iconst dX5_holdPerson_11 (v := 0) (by decide) ?_
  refine n_putI dX5_holdPerson_12 fX5_22 rfl hW (vld_sh hs) rfl ?_
  refine g_vret dX5_holdPerson_15 rfl ?_
  exact h
set_option maxHeartbeats 4000000 in
set_option maxRecDepth 100000 in
theorem wp_X5_hasElement {E : Ev} {M : Mem} {Q : QT} (hW : Wi M) {s : Nat} (hs : s < 9) {ln : Nat} (hl : mI M (5, s, 0) 2 = nI ln) (hl2 : ln ≤ 160) {i : Int32} (h : Q (some (vI (b2 (IN i ln)))) M) : Mth E 0 0 0 kX5_hasElement [vR (5, s, 0), vI i] M Q := by
  refine mth_of (by decide +kernel) [some (vR (5, s, 0)), some (vI i)] (Nat.le_of_ble_eq_true rfl) rfl ?_
  refine g_iload_n dX5_hasElement_0 rfl rfl ?_
  refine g_if_lt (tgt := 16) dX5_hasElement_1 (by decide) (fun c1 => ?_) (fun c1 => ?_)
  · refine g_iconst dX5_hasElement_16 (v := 0) (by decide) ?_
    refine g_zret dX5_hasElement_17 rfl (Or.inl rfl) ?_
    exact qI h (b2_f (by have := nI_toInt (n := ln) (by omega); simp only [IN, Int32.lt_iff_toInt_lt, Int32.le_iff_toInt_le, ← Int32.toInt_inj, zcs, zn, hl] at *; omega))
  · refine g_iload_n dX5_hasElement_4 rfl rfl ?_
    refine g_aloadR_n dX5_hasElement_5 rfl rfl ?_
    refine n_getI dX5_hasElement_6 fX5_22 rfl hW (vld_sh hs) (Or.inl rfl) ?_
    refine g_icmp_ge (tgt := 16) dX5_hasElement_9 (by decide) (fun c9 => ?_) (fun c9 => ?_)
    · refine g_iconst dX5_hasElement_16 (v := 0) (by decide) ?_
      refine g_zret dX5_hasElement_17 rfl (Or.inl rfl) ?_
      exact qI h (b2_f (by have := nI_toInt (n := ln) (by omega); simp only [IN, Int32.lt_iff_toInt_lt, Int32.le_iff_toInt_le, ← Int32.toInt_inj, zcs, zn, hl] at *; omega))
    · refine g_iconst dX5_hasElement_12 (v := 1) (by decide) ?_
      refine g_goto (tgt := 17) dX5_hasElement_13 (by decide) ?_
      refine g_zret dX5_hasElement_17 rfl (Or.inr rfl) ?_
      exact qI h (b2_t (by have := nI_toInt (n := ln) (by omega); simp only [IN, Int32.lt_iff_toInt_lt, Int32.le_iff_toInt_le, ← Int32.toInt_inj, zcs, zn, hl] at *; omega))
theorem add_l {x y : Int32} : (x.toInt64 + y.toInt64).toInt = x.toInt + y.toInt := by
  have h1 := Int32.le_toInt x
  have h2 := Int32.toInt_lt x
  have h3 := Int32.le_toInt y
  have h4 := Int32.toInt_lt y
  rw [Int64.toInt_add, Int32.toInt_toInt64, Int32.toInt_toInt64, Int.bmod_eq_of_le] <;> omega
theorem str_gt {x y : Int32} {ln : Nat} (hl : ln < 2 ^ 31) : 0 < lg_cmp (x.toInt64 + y.toInt64) (nI ln).toInt64 ↔ (ln : Int) < x.toInt + y.toInt := by
  rw [lcmp_gt, Int64.lt_iff_toInt_lt, add_l, Int32.toInt_toInt64, nI_toInt hl]
set_option maxHeartbeats 4000000 in
set_option maxRecDepth 100000 in
theorem wp_X5_hasStretch {E : Ev} {M : Mem} {Q : QT} (hW : Wi M) {s : Nat} (hs : s < 9) {ln : Nat} (hl : mI M (5, s, 0) 2 = nI ln) (hl2 : ln ≤ 160) {i n : Int32} (h : Q (some (vI (b2 (0 ≤ i.toInt ∧ 0 ≤ n.toInt ∧ i.toInt + n.toInt ≤ ln)))) M) : Mth E 0 0 0 kX5_hasStretch [vR (5, s, 0), vI i, vI n] M Q := by
  refine mth_of (by decide +kernel) [some (vR (5, s, 0)), some (vI i), some (vI n)] (Nat.le_of_ble_eq_true rfl) rfl ?_
  refine g_iload_n dX5_hasStretch_0 rfl rfl ?_
  refine g_if_lt (tgt := 26) dX5_hasStretch_1 (by decide) (fun c1 => ?_) (fun c1 => ?_)
  · refine g_iconst dX5_hasStretch_26 (v := 0) (by decide) ?_
    refine g_zret dX5_hasStretch_27 rfl (Or.inl rfl) ?_
    exact qI h (b2_f (by simp only [Int32.lt_iff_toInt_lt, zcs] at *; omega))
  · refine g_iload_n dX5_hasStretch_4 rfl rfl ?_
    refine g_if_lt (tgt := 26) dX5_hasStretch_5 (by decide) (fun c5 => ?_) (fun c5 => ?_)
    · refine g_iconst dX5_hasStretch_26 (v := 0) (by decide) ?_
      refine g_zret dX5_hasStretch_27 rfl (Or.inl rfl) ?_
      exact qI h (b2_f (by simp only [Int32.lt_iff_toInt_lt, zcs] at *; omega))
    · refine g_iload_n dX5_hasStretch_8 rfl rfl ?_
      refine g_i2l dX5_hasStretch_9 ?_
      refine g_iload_n dX5_hasStretch_10 rfl rfl ?_
      refine g_i2l dX5_hasStretch_11 ?_
      refine g_ladd dX5_hasStretch_12 ?_
      refine g_aloadR_n dX5_hasStretch_13 rfl rfl ?_
      refine n_getI dX5_hasStretch_14 fX5_22 rfl hW (vld_sh hs) (Or.inl rfl) ?_
      refine g_i2l dX5_hasStretch_17 ?_
      refine g_lcmp dX5_hasStretch_18 ?_
      refine g_if_gt (tgt := 26) dX5_hasStretch_19 (by decide) (fun c19 => ?_) (fun c19 => ?_)
      · rw [hl, str_gt (by omega)] at c19
        refine g_iconst dX5_hasStretch_26 (v := 0) (by decide) ?_
        refine g_zret dX5_hasStretch_27 rfl (Or.inl rfl) ?_
        exact qI h (b2_f (by simp only [Int32.lt_iff_toInt_lt, zcs] at *; omega))
      · rw [hl, str_gt (by omega)] at c19
        refine g_iconst dX5_hasStretch_22 (v := 1) (by decide) ?_
        refine g_goto (tgt := 27) dX5_hasStretch_23 (by decide) ?_
        refine g_zret dX5_hasStretch_27 rfl (Or.inr rfl) ?_
        exact qI h (b2_t (by simp only [Int32.lt_iff_toInt_lt, zcs] at *; omega))
def putV (so : Int32) (v : Int64) : Int64 := if so = 0 then v.toInt32.toInt8.toInt32.toInt64 else if so = 1 then v.toInt32.toInt16.toInt32.toInt64 else if so = 2 then v.toInt32.toInt64 else v
set_option maxHeartbeats 4000000 in
set_option maxRecDepth 100000 in
theorem wp_X5_put {E : Ev} {M : Mem} {Q : QT} (hW : Wi M) {s : Nat} (hs : s < 9) {ln : Nat} (hl : mI M (5, s, 0) 2 = nI ln) (hl2 : ln ≤ 160) {j : Nat} (hj : j < ln) {v : Int64} (h : Q none (sJ M (6, s, 0) j (putV (mI M (5, s, 0) 0) v))) : Mth E 0 0 0 kX5_put [vR (5, s, 0), vI (nI j), vL v] M Q := by
  refine mth_of (by decide +kernel) [some (vR (5, s, 0)), some (vI (nI j)), some (vL v), none] (Nat.le_of_ble_eq_true rfl) rfl ?_
  refine g_iload_n dX5_put_0 rfl rfl ?_
  refine g_if_lt (tgt := 21) dX5_put_1 (by decide) (fun c1 => ?_) (fun c1 => ?_)
  · exact absurd c1 (nI_pos (by omega))
  · refine g_iload_n dX5_put_4 rfl rfl ?_
    refine g_aloadR_n dX5_put_5 rfl rfl ?_
    refine n_getI dX5_put_6 fX5_22 rfl hW (vld_sh hs) (Or.inl rfl) ?_
    refine g_icmp_ge (tgt := 21) dX5_put_9 (by decide) (fun c9 => ?_) (fun c9 => ?_)
    · exact absurd (sz_ge hl (by omega) (by omega) c9) (by omega)
    · refine g_iload_n dX5_put_12 rfl rfl ?_
      refine g_aloadR_n dX5_put_13 rfl rfl ?_
      refine n_getR dX5_put_14 fX5_18 rfl hW (vld_sh hs) rfl rfl ?_
      refine n_alen dX5_put_17 rfl (by decide) hW (vld_el hs) ?_
      refine g_icmp_lt (tgt := 22) dX5_put_18 (by decide) (fun c18 => ?_) (fun c18 => ?_)
      · refine g_aloadR_n dX5_put_22 rfl rfl ?_
        refine n_getI dX5_put_23 fX5_9 rfl hW (vld_sh hs) (Or.inl rfl) ?_
        refine g_top (fun y26 e26 => ?_)
        by_cases s26_0 : y26 = 0
        · refine g_tableIn (tgt := 52) dX5_put_26 (by rw [s26_0]; decide) (by rw [s26_0]; decide) (o := 26) (by rw [s26_0]; decide) (by decide) ?_
          refine g_aloadR_n dX5_put_52 rfl rfl ?_
          refine n_getR dX5_put_53 fX5_18 rfl hW (vld_sh hs) rfl rfl ?_
          refine g_iload_n dX5_put_56 rfl rfl ?_
          refine g_lload_n dX5_put_57 rfl rfl ?_
          refine g_l2i dX5_put_58 ?_
          refine g_i2b dX5_put_59 ?_
          refine g_i2l dX5_put_60 ?_
          refine n_last (j := j) dX5_put_61 rfl hW (vld_el hs) (by decide) rfl (show j < 160 by omega) ?_
          refine g_goto (tgt := 97) dX5_put_62 (by decide) ?_
          refine g_vret dX5_put_97 rfl ?_
          try subst e26
          simp only [putV] at h
          first | (rw [if_pos s26_0] at h; exact h) | (rw [if_neg s26_0, if_pos s26_1] at h; exact h) | (rw [if_neg s26_0, if_neg s26_1, if_pos s26_2] at h; exact h) | (rw [if_neg s26_0, if_neg s26_1, if_neg s26_2] at h; exact h)
        by_cases s26_1 : y26 = 1
        · refine g_tableIn (tgt := 65) dX5_put_26 (by rw [s26_1]; decide) (by rw [s26_1]; decide) (o := 39) (by rw [s26_1]; decide) (by decide) ?_
          refine g_aloadR_n dX5_put_65 rfl rfl ?_
          refine n_getR dX5_put_66 fX5_18 rfl hW (vld_sh hs) rfl rfl ?_
          refine g_iload_n dX5_put_69 rfl rfl ?_
          refine g_lload_n dX5_put_70 rfl rfl ?_
          refine g_l2i dX5_put_71 ?_
          refine g_i2s dX5_put_72 ?_
          refine g_i2l dX5_put_73 ?_
          refine n_last (j := j) dX5_put_74 rfl hW (vld_el hs) (by decide) rfl (show j < 160 by omega) ?_
          refine g_goto (tgt := 97) dX5_put_75 (by decide) ?_
          refine g_vret dX5_put_97 rfl ?_
          try subst e26
          simp only [putV] at h
          first | (rw [if_pos s26_0] at h; exact h) | (rw [if_neg s26_0, if_pos s26_1] at h; exact h) | (rw [if_neg s26_0, if_neg s26_1, if_pos s26_2] at h; exact h) | (rw [if_neg s26_0, if_neg s26_1, if_neg s26_2] at h; exact h)
        by_cases s26_2 : y26 = 2
        · refine g_tableIn (tgt := 78) dX5_put_26 (by rw [s26_2]; decide) (by rw [s26_2]; decide) (o := 52) (by rw [s26_2]; decide) (by decide) ?_
          refine g_aloadR_n dX5_put_78 rfl rfl ?_
          refine n_getR dX5_put_79 fX5_18 rfl hW (vld_sh hs) rfl rfl ?_
          refine g_iload_n dX5_put_82 rfl rfl ?_
          refine g_lload_n dX5_put_83 rfl rfl ?_
          refine g_l2i dX5_put_84 ?_
          refine g_i2l dX5_put_85 ?_
          refine n_last (j := j) dX5_put_86 rfl hW (vld_el hs) (by decide) rfl (show j < 160 by omega) ?_
          refine g_goto (tgt := 97) dX5_put_87 (by decide) ?_
          refine g_vret dX5_put_97 rfl ?_
          try subst e26
          simp only [putV] at h
          first | (rw [if_pos s26_0] at h; exact h) | (rw [if_neg s26_0, if_pos s26_1] at h; exact h) | (rw [if_neg s26_0, if_neg s26_1, if_pos s26_2] at h; exact h) | (rw [if_neg s26_0, if_neg s26_1, if_neg s26_2] at h; exact h)
        refine g_tableOut (tgt := 90) dX5_put_26 (by have t0 : ¬ y26.toInt = 0 := sw_ne s26_0; have t1 : ¬ y26.toInt = 1 := sw_ne s26_1; have t2 : ¬ y26.toInt = 2 := sw_ne s26_2; omega) (by decide) ?_
        refine g_aloadR_n dX5_put_90 rfl rfl ?_
        refine n_getR dX5_put_91 fX5_18 rfl hW (vld_sh hs) rfl rfl ?_
        refine g_iload_n dX5_put_94 rfl rfl ?_
        refine g_lload_n dX5_put_95 rfl rfl ?_
        refine n_last (j := j) dX5_put_96 rfl hW (vld_el hs) (by decide) rfl (show j < 160 by omega) ?_
        refine g_vret dX5_put_97 rfl ?_
        try subst e26
        simp only [putV] at h
        first | (rw [if_pos s26_0] at h; exact h) | (rw [if_neg s26_0, if_pos s26_1] at h; exact h) | (rw [if_neg s26_0, if_neg s26_1, if_pos s26_2] at h; exact h) | (rw [if_neg s26_0, if_neg s26_1, if_neg s26_2] at h; exact h)
      · exact absurd (nI_lt (a := j) (b := 160) (by omega) (by decide)) c18
def elV (M : Mem) (s ln : Nat) (i : Int32) : Int64 := if IN i ln then mJ M (6, s, 0) i.toNatClampNeg else 0
set_option maxHeartbeats 4000000 in
set_option maxRecDepth 100000 in
theorem wp_X5_elementAt {E : Ev} {M : Mem} {Q : QT} (hW : Wi M) {s : Nat} (hs : s < 9) {ln : Nat} (hl : mI M (5, s, 0) 2 = nI ln) (hl2 : ln ≤ 160) {i : Int32} (h : Q (some (vL (elV M s ln i))) M) : Mth E 0 0 0 kX5_elementAt [vR (5, s, 0), vI i] M Q := by
  refine mth_of (by decide +kernel) [some (vR (5, s, 0)), some (vI i)] (Nat.le_of_ble_eq_true rfl) rfl ?_
  refine g_iload_n dX5_elementAt_0 rfl rfl ?_
  refine g_if_lt (tgt := 30) dX5_elementAt_1 (by decide) (fun c1 => ?_) (fun c1 => ?_)
  · refine g_lconst dX5_elementAt_30 (v := 0) (by decide) ?_
    refine g_lret dX5_elementAt_31 rfl ?_
    refine qL h ?_
    unfold elV
    first
      | (rw [if_pos (by have := nI_toInt (n := ln) (by omega); simp only [IN, Int32.lt_iff_toInt_lt, Int32.le_iff_toInt_le, ← Int32.toInt_inj, zcs, zn, hl] at *; omega)]; done)
      | (rw [if_neg (by have := nI_toInt (n := ln) (by omega); simp only [IN, Int32.lt_iff_toInt_lt, Int32.le_iff_toInt_le, ← Int32.toInt_inj, zcs, zn, hl] at *; omega)]; done)
      | (rw [if_neg (fun q => by have h3 := q.2; have := nI_toInt (n := ln) (by omega); simp only [IN, Int32.lt_iff_toInt_lt, Int32.le_iff_toInt_le, zcs, zn, hl] at *; omega)]; done)
  · refine g_iload_n dX5_elementAt_4 rfl rfl ?_
    refine g_aloadR_n dX5_elementAt_5 rfl rfl ?_
    refine n_getI dX5_elementAt_6 fX5_22 rfl hW (vld_sh hs) (Or.inl rfl) ?_
    refine g_icmp_ge (tgt := 30) dX5_elementAt_9 (by decide) (fun c9 => ?_) (fun c9 => ?_)
    · refine g_lconst dX5_elementAt_30 (v := 0) (by decide) ?_
      refine g_lret dX5_elementAt_31 rfl ?_
      refine qL h ?_
      unfold elV
      first
        | (rw [if_pos (by have := nI_toInt (n := ln) (by omega); simp only [IN, Int32.lt_iff_toInt_lt, Int32.le_iff_toInt_le, ← Int32.toInt_inj, zcs, zn, hl] at *; omega)]; done)
        | (rw [if_neg (by have := nI_toInt (n := ln) (by omega); simp only [IN, Int32.lt_iff_toInt_lt, Int32.le_iff_toInt_le, ← Int32.toInt_inj, zcs, zn, hl] at *; omega)]; done)
        | (rw [if_neg (fun q => by have h3 := q.2; have := nI_toInt (n := ln) (by omega); simp only [IN, Int32.lt_iff_toInt_lt, Int32.le_iff_toInt_le, zcs, zn, hl] at *; omega)]; done)
    · refine g_iload_n dX5_elementAt_12 rfl rfl ?_
      refine g_aloadR_n dX5_elementAt_13 rfl rfl ?_
      refine n_getR dX5_elementAt_14 fX5_18 rfl hW (vld_sh hs) rfl rfl ?_
      refine n_alen dX5_elementAt_17 rfl (by decide) hW (vld_el hs) ?_
      refine g_icmp_ge (tgt := 30) dX5_elementAt_18 (by decide) (fun c18 => ?_) (fun c18 => ?_)
      · refine g_lconst dX5_elementAt_30 (v := 0) (by decide) ?_
        refine g_lret dX5_elementAt_31 rfl ?_
        refine qL h ?_
        unfold elV
        first
          | (rw [if_pos (by have := nI_toInt (n := ln) (by omega); simp only [IN, Int32.lt_iff_toInt_lt, Int32.le_iff_toInt_le, ← Int32.toInt_inj, zcs, zn, hl] at *; omega)]; done)
          | (rw [if_neg (by have := nI_toInt (n := ln) (by omega); simp only [IN, Int32.lt_iff_toInt_lt, Int32.le_iff_toInt_le, ← Int32.toInt_inj, zcs, zn, hl] at *; omega)]; done)
          | (rw [if_neg (fun q => by have h3 := q.2; have := nI_toInt (n := ln) (by omega); simp only [IN, Int32.lt_iff_toInt_lt, Int32.le_iff_toInt_le, zcs, zn, hl] at *; omega)]; done)
      · refine g_aloadR_n dX5_elementAt_21 rfl rfl ?_
        refine n_getR dX5_elementAt_22 fX5_18 rfl hW (vld_sh hs) rfl rfl ?_
        refine g_iload_n dX5_elementAt_25 rfl rfl ?_
        refine n_lald (j := i.toNatClampNeg) dX5_elementAt_26 rfl hW (vld_el hs) (by decide) (clamp_eq c1) (clamp_lt c1 (show ¬ nI 160 ≤ i from c18) (by decide)) ?_
        refine g_goto (tgt := 31) dX5_elementAt_27 (by decide) ?_
        refine g_lret dX5_elementAt_31 rfl ?_
        refine qL h ?_
        unfold elV
        first
          | (rw [if_pos (by have := nI_toInt (n := ln) (by omega); simp only [IN, Int32.lt_iff_toInt_lt, Int32.le_iff_toInt_le, ← Int32.toInt_inj, zcs, zn, hl] at *; omega)]; done)
          | (rw [if_neg (by have := nI_toInt (n := ln) (by omega); simp only [IN, Int32.lt_iff_toInt_lt, Int32.le_iff_toInt_le, ← Int32.toInt_inj, zcs, zn, hl] at *; omega)]; done)
          | (rw [if_neg (fun q => by have h3 := q.2; have := nI_toInt (n := ln) (by omega); simp only [IN, Int32.lt_iff_toInt_lt, Int32.le_iff_toInt_le, zcs, zn, hl] at *; omega)]; done)
set_option maxHeartbeats 4000000 in
set_option maxRecDepth 100000 in
theorem wp_X5_intAt {E : Ev} {M : Mem} {Q : QT} (hW : Wi M) {s : Nat} (hs : s < 9) {ln : Nat} (hl : mI M (5, s, 0) 2 = nI ln) (hl2 : ln ≤ 160) {i : Int32} (h : Q (some (vI (elV M s ln i).toInt32)) M) : Mth E 1 0 0 kX5_intAt [vR (5, s, 0), vI i] M Q := by
  refine mth_of (by decide +kernel) [some (vR (5, s, 0)), some (vI i)] (Nat.le_of_ble_eq_true rfl) rfl ?_
  refine g_aloadR_n dX5_intAt_0 rfl rfl ?_
  refine g_iload_n dX5_intAt_1 rfl rfl ?_
  refine n_v1l (n' := 0) dX5_intAt_2 mX5_elementAt lX5_31 rfl hW (vld_sh hs) rfl rfl ⟨Nat.le_of_ble_eq_true rfl, Nat.le_of_ble_eq_true rfl⟩ ⟨Nat.zero_le _, Nat.zero_le _⟩ (Nat.le_of_ble_eq_true rfl) ?_
  refine wp_X5_elementAt (by exact hW) hs hl hl2 ?_
  refine ⟨_, rfl, ?_⟩
  refine g_l2i dX5_intAt_5 ?_
  refine g_iret dX5_intAt_6 rfl ?_
  exact h
