/-! SMALL METHODS OF THE CLASS -/
theorem zcs : ((-7) : Int32).toInt = -7 ∧ ((-6) : Int32).toInt = -6 ∧ ((-5) : Int32).toInt = -5 ∧ ((-4) : Int32).toInt = -4 ∧ ((-3) : Int32).toInt = -3 ∧ ((-2) : Int32).toInt = -2 ∧ ((-1) : Int32).toInt = -1 ∧ ((0) : Int32).toInt = 0 ∧ ((1) : Int32).toInt = 1 ∧ ((2) : Int32).toInt = 2 ∧ ((3) : Int32).toInt = 3 ∧ ((4) : Int32).toInt = 4 ∧ ((5) : Int32).toInt = 5 ∧ ((6) : Int32).toInt = 6 ∧ ((7) : Int32).toInt = 7 ∧ ((8) : Int32).toInt = 8 ∧ ((9) : Int32).toInt = 9 ∧ ((10) : Int32).toInt = 10 ∧ ((11) : Int32).toInt = 11 ∧ ((12) : Int32).toInt = 12 ∧ ((13) : Int32).toInt = 13 ∧ ((14) : Int32).toInt = 14 ∧ ((15) : Int32).toInt = 15 ∧ ((16) : Int32).toInt = 16 ∧ ((17) : Int32).toInt = 17 ∧ ((18) : Int32).toInt = 18 ∧ ((19) : Int32).toInt = 19 ∧ ((20) : Int32).toInt = 20 ∧ ((21) : Int32).toInt = 21 ∧ ((22) : Int32).toInt = 22 ∧ ((23) : Int32).toInt = 23 ∧ ((24) : Int32).toInt = 24 ∧ ((25) : Int32).toInt = 25 ∧ ((26) : Int32).toInt = 26 ∧ ((27) : Int32).toInt = 27 ∧ ((28) : Int32).toInt = 28 ∧ ((29) : Int32).toInt = 29 ∧ ((30) : Int32).toInt = 30 ∧ ((31) : Int32).toInt = 31 ∧ ((32) : Int32).toInt = 32 ∧ ((63) : Int32).toInt = 63 ∧ ((99) : Int32).toInt = 99 ∧ ((100) : Int32).toInt = 100 ∧ ((160) : Int32).toInt = 160 ∧ ((1000) : Int32).toInt = 1000 ∧ ((1024) : Int32).toInt = 1024 ∧ ((-10) : Int32).toInt = -10 ∧ ((-1000) : Int32).toInt = -1000 := by decide +kernel
theorem zn : (nI 0).toInt = 0 ∧ (nI 1).toInt = 1 ∧ (nI 2).toInt = 2 ∧ (nI 3).toInt = 3 ∧ (nI 4).toInt = 4 ∧ (nI 5).toInt = 5 ∧ (nI 6).toInt = 6 ∧ (nI 7).toInt = 7 ∧ (nI 8).toInt = 8 ∧ (nI 9).toInt = 9 ∧ (nI 10).toInt = 10 ∧ (nI 11).toInt = 11 ∧ (nI 12).toInt = 12 ∧ (nI 13).toInt = 13 ∧ (nI 14).toInt = 14 ∧ (nI 15).toInt = 15 ∧ (nI 16).toInt = 16 ∧ (nI 17).toInt = 17 ∧ (nI 18).toInt = 18 ∧ (nI 19).toInt = 19 ∧ (nI 20).toInt = 20 ∧ (nI 21).toInt = 21 ∧ (nI 22).toInt = 22 ∧ (nI 23).toInt = 23 ∧ (nI 24).toInt = 24 ∧ (nI 25).toInt = 25 ∧ (nI 26).toInt = 26 ∧ (nI 27).toInt = 27 ∧ (nI 28).toInt = 28 ∧ (nI 29).toInt = 29 ∧ (nI 30).toInt = 30 ∧ (nI 31).toInt = 31 ∧ (nI 32).toInt = 32 ∧ (nI 63).toInt = 63 ∧ (nI 99).toInt = 99 ∧ (nI 100).toInt = 100 ∧ (nI 160).toInt = 160 ∧ (nI 1000).toInt = 1000 ∧ (nI 1024).toInt = 1024 := by decide +kernel
def b2 (p : Prop) [Decidable p] : Int32 := if p then 1 else 0
theorem b2_t {p : Prop} [Decidable p] (h : p) : 1 = b2 p := (if_pos h).symm
theorem b2_f {p : Prop} [Decidable p] (h : ¬ p) : 0 = b2 p := (if_neg h).symm
theorem b2_1 {p : Prop} [Decidable p] : b2 p = 1 ↔ p := by unfold b2; split <;> simp [*]
theorem b2_0 {p : Prop} [Decidable p] : b2 p = 0 ↔ ¬ p := by unfold b2; split <;> simp [*]
/-- an int from 0 to below n -/
abbrev IN (x : Int32) (n : Nat) : Prop := 0 ≤ x.toInt ∧ x.toInt < (n : Int)
theorem IN_nI {x : Int32} {n : Nat} (h : IN x n) : x = nI x.toNatClampNeg ∧ x.toNatClampNeg < n := by
  have hc : x.toNatClampNeg = x.toInt.toNat := rfl
  have hx := Int32.toInt_lt x
  refine ⟨Int32.toInt_inj.mp ?_, by omega⟩
  rw [nI_toInt (by omega)]; omega
theorem IN_of {j n : Nat} (h : j < n) (hn : n ≤ 2 ^ 31) : IN (nI j) n := by
  unfold IN; rw [nI_toInt (by omega)]; omega
theorem clamp_eq {x : Int32} (h : ¬ x < 0) : x = nI x.toNatClampNeg := by
  obtain ⟨j, hj, rfl⟩ := nI_of h
  rw [nI_clamp hj]
theorem clamp_lt {x : Int32} {n : Nat} (h : ¬ x < 0) (h2 : ¬ nI n ≤ x) (hn : n < 2 ^ 31) : x.toNatClampNeg < n := by
  obtain ⟨j, hj, rfl⟩ := nI_of h
  rw [nI_clamp hj]
  rw [nI_leI hn hj] at h2; omega
def shx (s : Int32) : Nat := if IN s 8 then s.toNatClampNeg else 8
theorem shx_lt (s : Int32) : shx s < 9 := by
  unfold shx; split
  · rename_i h; have := (IN_nI h).2; omega
  · omega
def pix (i : Int32) : Nat := if IN i 10 then i.toNatClampNeg else 10
theorem pix_lt (s : Int32) : pix s < 11 := by
  unfold pix; split
  · rename_i h; have := (IN_nI h).2; omega
  · omega
theorem pix_nI {j : Nat} (h : j < 10) : pix (nI j) = j := by
  unfold pix; rw [if_pos (IN_of h (by decide)), nI_clamp (by omega)]
theorem shx_nI {j : Nat} (h : j < 8) : shx (nI j) = j := by
  unfold shx; rw [if_pos (IN_of h (by decide)), nI_clamp (by omega)]
/-- a count of refusals one more -/
def rfz (M : Mem) (j : Nat) : Mem := sI M (12, 0, 0) j (mI M (12, 0, 0) j + 1)
set_option maxHeartbeats 4000000 in
set_option maxRecDepth 100000 in
theorem wp_X6_isShelf {E : Ev} {M : Mem} {Q : QT} (hW : Wi M) {s : Int32} (h : Q (some (vI (b2 (IN s 8)))) M) : Mth E 0 0 0 kX6_isShelf [vR (0, 0, 0), vI s] M Q := by
  refine mth_of (by decide +kernel) [some (vR (0, 0, 0)), some (vI s)] (Nat.le_of_ble_eq_true rfl) rfl ?_
  refine g_iload_n dX6_isShelf_0 rfl rfl ?_
  refine g_if_lt (tgt := 17) dX6_isShelf_1 (by decide) (fun c1 => ?_) (fun c1 => ?_)
  · refine g_iconst dX6_isShelf_17 (v := 0) (by decide) ?_
    refine g_zret dX6_isShelf_18 rfl (Or.inl rfl) ?_
    exact qI h (b2_f (by simp only [IN, Int32.lt_iff_toInt_lt, Int32.le_iff_toInt_le, ← Int32.toInt_inj, zcs, zn] at *; omega))
  · refine g_iload_n dX6_isShelf_4 rfl rfl ?_
    refine g_aloadR_n dX6_isShelf_5 rfl rfl ?_
    refine n_getR dX6_isShelf_6 fX6_31 rfl hW vld_x0 rfl rfl ?_
    refine n_alen dX6_isShelf_9 rfl (by decide) hW vld_x7 ?_
    refine g_icmp_ge (tgt := 17) dX6_isShelf_10 (by decide) (fun c10 => ?_) (fun c10 => ?_)
    · refine g_iconst dX6_isShelf_17 (v := 0) (by decide) ?_
      refine g_zret dX6_isShelf_18 rfl (Or.inl rfl) ?_
      exact qI h (b2_f (by simp only [IN, Int32.lt_iff_toInt_lt, Int32.le_iff_toInt_le, ← Int32.toInt_inj, zcs, zn] at *; omega))
    · refine g_iconst dX6_isShelf_13 (v := 1) (by decide) ?_
      refine g_goto (tgt := 18) dX6_isShelf_14 (by decide) ?_
      refine g_zret dX6_isShelf_18 rfl (Or.inr rfl) ?_
      exact qI h (b2_t (by simp only [IN, Int32.lt_iff_toInt_lt, Int32.le_iff_toInt_le, ← Int32.toInt_inj, zcs, zn] at *; omega))

set_option maxHeartbeats 4000000 in
set_option maxRecDepth 100000 in
theorem wp_X6_shelfAt {E : Ev} {M : Mem} {Q : QT} (hW : Wi M) {s : Int32} (h : Q (some (vR (5, shx s, 0))) M) : Mth E 0 0 0 kX6_shelfAt [vR (0, 0, 0), vI s] M Q := by
  refine mth_of (by decide +kernel) [some (vR (0, 0, 0)), some (vI s)] (Nat.le_of_ble_eq_true rfl) rfl ?_
  refine g_iload_n dX6_shelfAt_0 rfl rfl ?_
  refine g_if_lt (tgt := 22) dX6_shelfAt_1 (by decide) (fun c1 => ?_) (fun c1 => ?_)
  · refine g_aloadR_n dX6_shelfAt_22 rfl rfl ?_
    refine n_getR dX6_shelfAt_23 fX6_36 rfl hW vld_x0 rfl rfl ?_
    refine g_aret dX6_shelfAt_26 rfl ?_
    have e : shx s = 8 := if_neg (by simp only [IN, Int32.lt_iff_toInt_lt, Int32.le_iff_toInt_le, ← Int32.toInt_inj, zcs, zn] at *; omega)
    rw [e] at h; exact h
  · refine g_iload_n dX6_shelfAt_4 rfl rfl ?_
    refine g_aloadR_n dX6_shelfAt_5 rfl rfl ?_
    refine n_getR dX6_shelfAt_6 fX6_31 rfl hW vld_x0 rfl rfl ?_
    refine n_alen dX6_shelfAt_9 rfl (by decide) hW vld_x7 ?_
    refine g_icmp_ge (tgt := 22) dX6_shelfAt_10 (by decide) (fun c10 => ?_) (fun c10 => ?_)
    · refine g_aloadR_n dX6_shelfAt_22 rfl rfl ?_
      refine n_getR dX6_shelfAt_23 fX6_36 rfl hW vld_x0 rfl rfl ?_
      refine g_aret dX6_shelfAt_26 rfl ?_
      have e : shx s = 8 := if_neg (by simp only [IN, Int32.lt_iff_toInt_lt, Int32.le_iff_toInt_le, ← Int32.toInt_inj, zcs, zn] at *; omega)
      rw [e] at h; exact h
    · refine g_aloadR_n dX6_shelfAt_13 rfl rfl ?_
      refine n_getR dX6_shelfAt_14 fX6_31 rfl hW vld_x0 rfl rfl ?_
      refine g_iload_n dX6_shelfAt_17 rfl rfl ?_
      refine n_aald4 (j := s.toNatClampNeg) dX6_shelfAt_18 rfl hW vld_x7 (by decide) (clamp_eq c1) (clamp_lt c1 c10 (by decide)) (by first | rfl | (simp only [wire]; rw [if_pos (clamp_lt c1 c10 (by decide))])) ?_
      refine g_goto (tgt := 26) dX6_shelfAt_19 (by decide) ?_
      refine g_aret dX6_shelfAt_26 rfl ?_
      have e : shx s = s.toNatClampNeg := if_pos (by simp only [IN, Int32.lt_iff_toInt_lt, Int32.le_iff_toInt_le, ← Int32.toInt_inj, zcs, zn] at *; omega)
      rw [e] at h; exact h
set_option maxHeartbeats 4000000 in
set_option maxRecDepth 100000 in
theorem wp_X6_isStretch {E : Ev} {M : Mem} {Q : QT} {n : Int32} (h : Q (some (vI (b2 (IN n 25)))) M) : Mth E 0 0 0 kX6_isStretch [vI n] M Q := by
  refine mth_of (by decide +kernel) [some (vI n)] (Nat.le_of_ble_eq_true rfl) rfl ?_
  refine g_iload_n dX6_isStretch_0 rfl rfl ?_
  refine g_if_lt (tgt := 14) dX6_isStretch_1 (by decide) (fun c1 => ?_) (fun c1 => ?_)
  · refine g_iconst dX6_isStretch_14 (v := 0) (by decide) ?_
    refine g_zret dX6_isStretch_15 rfl (Or.inl rfl) ?_
    exact qI h (b2_f (by simp only [IN, Int32.lt_iff_toInt_lt, Int32.le_iff_toInt_le, ← Int32.toInt_inj, zcs, zn] at *; omega))
  · refine g_iload_n dX6_isStretch_4 rfl rfl ?_
    refine g_bipush dX6_isStretch_5 (v := 24) (by decide) ?_
    refine g_icmp_gt (tgt := 14) dX6_isStretch_7 (by decide) (fun c7 => ?_) (fun c7 => ?_)
    · refine g_iconst dX6_isStretch_14 (v := 0) (by decide) ?_
      refine g_zret dX6_isStretch_15 rfl (Or.inl rfl) ?_
      exact qI h (b2_f (by simp only [IN, Int32.lt_iff_toInt_lt, Int32.le_iff_toInt_le, ← Int32.toInt_inj, zcs, zn] at *; omega))
    · refine g_iconst dX6_isStretch_10 (v := 1) (by decide) ?_
      refine g_goto (tgt := 15) dX6_isStretch_11 (by decide) ?_
      refine g_zret dX6_isStretch_15 rfl (Or.inr rfl) ?_
      exact qI h (b2_t (by simp only [IN, Int32.lt_iff_toInt_lt, Int32.le_iff_toInt_le, ← Int32.toInt_inj, zcs, zn] at *; omega))
set_option maxHeartbeats 4000000 in
set_option maxRecDepth 100000 in
theorem wp_X6_isKind {E : Ev} {M : Mem} {Q : QT} {n : Int32} (h : Q (some (vI (b2 (IN n 7)))) M) : Mth E 0 0 0 kX6_isKind [vI n] M Q := by
  refine mth_of (by decide +kernel) [some (vI n)] (Nat.le_of_ble_eq_true rfl) rfl ?_
  refine g_iload_n dX6_isKind_0 rfl rfl ?_
  refine g_if_lt (tgt := 16) dX6_isKind_1 (by decide) (fun c1 => ?_) (fun c1 => ?_)
  · refine g_iconst dX6_isKind_16 (v := 0) (by decide) ?_
    refine g_zret dX6_isKind_17 rfl (Or.inl rfl) ?_
    exact qI h (b2_f (by simp only [IN, Int32.lt_iff_toInt_lt, Int32.le_iff_toInt_le, ← Int32.toInt_inj, zcs, zn] at *; omega))
  · refine g_iload_n dX6_isKind_4 rfl rfl ?_
    refine g_gets (t := 0) dX6_isKind_5 (by decide) sX6_291 ?_
    refine n_alenS (n := 7) dX6_isKind_8 (by decide) rfl ?_
    refine g_icmp_ge (tgt := 16) dX6_isKind_9 (by decide) (fun c9 => ?_) (fun c9 => ?_)
    · refine g_iconst dX6_isKind_16 (v := 0) (by decide) ?_
      refine g_zret dX6_isKind_17 rfl (Or.inl rfl) ?_
      exact qI h (b2_f (by simp only [IN, Int32.lt_iff_toInt_lt, Int32.le_iff_toInt_le, ← Int32.toInt_inj, zcs, zn] at *; omega))
    · refine g_iconst dX6_isKind_12 (v := 1) (by decide) ?_
      refine g_goto (tgt := 17) dX6_isKind_13 (by decide) ?_
      refine g_zret dX6_isKind_17 rfl (Or.inr rfl) ?_
      exact qI h (b2_t (by simp only [IN, Int32.lt_iff_toInt_lt, Int32.le_iff_toInt_le, ← Int32.toInt_inj, zcs, zn] at *; omega))
theorem neg_eq {n : Int32} {j : Nat} (h : -n = nI j) (hj : j < 8) : ¬ (-n) < 0 ∧ ¬ nI 8 ≤ (-n) := by
  rw [h]; exact ⟨nI_pos (by omega), nI_ge hj (by decide)⟩
set_option maxHeartbeats 4000000 in
set_option maxRecDepth 100000 in
theorem wp_X6_refuse {E : Ev} {M : Mem} {Q : QT} (hW : Wi M) {n : Int32} {j : Nat} (hj : j < 8) (hn : -n = nI j) (h : Q (some (vI n)) (rfz M j)) : Mth E 0 0 0 kX6_refuse [vR (0, 0, 0), vI n] M Q := by
  refine mth_of (by decide +kernel) [some (vR (0, 0, 0)), some (vI n), none] (Nat.le_of_ble_eq_true rfl) rfl ?_
  refine g_iload_n dX6_refuse_0 rfl rfl ?_
  refine g_ineg dX6_refuse_1 ?_
  refine g_istore_2 dX6_refuse_2 rfl ?_
  refine g_iload_n dX6_refuse_3 rfl rfl ?_
  refine g_if_lt (tgt := 26) dX6_refuse_4 (by decide) (fun c4 => ?_) (fun c4 => ?_)
  · exact absurd c4 (neg_eq hn hj).1
  · refine g_iload_n dX6_refuse_7 rfl rfl ?_
    refine g_aloadR_n dX6_refuse_8 rfl rfl ?_
    refine n_getR dX6_refuse_9 fX6_54 rfl hW vld_x0 rfl rfl ?_
    refine n_alen dX6_refuse_12 rfl (by decide) hW vld_x12 ?_
    refine g_icmp_ge (tgt := 26) dX6_refuse_13 (by decide) (fun c13 => ?_) (fun c13 => ?_)
    · exact absurd c13 (neg_eq hn hj).2
    · refine g_aloadR_n dX6_refuse_16 rfl rfl ?_
      refine n_getR dX6_refuse_17 fX6_54 rfl hW vld_x0 rfl rfl ?_
      refine g_iload_n dX6_refuse_20 rfl rfl ?_
      refine g_dup2 dX6_refuse_21 rfl rfl ?_
      refine n_iald (j := j) dX6_refuse_22 rfl hW vld_x12 (by decide) hn hj ?_
      refine g_iconst dX6_refuse_23 (v := 1) (by decide) ?_
      refine g_iadd dX6_refuse_24 ?_
      refine n_iast (j := j) dX6_refuse_25 rfl hW vld_x12 (by decide) hn hj ?_
      refine g_iload_n dX6_refuse_26 rfl rfl ?_
      refine g_iret dX6_refuse_27 rfl ?_
      exact h
set_option maxHeartbeats 4000000 in
set_option maxRecDepth 100000 in
theorem wp_X4_has {E : Ev} {M : Mem} {Q : QT} (hW : Wi M) {k : Nat} (hk : k < 4) {i : Int32} {n : Nat} (hn : mI M (1, k, 0) 2 = nI n) (hn10 : n ≤ 10) (h : Q (some (vI (b2 (IN i n)))) M) : Mth E 0 0 0 kX4_has [vR (1, k, 0), vI i] M Q := by
  refine mth_of (by decide +kernel) [some (vR (1, k, 0)), some (vI i)] (Nat.le_of_ble_eq_true rfl) rfl ?_
  refine g_iload_n dX4_has_0 rfl rfl ?_
  refine g_if_lt (tgt := 16) dX4_has_1 (by decide) (fun c1 => ?_) (fun c1 => ?_)
  · refine g_iconst dX4_has_16 (v := 0) (by decide) ?_
    refine g_zret dX4_has_17 rfl (Or.inl rfl) ?_
    try rw [hn] at *
    exact qI h (b2_f (by have := nI_toInt (n := n) (by omega); simp only [IN, Int32.lt_iff_toInt_lt, Int32.le_iff_toInt_le, ← Int32.toInt_inj, zcs, zn] at *; omega))
  · refine g_iload_n dX4_has_4 rfl rfl ?_
    refine g_aloadR_n dX4_has_5 rfl rfl ?_
    refine n_getI dX4_has_6 fX4_35 rfl hW (vld_sc hk) (Or.inl rfl) ?_
    refine g_icmp_ge (tgt := 16) dX4_has_9 (by decide) (fun c9 => ?_) (fun c9 => ?_)
    · refine g_iconst dX4_has_16 (v := 0) (by decide) ?_
      refine g_zret dX4_has_17 rfl (Or.inl rfl) ?_
      try rw [hn] at *
      exact qI h (b2_f (by have := nI_toInt (n := n) (by omega); simp only [IN, Int32.lt_iff_toInt_lt, Int32.le_iff_toInt_le, ← Int32.toInt_inj, zcs, zn] at *; omega))
    · refine g_iconst dX4_has_12 (v := 1) (by decide) ?_
      refine g_goto (tgt := 17) dX4_has_13 (by decide) ?_
      refine g_zret dX4_has_17 rfl (Or.inr rfl) ?_
      try rw [hn] at *
      exact qI h (b2_t (by have := nI_toInt (n := n) (by omega); simp only [IN, Int32.lt_iff_toInt_lt, Int32.le_iff_toInt_le, ← Int32.toInt_inj, zcs, zn] at *; omega))
set_option maxHeartbeats 4000000 in
set_option maxRecDepth 100000 in
theorem wp_X4_one {E : Ev} {M : Mem} {Q : QT} (hW : Wi M) {k : Nat} (hk : k < 4) {i : Int32} (h : Q (some (vR (2, k, pix i))) M) : Mth E 0 0 0 kX4_one [vR (1, k, 0), vI i] M Q := by
  refine mth_of (by decide +kernel) [some (vR (1, k, 0)), some (vI i)] (Nat.le_of_ble_eq_true rfl) rfl ?_
  refine g_iload_n dX4_one_0 rfl rfl ?_
  refine g_if_lt (tgt := 22) dX4_one_1 (by decide) (fun c1 => ?_) (fun c1 => ?_)
  · refine g_aloadR_n dX4_one_22 rfl rfl ?_
    refine n_getR dX4_one_23 fX4_18 rfl hW (vld_sc hk) rfl rfl ?_
    refine g_aret dX4_one_26 rfl ?_
    have e : pix i = 10 := if_neg (by simp only [IN, Int32.lt_iff_toInt_lt, Int32.le_iff_toInt_le, ← Int32.toInt_inj, zcs, zn] at *; omega)
    rw [e] at h; exact h
  · refine g_iload_n dX4_one_4 rfl rfl ?_
    refine g_aloadR_n dX4_one_5 rfl rfl ?_
    refine n_getR dX4_one_6 fX4_11 rfl hW (vld_sc hk) rfl rfl ?_
    refine n_alen dX4_one_9 rfl (by decide) hW (vld_pp hk) ?_
    refine g_icmp_ge (tgt := 22) dX4_one_10 (by decide) (fun c10 => ?_) (fun c10 => ?_)
    · refine g_aloadR_n dX4_one_22 rfl rfl ?_
      refine n_getR dX4_one_23 fX4_18 rfl hW (vld_sc hk) rfl rfl ?_
      refine g_aret dX4_one_26 rfl ?_
      have e : pix i = 10 := if_neg (by simp only [IN, Int32.lt_iff_toInt_lt, Int32.le_iff_toInt_le, ← Int32.toInt_inj, zcs, zn] at *; omega)
      rw [e] at h; exact h
    · refine g_aloadR_n dX4_one_13 rfl rfl ?_
      refine n_getR dX4_one_14 fX4_11 rfl hW (vld_sc hk) rfl rfl ?_
      refine g_iload_n dX4_one_17 rfl rfl ?_
      refine n_aald3 (j := i.toNatClampNeg) dX4_one_18 rfl hW (vld_pp hk) (by decide) (clamp_eq c1) (clamp_lt c1 c10 (by decide)) (by first | rfl | (simp only [wire]; rw [if_pos (clamp_lt c1 c10 (by decide))])) ?_
      refine g_goto (tgt := 26) dX4_one_19 (by decide) ?_
      refine g_aret dX4_one_26 rfl ?_
      have e : pix i = i.toNatClampNeg := if_pos (by simp only [IN, Int32.lt_iff_toInt_lt, Int32.le_iff_toInt_le, ← Int32.toInt_inj, zcs, zn] at *; omega)
      rw [e] at h; exact h
