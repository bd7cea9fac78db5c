/-! THE CLASS'S OWN METHODS: SHELVES -/
def noSf : Sf := (0, 0, 0, 0, fun _ => 0)
def sortF (v : Sf) : Int32 := if v.1 = 1 then v.2.1 else -1
def persF (v : Sf) : Int32 := if v.1 = 2 then v.2.2.1 else -1
def lenF (v : Sf) : Nat := if v.1 = 1 then v.2.2.2.1 else 0
theorem RepSf.f {M : Mem} {s : Nat} {v : Sf} (h : RepSf M s v) : mI M (5, s, 0) 0 = sortF v ∧ mI M (5, s, 0) 1 = persF v ∧ mI M (5, s, 0) 2 = nI (lenF v) := by
  unfold sortF persF lenF
  rcases h with ⟨h, a, b, c⟩ | ⟨h, a, b, c, -⟩ | ⟨h, a, b, c⟩ <;> simp only [h] <;> simp [a, b, c, nI_0]
theorem RepSf.j {M : Mem} {s : Nat} {v : Sf} (h : RepSf M s v) (h1 : v.1 = 1) {j : Nat} (hj : j < 160) : mJ M (6, s, 0) j = v.2.2.2.2 j := by
  rcases h with ⟨h, -⟩ | ⟨-, -, -, -, h⟩ | ⟨h, -⟩
  · omega
  · exact h j hj
  · omega
theorem OkSf.len {n : Nat} {v : Sf} (h : OkSf n v) : lenF v ≤ 160 := by
  unfold lenF; split
  · exact (h.2.1 (by assumption)).2
  · omega
theorem OkSf.row {n : Nat} {v : Sf} (h : OkSf n v) : ¬ sortF v = -1 ↔ v.1 = 1 := by
  unfold sortF
  by_cases q : v.1 = 1
  · rw [if_pos q]
    refine ⟨fun _ => q, fun _ e => ?_⟩
    have := (h.2.1 q).1.1
    rw [e] at this; exact absurd this (by decide)
  · rw [if_neg q]; simp [q]
theorem OkSf.per {n : Nat} {v : Sf} (h : OkSf n v) : ¬ persF v = -1 ↔ v.1 = 2 := by
  unfold persF
  by_cases q : v.1 = 2
  · rw [if_pos q]
    refine ⟨fun _ => q, fun _ e => ?_⟩
    have := (h.2.2 q).1
    rw [e] at this; exact absurd this (by decide)
  · rw [if_neg q]; simp [q]
def shV (X : Sys) (s : Int32) : Sf := if IN s 8 then xH X s.toNatClampNeg else noSf
theorem RepCl.sh {M : Mem} {X : Sys} (h : RepCl M X) (s : Int32) : RepSf M (shx s) (shV X s) := by
  unfold shV shx
  by_cases q : IN s 8
  · rw [if_pos q, if_pos q]; exact h.2.2.1 _ (IN_nI q).2
  · rw [if_neg q, if_neg q]; exact h.2.2.2.1
theorem OkX.sh {X : Sys} (h : OkX X) (s : Int32) : OkSf (xS X).1 (shV X s) := by
  unfold shV
  by_cases q : IN s 8
  · rw [if_pos q]; exact h.2.2.1 _ (IN_nI q).2
  · rw [if_neg q]; exact ⟨Or.inl rfl, fun q => (by cases q), fun q => (by cases q)⟩
theorem wp_isRow {E : Ev} {M : Mem} {Q : QT} (hW : Wi M) {s n : Nat} (hs : s < 9) {v : Sf} (hr : RepSf M s v) (ho : OkSf n v) (h : Q (some (vI (b2 (v.1 = 1)))) M) : Mth E 0 0 0 kX5_isRow [vR (5, s, 0)] M Q := wp_X5_isRow hW hs (by
  rw [hr.f.1]; have e : b2 (¬ sortF v = -1) = b2 (v.1 = 1) := by simp only [b2, ho.row]
  rw [e]; exact h)
theorem wp_isPerson {E : Ev} {M : Mem} {Q : QT} (hW : Wi M) {s n : Nat} (hs : s < 9) {v : Sf} (hr : RepSf M s v) (ho : OkSf n v) (h : Q (some (vI (b2 (v.1 = 2)))) M) : Mth E 0 0 0 kX5_isPerson [vR (5, s, 0)] M Q := wp_X5_isPerson hW hs (by
  rw [hr.f.2.1]; have e : b2 (¬ persF v = -1) = b2 (v.1 = 2) := by simp only [b2, ho.per]
  rw [e]; exact h)
theorem nn_nI (j : Nat) : - -(nI j) = nI j := Int32.neg_neg
def wnr (X : Sys) (s : Int32) : Nat := if ¬ IN s 8 then 1 else if (shV X s).1 = 2 then 2 else if (shV X s).1 = 1 then 0 else 3
theorem wnr_lt (X : Sys) (s : Int32) : wnr X s < 8 := by unfold wnr; split; decide; split; decide; split <;> decide
theorem ng_0 {j : Nat} (hj : j < 8) : -(nI j) = 0 ↔ j = 0 := by
  have : ∀ j, j < 8 → (-(nI j) = 0 ↔ j = 0) := by decide +kernel
  exact this j hj
set_option maxHeartbeats 4000000 in
set_option maxRecDepth 100000 in
theorem wp_X6_whyNoRow {E : Ev} {M : Mem} {Q : QT} (hW : Wi M) {X : Sys} (hX : RepCl M X) (hO : OkX X) {s : Int32} (h : Q (some (vI (-(nI (wnr X s))))) M) : Mth E 1 0 0 kX6_whyNoRow [vR (0, 0, 0), vI s] M Q := by
  have hr := hX.sh s
  have ho := hO.sh s
  have ll := ho.len
  refine mth_of (by decide +kernel) [some (vR (0, 0, 0)), some (vI s), none] (Nat.le_of_ble_eq_true rfl) rfl ?_
  refine g_aloadR_n dX6_whyNoRow_0 rfl rfl ?_
  refine g_iload_n dX6_whyNoRow_1 rfl rfl ?_
  refine n_v1i (n' := 0) dX6_whyNoRow_2 mX6_isShelf lX6_62 rfl hW vld_x0 rfl rfl ⟨Nat.le_of_ble_eq_true rfl, Nat.le_of_ble_eq_true rfl⟩ ⟨Nat.zero_le _, Nat.zero_le _⟩ (Nat.le_of_ble_eq_true rfl) ?_
  refine wp_X6_isShelf (by exact hW) ?_
  refine ⟨_, rfl, ?_⟩
  refine g_if_ne (tgt := 10) dX6_whyNoRow_5 (by decide) (fun c5 => ?_) (fun c5 => ?_)
  · simp only [b2_0, Decidable.not_not] at c5
    refine g_aloadR_n dX6_whyNoRow_10 rfl rfl ?_
    refine g_iload_n dX6_whyNoRow_11 rfl rfl ?_
    refine n_v1r (n' := 0) dX6_whyNoRow_12 mX6_shelfAt lX6_70 rfl hW vld_x0 rfl rfl ⟨Nat.le_of_ble_eq_true rfl, Nat.le_of_ble_eq_true rfl⟩ ⟨Nat.zero_le _, Nat.zero_le _⟩ (Nat.le_of_ble_eq_true rfl) ?_
    refine wp_X6_shelfAt (by exact hW) ?_
    refine ⟨_, rfl, ?_⟩
    refine g_astore_2 dX6_whyNoRow_15 rfl ?_
    refine g_aloadR_n dX6_whyNoRow_16 rfl rfl ?_
    refine n_v0i (n' := 0) dX6_whyNoRow_17 mX5_isPerson lX6_92 rfl hW (vld_sh (shx_lt _)) rfl rfl ⟨Nat.le_of_ble_eq_true rfl, Nat.le_of_ble_eq_true rfl⟩ ⟨Nat.zero_le _, Nat.zero_le _⟩ (Nat.le_of_ble_eq_true rfl) ?_
    refine wp_isPerson (by exact hW) (shx_lt _) hr ho ?_
    refine ⟨_, rfl, ?_⟩
    refine g_if_eq (tgt := 28) dX6_whyNoRow_20 (by decide) (fun c20 => ?_) (fun c20 => ?_)
    · simp only [b2_0, Decidable.not_not] at c20
      refine g_aloadR_n dX6_whyNoRow_28 rfl rfl ?_
      refine n_v0i (n' := 0) dX6_whyNoRow_29 mX5_isRow lX6_88 rfl hW (vld_sh (shx_lt _)) rfl rfl ⟨Nat.le_of_ble_eq_true rfl, Nat.le_of_ble_eq_true rfl⟩ ⟨Nat.zero_le _, Nat.zero_le _⟩ (Nat.le_of_ble_eq_true rfl) ?_
      refine wp_isRow (by exact hW) (shx_lt _) hr ho ?_
      refine ⟨_, rfl, ?_⟩
      refine g_if_eq (tgt := 39) dX6_whyNoRow_32 (by decide) (fun c32 => ?_) (fun c32 => ?_)
      · simp only [b2_0, Decidable.not_not] at c32
        refine g_bipush dX6_whyNoRow_39 (v := (-3)) (by decide) ?_
        refine g_iret dX6_whyNoRow_41 rfl ?_
        have e : wnr X s = 3 := by
          unfold wnr
          try first | rw [if_pos c5] | rw [if_neg c5] | rw [if_neg (not_not_intro c5)]
          try first | rw [if_pos c20] | rw [if_neg c20] | rw [if_neg (not_not_intro c20)]
          try first | rw [if_pos c32] | rw [if_neg c32] | rw [if_neg (not_not_intro c32)]
          try rfl
        rw [e] at h; exact h
      · simp only [b2_0, Decidable.not_not] at c32
        refine g_iconst dX6_whyNoRow_35 (v := 0) (by decide) ?_
        refine g_goto (tgt := 41) dX6_whyNoRow_36 (by decide) ?_
        refine g_iret dX6_whyNoRow_41 rfl ?_
        have e : wnr X s = 0 := by
          unfold wnr
          try first | rw [if_pos c5] | rw [if_neg c5] | rw [if_neg (not_not_intro c5)]
          try first | rw [if_pos c20] | rw [if_neg c20] | rw [if_neg (not_not_intro c20)]
          try first | rw [if_pos c32] | rw [if_neg c32] | rw [if_neg (not_not_intro c32)]
          try rfl
        rw [e] at h; exact h
    · simp only [b2_0, Decidable.not_not] at c20
      refine g_bipush dX6_whyNoRow_23 (v := (-2)) (by decide) ?_
      refine g_goto (tgt := 41) dX6_whyNoRow_25 (by decide) ?_
      refine g_iret dX6_whyNoRow_41 rfl ?_
      have e : wnr X s = 2 := by
        unfold wnr
        try first | rw [if_pos c5] | rw [if_neg c5] | rw [if_neg (not_not_intro c5)]
        try first | rw [if_pos c20] | rw [if_neg c20] | rw [if_neg (not_not_intro c20)]
        try rfl
      rw [e] at h; exact h
  · simp only [b2_0, Decidable.not_not] at c5
    refine g_iconst dX6_whyNoRow_8 (v := (-1)) (by decide) ?_
    refine g_iret dX6_whyNoRow_9 rfl ?_
    have e : wnr X s = 1 := by
      unfold wnr
      try first | rw [if_pos c5] | rw [if_neg c5] | rw [if_neg (not_not_intro c5)]
      try rfl
    rw [e] at h; exact h
def opRow (X : Sys) (s so n : Int32) : Int32 × Sys := if ¬ IN s 8 then rfX X 1 else if ¬ 0 ≤ n then rfX X 4 else if so < 0 then rfX X 6 else if ¬ so ≤ 3 then rfX X 6 else if ¬ n ≤ 160 then rfX X 7 else (1, setH X s.toNatClampNeg (1, so, 0, n.toNatClampNeg, fun _ => 0))
set_option maxHeartbeats 4000000 in
set_option maxRecDepth 100000 in
theorem wp_X6_row {E : Ev} {M : Mem} {Q : QT} (hW : Wi M) {X : Sys} (hX : RepCl M X) (hO : OkX X) {s so n : Int32} (h : ∀ M', FrC M M' → RepCl M' (opRow X s so n).2 → Q (some (vI (opRow X s so n).1)) M') : Mth E 2 0 0 kX6_row [vR (0, 0, 0), vI s, vI so, vI n] M Q := by
  refine mth_of (by decide +kernel) [some (vR (0, 0, 0)), some (vI s), some (vI so), some (vI n)] (Nat.le_of_ble_eq_true rfl) rfl ?_
  refine g_aloadR_n dX6_row_0 rfl rfl ?_
  refine g_iload_n dX6_row_1 rfl rfl ?_
  refine n_v1i (n' := 0) dX6_row_2 mX6_isShelf lX6_62 rfl hW vld_x0 rfl rfl ⟨Nat.le_of_ble_eq_true rfl, Nat.le_of_ble_eq_true rfl⟩ ⟨Nat.zero_le _, Nat.zero_le _⟩ (Nat.le_of_ble_eq_true rfl) ?_
  refine wp_X6_isShelf (by exact hW) ?_
  refine ⟨_, rfl, ?_⟩
  refine g_if_ne (tgt := 14) dX6_row_5 (by decide) (fun c5 => ?_) (fun c5 => ?_)
  · simp only [b2_0, Decidable.not_not] at c5
    refine g_iload_n dX6_row_14 rfl rfl ?_
    refine g_if_ge (tgt := 25) dX6_row_15 (by decide) (fun c15 => ?_) (fun c15 => ?_)
    · refine g_iload_n dX6_row_25 rfl rfl ?_
      refine g_if_lt (tgt := 34) dX6_row_26 (by decide) (fun c26 => ?_) (fun c26 => ?_)
      · refine g_aloadR_n dX6_row_34 rfl rfl ?_
        refine g_bipush dX6_row_35 (v := (-6)) (by decide) ?_
        refine n_v1i (n' := 0) dX6_row_37 mX6_refuse lX6_66 rfl hW vld_x0 rfl rfl ⟨Nat.le_of_ble_eq_true rfl, Nat.le_of_ble_eq_true rfl⟩ ⟨Nat.zero_le _, Nat.zero_le _⟩ (Nat.le_of_ble_eq_true rfl) ?_
        refine wp_X6_refuse (j := 6) (by exact hW) (by decide) (by decide) ?_
        refine ⟨_, rfl, ?_⟩
        refine g_iret dX6_row_40 rfl ?_
        have e : opRow X s so n = rfX X 6 := by
          unfold opRow
          try first | rw [if_pos c5] | rw [if_neg c5] | rw [if_neg (not_not_intro c5)]
          try first | rw [if_pos c15] | rw [if_neg c15] | rw [if_neg (not_not_intro c15)]
          try first | rw [if_pos c26] | rw [if_neg c26] | rw [if_neg (not_not_intro c26)]
          try rfl
        rw [e] at h; exact h _ (frC_sI (by decide)) (repCl_rfz hX (by decide) (by decide))
      · refine g_iload_n dX6_row_29 rfl rfl ?_
        refine g_iconst dX6_row_30 (v := 3) (by decide) ?_
        refine g_icmp_le (tgt := 41) dX6_row_31 (by decide) (fun c31 => ?_) (fun c31 => ?_)
        · refine g_iload_n dX6_row_41 rfl rfl ?_
          refine g_sipush dX6_row_42 (v := 160) (by decide) ?_
          refine g_icmp_le (tgt := 55) dX6_row_45 (by decide) (fun c45 => ?_) (fun c45 => ?_)
          · refine g_aloadR_n dX6_row_55 rfl rfl ?_
            refine g_iload_n dX6_row_56 rfl rfl ?_
            refine n_v1r (n' := 0) dX6_row_57 mX6_shelfAt lX6_70 rfl hW vld_x0 rfl rfl ⟨Nat.le_of_ble_eq_true rfl, Nat.le_of_ble_eq_true rfl⟩ ⟨Nat.zero_le _, Nat.zero_le _⟩ (Nat.le_of_ble_eq_true rfl) ?_
            refine wp_X6_shelfAt (by exact hW) ?_
            refine ⟨_, rfl, ?_⟩
            refine g_iload_n dX6_row_60 rfl rfl ?_
            refine g_iload_n dX6_row_61 rfl rfl ?_
            refine n_v2v (n' := 1) dX6_row_62 mX5_holdRow lX6_74 rfl hW (vld_sh (shx_lt _)) rfl rfl ⟨Nat.le_of_ble_eq_true rfl, Nat.le_of_ble_eq_true rfl⟩ ⟨Nat.zero_le _, Nat.zero_le _⟩ (Nat.le_of_ble_eq_true rfl) ?_
            refine wp_X5_holdRow (by exact hW) (shx_lt _) ?_
            refine ⟨rfl, ?_⟩
            refine g_iconst dX6_row_65 (v := 1) (by decide) ?_
            refine g_iret dX6_row_66 rfl ?_
            have e : opRow X s so n = (1, setH X s.toNatClampNeg (1, so, 0, n.toNatClampNeg, fun _ => 0)) := by
              unfold opRow
              try first | rw [if_pos c5] | rw [if_neg c5] | rw [if_neg (not_not_intro c5)]
              try first | rw [if_pos c15] | rw [if_neg c15] | rw [if_neg (not_not_intro c15)]
              try first | rw [if_pos c26] | rw [if_neg c26] | rw [if_neg (not_not_intro c26)]
              try first | rw [if_pos c31] | rw [if_neg c31] | rw [if_neg (not_not_intro c31)]
              try first | rw [if_pos c45] | rw [if_neg c45] | rw [if_neg (not_not_intro c45)]
              try rfl
            rw [e] at h
            obtain ⟨hs1, hs2⟩ := IN_nI c5
            have hsx : shx s = s.toNatClampNeg := if_pos c5
            rw [hsx]
            have hnn : n = nI n.toNatClampNeg := clamp_eq (Int32.not_lt.mpr c15)
            refine h _ (((FrC.tr (frC_sI (show 5 < 20 by decide)) (frC_sI (show 5 < 20 by decide))).tr (frC_sI (show 5 < 20 by decide))).tr (frC_flJ (show 6 < 20 by decide))) (hX.shelf hs2 (fun b h5 h6 => ⟨?_, ?_⟩) ?_)
            · funext j; simp [hrM, flJ, mI, sI, h5]
            · funext j; simp [hrM, flJ, mJ, sI, h6]
            · refine Or.inr (Or.inl ⟨rfl, ?_, ?_, ?_, fun j hj => ?_⟩)
              · simp [hrM, flJ, mI, sI]
              · simp [hrM, flJ, mI, sI]
              · simp only [← hnn]; simp [hrM, flJ, mI, sI]
              · simp [hrM, flJ, mJ, sI, hj]
          · refine g_aloadR_n dX6_row_48 rfl rfl ?_
            refine g_bipush dX6_row_49 (v := (-7)) (by decide) ?_
            refine n_v1i (n' := 0) dX6_row_51 mX6_refuse lX6_66 rfl hW vld_x0 rfl rfl ⟨Nat.le_of_ble_eq_true rfl, Nat.le_of_ble_eq_true rfl⟩ ⟨Nat.zero_le _, Nat.zero_le _⟩ (Nat.le_of_ble_eq_true rfl) ?_
            refine wp_X6_refuse (j := 7) (by exact hW) (by decide) (by decide) ?_
            refine ⟨_, rfl, ?_⟩
            refine g_iret dX6_row_54 rfl ?_
            have e : opRow X s so n = rfX X 7 := by
              unfold opRow
              try first | rw [if_pos c5] | rw [if_neg c5] | rw [if_neg (not_not_intro c5)]
              try first | rw [if_pos c15] | rw [if_neg c15] | rw [if_neg (not_not_intro c15)]
              try first | rw [if_pos c26] | rw [if_neg c26] | rw [if_neg (not_not_intro c26)]
              try first | rw [if_pos c31] | rw [if_neg c31] | rw [if_neg (not_not_intro c31)]
              try first | rw [if_pos c45] | rw [if_neg c45] | rw [if_neg (not_not_intro c45)]
              try rfl
            rw [e] at h; exact h _ (frC_sI (by decide)) (repCl_rfz hX (by decide) (by decide))
        · refine g_aloadR_n dX6_row_34 rfl rfl ?_
          refine g_bipush dX6_row_35 (v := (-6)) (by decide) ?_
          refine n_v1i (n' := 0) dX6_row_37 mX6_refuse lX6_66 rfl hW vld_x0 rfl rfl ⟨Nat.le_of_ble_eq_true rfl, Nat.le_of_ble_eq_true rfl⟩ ⟨Nat.zero_le _, Nat.zero_le _⟩ (Nat.le_of_ble_eq_true rfl) ?_
          refine wp_X6_refuse (j := 6) (by exact hW) (by decide) (by decide) ?_
          refine ⟨_, rfl, ?_⟩
          refine g_iret dX6_row_40 rfl ?_
          have e : opRow X s so n = rfX X 6 := by
            unfold opRow
            try first | rw [if_pos c5] | rw [if_neg c5] | rw [if_neg (not_not_intro c5)]
            try first | rw [if_pos c15] | rw [if_neg c15] | rw [if_neg (not_not_intro c15)]
            try first | rw [if_pos c26] | rw [if_neg c26] | rw [if_neg (not_not_intro c26)]
            try first | rw [if_pos c31] | rw [if_neg c31] | rw [if_neg (not_not_intro c31)]
            try rfl
          rw [e] at h; exact h _ (frC_sI (by decide)) (repCl_rfz hX (by decide) (by decide))
    · refine g_aloadR_n dX6_row_18 rfl rfl ?_
      refine g_bipush dX6_row_19 (v := (-4)) (by decide) ?_
      refine n_v1i (n' := 0) dX6_row_21 mX6_refuse lX6_66 rfl hW vld_x0 rfl rfl ⟨Nat.le_of_ble_eq_true rfl, Nat.le_of_ble_eq_true rfl⟩ ⟨Nat.zero_le _, Nat.zero_le _⟩ (Nat.le_of_ble_eq_true rfl) ?_
      refine wp_X6_refuse (j := 4) (by exact hW) (by decide) (by decide) ?_
      refine ⟨_, rfl, ?_⟩
      refine g_iret dX6_row_24 rfl ?_
      have e : opRow X s so n = rfX X 4 := by
        unfold opRow
        try first | rw [if_pos c5] | rw [if_neg c5] | rw [if_neg (not_not_intro c5)]
        try first | rw [if_pos c15] | rw [if_neg c15] | rw [if_neg (not_not_intro c15)]
        try rfl
      rw [e] at h; exact h _ (frC_sI (by decide)) (repCl_rfz hX (by decide) (by decide))
  · simp only [b2_0, Decidable.not_not] at c5
    refine g_aloadR_n dX6_row_8 rfl rfl ?_
    refine g_iconst dX6_row_9 (v := (-1)) (by decide) ?_
    refine n_v1i (n' := 0) dX6_row_10 mX6_refuse lX6_66 rfl hW vld_x0 rfl rfl ⟨Nat.le_of_ble_eq_true rfl, Nat.le_of_ble_eq_true rfl⟩ ⟨Nat.zero_le _, Nat.zero_le _⟩ (Nat.le_of_ble_eq_true rfl) ?_
    refine wp_X6_refuse (j := 1) (by exact hW) (by decide) (by decide) ?_
    refine ⟨_, rfl, ?_⟩
    refine g_iret dX6_row_13 rfl ?_
    have e : opRow X s so n = rfX X 1 := by
      unfold opRow
      try first | rw [if_pos c5] | rw [if_neg c5] | rw [if_neg (not_not_intro c5)]
      try rfl
    rw [e] at h; exact h _ (frC_sI (by decide)) (repCl_rfz hX (by decide) (by decide))
def updJ (f : Nat → Int64) (j : Nat) (v : Int64) : Nat → Int64 := fun i => if i = j then v else f i
def opSet (X : Sys) (s i : Int32) (v : Int64) : Int32 × Sys := if ¬ wnr X s = 0 then rfX X (wnr X s) else if ¬ IN i (shV X s).2.2.2.1 then rfX X 5 else (1, setH X s.toNatClampNeg (1, (shV X s).2.1, 0, (shV X s).2.2.2.1, updJ (shV X s).2.2.2.2 i.toNatClampNeg (putV (shV X s).2.1 v)))
theorem wnr_0 {X : Sys} {s : Int32} (h : wnr X s = 0) : IN s 8 ∧ (shV X s).1 = 1 := by
  unfold wnr at h
  by_cases q : IN s 8
  · rw [if_neg (fun z => z q)] at h
    by_cases q2 : (shV X s).1 = 2
    · rw [if_pos q2] at h; cases h
    · rw [if_neg q2] at h
      by_cases q3 : (shV X s).1 = 1
      · exact ⟨q, q3⟩
      · rw [if_neg q3] at h; cases h
  · rw [if_pos q] at h; cases h
set_option maxHeartbeats 4000000 in
set_option maxRecDepth 100000 in
theorem wp_X6_set {E : Ev} {M : Mem} {Q : QT} (hW : Wi M) {X : Sys} (hX : RepCl M X) (hO : OkX X) {s i : Int32} {v : Int64} (h : ∀ M', FrC M M' → RepCl M' (opSet X s i v).2 → Q (some (vI (opSet X s i v).1)) M') : Mth E 2 0 0 kX6_set [vR (0, 0, 0), vI s, vI i, vL v] M Q := by
  have hr := hX.sh s
  have ho := hO.sh s
  have ll := ho.len
  obtain ⟨f0, f1, f2⟩ := hr.f
  refine mth_of (by decide +kernel) [some (vR (0, 0, 0)), some (vI s), some (vI i), some (vL v), none, none] (Nat.le_of_ble_eq_true rfl) rfl ?_
  refine g_aloadR_n dX6_set_0 rfl rfl ?_
  refine g_iload_n dX6_set_1 rfl rfl ?_
  refine n_v1i (n' := 1) dX6_set_2 mX6_whyNoRow lX6_78 rfl hW vld_x0 rfl rfl ⟨Nat.le_of_ble_eq_true rfl, Nat.le_of_ble_eq_true rfl⟩ ⟨Nat.zero_le _, Nat.zero_le _⟩ (Nat.le_of_ble_eq_true rfl) ?_
  refine wp_X6_whyNoRow (by exact hW) hX hO ?_
  refine ⟨_, rfl, ?_⟩
  refine g_istore_5 dX6_set_5 rfl ?_
  refine g_iload dX6_set_7 rfl ?_
  refine g_if_eq (tgt := 19) dX6_set_9 (by decide) (fun c9 => ?_) (fun c9 => ?_)
  · rw [ng_0 (wnr_lt X s)] at c9
    have hw1 := wnr_0 c9
    have hle : lenF (shV X s) = (shV X s).2.2.2.1 := if_pos hw1.2
    rw [hle] at f2 ll
    obtain ⟨hs1, hs2⟩ := IN_nI hw1.1
    have hsx : shx s = s.toNatClampNeg := if_pos hw1.1
    refine g_aloadR_n dX6_set_19 rfl rfl ?_
    refine g_iload_n dX6_set_20 rfl rfl ?_
    refine n_v1r (n' := 0) dX6_set_21 mX6_shelfAt lX6_70 rfl hW vld_x0 rfl rfl ⟨Nat.le_of_ble_eq_true rfl, Nat.le_of_ble_eq_true rfl⟩ ⟨Nat.zero_le _, Nat.zero_le _⟩ (Nat.le_of_ble_eq_true rfl) ?_
    refine wp_X6_shelfAt (by exact hW) ?_
    refine ⟨_, rfl, ?_⟩
    refine g_iload_n dX6_set_24 rfl rfl ?_
    refine n_v1i (n' := 0) dX6_set_25 mX5_hasElement lX6_81 rfl hW (vld_sh (shx_lt _)) rfl rfl ⟨Nat.le_of_ble_eq_true rfl, Nat.le_of_ble_eq_true rfl⟩ ⟨Nat.zero_le _, Nat.zero_le _⟩ (Nat.le_of_ble_eq_true rfl) ?_
    refine wp_X5_hasElement (by exact hW) (shx_lt _) f2 ll ?_
    refine ⟨_, rfl, ?_⟩
    refine g_if_ne (tgt := 38) dX6_set_28 (by decide) (fun c28 => ?_) (fun c28 => ?_)
    · simp only [b2_0, Decidable.not_not] at c28
      refine g_aloadR_n dX6_set_38 rfl rfl ?_
      refine g_iload_n dX6_set_39 rfl rfl ?_
      refine n_v1r (n' := 0) dX6_set_40 mX6_shelfAt lX6_70 rfl hW vld_x0 rfl rfl ⟨Nat.le_of_ble_eq_true rfl, Nat.le_of_ble_eq_true rfl⟩ ⟨Nat.zero_le _, Nat.zero_le _⟩ (Nat.le_of_ble_eq_true rfl) ?_
      refine wp_X6_shelfAt (by exact hW) ?_
      refine ⟨_, rfl, ?_⟩
      refine g_iload_n dX6_set_43 rfl rfl ?_
      refine g_lload_n dX6_set_44 rfl rfl ?_
      refine n_v2v (n' := 0) dX6_set_45 mX5_put lX6_84 rfl hW (vld_sh (shx_lt _)) rfl rfl ⟨Nat.le_of_ble_eq_true rfl, Nat.le_of_ble_eq_true rfl⟩ ⟨Nat.zero_le _, Nat.zero_le _⟩ (Nat.le_of_ble_eq_true rfl) ?_
      obtain ⟨hi1, hi2⟩ := IN_nI c28
      rw [hi1]
      refine wp_X5_put (by exact hW) (shx_lt _) f2 ll hi2 ?_
      rw [← hi1]
      refine ⟨rfl, ?_⟩
      refine g_iconst dX6_set_48 (v := 1) (by decide) ?_
      refine g_iret dX6_set_49 rfl ?_
      have e : opSet X s i v = (1, setH X s.toNatClampNeg (1, (shV X s).2.1, 0, (shV X s).2.2.2.1, updJ (shV X s).2.2.2.2 i.toNatClampNeg (putV (shV X s).2.1 v))) := by
        unfold opSet
        try first | rw [if_pos c9] | rw [if_neg c9] | rw [if_neg (not_not_intro c9)]
        try first | rw [if_pos c28] | rw [if_neg c28] | rw [if_neg (not_not_intro c28)]
        try rfl
      rw [e] at h
      rw [f0, show sortF (shV X s) = (shV X s).2.1 from if_pos hw1.2, hsx]
      refine h _ (frC_sJ (show 6 < 20 by decide)) (hX.shelf hs2 (fun b h5 h6 => ⟨rfl, (sJ_hk b h6).2.1⟩) ?_)
      have hr2 := hr
      rw [hsx] at hr2
      refine Or.inr (Or.inl ⟨rfl, (hr2.f.1).trans (if_pos hw1.2), (hr2.f.2.1).trans (if_neg (by rw [hw1.2]; decide)), (hr2.f.2.2).trans (congrArg nI hle), fun j hj => ?_⟩)
      show (if _ ∧ _ then _ else _) = (if _ then _ else _)
      by_cases q : j = i.toNatClampNeg
      · rw [if_pos ⟨rfl, q⟩, if_pos q]
      · rw [if_neg (fun z => q z.2), if_neg q]; exact hr2.j hw1.2 hj
    · simp only [b2_0, Decidable.not_not] at c28
      refine g_aloadR_n dX6_set_31 rfl rfl ?_
      refine g_bipush dX6_set_32 (v := (-5)) (by decide) ?_
      refine n_v1i (n' := 0) dX6_set_34 mX6_refuse lX6_66 rfl hW vld_x0 rfl rfl ⟨Nat.le_of_ble_eq_true rfl, Nat.le_of_ble_eq_true rfl⟩ ⟨Nat.zero_le _, Nat.zero_le _⟩ (Nat.le_of_ble_eq_true rfl) ?_
      refine wp_X6_refuse (j := 5) (by exact hW) (by decide) (by decide) ?_
      refine ⟨_, rfl, ?_⟩
      refine g_iret dX6_set_37 rfl ?_
      have e : opSet X s i v = rfX X 5 := by
        unfold opSet
        try first | rw [if_pos c9] | rw [if_neg c9] | rw [if_neg (not_not_intro c9)]
        try first | rw [if_pos c28] | rw [if_neg c28] | rw [if_neg (not_not_intro c28)]
        try rfl
      rw [e] at h; exact h _ (frC_sI (by decide)) (repCl_rfz hX (by decide) (by decide))
  · rw [ng_0 (wnr_lt X s)] at c9
    refine g_aloadR_n dX6_set_12 rfl rfl ?_
    refine g_iload dX6_set_13 rfl ?_
    refine n_v1i (n' := 0) dX6_set_15 mX6_refuse lX6_66 rfl hW vld_x0 rfl rfl ⟨Nat.le_of_ble_eq_true rfl, Nat.le_of_ble_eq_true rfl⟩ ⟨Nat.zero_le _, Nat.zero_le _⟩ (Nat.le_of_ble_eq_true rfl) ?_
    refine wp_X6_refuse (j := wnr X s) (by exact hW) (wnr_lt X s) (nn_nI _) ?_
    refine ⟨_, rfl, ?_⟩
    refine g_iret dX6_set_18 rfl ?_
    have e : opSet X s i v = rfX X (wnr X s) := by
      unfold opSet
      try first | rw [if_pos c9] | rw [if_neg c9] | rw [if_neg (not_not_intro c9)]
      try rfl
    rw [e] at h; exact h _ (frC_sI (by decide)) (repCl_rfz hX (by have := c9; omega) (wnr_lt X s))
