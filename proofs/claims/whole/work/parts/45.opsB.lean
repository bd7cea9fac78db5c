/-! THE CLASS'S OWN METHODS: STATUS -/
def opStatus (X : Sys) (w : Int32) : Int32 := if w = 0 then nI (xS X).1 else if w = 1 then (xS X).2.1 1 else if w = 2 then (xS X).2.1 2 else if w = 3 then (xS X).2.1 3 else if w = 4 then (xS X).2.1 4 else if w = 5 then (xS X).2.1 5 else if w = 6 then nI (xS X).1 - nI (cnt (presS (xS X)) 11) else if w = 7 then sumS (xS X) 7 (xS X).1 else if w = 8 then (xS X).2.1 6 else if w = 9 then nI (xL X).length else if 10 < w ∧ w < 18 then xR X (w - 10).toNatClampNeg else -1
theorem st_ix {w : Int32} (h1 : 10 < w) (h2 : w < 18) : w - 10 = nI (w - 10).toNatClampNeg ∧ 1 ≤ (w - 10).toNatClampNeg ∧ (w - 10).toNatClampNeg < 8 := by
  simp only [Int32.lt_iff_toInt_lt, zcs] at h1
  have h2' : w.toInt < 18 := by simp only [Int32.lt_iff_toInt_lt, zcs] at h2; exact h2
  obtain ⟨z, hz, rfl⟩ : ∃ z : Nat, z < 2 ^ 31 ∧ w = nI z := nI_of (fun q => by simp only [Int32.lt_iff_toInt_lt, zcs] at q; omega)
  rw [nI_toInt hz] at h1 h2'
  rw [show (10 : Int32) = nI 10 from rfl, pk_sub (by omega), nI_clamp (by omega)]
  exact ⟨rfl, by omega, by omega⟩
set_option maxHeartbeats 4000000 in
set_option maxRecDepth 100000 in
theorem wp_X6_status {E : Ev} {M : Mem} {Q : QT} (hW : Wi M) {X : Sys} (hX : RepCl M X) (hO : OkX X) {w : Int32} (h : Q (some (vI (opStatus X w))) M) : Mth E 2 0 0 kX6_status [vR (0, 0, 0), vI w] M Q := by
  have hR0 := hX.1
  have hsz := hX.1.1
  have hs10 : (xS X).1 ≤ 10 := hO.1.1
  obtain ⟨t1, t2⟩ := hX.2.2.2.2.2.2
  refine mth_of (by decide +kernel) [some (vR (0, 0, 0)), some (vI w)] (Nat.le_of_ble_eq_true rfl) rfl ?_
  refine g_iload_n dX6_status_0 rfl rfl ?_
  refine g_top (fun y1 e1 => ?_)
  by_cases s1_0 : y1 = 0
  · refine g_tableIn (tgt := 56) dX6_status_1 (by rw [s1_0]; decide) (by rw [s1_0]; decide) (o := 55) (by rw [s1_0]; decide) (by decide) ?_
    refine g_aloadR_n dX6_status_56 rfl rfl ?_
    refine n_getR dX6_status_57 fX6_10 rfl hW vld_x0 rfl rfl ?_
    refine n_getI dX6_status_60 fX6_233 rfl hW (vld_sc (by decide : 0 < 4)) (Or.inl rfl) ?_
    refine g_iret dX6_status_63 rfl ?_
    try subst e1
    refine qI h ?_
    unfold opStatus
    try first | rw [if_pos s1_0] | rw [if_neg s1_0]
    try first | rw [if_pos s1_1] | rw [if_neg s1_1]
    try first | rw [if_pos s1_2] | rw [if_neg s1_2]
    try first | rw [if_pos s1_3] | rw [if_neg s1_3]
    try first | rw [if_pos s1_4] | rw [if_neg s1_4]
    try first | rw [if_pos s1_5] | rw [if_neg s1_5]
    try first | rw [if_pos s1_6] | rw [if_neg s1_6]
    try first | rw [if_pos s1_7] | rw [if_neg s1_7]
    try first | rw [if_pos s1_8] | rw [if_neg s1_8]
    try first | rw [if_pos s1_9] | rw [if_neg s1_9]
    all_goals first
      | rfl
      | exact hsz
      | exact hR0.2.1 5 (by decide) (by decide)
      | exact hR0.2.1 6 (by decide) (by decide)
      | exact t1
      | (rw [hsz]; done)
      | (rw [if_pos ⟨Int32.not_le.mp c129, c18⟩]; exact hX.2.2.2.2.1 _ (st_ix (Int32.not_le.mp c129) c18).2.1 (st_ix (Int32.not_le.mp c129) c18).2.2)
      | (rw [if_neg (fun q => c18 q.2)])
      | (rw [if_neg (fun q => absurd q.1 (Int32.not_lt.mpr c129))])
  by_cases s1_1 : y1 = 1
  · refine g_tableIn (tgt := 64) dX6_status_1 (by rw [s1_1]; decide) (by rw [s1_1]; decide) (o := 63) (by rw [s1_1]; decide) (by decide) ?_
    refine g_aloadR_n dX6_status_64 rfl rfl ?_
    refine n_getR dX6_status_65 fX6_10 rfl hW vld_x0 rfl rfl ?_
    refine g_iload_n dX6_status_68 rfl rfl ?_
    refine g_iconst dX6_status_69 (v := 1) (by decide) ?_
    refine g_isub dX6_status_70 ?_
    refine n_v1i (n' := 0) dX6_status_71 mX4_setting lX6_160 rfl hW (vld_sc (by decide : 0 < 4)) rfl rfl ⟨Nat.le_of_ble_eq_true rfl, Nat.le_of_ble_eq_true rfl⟩ ⟨Nat.zero_le _, Nat.zero_le _⟩ (Nat.le_of_ble_eq_true rfl) ?_
    first
      | (rw [show w - 1 = nI 0 from by rw [← e1, s1_1]; decide]; refine wp_X4_setting (w := 0) (by exact hW) (by decide : 0 < 4) (by decide) ?_; rw [show mI M (1, 0, 0) (0 + 3) = (xS X).2.1 1 from hR0.2.1 1 (by decide) (by decide)])
      | (rw [show w - 1 = nI 1 from by rw [← e1, s1_2]; decide]; refine wp_X4_setting (w := 1) (by exact hW) (by decide : 0 < 4) (by decide) ?_; rw [show mI M (1, 0, 0) (1 + 3) = (xS X).2.1 2 from hR0.2.1 2 (by decide) (by decide)])
      | (rw [show w - 1 = nI 2 from by rw [← e1, s1_3]; decide]; refine wp_X4_setting (w := 2) (by exact hW) (by decide : 0 < 4) (by decide) ?_; rw [show mI M (1, 0, 0) (2 + 3) = (xS X).2.1 3 from hR0.2.1 3 (by decide) (by decide)])
      | (rw [show w - 1 = nI 3 from by rw [← e1, s1_4]; decide]; refine wp_X4_setting (w := 3) (by exact hW) (by decide : 0 < 4) (by decide) ?_; rw [show mI M (1, 0, 0) (3 + 3) = (xS X).2.1 4 from hR0.2.1 4 (by decide) (by decide)])
    refine ⟨_, rfl, ?_⟩
    refine g_iret dX6_status_74 rfl ?_
    try subst e1
    refine qI h ?_
    unfold opStatus
    try first | rw [if_pos s1_0] | rw [if_neg s1_0]
    try first | rw [if_pos s1_1] | rw [if_neg s1_1]
    try first | rw [if_pos s1_2] | rw [if_neg s1_2]
    try first | rw [if_pos s1_3] | rw [if_neg s1_3]
    try first | rw [if_pos s1_4] | rw [if_neg s1_4]
    try first | rw [if_pos s1_5] | rw [if_neg s1_5]
    try first | rw [if_pos s1_6] | rw [if_neg s1_6]
    try first | rw [if_pos s1_7] | rw [if_neg s1_7]
    try first | rw [if_pos s1_8] | rw [if_neg s1_8]
    try first | rw [if_pos s1_9] | rw [if_neg s1_9]
    all_goals first
      | rfl
      | exact hsz
      | exact hR0.2.1 5 (by decide) (by decide)
      | exact hR0.2.1 6 (by decide) (by decide)
      | exact t1
      | (rw [hsz]; done)
      | (rw [if_pos ⟨Int32.not_le.mp c129, c18⟩]; exact hX.2.2.2.2.1 _ (st_ix (Int32.not_le.mp c129) c18).2.1 (st_ix (Int32.not_le.mp c129) c18).2.2)
      | (rw [if_neg (fun q => c18 q.2)])
      | (rw [if_neg (fun q => absurd q.1 (Int32.not_lt.mpr c129))])
  by_cases s1_2 : y1 = 2
  · refine g_tableIn (tgt := 64) dX6_status_1 (by rw [s1_2]; decide) (by rw [s1_2]; decide) (o := 63) (by rw [s1_2]; decide) (by decide) ?_
    refine g_aloadR_n dX6_status_64 rfl rfl ?_
    refine n_getR dX6_status_65 fX6_10 rfl hW vld_x0 rfl rfl ?_
    refine g_iload_n dX6_status_68 rfl rfl ?_
    refine g_iconst dX6_status_69 (v := 1) (by decide) ?_
    refine g_isub dX6_status_70 ?_
    refine n_v1i (n' := 0) dX6_status_71 mX4_setting lX6_160 rfl hW (vld_sc (by decide : 0 < 4)) rfl rfl ⟨Nat.le_of_ble_eq_true rfl, Nat.le_of_ble_eq_true rfl⟩ ⟨Nat.zero_le _, Nat.zero_le _⟩ (Nat.le_of_ble_eq_true rfl) ?_
    first
      | (rw [show w - 1 = nI 0 from by rw [← e1, s1_1]; decide]; refine wp_X4_setting (w := 0) (by exact hW) (by decide : 0 < 4) (by decide) ?_; rw [show mI M (1, 0, 0) (0 + 3) = (xS X).2.1 1 from hR0.2.1 1 (by decide) (by decide)])
      | (rw [show w - 1 = nI 1 from by rw [← e1, s1_2]; decide]; refine wp_X4_setting (w := 1) (by exact hW) (by decide : 0 < 4) (by decide) ?_; rw [show mI M (1, 0, 0) (1 + 3) = (xS X).2.1 2 from hR0.2.1 2 (by decide) (by decide)])
      | (rw [show w - 1 = nI 2 from by rw [← e1, s1_3]; decide]; refine wp_X4_setting (w := 2) (by exact hW) (by decide : 0 < 4) (by decide) ?_; rw [show mI M (1, 0, 0) (2 + 3) = (xS X).2.1 3 from hR0.2.1 3 (by decide) (by decide)])
      | (rw [show w - 1 = nI 3 from by rw [← e1, s1_4]; decide]; refine wp_X4_setting (w := 3) (by exact hW) (by decide : 0 < 4) (by decide) ?_; rw [show mI M (1, 0, 0) (3 + 3) = (xS X).2.1 4 from hR0.2.1 4 (by decide) (by decide)])
    refine ⟨_, rfl, ?_⟩
    refine g_iret dX6_status_74 rfl ?_
    try subst e1
    refine qI h ?_
    unfold opStatus
    try first | rw [if_pos s1_0] | rw [if_neg s1_0]
    try first | rw [if_pos s1_1] | rw [if_neg s1_1]
    try first | rw [if_pos s1_2] | rw [if_neg s1_2]
    try first | rw [if_pos s1_3] | rw [if_neg s1_3]
    try first | rw [if_pos s1_4] | rw [if_neg s1_4]
    try first | rw [if_pos s1_5] | rw [if_neg s1_5]
    try first | rw [if_pos s1_6] | rw [if_neg s1_6]
    try first | rw [if_pos s1_7] | rw [if_neg s1_7]
    try first | rw [if_pos s1_8] | rw [if_neg s1_8]
    try first | rw [if_pos s1_9] | rw [if_neg s1_9]
    all_goals first
      | rfl
      | exact hsz
      | exact hR0.2.1 5 (by decide) (by decide)
      | exact hR0.2.1 6 (by decide) (by decide)
      | exact t1
      | (rw [hsz]; done)
      | (rw [if_pos ⟨Int32.not_le.mp c129, c18⟩]; exact hX.2.2.2.2.1 _ (st_ix (Int32.not_le.mp c129) c18).2.1 (st_ix (Int32.not_le.mp c129) c18).2.2)
      | (rw [if_neg (fun q => c18 q.2)])
      | (rw [if_neg (fun q => absurd q.1 (Int32.not_lt.mpr c129))])
  by_cases s1_3 : y1 = 3
  · refine g_tableIn (tgt := 64) dX6_status_1 (by rw [s1_3]; decide) (by rw [s1_3]; decide) (o := 63) (by rw [s1_3]; decide) (by decide) ?_
    refine g_aloadR_n dX6_status_64 rfl rfl ?_
    refine n_getR dX6_status_65 fX6_10 rfl hW vld_x0 rfl rfl ?_
    refine g_iload_n dX6_status_68 rfl rfl ?_
    refine g_iconst dX6_status_69 (v := 1) (by decide) ?_
    refine g_isub dX6_status_70 ?_
    refine n_v1i (n' := 0) dX6_status_71 mX4_setting lX6_160 rfl hW (vld_sc (by decide : 0 < 4)) rfl rfl ⟨Nat.le_of_ble_eq_true rfl, Nat.le_of_ble_eq_true rfl⟩ ⟨Nat.zero_le _, Nat.zero_le _⟩ (Nat.le_of_ble_eq_true rfl) ?_
    first
      | (rw [show w - 1 = nI 0 from by rw [← e1, s1_1]; decide]; refine wp_X4_setting (w := 0) (by exact hW) (by decide : 0 < 4) (by decide) ?_; rw [show mI M (1, 0, 0) (0 + 3) = (xS X).2.1 1 from hR0.2.1 1 (by decide) (by decide)])
      | (rw [show w - 1 = nI 1 from by rw [← e1, s1_2]; decide]; refine wp_X4_setting (w := 1) (by exact hW) (by decide : 0 < 4) (by decide) ?_; rw [show mI M (1, 0, 0) (1 + 3) = (xS X).2.1 2 from hR0.2.1 2 (by decide) (by decide)])
      | (rw [show w - 1 = nI 2 from by rw [← e1, s1_3]; decide]; refine wp_X4_setting (w := 2) (by exact hW) (by decide : 0 < 4) (by decide) ?_; rw [show mI M (1, 0, 0) (2 + 3) = (xS X).2.1 3 from hR0.2.1 3 (by decide) (by decide)])
      | (rw [show w - 1 = nI 3 from by rw [← e1, s1_4]; decide]; refine wp_X4_setting (w := 3) (by exact hW) (by decide : 0 < 4) (by decide) ?_; rw [show mI M (1, 0, 0) (3 + 3) = (xS X).2.1 4 from hR0.2.1 4 (by decide) (by decide)])
    refine ⟨_, rfl, ?_⟩
    refine g_iret dX6_status_74 rfl ?_
    try subst e1
    refine qI h ?_
    unfold opStatus
    try first | rw [if_pos s1_0] | rw [if_neg s1_0]
    try first | rw [if_pos s1_1] | rw [if_neg s1_1]
    try first | rw [if_pos s1_2] | rw [if_neg s1_2]
    try first | rw [if_pos s1_3] | rw [if_neg s1_3]
    try first | rw [if_pos s1_4] | rw [if_neg s1_4]
    try first | rw [if_pos s1_5] | rw [if_neg s1_5]
    try first | rw [if_pos s1_6] | rw [if_neg s1_6]
    try first | rw [if_pos s1_7] | rw [if_neg s1_7]
    try first | rw [if_pos s1_8] | rw [if_neg s1_8]
    try first | rw [if_pos s1_9] | rw [if_neg s1_9]
    all_goals first
      | rfl
      | exact hsz
      | exact hR0.2.1 5 (by decide) (by decide)
      | exact hR0.2.1 6 (by decide) (by decide)
      | exact t1
      | (rw [hsz]; done)
      | (rw [if_pos ⟨Int32.not_le.mp c129, c18⟩]; exact hX.2.2.2.2.1 _ (st_ix (Int32.not_le.mp c129) c18).2.1 (st_ix (Int32.not_le.mp c129) c18).2.2)
      | (rw [if_neg (fun q => c18 q.2)])
      | (rw [if_neg (fun q => absurd q.1 (Int32.not_lt.mpr c129))])
  by_cases s1_4 : y1 = 4
  · refine g_tableIn (tgt := 64) dX6_status_1 (by rw [s1_4]; decide) (by rw [s1_4]; decide) (o := 63) (by rw [s1_4]; decide) (by decide) ?_
    refine g_aloadR_n dX6_status_64 rfl rfl ?_
    refine n_getR dX6_status_65 fX6_10 rfl hW vld_x0 rfl rfl ?_
    refine g_iload_n dX6_status_68 rfl rfl ?_
    refine g_iconst dX6_status_69 (v := 1) (by decide) ?_
    refine g_isub dX6_status_70 ?_
    refine n_v1i (n' := 0) dX6_status_71 mX4_setting lX6_160 rfl hW (vld_sc (by decide : 0 < 4)) rfl rfl ⟨Nat.le_of_ble_eq_true rfl, Nat.le_of_ble_eq_true rfl⟩ ⟨Nat.zero_le _, Nat.zero_le _⟩ (Nat.le_of_ble_eq_true rfl) ?_
    first
      | (rw [show w - 1 = nI 0 from by rw [← e1, s1_1]; decide]; refine wp_X4_setting (w := 0) (by exact hW) (by decide : 0 < 4) (by decide) ?_; rw [show mI M (1, 0, 0) (0 + 3) = (xS X).2.1 1 from hR0.2.1 1 (by decide) (by decide)])
      | (rw [show w - 1 = nI 1 from by rw [← e1, s1_2]; decide]; refine wp_X4_setting (w := 1) (by exact hW) (by decide : 0 < 4) (by decide) ?_; rw [show mI M (1, 0, 0) (1 + 3) = (xS X).2.1 2 from hR0.2.1 2 (by decide) (by decide)])
      | (rw [show w - 1 = nI 2 from by rw [← e1, s1_3]; decide]; refine wp_X4_setting (w := 2) (by exact hW) (by decide : 0 < 4) (by decide) ?_; rw [show mI M (1, 0, 0) (2 + 3) = (xS X).2.1 3 from hR0.2.1 3 (by decide) (by decide)])
      | (rw [show w - 1 = nI 3 from by rw [← e1, s1_4]; decide]; refine wp_X4_setting (w := 3) (by exact hW) (by decide : 0 < 4) (by decide) ?_; rw [show mI M (1, 0, 0) (3 + 3) = (xS X).2.1 4 from hR0.2.1 4 (by decide) (by decide)])
    refine ⟨_, rfl, ?_⟩
    refine g_iret dX6_status_74 rfl ?_
    try subst e1
    refine qI h ?_
    unfold opStatus
    try first | rw [if_pos s1_0] | rw [if_neg s1_0]
    try first | rw [if_pos s1_1] | rw [if_neg s1_1]
    try first | rw [if_pos s1_2] | rw [if_neg s1_2]
    try first | rw [if_pos s1_3] | rw [if_neg s1_3]
    try first | rw [if_pos s1_4] | rw [if_neg s1_4]
    try first | rw [if_pos s1_5] | rw [if_neg s1_5]
    try first | rw [if_pos s1_6] | rw [if_neg s1_6]
    try first | rw [if_pos s1_7] | rw [if_neg s1_7]
    try first | rw [if_pos s1_8] | rw [if_neg s1_8]
    try first | rw [if_pos s1_9] | rw [if_neg s1_9]
    all_goals first
      | rfl
      | exact hsz
      | exact hR0.2.1 5 (by decide) (by decide)
      | exact hR0.2.1 6 (by decide) (by decide)
      | exact t1
      | (rw [hsz]; done)
      | (rw [if_pos ⟨Int32.not_le.mp c129, c18⟩]; exact hX.2.2.2.2.1 _ (st_ix (Int32.not_le.mp c129) c18).2.1 (st_ix (Int32.not_le.mp c129) c18).2.2)
      | (rw [if_neg (fun q => c18 q.2)])
      | (rw [if_neg (fun q => absurd q.1 (Int32.not_lt.mpr c129))])
  by_cases s1_5 : y1 = 5
  · refine g_tableIn (tgt := 75) dX6_status_1 (by rw [s1_5]; decide) (by rw [s1_5]; decide) (o := 74) (by rw [s1_5]; decide) (by decide) ?_
    refine g_aloadR_n dX6_status_75 rfl rfl ?_
    refine n_getR dX6_status_76 fX6_10 rfl hW vld_x0 rfl rfl ?_
    refine n_getI dX6_status_79 fX6_279 rfl hW (vld_sc (by decide : 0 < 4)) (Or.inl rfl) ?_
    refine g_iret dX6_status_82 rfl ?_
    try subst e1
    refine qI h ?_
    unfold opStatus
    try first | rw [if_pos s1_0] | rw [if_neg s1_0]
    try first | rw [if_pos s1_1] | rw [if_neg s1_1]
    try first | rw [if_pos s1_2] | rw [if_neg s1_2]
    try first | rw [if_pos s1_3] | rw [if_neg s1_3]
    try first | rw [if_pos s1_4] | rw [if_neg s1_4]
    try first | rw [if_pos s1_5] | rw [if_neg s1_5]
    try first | rw [if_pos s1_6] | rw [if_neg s1_6]
    try first | rw [if_pos s1_7] | rw [if_neg s1_7]
    try first | rw [if_pos s1_8] | rw [if_neg s1_8]
    try first | rw [if_pos s1_9] | rw [if_neg s1_9]
    all_goals first
      | rfl
      | exact hsz
      | exact hR0.2.1 5 (by decide) (by decide)
      | exact hR0.2.1 6 (by decide) (by decide)
      | exact t1
      | (rw [hsz]; done)
      | (rw [if_pos ⟨Int32.not_le.mp c129, c18⟩]; exact hX.2.2.2.2.1 _ (st_ix (Int32.not_le.mp c129) c18).2.1 (st_ix (Int32.not_le.mp c129) c18).2.2)
      | (rw [if_neg (fun q => c18 q.2)])
      | (rw [if_neg (fun q => absurd q.1 (Int32.not_lt.mpr c129))])
  by_cases s1_6 : y1 = 6
  · refine g_tableIn (tgt := 83) dX6_status_1 (by rw [s1_6]; decide) (by rw [s1_6]; decide) (o := 82) (by rw [s1_6]; decide) (by decide) ?_
    refine g_aloadR_n dX6_status_83 rfl rfl ?_
    refine n_getR dX6_status_84 fX6_10 rfl hW vld_x0 rfl rfl ?_
    refine n_getI dX6_status_87 fX6_233 rfl hW (vld_sc (by decide : 0 < 4)) (Or.inl rfl) ?_
    refine g_aloadR_n dX6_status_90 rfl rfl ?_
    refine n_getR dX6_status_91 fX6_10 rfl hW vld_x0 rfl rfl ?_
    refine n_v0i (n' := 1) dX6_status_94 mX4_present lX6_206 rfl hW (vld_sc (by decide : 0 < 4)) rfl rfl ⟨Nat.le_of_ble_eq_true rfl, Nat.le_of_ble_eq_true rfl⟩ ⟨Nat.zero_le _, Nat.zero_le _⟩ (Nat.le_of_ble_eq_true rfl) ?_
    refine wp_X4_present (by exact hW) (by decide : 0 < 4) hR0 hs10 ?_
    refine ⟨_, rfl, ?_⟩
    refine n_s1i (n' := 0) dX6_status_97 mJ6_bitCount_0f7a4 lX6_210 ⟨Nat.le_of_ble_eq_true rfl, Nat.le_of_ble_eq_true rfl⟩ ⟨Nat.zero_le _, Nat.zero_le _⟩ (Nat.le_of_ble_eq_true rfl) ?_
    refine wp_J6_bitCount (c_lt (presS_lt (xS X)) hs10) ?_
    refine ⟨_, rfl, ?_⟩
    refine g_isub dX6_status_100 ?_
    refine g_iret dX6_status_101 rfl ?_
    try subst e1
    refine qI h ?_
    unfold opStatus
    try first | rw [if_pos s1_0] | rw [if_neg s1_0]
    try first | rw [if_pos s1_1] | rw [if_neg s1_1]
    try first | rw [if_pos s1_2] | rw [if_neg s1_2]
    try first | rw [if_pos s1_3] | rw [if_neg s1_3]
    try first | rw [if_pos s1_4] | rw [if_neg s1_4]
    try first | rw [if_pos s1_5] | rw [if_neg s1_5]
    try first | rw [if_pos s1_6] | rw [if_neg s1_6]
    try first | rw [if_pos s1_7] | rw [if_neg s1_7]
    try first | rw [if_pos s1_8] | rw [if_neg s1_8]
    try first | rw [if_pos s1_9] | rw [if_neg s1_9]
    all_goals first
      | rfl
      | exact hsz
      | exact hR0.2.1 5 (by decide) (by decide)
      | exact hR0.2.1 6 (by decide) (by decide)
      | exact t1
      | (rw [hsz]; done)
      | (rw [if_pos ⟨Int32.not_le.mp c129, c18⟩]; exact hX.2.2.2.2.1 _ (st_ix (Int32.not_le.mp c129) c18).2.1 (st_ix (Int32.not_le.mp c129) c18).2.2)
      | (rw [if_neg (fun q => c18 q.2)])
      | (rw [if_neg (fun q => absurd q.1 (Int32.not_lt.mpr c129))])
  by_cases s1_7 : y1 = 7
  · refine g_tableIn (tgt := 102) dX6_status_1 (by rw [s1_7]; decide) (by rw [s1_7]; decide) (o := 101) (by rw [s1_7]; decide) (by decide) ?_
    refine g_aloadR_n dX6_status_102 rfl rfl ?_
    refine n_getR dX6_status_103 fX6_10 rfl hW vld_x0 rfl rfl ?_
    refine n_v0i (n' := 1) dX6_status_106 mX4_comingsTogether lX6_282 rfl hW (vld_sc (by decide : 0 < 4)) rfl rfl ⟨Nat.le_of_ble_eq_true rfl, Nat.le_of_ble_eq_true rfl⟩ ⟨Nat.zero_le _, Nat.zero_le _⟩ (Nat.le_of_ble_eq_true rfl) ?_
    refine wp_X4_comingsTogether (by exact hW) (by decide : 0 < 4) hR0 hs10 ?_
    refine ⟨_, rfl, ?_⟩
    refine g_iret dX6_status_109 rfl ?_
    try subst e1
    refine qI h ?_
    unfold opStatus
    try first | rw [if_pos s1_0] | rw [if_neg s1_0]
    try first | rw [if_pos s1_1] | rw [if_neg s1_1]
    try first | rw [if_pos s1_2] | rw [if_neg s1_2]
    try first | rw [if_pos s1_3] | rw [if_neg s1_3]
    try first | rw [if_pos s1_4] | rw [if_neg s1_4]
    try first | rw [if_pos s1_5] | rw [if_neg s1_5]
    try first | rw [if_pos s1_6] | rw [if_neg s1_6]
    try first | rw [if_pos s1_7] | rw [if_neg s1_7]
    try first | rw [if_pos s1_8] | rw [if_neg s1_8]
    try first | rw [if_pos s1_9] | rw [if_neg s1_9]
    all_goals first
      | rfl
      | exact hsz
      | exact hR0.2.1 5 (by decide) (by decide)
      | exact hR0.2.1 6 (by decide) (by decide)
      | exact t1
      | (rw [hsz]; done)
      | (rw [if_pos ⟨Int32.not_le.mp c129, c18⟩]; exact hX.2.2.2.2.1 _ (st_ix (Int32.not_le.mp c129) c18).2.1 (st_ix (Int32.not_le.mp c129) c18).2.2)
      | (rw [if_neg (fun q => c18 q.2)])
      | (rw [if_neg (fun q => absurd q.1 (Int32.not_lt.mpr c129))])
  by_cases s1_8 : y1 = 8
  · refine g_tableIn (tgt := 110) dX6_status_1 (by rw [s1_8]; decide) (by rw [s1_8]; decide) (o := 109) (by rw [s1_8]; decide) (by decide) ?_
    refine g_aloadR_n dX6_status_110 rfl rfl ?_
    refine n_getR dX6_status_111 fX6_10 rfl hW vld_x0 rfl rfl ?_
    refine n_getI dX6_status_114 fX6_260 rfl hW (vld_sc (by decide : 0 < 4)) (Or.inl rfl) ?_
    refine g_iret dX6_status_117 rfl ?_
    try subst e1
    refine qI h ?_
    unfold opStatus
    try first | rw [if_pos s1_0] | rw [if_neg s1_0]
    try first | rw [if_pos s1_1] | rw [if_neg s1_1]
    try first | rw [if_pos s1_2] | rw [if_neg s1_2]
    try first | rw [if_pos s1_3] | rw [if_neg s1_3]
    try first | rw [if_pos s1_4] | rw [if_neg s1_4]
    try first | rw [if_pos s1_5] | rw [if_neg s1_5]
    try first | rw [if_pos s1_6] | rw [if_neg s1_6]
    try first | rw [if_pos s1_7] | rw [if_neg s1_7]
    try first | rw [if_pos s1_8] | rw [if_neg s1_8]
    try first | rw [if_pos s1_9] | rw [if_neg s1_9]
    all_goals first
      | rfl
      | exact hsz
      | exact hR0.2.1 5 (by decide) (by decide)
      | exact hR0.2.1 6 (by decide) (by decide)
      | exact t1
      | (rw [hsz]; done)
      | (rw [if_pos ⟨Int32.not_le.mp c129, c18⟩]; exact hX.2.2.2.2.1 _ (st_ix (Int32.not_le.mp c129) c18).2.1 (st_ix (Int32.not_le.mp c129) c18).2.2)
      | (rw [if_neg (fun q => c18 q.2)])
      | (rw [if_neg (fun q => absurd q.1 (Int32.not_lt.mpr c129))])
  by_cases s1_9 : y1 = 9
  · refine g_tableIn (tgt := 118) dX6_status_1 (by rw [s1_9]; decide) (by rw [s1_9]; decide) (o := 117) (by rw [s1_9]; decide) (by decide) ?_
    refine g_aloadR_n dX6_status_118 rfl rfl ?_
    refine n_getR dX6_status_119 fX6_50 rfl hW vld_x0 rfl rfl ?_
    refine n_getI dX6_status_122 fX6_285 rfl hW vld_x10 (Or.inl rfl) ?_
    refine g_iret dX6_status_125 rfl ?_
    try subst e1
    refine qI h ?_
    unfold opStatus
    try first | rw [if_pos s1_0] | rw [if_neg s1_0]
    try first | rw [if_pos s1_1] | rw [if_neg s1_1]
    try first | rw [if_pos s1_2] | rw [if_neg s1_2]
    try first | rw [if_pos s1_3] | rw [if_neg s1_3]
    try first | rw [if_pos s1_4] | rw [if_neg s1_4]
    try first | rw [if_pos s1_5] | rw [if_neg s1_5]
    try first | rw [if_pos s1_6] | rw [if_neg s1_6]
    try first | rw [if_pos s1_7] | rw [if_neg s1_7]
    try first | rw [if_pos s1_8] | rw [if_neg s1_8]
    try first | rw [if_pos s1_9] | rw [if_neg s1_9]
    all_goals first
      | rfl
      | exact hsz
      | exact hR0.2.1 5 (by decide) (by decide)
      | exact hR0.2.1 6 (by decide) (by decide)
      | exact t1
      | (rw [hsz]; done)
      | (rw [if_pos ⟨Int32.not_le.mp c129, c18⟩]; exact hX.2.2.2.2.1 _ (st_ix (Int32.not_le.mp c129) c18).2.1 (st_ix (Int32.not_le.mp c129) c18).2.2)
      | (rw [if_neg (fun q => c18 q.2)])
      | (rw [if_neg (fun q => absurd q.1 (Int32.not_lt.mpr c129))])
  refine g_tableOut (tgt := 126) dX6_status_1 (by have t0 : ¬ y1.toInt = 0 := sw_ne s1_0; have t1 : ¬ y1.toInt = 1 := sw_ne s1_1; have t2 : ¬ y1.toInt = 2 := sw_ne s1_2; have t3 : ¬ y1.toInt = 3 := sw_ne s1_3; have t4 : ¬ y1.toInt = 4 := sw_ne s1_4; have t5 : ¬ y1.toInt = 5 := sw_ne s1_5; have t6 : ¬ y1.toInt = 6 := sw_ne s1_6; have t7 : ¬ y1.toInt = 7 := sw_ne s1_7; have t8 : ¬ y1.toInt = 8 := sw_ne s1_8; have t9 : ¬ y1.toInt = 9 := sw_ne s1_9; omega) (by decide) ?_
  refine g_iload_n dX6_status_126 rfl rfl ?_
  refine g_bipush dX6_status_127 (v := 10) (by decide) ?_
  subst e1
  refine g_icmp_le (tgt := 156) dX6_status_129 (by decide) (fun c129 => ?_) (fun c129 => ?_)
  · refine g_iconst dX6_status_156 (v := (-1)) (by decide) ?_
    refine g_iret dX6_status_157 rfl ?_
    try subst e1
    refine qI h ?_
    unfold opStatus
    try first | rw [if_pos s1_0] | rw [if_neg s1_0]
    try first | rw [if_pos s1_1] | rw [if_neg s1_1]
    try first | rw [if_pos s1_2] | rw [if_neg s1_2]
    try first | rw [if_pos s1_3] | rw [if_neg s1_3]
    try first | rw [if_pos s1_4] | rw [if_neg s1_4]
    try first | rw [if_pos s1_5] | rw [if_neg s1_5]
    try first | rw [if_pos s1_6] | rw [if_neg s1_6]
    try first | rw [if_pos s1_7] | rw [if_neg s1_7]
    try first | rw [if_pos s1_8] | rw [if_neg s1_8]
    try first | rw [if_pos s1_9] | rw [if_neg s1_9]
    all_goals first
      | rfl
      | exact hsz
      | exact hR0.2.1 5 (by decide) (by decide)
      | exact hR0.2.1 6 (by decide) (by decide)
      | exact t1
      | (rw [hsz]; done)
      | (rw [if_pos ⟨Int32.not_le.mp c129, c18⟩]; exact hX.2.2.2.2.1 _ (st_ix (Int32.not_le.mp c129) c18).2.1 (st_ix (Int32.not_le.mp c129) c18).2.2)
      | (rw [if_neg (fun q => c18 q.2)])
      | (rw [if_neg (fun q => absurd q.1 (Int32.not_lt.mpr c129))])
  · refine g_iload_n dX6_status_132 rfl rfl ?_
    refine g_bipush dX6_status_133 (v := 10) (by decide) ?_
    refine g_aloadR_n dX6_status_135 rfl rfl ?_
    refine n_getR dX6_status_136 fX6_54 rfl hW vld_x0 rfl rfl ?_
    refine n_alen dX6_status_139 rfl (by decide) hW vld_x12 ?_
    refine g_iadd dX6_status_140 ?_
    refine g_icmp_ge (tgt := 156) dX6_status_141 (by decide) (fun c141 => ?_) (fun c141 => ?_)
    · have c18 : ¬ y1 < 18 := by
        rw [show (10 : Int32) + nI 8 = 18 by decide] at c141
        exact Int32.not_lt.mpr c141
      refine g_iconst dX6_status_156 (v := (-1)) (by decide) ?_
      refine g_iret dX6_status_157 rfl ?_
      try subst e1
      refine qI h ?_
      unfold opStatus
      try first | rw [if_pos s1_0] | rw [if_neg s1_0]
      try first | rw [if_pos s1_1] | rw [if_neg s1_1]
      try first | rw [if_pos s1_2] | rw [if_neg s1_2]
      try first | rw [if_pos s1_3] | rw [if_neg s1_3]
      try first | rw [if_pos s1_4] | rw [if_neg s1_4]
      try first | rw [if_pos s1_5] | rw [if_neg s1_5]
      try first | rw [if_pos s1_6] | rw [if_neg s1_6]
      try first | rw [if_pos s1_7] | rw [if_neg s1_7]
      try first | rw [if_pos s1_8] | rw [if_neg s1_8]
      try first | rw [if_pos s1_9] | rw [if_neg s1_9]
      all_goals first
        | rfl
        | exact hsz
        | exact hR0.2.1 5 (by decide) (by decide)
        | exact hR0.2.1 6 (by decide) (by decide)
        | exact t1
        | (rw [hsz]; done)
        | (rw [if_pos ⟨Int32.not_le.mp c129, c18⟩]; exact hX.2.2.2.2.1 _ (st_ix (Int32.not_le.mp c129) c18).2.1 (st_ix (Int32.not_le.mp c129) c18).2.2)
        | (rw [if_neg (fun q => c18 q.2)])
        | (rw [if_neg (fun q => absurd q.1 (Int32.not_lt.mpr c129))])
    · have c18 : y1 < 18 := by
        rw [show (10 : Int32) + nI 8 = 18 by decide] at c141
        exact Int32.not_le.mp c141
      refine g_aloadR_n dX6_status_144 rfl rfl ?_
      refine n_getR dX6_status_145 fX6_54 rfl hW vld_x0 rfl rfl ?_
      refine g_iload_n dX6_status_148 rfl rfl ?_
      refine g_bipush dX6_status_149 (v := 10) (by decide) ?_
      refine g_isub dX6_status_151 ?_
      refine n_iald (j := (y1 - 10).toNatClampNeg) dX6_status_152 rfl hW vld_x12 (by decide) (st_ix (Int32.not_le.mp c129) c18).1 (st_ix (Int32.not_le.mp c129) c18).2.2 ?_
      refine g_goto (tgt := 157) dX6_status_153 (by decide) ?_
      refine g_iret dX6_status_157 rfl ?_
      try subst e1
      refine qI h ?_
      unfold opStatus
      try first | rw [if_pos s1_0] | rw [if_neg s1_0]
      try first | rw [if_pos s1_1] | rw [if_neg s1_1]
      try first | rw [if_pos s1_2] | rw [if_neg s1_2]
      try first | rw [if_pos s1_3] | rw [if_neg s1_3]
      try first | rw [if_pos s1_4] | rw [if_neg s1_4]
      try first | rw [if_pos s1_5] | rw [if_neg s1_5]
      try first | rw [if_pos s1_6] | rw [if_neg s1_6]
      try first | rw [if_pos s1_7] | rw [if_neg s1_7]
      try first | rw [if_pos s1_8] | rw [if_neg s1_8]
      try first | rw [if_pos s1_9] | rw [if_neg s1_9]
      all_goals first
        | rfl
        | exact hsz
        | exact hR0.2.1 5 (by decide) (by decide)
        | exact hR0.2.1 6 (by decide) (by decide)
        | exact t1
        | (rw [hsz]; done)
        | (rw [if_pos ⟨Int32.not_le.mp c129, c18⟩]; exact hX.2.2.2.2.1 _ (st_ix (Int32.not_le.mp c129) c18).2.1 (st_ix (Int32.not_le.mp c129) c18).2.2)
        | (rw [if_neg (fun q => c18 q.2)])
        | (rw [if_neg (fun q => absurd q.1 (Int32.not_lt.mpr c129))])
