/-! THE CLASS'S School -/
theorem wp_X4_oneN {E : Ev} {M : Mem} {Q : QT} (hW : Wi M) {k j : Nat} (hk : k < 4) (hj : j < 10) (h : Q (some (vR (2, k, j))) M) : Mth E 0 0 0 kX4_one [vR (1, k, 0), vI (nI j)] M Q := wp_X4_one hW hk (by rw [pix_nI hj]; exact h)
theorem tb_lt {c n i : Nat} (hc : c < 2 ^ n) (h : c.testBit i = true) : i < n := by
  rcases Nat.lt_or_ge i n with q | q
  · exact q
  · rw [Nat.testBit_lt_two_pow (Nat.lt_of_lt_of_le hc (Nat.pow_le_pow_right (by decide) q))] at h; cases h
theorem sz_ge {j n : Nat} {x : Int32} (hx : x = nI n) (hj : j < 2 ^ 31) (hn : n < 2 ^ 31) (h : x ≤ nI j) : n ≤ j := by rw [hx, nI_leI hn hj] at h; exact h
theorem sz_lt {j n : Nat} {x : Int32} (hx : x = nI n) (hj : j < 2 ^ 31) (hn : n < 2 ^ 31) (h : ¬ x ≤ nI j) : j < n := by rw [hx, nI_leI hn hj] at h; omega
set_option maxHeartbeats 4000000 in
set_option maxRecDepth 100000 in
theorem wp_X4_isFull {E : Ev} {M : Mem} {Q : QT} (hW : Wi M) {k : Nat} (hk : k < 4) {n : Nat} (hsz : mI M (1, k, 0) 2 = nI n) (hn : n ≤ 10) (h : Q (some (vI (b2 (n = 10)))) M) : Mth E 0 0 0 kX4_isFull [vR (1, k, 0)] M Q := by
  refine mth_of (by decide +kernel) [some (vR (1, k, 0))] (Nat.le_of_ble_eq_true rfl) rfl ?_
  refine g_aloadR_n dX4_isFull_0 rfl rfl ?_
  refine n_getI dX4_isFull_1 fX4_35 rfl hW (vld_sc hk) (Or.inl rfl) ?_
  refine g_bipush dX4_isFull_4 (v := 10) (by decide) ?_
  refine g_icmp_lt (tgt := 13) dX4_isFull_6 (by decide) (fun c6 => ?_) (fun c6 => ?_)
  · refine g_iconst dX4_isFull_13 (v := 0) (by decide) ?_
    refine g_zret dX4_isFull_14 rfl (Or.inl rfl) ?_
    rw [hsz] at *
    exact qI h (b2_f (by have := nI_toInt (n := n) (by omega); simp only [IN, Int32.lt_iff_toInt_lt, Int32.le_iff_toInt_le, ← Int32.toInt_inj, zcs, zn] at *; omega))
  · refine g_iconst dX4_isFull_9 (v := 1) (by decide) ?_
    refine g_goto (tgt := 14) dX4_isFull_10 (by decide) ?_
    refine g_zret dX4_isFull_14 rfl (Or.inr rfl) ?_
    rw [hsz] at *
    exact qI h (b2_t (by have := nI_toInt (n := n) (by omega); simp only [IN, Int32.lt_iff_toInt_lt, Int32.le_iff_toInt_le, ← Int32.toInt_inj, zcs, zn] at *; omega))
set_option maxHeartbeats 4000000 in
set_option maxRecDepth 100000 in
theorem wp_X4_setting {E : Ev} {M : Mem} {Q : QT} (hW : Wi M) {k : Nat} (hk : k < 4) {w : Nat} (hw : w < 4) (h : Q (some (vI (mI M (1, k, 0) (w + 3)))) M) : Mth E 0 0 0 kX4_setting [vR (1, k, 0), vI (nI w)] M Q := by
  refine mth_of (by decide +kernel) [some (vR (1, k, 0)), some (vI (nI w))] (Nat.le_of_ble_eq_true rfl) rfl ?_
  refine g_iload_n dX4_setting_0 rfl rfl ?_
  refine g_top (fun y1 e1 => ?_)
  by_cases s1_0 : y1 = 0
  · refine g_tableIn (tgt := 28) dX4_setting_1 (by rw [s1_0]; decide) (by rw [s1_0]; decide) (o := 27) (by rw [s1_0]; decide) (by decide) ?_
    refine g_aloadR_n dX4_setting_28 rfl rfl ?_
    refine n_getI dX4_setting_29 fX4_22 rfl hW (vld_sc hk) (Or.inl rfl) ?_
    refine g_iret dX4_setting_32 rfl ?_
    subst e1
    first
      | (have e : w = 0 := (nI_eq (by omega) (by decide)).mp (s1_0.trans rfl); subst e; exact h)
      | (have e : w = 1 := (nI_eq (by omega) (by decide)).mp (s1_1.trans rfl); subst e; exact h)
      | (have e : w = 2 := (nI_eq (by omega) (by decide)).mp (s1_2.trans rfl); subst e; exact h)
      | (have e : w = 3 := (by have t0 : w ≠ 0 := (fun q => s1_0 (by rw [q]; rfl)); have t1 : w ≠ 1 := (fun q => s1_1 (by rw [q]; rfl)); have t2 : w ≠ 2 := (fun q => s1_2 (by rw [q]; rfl)); omega); subst e; exact h)
  by_cases s1_1 : y1 = 1
  · refine g_tableIn (tgt := 33) dX4_setting_1 (by rw [s1_1]; decide) (by rw [s1_1]; decide) (o := 32) (by rw [s1_1]; decide) (by decide) ?_
    refine g_aloadR_n dX4_setting_33 rfl rfl ?_
    refine n_getI dX4_setting_34 fX4_38 rfl hW (vld_sc hk) (Or.inl rfl) ?_
    refine g_iret dX4_setting_37 rfl ?_
    subst e1
    first
      | (have e : w = 0 := (nI_eq (by omega) (by decide)).mp (s1_0.trans rfl); subst e; exact h)
      | (have e : w = 1 := (nI_eq (by omega) (by decide)).mp (s1_1.trans rfl); subst e; exact h)
      | (have e : w = 2 := (nI_eq (by omega) (by decide)).mp (s1_2.trans rfl); subst e; exact h)
      | (have e : w = 3 := (by have t0 : w ≠ 0 := (fun q => s1_0 (by rw [q]; rfl)); have t1 : w ≠ 1 := (fun q => s1_1 (by rw [q]; rfl)); have t2 : w ≠ 2 := (fun q => s1_2 (by rw [q]; rfl)); omega); subst e; exact h)
  by_cases s1_2 : y1 = 2
  · refine g_tableIn (tgt := 38) dX4_setting_1 (by rw [s1_2]; decide) (by rw [s1_2]; decide) (o := 37) (by rw [s1_2]; decide) (by decide) ?_
    refine g_aloadR_n dX4_setting_38 rfl rfl ?_
    refine n_getI dX4_setting_39 fX4_26 rfl hW (vld_sc hk) (Or.inl rfl) ?_
    refine g_iret dX4_setting_42 rfl ?_
    subst e1
    first
      | (have e : w = 0 := (nI_eq (by omega) (by decide)).mp (s1_0.trans rfl); subst e; exact h)
      | (have e : w = 1 := (nI_eq (by omega) (by decide)).mp (s1_1.trans rfl); subst e; exact h)
      | (have e : w = 2 := (nI_eq (by omega) (by decide)).mp (s1_2.trans rfl); subst e; exact h)
      | (have e : w = 3 := (by have t0 : w ≠ 0 := (fun q => s1_0 (by rw [q]; rfl)); have t1 : w ≠ 1 := (fun q => s1_1 (by rw [q]; rfl)); have t2 : w ≠ 2 := (fun q => s1_2 (by rw [q]; rfl)); omega); subst e; exact h)
  refine g_tableOut (tgt := 43) dX4_setting_1 (by have t0 : ¬ y1.toInt = 0 := sw_ne s1_0; have t1 : ¬ y1.toInt = 1 := sw_ne s1_1; have t2 : ¬ y1.toInt = 2 := sw_ne s1_2; omega) (by decide) ?_
  refine g_aloadR_n dX4_setting_43 rfl rfl ?_
  refine n_getI dX4_setting_44 fX4_29 rfl hW (vld_sc hk) (Or.inl rfl) ?_
  refine g_iret dX4_setting_47 rfl ?_
  subst e1
  first
    | (have e : w = 0 := (nI_eq (by omega) (by decide)).mp (s1_0.trans rfl); subst e; exact h)
    | (have e : w = 1 := (nI_eq (by omega) (by decide)).mp (s1_1.trans rfl); subst e; exact h)
    | (have e : w = 2 := (nI_eq (by omega) (by decide)).mp (s1_2.trans rfl); subst e; exact h)
    | (have e : w = 3 := (by have t0 : w ≠ 0 := (fun q => s1_0 (by rw [q]; rfl)); have t1 : w ≠ 1 := (fun q => s1_1 (by rw [q]; rfl)); have t2 : w ≠ 2 := (fun q => s1_2 (by rw [q]; rfl)); omega); subst e; exact h)
set_option maxHeartbeats 4000000 in
set_option maxRecDepth 100000 in
theorem wp_X4_settle {E : Ev} {M : Mem} {Q : QT} (hW : Wi M) {k : Nat} (hk : k < 4) {w : Nat} (hw : w < 4) {v : Int32} (h : Q none (sI M (1, k, 0) (w + 3) v)) : Mth E 0 0 0 kX4_settle [vR (1, k, 0), vI (nI w), vI v] M Q := by
  refine mth_of (by decide +kernel) [some (vR (1, k, 0)), some (vI (nI w)), some (vI v)] (Nat.le_of_ble_eq_true rfl) rfl ?_
  refine g_iload_n dX4_settle_0 rfl rfl ?_
  refine g_top (fun y1 e1 => ?_)
  by_cases s1_0 : y1 = 0
  · refine g_tableIn (tgt := 28) dX4_settle_1 (by rw [s1_0]; decide) (by rw [s1_0]; decide) (o := 27) (by rw [s1_0]; decide) (by decide) ?_
    refine g_aloadR_n dX4_settle_28 rfl rfl ?_
    refine g_iload_n dX4_settle_29 rfl rfl ?_
    refine n_putI dX4_settle_30 fX4_22 rfl hW (vld_sc hk) rfl ?_
    refine g_goto (tgt := 57) dX4_settle_33 (by decide) ?_
    refine g_vret dX4_settle_57 rfl ?_
    subst e1
    first
      | (have e : w = 0 := (nI_eq (by omega) (by decide)).mp (s1_0.trans rfl); subst e; exact h)
      | (have e : w = 1 := (nI_eq (by omega) (by decide)).mp (s1_1.trans rfl); subst e; exact h)
      | (have e : w = 2 := (nI_eq (by omega) (by decide)).mp (s1_2.trans rfl); subst e; exact h)
      | (have e : w = 3 := (by have t0 : w ≠ 0 := (fun q => s1_0 (by rw [q]; rfl)); have t1 : w ≠ 1 := (fun q => s1_1 (by rw [q]; rfl)); have t2 : w ≠ 2 := (fun q => s1_2 (by rw [q]; rfl)); omega); subst e; exact h)
  by_cases s1_1 : y1 = 1
  · refine g_tableIn (tgt := 36) dX4_settle_1 (by rw [s1_1]; decide) (by rw [s1_1]; decide) (o := 35) (by rw [s1_1]; decide) (by decide) ?_
    refine g_aloadR_n dX4_settle_36 rfl rfl ?_
    refine g_iload_n dX4_settle_37 rfl rfl ?_
    refine n_putI dX4_settle_38 fX4_38 rfl hW (vld_sc hk) rfl ?_
    refine g_goto (tgt := 57) dX4_settle_41 (by decide) ?_
    refine g_vret dX4_settle_57 rfl ?_
    subst e1
    first
      | (have e : w = 0 := (nI_eq (by omega) (by decide)).mp (s1_0.trans rfl); subst e; exact h)
      | (have e : w = 1 := (nI_eq (by omega) (by decide)).mp (s1_1.trans rfl); subst e; exact h)
      | (have e : w = 2 := (nI_eq (by omega) (by decide)).mp (s1_2.trans rfl); subst e; exact h)
      | (have e : w = 3 := (by have t0 : w ≠ 0 := (fun q => s1_0 (by rw [q]; rfl)); have t1 : w ≠ 1 := (fun q => s1_1 (by rw [q]; rfl)); have t2 : w ≠ 2 := (fun q => s1_2 (by rw [q]; rfl)); omega); subst e; exact h)
  by_cases s1_2 : y1 = 2
  · refine g_tableIn (tgt := 44) dX4_settle_1 (by rw [s1_2]; decide) (by rw [s1_2]; decide) (o := 43) (by rw [s1_2]; decide) (by decide) ?_
    refine g_aloadR_n dX4_settle_44 rfl rfl ?_
    refine g_iload_n dX4_settle_45 rfl rfl ?_
    refine n_putI dX4_settle_46 fX4_26 rfl hW (vld_sc hk) rfl ?_
    refine g_goto (tgt := 57) dX4_settle_49 (by decide) ?_
    refine g_vret dX4_settle_57 rfl ?_
    subst e1
    first
      | (have e : w = 0 := (nI_eq (by omega) (by decide)).mp (s1_0.trans rfl); subst e; exact h)
      | (have e : w = 1 := (nI_eq (by omega) (by decide)).mp (s1_1.trans rfl); subst e; exact h)
      | (have e : w = 2 := (nI_eq (by omega) (by decide)).mp (s1_2.trans rfl); subst e; exact h)
      | (have e : w = 3 := (by have t0 : w ≠ 0 := (fun q => s1_0 (by rw [q]; rfl)); have t1 : w ≠ 1 := (fun q => s1_1 (by rw [q]; rfl)); have t2 : w ≠ 2 := (fun q => s1_2 (by rw [q]; rfl)); omega); subst e; exact h)
  refine g_tableOut (tgt := 52) dX4_settle_1 (by have t0 : ¬ y1.toInt = 0 := sw_ne s1_0; have t1 : ¬ y1.toInt = 1 := sw_ne s1_1; have t2 : ¬ y1.toInt = 2 := sw_ne s1_2; omega) (by decide) ?_
  refine g_aloadR_n dX4_settle_52 rfl rfl ?_
  refine g_iload_n dX4_settle_53 rfl rfl ?_
  refine n_putI dX4_settle_54 fX4_29 rfl hW (vld_sc hk) rfl ?_
  refine g_vret dX4_settle_57 rfl ?_
  subst e1
  first
    | (have e : w = 0 := (nI_eq (by omega) (by decide)).mp (s1_0.trans rfl); subst e; exact h)
    | (have e : w = 1 := (nI_eq (by omega) (by decide)).mp (s1_1.trans rfl); subst e; exact h)
    | (have e : w = 2 := (nI_eq (by omega) (by decide)).mp (s1_2.trans rfl); subst e; exact h)
    | (have e : w = 3 := (by have t0 : w ≠ 0 := (fun q => s1_0 (by rw [q]; rfl)); have t1 : w ≠ 1 := (fun q => s1_1 (by rw [q]; rfl)); have t2 : w ≠ 2 := (fun q => s1_2 (by rw [q]; rfl)); omega); subst e; exact h)
set_option maxHeartbeats 4000000 in
set_option maxRecDepth 100000 in
theorem wp_X4_pullOn {E : Ev} {M : Mem} {Q : QT} (hW : Wi M) {k : Nat} (hk : k < 4) {S : Sc} (hR : RepC M k S) (hn : S.1 ≤ 10) {j : Nat} (hj : j < S.1) (h : Q (some (vI (willS S j))) M) : Mth E 2 0 0 kX4_pullOn [vR (1, k, 0), vI (nI j)] M Q := by
  refine mth_of (by decide +kernel) [some (vR (1, k, 0)), some (vI (nI j))] (Nat.le_of_ble_eq_true rfl) rfl ?_
  refine g_aloadR_n dX4_pullOn_0 rfl rfl ?_
  refine g_iload_n dX4_pullOn_1 rfl rfl ?_
  refine n_v1r (n' := 0) dX4_pullOn_2 mX4_one lX4_44 rfl hW (vld_sc hk) rfl rfl ⟨Nat.le_of_ble_eq_true rfl, Nat.le_of_ble_eq_true rfl⟩ ⟨Nat.zero_le _, Nat.zero_le _⟩ (Nat.le_of_ble_eq_true rfl) ?_
  refine wp_X4_oneN (by exact hW) hk (show j < 10 by omega) ?_
  refine ⟨_, rfl, ?_⟩
  refine g_aloadR_n dX4_pullOn_5 rfl rfl ?_
  refine n_getI dX4_pullOn_6 fX4_22 rfl hW (vld_sc hk) (Or.inl rfl) ?_
  refine g_aloadR_n dX4_pullOn_9 rfl rfl ?_
  refine n_getI dX4_pullOn_10 fX4_38 rfl hW (vld_sc hk) (Or.inl rfl) ?_
  refine g_aloadR_n dX4_pullOn_13 rfl rfl ?_
  refine n_getI dX4_pullOn_14 fX4_41 rfl hW (vld_sc hk) (Or.inl rfl) ?_
  refine n_v3i (n' := 1) dX4_pullOn_17 mX2_pullOn lX4_72 rfl hW (vld_pe hk (by omega)) rfl rfl ⟨Nat.le_of_ble_eq_true rfl, Nat.le_of_ble_eq_true rfl⟩ ⟨Nat.zero_le _, Nat.zero_le _⟩ (Nat.le_of_ble_eq_true rfl) ?_
  refine wp_X2_pullOn (by exact hW) hk (by omega) ?_
  refine ⟨_, rfl, ?_⟩
  refine g_iret dX4_pullOn_20 rfl ?_
  refine qI h ?_
  unfold willS
  rw [← hR.2.1 1 (by decide) (by decide), ← hR.2.1 2 (by decide) (by decide), ← hR.2.1 5 (by decide) (by decide)]
  exact pullF_congr (fun f hf => hR.2.2 j f hj hf) _ _ _
set_option maxHeartbeats 4000000 in
set_option maxRecDepth 100000 in
theorem lp_X4_present {E : Ev} {M : Mem} {Q : QT} (hW : Wi M) {k : Nat} (hk : k < 4) {S : Sc} (hR : RepC M k S) (hn : S.1 ≤ 10) (h : Q (some (vI (nI (presS S)))) M) : ∀ j, j ≤ S.1 → G E (rm 1 0 0) kX4_present (ZQ E Q 0 0) 0 0 4 [some (vR (1, k, 0)), some (vI (nI (mk (fun i => S.2.2 i 8 == 0) j))), some (vI (nI j))] [] M := by
  refine up_loop S.1 (fun j hj ih => ?_)
  have hml := mk_lt (fun i => S.2.2 i 8 == 0) j
  refine g_iload_n dX4_present_4 rfl rfl ?_
  refine g_aloadR_n dX4_present_5 rfl rfl ?_
  refine n_getI dX4_present_6 fX4_35 rfl hW (vld_sc hk) (Or.inl rfl) ?_
  refine g_icmp_ge (tgt := 35) dX4_present_9 (by decide) (fun c9 => ?_) (fun c9 => ?_)
  · have hjn := sz_ge hR.1 (by omega) (by omega) c9
    have hjn2 : j = S.1 := by omega
    refine g_iload_n dX4_present_35 rfl rfl ?_
    refine g_iret dX4_present_36 rfl ?_
    rw [hjn2]; exact h
  · have hjn := sz_lt hR.1 (by omega) (by omega) c9
    refine g_aloadR_n dX4_present_12 rfl rfl ?_
    refine g_iload_n dX4_present_13 rfl rfl ?_
    refine n_v1r (n' := 0) dX4_present_14 mX4_one lX4_44 rfl hW (vld_sc hk) rfl rfl ⟨Nat.le_of_ble_eq_true rfl, Nat.le_of_ble_eq_true rfl⟩ ⟨Nat.zero_le _, Nat.zero_le _⟩ (Nat.le_of_ble_eq_true rfl) ?_
    refine wp_X4_oneN (by exact hW) hk (show j < 10 by omega) ?_
    refine ⟨_, rfl, ?_⟩
    refine n_getI dX4_present_17 fX4_62 rfl hW (vld_pe hk (by omega)) (Or.inr rfl) ?_
    refine g_if_ne (tgt := 29) dX4_present_20 (by decide) (fun c20 => ?_) (fun c20 => ?_)
    · have q20 : ¬ (S.2.2 j 8 == 0) = true := by rw [← hR.2.2 j 8 hjn (by decide)]; simpa using c20
      refine g_iinc_2 (v := nI (j + 1)) dX4_present_29 rfl (nI_inc j) ?_
      refine g_goto (tgt := 4) dX4_present_32 (by decide) ?_
      have hi := ih hjn
      rw [mk] at hi
      first
        | (rw [if_pos q20] at hi; exact hi)
        | (rw [if_neg q20] at hi; exact hi)
    · have q20 : (S.2.2 j 8 == 0) = true := by rw [← hR.2.2 j 8 hjn (by decide)]; simpa using c20
      refine g_iload_n dX4_present_23 rfl rfl ?_
      refine g_iconst dX4_present_24 (v := 1) (by decide) ?_
      refine g_iload_n dX4_present_25 rfl rfl ?_
      refine g_ishl dX4_present_26 ?_
      refine g_ior dX4_present_27 ?_
      rw [bt_or (by omega) hml]
      refine g_istore_1 dX4_present_28 rfl ?_
      refine g_iinc_2 (v := nI (j + 1)) dX4_present_29 rfl (nI_inc j) ?_
      refine g_goto (tgt := 4) dX4_present_32 (by decide) ?_
      have hi := ih hjn
      rw [mk] at hi
      first
        | (rw [if_pos q20] at hi; exact hi)
        | (rw [if_neg q20] at hi; exact hi)
set_option maxHeartbeats 4000000 in
set_option maxRecDepth 100000 in
theorem wp_X4_present {E : Ev} {M : Mem} {Q : QT} (hW : Wi M) {k : Nat} (hk : k < 4) {S : Sc} (hR : RepC M k S) (hn : S.1 ≤ 10) (h : Q (some (vI (nI (presS S)))) M) : Mth E 1 0 0 kX4_present [vR (1, k, 0)] M Q := by
  refine mth_of (by decide +kernel) [some (vR (1, k, 0)), none, none] (Nat.le_of_ble_eq_true rfl) rfl ?_
  refine g_iconst dX4_present_0 (v := 0) (by decide) ?_
  refine g_istore_1 dX4_present_1 rfl ?_
  refine g_iconst dX4_present_2 (v := 0) (by decide) ?_
  refine g_istore_2 dX4_present_3 rfl ?_
  exact lp_X4_present hW hk hR hn h 0 (Nat.zero_le _)
