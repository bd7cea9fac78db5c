/-! WHO COMES, WHO HAS A CHAIR -/
theorem c_lt {c n : Nat} (hc : c < 2 ^ n) (hn : n ≤ 10) : c < 2048 := by have := pow_le10 hn; omega
set_option maxHeartbeats 4000000 in
set_option maxRecDepth 100000 in
theorem wp_X4_comesWith {E : Ev} {M : Mem} {Q : QT} (hW : Wi M) {k : Nat} (hk : k < 4) {S : Sc} (hR : RepC M k S) (hn : S.1 ≤ 10) {pl : Nat → Int32} (hp : ∀ i, i < S.1 → mI M (2, k, i) 9 = pl i) {c : Nat} (hc : c < 2 ^ S.1) {i : Nat} (hi : i < S.1) (h : Q (some (vI (b2 (cmwS S pl c i = true)))) M) : Mth E 2 0 0 kX4_comesWith [vR (1, k, 0), vR (2, k, i), vI (nI c)] M Q := by
  have m4 := hR.2.2 i 4 hi (by decide)
  have m0 := hR.2.2 i 0 hi (by decide)
  have m9 := hp i hi
  have hc2 := c_lt hc hn
  refine mth_of (by decide +kernel) [some (vR (1, k, 0)), some (vR (2, k, i)), some (vI (nI c)), none] (Nat.le_of_ble_eq_true rfl) rfl ?_
  refine g_iload_n dX4_comesWith_0 rfl rfl ?_
  refine g_aloadR_n dX4_comesWith_1 rfl rfl ?_
  refine n_getI dX4_comesWith_2 fX4_97 rfl hW (vld_pe hk (by omega)) (Or.inl rfl) ?_
  refine n_n2i (n' := 0) dX4_comesWith_5 mX6_isIn lX4_79 ⟨Nat.le_of_ble_eq_true rfl, Nat.le_of_ble_eq_true rfl⟩ ⟨Nat.zero_le _, Nat.zero_le _⟩ (Nat.le_of_ble_eq_true rfl) ?_
  refine wp_X6_isIn hc2 ?_
  refine ⟨_, rfl, ?_⟩
  refine g_if_ne (tgt := 41) dX4_comesWith_8 (by decide) (fun c8 => ?_) (fun c8 => ?_)
  · simp only [b2_0, Decidable.not_not] at c8
    have hmt : (mI M (2, k, i) 4).toNatClampNeg < S.1 := tb_lt hc c8.2
    have pe : pix (mI M (2, k, i) 4) = (mI M (2, k, i) 4).toNatClampNeg := if_pos c8.1
    have k0 : mI M (2, k, pix (mI M (2, k, i) 4)) 0 = S.2.2 (S.2.2 i 4).toNatClampNeg 0 := by rw [pe, hR.2.2 _ 0 hmt (by decide), m4]
    rw [m4] at c8
    refine g_aloadR_n dX4_comesWith_41 rfl rfl ?_
    refine g_aloadR_n dX4_comesWith_42 rfl rfl ?_
    refine n_getI dX4_comesWith_43 fX4_97 rfl hW (vld_pe hk (by omega)) (Or.inl rfl) ?_
    refine n_v1r (n' := 0) dX4_comesWith_46 mX4_one lX4_44 rfl hW (vld_sc hk) rfl rfl ⟨Nat.le_of_ble_eq_true rfl, Nat.le_of_ble_eq_true rfl⟩ ⟨Nat.zero_le _, Nat.zero_le _⟩ (Nat.le_of_ble_eq_true rfl) ?_
    refine wp_X4_one (by exact hW) hk ?_
    refine ⟨_, rfl, ?_⟩
    refine n_getI dX4_comesWith_49 fX4_100 rfl hW (vld_pe hk (pix_lt _)) (Or.inl rfl) ?_
    refine g_iconst dX4_comesWith_52 (v := 3) (by decide) ?_
    refine n_n2i (n' := 1) dX4_comesWith_53 mX6_isUnder lX4_103 ⟨Nat.le_of_ble_eq_true rfl, Nat.le_of_ble_eq_true rfl⟩ ⟨Nat.zero_le _, Nat.zero_le _⟩ (Nat.le_of_ble_eq_true rfl) ?_
    refine wp_X6_isUnder ?_
    refine ⟨_, rfl, ?_⟩
    refine g_if_eq (tgt := 64) dX4_comesWith_56 (by decide) (fun c56 => ?_) (fun c56 => ?_)
    · rw [k0] at c56
      refine g_iconst dX4_comesWith_64 (v := 3) (by decide) ?_
      refine g_istore_3 dX4_comesWith_65 rfl ?_
      refine g_aloadR_n dX4_comesWith_66 rfl rfl ?_
      refine n_getI dX4_comesWith_67 fX4_83 rfl hW (vld_pe hk (by omega)) (Or.inl rfl) ?_
      refine g_iload_n dX4_comesWith_70 rfl rfl ?_
      refine g_iadd dX4_comesWith_71 ?_
      refine g_if_le (tgt := 79) dX4_comesWith_72 (by decide) (fun c72 => ?_) (fun c72 => ?_)
      · rw [m9] at c72
        refine g_iconst dX4_comesWith_79 (v := 0) (by decide) ?_
        refine g_zret dX4_comesWith_80 rfl (Or.inl rfl) ?_
        refine qI h (b2_f ?_)
        simp only [cmwS]
        first
          | (rw [if_neg c8]; simp [*]; done)
          | (rw [if_pos c8]; first | rw [if_pos c56] | rw [if_neg c56]
             simp only [decide_eq_true_eq]; first | exact Int32.not_le.mp c72 | exact Int32.not_lt.mpr c72)
      · rw [m9] at c72
        refine g_iconst dX4_comesWith_75 (v := 1) (by decide) ?_
        refine g_goto (tgt := 80) dX4_comesWith_76 (by decide) ?_
        refine g_zret dX4_comesWith_80 rfl (Or.inr rfl) ?_
        refine qI h (b2_t ?_)
        simp only [cmwS]
        first
          | (rw [if_neg c8]; simp [*]; done)
          | (rw [if_pos c8]; first | rw [if_pos c56] | rw [if_neg c56]
             simp only [decide_eq_true_eq]; first | exact Int32.not_le.mp c72 | exact Int32.not_lt.mpr c72)
    · rw [k0] at c56
      refine g_bipush dX4_comesWith_59 (v := 6) (by decide) ?_
      refine g_goto (tgt := 65) dX4_comesWith_61 (by decide) ?_
      refine g_istore_3 dX4_comesWith_65 rfl ?_
      refine g_aloadR_n dX4_comesWith_66 rfl rfl ?_
      refine n_getI dX4_comesWith_67 fX4_83 rfl hW (vld_pe hk (by omega)) (Or.inl rfl) ?_
      refine g_iload_n dX4_comesWith_70 rfl rfl ?_
      refine g_iadd dX4_comesWith_71 ?_
      refine g_if_le (tgt := 79) dX4_comesWith_72 (by decide) (fun c72 => ?_) (fun c72 => ?_)
      · rw [m9] at c72
        refine g_iconst dX4_comesWith_79 (v := 0) (by decide) ?_
        refine g_zret dX4_comesWith_80 rfl (Or.inl rfl) ?_
        refine qI h (b2_f ?_)
        simp only [cmwS]
        first
          | (rw [if_neg c8]; simp [*]; done)
          | (rw [if_pos c8]; first | rw [if_pos c56] | rw [if_neg c56]
             simp only [decide_eq_true_eq]; first | exact Int32.not_le.mp c72 | exact Int32.not_lt.mpr c72)
      · rw [m9] at c72
        refine g_iconst dX4_comesWith_75 (v := 1) (by decide) ?_
        refine g_goto (tgt := 80) dX4_comesWith_76 (by decide) ?_
        refine g_zret dX4_comesWith_80 rfl (Or.inr rfl) ?_
        refine qI h (b2_t ?_)
        simp only [cmwS]
        first
          | (rw [if_neg c8]; simp [*]; done)
          | (rw [if_pos c8]; first | rw [if_pos c56] | rw [if_neg c56]
             simp only [decide_eq_true_eq]; first | exact Int32.not_le.mp c72 | exact Int32.not_lt.mpr c72)
  · simp only [b2_0, Decidable.not_not] at c8
    rw [m4] at c8
    refine g_aloadR_n dX4_comesWith_11 rfl rfl ?_
    refine n_getI dX4_comesWith_12 fX4_83 rfl hW (vld_pe hk (by omega)) (Or.inl rfl) ?_
    refine g_if_le (tgt := 39) dX4_comesWith_15 (by decide) (fun c15 => ?_) (fun c15 => ?_)
    · have p15 : ¬ 0 < pl i := by rw [← m9]; exact Int32.not_lt.mpr c15
      refine g_iconst dX4_comesWith_39 (v := 0) (by decide) ?_
      refine g_zret dX4_comesWith_40 rfl (Or.inl rfl) ?_
      refine qI h (b2_f ?_)
      simp only [cmwS]
      first
        | (rw [if_neg c8]; simp [*]; done)
        | (rw [if_pos c8]; first | rw [if_pos c56] | rw [if_neg c56]
           simp only [decide_eq_true_eq]; first | exact Int32.not_le.mp c72 | exact Int32.not_lt.mpr c72)
    · have p15 : 0 < pl i := by rw [← m9]; exact Int32.not_le.mp c15
      refine g_aloadR_n dX4_comesWith_18 rfl rfl ?_
      refine n_getI dX4_comesWith_19 fX4_100 rfl hW (vld_pe hk (by omega)) (Or.inl rfl) ?_
      refine g_bipush dX4_comesWith_22 (v := 6) (by decide) ?_
      refine g_icmp_ne (tgt := 35) dX4_comesWith_24 (by decide) (fun c24 => ?_) (fun c24 => ?_)
      · rw [m0] at c24
        refine g_iconst dX4_comesWith_35 (v := 1) (by decide) ?_
        refine g_goto (tgt := 40) dX4_comesWith_36 (by decide) ?_
        refine g_zret dX4_comesWith_40 rfl (Or.inr rfl) ?_
        refine qI h (b2_t ?_)
        simp only [cmwS]
        first
          | (rw [if_neg c8]; simp [*]; done)
          | (rw [if_pos c8]; first | rw [if_pos c56] | rw [if_neg c56]
             simp only [decide_eq_true_eq]; first | exact Int32.not_le.mp c72 | exact Int32.not_lt.mpr c72)
      · rw [m0] at c24
        refine g_aloadR_n dX4_comesWith_27 rfl rfl ?_
        refine n_getI dX4_comesWith_28 fX4_97 rfl hW (vld_pe hk (by omega)) (Or.inl rfl) ?_
        refine g_iconst dX4_comesWith_31 (v := (-1)) (by decide) ?_
        refine g_icmp_ne (tgt := 39) dX4_comesWith_32 (by decide) (fun c32 => ?_) (fun c32 => ?_)
        · rw [m4] at c32
          refine g_iconst dX4_comesWith_39 (v := 0) (by decide) ?_
          refine g_zret dX4_comesWith_40 rfl (Or.inl rfl) ?_
          refine qI h (b2_f ?_)
          simp only [cmwS]
          first
            | (rw [if_neg c8]; simp [*]; done)
            | (rw [if_pos c8]; first | rw [if_pos c56] | rw [if_neg c56]
               simp only [decide_eq_true_eq]; first | exact Int32.not_le.mp c72 | exact Int32.not_lt.mpr c72)
        · rw [m4] at c32
          refine g_iconst dX4_comesWith_35 (v := 1) (by decide) ?_
          refine g_goto (tgt := 40) dX4_comesWith_36 (by decide) ?_
          refine g_zret dX4_comesWith_40 rfl (Or.inr rfl) ?_
          refine qI h (b2_t ?_)
          simp only [cmwS]
          first
            | (rw [if_neg c8]; simp [*]; done)
            | (rw [if_pos c8]; first | rw [if_pos c56] | rw [if_neg c56]
               simp only [decide_eq_true_eq]; first | exact Int32.not_le.mp c72 | exact Int32.not_lt.mpr c72)
set_option maxHeartbeats 4000000 in
set_option maxRecDepth 100000 in
theorem lp_X4_stillComing {E : Ev} {M : Mem} {Q : QT} (hW : Wi M) {k : Nat} (hk : k < 4) {S : Sc} (hR : RepC M k S) (hn : S.1 ≤ 10) {pl : Nat → Int32} (hp : ∀ i, i < S.1 → mI M (2, k, i) 9 = pl i) {c : Nat} (hc : c < 2 ^ S.1) (h : Q (some (vI (nI (stillS S pl c)))) M) : ∀ j, j ≤ S.1 → G E (rm 3 0 0) kX4_stillComing (ZQ E Q 0 0) 0 0 4 [some (vR (1, k, 0)), some (vI (nI c)), some (vI (nI (mk (fun i => c.testBit i && cmwS S pl c i) j))), some (vI (nI j))] [] M := by
  refine up_loop S.1 (fun j hj ih => ?_)
  have hml := mk_lt (fun i => c.testBit i && cmwS S pl c i) j
  have hc2 := c_lt hc hn
  refine g_iload_n dX4_stillComing_4 rfl rfl ?_
  refine g_aloadR_n dX4_stillComing_5 rfl rfl ?_
  refine n_getI dX4_stillComing_6 fX4_35 rfl hW (vld_sc hk) (Or.inl rfl) ?_
  refine g_icmp_ge (tgt := 45) dX4_stillComing_9 (by decide) (fun c9 => ?_) (fun c9 => ?_)
  · have hjn := sz_ge hR.1 (by omega) (by omega) c9
    have hjn2 : j = S.1 := by omega
    refine g_iload_n dX4_stillComing_45 rfl rfl ?_
    refine g_iret dX4_stillComing_46 rfl ?_
    rw [hjn2]; exact h
  · have hjn := sz_lt hR.1 (by omega) (by omega) c9
    refine g_iload_n dX4_stillComing_12 rfl rfl ?_
    refine g_iload_n dX4_stillComing_13 rfl rfl ?_
    refine n_n2i (n' := 0) dX4_stillComing_14 mX6_isIn lX4_79 ⟨Nat.le_of_ble_eq_true rfl, Nat.le_of_ble_eq_true rfl⟩ ⟨Nat.zero_le _, Nat.zero_le _⟩ (Nat.le_of_ble_eq_true rfl) ?_
    refine wp_X6_isIn hc2 ?_
    refine ⟨_, rfl, ?_⟩
    refine g_if_eq (tgt := 39) dX4_stillComing_17 (by decide) (fun c17 => ?_) (fun c17 => ?_)
    · simp only [b2_0, Decidable.not_not, nI_clamp (show j < 2 ^ 31 by omega)] at c17
      have q17 : ¬ (c.testBit j && cmwS S pl c j) = true := by
        intro q; rw [Bool.and_eq_true] at q; exact c17 ⟨IN_of (by omega) (by decide), q.1⟩
      refine g_iinc_3 (v := nI (j + 1)) dX4_stillComing_39 rfl (nI_inc j) ?_
      refine g_goto (tgt := 4) dX4_stillComing_42 (by decide) ?_
      have hi := ih hjn
      rw [mk] at hi
      first
        | (rw [if_pos q17] at hi; exact hi)
        | (rw [if_neg q17] at hi; exact hi)
    · simp only [b2_0, Decidable.not_not, nI_clamp (show j < 2 ^ 31 by omega)] at c17
      refine g_aloadR_n dX4_stillComing_20 rfl rfl ?_
      refine g_aloadR_n dX4_stillComing_21 rfl rfl ?_
      refine g_iload_n dX4_stillComing_22 rfl rfl ?_
      refine n_v1r (n' := 0) dX4_stillComing_23 mX4_one lX4_44 rfl hW (vld_sc hk) rfl rfl ⟨Nat.le_of_ble_eq_true rfl, Nat.le_of_ble_eq_true rfl⟩ ⟨Nat.zero_le _, Nat.zero_le _⟩ (Nat.le_of_ble_eq_true rfl) ?_
      refine wp_X4_oneN (by exact hW) hk (show j < 10 by omega) ?_
      refine ⟨_, rfl, ?_⟩
      refine g_iload_n dX4_stillComing_26 rfl rfl ?_
      refine n_v2i (n' := 2) dX4_stillComing_27 mX4_comesWith lX4_93 rfl hW (vld_sc hk) rfl rfl ⟨Nat.le_of_ble_eq_true rfl, Nat.le_of_ble_eq_true rfl⟩ ⟨Nat.zero_le _, Nat.zero_le _⟩ (Nat.le_of_ble_eq_true rfl) ?_
      refine wp_X4_comesWith (by exact hW) hk hR hn hp hc (by omega) ?_
      refine ⟨_, rfl, ?_⟩
      refine g_if_eq (tgt := 39) dX4_stillComing_30 (by decide) (fun c30 => ?_) (fun c30 => ?_)
      · simp only [b2_0, Decidable.not_not] at c30
        have q17 : ¬ (c.testBit j && cmwS S pl c j) = true := by
          intro q; rw [Bool.and_eq_true] at q; exact c30 q.2
        refine g_iinc_3 (v := nI (j + 1)) dX4_stillComing_39 rfl (nI_inc j) ?_
        refine g_goto (tgt := 4) dX4_stillComing_42 (by decide) ?_
        have hi := ih hjn
        rw [mk] at hi
        first
          | (rw [if_pos q17] at hi; exact hi)
          | (rw [if_neg q17] at hi; exact hi)
      · simp only [b2_0, Decidable.not_not] at c30
        have q17 : (c.testBit j && cmwS S pl c j) = true := by rw [Bool.and_eq_true]; exact ⟨c17.2, c30⟩
        refine g_iload_n dX4_stillComing_33 rfl rfl ?_
        refine g_iconst dX4_stillComing_34 (v := 1) (by decide) ?_
        refine g_iload_n dX4_stillComing_35 rfl rfl ?_
        refine g_ishl dX4_stillComing_36 ?_
        refine g_ior dX4_stillComing_37 ?_
        rw [bt_or (by omega) hml]
        refine g_istore_2 dX4_stillComing_38 rfl ?_
        refine g_iinc_3 (v := nI (j + 1)) dX4_stillComing_39 rfl (nI_inc j) ?_
        refine g_goto (tgt := 4) dX4_stillComing_42 (by decide) ?_
        have hi := ih hjn
        rw [mk] at hi
        first
          | (rw [if_pos q17] at hi; exact hi)
          | (rw [if_neg q17] at hi; exact hi)
set_option maxHeartbeats 4000000 in
set_option maxRecDepth 100000 in
theorem wp_X4_stillComing {E : Ev} {M : Mem} {Q : QT} (hW : Wi M) {k : Nat} (hk : k < 4) {S : Sc} (hR : RepC M k S) (hn : S.1 ≤ 10) {pl : Nat → Int32} (hp : ∀ i, i < S.1 → mI M (2, k, i) 9 = pl i) {c : Nat} (hc : c < 2 ^ S.1) (h : Q (some (vI (nI (stillS S pl c)))) M) : Mth E 3 0 0 kX4_stillComing [vR (1, k, 0), vI (nI c)] M Q := by
  refine mth_of (by decide +kernel) [some (vR (1, k, 0)), some (vI (nI c)), none, none] (Nat.le_of_ble_eq_true rfl) rfl ?_
  refine g_iconst dX4_stillComing_0 (v := 0) (by decide) ?_
  refine g_istore_2 dX4_stillComing_1 rfl ?_
  refine g_iconst dX4_stillComing_2 (v := 0) (by decide) ?_
  refine g_istore_3 dX4_stillComing_3 rfl ?_
  exact lp_X4_stillComing hW hk hR hn hp hc h 0 (Nat.zero_le _)
theorem presS_lt (S : Sc) : presS S < 2 ^ S.1 := mk_lt _ _
theorem stillS_lt (S : Sc) (pl : Nat → Int32) (c : Nat) : stillS S pl c < 2 ^ S.1 := mk_lt _ _
set_option maxHeartbeats 4000000 in
set_option maxRecDepth 100000 in
theorem lp_X4_comers2 {E : Ev} {M : Mem} {Q : QT} (hW : Wi M) {k : Nat} (hk : k < 4) {S : Sc} (hR : RepC M k S) (hn : S.1 ≤ 10) {pl : Nat → Int32} (hp : ∀ i, i < S.1 → mI M (2, k, i) 9 = pl i) {x1 : Int32} : ∀ j, j ≤ 11 → ∀ (c : Nat) (a4 : Option AV), c < 2 ^ S.1 → Q (some (vI (nI (cmS S pl (11 - j) c)))) M → G E (rm 4 0 0) kX4_comers (ZQ E Q 0 0) 0 0 50 [some (vR (1, k, 0)), some (vI x1), some (vI (nI c)), some (vI (nI j)), a4] [] M := by
  refine up_loop 11 (fun j hj ih c a4 hc h => ?_)
  have hc2 := c_lt hc hn
  have hs2 := c_lt (stillS_lt S pl c) hn
  refine g_iload_n dX4_comers_50 rfl rfl ?_
  refine g_bipush dX4_comers_51 (v := 10) (by decide) ?_
  refine g_icmp_gt (tgt := 81) dX4_comers_53 (by decide) (fun c53 => ?_) (fun c53 => ?_)
  · have hj11 : j = 11 := by
      have := nI_toInt (n := j) (by omega)
      simp only [Int32.lt_iff_toInt_lt, zcs] at c53; omega
    subst hj11
    refine g_iload_n dX4_comers_81 rfl rfl ?_
    refine g_iret dX4_comers_82 rfl ?_
    first
      | (rw [if_pos c66] at h; exact h)
      | exact h
  · have hj11 : j < 11 := by
      have := nI_toInt (n := j) (by omega)
      simp only [Int32.lt_iff_toInt_lt, zcs] at c53; omega
    obtain ⟨d, hd⟩ : ∃ d, 11 - j = d + 1 := ⟨10 - j, by omega⟩
    have hd2 : 11 - (j + 1) = d := by omega
    rw [hd, cmS] at h
    refine g_aloadR_n dX4_comers_56 rfl rfl ?_
    refine g_iload_n dX4_comers_57 rfl rfl ?_
    refine n_v1i (n' := 3) dX4_comers_58 mX4_stillComing lX4_90 rfl hW (vld_sc hk) rfl rfl ⟨Nat.le_of_ble_eq_true rfl, Nat.le_of_ble_eq_true rfl⟩ ⟨Nat.zero_le _, Nat.zero_le _⟩ (Nat.le_of_ble_eq_true rfl) ?_
    refine wp_X4_stillComing (by exact hW) hk hR hn hp hc ?_
    refine ⟨_, rfl, ?_⟩
    refine g_istore_4 dX4_comers_61 rfl ?_
    refine g_iload dX4_comers_63 rfl ?_
    refine g_iload_n dX4_comers_65 rfl rfl ?_
    refine g_icmp_ne (tgt := 72) dX4_comers_66 (by decide) (fun c66 => ?_) (fun c66 => ?_)
    · rw [nI_eq (by omega) (by omega)] at c66
      refine g_iload dX4_comers_72 rfl ?_
      refine g_istore_2 dX4_comers_74 rfl ?_
      refine g_iinc_3 (v := nI (j + 1)) dX4_comers_75 rfl (nI_inc j) ?_
      refine g_goto (tgt := 50) dX4_comers_78 (by decide) ?_
      exact ih hj11 _ _ (stillS_lt S pl c) (by rw [hd2]; simpa only [if_neg c66] using h)
    · rw [nI_eq (by omega) (by omega)] at c66
      refine g_goto (tgt := 81) dX4_comers_69 (by decide) ?_
      refine g_iload_n dX4_comers_81 rfl rfl ?_
      refine g_iret dX4_comers_82 rfl ?_
      first
        | (rw [if_pos c66] at h; exact h)
        | exact h
theorem plq {S : Sc} {k r j : Nat} {M M1 : Mem} (hR : RepC M k S) (hf : FrI (D9 k) M M1) (hq : ∀ i, i < j → mI M1 (2, k, i) 9 = plS S r i) {x : Int32} (hx : x = plS S r j) : FrI (D9 k) M (sI M1 (2, k, j) 9 x) ∧ (∀ i, i < j + 1 → mI (sI M1 (2, k, j) 9 x) (2, k, i) 9 = plS S r i) := by
  refine ⟨hf.tr (fr_sI ⟨rfl, rfl, rfl⟩), fun i hi => ?_⟩
  subst hx
  by_cases hij : i = j
  · subst hij; simp [mI, sI]
  · have := hq i (by omega)
    simp [mI, sI, hij]; exact this
set_option maxHeartbeats 4000000 in
set_option maxRecDepth 100000 in
theorem lp_X4_comers1 {E : Ev} {M : Mem} {Q : QT} (hW : Wi M) {k : Nat} (hk : k < 4) {S : Sc} (hR : RepC M k S) (hn : S.1 ≤ 10) {r : Nat} (hr : r < 1024) (h : ∀ M', FrI (D9 k) M M' → Q (some (vI (nI (comersS S r)))) M') : ∀ j, j ≤ S.1 → ∀ M1, FrI (D9 k) M M1 → (∀ i, i < j → mI M1 (2, k, i) 9 = plS S r i) → G E (rm 4 0 0) kX4_comers (ZQ E Q 0 0) 0 0 2 [some (vR (1, k, 0)), some (vI (nI r)), some (vI (nI j)), none, none] [] M1 := by
  refine up_loop S.1 (fun j hj ih M1 hf hq => ?_)
  have hW1 := hf.W hW
  have hR1 := hR.f9 hf
  refine g_iload_n dX4_comers_2 rfl rfl ?_
  refine g_aloadR_n dX4_comers_3 rfl rfl ?_
  refine n_getI dX4_comers_4 fX4_35 rfl hW1 (vld_sc hk) (Or.inl rfl) ?_
  refine g_icmp_ge (tgt := 43) dX4_comers_7 (by decide) (fun c7 => ?_) (fun c7 => ?_)
  · have hjn := sz_ge hR1.1 (by omega) (by omega) c7
    have hjn2 : j = S.1 := by omega
    refine g_aloadR_n dX4_comers_43 rfl rfl ?_
    refine n_v0i (n' := 1) dX4_comers_44 mX4_present lX4_86 rfl hW1 (vld_sc hk) rfl rfl ⟨Nat.le_of_ble_eq_true rfl, Nat.le_of_ble_eq_true rfl⟩ ⟨Nat.zero_le _, Nat.zero_le _⟩ (Nat.le_of_ble_eq_true rfl) ?_
    refine wp_X4_present (by exact hW1) hk hR1 hn ?_
    refine ⟨_, rfl, ?_⟩
    refine g_istore_2 dX4_comers_47 rfl ?_
    refine g_iconst dX4_comers_48 (v := 0) (by decide) ?_
    refine g_istore_3 dX4_comers_49 rfl ?_
    refine lp_X4_comers2 hW1 hk hR1 hn (pl := plS S r) (fun i hi => hq i (by omega)) 0 (by decide) (presS S) none (presS_lt S) ?_
    exact h M1 hf
  · have hjn := sz_lt hR1.1 (by omega) (by omega) c7
    refine g_aloadR_n dX4_comers_10 rfl rfl ?_
    refine g_iload_n dX4_comers_11 rfl rfl ?_
    refine n_v1r (n' := 0) dX4_comers_12 mX4_one lX4_44 rfl hW1 (vld_sc hk) rfl rfl ⟨Nat.le_of_ble_eq_true rfl, Nat.le_of_ble_eq_true rfl⟩ ⟨Nat.zero_le _, Nat.zero_le _⟩ (Nat.le_of_ble_eq_true rfl) ?_
    refine wp_X4_oneN (by exact hW1) hk (show j < 10 by omega) ?_
    refine ⟨_, rfl, ?_⟩
    refine g_aloadR_n dX4_comers_15 rfl rfl ?_
    refine g_iload_n dX4_comers_16 rfl rfl ?_
    refine n_v1i (n' := 2) dX4_comers_17 mX4_pullOn lX4_76 rfl hW1 (vld_sc hk) rfl rfl ⟨Nat.le_of_ble_eq_true rfl, Nat.le_of_ble_eq_true rfl⟩ ⟨Nat.zero_le _, Nat.zero_le _⟩ (Nat.le_of_ble_eq_true rfl) ?_
    refine wp_X4_pullOn (by exact hW1) hk hR1 hn hjn ?_
    refine ⟨_, rfl, ?_⟩
    refine g_iload_n dX4_comers_20 rfl rfl ?_
    refine g_iload_n dX4_comers_21 rfl rfl ?_
    refine n_n2i (n' := 0) dX4_comers_22 mX6_isIn lX4_79 ⟨Nat.le_of_ble_eq_true rfl, Nat.le_of_ble_eq_true rfl⟩ ⟨Nat.zero_le _, Nat.zero_le _⟩ (Nat.le_of_ble_eq_true rfl) ?_
    refine wp_X6_isIn (by omega) ?_
    refine ⟨_, rfl, ?_⟩
    refine g_if_eq (tgt := 32) dX4_comers_25 (by decide) (fun c25 => ?_) (fun c25 => ?_)
    · simp only [b2_0, Decidable.not_not, nI_clamp (show j < 2 ^ 31 by omega)] at c25
      have q25 : willS S j + 0 = plS S r j := by unfold plS; rw [if_neg (fun q => c25 ⟨IN_of (by omega) (by decide), q⟩)]
      refine g_iconst dX4_comers_32 (v := 0) (by decide) ?_
      refine g_iadd dX4_comers_33 ?_
      refine n_putI dX4_comers_34 fX4_83 rfl hW1 (vld_pe hk (by omega)) rfl ?_
      refine g_iinc_2 (v := nI (j + 1)) dX4_comers_37 rfl (nI_inc j) ?_
      refine g_goto (tgt := 2) dX4_comers_40 (by decide) ?_
      obtain ⟨f1, f2⟩ := plq hR hf hq q25
      exact ih hjn _ f1 f2
    · simp only [b2_0, Decidable.not_not, nI_clamp (show j < 2 ^ 31 by omega)] at c25
      have q25 : willS S j + 4 = plS S r j := by unfold plS; rw [if_pos c25.2]
      refine g_iconst dX4_comers_28 (v := 4) (by decide) ?_
      refine g_goto (tgt := 33) dX4_comers_29 (by decide) ?_
      refine g_iadd dX4_comers_33 ?_
      refine n_putI dX4_comers_34 fX4_83 rfl hW1 (vld_pe hk (by omega)) rfl ?_
      refine g_iinc_2 (v := nI (j + 1)) dX4_comers_37 rfl (nI_inc j) ?_
      refine g_goto (tgt := 2) dX4_comers_40 (by decide) ?_
      obtain ⟨f1, f2⟩ := plq hR hf hq q25
      exact ih hjn _ f1 f2
set_option maxHeartbeats 4000000 in
set_option maxRecDepth 100000 in
theorem wp_X4_comers {E : Ev} {M : Mem} {Q : QT} (hW : Wi M) {k : Nat} (hk : k < 4) {S : Sc} (hR : RepC M k S) (hn : S.1 ≤ 10) {r : Nat} (hr : r < 1024) (h : ∀ M', FrI (D9 k) M M' → Q (some (vI (nI (comersS S r)))) M') : Mth E 4 0 0 kX4_comers [vR (1, k, 0), vI (nI r)] M Q := by
  refine mth_of (by decide +kernel) [some (vR (1, k, 0)), some (vI (nI r)), none, none, none] (Nat.le_of_ble_eq_true rfl) rfl ?_
  refine g_iconst dX4_comers_0 (v := 0) (by decide) ?_
  refine g_istore_2 dX4_comers_1 rfl ?_
  exact lp_X4_comers1 hW hk hR hn hr h 0 (Nat.zero_le _) M FrI.rf (fun i hi => absurd hi (by omega))
