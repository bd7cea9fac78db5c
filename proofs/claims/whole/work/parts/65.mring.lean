/-! THE REFERENCE: RINGING UP, MOVES -/
theorem nI_and (l p : Nat) : nI l &&& nI p = nI (l &&& p) := by
  apply Int32.toBitVec_inj.mp
  rw [Int32.toBitVec_and, nI_bv, nI_bv, nI_bv]
  apply BitVec.eq_of_getLsbD_eq
  intro i hi
  simp only [BitVec.getLsbD_and, BitVec.getLsbD_ofNat, hi, decide_true, Bool.true_and, Nat.testBit_and]
theorem rg_c (x p : Int32) : (x &&& (p ^^^ (-1)) = 0) ↔ x &&& p = x := by
  rw [← Int32.toBitVec_inj, ← Int32.toBitVec_inj, Int32.toBitVec_and, Int32.toBitVec_and, Int32.toBitVec_xor, show ((-1) : Int32).toBitVec = BitVec.allOnes 32 by decide, show (0 : Int32).toBitVec = 0#32 by decide]
  constructor
  · intro h
    apply BitVec.eq_of_getLsbD_eq
    intro i hi
    have h2 := congrArg (fun b => b.getLsbD i) h
    simp only [BitVec.getLsbD_and, BitVec.getLsbD_xor, BitVec.getLsbD_allOnes, BitVec.getLsbD_zero, hi, decide_true] at h2
    simp only [BitVec.getLsbD_and]
    revert h2
    cases x.toBitVec.getLsbD i <;> cases p.toBitVec.getLsbD i <;> simp
  · intro h
    apply BitVec.eq_of_getLsbD_eq
    intro i hi
    have h2 := congrArg (fun b => b.getLsbD i) h
    simp only [BitVec.getLsbD_and] at h2
    simp only [BitVec.getLsbD_and, BitVec.getLsbD_xor, BitVec.getLsbD_allOnes, BitVec.getLsbD_zero, hi, decide_true]
    revert h2
    cases x.toBitVec.getLsbD i <;> cases p.toBitVec.getLsbD i <;> simp
theorem rg_no {S : Sc} (hs : S.1 ≤ 10) {l : Nat} (h1 : 2 ^ S.1 ≤ l) (h2 : l < 1024) : ¬ nI l &&& (nI (presS S) ^^^ (-1)) = 0 := fun q => by
  have q2 := (rg_c _ _).mp q
  have hp := presS_lt S
  have := pow_le10 hs
  have hle : l &&& presS S ≤ presS S := Nat.and_le_right
  rw [nI_and, nI_eq (by omega) (by omega)] at q2
  omega
theorem rg_top {S : Sc} (hs : S.1 ≤ 10) (k : Int32) : ∀ d, 2 ^ S.1 + d ≤ 1024 → rgF S k (2 ^ S.1 + d) = rgF S k (2 ^ S.1)
  | 0, _ => rfl
  | d + 1, h => by
    rw [← Nat.add_assoc, rgF, if_pos (rg_no hs (Nat.le_add_right _ _) (by omega))]
    exact rg_top hs k d (by omega)
theorem rg_all {S : Sc} (hs : S.1 ≤ 10) (k : Int32) : rgF S k rgN = rgF S k (2 ^ S.1) := by
  have h := pow_le10 hs
  have h2 := rg_top hs k (1024 - 2 ^ S.1) (by omega)
  rw [show 2 ^ S.1 + (1024 - 2 ^ S.1) = rgN by rw [rgN_eq]; omega] at h2
  exact h2
set_option maxHeartbeats 4000000 in
set_option maxRecDepth 100000 in
theorem lp_X7_ring2 {E : Ev} {M0 : Mem} {Q : QT} (hW0 : Wi M0) {S : Sc} (hR0 : RepR M0 S) (hO : OkS S) {k w : Int32} (h : ∀ M', FrI DC M0 M' → Q (some (vI (if w = 0 then (rgF S k (2 ^ S.1)).1 else (rgF S k (2 ^ S.1)).2))) M') : ∀ j, j ≤ 2 ^ S.1 → ∀ (M : Mem), FrI DC M0 M → G E (rm 3 0 0) kX7_ring (ZQ E Q 0 0) 0 0 81 [some (vR (20, 0, 0)), some (vI k), some (vI w), some (vI (rgF S k j).1), some (vI (rgF S k j).2), some (vI (nI (presS S))), some (vI (nI j))] [] M := by
  refine up_loop (2 ^ S.1) (fun j hj ih M hf => ?_)
  have hW := hf.W hW0
  have hR := hR0.dc hf
  have hsz := hR.1
  have hs10 := hO.1
  have hpw := pow_le10 hO.1
  refine g_iload dX7_ring_81 rfl ?_
  refine g_iconst dX7_ring_83 (v := 1) (by decide) ?_
  refine g_aloadR_n dX7_ring_84 rfl rfl ?_
  refine n_getI dX7_ring_85 fX7_102 rfl hW vld_x20 (Or.inl rfl) ?_
  rw [hsz]
  refine g_ishl dX7_ring_88 ?_
  rw [bt_sh (by omega)]
  refine g_icmp_ge (tgt := 148) dX7_ring_89 (by decide) (fun c89 => ?_) (fun c89 => ?_)
  · have hjn2 : j = 2 ^ S.1 := by rw [nI_leI (by omega) (by omega)] at c89; omega
    refine g_iload_n dX7_ring_148 rfl rfl ?_
    refine g_if_ne (tgt := 156) dX7_ring_149 (by decide) (fun c149 => ?_) (fun c149 => ?_)
    · refine g_iload dX7_ring_156 rfl ?_
      refine g_iret dX7_ring_158 rfl ?_
      subst hjn2
      have key := h M hf
      rw [if_neg c149] at key
      exact key
    · refine g_iload_n dX7_ring_152 rfl rfl ?_
      refine g_goto (tgt := 158) dX7_ring_153 (by decide) ?_
      refine g_iret dX7_ring_158 rfl ?_
      subst hjn2
      have key := h M hf
      rw [if_pos (by first | exact c149 | exact Decidable.not_not.mp c149)] at key
      exact key
  · have hjn : j < 2 ^ S.1 := by rw [nI_leI (by omega) (by omega)] at c89; omega
    have e11 : cnt j 11 = cnt j 10 := cnt_top (c := j) (n := 10) (by omega) 1
    refine g_aloadR_n dX7_ring_92 rfl rfl ?_
    refine g_iload dX7_ring_93 rfl ?_
    refine n_v1i (n' := 0) dX7_ring_95 mX7_bits lX7_248 rfl hW vld_x20 rfl rfl ⟨Nat.le_of_ble_eq_true rfl, Nat.le_of_ble_eq_true rfl⟩ ⟨Nat.zero_le _, Nat.zero_le _⟩ (Nat.le_of_ble_eq_true rfl) ?_
    refine wp_X7_bits (by exact hW) (m := j) (by omega) ?_
    refine ⟨_, rfl, ?_⟩
    refine g_iload_n dX7_ring_98 rfl rfl ?_
    refine g_icmp_ne (tgt := 142) dX7_ring_99 (by decide) (fun c99 => ?_) (fun c99 => ?_)
    · refine g_iinc_6 (v := nI (j + 1)) dX7_ring_142 rfl (nI_inc j) ?_
      refine g_goto (tgt := 81) dX7_ring_145 (by decide) ?_
      have eb : rgF S k (j + 1) = rgF S k j := by
        simp only [rgF]
        by_cases z : nI j &&& (nI (presS S) ^^^ (-1)) = 0
        · rw [if_neg (not_not_intro z), if_pos (by rw [e11]; exact c99)]
        · rw [if_pos z]
      have key := ih hjn M hf
      rw [eb] at key
      exact key
    · refine g_iload dX7_ring_102 rfl ?_
      refine g_iload dX7_ring_104 rfl ?_
      refine g_iand dX7_ring_106 ?_
      refine g_iload dX7_ring_107 rfl ?_
      refine g_icmp_eq (tgt := 115) dX7_ring_109 (by decide) (fun c109 => ?_) (fun c109 => ?_)
      · refine g_aloadR_n dX7_ring_115 rfl rfl ?_
        refine g_iload dX7_ring_116 rfl ?_
        refine n_v1v (n' := 2) dX7_ring_118 mX7_comes lX7_214 rfl hW vld_x20 rfl rfl ⟨Nat.le_of_ble_eq_true rfl, Nat.le_of_ble_eq_true rfl⟩ ⟨Nat.zero_le _, Nat.zero_le _⟩ (Nat.le_of_ble_eq_true rfl) ?_
        refine wp_X7_comes (r := j) (by exact hW) hR hO (by omega) (fun M1 hf1 ho1 => ?_)
        have hW2 := hf1.W (by exact hW)
        have e39 : mI M1 (20, 0, 0) 39 = nI (rgT S j) := ho1.2.2.2.trans (congrArg nI (cnt_11 (seatS_lt S _) hO.1).symm)
        refine ⟨rfl, ?_⟩
        refine g_aloadR_n dX7_ring_121 rfl rfl ?_
        refine n_getI dX7_ring_122 fX7_211 rfl hW2 vld_x20 (Or.inl rfl) ?_
        rw [e39]
        refine g_iload dX7_ring_125 rfl ?_
        refine g_icmp_gt (tgt := 133) dX7_ring_127 (by decide) (fun c127 => ?_) (fun c127 => ?_)
        · refine g_iload dX7_ring_133 rfl ?_
          refine g_istore_3 dX7_ring_135 rfl ?_
          refine g_aloadR_n dX7_ring_136 rfl rfl ?_
          refine n_getI dX7_ring_137 fX7_211 rfl hW2 vld_x20 (Or.inl rfl) ?_
          rw [e39]
          refine g_istore_4 dX7_ring_140 rfl ?_
          refine g_iinc_6 (v := nI (j + 1)) dX7_ring_142 rfl (nI_inc j) ?_
          refine g_goto (tgt := 81) dX7_ring_145 (by decide) ?_
          have c99 : nI (cnt j 10) = k := by first | exact c99 | exact Decidable.not_not.mp c99
          have z : nI j &&& (nI (presS S) ^^^ (-1)) = 0 := (rg_c _ _).mpr (by first | exact c109 | exact Decidable.not_not.mp c109)
          have eb : rgF S k (j + 1) = (nI j, nI (rgT S j)) := by
            simp only [rgF]
            rw [if_neg (not_not_intro z), if_neg (by rw [e11]; exact not_not_intro c99), if_neg (Int32.not_le.mpr c127)]
          have key := ih hjn M1 (hf.tr hf1)
          rw [eb] at key
          exact key
        · refine g_goto (tgt := 142) dX7_ring_130 (by decide) ?_
          refine g_iinc_6 (v := nI (j + 1)) dX7_ring_142 rfl (nI_inc j) ?_
          refine g_goto (tgt := 81) dX7_ring_145 (by decide) ?_
          have c99 : nI (cnt j 10) = k := by first | exact c99 | exact Decidable.not_not.mp c99
          have z : nI j &&& (nI (presS S) ^^^ (-1)) = 0 := (rg_c _ _).mpr (by first | exact c109 | exact Decidable.not_not.mp c109)
          have eb : rgF S k (j + 1) = rgF S k j := by
            simp only [rgF]
            rw [if_neg (not_not_intro z), if_neg (by rw [e11]; exact not_not_intro c99), if_pos (Int32.not_lt.mp c127)]
          have key := ih hjn M1 (hf.tr hf1)
          rw [eb] at key
          exact key
      · refine g_goto (tgt := 142) dX7_ring_112 (by decide) ?_
        refine g_iinc_6 (v := nI (j + 1)) dX7_ring_142 rfl (nI_inc j) ?_
        refine g_goto (tgt := 81) dX7_ring_145 (by decide) ?_
        have eb : rgF S k (j + 1) = rgF S k j := by
          simp only [rgF]
          rw [if_pos (fun q => c109 ((rg_c _ _).mp q))]
        have key := ih hjn M hf
        rw [eb] at key
        exact key
set_option maxHeartbeats 4000000 in
set_option maxRecDepth 100000 in
theorem lp_X7_ring1 {E : Ev} {M : Mem} {Q : QT} (hW : Wi M) {S : Sc} (hR : RepR M S) (hO : OkS S) {k w : Int32} (h : G E (rm 3 0 0) kX7_ring (ZQ E Q 0 0) 0 0 78 [some (vR (20, 0, 0)), some (vI k), some (vI w), some (vI (-1)), some (vI (-1)), some (vI (nI (presS S))), some (vI (nI S.1))] [] M) : ∀ j, j ≤ S.1 → G E (rm 3 0 0) kX7_ring (ZQ E Q 0 0) 0 0 44 [some (vR (20, 0, 0)), some (vI k), some (vI w), some (vI (-1)), some (vI (-1)), some (vI (nI (mk (fun i => S.2.2 i 8 == 0) j))), some (vI (nI j))] [] M := by
  refine up_loop S.1 (fun j hj ih => ?_)
  have hsz := hR.1
  have hs10 := hO.1
  refine g_iload dX7_ring_44 rfl ?_
  refine g_aloadR_n dX7_ring_46 rfl rfl ?_
  refine n_getI dX7_ring_47 fX7_102 rfl hW vld_x20 (Or.inl rfl) ?_
  refine g_icmp_ge (tgt := 78) dX7_ring_50 (by decide) (fun c50 => ?_) (fun c50 => ?_)
  · rw [hsz] at c50
    have hjn2 : j = S.1 := by rw [nI_leI (by omega) (by omega)] at c50; omega
    subst hjn2
    exact h
  · rw [hsz] at c50
    have hjn : j < S.1 := by rw [nI_leI (by omega) (by omega)] at c50; omega
    refine g_aloadR_n dX7_ring_53 rfl rfl ?_
    refine n_getR dX7_ring_54 fX7_53 rfl hW vld_x20 rfl rfl ?_
    refine g_iload dX7_ring_57 rfl ?_
    refine n_iald (j := j) dX7_ring_59 rfl hW (vld_ma (by decide : 9 < 25)) (by decide) rfl (show j < 10 by omega) ?_
    rw [show mI M (21, 9, 0) j = S.2.2 j 8 from hR.2.2 j 8 hjn (by decide)]
    refine g_if_ne (tgt := 72) dX7_ring_60 (by decide) (fun c60 => ?_) (fun c60 => ?_)
    · refine g_iinc_6 (v := nI (j + 1)) dX7_ring_72 rfl (nI_inc j) ?_
      refine g_goto (tgt := 44) dX7_ring_75 (by decide) ?_
      rw [← mk_n (P := fun i => S.2.2 i 8 == 0) (by simpa using c60)]
      exact ih hjn
    · refine g_iload dX7_ring_63 rfl ?_
      refine g_iconst dX7_ring_65 (v := 1) (by decide) ?_
      refine g_iload dX7_ring_66 rfl ?_
      refine g_ishl dX7_ring_68 ?_
      rw [bt_sh (by omega)]
      refine g_iadd dX7_ring_69 ?_
      rw [nI_add]
      refine g_istore_5 dX7_ring_70 rfl ?_
      refine g_iinc_6 (v := nI (j + 1)) dX7_ring_72 rfl (nI_inc j) ?_
      refine g_goto (tgt := 44) dX7_ring_75 (by decide) ?_
      have c60 : S.2.2 j 8 = 0 := by first | exact c60 | exact Decidable.not_not.mp c60
      rw [← mk_s (P := fun i => S.2.2 i 8 == 0) (by simpa using c60)]
      exact ih hjn
set_option maxHeartbeats 4000000 in
set_option maxRecDepth 100000 in
theorem wp_X7_ring {E : Ev} {M : Mem} {Q : QT} (hW : Wi M) {X : Sys} (hX : RepMo M X) (hO : OkX X) {k w : Int32} (h : ∀ M', FrM M M' → RepMo M' (opRing X k w).2 → Q (some (vI (opRing X k w).1)) M') : Mth E 3 0 0 kX7_ring [vR (20, 0, 0), vI k, vI w] M Q := by
  have hsz := hX.1.1
  have hs10 : (xS X).1 ≤ 10 := hO.1.1
  refine mth_of (by decide +kernel) [some (vR (20, 0, 0)), some (vI k), some (vI w), none, none, none, none] (Nat.le_of_ble_eq_true rfl) rfl ?_
  refine g_iload_n dX7_ring_0 rfl rfl ?_
  refine g_if_lt (tgt := 9) dX7_ring_1 (by decide) (fun c1 => ?_) (fun c1 => ?_)
  · refine g_aloadR_n dX7_ring_9 rfl rfl ?_
    refine g_bipush dX7_ring_10 (v := (-5)) (by decide) ?_
    refine n_v1i (n' := 0) dX7_ring_12 mX7_noTen lX7_128 rfl hW vld_x20 rfl rfl ⟨Nat.le_of_ble_eq_true rfl, Nat.le_of_ble_eq_true rfl⟩ ⟨Nat.zero_le _, Nat.zero_le _⟩ (Nat.le_of_ble_eq_true rfl) ?_
    refine wp_X7_noTen (j := 5) (by exact hW) (by decide) (by decide) ?_
    refine ⟨_, rfl, ?_⟩
    refine g_iret dX7_ring_15 rfl ?_
    have e : opRing X k w = ((rfX X 5).1 - 10, (rfX X 5).2) := by
      unfold opRing
      rw [if_pos c1]
    rw [e] at h
    exact h _ (frM_sI (by decide)) (repMo_rfm hX (by decide) (by decide))
  · refine g_iload_n dX7_ring_4 rfl rfl ?_
    refine g_iconst dX7_ring_5 (v := 1) (by decide) ?_
    refine g_icmp_le (tgt := 16) dX7_ring_6 (by decide) (fun c6 => ?_) (fun c6 => ?_)
    · refine g_aloadR_n dX7_ring_16 rfl rfl ?_
      refine g_iload_n dX7_ring_17 rfl rfl ?_
      refine g_iconst dX7_ring_18 (v := 0) (by decide) ?_
      refine g_iconst dX7_ring_19 (v := 3) (by decide) ?_
      refine n_v3i (n' := 0) dX7_ring_20 mX7_isFrom lX7_120 rfl hW vld_x20 rfl rfl ⟨Nat.le_of_ble_eq_true rfl, Nat.le_of_ble_eq_true rfl⟩ ⟨Nat.zero_le _, Nat.zero_le _⟩ (Nat.le_of_ble_eq_true rfl) ?_
      refine wp_X7_isFrom ?_
      refine ⟨_, rfl, ?_⟩
      refine g_if_ne (tgt := 33) dX7_ring_23 (by decide) (fun c23 => ?_) (fun c23 => ?_)
      · simp only [b2_0, Decidable.not_not] at c23
        refine g_iconst dX7_ring_33 (v := (-1)) (by decide) ?_
        refine g_istore_3 dX7_ring_34 rfl ?_
        refine g_iconst dX7_ring_35 (v := (-1)) (by decide) ?_
        refine g_istore_4 dX7_ring_36 rfl ?_
        refine g_iconst dX7_ring_38 (v := 0) (by decide) ?_
        refine g_istore_5 dX7_ring_39 rfl ?_
        refine g_iconst dX7_ring_41 (v := 0) (by decide) ?_
        refine g_istore_6 dX7_ring_42 rfl ?_
        have e : opRing X k w = (if w = 0 then (rgF (xS X) k (2 ^ (xS X).1)).1 else (rgF (xS X) k (2 ^ (xS X).1)).2, X) := by
          unfold opRing
          rw [if_neg c1, if_neg (not_not_intro c6), if_neg (fun z => by simp only [fromP, Int32.lt_iff_toInt_lt, zcs] at *; omega), if_neg (fun z => z (by simp only [fromP, Int32.le_iff_toInt_le, zcs] at *; omega)), rg_all hs10]
        rw [e] at h
        dsimp only at h
        refine lp_X7_ring1 hW hX.1 hO.1 ?_ 0 (Nat.zero_le _)
        refine g_iconst dX7_ring_78 (v := 0) (by decide) ?_
        refine g_istore_6 dX7_ring_79 rfl ?_
        exact lp_X7_ring2 hW hX.1 hO.1 (fun M' hf => h _ (frM_DM (hf.mono DC_DM)) (hX.dm (hf.mono DC_DM) (hX.1.dc hf))) 0 (Nat.zero_le _) M FrI.rf
      · simp only [b2_0, Decidable.not_not] at c23
        refine g_aloadR_n dX7_ring_26 rfl rfl ?_
        refine g_bipush dX7_ring_27 (v := (-6)) (by decide) ?_
        refine n_v1i (n' := 0) dX7_ring_29 mX7_noTen lX7_128 rfl hW vld_x20 rfl rfl ⟨Nat.le_of_ble_eq_true rfl, Nat.le_of_ble_eq_true rfl⟩ ⟨Nat.zero_le _, Nat.zero_le _⟩ (Nat.le_of_ble_eq_true rfl) ?_
        refine wp_X7_noTen (j := 6) (by exact hW) (by decide) (by decide) ?_
        refine ⟨_, rfl, ?_⟩
        refine g_iret dX7_ring_32 rfl ?_
        have e : opRing X k w = ((rfX X 6).1 - 10, (rfX X 6).2) := by
          unfold opRing
          rw [if_neg c1, if_neg (not_not_intro c6)]
          by_cases z : k < 0
          · rw [if_pos z]
          · rw [if_neg z, if_pos (fun q => c23 ?_)]
            simp only [fromP, Int32.lt_iff_toInt_lt, Int32.le_iff_toInt_le, zcs] at *
            omega
        rw [e] at h
        exact h _ (frM_sI (by decide)) (repMo_rfm hX (by decide) (by decide))
    · refine g_aloadR_n dX7_ring_9 rfl rfl ?_
      refine g_bipush dX7_ring_10 (v := (-5)) (by decide) ?_
      refine n_v1i (n' := 0) dX7_ring_12 mX7_noTen lX7_128 rfl hW vld_x20 rfl rfl ⟨Nat.le_of_ble_eq_true rfl, Nat.le_of_ble_eq_true rfl⟩ ⟨Nat.zero_le _, Nat.zero_le _⟩ (Nat.le_of_ble_eq_true rfl) ?_
      refine wp_X7_noTen (j := 5) (by exact hW) (by decide) (by decide) ?_
      refine ⟨_, rfl, ?_⟩
      refine g_iret dX7_ring_15 rfl ?_
      have e : opRing X k w = ((rfX X 5).1 - 10, (rfX X 5).2) := by
        unfold opRing
        rw [if_neg c1, if_pos c6]
      rw [e] at h
      exact h _ (frM_sI (by decide)) (repMo_rfm hX (by decide) (by decide))
theorem RepR.dt {M M' : Mem} {S : Sc} (h : RepR M S) (hf : FrI DT M M') : RepR M' S := h.fr hf (fun j hj q => by rcases q with q | q; (have := q.2; omega); cases q.1) (fun i f hf9 q => by rcases q with q | q; cases q.1; (have := q.2; simp only at this; omega))
theorem RepMo.trc {M M' : Mem} {X : Sys} {L : List Int32} (h : RepMo M X) (hf : FrI DT M M') (hn : RepTrM M' L) : RepMo M' (setL X L) := by
  obtain ⟨h1, h2, h3, h4, h5, h6, h7⟩ := h
  have hJ : ∀ b, mJ M' b = mJ M b := fun b => by unfold mJ; rw [hf.1]
  have hA : ∀ j i, j ≠ 24 → mI M' (21, j, 0) i = mI M (21, j, 0) i := fun j i hj => hf.2 _ _ (fun q => by
    rcases q with q | q
    · cases q.1
    · exact hj q.2)
  have hB : ∀ f, f ≠ 48 → mI M' (20, 0, 0) f = mI M (20, 0, 0) f := fun f hf2 => hf.2 _ _ (fun q => by
    rcases q with q | q
    · exact hf2 q.2
    · cases q.1)
  refine ⟨h1.dt hf, ?_, fun s hs => ?_, fun j a b => (hA 0 j (by decide)).trans (h4 j a b), (hB 7 (by decide)).trans h5, hn, fun j hj => (hA _ _ (by decide)).trans (h7.1 j hj), fun j hj => (hA _ _ (by decide)).trans (h7.2.1 j hj), fun j hj => (hA _ _ (by decide)).trans (h7.2.2 j hj)⟩
  · show RepImM M' (xI X)
    revert h2
    cases xI X with
    | none => exact fun h2 => (hB 49 (by decide)).trans h2
    | some S => exact fun h2 => ⟨(hB 49 (by decide)).trans h2.1, (hA _ _ (by decide)).trans h2.2.1, fun j a b => (hA _ _ (by decide)).trans (h2.2.2.1 j a b), fun i f a b => (hA _ _ (by decide)).trans (h2.2.2.2 i f a b)⟩
  · obtain ⟨g1, g2, g3⟩ := h3 s hs
    exact ⟨(hA _ _ (by decide)).trans g1, fun q => ⟨(hA _ _ (by decide)).trans (g2 q).1, (hA _ _ (by decide)).trans (g2 q).2.1, fun j hj => by rw [hJ]; exact (g2 q).2.2 j hj⟩, fun q => (hA _ _ (by decide)).trans (g3 q)⟩
theorem DT_20 : ∀ b f, DT b f → 20 ≤ b.1 := fun b f h => h.elim (fun h => by omega) (fun h => by omega)
theorem kd_c {S : Sc} (hO : OkS S) {p : Nat} (hp : p < S.1) : ∃ k, S.2.2 p 0 = nI k ∧ k < 7 := ⟨_, (IN_nI (hO.2.2.2.2.2 p hp).1).1, (IN_nI (hO.2.2.2.2.2 p hp).1).2⟩
set_option maxHeartbeats 4000000 in
set_option maxRecDepth 100000 in
theorem wp_X7_coming0 {E : Ev} {M : Mem} {Q : QT} (hW : Wi M) {S : Sc} (hR : RepR M S) (hO : OkS S) {p : Nat} (hp : p < S.1) (hk : S.2.2 p 0 = 0) {L : List Int32} (hr0 : RepTrM M L) (hL : L.length ≤ 70) {x : Int32} (h : ∀ M', FrI DT M M' → RepTrM M' (L ++ comL 0) → Q (some (vI (comV 0 (nI p) (S.2.2 p 1) x))) M') : Mth E 1 0 0 kX7_coming [vR (20, 0, 0), vI (nI p), vI x] M Q := by
  have hs10 := hO.1
  refine mth_of (by decide +kernel) [some (vR (20, 0, 0)), some (vI (nI p)), some (vI x), none, none, none, none, none] (Nat.le_of_ble_eq_true rfl) rfl ?_
  refine g_aloadR_n dX7_coming_0 rfl rfl ?_
  refine n_getR dX7_coming_1 fX7_29 rfl hW vld_x20 rfl rfl ?_
  refine g_iload_n dX7_coming_4 rfl rfl ?_
  refine n_iald (j := p) dX7_coming_5 rfl hW (vld_ma (by decide : 1 < 25)) (by decide) rfl (show p < 10 by omega) ?_
  rw [show mI M (21, 1, 0) p = 0 from (hR.2.2 p 0 hp (by decide)).trans hk]
  refine g_istore_3 dX7_coming_6 rfl ?_
  refine g_iload_n dX7_coming_7 rfl rfl ?_
  refine g_istore_4 dX7_coming_8 rfl ?_
  refine g_aloadR_n dX7_coming_10 rfl rfl ?_
  refine g_iload_n dX7_coming_11 rfl rfl ?_
  refine g_iconst dX7_coming_12 (v := 1) (by decide) ?_
  refine n_v2i (n' := 0) dX7_coming_13 mX7_isUnder lX7_116 rfl hW vld_x20 rfl rfl ⟨Nat.le_of_ble_eq_true rfl, Nat.le_of_ble_eq_true rfl⟩ ⟨Nat.zero_le _, Nat.zero_le _⟩ (Nat.le_of_ble_eq_true rfl) ?_
  refine wp_X7_isUnder ?_
  refine ⟨_, rfl, ?_⟩
  rw [show b2 (iuP 0 1) = 0 by decide]
  refine g_istore_5 dX7_coming_16 rfl ?_
  refine g_aloadR_n dX7_coming_18 rfl rfl ?_
  refine g_iload_n dX7_coming_19 rfl rfl ?_
  refine g_iconst dX7_coming_20 (v := 3) (by decide) ?_
  refine n_v2i (n' := 0) dX7_coming_21 mX7_isUnder lX7_116 rfl hW vld_x20 rfl rfl ⟨Nat.le_of_ble_eq_true rfl, Nat.le_of_ble_eq_true rfl⟩ ⟨Nat.zero_le _, Nat.zero_le _⟩ (Nat.le_of_ble_eq_true rfl) ?_
  refine wp_X7_isUnder ?_
  refine ⟨_, rfl, ?_⟩
  rw [show b2 (iuP 0 3) = 0 by decide]
  refine g_istore_6 dX7_coming_24 rfl ?_
  refine g_iload_n dX7_coming_26 rfl rfl ?_
  refine g_bipush dX7_coming_27 (v := 6) (by decide) ?_
  refine g_icmp_ne (tgt := 38) dX7_coming_29 (by decide) (fun c29 => ?_) (fun c29 => ?_)
  · refine g_iload dX7_coming_38 rfl ?_
    refine g_if_eq (tgt := 54) dX7_coming_40 (by decide) (fun c40 => ?_) (fun c40 => ?_)
    · refine g_iload dX7_coming_54 rfl ?_
      refine g_if_eq (tgt := 65) dX7_coming_56 (by decide) (fun c56 => ?_) (fun c56 => ?_)
      · refine g_iload_n dX7_coming_65 rfl rfl ?_
        refine g_iconst dX7_coming_66 (v := 5) (by decide) ?_
        refine g_icmp_ne (tgt := 76) dX7_coming_67 (by decide) (fun c67 => ?_) (fun c67 => ?_)
        · refine g_aloadR_n dX7_coming_76 rfl rfl ?_
          refine g_bipush dX7_coming_77 (v := 10) (by decide) ?_
          refine n_v1v (n' := 0) dX7_coming_79 mX7_body lX7_274 rfl hW vld_x20 rfl rfl ⟨Nat.le_of_ble_eq_true rfl, Nat.le_of_ble_eq_true rfl⟩ ⟨Nat.zero_le _, Nat.zero_le _⟩ (Nat.le_of_ble_eq_true rfl) ?_
          refine wp_X7_body (by exact hW) hr0 (by first | omega | (simp only [List.length_append, List.length_singleton]; omega)) (fun M3 hf3 hr3 => ?_)
          have hW3 := hf3.W (by exact hW)
          have hg3 : FrI DT M M3 := FrI.rf.tr hf3
          have hR3 := hR.dt hg3
          refine ⟨rfl, ?_⟩
          refine g_iload dX7_coming_82 rfl ?_
          refine g_iload_n dX7_coming_84 rfl rfl ?_
          refine g_iadd dX7_coming_85 ?_
          refine g_istore_7 dX7_coming_86 rfl ?_
          refine g_iload dX7_coming_88 rfl ?_
          refine g_if_eq (tgt := 104) dX7_coming_90 (by decide) (fun c90 => ?_) (fun c90 => ?_)
          · refine g_iload_n dX7_coming_104 rfl rfl ?_
            refine g_iconst dX7_coming_105 (v := 5) (by decide) ?_
            refine g_icmp_ne (tgt := 115) dX7_coming_106 (by decide) (fun c106 => ?_) (fun c106 => ?_)
            · refine g_iload_n dX7_coming_115 rfl rfl ?_
              refine g_bipush dX7_coming_116 (v := 6) (by decide) ?_
              refine g_icmp_ne (tgt := 128) dX7_coming_118 (by decide) (fun c118 => ?_) (fun c118 => ?_)
              · refine g_iload dX7_coming_128 rfl ?_
                refine g_iret dX7_coming_130 rfl ?_
                refine h M3 hg3 ?_
                have el : (L ++ [10]) = L ++ comL 0 := by simp [comL, sitL, askL]
                rw [← el]
                exact hr3
              · exact absurd c118 (by decide)
            · exact absurd c106 (by decide)
          · exact absurd c90 (by decide)
        · exact absurd c67 (by decide)
      · exact absurd c56 (by decide)
    · exact absurd c40 (by decide)
  · exact absurd c29 (by decide)
set_option maxHeartbeats 4000000 in
set_option maxRecDepth 100000 in
theorem wp_X7_coming1 {E : Ev} {M : Mem} {Q : QT} (hW : Wi M) {S : Sc} (hR : RepR M S) (hO : OkS S) {p : Nat} (hp : p < S.1) (hk : S.2.2 p 0 = 1) {L : List Int32} (hr0 : RepTrM M L) (hL : L.length ≤ 70) {x : Int32} (h : ∀ M', FrI DT M M' → RepTrM M' (L ++ comL 1) → Q (some (vI (comV 1 (nI p) (S.2.2 p 1) x))) M') : Mth E 1 0 0 kX7_coming [vR (20, 0, 0), vI (nI p), vI x] M Q := by
  have hs10 := hO.1
  refine mth_of (by decide +kernel) [some (vR (20, 0, 0)), some (vI (nI p)), some (vI x), none, none, none, none, none] (Nat.le_of_ble_eq_true rfl) rfl ?_
  refine g_aloadR_n dX7_coming_0 rfl rfl ?_
  refine n_getR dX7_coming_1 fX7_29 rfl hW vld_x20 rfl rfl ?_
  refine g_iload_n dX7_coming_4 rfl rfl ?_
  refine n_iald (j := p) dX7_coming_5 rfl hW (vld_ma (by decide : 1 < 25)) (by decide) rfl (show p < 10 by omega) ?_
  rw [show mI M (21, 1, 0) p = 1 from (hR.2.2 p 0 hp (by decide)).trans hk]
  refine g_istore_3 dX7_coming_6 rfl ?_
  refine g_iload_n dX7_coming_7 rfl rfl ?_
  refine g_istore_4 dX7_coming_8 rfl ?_
  refine g_aloadR_n dX7_coming_10 rfl rfl ?_
  refine g_iload_n dX7_coming_11 rfl rfl ?_
  refine g_iconst dX7_coming_12 (v := 1) (by decide) ?_
  refine n_v2i (n' := 0) dX7_coming_13 mX7_isUnder lX7_116 rfl hW vld_x20 rfl rfl ⟨Nat.le_of_ble_eq_true rfl, Nat.le_of_ble_eq_true rfl⟩ ⟨Nat.zero_le _, Nat.zero_le _⟩ (Nat.le_of_ble_eq_true rfl) ?_
  refine wp_X7_isUnder ?_
  refine ⟨_, rfl, ?_⟩
  rw [show b2 (iuP 1 1) = 1 by decide]
  refine g_istore_5 dX7_coming_16 rfl ?_
  refine g_aloadR_n dX7_coming_18 rfl rfl ?_
  refine g_iload_n dX7_coming_19 rfl rfl ?_
  refine g_iconst dX7_coming_20 (v := 3) (by decide) ?_
  refine n_v2i (n' := 0) dX7_coming_21 mX7_isUnder lX7_116 rfl hW vld_x20 rfl rfl ⟨Nat.le_of_ble_eq_true rfl, Nat.le_of_ble_eq_true rfl⟩ ⟨Nat.zero_le _, Nat.zero_le _⟩ (Nat.le_of_ble_eq_true rfl) ?_
  refine wp_X7_isUnder ?_
  refine ⟨_, rfl, ?_⟩
  rw [show b2 (iuP 1 3) = 0 by decide]
  refine g_istore_6 dX7_coming_24 rfl ?_
  refine g_iload_n dX7_coming_26 rfl rfl ?_
  refine g_bipush dX7_coming_27 (v := 6) (by decide) ?_
  refine g_icmp_ne (tgt := 38) dX7_coming_29 (by decide) (fun c29 => ?_) (fun c29 => ?_)
  · refine g_iload dX7_coming_38 rfl ?_
    refine g_if_eq (tgt := 54) dX7_coming_40 (by decide) (fun c40 => ?_) (fun c40 => ?_)
    · refine g_iload dX7_coming_54 rfl ?_
      refine g_if_eq (tgt := 65) dX7_coming_56 (by decide) (fun c56 => ?_) (fun c56 => ?_)
      · exact absurd c56 (by decide)
      · refine g_aloadR_n dX7_coming_59 rfl rfl ?_
        refine g_bipush dX7_coming_60 (v := 20) (by decide) ?_
        refine n_v1v (n' := 0) dX7_coming_62 mX7_body lX7_274 rfl hW vld_x20 rfl rfl ⟨Nat.le_of_ble_eq_true rfl, Nat.le_of_ble_eq_true rfl⟩ ⟨Nat.zero_le _, Nat.zero_le _⟩ (Nat.le_of_ble_eq_true rfl) ?_
        refine wp_X7_body (by exact hW) hr0 (by first | omega | (simp only [List.length_append, List.length_singleton]; omega)) (fun M3 hf3 hr3 => ?_)
        have hW3 := hf3.W (by exact hW)
        have hg3 : FrI DT M M3 := FrI.rf.tr hf3
        have hR3 := hR.dt hg3
        refine ⟨rfl, ?_⟩
        refine g_iload_n dX7_coming_65 rfl rfl ?_
        refine g_iconst dX7_coming_66 (v := 5) (by decide) ?_
        refine g_icmp_ne (tgt := 76) dX7_coming_67 (by decide) (fun c67 => ?_) (fun c67 => ?_)
        · refine g_aloadR_n dX7_coming_76 rfl rfl ?_
          refine g_bipush dX7_coming_77 (v := 10) (by decide) ?_
          refine n_v1v (n' := 0) dX7_coming_79 mX7_body lX7_274 rfl hW3 vld_x20 rfl rfl ⟨Nat.le_of_ble_eq_true rfl, Nat.le_of_ble_eq_true rfl⟩ ⟨Nat.zero_le _, Nat.zero_le _⟩ (Nat.le_of_ble_eq_true rfl) ?_
          refine wp_X7_body (by exact hW3) hr3 (by first | omega | (simp only [List.length_append, List.length_singleton]; omega)) (fun M4 hf4 hr4 => ?_)
          have hW4 := hf4.W (by exact hW3)
          have hg4 : FrI DT M M4 := hg3.tr hf4
          have hR4 := hR.dt hg4
          refine ⟨rfl, ?_⟩
          refine g_iload dX7_coming_82 rfl ?_
          refine g_iload_n dX7_coming_84 rfl rfl ?_
          refine g_iadd dX7_coming_85 ?_
          refine g_istore_7 dX7_coming_86 rfl ?_
          refine g_iload dX7_coming_88 rfl ?_
          refine g_if_eq (tgt := 104) dX7_coming_90 (by decide) (fun c90 => ?_) (fun c90 => ?_)
          · exact absurd c90 (by decide)
          · refine g_iload dX7_coming_93 rfl ?_
            refine g_aloadR_n dX7_coming_95 rfl rfl ?_
            refine n_getR dX7_coming_96 fX7_32 rfl hW4 vld_x20 rfl rfl ?_
            refine g_iload_n dX7_coming_99 rfl rfl ?_
            refine n_iald (j := p) dX7_coming_100 rfl hW4 (vld_ma (by decide : 2 < 25)) (by decide) rfl (show p < 10 by omega) ?_
            rw [show mI M4 (21, 2, 0) p = S.2.2 p 1 from hR4.2.2 p 1 hp (by decide)]
            refine g_iadd dX7_coming_101 ?_
            refine g_istore_7 dX7_coming_102 rfl ?_
            refine g_iload_n dX7_coming_104 rfl rfl ?_
            refine g_iconst dX7_coming_105 (v := 5) (by decide) ?_
            refine g_icmp_ne (tgt := 115) dX7_coming_106 (by decide) (fun c106 => ?_) (fun c106 => ?_)
            · refine g_iload_n dX7_coming_115 rfl rfl ?_
              refine g_bipush dX7_coming_116 (v := 6) (by decide) ?_
              refine g_icmp_ne (tgt := 128) dX7_coming_118 (by decide) (fun c118 => ?_) (fun c118 => ?_)
              · refine g_iload dX7_coming_128 rfl ?_
                refine g_iret dX7_coming_130 rfl ?_
                refine h M4 hg4 ?_
                have el : ((L ++ [20]) ++ [10]) = L ++ comL 1 := by simp [comL, sitL, askL]
                rw [← el]
                exact hr4
              · exact absurd c118 (by decide)
            · exact absurd c106 (by decide)
        · exact absurd c67 (by decide)
    · exact absurd c40 (by decide)
  · exact absurd c29 (by decide)
set_option maxHeartbeats 4000000 in
set_option maxRecDepth 100000 in
theorem wp_X7_coming2 {E : Ev} {M : Mem} {Q : QT} (hW : Wi M) {S : Sc} (hR : RepR M S) (hO : OkS S) {p : Nat} (hp : p < S.1) (hk : S.2.2 p 0 = 2) {L : List Int32} (hr0 : RepTrM M L) (hL : L.length ≤ 70) {x : Int32} (h : ∀ M', FrI DT M M' → RepTrM M' (L ++ comL 2) → Q (some (vI (comV 2 (nI p) (S.2.2 p 1) x))) M') : Mth E 1 0 0 kX7_coming [vR (20, 0, 0), vI (nI p), vI x] M Q := by
  have hs10 := hO.1
  refine mth_of (by decide +kernel) [some (vR (20, 0, 0)), some (vI (nI p)), some (vI x), none, none, none, none, none] (Nat.le_of_ble_eq_true rfl) rfl ?_
  refine g_aloadR_n dX7_coming_0 rfl rfl ?_
  refine n_getR dX7_coming_1 fX7_29 rfl hW vld_x20 rfl rfl ?_
  refine g_iload_n dX7_coming_4 rfl rfl ?_
  refine n_iald (j := p) dX7_coming_5 rfl hW (vld_ma (by decide : 1 < 25)) (by decide) rfl (show p < 10 by omega) ?_
  rw [show mI M (21, 1, 0) p = 2 from (hR.2.2 p 0 hp (by decide)).trans hk]
  refine g_istore_3 dX7_coming_6 rfl ?_
  refine g_iload_n dX7_coming_7 rfl rfl ?_
  refine g_istore_4 dX7_coming_8 rfl ?_
  refine g_aloadR_n dX7_coming_10 rfl rfl ?_
  refine g_iload_n dX7_coming_11 rfl rfl ?_
  refine g_iconst dX7_coming_12 (v := 1) (by decide) ?_
  refine n_v2i (n' := 0) dX7_coming_13 mX7_isUnder lX7_116 rfl hW vld_x20 rfl rfl ⟨Nat.le_of_ble_eq_true rfl, Nat.le_of_ble_eq_true rfl⟩ ⟨Nat.zero_le _, Nat.zero_le _⟩ (Nat.le_of_ble_eq_true rfl) ?_
  refine wp_X7_isUnder ?_
  refine ⟨_, rfl, ?_⟩
  rw [show b2 (iuP 2 1) = 0 by decide]
  refine g_istore_5 dX7_coming_16 rfl ?_
  refine g_aloadR_n dX7_coming_18 rfl rfl ?_
  refine g_iload_n dX7_coming_19 rfl rfl ?_
  refine g_iconst dX7_coming_20 (v := 3) (by decide) ?_
  refine n_v2i (n' := 0) dX7_coming_21 mX7_isUnder lX7_116 rfl hW vld_x20 rfl rfl ⟨Nat.le_of_ble_eq_true rfl, Nat.le_of_ble_eq_true rfl⟩ ⟨Nat.zero_le _, Nat.zero_le _⟩ (Nat.le_of_ble_eq_true rfl) ?_
  refine wp_X7_isUnder ?_
  refine ⟨_, rfl, ?_⟩
  rw [show b2 (iuP 2 3) = 0 by decide]
  refine g_istore_6 dX7_coming_24 rfl ?_
  refine g_iload_n dX7_coming_26 rfl rfl ?_
  refine g_bipush dX7_coming_27 (v := 6) (by decide) ?_
  refine g_icmp_ne (tgt := 38) dX7_coming_29 (by decide) (fun c29 => ?_) (fun c29 => ?_)
  · refine g_iload dX7_coming_38 rfl ?_
    refine g_if_eq (tgt := 54) dX7_coming_40 (by decide) (fun c40 => ?_) (fun c40 => ?_)
    · refine g_iload dX7_coming_54 rfl ?_
      refine g_if_eq (tgt := 65) dX7_coming_56 (by decide) (fun c56 => ?_) (fun c56 => ?_)
      · refine g_iload_n dX7_coming_65 rfl rfl ?_
        refine g_iconst dX7_coming_66 (v := 5) (by decide) ?_
        refine g_icmp_ne (tgt := 76) dX7_coming_67 (by decide) (fun c67 => ?_) (fun c67 => ?_)
        · refine g_aloadR_n dX7_coming_76 rfl rfl ?_
          refine g_bipush dX7_coming_77 (v := 10) (by decide) ?_
          refine n_v1v (n' := 0) dX7_coming_79 mX7_body lX7_274 rfl hW vld_x20 rfl rfl ⟨Nat.le_of_ble_eq_true rfl, Nat.le_of_ble_eq_true rfl⟩ ⟨Nat.zero_le _, Nat.zero_le _⟩ (Nat.le_of_ble_eq_true rfl) ?_
          refine wp_X7_body (by exact hW) hr0 (by first | omega | (simp only [List.length_append, List.length_singleton]; omega)) (fun M3 hf3 hr3 => ?_)
          have hW3 := hf3.W (by exact hW)
          have hg3 : FrI DT M M3 := FrI.rf.tr hf3
          have hR3 := hR.dt hg3
          refine ⟨rfl, ?_⟩
          refine g_iload dX7_coming_82 rfl ?_
          refine g_iload_n dX7_coming_84 rfl rfl ?_
          refine g_iadd dX7_coming_85 ?_
          refine g_istore_7 dX7_coming_86 rfl ?_
          refine g_iload dX7_coming_88 rfl ?_
          refine g_if_eq (tgt := 104) dX7_coming_90 (by decide) (fun c90 => ?_) (fun c90 => ?_)
          · refine g_iload_n dX7_coming_104 rfl rfl ?_
            refine g_iconst dX7_coming_105 (v := 5) (by decide) ?_
            refine g_icmp_ne (tgt := 115) dX7_coming_106 (by decide) (fun c106 => ?_) (fun c106 => ?_)
            · refine g_iload_n dX7_coming_115 rfl rfl ?_
              refine g_bipush dX7_coming_116 (v := 6) (by decide) ?_
              refine g_icmp_ne (tgt := 128) dX7_coming_118 (by decide) (fun c118 => ?_) (fun c118 => ?_)
              · refine g_iload dX7_coming_128 rfl ?_
                refine g_iret dX7_coming_130 rfl ?_
                refine h M3 hg3 ?_
                have el : (L ++ [10]) = L ++ comL 2 := by simp [comL, sitL, askL]
                rw [← el]
                exact hr3
              · exact absurd c118 (by decide)
            · exact absurd c106 (by decide)
          · exact absurd c90 (by decide)
        · exact absurd c67 (by decide)
      · exact absurd c56 (by decide)
    · exact absurd c40 (by decide)
  · exact absurd c29 (by decide)
set_option maxHeartbeats 4000000 in
set_option maxRecDepth 100000 in
theorem wp_X7_coming3 {E : Ev} {M : Mem} {Q : QT} (hW : Wi M) {S : Sc} (hR : RepR M S) (hO : OkS S) {p : Nat} (hp : p < S.1) (hk : S.2.2 p 0 = 3) {L : List Int32} (hr0 : RepTrM M L) (hL : L.length ≤ 70) {x : Int32} (h : ∀ M', FrI DT M M' → RepTrM M' (L ++ comL 3) → Q (some (vI (comV 3 (nI p) (S.2.2 p 1) x))) M') : Mth E 1 0 0 kX7_coming [vR (20, 0, 0), vI (nI p), vI x] M Q := by
  have hs10 := hO.1
  refine mth_of (by decide +kernel) [some (vR (20, 0, 0)), some (vI (nI p)), some (vI x), none, none, none, none, none] (Nat.le_of_ble_eq_true rfl) rfl ?_
  refine g_aloadR_n dX7_coming_0 rfl rfl ?_
  refine n_getR dX7_coming_1 fX7_29 rfl hW vld_x20 rfl rfl ?_
  refine g_iload_n dX7_coming_4 rfl rfl ?_
  refine n_iald (j := p) dX7_coming_5 rfl hW (vld_ma (by decide : 1 < 25)) (by decide) rfl (show p < 10 by omega) ?_
  rw [show mI M (21, 1, 0) p = 3 from (hR.2.2 p 0 hp (by decide)).trans hk]
  refine g_istore_3 dX7_coming_6 rfl ?_
  refine g_iload_n dX7_coming_7 rfl rfl ?_
  refine g_istore_4 dX7_coming_8 rfl ?_
  refine g_aloadR_n dX7_coming_10 rfl rfl ?_
  refine g_iload_n dX7_coming_11 rfl rfl ?_
  refine g_iconst dX7_coming_12 (v := 1) (by decide) ?_
  refine n_v2i (n' := 0) dX7_coming_13 mX7_isUnder lX7_116 rfl hW vld_x20 rfl rfl ⟨Nat.le_of_ble_eq_true rfl, Nat.le_of_ble_eq_true rfl⟩ ⟨Nat.zero_le _, Nat.zero_le _⟩ (Nat.le_of_ble_eq_true rfl) ?_
  refine wp_X7_isUnder ?_
  refine ⟨_, rfl, ?_⟩
  rw [show b2 (iuP 3 1) = 1 by decide]
  refine g_istore_5 dX7_coming_16 rfl ?_
  refine g_aloadR_n dX7_coming_18 rfl rfl ?_
  refine g_iload_n dX7_coming_19 rfl rfl ?_
  refine g_iconst dX7_coming_20 (v := 3) (by decide) ?_
  refine n_v2i (n' := 0) dX7_coming_21 mX7_isUnder lX7_116 rfl hW vld_x20 rfl rfl ⟨Nat.le_of_ble_eq_true rfl, Nat.le_of_ble_eq_true rfl⟩ ⟨Nat.zero_le _, Nat.zero_le _⟩ (Nat.le_of_ble_eq_true rfl) ?_
  refine wp_X7_isUnder ?_
  refine ⟨_, rfl, ?_⟩
  rw [show b2 (iuP 3 3) = 1 by decide]
  refine g_istore_6 dX7_coming_24 rfl ?_
  refine g_iload_n dX7_coming_26 rfl rfl ?_
  refine g_bipush dX7_coming_27 (v := 6) (by decide) ?_
  refine g_icmp_ne (tgt := 38) dX7_coming_29 (by decide) (fun c29 => ?_) (fun c29 => ?_)
  · refine g_iload dX7_coming_38 rfl ?_
    refine g_if_eq (tgt := 54) dX7_coming_40 (by decide) (fun c40 => ?_) (fun c40 => ?_)
    · exact absurd c40 (by decide)
    · refine g_aloadR_n dX7_coming_43 rfl rfl ?_
      refine g_bipush dX7_coming_44 (v := 40) (by decide) ?_
      refine n_v1v (n' := 0) dX7_coming_46 mX7_body lX7_274 rfl hW vld_x20 rfl rfl ⟨Nat.le_of_ble_eq_true rfl, Nat.le_of_ble_eq_true rfl⟩ ⟨Nat.zero_le _, Nat.zero_le _⟩ (Nat.le_of_ble_eq_true rfl) ?_
      refine wp_X7_body (by exact hW) hr0 (by first | omega | (simp only [List.length_append, List.length_singleton]; omega)) (fun M3 hf3 hr3 => ?_)
      have hW3 := hf3.W (by exact hW)
      have hg3 : FrI DT M M3 := FrI.rf.tr hf3
      have hR3 := hR.dt hg3
      refine ⟨rfl, ?_⟩
      refine g_iload_n dX7_coming_49 rfl rfl ?_
      refine g_iconst dX7_coming_50 (v := 1) (by decide) ?_
      refine g_iadd dX7_coming_51 ?_
      refine g_istore_4 dX7_coming_52 rfl ?_
      refine g_iload dX7_coming_54 rfl ?_
      refine g_if_eq (tgt := 65) dX7_coming_56 (by decide) (fun c56 => ?_) (fun c56 => ?_)
      · exact absurd c56 (by decide)
      · refine g_aloadR_n dX7_coming_59 rfl rfl ?_
        refine g_bipush dX7_coming_60 (v := 20) (by decide) ?_
        refine n_v1v (n' := 0) dX7_coming_62 mX7_body lX7_274 rfl hW3 vld_x20 rfl rfl ⟨Nat.le_of_ble_eq_true rfl, Nat.le_of_ble_eq_true rfl⟩ ⟨Nat.zero_le _, Nat.zero_le _⟩ (Nat.le_of_ble_eq_true rfl) ?_
        refine wp_X7_body (by exact hW3) hr3 (by first | omega | (simp only [List.length_append, List.length_singleton]; omega)) (fun M4 hf4 hr4 => ?_)
        have hW4 := hf4.W (by exact hW3)
        have hg4 : FrI DT M M4 := hg3.tr hf4
        have hR4 := hR.dt hg4
        refine ⟨rfl, ?_⟩
        refine g_iload_n dX7_coming_65 rfl rfl ?_
        refine g_iconst dX7_coming_66 (v := 5) (by decide) ?_
        refine g_icmp_ne (tgt := 76) dX7_coming_67 (by decide) (fun c67 => ?_) (fun c67 => ?_)
        · refine g_aloadR_n dX7_coming_76 rfl rfl ?_
          refine g_bipush dX7_coming_77 (v := 10) (by decide) ?_
          refine n_v1v (n' := 0) dX7_coming_79 mX7_body lX7_274 rfl hW4 vld_x20 rfl rfl ⟨Nat.le_of_ble_eq_true rfl, Nat.le_of_ble_eq_true rfl⟩ ⟨Nat.zero_le _, Nat.zero_le _⟩ (Nat.le_of_ble_eq_true rfl) ?_
          refine wp_X7_body (by exact hW4) hr4 (by first | omega | (simp only [List.length_append, List.length_singleton]; omega)) (fun M5 hf5 hr5 => ?_)
          have hW5 := hf5.W (by exact hW4)
          have hg5 : FrI DT M M5 := hg4.tr hf5
          have hR5 := hR.dt hg5
          refine ⟨rfl, ?_⟩
          refine g_iload dX7_coming_82 rfl ?_
          refine g_iload_n dX7_coming_84 rfl rfl ?_
          refine g_iadd dX7_coming_85 ?_
          refine g_istore_7 dX7_coming_86 rfl ?_
          refine g_iload dX7_coming_88 rfl ?_
          refine g_if_eq (tgt := 104) dX7_coming_90 (by decide) (fun c90 => ?_) (fun c90 => ?_)
          · exact absurd c90 (by decide)
          · refine g_iload dX7_coming_93 rfl ?_
            refine g_aloadR_n dX7_coming_95 rfl rfl ?_
            refine n_getR dX7_coming_96 fX7_32 rfl hW5 vld_x20 rfl rfl ?_
            refine g_iload_n dX7_coming_99 rfl rfl ?_
            refine n_iald (j := p) dX7_coming_100 rfl hW5 (vld_ma (by decide : 2 < 25)) (by decide) rfl (show p < 10 by omega) ?_
            rw [show mI M5 (21, 2, 0) p = S.2.2 p 1 from hR5.2.2 p 1 hp (by decide)]
            refine g_iadd dX7_coming_101 ?_
            refine g_istore_7 dX7_coming_102 rfl ?_
            refine g_iload_n dX7_coming_104 rfl rfl ?_
            refine g_iconst dX7_coming_105 (v := 5) (by decide) ?_
            refine g_icmp_ne (tgt := 115) dX7_coming_106 (by decide) (fun c106 => ?_) (fun c106 => ?_)
            · refine g_iload_n dX7_coming_115 rfl rfl ?_
              refine g_bipush dX7_coming_116 (v := 6) (by decide) ?_
              refine g_icmp_ne (tgt := 128) dX7_coming_118 (by decide) (fun c118 => ?_) (fun c118 => ?_)
              · refine g_iload dX7_coming_128 rfl ?_
                refine g_iret dX7_coming_130 rfl ?_
                refine h M5 hg5 ?_
                have el : (((L ++ [40]) ++ [20]) ++ [10]) = L ++ comL 3 := by simp [comL, sitL, askL]
                rw [← el]
                exact hr5
              · exact absurd c118 (by decide)
            · exact absurd c106 (by decide)
        · exact absurd c67 (by decide)
  · exact absurd c29 (by decide)
set_option maxHeartbeats 4000000 in
set_option maxRecDepth 100000 in
theorem wp_X7_coming4 {E : Ev} {M : Mem} {Q : QT} (hW : Wi M) {S : Sc} (hR : RepR M S) (hO : OkS S) {p : Nat} (hp : p < S.1) (hk : S.2.2 p 0 = 4) {L : List Int32} (hr0 : RepTrM M L) (hL : L.length ≤ 70) {x : Int32} (h : ∀ M', FrI DT M M' → RepTrM M' (L ++ comL 4) → Q (some (vI (comV 4 (nI p) (S.2.2 p 1) x))) M') : Mth E 1 0 0 kX7_coming [vR (20, 0, 0), vI (nI p), vI x] M Q := by
  have hs10 := hO.1
  refine mth_of (by decide +kernel) [some (vR (20, 0, 0)), some (vI (nI p)), some (vI x), none, none, none, none, none] (Nat.le_of_ble_eq_true rfl) rfl ?_
  refine g_aloadR_n dX7_coming_0 rfl rfl ?_
  refine n_getR dX7_coming_1 fX7_29 rfl hW vld_x20 rfl rfl ?_
  refine g_iload_n dX7_coming_4 rfl rfl ?_
  refine n_iald (j := p) dX7_coming_5 rfl hW (vld_ma (by decide : 1 < 25)) (by decide) rfl (show p < 10 by omega) ?_
  rw [show mI M (21, 1, 0) p = 4 from (hR.2.2 p 0 hp (by decide)).trans hk]
  refine g_istore_3 dX7_coming_6 rfl ?_
  refine g_iload_n dX7_coming_7 rfl rfl ?_
  refine g_istore_4 dX7_coming_8 rfl ?_
  refine g_aloadR_n dX7_coming_10 rfl rfl ?_
  refine g_iload_n dX7_coming_11 rfl rfl ?_
  refine g_iconst dX7_coming_12 (v := 1) (by decide) ?_
  refine n_v2i (n' := 0) dX7_coming_13 mX7_isUnder lX7_116 rfl hW vld_x20 rfl rfl ⟨Nat.le_of_ble_eq_true rfl, Nat.le_of_ble_eq_true rfl⟩ ⟨Nat.zero_le _, Nat.zero_le _⟩ (Nat.le_of_ble_eq_true rfl) ?_
  refine wp_X7_isUnder ?_
  refine ⟨_, rfl, ?_⟩
  rw [show b2 (iuP 4 1) = 0 by decide]
  refine g_istore_5 dX7_coming_16 rfl ?_
  refine g_aloadR_n dX7_coming_18 rfl rfl ?_
  refine g_iload_n dX7_coming_19 rfl rfl ?_
  refine g_iconst dX7_coming_20 (v := 3) (by decide) ?_
  refine n_v2i (n' := 0) dX7_coming_21 mX7_isUnder lX7_116 rfl hW vld_x20 rfl rfl ⟨Nat.le_of_ble_eq_true rfl, Nat.le_of_ble_eq_true rfl⟩ ⟨Nat.zero_le _, Nat.zero_le _⟩ (Nat.le_of_ble_eq_true rfl) ?_
  refine wp_X7_isUnder ?_
  refine ⟨_, rfl, ?_⟩
  rw [show b2 (iuP 4 3) = 0 by decide]
  refine g_istore_6 dX7_coming_24 rfl ?_
  refine g_iload_n dX7_coming_26 rfl rfl ?_
  refine g_bipush dX7_coming_27 (v := 6) (by decide) ?_
  refine g_icmp_ne (tgt := 38) dX7_coming_29 (by decide) (fun c29 => ?_) (fun c29 => ?_)
  · refine g_iload dX7_coming_38 rfl ?_
    refine g_if_eq (tgt := 54) dX7_coming_40 (by decide) (fun c40 => ?_) (fun c40 => ?_)
    · refine g_iload dX7_coming_54 rfl ?_
      refine g_if_eq (tgt := 65) dX7_coming_56 (by decide) (fun c56 => ?_) (fun c56 => ?_)
      · refine g_iload_n dX7_coming_65 rfl rfl ?_
        refine g_iconst dX7_coming_66 (v := 5) (by decide) ?_
        refine g_icmp_ne (tgt := 76) dX7_coming_67 (by decide) (fun c67 => ?_) (fun c67 => ?_)
        · refine g_aloadR_n dX7_coming_76 rfl rfl ?_
          refine g_bipush dX7_coming_77 (v := 10) (by decide) ?_
          refine n_v1v (n' := 0) dX7_coming_79 mX7_body lX7_274 rfl hW vld_x20 rfl rfl ⟨Nat.le_of_ble_eq_true rfl, Nat.le_of_ble_eq_true rfl⟩ ⟨Nat.zero_le _, Nat.zero_le _⟩ (Nat.le_of_ble_eq_true rfl) ?_
          refine wp_X7_body (by exact hW) hr0 (by first | omega | (simp only [List.length_append, List.length_singleton]; omega)) (fun M3 hf3 hr3 => ?_)
          have hW3 := hf3.W (by exact hW)
          have hg3 : FrI DT M M3 := FrI.rf.tr hf3
          have hR3 := hR.dt hg3
          refine ⟨rfl, ?_⟩
          refine g_iload dX7_coming_82 rfl ?_
          refine g_iload_n dX7_coming_84 rfl rfl ?_
          refine g_iadd dX7_coming_85 ?_
          refine g_istore_7 dX7_coming_86 rfl ?_
          refine g_iload dX7_coming_88 rfl ?_
          refine g_if_eq (tgt := 104) dX7_coming_90 (by decide) (fun c90 => ?_) (fun c90 => ?_)
          · refine g_iload_n dX7_coming_104 rfl rfl ?_
            refine g_iconst dX7_coming_105 (v := 5) (by decide) ?_
            refine g_icmp_ne (tgt := 115) dX7_coming_106 (by decide) (fun c106 => ?_) (fun c106 => ?_)
            · refine g_iload_n dX7_coming_115 rfl rfl ?_
              refine g_bipush dX7_coming_116 (v := 6) (by decide) ?_
              refine g_icmp_ne (tgt := 128) dX7_coming_118 (by decide) (fun c118 => ?_) (fun c118 => ?_)
              · refine g_iload dX7_coming_128 rfl ?_
                refine g_iret dX7_coming_130 rfl ?_
                refine h M3 hg3 ?_
                have el : (L ++ [10]) = L ++ comL 4 := by simp [comL, sitL, askL]
                rw [← el]
                exact hr3
              · exact absurd c118 (by decide)
            · exact absurd c106 (by decide)
          · exact absurd c90 (by decide)
        · exact absurd c67 (by decide)
      · exact absurd c56 (by decide)
    · exact absurd c40 (by decide)
  · exact absurd c29 (by decide)
set_option maxHeartbeats 4000000 in
set_option maxRecDepth 100000 in
theorem wp_X7_coming5 {E : Ev} {M : Mem} {Q : QT} (hW : Wi M) {S : Sc} (hR : RepR M S) (hO : OkS S) {p : Nat} (hp : p < S.1) (hk : S.2.2 p 0 = 5) {L : List Int32} (hr0 : RepTrM M L) (hL : L.length ≤ 70) {x : Int32} (h : ∀ M', FrI DT M M' → RepTrM M' (L ++ comL 5) → Q (some (vI (comV 5 (nI p) (S.2.2 p 1) x))) M') : Mth E 1 0 0 kX7_coming [vR (20, 0, 0), vI (nI p), vI x] M Q := by
  have hs10 := hO.1
  refine mth_of (by decide +kernel) [some (vR (20, 0, 0)), some (vI (nI p)), some (vI x), none, none, none, none, none] (Nat.le_of_ble_eq_true rfl) rfl ?_
  refine g_aloadR_n dX7_coming_0 rfl rfl ?_
  refine n_getR dX7_coming_1 fX7_29 rfl hW vld_x20 rfl rfl ?_
  refine g_iload_n dX7_coming_4 rfl rfl ?_
  refine n_iald (j := p) dX7_coming_5 rfl hW (vld_ma (by decide : 1 < 25)) (by decide) rfl (show p < 10 by omega) ?_
  rw [show mI M (21, 1, 0) p = 5 from (hR.2.2 p 0 hp (by decide)).trans hk]
  refine g_istore_3 dX7_coming_6 rfl ?_
  refine g_iload_n dX7_coming_7 rfl rfl ?_
  refine g_istore_4 dX7_coming_8 rfl ?_
  refine g_aloadR_n dX7_coming_10 rfl rfl ?_
  refine g_iload_n dX7_coming_11 rfl rfl ?_
  refine g_iconst dX7_coming_12 (v := 1) (by decide) ?_
  refine n_v2i (n' := 0) dX7_coming_13 mX7_isUnder lX7_116 rfl hW vld_x20 rfl rfl ⟨Nat.le_of_ble_eq_true rfl, Nat.le_of_ble_eq_true rfl⟩ ⟨Nat.zero_le _, Nat.zero_le _⟩ (Nat.le_of_ble_eq_true rfl) ?_
  refine wp_X7_isUnder ?_
  refine ⟨_, rfl, ?_⟩
  rw [show b2 (iuP 5 1) = 0 by decide]
  refine g_istore_5 dX7_coming_16 rfl ?_
  refine g_aloadR_n dX7_coming_18 rfl rfl ?_
  refine g_iload_n dX7_coming_19 rfl rfl ?_
  refine g_iconst dX7_coming_20 (v := 3) (by decide) ?_
  refine n_v2i (n' := 0) dX7_coming_21 mX7_isUnder lX7_116 rfl hW vld_x20 rfl rfl ⟨Nat.le_of_ble_eq_true rfl, Nat.le_of_ble_eq_true rfl⟩ ⟨Nat.zero_le _, Nat.zero_le _⟩ (Nat.le_of_ble_eq_true rfl) ?_
  refine wp_X7_isUnder ?_
  refine ⟨_, rfl, ?_⟩
  rw [show b2 (iuP 5 3) = 0 by decide]
  refine g_istore_6 dX7_coming_24 rfl ?_
  refine g_iload_n dX7_coming_26 rfl rfl ?_
  refine g_bipush dX7_coming_27 (v := 6) (by decide) ?_
  refine g_icmp_ne (tgt := 38) dX7_coming_29 (by decide) (fun c29 => ?_) (fun c29 => ?_)
  · refine g_iload dX7_coming_38 rfl ?_
    refine g_if_eq (tgt := 54) dX7_coming_40 (by decide) (fun c40 => ?_) (fun c40 => ?_)
    · refine g_iload dX7_coming_54 rfl ?_
      refine g_if_eq (tgt := 65) dX7_coming_56 (by decide) (fun c56 => ?_) (fun c56 => ?_)
      · refine g_iload_n dX7_coming_65 rfl rfl ?_
        refine g_iconst dX7_coming_66 (v := 5) (by decide) ?_
        refine g_icmp_ne (tgt := 76) dX7_coming_67 (by decide) (fun c67 => ?_) (fun c67 => ?_)
        · exact absurd c67 (by decide)
        · refine g_aloadR_n dX7_coming_70 rfl rfl ?_
          refine g_bipush dX7_coming_71 (v := 51) (by decide) ?_
          refine n_v1v (n' := 0) dX7_coming_73 mX7_body lX7_274 rfl hW vld_x20 rfl rfl ⟨Nat.le_of_ble_eq_true rfl, Nat.le_of_ble_eq_true rfl⟩ ⟨Nat.zero_le _, Nat.zero_le _⟩ (Nat.le_of_ble_eq_true rfl) ?_
          refine wp_X7_body (by exact hW) hr0 (by first | omega | (simp only [List.length_append, List.length_singleton]; omega)) (fun M3 hf3 hr3 => ?_)
          have hW3 := hf3.W (by exact hW)
          have hg3 : FrI DT M M3 := FrI.rf.tr hf3
          have hR3 := hR.dt hg3
          refine ⟨rfl, ?_⟩
          refine g_aloadR_n dX7_coming_76 rfl rfl ?_
          refine g_bipush dX7_coming_77 (v := 10) (by decide) ?_
          refine n_v1v (n' := 0) dX7_coming_79 mX7_body lX7_274 rfl hW3 vld_x20 rfl rfl ⟨Nat.le_of_ble_eq_true rfl, Nat.le_of_ble_eq_true rfl⟩ ⟨Nat.zero_le _, Nat.zero_le _⟩ (Nat.le_of_ble_eq_true rfl) ?_
          refine wp_X7_body (by exact hW3) hr3 (by first | omega | (simp only [List.length_append, List.length_singleton]; omega)) (fun M4 hf4 hr4 => ?_)
          have hW4 := hf4.W (by exact hW3)
          have hg4 : FrI DT M M4 := hg3.tr hf4
          have hR4 := hR.dt hg4
          refine ⟨rfl, ?_⟩
          refine g_iload dX7_coming_82 rfl ?_
          refine g_iload_n dX7_coming_84 rfl rfl ?_
          refine g_iadd dX7_coming_85 ?_
          refine g_istore_7 dX7_coming_86 rfl ?_
          refine g_iload dX7_coming_88 rfl ?_
          refine g_if_eq (tgt := 104) dX7_coming_90 (by decide) (fun c90 => ?_) (fun c90 => ?_)
          · refine g_iload_n dX7_coming_104 rfl rfl ?_
            refine g_iconst dX7_coming_105 (v := 5) (by decide) ?_
            refine g_icmp_ne (tgt := 115) dX7_coming_106 (by decide) (fun c106 => ?_) (fun c106 => ?_)
            · exact absurd c106 (by decide)
            · refine g_iload dX7_coming_109 rfl ?_
              refine g_iload_n dX7_coming_111 rfl rfl ?_
              refine g_isub dX7_coming_112 ?_
              refine g_istore_7 dX7_coming_113 rfl ?_
              refine g_iload_n dX7_coming_115 rfl rfl ?_
              refine g_bipush dX7_coming_116 (v := 6) (by decide) ?_
              refine g_icmp_ne (tgt := 128) dX7_coming_118 (by decide) (fun c118 => ?_) (fun c118 => ?_)
              · refine g_iload dX7_coming_128 rfl ?_
                refine g_iret dX7_coming_130 rfl ?_
                refine h M4 hg4 ?_
                have el : ((L ++ [51]) ++ [10]) = L ++ comL 5 := by simp [comL, sitL, askL]
                rw [← el]
                exact hr4
              · exact absurd c118 (by decide)
          · exact absurd c90 (by decide)
      · exact absurd c56 (by decide)
    · exact absurd c40 (by decide)
  · exact absurd c29 (by decide)
set_option maxHeartbeats 4000000 in
set_option maxRecDepth 100000 in
theorem wp_X7_coming6 {E : Ev} {M : Mem} {Q : QT} (hW : Wi M) {S : Sc} (hR : RepR M S) (hO : OkS S) {p : Nat} (hp : p < S.1) (hk : S.2.2 p 0 = 6) {L : List Int32} (hr0 : RepTrM M L) (hL : L.length ≤ 70) {x : Int32} (h : ∀ M', FrI DT M M' → RepTrM M' (L ++ comL 6) → Q (some (vI (comV 6 (nI p) (S.2.2 p 1) x))) M') : Mth E 1 0 0 kX7_coming [vR (20, 0, 0), vI (nI p), vI x] M Q := by
  have hs10 := hO.1
  refine mth_of (by decide +kernel) [some (vR (20, 0, 0)), some (vI (nI p)), some (vI x), none, none, none, none, none] (Nat.le_of_ble_eq_true rfl) rfl ?_
  refine g_aloadR_n dX7_coming_0 rfl rfl ?_
  refine n_getR dX7_coming_1 fX7_29 rfl hW vld_x20 rfl rfl ?_
  refine g_iload_n dX7_coming_4 rfl rfl ?_
  refine n_iald (j := p) dX7_coming_5 rfl hW (vld_ma (by decide : 1 < 25)) (by decide) rfl (show p < 10 by omega) ?_
  rw [show mI M (21, 1, 0) p = 6 from (hR.2.2 p 0 hp (by decide)).trans hk]
  refine g_istore_3 dX7_coming_6 rfl ?_
  refine g_iload_n dX7_coming_7 rfl rfl ?_
  refine g_istore_4 dX7_coming_8 rfl ?_
  refine g_aloadR_n dX7_coming_10 rfl rfl ?_
  refine g_iload_n dX7_coming_11 rfl rfl ?_
  refine g_iconst dX7_coming_12 (v := 1) (by decide) ?_
  refine n_v2i (n' := 0) dX7_coming_13 mX7_isUnder lX7_116 rfl hW vld_x20 rfl rfl ⟨Nat.le_of_ble_eq_true rfl, Nat.le_of_ble_eq_true rfl⟩ ⟨Nat.zero_le _, Nat.zero_le _⟩ (Nat.le_of_ble_eq_true rfl) ?_
  refine wp_X7_isUnder ?_
  refine ⟨_, rfl, ?_⟩
  rw [show b2 (iuP 6 1) = 1 by decide]
  refine g_istore_5 dX7_coming_16 rfl ?_
  refine g_aloadR_n dX7_coming_18 rfl rfl ?_
  refine g_iload_n dX7_coming_19 rfl rfl ?_
  refine g_iconst dX7_coming_20 (v := 3) (by decide) ?_
  refine n_v2i (n' := 0) dX7_coming_21 mX7_isUnder lX7_116 rfl hW vld_x20 rfl rfl ⟨Nat.le_of_ble_eq_true rfl, Nat.le_of_ble_eq_true rfl⟩ ⟨Nat.zero_le _, Nat.zero_le _⟩ (Nat.le_of_ble_eq_true rfl) ?_
  refine wp_X7_isUnder ?_
  refine ⟨_, rfl, ?_⟩
  rw [show b2 (iuP 6 3) = 1 by decide]
  refine g_istore_6 dX7_coming_24 rfl ?_
  refine g_iload_n dX7_coming_26 rfl rfl ?_
  refine g_bipush dX7_coming_27 (v := 6) (by decide) ?_
  refine g_icmp_ne (tgt := 38) dX7_coming_29 (by decide) (fun c29 => ?_) (fun c29 => ?_)
  · exact absurd c29 (by decide)
  · refine g_aloadR_n dX7_coming_32 rfl rfl ?_
    refine g_bipush dX7_coming_33 (v := 70) (by decide) ?_
    refine n_v1v (n' := 0) dX7_coming_35 mX7_body lX7_274 rfl hW vld_x20 rfl rfl ⟨Nat.le_of_ble_eq_true rfl, Nat.le_of_ble_eq_true rfl⟩ ⟨Nat.zero_le _, Nat.zero_le _⟩ (Nat.le_of_ble_eq_true rfl) ?_
    refine wp_X7_body (by exact hW) hr0 (by first | omega | (simp only [List.length_append, List.length_singleton]; omega)) (fun M3 hf3 hr3 => ?_)
    have hW3 := hf3.W (by exact hW)
    have hg3 : FrI DT M M3 := FrI.rf.tr hf3
    have hR3 := hR.dt hg3
    refine ⟨rfl, ?_⟩
    refine g_iload dX7_coming_38 rfl ?_
    refine g_if_eq (tgt := 54) dX7_coming_40 (by decide) (fun c40 => ?_) (fun c40 => ?_)
    · exact absurd c40 (by decide)
    · refine g_aloadR_n dX7_coming_43 rfl rfl ?_
      refine g_bipush dX7_coming_44 (v := 40) (by decide) ?_
      refine n_v1v (n' := 0) dX7_coming_46 mX7_body lX7_274 rfl hW3 vld_x20 rfl rfl ⟨Nat.le_of_ble_eq_true rfl, Nat.le_of_ble_eq_true rfl⟩ ⟨Nat.zero_le _, Nat.zero_le _⟩ (Nat.le_of_ble_eq_true rfl) ?_
      refine wp_X7_body (by exact hW3) hr3 (by first | omega | (simp only [List.length_append, List.length_singleton]; omega)) (fun M4 hf4 hr4 => ?_)
      have hW4 := hf4.W (by exact hW3)
      have hg4 : FrI DT M M4 := hg3.tr hf4
      have hR4 := hR.dt hg4
      refine ⟨rfl, ?_⟩
      refine g_iload_n dX7_coming_49 rfl rfl ?_
      refine g_iconst dX7_coming_50 (v := 1) (by decide) ?_
      refine g_iadd dX7_coming_51 ?_
      refine g_istore_4 dX7_coming_52 rfl ?_
      refine g_iload dX7_coming_54 rfl ?_
      refine g_if_eq (tgt := 65) dX7_coming_56 (by decide) (fun c56 => ?_) (fun c56 => ?_)
      · exact absurd c56 (by decide)
      · refine g_aloadR_n dX7_coming_59 rfl rfl ?_
        refine g_bipush dX7_coming_60 (v := 20) (by decide) ?_
        refine n_v1v (n' := 0) dX7_coming_62 mX7_body lX7_274 rfl hW4 vld_x20 rfl rfl ⟨Nat.le_of_ble_eq_true rfl, Nat.le_of_ble_eq_true rfl⟩ ⟨Nat.zero_le _, Nat.zero_le _⟩ (Nat.le_of_ble_eq_true rfl) ?_
        refine wp_X7_body (by exact hW4) hr4 (by first | omega | (simp only [List.length_append, List.length_singleton]; omega)) (fun M5 hf5 hr5 => ?_)
        have hW5 := hf5.W (by exact hW4)
        have hg5 : FrI DT M M5 := hg4.tr hf5
        have hR5 := hR.dt hg5
        refine ⟨rfl, ?_⟩
        refine g_iload_n dX7_coming_65 rfl rfl ?_
        refine g_iconst dX7_coming_66 (v := 5) (by decide) ?_
        refine g_icmp_ne (tgt := 76) dX7_coming_67 (by decide) (fun c67 => ?_) (fun c67 => ?_)
        · refine g_aloadR_n dX7_coming_76 rfl rfl ?_
          refine g_bipush dX7_coming_77 (v := 10) (by decide) ?_
          refine n_v1v (n' := 0) dX7_coming_79 mX7_body lX7_274 rfl hW5 vld_x20 rfl rfl ⟨Nat.le_of_ble_eq_true rfl, Nat.le_of_ble_eq_true rfl⟩ ⟨Nat.zero_le _, Nat.zero_le _⟩ (Nat.le_of_ble_eq_true rfl) ?_
          refine wp_X7_body (by exact hW5) hr5 (by first | omega | (simp only [List.length_append, List.length_singleton]; omega)) (fun M6 hf6 hr6 => ?_)
          have hW6 := hf6.W (by exact hW5)
          have hg6 : FrI DT M M6 := hg5.tr hf6
          have hR6 := hR.dt hg6
          refine ⟨rfl, ?_⟩
          refine g_iload dX7_coming_82 rfl ?_
          refine g_iload_n dX7_coming_84 rfl rfl ?_
          refine g_iadd dX7_coming_85 ?_
          refine g_istore_7 dX7_coming_86 rfl ?_
          refine g_iload dX7_coming_88 rfl ?_
          refine g_if_eq (tgt := 104) dX7_coming_90 (by decide) (fun c90 => ?_) (fun c90 => ?_)
          · exact absurd c90 (by decide)
          · refine g_iload dX7_coming_93 rfl ?_
            refine g_aloadR_n dX7_coming_95 rfl rfl ?_
            refine n_getR dX7_coming_96 fX7_32 rfl hW6 vld_x20 rfl rfl ?_
            refine g_iload_n dX7_coming_99 rfl rfl ?_
            refine n_iald (j := p) dX7_coming_100 rfl hW6 (vld_ma (by decide : 2 < 25)) (by decide) rfl (show p < 10 by omega) ?_
            rw [show mI M6 (21, 2, 0) p = S.2.2 p 1 from hR6.2.2 p 1 hp (by decide)]
            refine g_iadd dX7_coming_101 ?_
            refine g_istore_7 dX7_coming_102 rfl ?_
            refine g_iload_n dX7_coming_104 rfl rfl ?_
            refine g_iconst dX7_coming_105 (v := 5) (by decide) ?_
            refine g_icmp_ne (tgt := 115) dX7_coming_106 (by decide) (fun c106 => ?_) (fun c106 => ?_)
            · refine g_iload_n dX7_coming_115 rfl rfl ?_
              refine g_bipush dX7_coming_116 (v := 6) (by decide) ?_
              refine g_icmp_ne (tgt := 128) dX7_coming_118 (by decide) (fun c118 => ?_) (fun c118 => ?_)
              · exact absurd c118 (by decide)
              · refine g_iload dX7_coming_121 rfl ?_
                refine g_iconst dX7_coming_123 (v := 2) (by decide) ?_
                refine g_imul dX7_coming_124 ?_
                refine g_goto (tgt := 130) dX7_coming_125 (by decide) ?_
                refine g_iret dX7_coming_130 rfl ?_
                refine h M6 hg6 ?_
                have el : ((((L ++ [70]) ++ [40]) ++ [20]) ++ [10]) = L ++ comL 6 := by simp [comL, sitL, askL]
                rw [← el]
                exact hr6
            · exact absurd c106 (by decide)
        · exact absurd c67 (by decide)
theorem wp_X7_coming {E : Ev} {M : Mem} {Q : QT} (hW : Wi M) {S : Sc} (hR : RepR M S) (hO : OkS S) {p : Nat} (hp : p < S.1) {L : List Int32} (hr0 : RepTrM M L) (hL : L.length ≤ 70) {x : Int32} (h : ∀ M', FrI DT M M' → RepTrM M' (L ++ comL (S.2.2 p 0).toNatClampNeg) → Q (some (vI (comV (S.2.2 p 0).toNatClampNeg (nI p) (S.2.2 p 1) x))) M') : Mth E 1 0 0 kX7_coming [vR (20, 0, 0), vI (nI p), vI x] M Q := by
  obtain ⟨k, hk, hk7⟩ := kd_c hO hp
  have hkc : (S.2.2 p 0).toNatClampNeg = k := by rw [hk, nI_clamp (by omega)]
  rw [hkc] at h
  have q7 : k = 0 ∨ k = 1 ∨ k = 2 ∨ k = 3 ∨ k = 4 ∨ k = 5 ∨ k = 6 := by omega
  rcases q7 with rfl | rfl | rfl | rfl | rfl | rfl | rfl
  · exact wp_X7_coming0 hW hR hO hp hk hr0 hL h
  · exact wp_X7_coming1 hW hR hO hp hk hr0 hL h
  · exact wp_X7_coming2 hW hR hO hp hk hr0 hL h
  · exact wp_X7_coming3 hW hR hO hp hk hr0 hL h
  · exact wp_X7_coming4 hW hR hO hp hk hr0 hL h
  · exact wp_X7_coming5 hW hR hO hp hk hr0 hL h
  · exact wp_X7_coming6 hW hR hO hp hk hr0 hL h
theorem comL_le (k : Nat) (hk : k < 7) : (comL k).length ≤ 4 := by
  have : ∀ k, k < 7 → (comL k).length ≤ 4 := by decide +kernel
  exact this k hk
theorem sitL_le (k : Nat) (hk : k < 7) : (sitL k).length ≤ 6 := by
  have : ∀ k, k < 7 → (sitL k).length ≤ 6 := by decide +kernel
  exact this k hk
set_option maxHeartbeats 4000000 in
set_option maxRecDepth 100000 in
theorem wp_X7_sitting0 {E : Ev} {M : Mem} {Q : QT} (hW : Wi M) {S : Sc} (hR : RepR M S) (hO : OkS S) {p : Nat} (hp : p < S.1) (hk : S.2.2 p 0 = 0) {L : List Int32} (hr0 : RepTrM M L) (hL : L.length ≤ 50) {x : Int32} (h : ∀ M', FrI DT M M' → RepTrM M' (L ++ sitL 0) → Q (some (vI (sitV 0 (nI p) (S.2.2 p 1) x))) M') : Mth E 2 0 0 kX7_sitting [vR (20, 0, 0), vI (nI p), vI x] M Q := by
  have hs10 := hO.1
  refine mth_of (by decide +kernel) [some (vR (20, 0, 0)), some (vI (nI p)), some (vI x), none, none, none, none] (Nat.le_of_ble_eq_true rfl) rfl ?_
  refine g_aloadR_n dX7_sitting_0 rfl rfl ?_
  refine n_getR dX7_sitting_1 fX7_29 rfl hW vld_x20 rfl rfl ?_
  refine g_iload_n dX7_sitting_4 rfl rfl ?_
  refine n_iald (j := p) dX7_sitting_5 rfl hW (vld_ma (by decide : 1 < 25)) (by decide) rfl (show p < 10 by omega) ?_
  rw [show mI M (21, 1, 0) p = 0 from (hR.2.2 p 0 hp (by decide)).trans hk]
  refine g_istore_3 dX7_sitting_6 rfl ?_
  refine g_iload_n dX7_sitting_7 rfl rfl ?_
  refine g_istore_4 dX7_sitting_8 rfl ?_
  refine g_iload_n dX7_sitting_10 rfl rfl ?_
  refine g_bipush dX7_sitting_11 (v := 6) (by decide) ?_
  refine g_icmp_ne (tgt := 32) dX7_sitting_13 (by decide) (fun c13 => ?_) (fun c13 => ?_)
  · refine g_aloadR_n dX7_sitting_32 rfl rfl ?_
    refine g_iload_n dX7_sitting_33 rfl rfl ?_
    refine g_iconst dX7_sitting_34 (v := 2) (by decide) ?_
    refine n_v2i (n' := 0) dX7_sitting_35 mX7_isUnder lX7_116 rfl hW vld_x20 rfl rfl ⟨Nat.le_of_ble_eq_true rfl, Nat.le_of_ble_eq_true rfl⟩ ⟨Nat.zero_le _, Nat.zero_le _⟩ (Nat.le_of_ble_eq_true rfl) ?_
    refine wp_X7_isUnder ?_
    refine ⟨_, rfl, ?_⟩
    rw [show b2 (iuP 0 2) = 0 by decide]
    refine g_istore_5 dX7_sitting_38 rfl ?_
    refine g_iload dX7_sitting_40 rfl ?_
    refine g_if_eq (tgt := 51) dX7_sitting_42 (by decide) (fun c42 => ?_) (fun c42 => ?_)
    · refine g_aloadR_n dX7_sitting_51 rfl rfl ?_
      refine g_bipush dX7_sitting_52 (v := 11) (by decide) ?_
      refine n_v1v (n' := 0) dX7_sitting_54 mX7_body lX7_274 rfl hW vld_x20 rfl rfl ⟨Nat.le_of_ble_eq_true rfl, Nat.le_of_ble_eq_true rfl⟩ ⟨Nat.zero_le _, Nat.zero_le _⟩ (Nat.le_of_ble_eq_true rfl) ?_
      refine wp_X7_body (by exact hW) hr0 (by first | omega | (simp only [List.length_append, List.length_singleton]; omega)) (fun M2 hf2 hr2 => ?_)
      have hW2 := hf2.W (by exact hW)
      have hg2 : FrI DT M M2 := FrI.rf.tr hf2
      have hR2 := hR.dt hg2
      refine ⟨rfl, ?_⟩
      refine g_aloadR_n dX7_sitting_57 rfl rfl ?_
      refine g_iload_n dX7_sitting_58 rfl rfl ?_
      refine g_iload dX7_sitting_59 rfl ?_
      refine n_v2i (n' := 1) dX7_sitting_61 mX7_coming lX7_277 rfl hW2 vld_x20 rfl rfl ⟨Nat.le_of_ble_eq_true rfl, Nat.le_of_ble_eq_true rfl⟩ ⟨Nat.zero_le _, Nat.zero_le _⟩ (Nat.le_of_ble_eq_true rfl) ?_
      refine wp_X7_coming0 (by exact hW2) hR2 hO hp hk hr2 (by have l1 := comL_le 0 (by decide); have l2 := sitL_le 0 (by decide); first | omega | (simp only [List.length_append, List.length_singleton]; omega)) (fun M3 hf3 hr3 => ?_)
      have hW3 := hf3.W (by exact hW2)
      have hg3 : FrI DT M M3 := hg2.tr hf3
      have hR3 := hR.dt hg3
      refine ⟨_, rfl, ?_⟩
      refine g_iconst dX7_sitting_64 (v := 2) (by decide) ?_
      refine g_imul dX7_sitting_65 ?_
      refine g_istore_6 dX7_sitting_66 rfl ?_
      refine g_iload dX7_sitting_68 rfl ?_
      refine g_if_eq (tgt := 80) dX7_sitting_70 (by decide) (fun c70 => ?_) (fun c70 => ?_)
      · refine g_iload dX7_sitting_80 rfl ?_
        refine g_iret dX7_sitting_82 rfl ?_
        refine h M3 hg3 ?_
        have el : ((L ++ [11]) ++ comL 0) = L ++ sitL 0 := by simp [comL, sitL, askL]
        rw [← el]
        exact hr3
      · exact absurd c70 (by decide)
    · exact absurd c42 (by decide)
  · exact absurd c13 (by decide)
set_option maxHeartbeats 4000000 in
set_option maxRecDepth 100000 in
theorem wp_X7_sitting1 {E : Ev} {M : Mem} {Q : QT} (hW : Wi M) {S : Sc} (hR : RepR M S) (hO : OkS S) {p : Nat} (hp : p < S.1) (hk : S.2.2 p 0 = 1) {L : List Int32} (hr0 : RepTrM M L) (hL : L.length ≤ 50) {x : Int32} (h : ∀ M', FrI DT M M' → RepTrM M' (L ++ sitL 1) → Q (some (vI (sitV 1 (nI p) (S.2.2 p 1) x))) M') : Mth E 2 0 0 kX7_sitting [vR (20, 0, 0), vI (nI p), vI x] M Q := by
  have hs10 := hO.1
  refine mth_of (by decide +kernel) [some (vR (20, 0, 0)), some (vI (nI p)), some (vI x), none, none, none, none] (Nat.le_of_ble_eq_true rfl) rfl ?_
  refine g_aloadR_n dX7_sitting_0 rfl rfl ?_
  refine n_getR dX7_sitting_1 fX7_29 rfl hW vld_x20 rfl rfl ?_
  refine g_iload_n dX7_sitting_4 rfl rfl ?_
  refine n_iald (j := p) dX7_sitting_5 rfl hW (vld_ma (by decide : 1 < 25)) (by decide) rfl (show p < 10 by omega) ?_
  rw [show mI M (21, 1, 0) p = 1 from (hR.2.2 p 0 hp (by decide)).trans hk]
  refine g_istore_3 dX7_sitting_6 rfl ?_
  refine g_iload_n dX7_sitting_7 rfl rfl ?_
  refine g_istore_4 dX7_sitting_8 rfl ?_
  refine g_iload_n dX7_sitting_10 rfl rfl ?_
  refine g_bipush dX7_sitting_11 (v := 6) (by decide) ?_
  refine g_icmp_ne (tgt := 32) dX7_sitting_13 (by decide) (fun c13 => ?_) (fun c13 => ?_)
  · refine g_aloadR_n dX7_sitting_32 rfl rfl ?_
    refine g_iload_n dX7_sitting_33 rfl rfl ?_
    refine g_iconst dX7_sitting_34 (v := 2) (by decide) ?_
    refine n_v2i (n' := 0) dX7_sitting_35 mX7_isUnder lX7_116 rfl hW vld_x20 rfl rfl ⟨Nat.le_of_ble_eq_true rfl, Nat.le_of_ble_eq_true rfl⟩ ⟨Nat.zero_le _, Nat.zero_le _⟩ (Nat.le_of_ble_eq_true rfl) ?_
    refine wp_X7_isUnder ?_
    refine ⟨_, rfl, ?_⟩
    rw [show b2 (iuP 1 2) = 0 by decide]
    refine g_istore_5 dX7_sitting_38 rfl ?_
    refine g_iload dX7_sitting_40 rfl ?_
    refine g_if_eq (tgt := 51) dX7_sitting_42 (by decide) (fun c42 => ?_) (fun c42 => ?_)
    · refine g_aloadR_n dX7_sitting_51 rfl rfl ?_
      refine g_bipush dX7_sitting_52 (v := 11) (by decide) ?_
      refine n_v1v (n' := 0) dX7_sitting_54 mX7_body lX7_274 rfl hW vld_x20 rfl rfl ⟨Nat.le_of_ble_eq_true rfl, Nat.le_of_ble_eq_true rfl⟩ ⟨Nat.zero_le _, Nat.zero_le _⟩ (Nat.le_of_ble_eq_true rfl) ?_
      refine wp_X7_body (by exact hW) hr0 (by first | omega | (simp only [List.length_append, List.length_singleton]; omega)) (fun M2 hf2 hr2 => ?_)
      have hW2 := hf2.W (by exact hW)
      have hg2 : FrI DT M M2 := FrI.rf.tr hf2
      have hR2 := hR.dt hg2
      refine ⟨rfl, ?_⟩
      refine g_aloadR_n dX7_sitting_57 rfl rfl ?_
      refine g_iload_n dX7_sitting_58 rfl rfl ?_
      refine g_iload dX7_sitting_59 rfl ?_
      refine n_v2i (n' := 1) dX7_sitting_61 mX7_coming lX7_277 rfl hW2 vld_x20 rfl rfl ⟨Nat.le_of_ble_eq_true rfl, Nat.le_of_ble_eq_true rfl⟩ ⟨Nat.zero_le _, Nat.zero_le _⟩ (Nat.le_of_ble_eq_true rfl) ?_
      refine wp_X7_coming1 (by exact hW2) hR2 hO hp hk hr2 (by have l1 := comL_le 1 (by decide); have l2 := sitL_le 1 (by decide); first | omega | (simp only [List.length_append, List.length_singleton]; omega)) (fun M3 hf3 hr3 => ?_)
      have hW3 := hf3.W (by exact hW2)
      have hg3 : FrI DT M M3 := hg2.tr hf3
      have hR3 := hR.dt hg3
      refine ⟨_, rfl, ?_⟩
      refine g_iconst dX7_sitting_64 (v := 2) (by decide) ?_
      refine g_imul dX7_sitting_65 ?_
      refine g_istore_6 dX7_sitting_66 rfl ?_
      refine g_iload dX7_sitting_68 rfl ?_
      refine g_if_eq (tgt := 80) dX7_sitting_70 (by decide) (fun c70 => ?_) (fun c70 => ?_)
      · refine g_iload dX7_sitting_80 rfl ?_
        refine g_iret dX7_sitting_82 rfl ?_
        refine h M3 hg3 ?_
        have el : ((L ++ [11]) ++ comL 1) = L ++ sitL 1 := by simp [comL, sitL, askL]
        rw [← el]
        exact hr3
      · exact absurd c70 (by decide)
    · exact absurd c42 (by decide)
  · exact absurd c13 (by decide)
set_option maxHeartbeats 4000000 in
set_option maxRecDepth 100000 in
theorem wp_X7_sitting2 {E : Ev} {M : Mem} {Q : QT} (hW : Wi M) {S : Sc} (hR : RepR M S) (hO : OkS S) {p : Nat} (hp : p < S.1) (hk : S.2.2 p 0 = 2) {L : List Int32} (hr0 : RepTrM M L) (hL : L.length ≤ 50) {x : Int32} (h : ∀ M', FrI DT M M' → RepTrM M' (L ++ sitL 2) → Q (some (vI (sitV 2 (nI p) (S.2.2 p 1) x))) M') : Mth E 2 0 0 kX7_sitting [vR (20, 0, 0), vI (nI p), vI x] M Q := by
  have hs10 := hO.1
  refine mth_of (by decide +kernel) [some (vR (20, 0, 0)), some (vI (nI p)), some (vI x), none, none, none, none] (Nat.le_of_ble_eq_true rfl) rfl ?_
  refine g_aloadR_n dX7_sitting_0 rfl rfl ?_
  refine n_getR dX7_sitting_1 fX7_29 rfl hW vld_x20 rfl rfl ?_
  refine g_iload_n dX7_sitting_4 rfl rfl ?_
  refine n_iald (j := p) dX7_sitting_5 rfl hW (vld_ma (by decide : 1 < 25)) (by decide) rfl (show p < 10 by omega) ?_
  rw [show mI M (21, 1, 0) p = 2 from (hR.2.2 p 0 hp (by decide)).trans hk]
  refine g_istore_3 dX7_sitting_6 rfl ?_
  refine g_iload_n dX7_sitting_7 rfl rfl ?_
  refine g_istore_4 dX7_sitting_8 rfl ?_
  refine g_iload_n dX7_sitting_10 rfl rfl ?_
  refine g_bipush dX7_sitting_11 (v := 6) (by decide) ?_
  refine g_icmp_ne (tgt := 32) dX7_sitting_13 (by decide) (fun c13 => ?_) (fun c13 => ?_)
  · refine g_aloadR_n dX7_sitting_32 rfl rfl ?_
    refine g_iload_n dX7_sitting_33 rfl rfl ?_
    refine g_iconst dX7_sitting_34 (v := 2) (by decide) ?_
    refine n_v2i (n' := 0) dX7_sitting_35 mX7_isUnder lX7_116 rfl hW vld_x20 rfl rfl ⟨Nat.le_of_ble_eq_true rfl, Nat.le_of_ble_eq_true rfl⟩ ⟨Nat.zero_le _, Nat.zero_le _⟩ (Nat.le_of_ble_eq_true rfl) ?_
    refine wp_X7_isUnder ?_
    refine ⟨_, rfl, ?_⟩
    rw [show b2 (iuP 2 2) = 1 by decide]
    refine g_istore_5 dX7_sitting_38 rfl ?_
    refine g_iload dX7_sitting_40 rfl ?_
    refine g_if_eq (tgt := 51) dX7_sitting_42 (by decide) (fun c42 => ?_) (fun c42 => ?_)
    · exact absurd c42 (by decide)
    · refine g_aloadR_n dX7_sitting_45 rfl rfl ?_
      refine g_bipush dX7_sitting_46 (v := 30) (by decide) ?_
      refine n_v1v (n' := 0) dX7_sitting_48 mX7_body lX7_274 rfl hW vld_x20 rfl rfl ⟨Nat.le_of_ble_eq_true rfl, Nat.le_of_ble_eq_true rfl⟩ ⟨Nat.zero_le _, Nat.zero_le _⟩ (Nat.le_of_ble_eq_true rfl) ?_
      refine wp_X7_body (by exact hW) hr0 (by first | omega | (simp only [List.length_append, List.length_singleton]; omega)) (fun M2 hf2 hr2 => ?_)
      have hW2 := hf2.W (by exact hW)
      have hg2 : FrI DT M M2 := FrI.rf.tr hf2
      have hR2 := hR.dt hg2
      refine ⟨rfl, ?_⟩
      refine g_aloadR_n dX7_sitting_51 rfl rfl ?_
      refine g_bipush dX7_sitting_52 (v := 11) (by decide) ?_
      refine n_v1v (n' := 0) dX7_sitting_54 mX7_body lX7_274 rfl hW2 vld_x20 rfl rfl ⟨Nat.le_of_ble_eq_true rfl, Nat.le_of_ble_eq_true rfl⟩ ⟨Nat.zero_le _, Nat.zero_le _⟩ (Nat.le_of_ble_eq_true rfl) ?_
      refine wp_X7_body (by exact hW2) hr2 (by first | omega | (simp only [List.length_append, List.length_singleton]; omega)) (fun M3 hf3 hr3 => ?_)
      have hW3 := hf3.W (by exact hW2)
      have hg3 : FrI DT M M3 := hg2.tr hf3
      have hR3 := hR.dt hg3
      refine ⟨rfl, ?_⟩
      refine g_aloadR_n dX7_sitting_57 rfl rfl ?_
      refine g_iload_n dX7_sitting_58 rfl rfl ?_
      refine g_iload dX7_sitting_59 rfl ?_
      refine n_v2i (n' := 1) dX7_sitting_61 mX7_coming lX7_277 rfl hW3 vld_x20 rfl rfl ⟨Nat.le_of_ble_eq_true rfl, Nat.le_of_ble_eq_true rfl⟩ ⟨Nat.zero_le _, Nat.zero_le _⟩ (Nat.le_of_ble_eq_true rfl) ?_
      refine wp_X7_coming2 (by exact hW3) hR3 hO hp hk hr3 (by have l1 := comL_le 2 (by decide); have l2 := sitL_le 2 (by decide); first | omega | (simp only [List.length_append, List.length_singleton]; omega)) (fun M4 hf4 hr4 => ?_)
      have hW4 := hf4.W (by exact hW3)
      have hg4 : FrI DT M M4 := hg3.tr hf4
      have hR4 := hR.dt hg4
      refine ⟨_, rfl, ?_⟩
      refine g_iconst dX7_sitting_64 (v := 2) (by decide) ?_
      refine g_imul dX7_sitting_65 ?_
      refine g_istore_6 dX7_sitting_66 rfl ?_
      refine g_iload dX7_sitting_68 rfl ?_
      refine g_if_eq (tgt := 80) dX7_sitting_70 (by decide) (fun c70 => ?_) (fun c70 => ?_)
      · exact absurd c70 (by decide)
      · refine g_iload dX7_sitting_73 rfl ?_
        refine g_iconst dX7_sitting_75 (v := 3) (by decide) ?_
        refine g_imul dX7_sitting_76 ?_
        refine g_goto (tgt := 82) dX7_sitting_77 (by decide) ?_
        refine g_iret dX7_sitting_82 rfl ?_
        refine h M4 hg4 ?_
        have el : (((L ++ [30]) ++ [11]) ++ comL 2) = L ++ sitL 2 := by simp [comL, sitL, askL]
        rw [← el]
        exact hr4
  · exact absurd c13 (by decide)
set_option maxHeartbeats 4000000 in
set_option maxRecDepth 100000 in
theorem wp_X7_sitting3 {E : Ev} {M : Mem} {Q : QT} (hW : Wi M) {S : Sc} (hR : RepR M S) (hO : OkS S) {p : Nat} (hp : p < S.1) (hk : S.2.2 p 0 = 3) {L : List Int32} (hr0 : RepTrM M L) (hL : L.length ≤ 50) {x : Int32} (h : ∀ M', FrI DT M M' → RepTrM M' (L ++ sitL 3) → Q (some (vI (sitV 3 (nI p) (S.2.2 p 1) x))) M') : Mth E 2 0 0 kX7_sitting [vR (20, 0, 0), vI (nI p), vI x] M Q := by
  have hs10 := hO.1
  refine mth_of (by decide +kernel) [some (vR (20, 0, 0)), some (vI (nI p)), some (vI x), none, none, none, none] (Nat.le_of_ble_eq_true rfl) rfl ?_
  refine g_aloadR_n dX7_sitting_0 rfl rfl ?_
  refine n_getR dX7_sitting_1 fX7_29 rfl hW vld_x20 rfl rfl ?_
  refine g_iload_n dX7_sitting_4 rfl rfl ?_
  refine n_iald (j := p) dX7_sitting_5 rfl hW (vld_ma (by decide : 1 < 25)) (by decide) rfl (show p < 10 by omega) ?_
  rw [show mI M (21, 1, 0) p = 3 from (hR.2.2 p 0 hp (by decide)).trans hk]
  refine g_istore_3 dX7_sitting_6 rfl ?_
  refine g_iload_n dX7_sitting_7 rfl rfl ?_
  refine g_istore_4 dX7_sitting_8 rfl ?_
  refine g_iload_n dX7_sitting_10 rfl rfl ?_
  refine g_bipush dX7_sitting_11 (v := 6) (by decide) ?_
  refine g_icmp_ne (tgt := 32) dX7_sitting_13 (by decide) (fun c13 => ?_) (fun c13 => ?_)
  · refine g_aloadR_n dX7_sitting_32 rfl rfl ?_
    refine g_iload_n dX7_sitting_33 rfl rfl ?_
    refine g_iconst dX7_sitting_34 (v := 2) (by decide) ?_
    refine n_v2i (n' := 0) dX7_sitting_35 mX7_isUnder lX7_116 rfl hW vld_x20 rfl rfl ⟨Nat.le_of_ble_eq_true rfl, Nat.le_of_ble_eq_true rfl⟩ ⟨Nat.zero_le _, Nat.zero_le _⟩ (Nat.le_of_ble_eq_true rfl) ?_
    refine wp_X7_isUnder ?_
    refine ⟨_, rfl, ?_⟩
    rw [show b2 (iuP 3 2) = 0 by decide]
    refine g_istore_5 dX7_sitting_38 rfl ?_
    refine g_iload dX7_sitting_40 rfl ?_
    refine g_if_eq (tgt := 51) dX7_sitting_42 (by decide) (fun c42 => ?_) (fun c42 => ?_)
    · refine g_aloadR_n dX7_sitting_51 rfl rfl ?_
      refine g_bipush dX7_sitting_52 (v := 11) (by decide) ?_
      refine n_v1v (n' := 0) dX7_sitting_54 mX7_body lX7_274 rfl hW vld_x20 rfl rfl ⟨Nat.le_of_ble_eq_true rfl, Nat.le_of_ble_eq_true rfl⟩ ⟨Nat.zero_le _, Nat.zero_le _⟩ (Nat.le_of_ble_eq_true rfl) ?_
      refine wp_X7_body (by exact hW) hr0 (by first | omega | (simp only [List.length_append, List.length_singleton]; omega)) (fun M2 hf2 hr2 => ?_)
      have hW2 := hf2.W (by exact hW)
      have hg2 : FrI DT M M2 := FrI.rf.tr hf2
      have hR2 := hR.dt hg2
      refine ⟨rfl, ?_⟩
      refine g_aloadR_n dX7_sitting_57 rfl rfl ?_
      refine g_iload_n dX7_sitting_58 rfl rfl ?_
      refine g_iload dX7_sitting_59 rfl ?_
      refine n_v2i (n' := 1) dX7_sitting_61 mX7_coming lX7_277 rfl hW2 vld_x20 rfl rfl ⟨Nat.le_of_ble_eq_true rfl, Nat.le_of_ble_eq_true rfl⟩ ⟨Nat.zero_le _, Nat.zero_le _⟩ (Nat.le_of_ble_eq_true rfl) ?_
      refine wp_X7_coming3 (by exact hW2) hR2 hO hp hk hr2 (by have l1 := comL_le 3 (by decide); have l2 := sitL_le 3 (by decide); first | omega | (simp only [List.length_append, List.length_singleton]; omega)) (fun M3 hf3 hr3 => ?_)
      have hW3 := hf3.W (by exact hW2)
      have hg3 : FrI DT M M3 := hg2.tr hf3
      have hR3 := hR.dt hg3
      refine ⟨_, rfl, ?_⟩
      refine g_iconst dX7_sitting_64 (v := 2) (by decide) ?_
      refine g_imul dX7_sitting_65 ?_
      refine g_istore_6 dX7_sitting_66 rfl ?_
      refine g_iload dX7_sitting_68 rfl ?_
      refine g_if_eq (tgt := 80) dX7_sitting_70 (by decide) (fun c70 => ?_) (fun c70 => ?_)
      · refine g_iload dX7_sitting_80 rfl ?_
        refine g_iret dX7_sitting_82 rfl ?_
        refine h M3 hg3 ?_
        have el : ((L ++ [11]) ++ comL 3) = L ++ sitL 3 := by simp [comL, sitL, askL]
        rw [← el]
        exact hr3
      · exact absurd c70 (by decide)
    · exact absurd c42 (by decide)
  · exact absurd c13 (by decide)
set_option maxHeartbeats 4000000 in
set_option maxRecDepth 100000 in
theorem wp_X7_sitting4 {E : Ev} {M : Mem} {Q : QT} (hW : Wi M) {S : Sc} (hR : RepR M S) (hO : OkS S) {p : Nat} (hp : p < S.1) (hk : S.2.2 p 0 = 4) {L : List Int32} (hr0 : RepTrM M L) (hL : L.length ≤ 50) {x : Int32} (h : ∀ M', FrI DT M M' → RepTrM M' (L ++ sitL 4) → Q (some (vI (sitV 4 (nI p) (S.2.2 p 1) x))) M') : Mth E 2 0 0 kX7_sitting [vR (20, 0, 0), vI (nI p), vI x] M Q := by
  have hs10 := hO.1
  refine mth_of (by decide +kernel) [some (vR (20, 0, 0)), some (vI (nI p)), some (vI x), none, none, none, none] (Nat.le_of_ble_eq_true rfl) rfl ?_
  refine g_aloadR_n dX7_sitting_0 rfl rfl ?_
  refine n_getR dX7_sitting_1 fX7_29 rfl hW vld_x20 rfl rfl ?_
  refine g_iload_n dX7_sitting_4 rfl rfl ?_
  refine n_iald (j := p) dX7_sitting_5 rfl hW (vld_ma (by decide : 1 < 25)) (by decide) rfl (show p < 10 by omega) ?_
  rw [show mI M (21, 1, 0) p = 4 from (hR.2.2 p 0 hp (by decide)).trans hk]
  refine g_istore_3 dX7_sitting_6 rfl ?_
  refine g_iload_n dX7_sitting_7 rfl rfl ?_
  refine g_istore_4 dX7_sitting_8 rfl ?_
  refine g_iload_n dX7_sitting_10 rfl rfl ?_
  refine g_bipush dX7_sitting_11 (v := 6) (by decide) ?_
  refine g_icmp_ne (tgt := 32) dX7_sitting_13 (by decide) (fun c13 => ?_) (fun c13 => ?_)
  · refine g_aloadR_n dX7_sitting_32 rfl rfl ?_
    refine g_iload_n dX7_sitting_33 rfl rfl ?_
    refine g_iconst dX7_sitting_34 (v := 2) (by decide) ?_
    refine n_v2i (n' := 0) dX7_sitting_35 mX7_isUnder lX7_116 rfl hW vld_x20 rfl rfl ⟨Nat.le_of_ble_eq_true rfl, Nat.le_of_ble_eq_true rfl⟩ ⟨Nat.zero_le _, Nat.zero_le _⟩ (Nat.le_of_ble_eq_true rfl) ?_
    refine wp_X7_isUnder ?_
    refine ⟨_, rfl, ?_⟩
    rw [show b2 (iuP 4 2) = 1 by decide]
    refine g_istore_5 dX7_sitting_38 rfl ?_
    refine g_iload dX7_sitting_40 rfl ?_
    refine g_if_eq (tgt := 51) dX7_sitting_42 (by decide) (fun c42 => ?_) (fun c42 => ?_)
    · exact absurd c42 (by decide)
    · refine g_aloadR_n dX7_sitting_45 rfl rfl ?_
      refine g_bipush dX7_sitting_46 (v := 30) (by decide) ?_
      refine n_v1v (n' := 0) dX7_sitting_48 mX7_body lX7_274 rfl hW vld_x20 rfl rfl ⟨Nat.le_of_ble_eq_true rfl, Nat.le_of_ble_eq_true rfl⟩ ⟨Nat.zero_le _, Nat.zero_le _⟩ (Nat.le_of_ble_eq_true rfl) ?_
      refine wp_X7_body (by exact hW) hr0 (by first | omega | (simp only [List.length_append, List.length_singleton]; omega)) (fun M2 hf2 hr2 => ?_)
      have hW2 := hf2.W (by exact hW)
      have hg2 : FrI DT M M2 := FrI.rf.tr hf2
      have hR2 := hR.dt hg2
      refine ⟨rfl, ?_⟩
      refine g_aloadR_n dX7_sitting_51 rfl rfl ?_
      refine g_bipush dX7_sitting_52 (v := 11) (by decide) ?_
      refine n_v1v (n' := 0) dX7_sitting_54 mX7_body lX7_274 rfl hW2 vld_x20 rfl rfl ⟨Nat.le_of_ble_eq_true rfl, Nat.le_of_ble_eq_true rfl⟩ ⟨Nat.zero_le _, Nat.zero_le _⟩ (Nat.le_of_ble_eq_true rfl) ?_
      refine wp_X7_body (by exact hW2) hr2 (by first | omega | (simp only [List.length_append, List.length_singleton]; omega)) (fun M3 hf3 hr3 => ?_)
      have hW3 := hf3.W (by exact hW2)
      have hg3 : FrI DT M M3 := hg2.tr hf3
      have hR3 := hR.dt hg3
      refine ⟨rfl, ?_⟩
      refine g_aloadR_n dX7_sitting_57 rfl rfl ?_
      refine g_iload_n dX7_sitting_58 rfl rfl ?_
      refine g_iload dX7_sitting_59 rfl ?_
      refine n_v2i (n' := 1) dX7_sitting_61 mX7_coming lX7_277 rfl hW3 vld_x20 rfl rfl ⟨Nat.le_of_ble_eq_true rfl, Nat.le_of_ble_eq_true rfl⟩ ⟨Nat.zero_le _, Nat.zero_le _⟩ (Nat.le_of_ble_eq_true rfl) ?_
      refine wp_X7_coming4 (by exact hW3) hR3 hO hp hk hr3 (by have l1 := comL_le 4 (by decide); have l2 := sitL_le 4 (by decide); first | omega | (simp only [List.length_append, List.length_singleton]; omega)) (fun M4 hf4 hr4 => ?_)
      have hW4 := hf4.W (by exact hW3)
      have hg4 : FrI DT M M4 := hg3.tr hf4
      have hR4 := hR.dt hg4
      refine ⟨_, rfl, ?_⟩
      refine g_iconst dX7_sitting_64 (v := 2) (by decide) ?_
      refine g_imul dX7_sitting_65 ?_
      refine g_istore_6 dX7_sitting_66 rfl ?_
      refine g_iload dX7_sitting_68 rfl ?_
      refine g_if_eq (tgt := 80) dX7_sitting_70 (by decide) (fun c70 => ?_) (fun c70 => ?_)
      · exact absurd c70 (by decide)
      · refine g_iload dX7_sitting_73 rfl ?_
        refine g_iconst dX7_sitting_75 (v := 3) (by decide) ?_
        refine g_imul dX7_sitting_76 ?_
        refine g_goto (tgt := 82) dX7_sitting_77 (by decide) ?_
        refine g_iret dX7_sitting_82 rfl ?_
        refine h M4 hg4 ?_
        have el : (((L ++ [30]) ++ [11]) ++ comL 4) = L ++ sitL 4 := by simp [comL, sitL, askL]
        rw [← el]
        exact hr4
  · exact absurd c13 (by decide)
set_option maxHeartbeats 4000000 in
set_option maxRecDepth 100000 in
theorem wp_X7_sitting5 {E : Ev} {M : Mem} {Q : QT} (hW : Wi M) {S : Sc} (hR : RepR M S) (hO : OkS S) {p : Nat} (hp : p < S.1) (hk : S.2.2 p 0 = 5) {L : List Int32} (hr0 : RepTrM M L) (hL : L.length ≤ 50) {x : Int32} (h : ∀ M', FrI DT M M' → RepTrM M' (L ++ sitL 5) → Q (some (vI (sitV 5 (nI p) (S.2.2 p 1) x))) M') : Mth E 2 0 0 kX7_sitting [vR (20, 0, 0), vI (nI p), vI x] M Q := by
  have hs10 := hO.1
  refine mth_of (by decide +kernel) [some (vR (20, 0, 0)), some (vI (nI p)), some (vI x), none, none, none, none] (Nat.le_of_ble_eq_true rfl) rfl ?_
  refine g_aloadR_n dX7_sitting_0 rfl rfl ?_
  refine n_getR dX7_sitting_1 fX7_29 rfl hW vld_x20 rfl rfl ?_
  refine g_iload_n dX7_sitting_4 rfl rfl ?_
  refine n_iald (j := p) dX7_sitting_5 rfl hW (vld_ma (by decide : 1 < 25)) (by decide) rfl (show p < 10 by omega) ?_
  rw [show mI M (21, 1, 0) p = 5 from (hR.2.2 p 0 hp (by decide)).trans hk]
  refine g_istore_3 dX7_sitting_6 rfl ?_
  refine g_iload_n dX7_sitting_7 rfl rfl ?_
  refine g_istore_4 dX7_sitting_8 rfl ?_
  refine g_iload_n dX7_sitting_10 rfl rfl ?_
  refine g_bipush dX7_sitting_11 (v := 6) (by decide) ?_
  refine g_icmp_ne (tgt := 32) dX7_sitting_13 (by decide) (fun c13 => ?_) (fun c13 => ?_)
  · refine g_aloadR_n dX7_sitting_32 rfl rfl ?_
    refine g_iload_n dX7_sitting_33 rfl rfl ?_
    refine g_iconst dX7_sitting_34 (v := 2) (by decide) ?_
    refine n_v2i (n' := 0) dX7_sitting_35 mX7_isUnder lX7_116 rfl hW vld_x20 rfl rfl ⟨Nat.le_of_ble_eq_true rfl, Nat.le_of_ble_eq_true rfl⟩ ⟨Nat.zero_le _, Nat.zero_le _⟩ (Nat.le_of_ble_eq_true rfl) ?_
    refine wp_X7_isUnder ?_
    refine ⟨_, rfl, ?_⟩
    rw [show b2 (iuP 5 2) = 0 by decide]
    refine g_istore_5 dX7_sitting_38 rfl ?_
    refine g_iload dX7_sitting_40 rfl ?_
    refine g_if_eq (tgt := 51) dX7_sitting_42 (by decide) (fun c42 => ?_) (fun c42 => ?_)
    · refine g_aloadR_n dX7_sitting_51 rfl rfl ?_
      refine g_bipush dX7_sitting_52 (v := 11) (by decide) ?_
      refine n_v1v (n' := 0) dX7_sitting_54 mX7_body lX7_274 rfl hW vld_x20 rfl rfl ⟨Nat.le_of_ble_eq_true rfl, Nat.le_of_ble_eq_true rfl⟩ ⟨Nat.zero_le _, Nat.zero_le _⟩ (Nat.le_of_ble_eq_true rfl) ?_
      refine wp_X7_body (by exact hW) hr0 (by first | omega | (simp only [List.length_append, List.length_singleton]; omega)) (fun M2 hf2 hr2 => ?_)
      have hW2 := hf2.W (by exact hW)
      have hg2 : FrI DT M M2 := FrI.rf.tr hf2
      have hR2 := hR.dt hg2
      refine ⟨rfl, ?_⟩
      refine g_aloadR_n dX7_sitting_57 rfl rfl ?_
      refine g_iload_n dX7_sitting_58 rfl rfl ?_
      refine g_iload dX7_sitting_59 rfl ?_
      refine n_v2i (n' := 1) dX7_sitting_61 mX7_coming lX7_277 rfl hW2 vld_x20 rfl rfl ⟨Nat.le_of_ble_eq_true rfl, Nat.le_of_ble_eq_true rfl⟩ ⟨Nat.zero_le _, Nat.zero_le _⟩ (Nat.le_of_ble_eq_true rfl) ?_
      refine wp_X7_coming5 (by exact hW2) hR2 hO hp hk hr2 (by have l1 := comL_le 5 (by decide); have l2 := sitL_le 5 (by decide); first | omega | (simp only [List.length_append, List.length_singleton]; omega)) (fun M3 hf3 hr3 => ?_)
      have hW3 := hf3.W (by exact hW2)
      have hg3 : FrI DT M M3 := hg2.tr hf3
      have hR3 := hR.dt hg3
      refine ⟨_, rfl, ?_⟩
      refine g_iconst dX7_sitting_64 (v := 2) (by decide) ?_
      refine g_imul dX7_sitting_65 ?_
      refine g_istore_6 dX7_sitting_66 rfl ?_
      refine g_iload dX7_sitting_68 rfl ?_
      refine g_if_eq (tgt := 80) dX7_sitting_70 (by decide) (fun c70 => ?_) (fun c70 => ?_)
      · refine g_iload dX7_sitting_80 rfl ?_
        refine g_iret dX7_sitting_82 rfl ?_
        refine h M3 hg3 ?_
        have el : ((L ++ [11]) ++ comL 5) = L ++ sitL 5 := by simp [comL, sitL, askL]
        rw [← el]
        exact hr3
      · exact absurd c70 (by decide)
    · exact absurd c42 (by decide)
  · exact absurd c13 (by decide)
set_option maxHeartbeats 4000000 in
set_option maxRecDepth 100000 in
theorem wp_X7_sitting6 {E : Ev} {M : Mem} {Q : QT} (hW : Wi M) {S : Sc} (hR : RepR M S) (hO : OkS S) {p : Nat} (hp : p < S.1) (hk : S.2.2 p 0 = 6) {L : List Int32} (hr0 : RepTrM M L) (hL : L.length ≤ 50) {x : Int32} (h : ∀ M', FrI DT M M' → RepTrM M' (L ++ sitL 6) → Q (some (vI (sitV 6 (nI p) (S.2.2 p 1) x))) M') : Mth E 2 0 0 kX7_sitting [vR (20, 0, 0), vI (nI p), vI x] M Q := by
  have hs10 := hO.1
  refine mth_of (by decide +kernel) [some (vR (20, 0, 0)), some (vI (nI p)), some (vI x), none, none, none, none] (Nat.le_of_ble_eq_true rfl) rfl ?_
  refine g_aloadR_n dX7_sitting_0 rfl rfl ?_
  refine n_getR dX7_sitting_1 fX7_29 rfl hW vld_x20 rfl rfl ?_
  refine g_iload_n dX7_sitting_4 rfl rfl ?_
  refine n_iald (j := p) dX7_sitting_5 rfl hW (vld_ma (by decide : 1 < 25)) (by decide) rfl (show p < 10 by omega) ?_
  rw [show mI M (21, 1, 0) p = 6 from (hR.2.2 p 0 hp (by decide)).trans hk]
  refine g_istore_3 dX7_sitting_6 rfl ?_
  refine g_iload_n dX7_sitting_7 rfl rfl ?_
  refine g_istore_4 dX7_sitting_8 rfl ?_
  refine g_iload_n dX7_sitting_10 rfl rfl ?_
  refine g_bipush dX7_sitting_11 (v := 6) (by decide) ?_
  refine g_icmp_ne (tgt := 32) dX7_sitting_13 (by decide) (fun c13 => ?_) (fun c13 => ?_)
  · exact absurd c13 (by decide)
  · refine g_aloadR_n dX7_sitting_16 rfl rfl ?_
    refine g_bipush dX7_sitting_17 (v := 71) (by decide) ?_
    refine n_v1v (n' := 0) dX7_sitting_19 mX7_body lX7_274 rfl hW vld_x20 rfl rfl ⟨Nat.le_of_ble_eq_true rfl, Nat.le_of_ble_eq_true rfl⟩ ⟨Nat.zero_le _, Nat.zero_le _⟩ (Nat.le_of_ble_eq_true rfl) ?_
    refine wp_X7_body (by exact hW) hr0 (by first | omega | (simp only [List.length_append, List.length_singleton]; omega)) (fun M1 hf1 hr1 => ?_)
    have hW1 := hf1.W (by exact hW)
    have hg1 : FrI DT M M1 := FrI.rf.tr hf1
    have hR1 := hR.dt hg1
    refine ⟨rfl, ?_⟩
    refine g_iload_n dX7_sitting_22 rfl rfl ?_
    refine g_aloadR_n dX7_sitting_23 rfl rfl ?_
    refine n_getR dX7_sitting_24 fX7_32 rfl hW1 vld_x20 rfl rfl ?_
    refine g_iload_n dX7_sitting_27 rfl rfl ?_
    refine n_iald (j := p) dX7_sitting_28 rfl hW1 (vld_ma (by decide : 2 < 25)) (by decide) rfl (show p < 10 by omega) ?_
    rw [show mI M1 (21, 2, 0) p = S.2.2 p 1 from hR1.2.2 p 1 hp (by decide)]
    refine g_isub dX7_sitting_29 ?_
    refine g_istore_4 dX7_sitting_30 rfl ?_
    refine g_aloadR_n dX7_sitting_32 rfl rfl ?_
    refine g_iload_n dX7_sitting_33 rfl rfl ?_
    refine g_iconst dX7_sitting_34 (v := 2) (by decide) ?_
    refine n_v2i (n' := 0) dX7_sitting_35 mX7_isUnder lX7_116 rfl hW1 vld_x20 rfl rfl ⟨Nat.le_of_ble_eq_true rfl, Nat.le_of_ble_eq_true rfl⟩ ⟨Nat.zero_le _, Nat.zero_le _⟩ (Nat.le_of_ble_eq_true rfl) ?_
    refine wp_X7_isUnder ?_
    refine ⟨_, rfl, ?_⟩
    rw [show b2 (iuP 6 2) = 0 by decide]
    refine g_istore_5 dX7_sitting_38 rfl ?_
    refine g_iload dX7_sitting_40 rfl ?_
    refine g_if_eq (tgt := 51) dX7_sitting_42 (by decide) (fun c42 => ?_) (fun c42 => ?_)
    · refine g_aloadR_n dX7_sitting_51 rfl rfl ?_
      refine g_bipush dX7_sitting_52 (v := 11) (by decide) ?_
      refine n_v1v (n' := 0) dX7_sitting_54 mX7_body lX7_274 rfl hW1 vld_x20 rfl rfl ⟨Nat.le_of_ble_eq_true rfl, Nat.le_of_ble_eq_true rfl⟩ ⟨Nat.zero_le _, Nat.zero_le _⟩ (Nat.le_of_ble_eq_true rfl) ?_
      refine wp_X7_body (by exact hW1) hr1 (by first | omega | (simp only [List.length_append, List.length_singleton]; omega)) (fun M3 hf3 hr3 => ?_)
      have hW3 := hf3.W (by exact hW1)
      have hg3 : FrI DT M M3 := hg1.tr hf3
      have hR3 := hR.dt hg3
      refine ⟨rfl, ?_⟩
      refine g_aloadR_n dX7_sitting_57 rfl rfl ?_
      refine g_iload_n dX7_sitting_58 rfl rfl ?_
      refine g_iload dX7_sitting_59 rfl ?_
      refine n_v2i (n' := 1) dX7_sitting_61 mX7_coming lX7_277 rfl hW3 vld_x20 rfl rfl ⟨Nat.le_of_ble_eq_true rfl, Nat.le_of_ble_eq_true rfl⟩ ⟨Nat.zero_le _, Nat.zero_le _⟩ (Nat.le_of_ble_eq_true rfl) ?_
      refine wp_X7_coming6 (by exact hW3) hR3 hO hp hk hr3 (by have l1 := comL_le 6 (by decide); have l2 := sitL_le 6 (by decide); first | omega | (simp only [List.length_append, List.length_singleton]; omega)) (fun M4 hf4 hr4 => ?_)
      have hW4 := hf4.W (by exact hW3)
      have hg4 : FrI DT M M4 := hg3.tr hf4
      have hR4 := hR.dt hg4
      refine ⟨_, rfl, ?_⟩
      refine g_iconst dX7_sitting_64 (v := 2) (by decide) ?_
      refine g_imul dX7_sitting_65 ?_
      refine g_istore_6 dX7_sitting_66 rfl ?_
      refine g_iload dX7_sitting_68 rfl ?_
      refine g_if_eq (tgt := 80) dX7_sitting_70 (by decide) (fun c70 => ?_) (fun c70 => ?_)
      · refine g_iload dX7_sitting_80 rfl ?_
        refine g_iret dX7_sitting_82 rfl ?_
        refine h M4 hg4 ?_
        have el : (((L ++ [71]) ++ [11]) ++ comL 6) = L ++ sitL 6 := by simp [comL, sitL, askL]
        rw [← el]
        exact hr4
      · exact absurd c70 (by decide)
    · exact absurd c42 (by decide)
theorem wp_X7_sitting {E : Ev} {M : Mem} {Q : QT} (hW : Wi M) {S : Sc} (hR : RepR M S) (hO : OkS S) {p : Nat} (hp : p < S.1) {L : List Int32} (hr0 : RepTrM M L) (hL : L.length ≤ 50) {x : Int32} (h : ∀ M', FrI DT M M' → RepTrM M' (L ++ sitL (S.2.2 p 0).toNatClampNeg) → Q (some (vI (sitV (S.2.2 p 0).toNatClampNeg (nI p) (S.2.2 p 1) x))) M') : Mth E 2 0 0 kX7_sitting [vR (20, 0, 0), vI (nI p), vI x] M Q := by
  obtain ⟨k, hk, hk7⟩ := kd_c hO hp
  have hkc : (S.2.2 p 0).toNatClampNeg = k := by rw [hk, nI_clamp (by omega)]
  rw [hkc] at h
  have q7 : k = 0 ∨ k = 1 ∨ k = 2 ∨ k = 3 ∨ k = 4 ∨ k = 5 ∨ k = 6 := by omega
  rcases q7 with rfl | rfl | rfl | rfl | rfl | rfl | rfl
  · exact wp_X7_sitting0 hW hR hO hp hk hr0 hL h
  · exact wp_X7_sitting1 hW hR hO hp hk hr0 hL h
  · exact wp_X7_sitting2 hW hR hO hp hk hr0 hL h
  · exact wp_X7_sitting3 hW hR hO hp hk hr0 hL h
  · exact wp_X7_sitting4 hW hR hO hp hk hr0 hL h
  · exact wp_X7_sitting5 hW hR hO hp hk hr0 hL h
  · exact wp_X7_sitting6 hW hR hO hp hk hr0 hL h
set_option maxHeartbeats 4000000 in
set_option maxRecDepth 100000 in
theorem wp_X7_asking0 {E : Ev} {M : Mem} {Q : QT} (hW : Wi M) {S : Sc} (hR : RepR M S) (hO : OkS S) {p : Nat} (hp : p < S.1) (hk : S.2.2 p 0 = 0) {L : List Int32} (hr0 : RepTrM M L) (hL : L.length ≤ 20) {x : Int32} (h : ∀ M', FrI DT M M' → RepTrM M' (L ++ askL 0) → Q (some (vI (askV 0 (nI p) (S.2.2 p 1) x))) M') : Mth E 3 0 0 kX7_asking [vR (20, 0, 0), vI (nI p), vI x] M Q := by
  have hs10 := hO.1
  refine mth_of (by decide +kernel) [some (vR (20, 0, 0)), some (vI (nI p)), some (vI x), none, none] (Nat.le_of_ble_eq_true rfl) rfl ?_
  refine g_aloadR_n dX7_asking_0 rfl rfl ?_
  refine n_getR dX7_asking_1 fX7_29 rfl hW vld_x20 rfl rfl ?_
  refine g_iload_n dX7_asking_4 rfl rfl ?_
  refine n_iald (j := p) dX7_asking_5 rfl hW (vld_ma (by decide : 1 < 25)) (by decide) rfl (show p < 10 by omega) ?_
  rw [show mI M (21, 1, 0) p = 0 from (hR.2.2 p 0 hp (by decide)).trans hk]
  refine g_istore_3 dX7_asking_6 rfl ?_
  refine g_iload_n dX7_asking_7 rfl rfl ?_
  refine g_iconst dX7_asking_8 (v := 4) (by decide) ?_
  refine g_icmp_ne (tgt := 18) dX7_asking_9 (by decide) (fun c9 => ?_) (fun c9 => ?_)
  · refine g_iload_n dX7_asking_18 rfl rfl ?_
    refine g_iconst dX7_asking_19 (v := 5) (by decide) ?_
    refine g_icmp_ne (tgt := 29) dX7_asking_20 (by decide) (fun c20 => ?_) (fun c20 => ?_)
    · refine g_aloadR_n dX7_asking_29 rfl rfl ?_
      refine g_bipush dX7_asking_30 (v := 12) (by decide) ?_
      refine n_v1v (n' := 0) dX7_asking_32 mX7_body lX7_274 rfl hW vld_x20 rfl rfl ⟨Nat.le_of_ble_eq_true rfl, Nat.le_of_ble_eq_true rfl⟩ ⟨Nat.zero_le _, Nat.zero_le _⟩ (Nat.le_of_ble_eq_true rfl) ?_
      refine wp_X7_body (by exact hW) hr0 (by first | omega | (simp only [List.length_append, List.length_singleton]; omega)) (fun M1 hf1 hr1 => ?_)
      have hW1 := hf1.W (by exact hW)
      have hg1 : FrI DT M M1 := FrI.rf.tr hf1
      have hR1 := hR.dt hg1
      refine ⟨rfl, ?_⟩
      refine g_aloadR_n dX7_asking_35 rfl rfl ?_
      refine g_iload_n dX7_asking_36 rfl rfl ?_
      refine g_iload_n dX7_asking_37 rfl rfl ?_
      refine n_v2i (n' := 2) dX7_asking_38 mX7_sitting lX7_279 rfl hW1 vld_x20 rfl rfl ⟨Nat.le_of_ble_eq_true rfl, Nat.le_of_ble_eq_true rfl⟩ ⟨Nat.zero_le _, Nat.zero_le _⟩ (Nat.le_of_ble_eq_true rfl) ?_
      refine wp_X7_sitting0 (by exact hW1) hR1 hO hp hk hr1 (by have l1 := comL_le 0 (by decide); have l2 := sitL_le 0 (by decide); first | omega | (simp only [List.length_append, List.length_singleton]; omega)) (fun M2 hf2 hr2 => ?_)
      have hW2 := hf2.W (by exact hW1)
      have hg2 : FrI DT M M2 := hg1.tr hf2
      have hR2 := hR.dt hg2
      refine ⟨_, rfl, ?_⟩
      refine g_istore_4 dX7_asking_41 rfl ?_
      refine g_iload dX7_asking_43 rfl ?_
      refine g_aloadR_n dX7_asking_45 rfl rfl ?_
      refine g_iload_n dX7_asking_46 rfl rfl ?_
      refine g_iload_n dX7_asking_47 rfl rfl ?_
      refine g_aloadR_n dX7_asking_48 rfl rfl ?_
      refine n_getR dX7_asking_49 fX7_32 rfl hW2 vld_x20 rfl rfl ?_
      refine g_iload_n dX7_asking_52 rfl rfl ?_
      refine n_iald (j := p) dX7_asking_53 rfl hW2 (vld_ma (by decide : 2 < 25)) (by decide) rfl (show p < 10 by omega) ?_
      rw [show mI M2 (21, 2, 0) p = S.2.2 p 1 from hR2.2.2 p 1 hp (by decide)]
      refine g_isub dX7_asking_54 ?_
      refine n_v2i (n' := 1) dX7_asking_55 mX7_coming lX7_277 rfl hW2 vld_x20 rfl rfl ⟨Nat.le_of_ble_eq_true rfl, Nat.le_of_ble_eq_true rfl⟩ ⟨Nat.zero_le _, Nat.zero_le _⟩ (Nat.le_of_ble_eq_true rfl) ?_
      refine wp_X7_coming0 (by exact hW2) hR2 hO hp hk hr2 (by have l1 := comL_le 0 (by decide); have l2 := sitL_le 0 (by decide); first | omega | (simp only [List.length_append, List.length_singleton]; omega)) (fun M3 hf3 hr3 => ?_)
      have hW3 := hf3.W (by exact hW2)
      have hg3 : FrI DT M M3 := hg2.tr hf3
      have hR3 := hR.dt hg3
      refine ⟨_, rfl, ?_⟩
      refine g_ixor dX7_asking_58 ?_
      refine g_istore_4 dX7_asking_59 rfl ?_
      refine g_iload_n dX7_asking_61 rfl rfl ?_
      refine g_iconst dX7_asking_62 (v := 5) (by decide) ?_
      refine g_icmp_ne (tgt := 72) dX7_asking_63 (by decide) (fun c63 => ?_) (fun c63 => ?_)
      · refine g_iload_n dX7_asking_72 rfl rfl ?_
        refine g_iconst dX7_asking_73 (v := 4) (by decide) ?_
        refine g_icmp_ne (tgt := 84) dX7_asking_74 (by decide) (fun c74 => ?_) (fun c74 => ?_)
        · refine g_iload dX7_asking_84 rfl ?_
          refine g_iret dX7_asking_86 rfl ?_
          refine h M3 hg3 ?_
          have el : (((L ++ [12]) ++ sitL 0) ++ comL 0) = L ++ askL 0 := by simp [comL, sitL, askL]
          rw [← el]
          exact hr3
        · exact absurd c74 (by decide)
      · exact absurd c63 (by decide)
    · exact absurd c20 (by decide)
  · exact absurd c9 (by decide)
set_option maxHeartbeats 4000000 in
set_option maxRecDepth 100000 in
theorem wp_X7_asking1 {E : Ev} {M : Mem} {Q : QT} (hW : Wi M) {S : Sc} (hR : RepR M S) (hO : OkS S) {p : Nat} (hp : p < S.1) (hk : S.2.2 p 0 = 1) {L : List Int32} (hr0 : RepTrM M L) (hL : L.length ≤ 20) {x : Int32} (h : ∀ M', FrI DT M M' → RepTrM M' (L ++ askL 1) → Q (some (vI (askV 1 (nI p) (S.2.2 p 1) x))) M') : Mth E 3 0 0 kX7_asking [vR (20, 0, 0), vI (nI p), vI x] M Q := by
  have hs10 := hO.1
  refine mth_of (by decide +kernel) [some (vR (20, 0, 0)), some (vI (nI p)), some (vI x), none, none] (Nat.le_of_ble_eq_true rfl) rfl ?_
  refine g_aloadR_n dX7_asking_0 rfl rfl ?_
  refine n_getR dX7_asking_1 fX7_29 rfl hW vld_x20 rfl rfl ?_
  refine g_iload_n dX7_asking_4 rfl rfl ?_
  refine n_iald (j := p) dX7_asking_5 rfl hW (vld_ma (by decide : 1 < 25)) (by decide) rfl (show p < 10 by omega) ?_
  rw [show mI M (21, 1, 0) p = 1 from (hR.2.2 p 0 hp (by decide)).trans hk]
  refine g_istore_3 dX7_asking_6 rfl ?_
  refine g_iload_n dX7_asking_7 rfl rfl ?_
  refine g_iconst dX7_asking_8 (v := 4) (by decide) ?_
  refine g_icmp_ne (tgt := 18) dX7_asking_9 (by decide) (fun c9 => ?_) (fun c9 => ?_)
  · refine g_iload_n dX7_asking_18 rfl rfl ?_
    refine g_iconst dX7_asking_19 (v := 5) (by decide) ?_
    refine g_icmp_ne (tgt := 29) dX7_asking_20 (by decide) (fun c20 => ?_) (fun c20 => ?_)
    · refine g_aloadR_n dX7_asking_29 rfl rfl ?_
      refine g_bipush dX7_asking_30 (v := 12) (by decide) ?_
      refine n_v1v (n' := 0) dX7_asking_32 mX7_body lX7_274 rfl hW vld_x20 rfl rfl ⟨Nat.le_of_ble_eq_true rfl, Nat.le_of_ble_eq_true rfl⟩ ⟨Nat.zero_le _, Nat.zero_le _⟩ (Nat.le_of_ble_eq_true rfl) ?_
      refine wp_X7_body (by exact hW) hr0 (by first | omega | (simp only [List.length_append, List.length_singleton]; omega)) (fun M1 hf1 hr1 => ?_)
      have hW1 := hf1.W (by exact hW)
      have hg1 : FrI DT M M1 := FrI.rf.tr hf1
      have hR1 := hR.dt hg1
      refine ⟨rfl, ?_⟩
      refine g_aloadR_n dX7_asking_35 rfl rfl ?_
      refine g_iload_n dX7_asking_36 rfl rfl ?_
      refine g_iload_n dX7_asking_37 rfl rfl ?_
      refine n_v2i (n' := 2) dX7_asking_38 mX7_sitting lX7_279 rfl hW1 vld_x20 rfl rfl ⟨Nat.le_of_ble_eq_true rfl, Nat.le_of_ble_eq_true rfl⟩ ⟨Nat.zero_le _, Nat.zero_le _⟩ (Nat.le_of_ble_eq_true rfl) ?_
      refine wp_X7_sitting1 (by exact hW1) hR1 hO hp hk hr1 (by have l1 := comL_le 1 (by decide); have l2 := sitL_le 1 (by decide); first | omega | (simp only [List.length_append, List.length_singleton]; omega)) (fun M2 hf2 hr2 => ?_)
      have hW2 := hf2.W (by exact hW1)
      have hg2 : FrI DT M M2 := hg1.tr hf2
      have hR2 := hR.dt hg2
      refine ⟨_, rfl, ?_⟩
      refine g_istore_4 dX7_asking_41 rfl ?_
      refine g_iload dX7_asking_43 rfl ?_
      refine g_aloadR_n dX7_asking_45 rfl rfl ?_
      refine g_iload_n dX7_asking_46 rfl rfl ?_
      refine g_iload_n dX7_asking_47 rfl rfl ?_
      refine g_aloadR_n dX7_asking_48 rfl rfl ?_
      refine n_getR dX7_asking_49 fX7_32 rfl hW2 vld_x20 rfl rfl ?_
      refine g_iload_n dX7_asking_52 rfl rfl ?_
      refine n_iald (j := p) dX7_asking_53 rfl hW2 (vld_ma (by decide : 2 < 25)) (by decide) rfl (show p < 10 by omega) ?_
      rw [show mI M2 (21, 2, 0) p = S.2.2 p 1 from hR2.2.2 p 1 hp (by decide)]
      refine g_isub dX7_asking_54 ?_
      refine n_v2i (n' := 1) dX7_asking_55 mX7_coming lX7_277 rfl hW2 vld_x20 rfl rfl ⟨Nat.le_of_ble_eq_true rfl, Nat.le_of_ble_eq_true rfl⟩ ⟨Nat.zero_le _, Nat.zero_le _⟩ (Nat.le_of_ble_eq_true rfl) ?_
      refine wp_X7_coming1 (by exact hW2) hR2 hO hp hk hr2 (by have l1 := comL_le 1 (by decide); have l2 := sitL_le 1 (by decide); first | omega | (simp only [List.length_append, List.length_singleton]; omega)) (fun M3 hf3 hr3 => ?_)
      have hW3 := hf3.W (by exact hW2)
      have hg3 : FrI DT M M3 := hg2.tr hf3
      have hR3 := hR.dt hg3
      refine ⟨_, rfl, ?_⟩
      refine g_ixor dX7_asking_58 ?_
      refine g_istore_4 dX7_asking_59 rfl ?_
      refine g_iload_n dX7_asking_61 rfl rfl ?_
      refine g_iconst dX7_asking_62 (v := 5) (by decide) ?_
      refine g_icmp_ne (tgt := 72) dX7_asking_63 (by decide) (fun c63 => ?_) (fun c63 => ?_)
      · refine g_iload_n dX7_asking_72 rfl rfl ?_
        refine g_iconst dX7_asking_73 (v := 4) (by decide) ?_
        refine g_icmp_ne (tgt := 84) dX7_asking_74 (by decide) (fun c74 => ?_) (fun c74 => ?_)
        · refine g_iload dX7_asking_84 rfl ?_
          refine g_iret dX7_asking_86 rfl ?_
          refine h M3 hg3 ?_
          have el : (((L ++ [12]) ++ sitL 1) ++ comL 1) = L ++ askL 1 := by simp [comL, sitL, askL]
          rw [← el]
          exact hr3
        · exact absurd c74 (by decide)
      · exact absurd c63 (by decide)
    · exact absurd c20 (by decide)
  · exact absurd c9 (by decide)
set_option maxHeartbeats 4000000 in
set_option maxRecDepth 100000 in
theorem wp_X7_asking2 {E : Ev} {M : Mem} {Q : QT} (hW : Wi M) {S : Sc} (hR : RepR M S) (hO : OkS S) {p : Nat} (hp : p < S.1) (hk : S.2.2 p 0 = 2) {L : List Int32} (hr0 : RepTrM M L) (hL : L.length ≤ 20) {x : Int32} (h : ∀ M', FrI DT M M' → RepTrM M' (L ++ askL 2) → Q (some (vI (askV 2 (nI p) (S.2.2 p 1) x))) M') : Mth E 3 0 0 kX7_asking [vR (20, 0, 0), vI (nI p), vI x] M Q := by
  have hs10 := hO.1
  refine mth_of (by decide +kernel) [some (vR (20, 0, 0)), some (vI (nI p)), some (vI x), none, none] (Nat.le_of_ble_eq_true rfl) rfl ?_
  refine g_aloadR_n dX7_asking_0 rfl rfl ?_
  refine n_getR dX7_asking_1 fX7_29 rfl hW vld_x20 rfl rfl ?_
  refine g_iload_n dX7_asking_4 rfl rfl ?_
  refine n_iald (j := p) dX7_asking_5 rfl hW (vld_ma (by decide : 1 < 25)) (by decide) rfl (show p < 10 by omega) ?_
  rw [show mI M (21, 1, 0) p = 2 from (hR.2.2 p 0 hp (by decide)).trans hk]
  refine g_istore_3 dX7_asking_6 rfl ?_
  refine g_iload_n dX7_asking_7 rfl rfl ?_
  refine g_iconst dX7_asking_8 (v := 4) (by decide) ?_
  refine g_icmp_ne (tgt := 18) dX7_asking_9 (by decide) (fun c9 => ?_) (fun c9 => ?_)
  · refine g_iload_n dX7_asking_18 rfl rfl ?_
    refine g_iconst dX7_asking_19 (v := 5) (by decide) ?_
    refine g_icmp_ne (tgt := 29) dX7_asking_20 (by decide) (fun c20 => ?_) (fun c20 => ?_)
    · refine g_aloadR_n dX7_asking_29 rfl rfl ?_
      refine g_bipush dX7_asking_30 (v := 12) (by decide) ?_
      refine n_v1v (n' := 0) dX7_asking_32 mX7_body lX7_274 rfl hW vld_x20 rfl rfl ⟨Nat.le_of_ble_eq_true rfl, Nat.le_of_ble_eq_true rfl⟩ ⟨Nat.zero_le _, Nat.zero_le _⟩ (Nat.le_of_ble_eq_true rfl) ?_
      refine wp_X7_body (by exact hW) hr0 (by first | omega | (simp only [List.length_append, List.length_singleton]; omega)) (fun M1 hf1 hr1 => ?_)
      have hW1 := hf1.W (by exact hW)
      have hg1 : FrI DT M M1 := FrI.rf.tr hf1
      have hR1 := hR.dt hg1
      refine ⟨rfl, ?_⟩
      refine g_aloadR_n dX7_asking_35 rfl rfl ?_
      refine g_iload_n dX7_asking_36 rfl rfl ?_
      refine g_iload_n dX7_asking_37 rfl rfl ?_
      refine n_v2i (n' := 2) dX7_asking_38 mX7_sitting lX7_279 rfl hW1 vld_x20 rfl rfl ⟨Nat.le_of_ble_eq_true rfl, Nat.le_of_ble_eq_true rfl⟩ ⟨Nat.zero_le _, Nat.zero_le _⟩ (Nat.le_of_ble_eq_true rfl) ?_
      refine wp_X7_sitting2 (by exact hW1) hR1 hO hp hk hr1 (by have l1 := comL_le 2 (by decide); have l2 := sitL_le 2 (by decide); first | omega | (simp only [List.length_append, List.length_singleton]; omega)) (fun M2 hf2 hr2 => ?_)
      have hW2 := hf2.W (by exact hW1)
      have hg2 : FrI DT M M2 := hg1.tr hf2
      have hR2 := hR.dt hg2
      refine ⟨_, rfl, ?_⟩
      refine g_istore_4 dX7_asking_41 rfl ?_
      refine g_iload dX7_asking_43 rfl ?_
      refine g_aloadR_n dX7_asking_45 rfl rfl ?_
      refine g_iload_n dX7_asking_46 rfl rfl ?_
      refine g_iload_n dX7_asking_47 rfl rfl ?_
      refine g_aloadR_n dX7_asking_48 rfl rfl ?_
      refine n_getR dX7_asking_49 fX7_32 rfl hW2 vld_x20 rfl rfl ?_
      refine g_iload_n dX7_asking_52 rfl rfl ?_
      refine n_iald (j := p) dX7_asking_53 rfl hW2 (vld_ma (by decide : 2 < 25)) (by decide) rfl (show p < 10 by omega) ?_
      rw [show mI M2 (21, 2, 0) p = S.2.2 p 1 from hR2.2.2 p 1 hp (by decide)]
      refine g_isub dX7_asking_54 ?_
      refine n_v2i (n' := 1) dX7_asking_55 mX7_coming lX7_277 rfl hW2 vld_x20 rfl rfl ⟨Nat.le_of_ble_eq_true rfl, Nat.le_of_ble_eq_true rfl⟩ ⟨Nat.zero_le _, Nat.zero_le _⟩ (Nat.le_of_ble_eq_true rfl) ?_
      refine wp_X7_coming2 (by exact hW2) hR2 hO hp hk hr2 (by have l1 := comL_le 2 (by decide); have l2 := sitL_le 2 (by decide); first | omega | (simp only [List.length_append, List.length_singleton]; omega)) (fun M3 hf3 hr3 => ?_)
      have hW3 := hf3.W (by exact hW2)
      have hg3 : FrI DT M M3 := hg2.tr hf3
      have hR3 := hR.dt hg3
      refine ⟨_, rfl, ?_⟩
      refine g_ixor dX7_asking_58 ?_
      refine g_istore_4 dX7_asking_59 rfl ?_
      refine g_iload_n dX7_asking_61 rfl rfl ?_
      refine g_iconst dX7_asking_62 (v := 5) (by decide) ?_
      refine g_icmp_ne (tgt := 72) dX7_asking_63 (by decide) (fun c63 => ?_) (fun c63 => ?_)
      · refine g_iload_n dX7_asking_72 rfl rfl ?_
        refine g_iconst dX7_asking_73 (v := 4) (by decide) ?_
        refine g_icmp_ne (tgt := 84) dX7_asking_74 (by decide) (fun c74 => ?_) (fun c74 => ?_)
        · refine g_iload dX7_asking_84 rfl ?_
          refine g_iret dX7_asking_86 rfl ?_
          refine h M3 hg3 ?_
          have el : (((L ++ [12]) ++ sitL 2) ++ comL 2) = L ++ askL 2 := by simp [comL, sitL, askL]
          rw [← el]
          exact hr3
        · exact absurd c74 (by decide)
      · exact absurd c63 (by decide)
    · exact absurd c20 (by decide)
  · exact absurd c9 (by decide)
set_option maxHeartbeats 4000000 in
set_option maxRecDepth 100000 in
theorem wp_X7_asking3 {E : Ev} {M : Mem} {Q : QT} (hW : Wi M) {S : Sc} (hR : RepR M S) (hO : OkS S) {p : Nat} (hp : p < S.1) (hk : S.2.2 p 0 = 3) {L : List Int32} (hr0 : RepTrM M L) (hL : L.length ≤ 20) {x : Int32} (h : ∀ M', FrI DT M M' → RepTrM M' (L ++ askL 3) → Q (some (vI (askV 3 (nI p) (S.2.2 p 1) x))) M') : Mth E 3 0 0 kX7_asking [vR (20, 0, 0), vI (nI p), vI x] M Q := by
  have hs10 := hO.1
  refine mth_of (by decide +kernel) [some (vR (20, 0, 0)), some (vI (nI p)), some (vI x), none, none] (Nat.le_of_ble_eq_true rfl) rfl ?_
  refine g_aloadR_n dX7_asking_0 rfl rfl ?_
  refine n_getR dX7_asking_1 fX7_29 rfl hW vld_x20 rfl rfl ?_
  refine g_iload_n dX7_asking_4 rfl rfl ?_
  refine n_iald (j := p) dX7_asking_5 rfl hW (vld_ma (by decide : 1 < 25)) (by decide) rfl (show p < 10 by omega) ?_
  rw [show mI M (21, 1, 0) p = 3 from (hR.2.2 p 0 hp (by decide)).trans hk]
  refine g_istore_3 dX7_asking_6 rfl ?_
  refine g_iload_n dX7_asking_7 rfl rfl ?_
  refine g_iconst dX7_asking_8 (v := 4) (by decide) ?_
  refine g_icmp_ne (tgt := 18) dX7_asking_9 (by decide) (fun c9 => ?_) (fun c9 => ?_)
  · refine g_iload_n dX7_asking_18 rfl rfl ?_
    refine g_iconst dX7_asking_19 (v := 5) (by decide) ?_
    refine g_icmp_ne (tgt := 29) dX7_asking_20 (by decide) (fun c20 => ?_) (fun c20 => ?_)
    · refine g_aloadR_n dX7_asking_29 rfl rfl ?_
      refine g_bipush dX7_asking_30 (v := 12) (by decide) ?_
      refine n_v1v (n' := 0) dX7_asking_32 mX7_body lX7_274 rfl hW vld_x20 rfl rfl ⟨Nat.le_of_ble_eq_true rfl, Nat.le_of_ble_eq_true rfl⟩ ⟨Nat.zero_le _, Nat.zero_le _⟩ (Nat.le_of_ble_eq_true rfl) ?_
      refine wp_X7_body (by exact hW) hr0 (by first | omega | (simp only [List.length_append, List.length_singleton]; omega)) (fun M1 hf1 hr1 => ?_)
      have hW1 := hf1.W (by exact hW)
      have hg1 : FrI DT M M1 := FrI.rf.tr hf1
      have hR1 := hR.dt hg1
      refine ⟨rfl, ?_⟩
      refine g_aloadR_n dX7_asking_35 rfl rfl ?_
      refine g_iload_n dX7_asking_36 rfl rfl ?_
      refine g_iload_n dX7_asking_37 rfl rfl ?_
      refine n_v2i (n' := 2) dX7_asking_38 mX7_sitting lX7_279 rfl hW1 vld_x20 rfl rfl ⟨Nat.le_of_ble_eq_true rfl, Nat.le_of_ble_eq_true rfl⟩ ⟨Nat.zero_le _, Nat.zero_le _⟩ (Nat.le_of_ble_eq_true rfl) ?_
      refine wp_X7_sitting3 (by exact hW1) hR1 hO hp hk hr1 (by have l1 := comL_le 3 (by decide); have l2 := sitL_le 3 (by decide); first | omega | (simp only [List.length_append, List.length_singleton]; omega)) (fun M2 hf2 hr2 => ?_)
      have hW2 := hf2.W (by exact hW1)
      have hg2 : FrI DT M M2 := hg1.tr hf2
      have hR2 := hR.dt hg2
      refine ⟨_, rfl, ?_⟩
      refine g_istore_4 dX7_asking_41 rfl ?_
      refine g_iload dX7_asking_43 rfl ?_
      refine g_aloadR_n dX7_asking_45 rfl rfl ?_
      refine g_iload_n dX7_asking_46 rfl rfl ?_
      refine g_iload_n dX7_asking_47 rfl rfl ?_
      refine g_aloadR_n dX7_asking_48 rfl rfl ?_
      refine n_getR dX7_asking_49 fX7_32 rfl hW2 vld_x20 rfl rfl ?_
      refine g_iload_n dX7_asking_52 rfl rfl ?_
      refine n_iald (j := p) dX7_asking_53 rfl hW2 (vld_ma (by decide : 2 < 25)) (by decide) rfl (show p < 10 by omega) ?_
      rw [show mI M2 (21, 2, 0) p = S.2.2 p 1 from hR2.2.2 p 1 hp (by decide)]
      refine g_isub dX7_asking_54 ?_
      refine n_v2i (n' := 1) dX7_asking_55 mX7_coming lX7_277 rfl hW2 vld_x20 rfl rfl ⟨Nat.le_of_ble_eq_true rfl, Nat.le_of_ble_eq_true rfl⟩ ⟨Nat.zero_le _, Nat.zero_le _⟩ (Nat.le_of_ble_eq_true rfl) ?_
      refine wp_X7_coming3 (by exact hW2) hR2 hO hp hk hr2 (by have l1 := comL_le 3 (by decide); have l2 := sitL_le 3 (by decide); first | omega | (simp only [List.length_append, List.length_singleton]; omega)) (fun M3 hf3 hr3 => ?_)
      have hW3 := hf3.W (by exact hW2)
      have hg3 : FrI DT M M3 := hg2.tr hf3
      have hR3 := hR.dt hg3
      refine ⟨_, rfl, ?_⟩
      refine g_ixor dX7_asking_58 ?_
      refine g_istore_4 dX7_asking_59 rfl ?_
      refine g_iload_n dX7_asking_61 rfl rfl ?_
      refine g_iconst dX7_asking_62 (v := 5) (by decide) ?_
      refine g_icmp_ne (tgt := 72) dX7_asking_63 (by decide) (fun c63 => ?_) (fun c63 => ?_)
      · refine g_iload_n dX7_asking_72 rfl rfl ?_
        refine g_iconst dX7_asking_73 (v := 4) (by decide) ?_
        refine g_icmp_ne (tgt := 84) dX7_asking_74 (by decide) (fun c74 => ?_) (fun c74 => ?_)
        · refine g_iload dX7_asking_84 rfl ?_
          refine g_iret dX7_asking_86 rfl ?_
          refine h M3 hg3 ?_
          have el : (((L ++ [12]) ++ sitL 3) ++ comL 3) = L ++ askL 3 := by simp [comL, sitL, askL]
          rw [← el]
          exact hr3
        · exact absurd c74 (by decide)
      · exact absurd c63 (by decide)
    · exact absurd c20 (by decide)
  · exact absurd c9 (by decide)
set_option maxHeartbeats 4000000 in
set_option maxRecDepth 100000 in
theorem wp_X7_asking4 {E : Ev} {M : Mem} {Q : QT} (hW : Wi M) {S : Sc} (hR : RepR M S) (hO : OkS S) {p : Nat} (hp : p < S.1) (hk : S.2.2 p 0 = 4) {L : List Int32} (hr0 : RepTrM M L) (hL : L.length ≤ 20) {x : Int32} (h : ∀ M', FrI DT M M' → RepTrM M' (L ++ askL 4) → Q (some (vI (askV 4 (nI p) (S.2.2 p 1) x))) M') : Mth E 3 0 0 kX7_asking [vR (20, 0, 0), vI (nI p), vI x] M Q := by
  have hs10 := hO.1
  refine mth_of (by decide +kernel) [some (vR (20, 0, 0)), some (vI (nI p)), some (vI x), none, none] (Nat.le_of_ble_eq_true rfl) rfl ?_
  refine g_aloadR_n dX7_asking_0 rfl rfl ?_
  refine n_getR dX7_asking_1 fX7_29 rfl hW vld_x20 rfl rfl ?_
  refine g_iload_n dX7_asking_4 rfl rfl ?_
  refine n_iald (j := p) dX7_asking_5 rfl hW (vld_ma (by decide : 1 < 25)) (by decide) rfl (show p < 10 by omega) ?_
  rw [show mI M (21, 1, 0) p = 4 from (hR.2.2 p 0 hp (by decide)).trans hk]
  refine g_istore_3 dX7_asking_6 rfl ?_
  refine g_iload_n dX7_asking_7 rfl rfl ?_
  refine g_iconst dX7_asking_8 (v := 4) (by decide) ?_
  refine g_icmp_ne (tgt := 18) dX7_asking_9 (by decide) (fun c9 => ?_) (fun c9 => ?_)
  · exact absurd c9 (by decide)
  · refine g_aloadR_n dX7_asking_12 rfl rfl ?_
    refine g_bipush dX7_asking_13 (v := 60) (by decide) ?_
    refine n_v1v (n' := 0) dX7_asking_15 mX7_body lX7_274 rfl hW vld_x20 rfl rfl ⟨Nat.le_of_ble_eq_true rfl, Nat.le_of_ble_eq_true rfl⟩ ⟨Nat.zero_le _, Nat.zero_le _⟩ (Nat.le_of_ble_eq_true rfl) ?_
    refine wp_X7_body (by exact hW) hr0 (by first | omega | (simp only [List.length_append, List.length_singleton]; omega)) (fun M1 hf1 hr1 => ?_)
    have hW1 := hf1.W (by exact hW)
    have hg1 : FrI DT M M1 := FrI.rf.tr hf1
    have hR1 := hR.dt hg1
    refine ⟨rfl, ?_⟩
    refine g_iload_n dX7_asking_18 rfl rfl ?_
    refine g_iconst dX7_asking_19 (v := 5) (by decide) ?_
    refine g_icmp_ne (tgt := 29) dX7_asking_20 (by decide) (fun c20 => ?_) (fun c20 => ?_)
    · refine g_aloadR_n dX7_asking_29 rfl rfl ?_
      refine g_bipush dX7_asking_30 (v := 12) (by decide) ?_
      refine n_v1v (n' := 0) dX7_asking_32 mX7_body lX7_274 rfl hW1 vld_x20 rfl rfl ⟨Nat.le_of_ble_eq_true rfl, Nat.le_of_ble_eq_true rfl⟩ ⟨Nat.zero_le _, Nat.zero_le _⟩ (Nat.le_of_ble_eq_true rfl) ?_
      refine wp_X7_body (by exact hW1) hr1 (by first | omega | (simp only [List.length_append, List.length_singleton]; omega)) (fun M2 hf2 hr2 => ?_)
      have hW2 := hf2.W (by exact hW1)
      have hg2 : FrI DT M M2 := hg1.tr hf2
      have hR2 := hR.dt hg2
      refine ⟨rfl, ?_⟩
      refine g_aloadR_n dX7_asking_35 rfl rfl ?_
      refine g_iload_n dX7_asking_36 rfl rfl ?_
      refine g_iload_n dX7_asking_37 rfl rfl ?_
      refine n_v2i (n' := 2) dX7_asking_38 mX7_sitting lX7_279 rfl hW2 vld_x20 rfl rfl ⟨Nat.le_of_ble_eq_true rfl, Nat.le_of_ble_eq_true rfl⟩ ⟨Nat.zero_le _, Nat.zero_le _⟩ (Nat.le_of_ble_eq_true rfl) ?_
      refine wp_X7_sitting4 (by exact hW2) hR2 hO hp hk hr2 (by have l1 := comL_le 4 (by decide); have l2 := sitL_le 4 (by decide); first | omega | (simp only [List.length_append, List.length_singleton]; omega)) (fun M3 hf3 hr3 => ?_)
      have hW3 := hf3.W (by exact hW2)
      have hg3 : FrI DT M M3 := hg2.tr hf3
      have hR3 := hR.dt hg3
      refine ⟨_, rfl, ?_⟩
      refine g_istore_4 dX7_asking_41 rfl ?_
      refine g_iload dX7_asking_43 rfl ?_
      refine g_aloadR_n dX7_asking_45 rfl rfl ?_
      refine g_iload_n dX7_asking_46 rfl rfl ?_
      refine g_iload_n dX7_asking_47 rfl rfl ?_
      refine g_aloadR_n dX7_asking_48 rfl rfl ?_
      refine n_getR dX7_asking_49 fX7_32 rfl hW3 vld_x20 rfl rfl ?_
      refine g_iload_n dX7_asking_52 rfl rfl ?_
      refine n_iald (j := p) dX7_asking_53 rfl hW3 (vld_ma (by decide : 2 < 25)) (by decide) rfl (show p < 10 by omega) ?_
      rw [show mI M3 (21, 2, 0) p = S.2.2 p 1 from hR3.2.2 p 1 hp (by decide)]
      refine g_isub dX7_asking_54 ?_
      refine n_v2i (n' := 1) dX7_asking_55 mX7_coming lX7_277 rfl hW3 vld_x20 rfl rfl ⟨Nat.le_of_ble_eq_true rfl, Nat.le_of_ble_eq_true rfl⟩ ⟨Nat.zero_le _, Nat.zero_le _⟩ (Nat.le_of_ble_eq_true rfl) ?_
      refine wp_X7_coming4 (by exact hW3) hR3 hO hp hk hr3 (by have l1 := comL_le 4 (by decide); have l2 := sitL_le 4 (by decide); first | omega | (simp only [List.length_append, List.length_singleton]; omega)) (fun M4 hf4 hr4 => ?_)
      have hW4 := hf4.W (by exact hW3)
      have hg4 : FrI DT M M4 := hg3.tr hf4
      have hR4 := hR.dt hg4
      refine ⟨_, rfl, ?_⟩
      refine g_ixor dX7_asking_58 ?_
      refine g_istore_4 dX7_asking_59 rfl ?_
      refine g_iload_n dX7_asking_61 rfl rfl ?_
      refine g_iconst dX7_asking_62 (v := 5) (by decide) ?_
      refine g_icmp_ne (tgt := 72) dX7_asking_63 (by decide) (fun c63 => ?_) (fun c63 => ?_)
      · refine g_iload_n dX7_asking_72 rfl rfl ?_
        refine g_iconst dX7_asking_73 (v := 4) (by decide) ?_
        refine g_icmp_ne (tgt := 84) dX7_asking_74 (by decide) (fun c74 => ?_) (fun c74 => ?_)
        · exact absurd c74 (by decide)
        · refine g_iload dX7_asking_77 rfl ?_
          refine g_iconst dX7_asking_79 (v := 5) (by decide) ?_
          refine g_ixor dX7_asking_80 ?_
          refine g_goto (tgt := 86) dX7_asking_81 (by decide) ?_
          refine g_iret dX7_asking_86 rfl ?_
          refine h M4 hg4 ?_
          have el : ((((L ++ [60]) ++ [12]) ++ sitL 4) ++ comL 4) = L ++ askL 4 := by simp [comL, sitL, askL]
          rw [← el]
          exact hr4
      · exact absurd c63 (by decide)
    · exact absurd c20 (by decide)
set_option maxHeartbeats 4000000 in
set_option maxRecDepth 100000 in
theorem wp_X7_asking5 {E : Ev} {M : Mem} {Q : QT} (hW : Wi M) {S : Sc} (hR : RepR M S) (hO : OkS S) {p : Nat} (hp : p < S.1) (hk : S.2.2 p 0 = 5) {L : List Int32} (hr0 : RepTrM M L) (hL : L.length ≤ 20) {x : Int32} (h : ∀ M', FrI DT M M' → RepTrM M' (L ++ askL 5) → Q (some (vI (askV 5 (nI p) (S.2.2 p 1) x))) M') : Mth E 3 0 0 kX7_asking [vR (20, 0, 0), vI (nI p), vI x] M Q := by
  have hs10 := hO.1
  refine mth_of (by decide +kernel) [some (vR (20, 0, 0)), some (vI (nI p)), some (vI x), none, none] (Nat.le_of_ble_eq_true rfl) rfl ?_
  refine g_aloadR_n dX7_asking_0 rfl rfl ?_
  refine n_getR dX7_asking_1 fX7_29 rfl hW vld_x20 rfl rfl ?_
  refine g_iload_n dX7_asking_4 rfl rfl ?_
  refine n_iald (j := p) dX7_asking_5 rfl hW (vld_ma (by decide : 1 < 25)) (by decide) rfl (show p < 10 by omega) ?_
  rw [show mI M (21, 1, 0) p = 5 from (hR.2.2 p 0 hp (by decide)).trans hk]
  refine g_istore_3 dX7_asking_6 rfl ?_
  refine g_iload_n dX7_asking_7 rfl rfl ?_
  refine g_iconst dX7_asking_8 (v := 4) (by decide) ?_
  refine g_icmp_ne (tgt := 18) dX7_asking_9 (by decide) (fun c9 => ?_) (fun c9 => ?_)
  · refine g_iload_n dX7_asking_18 rfl rfl ?_
    refine g_iconst dX7_asking_19 (v := 5) (by decide) ?_
    refine g_icmp_ne (tgt := 29) dX7_asking_20 (by decide) (fun c20 => ?_) (fun c20 => ?_)
    · exact absurd c20 (by decide)
    · refine g_aloadR_n dX7_asking_23 rfl rfl ?_
      refine g_bipush dX7_asking_24 (v := 50) (by decide) ?_
      refine n_v1v (n' := 0) dX7_asking_26 mX7_body lX7_274 rfl hW vld_x20 rfl rfl ⟨Nat.le_of_ble_eq_true rfl, Nat.le_of_ble_eq_true rfl⟩ ⟨Nat.zero_le _, Nat.zero_le _⟩ (Nat.le_of_ble_eq_true rfl) ?_
      refine wp_X7_body (by exact hW) hr0 (by first | omega | (simp only [List.length_append, List.length_singleton]; omega)) (fun M1 hf1 hr1 => ?_)
      have hW1 := hf1.W (by exact hW)
      have hg1 : FrI DT M M1 := FrI.rf.tr hf1
      have hR1 := hR.dt hg1
      refine ⟨rfl, ?_⟩
      refine g_aloadR_n dX7_asking_29 rfl rfl ?_
      refine g_bipush dX7_asking_30 (v := 12) (by decide) ?_
      refine n_v1v (n' := 0) dX7_asking_32 mX7_body lX7_274 rfl hW1 vld_x20 rfl rfl ⟨Nat.le_of_ble_eq_true rfl, Nat.le_of_ble_eq_true rfl⟩ ⟨Nat.zero_le _, Nat.zero_le _⟩ (Nat.le_of_ble_eq_true rfl) ?_
      refine wp_X7_body (by exact hW1) hr1 (by first | omega | (simp only [List.length_append, List.length_singleton]; omega)) (fun M2 hf2 hr2 => ?_)
      have hW2 := hf2.W (by exact hW1)
      have hg2 : FrI DT M M2 := hg1.tr hf2
      have hR2 := hR.dt hg2
      refine ⟨rfl, ?_⟩
      refine g_aloadR_n dX7_asking_35 rfl rfl ?_
      refine g_iload_n dX7_asking_36 rfl rfl ?_
      refine g_iload_n dX7_asking_37 rfl rfl ?_
      refine n_v2i (n' := 2) dX7_asking_38 mX7_sitting lX7_279 rfl hW2 vld_x20 rfl rfl ⟨Nat.le_of_ble_eq_true rfl, Nat.le_of_ble_eq_true rfl⟩ ⟨Nat.zero_le _, Nat.zero_le _⟩ (Nat.le_of_ble_eq_true rfl) ?_
      refine wp_X7_sitting5 (by exact hW2) hR2 hO hp hk hr2 (by have l1 := comL_le 5 (by decide); have l2 := sitL_le 5 (by decide); first | omega | (simp only [List.length_append, List.length_singleton]; omega)) (fun M3 hf3 hr3 => ?_)
      have hW3 := hf3.W (by exact hW2)
      have hg3 : FrI DT M M3 := hg2.tr hf3
      have hR3 := hR.dt hg3
      refine ⟨_, rfl, ?_⟩
      refine g_istore_4 dX7_asking_41 rfl ?_
      refine g_iload dX7_asking_43 rfl ?_
      refine g_aloadR_n dX7_asking_45 rfl rfl ?_
      refine g_iload_n dX7_asking_46 rfl rfl ?_
      refine g_iload_n dX7_asking_47 rfl rfl ?_
      refine g_aloadR_n dX7_asking_48 rfl rfl ?_
      refine n_getR dX7_asking_49 fX7_32 rfl hW3 vld_x20 rfl rfl ?_
      refine g_iload_n dX7_asking_52 rfl rfl ?_
      refine n_iald (j := p) dX7_asking_53 rfl hW3 (vld_ma (by decide : 2 < 25)) (by decide) rfl (show p < 10 by omega) ?_
      rw [show mI M3 (21, 2, 0) p = S.2.2 p 1 from hR3.2.2 p 1 hp (by decide)]
      refine g_isub dX7_asking_54 ?_
      refine n_v2i (n' := 1) dX7_asking_55 mX7_coming lX7_277 rfl hW3 vld_x20 rfl rfl ⟨Nat.le_of_ble_eq_true rfl, Nat.le_of_ble_eq_true rfl⟩ ⟨Nat.zero_le _, Nat.zero_le _⟩ (Nat.le_of_ble_eq_true rfl) ?_
      refine wp_X7_coming5 (by exact hW3) hR3 hO hp hk hr3 (by have l1 := comL_le 5 (by decide); have l2 := sitL_le 5 (by decide); first | omega | (simp only [List.length_append, List.length_singleton]; omega)) (fun M4 hf4 hr4 => ?_)
      have hW4 := hf4.W (by exact hW3)
      have hg4 : FrI DT M M4 := hg3.tr hf4
      have hR4 := hR.dt hg4
      refine ⟨_, rfl, ?_⟩
      refine g_ixor dX7_asking_58 ?_
      refine g_istore_4 dX7_asking_59 rfl ?_
      refine g_iload_n dX7_asking_61 rfl rfl ?_
      refine g_iconst dX7_asking_62 (v := 5) (by decide) ?_
      refine g_icmp_ne (tgt := 72) dX7_asking_63 (by decide) (fun c63 => ?_) (fun c63 => ?_)
      · exact absurd c63 (by decide)
      · refine g_iload dX7_asking_66 rfl ?_
        refine g_ineg dX7_asking_68 ?_
        refine g_goto (tgt := 86) dX7_asking_69 (by decide) ?_
        refine g_iret dX7_asking_86 rfl ?_
        refine h M4 hg4 ?_
        have el : ((((L ++ [50]) ++ [12]) ++ sitL 5) ++ comL 5) = L ++ askL 5 := by simp [comL, sitL, askL]
        rw [← el]
        exact hr4
  · exact absurd c9 (by decide)
set_option maxHeartbeats 4000000 in
set_option maxRecDepth 100000 in
theorem wp_X7_asking6 {E : Ev} {M : Mem} {Q : QT} (hW : Wi M) {S : Sc} (hR : RepR M S) (hO : OkS S) {p : Nat} (hp : p < S.1) (hk : S.2.2 p 0 = 6) {L : List Int32} (hr0 : RepTrM M L) (hL : L.length ≤ 20) {x : Int32} (h : ∀ M', FrI DT M M' → RepTrM M' (L ++ askL 6) → Q (some (vI (askV 6 (nI p) (S.2.2 p 1) x))) M') : Mth E 3 0 0 kX7_asking [vR (20, 0, 0), vI (nI p), vI x] M Q := by
  have hs10 := hO.1
  refine mth_of (by decide +kernel) [some (vR (20, 0, 0)), some (vI (nI p)), some (vI x), none, none] (Nat.le_of_ble_eq_true rfl) rfl ?_
  refine g_aloadR_n dX7_asking_0 rfl rfl ?_
  refine n_getR dX7_asking_1 fX7_29 rfl hW vld_x20 rfl rfl ?_
  refine g_iload_n dX7_asking_4 rfl rfl ?_
  refine n_iald (j := p) dX7_asking_5 rfl hW (vld_ma (by decide : 1 < 25)) (by decide) rfl (show p < 10 by omega) ?_
  rw [show mI M (21, 1, 0) p = 6 from (hR.2.2 p 0 hp (by decide)).trans hk]
  refine g_istore_3 dX7_asking_6 rfl ?_
  refine g_iload_n dX7_asking_7 rfl rfl ?_
  refine g_iconst dX7_asking_8 (v := 4) (by decide) ?_
  refine g_icmp_ne (tgt := 18) dX7_asking_9 (by decide) (fun c9 => ?_) (fun c9 => ?_)
  · refine g_iload_n dX7_asking_18 rfl rfl ?_
    refine g_iconst dX7_asking_19 (v := 5) (by decide) ?_
    refine g_icmp_ne (tgt := 29) dX7_asking_20 (by decide) (fun c20 => ?_) (fun c20 => ?_)
    · refine g_aloadR_n dX7_asking_29 rfl rfl ?_
      refine g_bipush dX7_asking_30 (v := 12) (by decide) ?_
      refine n_v1v (n' := 0) dX7_asking_32 mX7_body lX7_274 rfl hW vld_x20 rfl rfl ⟨Nat.le_of_ble_eq_true rfl, Nat.le_of_ble_eq_true rfl⟩ ⟨Nat.zero_le _, Nat.zero_le _⟩ (Nat.le_of_ble_eq_true rfl) ?_
      refine wp_X7_body (by exact hW) hr0 (by first | omega | (simp only [List.length_append, List.length_singleton]; omega)) (fun M1 hf1 hr1 => ?_)
      have hW1 := hf1.W (by exact hW)
      have hg1 : FrI DT M M1 := FrI.rf.tr hf1
      have hR1 := hR.dt hg1
      refine ⟨rfl, ?_⟩
      refine g_aloadR_n dX7_asking_35 rfl rfl ?_
      refine g_iload_n dX7_asking_36 rfl rfl ?_
      refine g_iload_n dX7_asking_37 rfl rfl ?_
      refine n_v2i (n' := 2) dX7_asking_38 mX7_sitting lX7_279 rfl hW1 vld_x20 rfl rfl ⟨Nat.le_of_ble_eq_true rfl, Nat.le_of_ble_eq_true rfl⟩ ⟨Nat.zero_le _, Nat.zero_le _⟩ (Nat.le_of_ble_eq_true rfl) ?_
      refine wp_X7_sitting6 (by exact hW1) hR1 hO hp hk hr1 (by have l1 := comL_le 6 (by decide); have l2 := sitL_le 6 (by decide); first | omega | (simp only [List.length_append, List.length_singleton]; omega)) (fun M2 hf2 hr2 => ?_)
      have hW2 := hf2.W (by exact hW1)
      have hg2 : FrI DT M M2 := hg1.tr hf2
      have hR2 := hR.dt hg2
      refine ⟨_, rfl, ?_⟩
      refine g_istore_4 dX7_asking_41 rfl ?_
      refine g_iload dX7_asking_43 rfl ?_
      refine g_aloadR_n dX7_asking_45 rfl rfl ?_
      refine g_iload_n dX7_asking_46 rfl rfl ?_
      refine g_iload_n dX7_asking_47 rfl rfl ?_
      refine g_aloadR_n dX7_asking_48 rfl rfl ?_
      refine n_getR dX7_asking_49 fX7_32 rfl hW2 vld_x20 rfl rfl ?_
      refine g_iload_n dX7_asking_52 rfl rfl ?_
      refine n_iald (j := p) dX7_asking_53 rfl hW2 (vld_ma (by decide : 2 < 25)) (by decide) rfl (show p < 10 by omega) ?_
      rw [show mI M2 (21, 2, 0) p = S.2.2 p 1 from hR2.2.2 p 1 hp (by decide)]
      refine g_isub dX7_asking_54 ?_
      refine n_v2i (n' := 1) dX7_asking_55 mX7_coming lX7_277 rfl hW2 vld_x20 rfl rfl ⟨Nat.le_of_ble_eq_true rfl, Nat.le_of_ble_eq_true rfl⟩ ⟨Nat.zero_le _, Nat.zero_le _⟩ (Nat.le_of_ble_eq_true rfl) ?_
      refine wp_X7_coming6 (by exact hW2) hR2 hO hp hk hr2 (by have l1 := comL_le 6 (by decide); have l2 := sitL_le 6 (by decide); first | omega | (simp only [List.length_append, List.length_singleton]; omega)) (fun M3 hf3 hr3 => ?_)
      have hW3 := hf3.W (by exact hW2)
      have hg3 : FrI DT M M3 := hg2.tr hf3
      have hR3 := hR.dt hg3
      refine ⟨_, rfl, ?_⟩
      refine g_ixor dX7_asking_58 ?_
      refine g_istore_4 dX7_asking_59 rfl ?_
      refine g_iload_n dX7_asking_61 rfl rfl ?_
      refine g_iconst dX7_asking_62 (v := 5) (by decide) ?_
      refine g_icmp_ne (tgt := 72) dX7_asking_63 (by decide) (fun c63 => ?_) (fun c63 => ?_)
      · refine g_iload_n dX7_asking_72 rfl rfl ?_
        refine g_iconst dX7_asking_73 (v := 4) (by decide) ?_
        refine g_icmp_ne (tgt := 84) dX7_asking_74 (by decide) (fun c74 => ?_) (fun c74 => ?_)
        · refine g_iload dX7_asking_84 rfl ?_
          refine g_iret dX7_asking_86 rfl ?_
          refine h M3 hg3 ?_
          have el : (((L ++ [12]) ++ sitL 6) ++ comL 6) = L ++ askL 6 := by simp [comL, sitL, askL]
          rw [← el]
          exact hr3
        · exact absurd c74 (by decide)
      · exact absurd c63 (by decide)
    · exact absurd c20 (by decide)
  · exact absurd c9 (by decide)
theorem wp_X7_asking {E : Ev} {M : Mem} {Q : QT} (hW : Wi M) {S : Sc} (hR : RepR M S) (hO : OkS S) {p : Nat} (hp : p < S.1) {L : List Int32} (hr0 : RepTrM M L) (hL : L.length ≤ 20) {x : Int32} (h : ∀ M', FrI DT M M' → RepTrM M' (L ++ askL (S.2.2 p 0).toNatClampNeg) → Q (some (vI (askV (S.2.2 p 0).toNatClampNeg (nI p) (S.2.2 p 1) x))) M') : Mth E 3 0 0 kX7_asking [vR (20, 0, 0), vI (nI p), vI x] M Q := by
  obtain ⟨k, hk, hk7⟩ := kd_c hO hp
  have hkc : (S.2.2 p 0).toNatClampNeg = k := by rw [hk, nI_clamp (by omega)]
  rw [hkc] at h
  have q7 : k = 0 ∨ k = 1 ∨ k = 2 ∨ k = 3 ∨ k = 4 ∨ k = 5 ∨ k = 6 := by omega
  rcases q7 with rfl | rfl | rfl | rfl | rfl | rfl | rfl
  · exact wp_X7_asking0 hW hR hO hp hk hr0 hL h
  · exact wp_X7_asking1 hW hR hO hp hk hr0 hL h
  · exact wp_X7_asking2 hW hR hO hp hk hr0 hL h
  · exact wp_X7_asking3 hW hR hO hp hk hr0 hL h
  · exact wp_X7_asking4 hW hR hO hp hk hr0 hL h
  · exact wp_X7_asking5 hW hR hO hp hk hr0 hL h
  · exact wp_X7_asking6 hW hR hO hp hk hr0 hL h
set_option maxHeartbeats 4000000 in
set_option maxRecDepth 100000 in
theorem wp_X7_act {E : Ev} {M : Mem} {Q : QT} (hW : Wi M) {X : Sys} (hX : RepMo M X) (hO : OkX X) {p mv x : Int32} (h : ∀ M', FrM M M' → RepMo M' (opAct X p mv x).2 → Q (some (vI (opAct X p mv x).1)) M') : Mth E 4 0 0 kX7_act [vR (20, 0, 0), vI p, vI mv, vI x] M Q := by
  have hsz := hX.1.1
  have hs10 : (xS X).1 ≤ 10 := hO.1.1
  have h48 : FrI DT M (sI M (20, 0, 0) 48 0) := fr_sI (Or.inl ⟨rfl, rfl⟩)
  have hr0 : RepTrM (sI M (20, 0, 0) 48 0) [] := ⟨by simp [mI, sI]; decide, fun i _ hi => absurd hi (by simp)⟩
  have hR2 := hX.1.dt h48
  have hsz2 : mI (sI M (20, 0, 0) 48 0) (20, 0, 0) 0 = nI (xS X).1 := hR2.1
  refine mth_of (by decide +kernel) [some (vR (20, 0, 0)), some (vI p), some (vI mv), some (vI x)] (Nat.le_of_ble_eq_true rfl) rfl ?_
  refine g_aloadR_n dX7_act_0 rfl rfl ?_
  refine g_iconst dX7_act_1 (v := 0) (by decide) ?_
  refine n_putI dX7_act_2 fX7_271 rfl hW vld_x20 rfl ?_
  refine g_aloadR_n dX7_act_5 rfl rfl ?_
  refine g_iload_n dX7_act_6 rfl rfl ?_
  refine n_v1i (n' := 0) dX7_act_7 mX7_isOne lX7_113 rfl hW vld_x20 rfl rfl ⟨Nat.le_of_ble_eq_true rfl, Nat.le_of_ble_eq_true rfl⟩ ⟨Nat.zero_le _, Nat.zero_le _⟩ (Nat.le_of_ble_eq_true rfl) ?_
  refine wp_X7_isOne (by exact hW) hsz2 hs10 ?_
  refine ⟨_, rfl, ?_⟩
  refine g_if_eq (tgt := 22) dX7_act_10 (by decide) (fun c10 => ?_) (fun c10 => ?_)
  · simp only [b2_0, Decidable.not_not] at c10
    refine g_iconst dX7_act_22 (v := 0) (by decide) ?_
    refine g_iret dX7_act_23 rfl ?_
    have e : opAct X p mv x = (0, setL X []) := by
      unfold opAct
      rw [if_pos c10]
    rw [e] at h
    exact h _ (frM_sI (by decide)) (hX.trc h48 hr0)
  · simp only [b2_0, Decidable.not_not] at c10
    obtain ⟨hp1, hp2⟩ := IN_nI c10
    refine g_iload_n dX7_act_13 rfl rfl ?_
    refine g_if_lt (tgt := 22) dX7_act_14 (by decide) (fun c14 => ?_) (fun c14 => ?_)
    · refine g_iconst dX7_act_22 (v := 0) (by decide) ?_
      refine g_iret dX7_act_23 rfl ?_
      have e : opAct X p mv x = (0, setL X []) := by
        unfold opAct
        rw [if_neg (not_not_intro c10), if_pos (fun q => by obtain ⟨q1, q2⟩ := q; first | (simp only [Int32.lt_iff_toInt_lt, zcs] at c14; omega) | (simp only [Int32.le_iff_toInt_le, zcs] at c19; omega))]
      rw [e] at h
      exact h _ (frM_sI (by decide)) (hX.trc h48 hr0)
    · refine g_iload_n dX7_act_17 rfl rfl ?_
      refine g_iconst dX7_act_18 (v := 2) (by decide) ?_
      refine g_icmp_le (tgt := 24) dX7_act_19 (by decide) (fun c19 => ?_) (fun c19 => ?_)
      · have hin3 : IN mv 3 := by simp only [IN, Int32.lt_iff_toInt_lt, Int32.le_iff_toInt_le, zcs] at c14 c19 ⊢; omega
        refine g_iload_n dX7_act_24 rfl rfl ?_
        refine g_if_ne (tgt := 37) dX7_act_25 (by decide) (fun c25 => ?_) (fun c25 => ?_)
        · refine g_iload_n dX7_act_37 rfl rfl ?_
          refine g_iconst dX7_act_38 (v := 1) (by decide) ?_
          refine g_icmp_ne (tgt := 51) dX7_act_39 (by decide) (fun c39 => ?_) (fun c39 => ?_)
          · refine g_aloadR_n dX7_act_51 rfl rfl ?_
            refine g_iload_n dX7_act_52 rfl rfl ?_
            refine g_iload_n dX7_act_53 rfl rfl ?_
            rw [hp1]
            refine n_v2i (n' := 3) dX7_act_54 mX7_asking lX7_282 rfl hW vld_x20 rfl rfl ⟨Nat.le_of_ble_eq_true rfl, Nat.le_of_ble_eq_true rfl⟩ ⟨Nat.zero_le _, Nat.zero_le _⟩ (Nat.le_of_ble_eq_true rfl) ?_
            refine wp_X7_asking (by exact hW) hR2 hO.1 hp2 hr0 (by decide) (fun M2 hf2 hr2 => ?_)
            have hW2 := hf2.W (by exact hW)
            refine ⟨_, rfl, ?_⟩
            refine g_iret dX7_act_57 rfl ?_
            have hm : mv = 2 := by
              obtain ⟨q1, q2⟩ := hin3
              simp only [← Int32.toInt_inj, zcs] at *; omega
            subst hm
            have e : opAct X p 2 x = (askV ((xS X).2.2 p.toNatClampNeg 0).toNatClampNeg (nI p.toNatClampNeg) ((xS X).2.2 p.toNatClampNeg 1) x, setL X (askL ((xS X).2.2 p.toNatClampNeg 0).toNatClampNeg)) := by
              unfold opAct
              rw [if_neg (not_not_intro c10), if_neg (not_not_intro hin3), ← hp1]
              rfl
            rw [e] at h
            exact h _ (FrM.of (h48.tr hf2) DT_20) (hX.trc (h48.tr hf2) hr2)
          · refine g_aloadR_n dX7_act_42 rfl rfl ?_
            refine g_iload_n dX7_act_43 rfl rfl ?_
            refine g_iload_n dX7_act_44 rfl rfl ?_
            rw [hp1]
            refine n_v2i (n' := 2) dX7_act_45 mX7_sitting lX7_279 rfl hW vld_x20 rfl rfl ⟨Nat.le_of_ble_eq_true rfl, Nat.le_of_ble_eq_true rfl⟩ ⟨Nat.zero_le _, Nat.zero_le _⟩ (Nat.le_of_ble_eq_true rfl) ?_
            refine wp_X7_sitting (by exact hW) hR2 hO.1 hp2 hr0 (by decide) (fun M3 hf3 hr3 => ?_)
            have hW3 := hf3.W (by exact hW)
            refine ⟨_, rfl, ?_⟩
            refine g_goto (tgt := 57) dX7_act_48 (by decide) ?_
            refine g_iret dX7_act_57 rfl ?_
            have hm : mv = 1 := by first | exact c39 | exact Decidable.not_not.mp c39
            subst hm
            have e : opAct X p 1 x = (sitV ((xS X).2.2 p.toNatClampNeg 0).toNatClampNeg (nI p.toNatClampNeg) ((xS X).2.2 p.toNatClampNeg 1) x, setL X (sitL ((xS X).2.2 p.toNatClampNeg 0).toNatClampNeg)) := by
              unfold opAct
              rw [if_neg (not_not_intro c10), if_neg (not_not_intro hin3), ← hp1]
              rfl
            rw [e] at h
            exact h _ (FrM.of (h48.tr hf3) DT_20) (hX.trc (h48.tr hf3) hr3)
        · refine g_aloadR_n dX7_act_28 rfl rfl ?_
          refine g_iload_n dX7_act_29 rfl rfl ?_
          refine g_iload_n dX7_act_30 rfl rfl ?_
          rw [hp1]
          refine n_v2i (n' := 1) dX7_act_31 mX7_coming lX7_277 rfl hW vld_x20 rfl rfl ⟨Nat.le_of_ble_eq_true rfl, Nat.le_of_ble_eq_true rfl⟩ ⟨Nat.zero_le _, Nat.zero_le _⟩ (Nat.le_of_ble_eq_true rfl) ?_
          refine wp_X7_coming (by exact hW) hR2 hO.1 hp2 hr0 (by decide) (fun M4 hf4 hr4 => ?_)
          have hW4 := hf4.W (by exact hW)
          refine ⟨_, rfl, ?_⟩
          refine g_goto (tgt := 57) dX7_act_34 (by decide) ?_
          refine g_iret dX7_act_57 rfl ?_
          have hm : mv = 0 := by first | exact c25 | exact Decidable.not_not.mp c25
          subst hm
          have e : opAct X p 0 x = (comV ((xS X).2.2 p.toNatClampNeg 0).toNatClampNeg (nI p.toNatClampNeg) ((xS X).2.2 p.toNatClampNeg 1) x, setL X (comL ((xS X).2.2 p.toNatClampNeg 0).toNatClampNeg)) := by
            unfold opAct
            rw [if_neg (not_not_intro c10), if_neg (not_not_intro hin3), ← hp1]
            rfl
          rw [e] at h
          exact h _ (FrM.of (h48.tr hf4) DT_20) (hX.trc (h48.tr hf4) hr4)
      · refine g_iconst dX7_act_22 (v := 0) (by decide) ?_
        refine g_iret dX7_act_23 rfl ?_
        have e : opAct X p mv x = (0, setL X []) := by
          unfold opAct
          rw [if_neg (not_not_intro c10), if_pos (fun q => by obtain ⟨q1, q2⟩ := q; first | (simp only [Int32.lt_iff_toInt_lt, zcs] at c14; omega) | (simp only [Int32.le_iff_toInt_le, zcs] at c19; omega))]
        rw [e] at h
        exact h _ (frM_sI (by decide)) (hX.trc h48 hr0)
