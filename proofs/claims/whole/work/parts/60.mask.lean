/-! THE REFERENCE: WHAT IS ASKED OF THE SCHOOL -/
set_option maxHeartbeats 4000000 in
set_option maxRecDepth 100000 in
theorem wp_X7_trace {E : Ev} {M : Mem} {Q : QT} (hW : Wi M) {X : Sys} (hX : RepMo M X) (hO : OkX X) {i : Int32} (h : Q (some (vI (trF (xL X) i))) M) : Mth E 0 0 0 kX7_trace [vR (20, 0, 0), vI i] M Q := by
  have hT := hX.2.2.2.2.2.1
  have hl100 : (xL X).length ≤ 100 := hO.2.2.2
  have hln := nI_toInt (n := (xL X).length) (by omega)
  refine mth_of (by decide +kernel) [some (vR (20, 0, 0)), some (vI i)] (Nat.le_of_ble_eq_true rfl) rfl ?_
  refine g_iload_n dX7_trace_0 rfl rfl ?_
  refine g_if_lt (tgt := 27) dX7_trace_1 (by decide) (fun c1 => ?_) (fun c1 => ?_)
  · refine g_iconst dX7_trace_27 (v := (-1)) (by decide) ?_
    refine g_iret dX7_trace_28 rfl ?_
    refine qI h ?_
    unfold trF
    rw [if_neg (fun q => by obtain ⟨q1, q2, q3⟩ := q; first | (simp only [Int32.lt_iff_toInt_lt, Int32.le_iff_toInt_le, zcs, hln] at c15; omega) | (simp only [Int32.lt_iff_toInt_lt, Int32.le_iff_toInt_le, zcs] at c7; omega) | (simp only [Int32.lt_iff_toInt_lt, zcs] at c1; omega))]
  · refine g_iload_n dX7_trace_4 rfl rfl ?_
    refine g_bipush dX7_trace_5 (v := 20) (by decide) ?_
    refine g_icmp_ge (tgt := 27) dX7_trace_7 (by decide) (fun c7 => ?_) (fun c7 => ?_)
    · refine g_iconst dX7_trace_27 (v := (-1)) (by decide) ?_
      refine g_iret dX7_trace_28 rfl ?_
      refine qI h ?_
      unfold trF
      rw [if_neg (fun q => by obtain ⟨q1, q2, q3⟩ := q; first | (simp only [Int32.lt_iff_toInt_lt, Int32.le_iff_toInt_le, zcs, hln] at c15; omega) | (simp only [Int32.lt_iff_toInt_lt, Int32.le_iff_toInt_le, zcs] at c7; omega) | (simp only [Int32.lt_iff_toInt_lt, zcs] at c1; omega))]
    · have hi0 : i = nI i.toNatClampNeg := clamp_eq c1
      have hi20 : i.toNatClampNeg < 20 := clamp_lt (n := 20) c1 c7 (by decide)
      have hit := congrArg Int32.toInt hi0
      rw [nI_toInt (by omega)] at hit
      refine g_iload_n dX7_trace_10 rfl rfl ?_
      refine g_aloadR_n dX7_trace_11 rfl rfl ?_
      refine n_getI dX7_trace_12 fX7_271 rfl hW vld_x20 (Or.inl rfl) ?_
      rw [show mI M (20, 0, 0) 48 = nI (xL X).length from hT.1]
      refine g_icmp_ge (tgt := 27) dX7_trace_15 (by decide) (fun c15 => ?_) (fun c15 => ?_)
      · refine g_iconst dX7_trace_27 (v := (-1)) (by decide) ?_
        refine g_iret dX7_trace_28 rfl ?_
        refine qI h ?_
        unfold trF
        rw [if_neg (fun q => by obtain ⟨q1, q2, q3⟩ := q; first | (simp only [Int32.lt_iff_toInt_lt, Int32.le_iff_toInt_le, zcs, hln] at c15; omega) | (simp only [Int32.lt_iff_toInt_lt, Int32.le_iff_toInt_le, zcs] at c7; omega) | (simp only [Int32.lt_iff_toInt_lt, zcs] at c1; omega))]
      · refine g_aloadR_n dX7_trace_18 rfl rfl ?_
        refine n_getR dX7_trace_19 fX7_99 rfl hW vld_x20 rfl rfl ?_
        refine g_iload_n dX7_trace_22 rfl rfl ?_
        refine n_iald (j := i.toNatClampNeg) dX7_trace_23 rfl hW (vld_ma (by decide : 24 < 25)) (by decide) hi0 hi20 ?_
        refine g_goto (tgt := 28) dX7_trace_24 (by decide) ?_
        refine g_iret dX7_trace_28 rfl ?_
        refine qI h ?_
        unfold trF
        rw [if_pos (by refine ⟨?_, ?_, ?_⟩ <;> simp only [Int32.lt_iff_toInt_lt, Int32.le_iff_toInt_le, zcs, hln] at c1 c7 c15 <;> omega)]
        exact hT.2 _ hi20 (by simp only [Int32.lt_iff_toInt_lt, Int32.le_iff_toInt_le, zcs, hln] at c1 c7 c15; omega)
theorem bv_sub {x y : BitVec 32} (h : x &&& y = y) : x - y = x &&& (y ^^^ BitVec.allOnes 32) := by
  have h1 : (x &&& (y ^^^ BitVec.allOnes 32)) &&& y = 0#32 := by
    apply BitVec.eq_of_getLsbD_eq
    intro i hi
    simp only [BitVec.getLsbD_and, BitVec.getLsbD_xor, BitVec.getLsbD_allOnes, BitVec.getLsbD_zero, hi, decide_true]
    cases x.getLsbD i <;> cases y.getLsbD i <;> rfl
  have h2 : (x &&& (y ^^^ BitVec.allOnes 32)) ||| y = x := by
    apply BitVec.eq_of_getLsbD_eq
    intro i hi
    have hh : (x &&& y).getLsbD i = y.getLsbD i := by rw [h]
    simp only [BitVec.getLsbD_and] at hh
    simp only [BitVec.getLsbD_and, BitVec.getLsbD_or, BitVec.getLsbD_xor, BitVec.getLsbD_allOnes, hi, decide_true]
    revert hh
    cases x.getLsbD i <;> cases y.getLsbD i <;> simp
  have h3 := BitVec.add_eq_or_of_and_eq_zero _ _ h1
  rw [h2] at h3
  exact (BitVec.eq_sub_iff_add_eq.mpr h3).symm
theorem nI_bv (n : Nat) : (nI n).toBitVec = BitVec.ofNat 32 n := by
  unfold nI
  first | rfl | simp
theorem sb_sub {c m : Nat} (h : ∀ i, m.testBit i = true → c.testBit i = true) : nI c - nI m = nI c &&& (nI m ^^^ (-1)) := by
  apply Int32.toBitVec_inj.mp
  rw [Int32.toBitVec_sub, Int32.toBitVec_and, Int32.toBitVec_xor, nI_bv, nI_bv, show ((-1) : Int32).toBitVec = BitVec.allOnes 32 by decide]
  apply bv_sub
  apply BitVec.eq_of_getLsbD_eq
  intro i hi
  simp only [BitVec.getLsbD_and, BitVec.getLsbD_ofNat, hi, decide_true, Bool.true_and]
  have := h i
  revert this
  cases m.testBit i <;> cases c.testBit i <;> simp
theorem sb_and {a b d : Nat} (h : ∀ i, d.testBit i = (a.testBit i && !b.testBit i)) : nI a &&& (nI b ^^^ (-1)) = nI d := by
  apply Int32.toBitVec_inj.mp
  rw [Int32.toBitVec_and, Int32.toBitVec_xor, nI_bv, nI_bv, nI_bv, show ((-1) : Int32).toBitVec = BitVec.allOnes 32 by decide]
  apply BitVec.eq_of_getLsbD_eq
  intro i hi
  simp only [BitVec.getLsbD_and, BitVec.getLsbD_xor, BitVec.getLsbD_ofNat, BitVec.getLsbD_allOnes, hi, decide_true, Bool.true_and, h]
  cases a.testBit i <;> cases b.testBit i <;> rfl
theorem seat_sub {S : Sc} {c i : Nat} (h : (seatS S c).testBit i = true) : c.testBit i = true := by
  unfold seatS at h; rw [mk_bit] at h
  simp only [sdP, Bool.and_eq_true] at h; exact h.2.1
set_option maxHeartbeats 4000000 in
set_option maxRecDepth 100000 in
theorem wp_X7_tonight {E : Ev} {M : Mem} {Q : QT} (hW : Wi M) {X : Sys} (hX : RepMo M X) (hO : OkX X) {w : Int32} (h : ∀ M', FrM M M' → RepMo M' (opTonight X w).2 → Q (some (vI (opTonight X w).1)) M') : Mth E 3 0 0 kX7_tonight [vR (20, 0, 0), vI w] M Q := by
  refine mth_of (by decide +kernel) [some (vR (20, 0, 0)), some (vI w)] (Nat.le_of_ble_eq_true rfl) rfl ?_
  refine g_iload_n dX7_tonight_0 rfl rfl ?_
  refine g_if_lt (tgt := 9) dX7_tonight_1 (by decide) (fun c1 => ?_) (fun c1 => ?_)
  · refine g_aloadR_n dX7_tonight_9 rfl rfl ?_
    refine g_bipush dX7_tonight_10 (v := (-5)) (by decide) ?_
    refine n_v1i (n' := 0) dX7_tonight_12 mX7_no lX7_109 rfl hW vld_x20 rfl rfl ⟨Nat.le_of_ble_eq_true rfl, Nat.le_of_ble_eq_true rfl⟩ ⟨Nat.zero_le _, Nat.zero_le _⟩ (Nat.le_of_ble_eq_true rfl) ?_
    refine wp_X7_no (j := 5) (by exact hW) (by decide) (by decide) ?_
    refine ⟨_, rfl, ?_⟩
    refine g_iret dX7_tonight_15 rfl ?_
    have e : opTonight X w = rfX X 5 := by
      unfold opTonight
      rw [if_pos c1]
    rw [e] at h
    exact h _ (frM_sI (by decide)) (repMo_rfm hX (by decide) (by decide))
  · refine g_iload_n dX7_tonight_4 rfl rfl ?_
    refine g_iconst dX7_tonight_5 (v := 2) (by decide) ?_
    refine g_icmp_le (tgt := 16) dX7_tonight_6 (by decide) (fun c6 => ?_) (fun c6 => ?_)
    · refine g_aloadR_n dX7_tonight_16 rfl rfl ?_
      refine g_iconst dX7_tonight_17 (v := 0) (by decide) ?_
      refine n_v1v (n' := 2) dX7_tonight_18 mX7_comes lX7_214 rfl hW vld_x20 rfl rfl ⟨Nat.le_of_ble_eq_true rfl, Nat.le_of_ble_eq_true rfl⟩ ⟨Nat.zero_le _, Nat.zero_le _⟩ (Nat.le_of_ble_eq_true rfl) ?_
      refine wp_X7_comes (r := 0) (by exact hW) hX.1 hO.1 (by decide) (fun M1 hf1 ho1 => ?_)
      have hW2 := hf1.W (by exact hW)
      have hdm := hf1.mono DC_DM
      have hR1 := hX.1.dc hf1
      refine ⟨rfl, ?_⟩
      refine g_iload_n dX7_tonight_21 rfl rfl ?_
      refine g_if_ne (tgt := 32) dX7_tonight_22 (by decide) (fun c22 => ?_) (fun c22 => ?_)
      · refine g_iload_n dX7_tonight_32 rfl rfl ?_
        refine g_iconst dX7_tonight_33 (v := 1) (by decide) ?_
        refine g_icmp_ne (tgt := 44) dX7_tonight_34 (by decide) (fun c34 => ?_) (fun c34 => ?_)
        · refine g_aloadR_n dX7_tonight_44 rfl rfl ?_
          refine n_getI dX7_tonight_45 fX7_199 rfl hW2 vld_x20 (Or.inl rfl) ?_
          rw [show mI M1 (20, 0, 0) 36 = nI (comersS (xS X) 0) from ho1.1]
          refine g_aloadR_n dX7_tonight_48 rfl rfl ?_
          refine n_getI dX7_tonight_49 fX7_205 rfl hW2 vld_x20 (Or.inl rfl) ?_
          rw [show mI M1 (20, 0, 0) 37 = nI (seatS (xS X) (comersS (xS X) 0)) from ho1.2.1]
          refine g_isub dX7_tonight_52 ?_
          refine g_iret dX7_tonight_53 rfl ?_
          have e : opTonight X w = (nI (comersS (xS X) 0) &&& (nI (eveM (xS X)) ^^^ (-1)), X) := by
            unfold opTonight
            rw [if_neg c1, if_neg (not_not_intro c6), if_neg c22, if_neg c34]
          rw [e] at h
          rw [show nI (comersS (xS X) 0) - nI (seatS (xS X) (comersS (xS X) 0)) = nI (comersS (xS X) 0) &&& (nI (eveM (xS X)) ^^^ (-1)) from sb_sub (fun i hi => seat_sub hi)]
          exact h _ (frM_DM hdm) (hX.dm hdm hR1)
        · refine g_aloadR_n dX7_tonight_37 rfl rfl ?_
          refine n_getI dX7_tonight_38 fX7_205 rfl hW2 vld_x20 (Or.inl rfl) ?_
          rw [show mI M1 (20, 0, 0) 37 = nI (seatS (xS X) (comersS (xS X) 0)) from ho1.2.1]
          refine g_goto (tgt := 53) dX7_tonight_41 (by decide) ?_
          refine g_iret dX7_tonight_53 rfl ?_
          have c34 : w = 1 := by first | exact c34 | exact Decidable.not_not.mp c34
          have e : opTonight X w = (nI (eveM (xS X)), X) := by
            unfold opTonight
            rw [if_neg c1, if_neg (not_not_intro c6), if_neg c22, if_pos c34]
          rw [e] at h
          exact h _ (frM_DM hdm) (hX.dm hdm hR1)
      · refine g_aloadR_n dX7_tonight_25 rfl rfl ?_
        refine n_getI dX7_tonight_26 fX7_199 rfl hW2 vld_x20 (Or.inl rfl) ?_
        rw [show mI M1 (20, 0, 0) 36 = nI (comersS (xS X) 0) from ho1.1]
        refine g_goto (tgt := 53) dX7_tonight_29 (by decide) ?_
        refine g_iret dX7_tonight_53 rfl ?_
        have c22 : w = 0 := by first | exact c22 | exact Decidable.not_not.mp c22
        have e : opTonight X w = (nI (comersS (xS X) 0), X) := by
          unfold opTonight
          rw [if_neg c1, if_neg (not_not_intro c6), if_pos c22]
        rw [e] at h
        exact h _ (frM_DM hdm) (hX.dm hdm hR1)
    · refine g_aloadR_n dX7_tonight_9 rfl rfl ?_
      refine g_bipush dX7_tonight_10 (v := (-5)) (by decide) ?_
      refine n_v1i (n' := 0) dX7_tonight_12 mX7_no lX7_109 rfl hW vld_x20 rfl rfl ⟨Nat.le_of_ble_eq_true rfl, Nat.le_of_ble_eq_true rfl⟩ ⟨Nat.zero_le _, Nat.zero_le _⟩ (Nat.le_of_ble_eq_true rfl) ?_
      refine wp_X7_no (j := 5) (by exact hW) (by decide) (by decide) ?_
      refine ⟨_, rfl, ?_⟩
      refine g_iret dX7_tonight_15 rfl ?_
      have e : opTonight X w = rfX X 5 := by
        unfold opTonight
        rw [if_neg c1, if_pos c6]
      rw [e] at h
      exact h _ (frM_sI (by decide)) (repMo_rfm hX (by decide) (by decide))
set_option maxHeartbeats 4000000 in
set_option maxRecDepth 100000 in
theorem wp_X7_ahead {E : Ev} {M : Mem} {Q : QT} (hW : Wi M) {X : Sys} (hX : RepMo M X) (hO : OkX X) {n w : Int32} (h : ∀ M', FrM M M' → RepMo M' (opAhead X n w).2 → Q (some (vI (opAhead X n w).1)) M') : Mth E 5 0 0 kX7_ahead [vR (20, 0, 0), vI n, vI w] M Q := by
  refine mth_of (by decide +kernel) [some (vR (20, 0, 0)), some (vI n), some (vI w)] (Nat.le_of_ble_eq_true rfl) rfl ?_
  refine g_iload_n dX7_ahead_0 rfl rfl ?_
  refine g_if_lt (tgt := 9) dX7_ahead_1 (by decide) (fun c1 => ?_) (fun c1 => ?_)
  · refine g_aloadR_n dX7_ahead_9 rfl rfl ?_
    refine g_bipush dX7_ahead_10 (v := (-5)) (by decide) ?_
    refine n_v1i (n' := 0) dX7_ahead_12 mX7_no lX7_109 rfl hW vld_x20 rfl rfl ⟨Nat.le_of_ble_eq_true rfl, Nat.le_of_ble_eq_true rfl⟩ ⟨Nat.zero_le _, Nat.zero_le _⟩ (Nat.le_of_ble_eq_true rfl) ?_
    refine wp_X7_no (j := 5) (by exact hW) (by decide) (by decide) ?_
    refine ⟨_, rfl, ?_⟩
    refine g_iret dX7_ahead_15 rfl ?_
    have e : opAhead X n w = rfX X 5 := by
      unfold opAhead
      rw [if_pos c1]
    rw [e] at h
    exact h _ (frM_sI (by decide)) (repMo_rfm hX (by decide) (by decide))
  · refine g_iload_n dX7_ahead_4 rfl rfl ?_
    refine g_iconst dX7_ahead_5 (v := 2) (by decide) ?_
    refine g_icmp_le (tgt := 16) dX7_ahead_6 (by decide) (fun c6 => ?_) (fun c6 => ?_)
    · refine g_aloadR_n dX7_ahead_16 rfl rfl ?_
      refine g_iload_n dX7_ahead_17 rfl rfl ?_
      refine n_v1i (n' := 1) dX7_ahead_18 mX7_isMany lX7_242 rfl hW vld_x20 rfl rfl ⟨Nat.le_of_ble_eq_true rfl, Nat.le_of_ble_eq_true rfl⟩ ⟨Nat.zero_le _, Nat.zero_le _⟩ (Nat.le_of_ble_eq_true rfl) ?_
      refine wp_X7_isMany (by exact hW) ?_
      refine ⟨_, rfl, ?_⟩
      refine g_if_ne (tgt := 31) dX7_ahead_21 (by decide) (fun c21 => ?_) (fun c21 => ?_)
      · simp only [b2_0, Decidable.not_not] at c21
        obtain ⟨k, hke, hk⟩ : ∃ k, n = nI k ∧ k < 25 := ⟨_, (IN_nI c21).1, (IN_nI c21).2⟩
        subst hke
        have hkc : (nI k).toNatClampNeg = k := nI_clamp (by omega)
        refine g_aloadR_n dX7_ahead_31 rfl rfl ?_
        refine g_iload_n dX7_ahead_32 rfl rfl ?_
        refine n_v1v (n' := 4) dX7_ahead_33 mX7_runs lX7_245 rfl hW vld_x20 rfl rfl ⟨Nat.le_of_ble_eq_true rfl, Nat.le_of_ble_eq_true rfl⟩ ⟨Nat.zero_le _, Nat.zero_le _⟩ (Nat.le_of_ble_eq_true rfl) ?_
        refine wp_X7_runs (n := k) (by exact hW) hX.1 hO.1 (by omega) (fun M1 hf1 hR1 ho1 => ?_)
        have hW3 := hf1.W (by exact hW)
        have hdm := hf1.mono DQ_DM
        refine ⟨rfl, ?_⟩
        refine g_iload_n dX7_ahead_36 rfl rfl ?_
        refine g_if_ne (tgt := 47) dX7_ahead_37 (by decide) (fun c37 => ?_) (fun c37 => ?_)
        · refine g_iload_n dX7_ahead_47 rfl rfl ?_
          refine g_iconst dX7_ahead_48 (v := 1) (by decide) ?_
          refine g_icmp_ne (tgt := 59) dX7_ahead_49 (by decide) (fun c49 => ?_) (fun c49 => ?_)
          · refine g_aloadR_n dX7_ahead_59 rfl rfl ?_
            refine n_getI dX7_ahead_60 fX7_221 rfl hW3 vld_x20 (Or.inl rfl) ?_
            try rw [show mI M1 (20, 0, 0) 42 = nI (turnSum (xS X) k) from ho1.2.2.1]
            refine g_iret dX7_ahead_63 rfl ?_
            have e : opAhead X (nI k) w = (nI (turnSum (xS X) k), X) := by
              unfold opAhead
              rw [if_neg c1, if_neg (not_not_intro c6), if_neg (not_not_intro c21), if_neg c37, if_neg c49, hkc]
            rw [e] at h
            exact h _ (frM_DM hdm) (hX.dm hdm hR1)
          · refine g_aloadR_n dX7_ahead_52 rfl rfl ?_
            refine n_getI dX7_ahead_53 fX7_218 rfl hW3 vld_x20 (Or.inl rfl) ?_
            try rw [show mI M1 (20, 0, 0) 41 = nI (seatSum (xS X) k) from ho1.2.1]
            refine g_goto (tgt := 63) dX7_ahead_56 (by decide) ?_
            try rw [show mI M1 (20, 0, 0) 42 = nI (turnSum (xS X) k) from ho1.2.2.1]
            refine g_iret dX7_ahead_63 rfl ?_
            have c49 : w = 1 := by first | exact c49 | exact Decidable.not_not.mp c49
            have e : opAhead X (nI k) w = (nI (seatSum (xS X) k), X) := by
              unfold opAhead
              rw [if_neg c1, if_neg (not_not_intro c6), if_neg (not_not_intro c21), if_neg c37, if_pos c49, hkc]
            rw [e] at h
            exact h _ (frM_DM hdm) (hX.dm hdm hR1)
        · refine g_aloadR_n dX7_ahead_40 rfl rfl ?_
          refine n_getI dX7_ahead_41 fX7_236 rfl hW3 vld_x20 (Or.inl rfl) ?_
          try rw [show mI M1 (20, 0, 0) 40 = nI (cnt (presS (itS (xS X) k)) 11) from ho1.1]
          refine g_goto (tgt := 63) dX7_ahead_44 (by decide) ?_
          try rw [show mI M1 (20, 0, 0) 42 = nI (turnSum (xS X) k) from ho1.2.2.1]
          refine g_iret dX7_ahead_63 rfl ?_
          have c37 : w = 0 := by first | exact c37 | exact Decidable.not_not.mp c37
          have e : opAhead X (nI k) w = (nI (cnt (presS (itS (xS X) k)) 11), X) := by
            unfold opAhead
            rw [if_neg c1, if_neg (not_not_intro c6), if_neg (not_not_intro c21), if_pos c37, hkc]
          rw [e] at h
          exact h _ (frM_DM hdm) (hX.dm hdm hR1)
      · simp only [b2_0, Decidable.not_not] at c21
        refine g_aloadR_n dX7_ahead_24 rfl rfl ?_
        refine g_bipush dX7_ahead_25 (v := (-6)) (by decide) ?_
        refine n_v1i (n' := 0) dX7_ahead_27 mX7_no lX7_109 rfl hW vld_x20 rfl rfl ⟨Nat.le_of_ble_eq_true rfl, Nat.le_of_ble_eq_true rfl⟩ ⟨Nat.zero_le _, Nat.zero_le _⟩ (Nat.le_of_ble_eq_true rfl) ?_
        refine wp_X7_no (j := 6) (by exact hW) (by decide) (by decide) ?_
        refine ⟨_, rfl, ?_⟩
        refine g_iret dX7_ahead_30 rfl ?_
        have e : opAhead X n w = rfX X 6 := by
          unfold opAhead
          rw [if_neg c1, if_neg (not_not_intro c6), if_pos c21]
        rw [e] at h
        exact h _ (frM_sI (by decide)) (repMo_rfm hX (by decide) (by decide))
    · refine g_aloadR_n dX7_ahead_9 rfl rfl ?_
      refine g_bipush dX7_ahead_10 (v := (-5)) (by decide) ?_
      refine n_v1i (n' := 0) dX7_ahead_12 mX7_no lX7_109 rfl hW vld_x20 rfl rfl ⟨Nat.le_of_ble_eq_true rfl, Nat.le_of_ble_eq_true rfl⟩ ⟨Nat.zero_le _, Nat.zero_le _⟩ (Nat.le_of_ble_eq_true rfl) ?_
      refine wp_X7_no (j := 5) (by exact hW) (by decide) (by decide) ?_
      refine ⟨_, rfl, ?_⟩
      refine g_iret dX7_ahead_15 rfl ?_
      have e : opAhead X n w = rfX X 5 := by
        unfold opAhead
        rw [if_neg c1, if_pos c6]
      rw [e] at h
      exact h _ (frM_sI (by decide)) (repMo_rfm hX (by decide) (by decide))
set_option maxHeartbeats 4000000 in
set_option maxRecDepth 100000 in
theorem wp_X7_worst {E : Ev} {M : Mem} {Q : QT} (hW : Wi M) {X : Sys} (hX : RepMo M X) (hO : OkX X) {n w : Int32} (h : ∀ M', FrM M M' → RepMo M' (opWorst X n w).2 → Q (some (vI (opWorst X n w).1)) M') : Mth E 5 0 0 kX7_worst [vR (20, 0, 0), vI n, vI w] M Q := by
  refine mth_of (by decide +kernel) [some (vR (20, 0, 0)), some (vI n), some (vI w)] (Nat.le_of_ble_eq_true rfl) rfl ?_
  refine g_iload_n dX7_worst_0 rfl rfl ?_
  refine g_if_lt (tgt := 9) dX7_worst_1 (by decide) (fun c1 => ?_) (fun c1 => ?_)
  · refine g_aloadR_n dX7_worst_9 rfl rfl ?_
    refine g_bipush dX7_worst_10 (v := (-5)) (by decide) ?_
    refine n_v1i (n' := 0) dX7_worst_12 mX7_noTen lX7_128 rfl hW vld_x20 rfl rfl ⟨Nat.le_of_ble_eq_true rfl, Nat.le_of_ble_eq_true rfl⟩ ⟨Nat.zero_le _, Nat.zero_le _⟩ (Nat.le_of_ble_eq_true rfl) ?_
    refine wp_X7_noTen (j := 5) (by exact hW) (by decide) (by decide) ?_
    refine ⟨_, rfl, ?_⟩
    refine g_iret dX7_worst_15 rfl ?_
    have e : opWorst X n w = ((rfX X 5).1 - 10, (rfX X 5).2) := by
      unfold opWorst
      rw [if_pos c1]
    rw [e] at h
    exact h _ (frM_sI (by decide)) (repMo_rfm hX (by decide) (by decide))
  · refine g_iload_n dX7_worst_4 rfl rfl ?_
    refine g_iconst dX7_worst_5 (v := 1) (by decide) ?_
    refine g_icmp_le (tgt := 16) dX7_worst_6 (by decide) (fun c6 => ?_) (fun c6 => ?_)
    · refine g_aloadR_n dX7_worst_16 rfl rfl ?_
      refine g_iload_n dX7_worst_17 rfl rfl ?_
      refine g_iconst dX7_worst_18 (v := 1) (by decide) ?_
      refine g_bipush dX7_worst_19 (v := 24) (by decide) ?_
      refine n_v3i (n' := 0) dX7_worst_21 mX7_isFrom lX7_120 rfl hW vld_x20 rfl rfl ⟨Nat.le_of_ble_eq_true rfl, Nat.le_of_ble_eq_true rfl⟩ ⟨Nat.zero_le _, Nat.zero_le _⟩ (Nat.le_of_ble_eq_true rfl) ?_
      refine wp_X7_isFrom ?_
      refine ⟨_, rfl, ?_⟩
      refine g_if_ne (tgt := 34) dX7_worst_24 (by decide) (fun c24 => ?_) (fun c24 => ?_)
      · simp only [b2_0, Decidable.not_not] at c24
        have hin : IN n 25 := by simp only [fromP, IN, zcs] at c24 ⊢; omega
        have hn0 : ¬ n = 0 := fun z => by subst z; simp only [fromP, zcs] at c24; omega
        obtain ⟨k, hke, hk⟩ : ∃ k, n = nI k ∧ k < 25 := ⟨_, (IN_nI hin).1, (IN_nI hin).2⟩
        subst hke
        have hkc : (nI k).toNatClampNeg = k := nI_clamp (by omega)
        refine g_aloadR_n dX7_worst_34 rfl rfl ?_
        refine g_iload_n dX7_worst_35 rfl rfl ?_
        refine n_v1v (n' := 4) dX7_worst_36 mX7_runs lX7_245 rfl hW vld_x20 rfl rfl ⟨Nat.le_of_ble_eq_true rfl, Nat.le_of_ble_eq_true rfl⟩ ⟨Nat.zero_le _, Nat.zero_le _⟩ (Nat.le_of_ble_eq_true rfl) ?_
        refine wp_X7_runs (n := k) (by exact hW) hX.1 hO.1 (by omega) (fun M1 hf1 hR1 ho1 => ?_)
        have hW3 := hf1.W (by exact hW)
        have hdm := hf1.mono DQ_DM
        refine ⟨rfl, ?_⟩
        refine g_iload_n dX7_worst_39 rfl rfl ?_
        refine g_if_ne (tgt := 50) dX7_worst_40 (by decide) (fun c40 => ?_) (fun c40 => ?_)
        · refine g_aloadR_n dX7_worst_50 rfl rfl ?_
          refine n_getI dX7_worst_51 fX7_227 rfl hW3 vld_x20 (Or.inl rfl) ?_
          try rw [show mI M1 (20, 0, 0) 44 = shF (xS X) k from ho1.2.2.2.2.1]
          refine g_iret dX7_worst_54 rfl ?_
          have e : opWorst X (nI k) w = (shF (xS X) k, X) := by
            unfold opWorst
            rw [if_neg c1, if_neg (not_not_intro c6), if_neg hn0, if_neg (not_not_intro hin), if_neg c40, hkc]
          rw [e] at h
          exact h _ (frM_DM hdm) (hX.dm hdm hR1)
        · refine g_aloadR_n dX7_worst_43 rfl rfl ?_
          refine n_getI dX7_worst_44 fX7_224 rfl hW3 vld_x20 (Or.inl rfl) ?_
          try rw [show mI M1 (20, 0, 0) 43 = (woF (xS X) k).1 from ho1.2.2.2.1]
          refine g_goto (tgt := 54) dX7_worst_47 (by decide) ?_
          try rw [show mI M1 (20, 0, 0) 44 = shF (xS X) k from ho1.2.2.2.2.1]
          refine g_iret dX7_worst_54 rfl ?_
          have c40 : w = 0 := by first | exact c40 | exact Decidable.not_not.mp c40
          have e : opWorst X (nI k) w = ((woF (xS X) k).1, X) := by
            unfold opWorst
            rw [if_neg c1, if_neg (not_not_intro c6), if_neg hn0, if_neg (not_not_intro hin), if_pos c40, hkc]
          rw [e] at h
          exact h _ (frM_DM hdm) (hX.dm hdm hR1)
      · simp only [b2_0, Decidable.not_not] at c24
        refine g_aloadR_n dX7_worst_27 rfl rfl ?_
        refine g_bipush dX7_worst_28 (v := (-6)) (by decide) ?_
        refine n_v1i (n' := 0) dX7_worst_30 mX7_noTen lX7_128 rfl hW vld_x20 rfl rfl ⟨Nat.le_of_ble_eq_true rfl, Nat.le_of_ble_eq_true rfl⟩ ⟨Nat.zero_le _, Nat.zero_le _⟩ (Nat.le_of_ble_eq_true rfl) ?_
        refine wp_X7_noTen (j := 6) (by exact hW) (by decide) (by decide) ?_
        refine ⟨_, rfl, ?_⟩
        refine g_iret dX7_worst_33 rfl ?_
        have e : opWorst X n w = ((rfX X 6).1 - 10, (rfX X 6).2) := by
          unfold opWorst
          rw [if_neg c1, if_neg (not_not_intro c6)]
          by_cases z : n = 0
          · rw [if_pos z]
          · rw [if_neg z, if_pos (fun q => c24 ?_)]
            simp only [fromP, IN, ← Int32.toInt_inj, zcs] at *
            omega
        rw [e] at h
        exact h _ (frM_sI (by decide)) (repMo_rfm hX (by decide) (by decide))
    · refine g_aloadR_n dX7_worst_9 rfl rfl ?_
      refine g_bipush dX7_worst_10 (v := (-5)) (by decide) ?_
      refine n_v1i (n' := 0) dX7_worst_12 mX7_noTen lX7_128 rfl hW vld_x20 rfl rfl ⟨Nat.le_of_ble_eq_true rfl, Nat.le_of_ble_eq_true rfl⟩ ⟨Nat.zero_le _, Nat.zero_le _⟩ (Nat.le_of_ble_eq_true rfl) ?_
      refine wp_X7_noTen (j := 5) (by exact hW) (by decide) (by decide) ?_
      refine ⟨_, rfl, ?_⟩
      refine g_iret dX7_worst_15 rfl ?_
      have e : opWorst X n w = ((rfX X 5).1 - 10, (rfX X 5).2) := by
        unfold opWorst
        rw [if_neg c1, if_pos c6]
      rw [e] at h
      exact h _ (frM_sI (by decide)) (repMo_rfm hX (by decide) (by decide))
theorem bt_an0 : (List.range 10).all (fun j => (List.range 1024).all fun g => nI g &&& ((1 : Int32) <<< (nI j &&& 31)) == nI (if g.testBit j then 2 ^ j else 0)) = true := by decide +kernel
theorem bt_an {j g : Nat} (hj : j < 10) (hg : g < 1024) : nI g &&& ((1 : Int32) <<< (nI j &&& 31)) = nI (if g.testBit j = true then 2 ^ j else 0) := by
  have h := List.all_eq_true.mp (List.all_eq_true.mp bt_an0 j (List.mem_range.mpr hj)) g (List.mem_range.mpr hg)
  simpa using h
def goS_ (S : Sc) (n : Nat) : Nat := mk (fun i => (itS S n).2.2 i 8 == 1) S.1
def loP (S : Sc) (n i : Nat) : Bool := (S.2.2 i 8 == 0) && (itS S n).2.2 i 8 == 1
theorem lost_eq {S : Sc} (hO : OkS S) (n : Nat) : nI (presS S) &&& (nI (presS (itS S n)) ^^^ (-1)) = nI (mk (loP S n) S.1) := by
  refine sb_and (fun i => ?_)
  have hOn := hO.it n
  have en := itS_n S n
  unfold presS
  rw [mk_bit, mk_bit, mk_bit, en]
  by_cases hi : i < S.1
  · have hz := (hOn.z (i := i) (by rw [en]; exact hi)).2
    simp only [hi, decide_true, Bool.true_and, loP]
    rcases hz with q | q <;> rw [q] <;> simp
  · simp [hi]
set_option maxHeartbeats 4000000 in
set_option maxRecDepth 100000 in
theorem lp_X7_lost {E : Ev} {M : Mem} {Q : QT} (hW : Wi M) {S : Sc} (hR : RepR M S) (hO : OkS S) {n : Nat} (h45 : mI M (20, 0, 0) 45 = nI (goS_ S n)) {x1 : Int32} (h : Q (some (vI (nI (mk (loP S n) S.1)))) M) : ∀ j, j ≤ S.1 → G E (rm 5 0 0) kX7_lost (ZQ E Q 0 0) 0 0 24 [some (vR (20, 0, 0)), some (vI x1), some (vI (nI (mk (loP S n) j))), some (vI (nI j))] [] M := by
  refine up_loop S.1 (fun j hj ih => ?_)
  have hsz := hR.1
  have hs10 := hO.1
  have hgl : goS_ S n < 1024 := Nat.lt_of_lt_of_le (mk_lt _ _) (pow_le10 hO.1)
  refine g_iload_n dX7_lost_24 rfl rfl ?_
  refine g_aloadR_n dX7_lost_25 rfl rfl ?_
  refine n_getI dX7_lost_26 fX7_102 rfl hW vld_x20 (Or.inl rfl) ?_
  refine g_icmp_ge (tgt := 58) dX7_lost_29 (by decide) (fun c29 => ?_) (fun c29 => ?_)
  · rw [hsz] at c29
    have hjn2 : j = S.1 := by rw [nI_leI (by omega) (by omega)] at c29; omega
    refine g_iload_n dX7_lost_58 rfl rfl ?_
    refine g_iret dX7_lost_59 rfl ?_
    subst hjn2
    exact h
  · rw [hsz] at c29
    have hjn : j < S.1 := by rw [nI_leI (by omega) (by omega)] at c29; omega
    refine g_aloadR_n dX7_lost_32 rfl rfl ?_
    refine n_getR dX7_lost_33 fX7_53 rfl hW vld_x20 rfl rfl ?_
    refine g_iload_n dX7_lost_36 rfl rfl ?_
    refine n_iald (j := j) dX7_lost_37 rfl hW (vld_ma (by decide : 9 < 25)) (by decide) rfl (show j < 10 by omega) ?_
    rw [show mI M (21, 9, 0) j = S.2.2 j 8 from hR.2.2 j 8 hjn (by decide)]
    refine g_if_ne (tgt := 52) dX7_lost_38 (by decide) (fun c38 => ?_) (fun c38 => ?_)
    · refine g_iinc_3 (v := nI (j + 1)) dX7_lost_52 rfl (nI_inc j) ?_
      refine g_goto (tgt := 24) dX7_lost_55 (by decide) ?_
      rw [← mk_n (P := loP S n) (by simp [loP, c38])]
      exact ih hjn
    · refine g_iload_n dX7_lost_41 rfl rfl ?_
      refine g_aloadR_n dX7_lost_42 rfl rfl ?_
      refine n_getI dX7_lost_43 fX7_239 rfl hW vld_x20 (Or.inl rfl) ?_
      refine g_iconst dX7_lost_46 (v := 1) (by decide) ?_
      refine g_iload_n dX7_lost_47 rfl rfl ?_
      refine g_ishl dX7_lost_48 ?_
      refine g_iand dX7_lost_49 ?_
      rw [h45, bt_an (by omega) hgl]
      refine g_iadd dX7_lost_50 ?_
      rw [nI_add]
      refine g_istore_2 dX7_lost_51 rfl ?_
      refine g_iinc_3 (v := nI (j + 1)) dX7_lost_52 rfl (nI_inc j) ?_
      refine g_goto (tgt := 24) dX7_lost_55 (by decide) ?_
      have c38 : S.2.2 j 8 = 0 := by first | exact c38 | exact Decidable.not_not.mp c38
      have em : mk (loP S n) j + (if (goS_ S n).testBit j = true then 2 ^ j else 0) = mk (loP S n) (j + 1) := by
        rw [mk]
        have e2 : (goS_ S n).testBit j = loP S n j := by unfold goS_ loP; rw [mk_bit]; simp [hjn, c38]
        rw [e2]
      rw [em]
      exact ih hjn
set_option maxHeartbeats 4000000 in
set_option maxRecDepth 100000 in
theorem wp_X7_lost {E : Ev} {M : Mem} {Q : QT} (hW : Wi M) {X : Sys} (hX : RepMo M X) (hO : OkX X) {n : Int32} (h : ∀ M', FrM M M' → RepMo M' (opLost X n).2 → Q (some (vI (opLost X n).1)) M') : Mth E 5 0 0 kX7_lost [vR (20, 0, 0), vI n] M Q := by
  refine mth_of (by decide +kernel) [some (vR (20, 0, 0)), some (vI n), none, none] (Nat.le_of_ble_eq_true rfl) rfl ?_
  refine g_aloadR_n dX7_lost_0 rfl rfl ?_
  refine g_iload_n dX7_lost_1 rfl rfl ?_
  refine n_v1i (n' := 1) dX7_lost_2 mX7_isMany lX7_242 rfl hW vld_x20 rfl rfl ⟨Nat.le_of_ble_eq_true rfl, Nat.le_of_ble_eq_true rfl⟩ ⟨Nat.zero_le _, Nat.zero_le _⟩ (Nat.le_of_ble_eq_true rfl) ?_
  refine wp_X7_isMany (by exact hW) ?_
  refine ⟨_, rfl, ?_⟩
  refine g_if_ne (tgt := 15) dX7_lost_5 (by decide) (fun c5 => ?_) (fun c5 => ?_)
  · simp only [b2_0, Decidable.not_not] at c5
    obtain ⟨k, hke, hk⟩ : ∃ k, n = nI k ∧ k < 25 := ⟨_, (IN_nI c5).1, (IN_nI c5).2⟩
    subst hke
    have hkc : (nI k).toNatClampNeg = k := nI_clamp (by omega)
    refine g_aloadR_n dX7_lost_15 rfl rfl ?_
    refine g_iload_n dX7_lost_16 rfl rfl ?_
    refine n_v1v (n' := 4) dX7_lost_17 mX7_runs lX7_245 rfl hW vld_x20 rfl rfl ⟨Nat.le_of_ble_eq_true rfl, Nat.le_of_ble_eq_true rfl⟩ ⟨Nat.zero_le _, Nat.zero_le _⟩ (Nat.le_of_ble_eq_true rfl) ?_
    refine wp_X7_runs (n := k) (by exact hW) hX.1 hO.1 (by omega) (fun M1 hf1 hR1 ho1 => ?_)
    have hW2 := hf1.W (by exact hW)
    have hdm := hf1.mono DQ_DM
    refine ⟨rfl, ?_⟩
    refine g_iconst dX7_lost_20 (v := 0) (by decide) ?_
    refine g_istore_2 dX7_lost_21 rfl ?_
    refine g_iconst dX7_lost_22 (v := 0) (by decide) ?_
    refine g_istore_3 dX7_lost_23 rfl ?_
    have e : opLost X (nI k) = (nI (mk (loP (xS X) k) (xS X).1), X) := by
      unfold opLost
      rw [if_neg (not_not_intro c5), hkc, lost_eq hO.1]
    rw [e] at h
    exact lp_X7_lost hW2 hR1 hO.1 ho1.2.2.2.2.2 (h _ (frM_DM hdm) (hX.dm hdm hR1)) 0 (Nat.zero_le _)
  · simp only [b2_0, Decidable.not_not] at c5
    refine g_aloadR_n dX7_lost_8 rfl rfl ?_
    refine g_bipush dX7_lost_9 (v := (-6)) (by decide) ?_
    refine n_v1i (n' := 0) dX7_lost_11 mX7_no lX7_109 rfl hW vld_x20 rfl rfl ⟨Nat.le_of_ble_eq_true rfl, Nat.le_of_ble_eq_true rfl⟩ ⟨Nat.zero_le _, Nat.zero_le _⟩ (Nat.le_of_ble_eq_true rfl) ?_
    refine wp_X7_no (j := 6) (by exact hW) (by decide) (by decide) ?_
    refine ⟨_, rfl, ?_⟩
    refine g_iret dX7_lost_14 rfl ?_
    have e : opLost X n = rfX X 6 := by
      unfold opLost
      rw [if_pos c5]
    rw [e] at h
    exact h _ (frM_sI (by decide)) (repMo_rfm hX (by decide) (by decide))
set_option maxHeartbeats 4000000 in
set_option maxRecDepth 100000 in
theorem lp_X7_evenings {E : Ev} {M0 : Mem} {Q : QT} (hW0 : Wi M0) {S : Sc} (hO : OkS S) {n : Nat} (hn : n ≤ 24) (h : ∀ M', FrI DP M0 M' → RepR M' (itS S n) → Q (some (vI (nI (seatSum S n)))) M') : ∀ j, j ≤ n → ∀ (M : Mem), FrI DP M0 M → RepR M (itS S j) → G E (rm 4 0 0) kX7_evenings (ZQ E Q 0 0) 0 0 22 [some (vR (20, 0, 0)), some (vI (nI n)), some (vI (nI (seatSum S j))), some (vI (nI j))] [] M := by
  refine up_loop n (fun j hj ih M hf hRj => ?_)
  have hW := hf.W hW0
  have hOj := hO.it j
  refine g_iload_n dX7_evenings_22 rfl rfl ?_
  refine g_iload_n dX7_evenings_23 rfl rfl ?_
  refine g_icmp_ge (tgt := 44) dX7_evenings_24 (by decide) (fun c24 => ?_) (fun c24 => ?_)
  · have hjn2 : j = n := by rw [nI_leI (by omega) (by omega)] at c24; omega
    refine g_iload_n dX7_evenings_44 rfl rfl ?_
    refine g_iret dX7_evenings_45 rfl ?_
    subst hjn2
    exact h M hf hRj
  · have hjn : j < n := by rw [nI_leI (by omega) (by omega)] at c24; omega
    refine g_aloadR_n dX7_evenings_27 rfl rfl ?_
    refine n_v0v (n' := 3) dX7_evenings_28 mX7_passes lX7_230 rfl hW vld_x20 rfl rfl ⟨Nat.le_of_ble_eq_true rfl, Nat.le_of_ble_eq_true rfl⟩ ⟨Nat.zero_le _, Nat.zero_le _⟩ (Nat.le_of_ble_eq_true rfl) ?_
    refine wp_X7_passes (by exact hW) hRj hOj (fun M1 hf1 hR1 ho1 => ?_)
    have hW1 := hf1.W (by exact hW)
    have e39 : mI M1 (20, 0, 0) 39 = nI (tS S j) := ho1.2.2.2.trans (congrArg nI (tS_eq hO j))
    refine ⟨rfl, ?_⟩
    refine g_iload_n dX7_evenings_31 rfl rfl ?_
    refine g_aloadR_n dX7_evenings_32 rfl rfl ?_
    refine n_getI dX7_evenings_33 fX7_211 rfl hW1 vld_x20 (Or.inl rfl) ?_
    rw [e39]
    refine g_iadd dX7_evenings_36 ?_
    rw [nI_add]
    refine g_istore_2 dX7_evenings_37 rfl ?_
    refine g_iinc_3 (v := nI (j + 1)) dX7_evenings_38 rfl (nI_inc j) ?_
    refine g_goto (tgt := 22) dX7_evenings_41 (by decide) ?_
    exact ih hjn M1 (hf.tr hf1) hR1
set_option maxHeartbeats 4000000 in
set_option maxRecDepth 100000 in
theorem wp_X7_evenings {E : Ev} {M : Mem} {Q : QT} (hW : Wi M) {X : Sys} (hX : RepMo M X) (hO : OkX X) {n : Int32} (h : ∀ M', FrM M M' → RepMo M' (opEvenings X n).2 → Q (some (vI (opEvenings X n).1)) M') : Mth E 4 0 0 kX7_evenings [vR (20, 0, 0), vI n] M Q := by
  refine mth_of (by decide +kernel) [some (vR (20, 0, 0)), some (vI n), none, none] (Nat.le_of_ble_eq_true rfl) rfl ?_
  refine g_aloadR_n dX7_evenings_0 rfl rfl ?_
  refine g_iload_n dX7_evenings_1 rfl rfl ?_
  refine g_iconst dX7_evenings_2 (v := 1) (by decide) ?_
  refine g_bipush dX7_evenings_3 (v := 24) (by decide) ?_
  refine n_v3i (n' := 0) dX7_evenings_5 mX7_isFrom lX7_120 rfl hW vld_x20 rfl rfl ⟨Nat.le_of_ble_eq_true rfl, Nat.le_of_ble_eq_true rfl⟩ ⟨Nat.zero_le _, Nat.zero_le _⟩ (Nat.le_of_ble_eq_true rfl) ?_
  refine wp_X7_isFrom ?_
  refine ⟨_, rfl, ?_⟩
  refine g_if_ne (tgt := 18) dX7_evenings_8 (by decide) (fun c8 => ?_) (fun c8 => ?_)
  · simp only [b2_0, Decidable.not_not] at c8
    have hin : IN n 25 := by simp only [fromP, IN, zcs] at c8 ⊢; omega
    have hn0 : ¬ n = 0 := fun z => by subst z; simp only [fromP, zcs] at c8; omega
    obtain ⟨k, hke, hk⟩ : ∃ k, n = nI k ∧ k < 25 := ⟨_, (IN_nI hin).1, (IN_nI hin).2⟩
    subst hke
    have hkc : (nI k).toNatClampNeg = k := nI_clamp (by omega)
    refine g_iconst dX7_evenings_18 (v := 0) (by decide) ?_
    refine g_istore_2 dX7_evenings_19 rfl ?_
    refine g_iconst dX7_evenings_20 (v := 0) (by decide) ?_
    refine g_istore_3 dX7_evenings_21 rfl ?_
    have e : opEvenings X (nI k) = (nI (seatSum (xS X) k), setS X (itS (xS X) k)) := by
      unfold opEvenings
      rw [if_neg hn0, if_neg (not_not_intro hin), hkc]
    rw [e] at h
    exact lp_X7_evenings hW hO.1 (by omega) (fun M' hf hR => h _ (frM_DM (hf.mono DP_DM)) (hX.sch (hf.mono DP_DM) hR)) 0 (Nat.zero_le _) M FrI.rf hX.1
  · simp only [b2_0, Decidable.not_not] at c8
    refine g_aloadR_n dX7_evenings_11 rfl rfl ?_
    refine g_bipush dX7_evenings_12 (v := (-6)) (by decide) ?_
    refine n_v1i (n' := 0) dX7_evenings_14 mX7_no lX7_109 rfl hW vld_x20 rfl rfl ⟨Nat.le_of_ble_eq_true rfl, Nat.le_of_ble_eq_true rfl⟩ ⟨Nat.zero_le _, Nat.zero_le _⟩ (Nat.le_of_ble_eq_true rfl) ?_
    refine wp_X7_no (j := 6) (by exact hW) (by decide) (by decide) ?_
    refine ⟨_, rfl, ?_⟩
    refine g_iret dX7_evenings_17 rfl ?_
    have e : opEvenings X n = rfX X 6 := by
      unfold opEvenings
      by_cases z : n = 0
      · rw [if_pos z]
      · rw [if_neg z, if_pos (fun q => c8 ?_)]
        simp only [fromP, IN, ← Int32.toInt_inj, zcs] at *
        omega
    rw [e] at h
    exact h _ (frM_sI (by decide)) (repMo_rfm hX (by decide) (by decide))
theorem RepR.dw {M : Mem} {S : Sc} (h : RepR M S) : RepR (sI (sI M (20, 0, 0) 6 (lkF (mI M (20, 0, 0) 6))) (20, 0, 0) 2 (drF (mI M (20, 0, 0) 6))) (dwS S) := by
  rw [show mI M (20, 0, 0) 6 = S.2.1 6 from h.2.1 6 (by decide) (by decide)]
  exact (h.gl (by decide)).gl (by decide)
set_option maxHeartbeats 4000000 in
set_option maxRecDepth 100000 in
theorem lp_X7_drawn {E : Ev} {M0 : Mem} {Q : QT} (hW0 : Wi M0) {S : Sc} (hO : OkS S) {n : Nat} (hn : n ≤ 24) (h : ∀ M', FrI DM M0 M' → RepR M' (dwI S n) → Q (some (vI (dwT S n))) M') : ∀ j, j ≤ n → ∀ (M : Mem), FrI DM M0 M → RepR M (dwI S j) → G E (rm 4 0 0) kX7_drawn (ZQ E Q 0 0) 0 0 22 [some (vR (20, 0, 0)), some (vI (nI n)), some (vI (dwT S j)), some (vI (nI j))] [] M := by
  refine up_loop n (fun j hj ih M hf hRj => ?_)
  have hW := hf.W hW0
  have hOd := (hO.dwi j).dw
  have hRd := hRj.dw
  refine g_iload_n dX7_drawn_22 rfl rfl ?_
  refine g_iload_n dX7_drawn_23 rfl rfl ?_
  refine g_icmp_ge (tgt := 54) dX7_drawn_24 (by decide) (fun c24 => ?_) (fun c24 => ?_)
  · have hjn2 : j = n := by rw [nI_leI (by omega) (by omega)] at c24; omega
    refine g_iload_n dX7_drawn_54 rfl rfl ?_
    refine g_iret dX7_drawn_55 rfl ?_
    subst hjn2
    exact h M hf hRj
  · have hjn : j < n := by rw [nI_leI (by omega) (by omega)] at c24; omega
    refine g_aloadR_n dX7_drawn_27 rfl rfl ?_
    refine g_aloadR_n dX7_drawn_28 rfl rfl ?_
    refine g_bipush dX7_drawn_29 (v := 10) (by decide) ?_
    refine n_v1i (n' := 0) dX7_drawn_31 mX7_draw lX7_268 rfl hW vld_x20 rfl rfl ⟨Nat.le_of_ble_eq_true rfl, Nat.le_of_ble_eq_true rfl⟩ ⟨Nat.zero_le _, Nat.zero_le _⟩ (Nat.le_of_ble_eq_true rfl) ?_
    refine wp_X7_draw (by exact hW) ?_
    refine ⟨_, rfl, ?_⟩
    refine n_putI dX7_drawn_34 fX7_131 rfl hW vld_x20 rfl ?_
    refine g_aloadR_n dX7_drawn_37 rfl rfl ?_
    refine n_v0v (n' := 3) dX7_drawn_38 mX7_passes lX7_230 rfl hW vld_x20 rfl rfl ⟨Nat.le_of_ble_eq_true rfl, Nat.le_of_ble_eq_true rfl⟩ ⟨Nat.zero_le _, Nat.zero_le _⟩ (Nat.le_of_ble_eq_true rfl) ?_
    refine wp_X7_passes (by exact hW) hRd hOd (fun M2 hf2 hR2 ho2 => ?_)
    have hW2 := hf2.W (by exact hW)
    have e39 : mI M2 (20, 0, 0) 39 = nI (seatSum (dwS (dwI S j)) 1) := ho2.2.2.2.trans (congrArg nI ((tS_eq hOd 0).trans (Nat.zero_add _).symm))
    refine ⟨rfl, ?_⟩
    refine g_iload_n dX7_drawn_41 rfl rfl ?_
    refine g_aloadR_n dX7_drawn_42 rfl rfl ?_
    refine n_getI dX7_drawn_43 fX7_211 rfl hW2 vld_x20 (Or.inl rfl) ?_
    rw [e39]
    refine g_iadd dX7_drawn_46 ?_
    refine g_istore_2 dX7_drawn_47 rfl ?_
    refine g_iinc_3 (v := nI (j + 1)) dX7_drawn_48 rfl (nI_inc j) ?_
    refine g_goto (tgt := 22) dX7_drawn_51 (by decide) ?_
    exact ih hjn _ (((hf.tr (frG (f := 6) (by decide))).tr (frG (f := 2) (by decide))).tr (hf2.mono DP_DM)) hR2
set_option maxHeartbeats 4000000 in
set_option maxRecDepth 100000 in
theorem wp_X7_drawn {E : Ev} {M : Mem} {Q : QT} (hW : Wi M) {X : Sys} (hX : RepMo M X) (hO : OkX X) {n : Int32} (h : ∀ M', FrM M M' → RepMo M' (opDrawn X n).2 → Q (some (vI (opDrawn X n).1)) M') : Mth E 4 0 0 kX7_drawn [vR (20, 0, 0), vI n] M Q := by
  refine mth_of (by decide +kernel) [some (vR (20, 0, 0)), some (vI n), none, none] (Nat.le_of_ble_eq_true rfl) rfl ?_
  refine g_aloadR_n dX7_drawn_0 rfl rfl ?_
  refine g_iload_n dX7_drawn_1 rfl rfl ?_
  refine g_iconst dX7_drawn_2 (v := 1) (by decide) ?_
  refine g_bipush dX7_drawn_3 (v := 24) (by decide) ?_
  refine n_v3i (n' := 0) dX7_drawn_5 mX7_isFrom lX7_120 rfl hW vld_x20 rfl rfl ⟨Nat.le_of_ble_eq_true rfl, Nat.le_of_ble_eq_true rfl⟩ ⟨Nat.zero_le _, Nat.zero_le _⟩ (Nat.le_of_ble_eq_true rfl) ?_
  refine wp_X7_isFrom ?_
  refine ⟨_, rfl, ?_⟩
  refine g_if_ne (tgt := 18) dX7_drawn_8 (by decide) (fun c8 => ?_) (fun c8 => ?_)
  · simp only [b2_0, Decidable.not_not] at c8
    have hin : IN n 25 := by simp only [fromP, IN, zcs] at c8 ⊢; omega
    have hn0 : ¬ n = 0 := fun z => by subst z; simp only [fromP, zcs] at c8; omega
    obtain ⟨k, hke, hk⟩ : ∃ k, n = nI k ∧ k < 25 := ⟨_, (IN_nI hin).1, (IN_nI hin).2⟩
    subst hke
    have hkc : (nI k).toNatClampNeg = k := nI_clamp (by omega)
    refine g_iconst dX7_drawn_18 (v := 0) (by decide) ?_
    refine g_istore_2 dX7_drawn_19 rfl ?_
    refine g_iconst dX7_drawn_20 (v := 0) (by decide) ?_
    refine g_istore_3 dX7_drawn_21 rfl ?_
    have e : opDrawn X (nI k) = (dwT (xS X) k, setS X (dwI (xS X) k)) := by
      unfold opDrawn
      rw [if_neg hn0, if_neg (not_not_intro hin), hkc]
    rw [e] at h
    exact lp_X7_drawn hW hO.1 (by omega) (fun M' hf hR => h _ (frM_DM hf) (hX.sch hf hR)) 0 (Nat.zero_le _) M FrI.rf hX.1
  · simp only [b2_0, Decidable.not_not] at c8
    refine g_aloadR_n dX7_drawn_11 rfl rfl ?_
    refine g_bipush dX7_drawn_12 (v := (-6)) (by decide) ?_
    refine n_v1i (n' := 0) dX7_drawn_14 mX7_no lX7_109 rfl hW vld_x20 rfl rfl ⟨Nat.le_of_ble_eq_true rfl, Nat.le_of_ble_eq_true rfl⟩ ⟨Nat.zero_le _, Nat.zero_le _⟩ (Nat.le_of_ble_eq_true rfl) ?_
    refine wp_X7_no (j := 6) (by exact hW) (by decide) (by decide) ?_
    refine ⟨_, rfl, ?_⟩
    refine g_iret dX7_drawn_17 rfl ?_
    have e : opDrawn X n = rfX X 6 := by
      unfold opDrawn
      by_cases z : n = 0
      · rw [if_pos z]
      · rw [if_neg z, if_pos (fun q => c8 ?_)]
        simp only [fromP, IN, ← Int32.toInt_inj, zcs] at *
        omega
    rw [e] at h
    exact h _ (frM_sI (by decide)) (repMo_rfm hX (by decide) (by decide))
