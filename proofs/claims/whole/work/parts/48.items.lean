/-! THE READER: ITEMS -/
def BoO (L : Tx) (ll : Nat) (wa : Int32) (M M' : Mem) (r : Int32) (x : Nat ⊕ (Sc × Nat)) : Prop := FrI DR M M' ∧ match x with
  | .inl f => r = 0 ∧ mI M' (8, 0, 0) 1 = nI f
  | .inr (S', q) => r = 1 ∧ q ≤ 160 ∧ RdS M' L ll q wa S'
theorem rdN_IN {L : Tx} {ll p n : Nat} {x : Int32} {q : Nat} (ht : TxOk L ll) (hn : n ≤ 10) (h : rdNum L p 0 (nI n - 1) = .inr (x, q)) : IN x n := by
  obtain ⟨-, -, h3, h4⟩ := rdNum_r ht h
  rw [Int32.le_iff_toInt_le] at h3 h4
  have e : (nI n - 1).toInt = (n : Int) - 1 := by
    rw [show (1 : Int32) = nI 1 from rfl, pk_sub_toInt (by omega) (by omega)]; rfl
  have z : (0 : Int32).toInt = 0 := by decide
  exact ⟨by omega, by omega⟩
theorem rdC_IN {L : Tx} {ll p n : Nat} {x : Int32} {q : Nat} (ht : TxOk L ll) (hn : n < 2 ^ 30) (h : rdNum L p 0 (nI n) = .inr (x, q)) : IN x (n + 1) := by
  obtain ⟨-, -, h3, h4⟩ := rdNum_r ht h
  rw [Int32.le_iff_toInt_le] at h3 h4
  have e : (nI n).toInt = (n : Int) := nI_toInt (by omega)
  have z : (0 : Int32).toInt = 0 := by decide
  exact ⟨by omega, by omega⟩
set_option maxHeartbeats 4000000 in
set_option maxRecDepth 100000 in
theorem wp_X3_readPerson {E : Ev} {M : Mem} {Q : QT} (hW : Wi M) {L : Tx} {ll p : Nat} {wa : Int32} {S : Sc} (ht : TxOk L ll) (hr : RdS M L ll p wa S) (hp : p ≤ 160) (hlt : S.1 < 10) (h : ∀ M' r, BoO L ll wa M M' r (rdPer L S p) → Q (some (vI r)) M') : Mth E 3 0 0 kX3_readPerson [vR (8, 0, 0)] M Q := by
  refine mth_of (by decide +kernel) [some (vR (8, 0, 0)), none, none, none, none] (Nat.le_of_ble_eq_true rfl) rfl ?_
  refine g_aloadR_n dX3_readPerson_0 rfl rfl ?_
  refine g_iconst dX3_readPerson_1 (v := 0) (by decide) ?_
  refine g_getsN (t := 0) dX3_readPerson_2 (by decide) sX3_102 ?_
  refine n_alenS (n := 7) dX3_readPerson_5 (by decide) rfl ?_
  refine g_iconst dX3_readPerson_6 (v := 1) (by decide) ?_
  refine g_isub dX3_readPerson_7 ?_
  refine n_v2i (n' := 2) dX3_readPerson_8 mX3_readNumber lX3_105 rfl hW vld_x8 rfl rfl ⟨Nat.le_of_ble_eq_true rfl, Nat.le_of_ble_eq_true rfl⟩ ⟨Nat.zero_le _, Nat.zero_le _⟩ (Nat.le_of_ble_eq_true rfl) ?_
  refine wp_X3_readNumber (by exact hW) ht hr hp (lo := 0) (hi := 6) (fun M1 v1 ho1 => ?_)
  have hW1 := ho1.1.W (by exact hW)
  refine ⟨_, rfl, ?_⟩
  refine g_istore_1 dX3_readPerson_11 rfl ?_
  refine g_iload_n dX3_readPerson_12 rfl rfl ?_
  refine g_iconst dX3_readPerson_13 (v := (-1)) (by decide) ?_
  refine g_icmp_ne (tgt := 21) dX3_readPerson_14 (by decide) (fun c14 => ?_) (fun c14 => ?_)
  · have c14 : ¬ v1 = -1 := by first | exact c14 | exact fun z => c14 z
    obtain ⟨q1, e1, hr1, h51, hq1⟩ := ho1.s ht c14
    refine g_aloadR_n dX3_readPerson_21 rfl rfl ?_
    refine g_iconst dX3_readPerson_22 (v := 0) (by decide) ?_
    refine g_bipush dX3_readPerson_23 (v := 9) (by decide) ?_
    refine n_v2i (n' := 2) dX3_readPerson_25 mX3_readNumber lX3_105 rfl hW1 vld_x8 rfl rfl ⟨Nat.le_of_ble_eq_true rfl, Nat.le_of_ble_eq_true rfl⟩ ⟨Nat.zero_le _, Nat.zero_le _⟩ (Nat.le_of_ble_eq_true rfl) ?_
    refine wp_X3_readNumber (by exact hW1) ht hr1 hq1 (lo := 0) (hi := 9) (fun M2 v2 ho2 => ?_)
    have hW2 := ho2.1.W (by exact hW1)
    refine ⟨_, rfl, ?_⟩
    refine g_istore_2 dX3_readPerson_28 rfl ?_
    refine g_iload_n dX3_readPerson_29 rfl rfl ?_
    refine g_iconst dX3_readPerson_30 (v := (-1)) (by decide) ?_
    refine g_icmp_ne (tgt := 38) dX3_readPerson_31 (by decide) (fun c31 => ?_) (fun c31 => ?_)
    · have c31 : ¬ v2 = -1 := by first | exact c31 | exact fun z => c31 z
      obtain ⟨q2, e2, hr2, h52, hq2⟩ := ho2.s ht c31
      refine g_aloadR_n dX3_readPerson_38 rfl rfl ?_
      refine g_iconst dX3_readPerson_39 (v := 0) (by decide) ?_
      refine g_bipush dX3_readPerson_40 (v := 20) (by decide) ?_
      refine n_v2i (n' := 2) dX3_readPerson_42 mX3_readNumber lX3_105 rfl hW2 vld_x8 rfl rfl ⟨Nat.le_of_ble_eq_true rfl, Nat.le_of_ble_eq_true rfl⟩ ⟨Nat.zero_le _, Nat.zero_le _⟩ (Nat.le_of_ble_eq_true rfl) ?_
      refine wp_X3_readNumber (by exact hW2) ht hr2 hq2 (lo := 0) (hi := 20) (fun M3 v3 ho3 => ?_)
      have hW3 := ho3.1.W (by exact hW2)
      refine ⟨_, rfl, ?_⟩
      refine g_istore_3 dX3_readPerson_45 rfl ?_
      refine g_iload_n dX3_readPerson_46 rfl rfl ?_
      refine g_iconst dX3_readPerson_47 (v := (-1)) (by decide) ?_
      refine g_icmp_ne (tgt := 55) dX3_readPerson_48 (by decide) (fun c48 => ?_) (fun c48 => ?_)
      · have c48 : ¬ v3 = -1 := by first | exact c48 | exact fun z => c48 z
        obtain ⟨q3, e3, hr3, h53, hq3⟩ := ho3.s ht c48
        refine g_aloadR_n dX3_readPerson_55 rfl rfl ?_
        refine g_iconst dX3_readPerson_56 (v := 0) (by decide) ?_
        refine g_iconst dX3_readPerson_57 (v := 1) (by decide) ?_
        refine n_v2i (n' := 2) dX3_readPerson_58 mX3_readNumber lX3_105 rfl hW3 vld_x8 rfl rfl ⟨Nat.le_of_ble_eq_true rfl, Nat.le_of_ble_eq_true rfl⟩ ⟨Nat.zero_le _, Nat.zero_le _⟩ (Nat.le_of_ble_eq_true rfl) ?_
        refine wp_X3_readNumber (by exact hW3) ht hr3 hq3 (lo := 0) (hi := 1) (fun M4 v4 ho4 => ?_)
        have hW4 := ho4.1.W (by exact hW3)
        refine ⟨_, rfl, ?_⟩
        refine g_istore_4 dX3_readPerson_61 rfl ?_
        refine g_iload dX3_readPerson_63 rfl ?_
        refine g_iconst dX3_readPerson_65 (v := (-1)) (by decide) ?_
        refine g_icmp_ne (tgt := 71) dX3_readPerson_66 (by decide) (fun c66 => ?_) (fun c66 => ?_)
        · have c66 : ¬ v4 = -1 := by first | exact c66 | exact fun z => c66 z
          obtain ⟨q4, e4, hr4, h54, hq4⟩ := ho4.s ht c66
          refine g_aloadR_n dX3_readPerson_71 rfl rfl ?_
          refine n_getR dX3_readPerson_72 fX3_12 rfl hW4 vld_x8 rfl rfl ?_
          refine g_iload_n dX3_readPerson_75 rfl rfl ?_
          refine g_iload_n dX3_readPerson_76 rfl rfl ?_
          refine g_iload_n dX3_readPerson_77 rfl rfl ?_
          refine g_iload dX3_readPerson_78 rfl ?_
          refine g_iconst dX3_readPerson_80 (v := 1) (by decide) ?_
          refine g_icmp_ne (tgt := 88) dX3_readPerson_81 (by decide) (fun c81 => ?_) (fun c81 => ?_)
          · refine g_iconst dX3_readPerson_88 (v := 0) (by decide) ?_
            refine n_v4i (n' := 1) dX3_readPerson_89 mX4_enrol lX3_109 rfl hW4 (vld_sc (by decide : 3 < 4)) rfl rfl ⟨Nat.le_of_ble_eq_true rfl, Nat.le_of_ble_eq_true rfl⟩ ⟨Nat.zero_le _, Nat.zero_le _⟩ (Nat.le_of_ble_eq_true rfl) ?_
            have hz := rdC_IN (n := 1) ht (by decide) e4
            have ez : v4 = 0 := by
              simp only [← Int32.toInt_inj, zcs] at c81 ⊢
              have hz1 := hz.1
              have hz2 := hz.2
              omega
            refine wp_X4_enrol (by exact hW4) (by decide : 3 < 4) (kd := v1) (a := v2) (ow := v3) (pd := 0) hr4.2.2.2.2 hlt (by decide) (fun M5 hf5 hR5 => ?_)
            rw [← ez] at hR5
            refine ⟨_, rfl, ?_⟩
            refine g_pop dX3_readPerson_92 rfl ?_
            refine g_iconst dX3_readPerson_93 (v := 1) (by decide) ?_
            refine g_zret dX3_readPerson_94 rfl (Or.inr rfl) ?_
            have e : rdPer L S p = .inr (enrS S v1 v2 v3 v4, q4) := by unfold rdPer; simp only [e1, e2, e3, e4]
            exact h _ _ ⟨((((ho1.1.tr ho2.1).tr ho3.1).tr ho4.1)).tr (hf5.mono Dk3_DR), by rw [e]; exact ⟨rfl, hq4, hr4.sc hf5 hR5⟩⟩
          · refine g_iconst dX3_readPerson_84 (v := 1) (by decide) ?_
            refine g_goto (tgt := 89) dX3_readPerson_85 (by decide) ?_
            refine n_v4i (n' := 1) dX3_readPerson_89 mX4_enrol lX3_109 rfl hW4 (vld_sc (by decide : 3 < 4)) rfl rfl ⟨Nat.le_of_ble_eq_true rfl, Nat.le_of_ble_eq_true rfl⟩ ⟨Nat.zero_le _, Nat.zero_le _⟩ (Nat.le_of_ble_eq_true rfl) ?_
            have hz := rdC_IN (n := 1) ht (by decide) e4
            have ez : v4 = 1 := by
              simp only [← Int32.toInt_inj, zcs] at c81 ⊢
              have hz1 := hz.1
              have hz2 := hz.2
              omega
            refine wp_X4_enrol (by exact hW4) (by decide : 3 < 4) (kd := v1) (a := v2) (ow := v3) (pd := 1) hr4.2.2.2.2 hlt (by decide) (fun M5 hf5 hR5 => ?_)
            rw [← ez] at hR5
            refine ⟨_, rfl, ?_⟩
            refine g_pop dX3_readPerson_92 rfl ?_
            refine g_iconst dX3_readPerson_93 (v := 1) (by decide) ?_
            refine g_zret dX3_readPerson_94 rfl (Or.inr rfl) ?_
            have e : rdPer L S p = .inr (enrS S v1 v2 v3 v4, q4) := by unfold rdPer; simp only [e1, e2, e3, e4]
            exact h _ _ ⟨((((ho1.1.tr ho2.1).tr ho3.1).tr ho4.1)).tr (hf5.mono Dk3_DR), by rw [e]; exact ⟨rfl, hq4, hr4.sc hf5 hR5⟩⟩
        · have c66 : v4 = -1 := by first | exact c66 | exact Decidable.not_not.mp c66
          obtain ⟨f, e4, hwr⟩ := ho4.f ht (by decide) c66
          refine g_iconst dX3_readPerson_69 (v := 0) (by decide) ?_
          refine g_zret dX3_readPerson_70 rfl (Or.inl rfl) ?_
          have e : rdPer L S p = .inl f := by unfold rdPer; simp only [e1, e2, e3, e4]
          exact h _ _ ⟨(((ho1.1.tr ho2.1).tr ho3.1).tr ho4.1), by rw [e]; exact ⟨rfl, hwr⟩⟩
      · have c48 : v3 = -1 := by first | exact c48 | exact Decidable.not_not.mp c48
        obtain ⟨f, e3, hwr⟩ := ho3.f ht (by decide) c48
        refine g_iconst dX3_readPerson_51 (v := (-1)) (by decide) ?_
        refine g_goto (tgt := 61) dX3_readPerson_52 (by decide) ?_
        refine g_istore_4 dX3_readPerson_61 rfl ?_
        refine g_iload dX3_readPerson_63 rfl ?_
        refine g_iconst dX3_readPerson_65 (v := (-1)) (by decide) ?_
        refine g_icmp_ne (tgt := 71) dX3_readPerson_66 (by decide) (fun c66 => ?_) (fun c66 => ?_)
        · exact absurd c66 (by decide)
        · refine g_iconst dX3_readPerson_69 (v := 0) (by decide) ?_
          refine g_zret dX3_readPerson_70 rfl (Or.inl rfl) ?_
          have e : rdPer L S p = .inl f := by unfold rdPer; simp only [e1, e2, e3]
          exact h _ _ ⟨((ho1.1.tr ho2.1).tr ho3.1), by rw [e]; exact ⟨rfl, hwr⟩⟩
    · have c31 : v2 = -1 := by first | exact c31 | exact Decidable.not_not.mp c31
      obtain ⟨f, e2, hwr⟩ := ho2.f ht (by decide) c31
      refine g_iconst dX3_readPerson_34 (v := (-1)) (by decide) ?_
      refine g_goto (tgt := 45) dX3_readPerson_35 (by decide) ?_
      refine g_istore_3 dX3_readPerson_45 rfl ?_
      refine g_iload_n dX3_readPerson_46 rfl rfl ?_
      refine g_iconst dX3_readPerson_47 (v := (-1)) (by decide) ?_
      refine g_icmp_ne (tgt := 55) dX3_readPerson_48 (by decide) (fun c48 => ?_) (fun c48 => ?_)
      · exact absurd c48 (by decide)
      · refine g_iconst dX3_readPerson_51 (v := (-1)) (by decide) ?_
        refine g_goto (tgt := 61) dX3_readPerson_52 (by decide) ?_
        refine g_istore_4 dX3_readPerson_61 rfl ?_
        refine g_iload dX3_readPerson_63 rfl ?_
        refine g_iconst dX3_readPerson_65 (v := (-1)) (by decide) ?_
        refine g_icmp_ne (tgt := 71) dX3_readPerson_66 (by decide) (fun c66 => ?_) (fun c66 => ?_)
        · exact absurd c66 (by decide)
        · refine g_iconst dX3_readPerson_69 (v := 0) (by decide) ?_
          refine g_zret dX3_readPerson_70 rfl (Or.inl rfl) ?_
          have e : rdPer L S p = .inl f := by unfold rdPer; simp only [e1, e2]
          exact h _ _ ⟨(ho1.1.tr ho2.1), by rw [e]; exact ⟨rfl, hwr⟩⟩
  · have c14 : v1 = -1 := by first | exact c14 | exact Decidable.not_not.mp c14
    obtain ⟨f, e1, hwr⟩ := ho1.f ht (by decide) c14
    refine g_iconst dX3_readPerson_17 (v := (-1)) (by decide) ?_
    refine g_goto (tgt := 28) dX3_readPerson_18 (by decide) ?_
    refine g_istore_2 dX3_readPerson_28 rfl ?_
    refine g_iload_n dX3_readPerson_29 rfl rfl ?_
    refine g_iconst dX3_readPerson_30 (v := (-1)) (by decide) ?_
    refine g_icmp_ne (tgt := 38) dX3_readPerson_31 (by decide) (fun c31 => ?_) (fun c31 => ?_)
    · exact absurd c31 (by decide)
    · refine g_iconst dX3_readPerson_34 (v := (-1)) (by decide) ?_
      refine g_goto (tgt := 45) dX3_readPerson_35 (by decide) ?_
      refine g_istore_3 dX3_readPerson_45 rfl ?_
      refine g_iload_n dX3_readPerson_46 rfl rfl ?_
      refine g_iconst dX3_readPerson_47 (v := (-1)) (by decide) ?_
      refine g_icmp_ne (tgt := 55) dX3_readPerson_48 (by decide) (fun c48 => ?_) (fun c48 => ?_)
      · exact absurd c48 (by decide)
      · refine g_iconst dX3_readPerson_51 (v := (-1)) (by decide) ?_
        refine g_goto (tgt := 61) dX3_readPerson_52 (by decide) ?_
        refine g_istore_4 dX3_readPerson_61 rfl ?_
        refine g_iload dX3_readPerson_63 rfl ?_
        refine g_iconst dX3_readPerson_65 (v := (-1)) (by decide) ?_
        refine g_icmp_ne (tgt := 71) dX3_readPerson_66 (by decide) (fun c66 => ?_) (fun c66 => ?_)
        · exact absurd c66 (by decide)
        · refine g_iconst dX3_readPerson_69 (v := 0) (by decide) ?_
          refine g_zret dX3_readPerson_70 rfl (Or.inl rfl) ?_
          have e : rdPer L S p = .inl f := by unfold rdPer; simp only [e1]
          exact h _ _ ⟨ho1.1, by rw [e]; exact ⟨rfl, hwr⟩⟩
set_option maxHeartbeats 4000000 in
set_option maxRecDepth 100000 in
theorem wp_X3_readFriend {E : Ev} {M : Mem} {Q : QT} (hW : Wi M) {L : Tx} {ll p : Nat} {wa : Int32} {S : Sc} (ht : TxOk L ll) (hr : RdS M L ll p wa S) (hp : p ≤ 160) (hn : S.1 ≤ 10) (h : ∀ M' r, BoO L ll wa M M' r (rdFri L S p) → Q (some (vI r)) M') : Mth E 3 0 0 kX3_readFriend [vR (8, 0, 0)] M Q := by
  refine mth_of (by decide +kernel) [some (vR (8, 0, 0)), none, none] (Nat.le_of_ble_eq_true rfl) rfl ?_
  refine g_aloadR_n dX3_readFriend_0 rfl rfl ?_
  refine g_iconst dX3_readFriend_1 (v := 0) (by decide) ?_
  refine g_aloadR_n dX3_readFriend_2 rfl rfl ?_
  refine n_getR dX3_readFriend_3 fX3_12 rfl hW vld_x8 rfl rfl ?_
  refine n_getI dX3_readFriend_6 fX3_113 rfl hW (vld_sc (by decide : 3 < 4)) (Or.inl rfl) ?_
  rw [show mI M (1, 3, 0) 2 = nI S.1 from hr.2.2.2.2.1]
  refine g_iconst dX3_readFriend_9 (v := 1) (by decide) ?_
  refine g_isub dX3_readFriend_10 ?_
  refine n_v2i (n' := 2) dX3_readFriend_11 mX3_readNumber lX3_105 rfl hW vld_x8 rfl rfl ⟨Nat.le_of_ble_eq_true rfl, Nat.le_of_ble_eq_true rfl⟩ ⟨Nat.zero_le _, Nat.zero_le _⟩ (Nat.le_of_ble_eq_true rfl) ?_
  refine wp_X3_readNumber (by exact hW) ht hr hp (lo := 0) (hi := nI S.1 - 1) (fun M1 v1 ho1 => ?_)
  have hW1 := ho1.1.W (by exact hW)
  refine ⟨_, rfl, ?_⟩
  refine g_istore_1 dX3_readFriend_14 rfl ?_
  refine g_iload_n dX3_readFriend_15 rfl rfl ?_
  refine g_iconst dX3_readFriend_16 (v := (-1)) (by decide) ?_
  refine g_icmp_ne (tgt := 24) dX3_readFriend_17 (by decide) (fun c17 => ?_) (fun c17 => ?_)
  · have c17 : ¬ v1 = -1 := by first | exact c17 | exact fun z => c17 z
    obtain ⟨q1, e1, hr1, h51, hq1⟩ := ho1.s ht c17
    refine g_aloadR_n dX3_readFriend_24 rfl rfl ?_
    refine g_iconst dX3_readFriend_25 (v := 0) (by decide) ?_
    refine g_aloadR_n dX3_readFriend_26 rfl rfl ?_
    refine n_getR dX3_readFriend_27 fX3_12 rfl hW1 vld_x8 rfl rfl ?_
    refine n_getI dX3_readFriend_30 fX3_113 rfl hW1 (vld_sc (by decide : 3 < 4)) (Or.inl rfl) ?_
    rw [show mI M1 (1, 3, 0) 2 = nI S.1 from hr1.2.2.2.2.1]
    refine g_iconst dX3_readFriend_33 (v := 1) (by decide) ?_
    refine g_isub dX3_readFriend_34 ?_
    refine n_v2i (n' := 2) dX3_readFriend_35 mX3_readNumber lX3_105 rfl hW1 vld_x8 rfl rfl ⟨Nat.le_of_ble_eq_true rfl, Nat.le_of_ble_eq_true rfl⟩ ⟨Nat.zero_le _, Nat.zero_le _⟩ (Nat.le_of_ble_eq_true rfl) ?_
    refine wp_X3_readNumber (by exact hW1) ht hr1 hq1 (lo := 0) (hi := nI S.1 - 1) (fun M2 v2 ho2 => ?_)
    have hW2 := ho2.1.W (by exact hW1)
    refine ⟨_, rfl, ?_⟩
    refine g_istore_2 dX3_readFriend_38 rfl ?_
    refine g_iload_n dX3_readFriend_39 rfl rfl ?_
    refine g_iconst dX3_readFriend_40 (v := (-1)) (by decide) ?_
    refine g_icmp_ne (tgt := 46) dX3_readFriend_41 (by decide) (fun c41 => ?_) (fun c41 => ?_)
    · have c41 : ¬ v2 = -1 := by first | exact c41 | exact fun z => c41 z
      obtain ⟨q2, e2, hr2, h52, hq2⟩ := ho2.s ht c41
      refine g_iload_n dX3_readFriend_46 rfl rfl ?_
      refine g_iload_n dX3_readFriend_47 rfl rfl ?_
      refine g_icmp_ne (tgt := 60) dX3_readFriend_48 (by decide) (fun c48 => ?_) (fun c48 => ?_)
      · refine g_aloadR_n dX3_readFriend_60 rfl rfl ?_
        refine n_getR dX3_readFriend_61 fX3_12 rfl hW2 vld_x8 rfl rfl ?_
        refine g_iload_n dX3_readFriend_64 rfl rfl ?_
        refine n_v1r (n' := 0) dX3_readFriend_65 mX4_one lX3_119 rfl hW2 (vld_sc (by decide : 3 < 4)) rfl rfl ⟨Nat.le_of_ble_eq_true rfl, Nat.le_of_ble_eq_true rfl⟩ ⟨Nat.zero_le _, Nat.zero_le _⟩ (Nat.le_of_ble_eq_true rfl) ?_
        have hi1 := IN_nI (rdN_IN ht hn e1)
        rw [hi1.1]
        refine wp_X4_oneN (by exact hW2) (by decide : 3 < 4) (show v1.toNatClampNeg < 10 by have := hi1.2; omega) ?_
        refine ⟨_, rfl, ?_⟩
        refine g_iload_n dX3_readFriend_68 rfl rfl ?_
        refine n_putI dX3_readFriend_69 fX3_123 rfl hW2 (vld_pe (by decide : 3 < 4) (show v1.toNatClampNeg < 11 by have := hi1.2; omega)) rfl ?_
        refine g_iconst dX3_readFriend_72 (v := 1) (by decide) ?_
        refine g_zret dX3_readFriend_73 rfl (Or.inr rfl) ?_
        have e : rdFri L S p = .inr (upS S v1.toNatClampNeg 4 v2, q2) := by unfold rdFri; simp only [e1, e2]; rw [if_neg c48]
        exact h _ _ ⟨((ho1.1.tr ho2.1)).tr (frDk2.mono Dk3_DR), by rw [e]; exact ⟨rfl, hq2, hr2.sc frDk2 hr2.2.2.2.2.upP⟩⟩
      · refine g_aloadR_n dX3_readFriend_51 rfl rfl ?_
        refine g_aloadR_n dX3_readFriend_52 rfl rfl ?_
        refine n_getI dX3_readFriend_53 fX3_116 rfl hW2 vld_x8 (Or.inl rfl) ?_
        rw [h52]
        refine n_v1i (n' := 0) dX3_readFriend_56 mX3_fail lX3_58 rfl hW2 vld_x8 rfl rfl ⟨Nat.le_of_ble_eq_true rfl, Nat.le_of_ble_eq_true rfl⟩ ⟨Nat.zero_le _, Nat.zero_le _⟩ (Nat.le_of_ble_eq_true rfl) ?_
        refine wp_X3_fail (by exact hW2) ?_
        refine ⟨_, rfl, ?_⟩
        refine g_zret dX3_readFriend_59 rfl (Or.inl rfl) ?_
        have c48 : v2 = v1 := by first | exact c48 | exact Decidable.not_not.mp c48
        have e : rdFri L S p = .inl (q1 + 1) := by unfold rdFri; simp only [e1, e2]; rw [if_pos c48]
        exact h _ _ ⟨((ho1.1.tr ho2.1)).tr fr8, by rw [e]; exact ⟨rfl, by simp [mI, sI]⟩⟩
    · have c41 : v2 = -1 := by first | exact c41 | exact Decidable.not_not.mp c41
      obtain ⟨f, e2, hwr⟩ := ho2.f ht (by decide) c41
      refine g_iconst dX3_readFriend_44 (v := 0) (by decide) ?_
      refine g_zret dX3_readFriend_45 rfl (Or.inl rfl) ?_
      have e : rdFri L S p = .inl f := by unfold rdFri; simp only [e1, e2]
      exact h _ _ ⟨(ho1.1.tr ho2.1), by rw [e]; exact ⟨rfl, hwr⟩⟩
  · have c17 : v1 = -1 := by first | exact c17 | exact Decidable.not_not.mp c17
    obtain ⟨f, e1, hwr⟩ := ho1.f ht (by decide) c17
    refine g_iconst dX3_readFriend_20 (v := (-1)) (by decide) ?_
    refine g_goto (tgt := 38) dX3_readFriend_21 (by decide) ?_
    refine g_istore_2 dX3_readFriend_38 rfl ?_
    refine g_iload_n dX3_readFriend_39 rfl rfl ?_
    refine g_iconst dX3_readFriend_40 (v := (-1)) (by decide) ?_
    refine g_icmp_ne (tgt := 46) dX3_readFriend_41 (by decide) (fun c41 => ?_) (fun c41 => ?_)
    · exact absurd c41 (by decide)
    · refine g_iconst dX3_readFriend_44 (v := 0) (by decide) ?_
      refine g_zret dX3_readFriend_45 rfl (Or.inl rfl) ?_
      have e : rdFri L S p = .inl f := by unfold rdFri; simp only [e1]
      exact h _ _ ⟨ho1.1, by rw [e]; exact ⟨rfl, hwr⟩⟩
set_option maxHeartbeats 4000000 in
set_option maxRecDepth 100000 in
theorem wp_X3_readGone {E : Ev} {M : Mem} {Q : QT} (hW : Wi M) {L : Tx} {ll p : Nat} {wa : Int32} {S : Sc} (ht : TxOk L ll) (hr : RdS M L ll p wa S) (hp : p ≤ 160) (hn : S.1 ≤ 10) (h : ∀ M' r, BoO L ll wa M M' r (rdGon L S p) → Q (some (vI r)) M') : Mth E 3 0 0 kX3_readGone [vR (8, 0, 0)] M Q := by
  refine mth_of (by decide +kernel) [some (vR (8, 0, 0)), none] (Nat.le_of_ble_eq_true rfl) rfl ?_
  refine g_aloadR_n dX3_readGone_0 rfl rfl ?_
  refine g_iconst dX3_readGone_1 (v := 0) (by decide) ?_
  refine g_aloadR_n dX3_readGone_2 rfl rfl ?_
  refine n_getR dX3_readGone_3 fX3_12 rfl hW vld_x8 rfl rfl ?_
  refine n_getI dX3_readGone_6 fX3_113 rfl hW (vld_sc (by decide : 3 < 4)) (Or.inl rfl) ?_
  rw [show mI M (1, 3, 0) 2 = nI S.1 from hr.2.2.2.2.1]
  refine g_iconst dX3_readGone_9 (v := 1) (by decide) ?_
  refine g_isub dX3_readGone_10 ?_
  refine n_v2i (n' := 2) dX3_readGone_11 mX3_readNumber lX3_105 rfl hW vld_x8 rfl rfl ⟨Nat.le_of_ble_eq_true rfl, Nat.le_of_ble_eq_true rfl⟩ ⟨Nat.zero_le _, Nat.zero_le _⟩ (Nat.le_of_ble_eq_true rfl) ?_
  refine wp_X3_readNumber (by exact hW) ht hr hp (lo := 0) (hi := nI S.1 - 1) (fun M1 v1 ho1 => ?_)
  have hW1 := ho1.1.W (by exact hW)
  refine ⟨_, rfl, ?_⟩
  refine g_istore_1 dX3_readGone_14 rfl ?_
  refine g_iload_n dX3_readGone_15 rfl rfl ?_
  refine g_iconst dX3_readGone_16 (v := (-1)) (by decide) ?_
  refine g_icmp_ne (tgt := 22) dX3_readGone_17 (by decide) (fun c17 => ?_) (fun c17 => ?_)
  · have c17 : ¬ v1 = -1 := by first | exact c17 | exact fun z => c17 z
    obtain ⟨q1, e1, hr1, h51, hq1⟩ := ho1.s ht c17
    refine g_aloadR_n dX3_readGone_22 rfl rfl ?_
    refine n_getR dX3_readGone_23 fX3_12 rfl hW1 vld_x8 rfl rfl ?_
    refine g_iload_n dX3_readGone_26 rfl rfl ?_
    refine n_v1r (n' := 0) dX3_readGone_27 mX4_one lX3_119 rfl hW1 (vld_sc (by decide : 3 < 4)) rfl rfl ⟨Nat.le_of_ble_eq_true rfl, Nat.le_of_ble_eq_true rfl⟩ ⟨Nat.zero_le _, Nat.zero_le _⟩ (Nat.le_of_ble_eq_true rfl) ?_
    have hi1 := IN_nI (rdN_IN ht hn e1)
    rw [hi1.1]
    refine wp_X4_oneN (by exact hW1) (by decide : 3 < 4) (show v1.toNatClampNeg < 10 by have := hi1.2; omega) ?_
    refine ⟨_, rfl, ?_⟩
    refine g_iconst dX3_readGone_30 (v := 1) (by decide) ?_
    refine n_putZ dX3_readGone_31 fX3_128 rfl hW1 (vld_pe (by decide : 3 < 4) (show v1.toNatClampNeg < 11 by have := hi1.2; omega)) rfl (Or.inr rfl) ?_
    refine g_iconst dX3_readGone_34 (v := 1) (by decide) ?_
    refine g_zret dX3_readGone_35 rfl (Or.inr rfl) ?_
    have e : rdGon L S p = .inr (upS S v1.toNatClampNeg 8 1, q1) := by unfold rdGon; simp only [e1]
    exact h _ _ ⟨ho1.1.tr (frDk2.mono Dk3_DR), by rw [e]; exact ⟨rfl, hq1, hr1.sc frDk2 hr1.2.2.2.2.upP⟩⟩
  · have c17 : v1 = -1 := by first | exact c17 | exact Decidable.not_not.mp c17
    obtain ⟨f, e1, hwr⟩ := ho1.f ht (by decide) c17
    refine g_iconst dX3_readGone_20 (v := 0) (by decide) ?_
    refine g_zret dX3_readGone_21 rfl (Or.inl rfl) ?_
    have e : rdGon L S p = .inl f := by unfold rdGon; simp only [e1]
    exact h _ _ ⟨ho1.1, by rw [e]; exact ⟨rfl, hwr⟩⟩
theorem lo_hi : ∀ w, w < 4 → 0 ≤ (lo_ (nI w)).toInt := by decide +kernel
set_option maxHeartbeats 4000000 in
set_option maxRecDepth 100000 in
theorem wp_X3_readSetting {E : Ev} {M : Mem} {Q : QT} (hW : Wi M) {L : Tx} {ll p : Nat} {wa : Int32} {S : Sc} (ht : TxOk L ll) (hr : RdS M L ll p wa S) (hp : p ≤ 160) (hn : S.1 ≤ 10) {w : Nat} (hw : w < 4) (h : ∀ M' r, BoO L ll wa M M' r (rdSet L S w p) → Q (some (vI r)) M') : Mth E 3 0 0 kX3_readSetting [vR (8, 0, 0), vI (nI w)] M Q := by
  refine mth_of (by decide +kernel) [some (vR (8, 0, 0)), some (vI (nI w)), none] (Nat.le_of_ble_eq_true rfl) rfl ?_
  refine g_aloadR_n dX3_readSetting_0 rfl rfl ?_
  refine g_iload_n dX3_readSetting_1 rfl rfl ?_
  refine n_n1i (n' := 0) dX3_readSetting_2 mX6_leastOf lX3_131 ⟨Nat.le_of_ble_eq_true rfl, Nat.le_of_ble_eq_true rfl⟩ ⟨Nat.zero_le _, Nat.zero_le _⟩ (Nat.le_of_ble_eq_true rfl) ?_
  refine wp_X6_leastOf ?_
  refine ⟨_, rfl, ?_⟩
  refine g_iload_n dX3_readSetting_5 rfl rfl ?_
  refine n_n1i (n' := 0) dX3_readSetting_6 mX6_mostOf lX3_134 ⟨Nat.le_of_ble_eq_true rfl, Nat.le_of_ble_eq_true rfl⟩ ⟨Nat.zero_le _, Nat.zero_le _⟩ (Nat.le_of_ble_eq_true rfl) ?_
  refine wp_X6_mostOf ?_
  refine ⟨_, rfl, ?_⟩
  refine n_v2i (n' := 2) dX3_readSetting_9 mX3_readNumber lX3_105 rfl hW vld_x8 rfl rfl ⟨Nat.le_of_ble_eq_true rfl, Nat.le_of_ble_eq_true rfl⟩ ⟨Nat.zero_le _, Nat.zero_le _⟩ (Nat.le_of_ble_eq_true rfl) ?_
  refine wp_X3_readNumber (by exact hW) ht hr hp (lo := lo_ (nI w)) (hi := hi_ (nI w)) (fun M1 v1 ho1 => ?_)
  have hW3 := ho1.1.W (by exact hW)
  refine ⟨_, rfl, ?_⟩
  refine g_istore_2 dX3_readSetting_12 rfl ?_
  refine g_iload_n dX3_readSetting_13 rfl rfl ?_
  refine g_iconst dX3_readSetting_14 (v := (-1)) (by decide) ?_
  refine g_icmp_ne (tgt := 20) dX3_readSetting_15 (by decide) (fun c15 => ?_) (fun c15 => ?_)
  · have c15 : ¬ v1 = -1 := by first | exact c15 | exact fun z => c15 z
    obtain ⟨q1, e1, hr1, h51, hq1⟩ := ho1.s ht c15
    refine g_aloadR_n dX3_readSetting_20 rfl rfl ?_
    refine n_getR dX3_readSetting_21 fX3_12 rfl hW3 vld_x8 rfl rfl ?_
    refine g_iload_n dX3_readSetting_24 rfl rfl ?_
    refine g_iload_n dX3_readSetting_25 rfl rfl ?_
    refine n_v2v (n' := 0) dX3_readSetting_26 mX4_settle lX3_137 rfl hW3 (vld_sc (by decide : 3 < 4)) rfl rfl ⟨Nat.le_of_ble_eq_true rfl, Nat.le_of_ble_eq_true rfl⟩ ⟨Nat.zero_le _, Nat.zero_le _⟩ (Nat.le_of_ble_eq_true rfl) ?_
    refine wp_X4_settle (w := w) (by exact hW3) (by decide : 3 < 4) hw ?_
    refine ⟨rfl, ?_⟩
    refine g_iconst dX3_readSetting_29 (v := 1) (by decide) ?_
    refine g_zret dX3_readSetting_30 rfl (Or.inr rfl) ?_
    have e : rdSet L S w p = .inr (gS S (w + 1) v1, q1) := by unfold rdSet; simp only [e1]
    exact h _ _ ⟨ho1.1.tr (frDk1.mono Dk3_DR), by rw [e]; exact ⟨rfl, hq1, hr1.sc frDk1 (hr1.2.2.2.2.upG (j := w + 1) (by omega))⟩⟩
  · have c15 : v1 = -1 := by first | exact c15 | exact Decidable.not_not.mp c15
    obtain ⟨f, e1, hwr⟩ := ho1.f ht (lo_hi w hw) c15
    refine g_iconst dX3_readSetting_18 (v := 0) (by decide) ?_
    refine g_zret dX3_readSetting_19 rfl (Or.inl rfl) ?_
    have e : rdSet L S w p = .inl f := by unfold rdSet; simp only [e1]
    exact h _ _ ⟨ho1.1, by rw [e]; exact ⟨rfl, hwr⟩⟩
theorem BoO.tr {L : Tx} {ll : Nat} {wa : Int32} {M M1 M' : Mem} {r : Int32} {x : Nat ⊕ (Sc × Nat)} (hf : FrI DR M M1) (h : BoO L ll wa M1 M' r x) : BoO L ll wa M M' r x := ⟨hf.tr h.1, h.2⟩
theorem BoO.z {L : Tx} {ll : Nat} {wa : Int32} {M M' : Mem} {r : Int32} {x : Nat ⊕ (Sc × Nat)} (h : BoO L ll wa M M' r x) : r = 0 ∨ r = 1 := by
  cases x with
  | inl f => exact Or.inl h.2.1
  | inr z => obtain ⟨S', q⟩ := z; exact Or.inr h.2.1
theorem WdO.s {L : Tx} {ll p : Nat} {wa : Int32} {S : Sc} {M M' : Mem} {v : Int32} (h : WdO L ll p wa S M M' v) (hv : ¬ v = -1) : ∃ w q, rdWord L p = .inr (w, q) ∧ v = nI w ∧ w < 7 ∧ q ≤ 160 ∧ RdS M' L ll q wa S := by
  obtain ⟨-, h⟩ := h
  cases e : rdWord L p with
  | inl f => rw [e] at h; exact absurd h.1 hv
  | inr z => obtain ⟨w, q⟩ := z; rw [e] at h; exact ⟨w, q, rfl, h⟩
theorem WdO.f {L : Tx} {ll p : Nat} {wa : Int32} {S : Sc} {M M' : Mem} {v : Int32} (h : WdO L ll p wa S M M' v) (hv : v = -1) : ∃ f, rdWord L p = .inl f ∧ mI M' (8, 0, 0) 1 = nI f := by
  obtain ⟨-, h⟩ := h
  cases e : rdWord L p with
  | inl f => rw [e] at h; exact ⟨f, rfl, h.2⟩
  | inr z =>
    obtain ⟨w, q⟩ := z; rw [e] at h
    have h1 := nI_toInt (n := w) (by have := h.2.1; omega)
    rw [← h.1, hv] at h1
    have h2 : (-1 : Int32).toInt = -1 := by decide
    exfalso; omega
set_option maxHeartbeats 4000000 in
set_option maxRecDepth 100000 in
theorem wp_X3_readItem {E : Ev} {M : Mem} {Q : QT} (hW : Wi M) {L : Tx} {ll p : Nat} {wa : Int32} {S : Sc} (ht : TxOk L ll) (hr : RdS M L ll p wa S) (hp : p ≤ 160) (hn : S.1 ≤ 10) (h : ∀ M' r, BoO L ll wa M M' r (rdItem L S p) → Q (some (vI r)) M') : Mth E 5 0 0 kX3_readItem [vR (8, 0, 0)] M Q := by
  refine mth_of (by decide +kernel) [some (vR (8, 0, 0)), none, none] (Nat.le_of_ble_eq_true rfl) rfl ?_
  refine g_aloadR_n dX3_readItem_0 rfl rfl ?_
  refine n_getI dX3_readItem_1 fX3_40 rfl hW vld_x8 (Or.inl rfl) ?_
  rw [hr.1]
  refine g_istore_1 dX3_readItem_4 rfl ?_
  refine g_aloadR_n dX3_readItem_5 rfl rfl ?_
  refine n_v0i (n' := 4) dX3_readItem_6 mX3_readWord lX3_51 rfl hW vld_x8 rfl rfl ⟨Nat.le_of_ble_eq_true rfl, Nat.le_of_ble_eq_true rfl⟩ ⟨Nat.zero_le _, Nat.zero_le _⟩ (Nat.le_of_ble_eq_true rfl) ?_
  refine wp_X3_readWord (by exact hW) ht hr hp (fun M1 v1 ho1 => ?_)
  have hW1 := ho1.1.W (by exact hW)
  refine ⟨_, rfl, ?_⟩
  refine g_istore_2 dX3_readItem_9 rfl ?_
  refine g_iload_n dX3_readItem_10 rfl rfl ?_
  refine g_top (fun y11 e11 => ?_)
  by_cases s11_0 : y11 = -1
  · refine g_tableIn (tgt := 40) dX3_readItem_11 (by rw [s11_0]; decide) (by rw [s11_0]; decide) (o := 29) (by rw [s11_0]; decide) (by decide) ?_
    obtain ⟨f, e1, hwr⟩ := ho1.f (by rw [← e11, s11_0])
    refine g_iconst dX3_readItem_40 (v := 0) (by decide) ?_
    refine g_zret dX3_readItem_41 rfl (Or.inl rfl) ?_
    have e : rdItem L S p = .inl f := by unfold rdItem; rw [e1]
    exact h _ _ ⟨ho1.1, by rw [e]; exact ⟨rfl, hwr⟩⟩
  by_cases s11_1 : y11 = 0
  · refine g_tableIn (tgt := 42) dX3_readItem_11 (by rw [s11_1]; decide) (by rw [s11_1]; decide) (o := 31) (by rw [s11_1]; decide) (by decide) ?_
    obtain ⟨w, q1, e1, hv1, hw7, hq1, hr1⟩ := ho1.s (fun z => by rw [← e11, s11_1] at z; exact absurd z (by decide))
    have hw : w = 0 := by
      have := nI_toInt (n := w) (by omega)
      rw [← hv1, ← e11, s11_1] at this; simp only [zcs] at this; omega
    subst hw
    refine g_aloadR_n dX3_readItem_42 rfl rfl ?_
    refine n_getR dX3_readItem_43 fX3_12 rfl hW1 vld_x8 rfl rfl ?_
    refine n_v0i (n' := 0) dX3_readItem_46 mX4_isFull lX3_55 rfl hW1 (vld_sc (by decide : 3 < 4)) rfl rfl ⟨Nat.le_of_ble_eq_true rfl, Nat.le_of_ble_eq_true rfl⟩ ⟨Nat.zero_le _, Nat.zero_le _⟩ (Nat.le_of_ble_eq_true rfl) ?_
    refine wp_X4_isFull (by exact hW1) (by decide : 3 < 4) hr1.2.2.2.2.1 hn ?_
    refine ⟨_, rfl, ?_⟩
    refine g_if_eq (tgt := 60) dX3_readItem_49 (by decide) (fun c49 => ?_) (fun c49 => ?_)
    · refine g_aloadR_n dX3_readItem_60 rfl rfl ?_
      refine n_v0i (n' := 3) dX3_readItem_61 mX3_readPerson lX3_61 rfl hW1 vld_x8 rfl rfl ⟨Nat.le_of_ble_eq_true rfl, Nat.le_of_ble_eq_true rfl⟩ ⟨Nat.zero_le _, Nat.zero_le _⟩ (Nat.le_of_ble_eq_true rfl) ?_
      refine wp_X3_readPerson (by exact hW1) ht hr1 hq1 (by have c49 := b2_0.mp c49; omega) (fun M2 r2 ho2 => ?_)
      have hr2z := ho2.z
      have ho2 := ho2.tr ho1.1
      have hW3 := ho2.1.W hW
      refine ⟨_, rfl, ?_⟩
      refine g_zret dX3_readItem_64 rfl hr2z ?_
      have e : rdItem L S p = rdPer L S q1 := by unfold rdItem; rw [e1]; show rdBody L S p 0 q1 = _; unfold rdBody; rw [if_pos rfl, if_neg (b2_0.mp c49)]
      exact h _ _ (by rw [e]; exact ho2)
    · simp only [b2_0, Decidable.not_not] at c49
      refine g_aloadR_n dX3_readItem_52 rfl rfl ?_
      refine g_iload_n dX3_readItem_53 rfl rfl ?_
      refine n_v1i (n' := 0) dX3_readItem_54 mX3_fail lX3_58 rfl hW1 vld_x8 rfl rfl ⟨Nat.le_of_ble_eq_true rfl, Nat.le_of_ble_eq_true rfl⟩ ⟨Nat.zero_le _, Nat.zero_le _⟩ (Nat.le_of_ble_eq_true rfl) ?_
      refine wp_X3_fail (by exact hW1) ?_
      refine ⟨_, rfl, ?_⟩
      refine g_goto (tgt := 64) dX3_readItem_57 (by decide) ?_
      refine g_zret dX3_readItem_64 rfl (Or.inl rfl) ?_
      have e : rdItem L S p = .inl p := by unfold rdItem; rw [e1]; show rdBody L S p 0 q1 = _; unfold rdBody; rw [if_pos rfl, if_pos c49]
      exact h _ _ ⟨ho1.1.tr fr8, by rw [e]; exact ⟨rfl, by simp [mI, sI]⟩⟩
  by_cases s11_2 : y11 = 1
  · refine g_tableIn (tgt := 65) dX3_readItem_11 (by rw [s11_2]; decide) (by rw [s11_2]; decide) (o := 54) (by rw [s11_2]; decide) (by decide) ?_
    obtain ⟨w, q1, e1, hv1, hw7, hq1, hr1⟩ := ho1.s (fun z => by rw [← e11, s11_2] at z; exact absurd z (by decide))
    have hw : w = 1 := by
      have := nI_toInt (n := w) (by omega)
      rw [← hv1, ← e11, s11_2] at this; simp only [zcs] at this; omega
    subst hw
    refine g_aloadR_n dX3_readItem_65 rfl rfl ?_
    refine n_v0i (n' := 3) dX3_readItem_66 mX3_readFriend lX3_64 rfl hW1 vld_x8 rfl rfl ⟨Nat.le_of_ble_eq_true rfl, Nat.le_of_ble_eq_true rfl⟩ ⟨Nat.zero_le _, Nat.zero_le _⟩ (Nat.le_of_ble_eq_true rfl) ?_
    refine wp_X3_readFriend (by exact hW1) ht hr1 hq1 hn (fun M2 r2 ho2 => ?_)
    have hr2z := ho2.z
    have ho2 := ho2.tr ho1.1
    have hW5 := ho2.1.W hW
    refine ⟨_, rfl, ?_⟩
    refine g_zret dX3_readItem_69 rfl hr2z ?_
    have e : rdItem L S p = rdFri L S q1 := by unfold rdItem; rw [e1]; show rdBody L S p 1 q1 = _; unfold rdBody; rw [if_neg (by decide), if_pos rfl]
    exact h _ _ (by rw [e]; exact ho2)
  by_cases s11_3 : y11 = 2
  · refine g_tableIn (tgt := 70) dX3_readItem_11 (by rw [s11_3]; decide) (by rw [s11_3]; decide) (o := 59) (by rw [s11_3]; decide) (by decide) ?_
    obtain ⟨w, q1, e1, hv1, hw7, hq1, hr1⟩ := ho1.s (fun z => by rw [← e11, s11_3] at z; exact absurd z (by decide))
    have hw : w = 2 := by
      have := nI_toInt (n := w) (by omega)
      rw [← hv1, ← e11, s11_3] at this; simp only [zcs] at this; omega
    subst hw
    refine g_aloadR_n dX3_readItem_70 rfl rfl ?_
    refine n_v0i (n' := 3) dX3_readItem_71 mX3_readGone lX3_67 rfl hW1 vld_x8 rfl rfl ⟨Nat.le_of_ble_eq_true rfl, Nat.le_of_ble_eq_true rfl⟩ ⟨Nat.zero_le _, Nat.zero_le _⟩ (Nat.le_of_ble_eq_true rfl) ?_
    refine wp_X3_readGone (by exact hW1) ht hr1 hq1 hn (fun M2 r2 ho2 => ?_)
    have hr2z := ho2.z
    have ho2 := ho2.tr ho1.1
    have hW6 := ho2.1.W hW
    refine ⟨_, rfl, ?_⟩
    refine g_zret dX3_readItem_74 rfl hr2z ?_
    have e : rdItem L S p = rdGon L S q1 := by unfold rdItem; rw [e1]; show rdBody L S p 2 q1 = _; unfold rdBody; rw [if_neg (by decide), if_neg (by decide), if_pos rfl]
    exact h _ _ (by rw [e]; exact ho2)
  refine g_tableOut (tgt := 75) dX3_readItem_11 (by have t0 : ¬ y11.toInt = -1 := sw_ne s11_0; have t1 : ¬ y11.toInt = 0 := sw_ne s11_1; have t2 : ¬ y11.toInt = 1 := sw_ne s11_2; have t3 : ¬ y11.toInt = 2 := sw_ne s11_3; omega) (by decide) ?_
  obtain ⟨w, q1, e1, hv1, hw7, hq1, hr1⟩ := ho1.s (fun z => by rw [← e11] at z; exact s11_0 z)
  have hw : 3 ≤ w := by
    rcases Nat.lt_or_ge w 3 with q | q
    · exfalso
      have q2 : w = 0 ∨ w = 1 ∨ w = 2 := by omega
      rcases q2 with rfl | rfl | rfl
      · exact s11_1 (e11.trans hv1)
      · exact s11_2 (e11.trans hv1)
      · exact s11_3 (e11.trans hv1)
    · exact q
  refine g_aloadR_n dX3_readItem_75 rfl rfl ?_
  refine g_iload_n dX3_readItem_76 rfl rfl ?_
  refine g_iconst dX3_readItem_77 (v := 3) (by decide) ?_
  refine g_isub dX3_readItem_78 ?_
  have e79 : v1 - 3 = nI (w - 3) := by rw [hv1, show (3 : Int32) = nI 3 from rfl, pk_sub hw]
  rw [e79]
  refine n_v1i (n' := 3) dX3_readItem_79 mX3_readSetting lX3_70 rfl hW1 vld_x8 rfl rfl ⟨Nat.le_of_ble_eq_true rfl, Nat.le_of_ble_eq_true rfl⟩ ⟨Nat.zero_le _, Nat.zero_le _⟩ (Nat.le_of_ble_eq_true rfl) ?_
  refine wp_X3_readSetting (by exact hW1) ht hr1 hq1 hn (show w - 3 < 4 by omega) (fun M2 r2 ho2 => ?_)
  have hr2z := ho2.z
  have ho2 := ho2.tr ho1.1
  have hW7 := ho2.1.W hW
  refine ⟨_, rfl, ?_⟩
  refine g_zret dX3_readItem_82 rfl hr2z ?_
  have e : rdItem L S p = rdSet L S (w - 3) q1 := by unfold rdItem; rw [e1]; show rdBody L S p w q1 = _; unfold rdBody; rw [if_neg (by omega), if_neg (by omega), if_neg (by omega)]
  exact h _ _ (by rw [e]; exact ho2)
