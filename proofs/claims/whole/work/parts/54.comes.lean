/-! THE REFERENCE: WHO COMES -/
theorem iu3 {S : Sc} (hO : OkS S) {m : Nat} (hm : m < S.1) : b2 (iuP (S.2.2 m 0) 3) = undr 7 (S.2.2 m 0) 3 := iu_eq (hO.2.2.2.2.2 m hm).1 (by decide)
set_option maxHeartbeats 4000000 in
set_option maxRecDepth 100000 in
theorem lp_X7_still2 {E : Ev} {M : Mem} {Q : QT} (hW : Wi M) {S : Sc} (hR : RepR M S) (hO : OkS S) {c : Nat} (hc : c < 1024) (hcm : mI M (20, 0, 0) 36 = nI c) {j : Nat} (hj : j < S.1) {r : Nat} {x2 : Int32} (h : Q (some (vI (b2 (cmwS S (plS S r) c j = true)))) M) : G E (rm 1 0 0) kX7_stillComes (ZQ E Q 0 0) 0 0 26 [some (vR (20, 0, 0)), some (vI (nI j)), some (vI x2), some (vI (plS S r j)), some (vI (S.2.2 j 4)), none] [] M := by
  have hs10 : S.1 ≤ 10 := hO.1
  have hsz := hR.1
  have p4 := (hO.2.2.2.2.2 j hj).2.2.2.2.1
  refine g_iload dX7_stillComes_26 rfl ?_
  refine g_iconst dX7_stillComes_28 (v := (-1)) (by decide) ?_
  refine g_icmp_eq (tgt := 49) dX7_stillComes_29 (by decide) (fun c29 => ?_) (fun c29 => ?_)
  · have hnt : ¬ (IN (S.2.2 j 4) 10 ∧ c.testBit (S.2.2 j 4).toNatClampNeg = true) := fun q => by rw [c29] at q; exact absurd q.1.1 (by decide)
    refine g_iconst dX7_stillComes_49 (v := 0) (by decide) ?_
    refine g_istore_5 dX7_stillComes_50 rfl ?_
    refine g_iload dX7_stillComes_52 rfl ?_
    refine g_if_eq (tgt := 81) dX7_stillComes_54 (by decide) (fun c54 => ?_) (fun c54 => ?_)
    · refine g_iload_n dX7_stillComes_81 rfl rfl ?_
      refine g_if_le (tgt := 111) dX7_stillComes_82 (by decide) (fun c82 => ?_) (fun c82 => ?_)
      · refine g_iconst dX7_stillComes_111 (v := 0) (by decide) ?_
        refine g_zret dX7_stillComes_112 rfl (Or.inl rfl) ?_
        refine qI h (b2_f ?_)
        unfold cmwS
        rw [if_neg hnt]
        simp [(Int32.not_lt.mpr c82)]
      · refine g_aloadR_n dX7_stillComes_85 rfl rfl ?_
        refine n_getR dX7_stillComes_86 fX7_29 rfl hW vld_x20 rfl rfl ?_
        refine g_iload_n dX7_stillComes_89 rfl rfl ?_
        refine n_iald (j := j) dX7_stillComes_90 rfl hW (vld_ma (by decide : 1 < 25)) (by decide) rfl (show j < 10 by omega) ?_
        rw [show mI M (21, 1, 0) j = S.2.2 j 0 from hR.2.2 j 0 hj (by decide)]
        refine g_bipush dX7_stillComes_91 (v := 6) (by decide) ?_
        refine g_icmp_ne (tgt := 107) dX7_stillComes_93 (by decide) (fun c93 => ?_) (fun c93 => ?_)
        · refine g_iconst dX7_stillComes_107 (v := 1) (by decide) ?_
          refine g_goto (tgt := 112) dX7_stillComes_108 (by decide) ?_
          refine g_zret dX7_stillComes_112 rfl (Or.inr rfl) ?_
          refine qI h (b2_t ?_)
          unfold cmwS
          rw [if_neg hnt]
          simp [(Int32.not_le.mp c82), c93]
        · refine g_iload dX7_stillComes_96 rfl ?_
          refine g_iconst dX7_stillComes_98 (v := (-1)) (by decide) ?_
          refine g_icmp_eq (tgt := 107) dX7_stillComes_99 (by decide) (fun c99 => ?_) (fun c99 => ?_)
          · refine g_iconst dX7_stillComes_107 (v := 1) (by decide) ?_
            refine g_goto (tgt := 112) dX7_stillComes_108 (by decide) ?_
            refine g_zret dX7_stillComes_112 rfl (Or.inr rfl) ?_
            have c93 : S.2.2 j 0 = 6 := by first | exact c93 | exact Decidable.not_not.mp c93
            refine qI h (b2_t ?_)
            unfold cmwS
            rw [if_neg hnt]
            simp [(Int32.not_le.mp c82), c93, c99]
          · refine g_iload dX7_stillComes_102 rfl ?_
            refine g_if_eq (tgt := 111) dX7_stillComes_104 (by decide) (fun c104 => ?_) (fun c104 => ?_)
            · refine g_iconst dX7_stillComes_111 (v := 0) (by decide) ?_
              refine g_zret dX7_stillComes_112 rfl (Or.inl rfl) ?_
              have c93 : S.2.2 j 0 = 6 := by first | exact c93 | exact Decidable.not_not.mp c93
              have c99 : ¬ S.2.2 j 4 = -1 := c99
              refine qI h (b2_f ?_)
              unfold cmwS
              rw [if_neg hnt]
              simp [(Int32.not_le.mp c82), c93, c99]
            · exact absurd c104 (by decide)
    · exact absurd c54 (by decide)
  · have hmm := p4.resolve_left c29
    obtain ⟨m, hm1, hm2⟩ : ∃ m, S.2.2 j 4 = nI m ∧ m < S.1 := ⟨_, (IN_nI hmm).1, (IN_nI hmm).2⟩
    have hcl : (S.2.2 j 4).toNatClampNeg = m := by rw [hm1, nI_clamp (by omega)]
    refine g_aloadR_n dX7_stillComes_32 rfl rfl ?_
    refine n_getI dX7_stillComes_33 fX7_199 rfl hW vld_x20 (Or.inl rfl) ?_
    rw [hcm, hm1]
    refine g_iload dX7_stillComes_36 rfl ?_
    refine g_ishr dX7_stillComes_38 ?_
    refine g_iconst dX7_stillComes_39 (v := 1) (by decide) ?_
    refine g_iand dX7_stillComes_40 ?_
    rw [bt_tb (by omega) (by omega)]
    refine g_iconst dX7_stillComes_41 (v := 1) (by decide) ?_
    refine g_icmp_ne (tgt := 49) dX7_stillComes_42 (by decide) (fun c42 => ?_) (fun c42 => ?_)
    · have hnt : ¬ (IN (S.2.2 j 4) 10 ∧ c.testBit (S.2.2 j 4).toNatClampNeg = true) := fun q => by rw [hcl] at q; rw [if_pos q.2] at c42; exact c42 rfl
      refine g_iconst dX7_stillComes_49 (v := 0) (by decide) ?_
      refine g_istore_5 dX7_stillComes_50 rfl ?_
      refine g_iload dX7_stillComes_52 rfl ?_
      refine g_if_eq (tgt := 81) dX7_stillComes_54 (by decide) (fun c54 => ?_) (fun c54 => ?_)
      · refine g_iload_n dX7_stillComes_81 rfl rfl ?_
        refine g_if_le (tgt := 111) dX7_stillComes_82 (by decide) (fun c82 => ?_) (fun c82 => ?_)
        · refine g_iconst dX7_stillComes_111 (v := 0) (by decide) ?_
          refine g_zret dX7_stillComes_112 rfl (Or.inl rfl) ?_
          refine qI h (b2_f ?_)
          unfold cmwS
          rw [if_neg hnt]
          simp [(Int32.not_lt.mpr c82)]
        · refine g_aloadR_n dX7_stillComes_85 rfl rfl ?_
          refine n_getR dX7_stillComes_86 fX7_29 rfl hW vld_x20 rfl rfl ?_
          refine g_iload_n dX7_stillComes_89 rfl rfl ?_
          refine n_iald (j := j) dX7_stillComes_90 rfl hW (vld_ma (by decide : 1 < 25)) (by decide) rfl (show j < 10 by omega) ?_
          rw [show mI M (21, 1, 0) j = S.2.2 j 0 from hR.2.2 j 0 hj (by decide)]
          refine g_bipush dX7_stillComes_91 (v := 6) (by decide) ?_
          refine g_icmp_ne (tgt := 107) dX7_stillComes_93 (by decide) (fun c93 => ?_) (fun c93 => ?_)
          · refine g_iconst dX7_stillComes_107 (v := 1) (by decide) ?_
            refine g_goto (tgt := 112) dX7_stillComes_108 (by decide) ?_
            refine g_zret dX7_stillComes_112 rfl (Or.inr rfl) ?_
            refine qI h (b2_t ?_)
            unfold cmwS
            rw [if_neg hnt]
            simp [(Int32.not_le.mp c82), c93]
          · refine g_iload dX7_stillComes_96 rfl ?_
            refine g_iconst dX7_stillComes_98 (v := (-1)) (by decide) ?_
            refine g_icmp_eq (tgt := 107) dX7_stillComes_99 (by decide) (fun c99 => ?_) (fun c99 => ?_)
            · rw [← hm1] at c99
              refine g_iconst dX7_stillComes_107 (v := 1) (by decide) ?_
              refine g_goto (tgt := 112) dX7_stillComes_108 (by decide) ?_
              refine g_zret dX7_stillComes_112 rfl (Or.inr rfl) ?_
              have c93 : S.2.2 j 0 = 6 := by first | exact c93 | exact Decidable.not_not.mp c93
              refine qI h (b2_t ?_)
              unfold cmwS
              rw [if_neg hnt]
              simp [(Int32.not_le.mp c82), c93, c99]
            · rw [← hm1] at c99
              refine g_iload dX7_stillComes_102 rfl ?_
              refine g_if_eq (tgt := 111) dX7_stillComes_104 (by decide) (fun c104 => ?_) (fun c104 => ?_)
              · refine g_iconst dX7_stillComes_111 (v := 0) (by decide) ?_
                refine g_zret dX7_stillComes_112 rfl (Or.inl rfl) ?_
                have c93 : S.2.2 j 0 = 6 := by first | exact c93 | exact Decidable.not_not.mp c93
                have c99 : ¬ S.2.2 j 4 = -1 := c99
                refine qI h (b2_f ?_)
                unfold cmwS
                rw [if_neg hnt]
                simp [(Int32.not_le.mp c82), c93, c99]
              · exact absurd c104 (by decide)
      · exact absurd c54 (by decide)
    · have hbm : c.testBit m = true := by
        by_cases q : c.testBit m = true
        · exact q
        · rw [if_neg q] at c42; exact absurd c42 (by decide)
      have hth : IN (S.2.2 j 4) 10 ∧ c.testBit (S.2.2 j 4).toNatClampNeg = true := ⟨⟨hmm.1, by have := hmm.2; omega⟩, by rw [hcl]; exact hbm⟩
      refine g_iconst dX7_stillComes_45 (v := 1) (by decide) ?_
      refine g_goto (tgt := 50) dX7_stillComes_46 (by decide) ?_
      refine g_istore_5 dX7_stillComes_50 rfl ?_
      refine g_iload dX7_stillComes_52 rfl ?_
      refine g_if_eq (tgt := 81) dX7_stillComes_54 (by decide) (fun c54 => ?_) (fun c54 => ?_)
      · exact absurd c54 (by decide)
      · refine g_iload_n dX7_stillComes_57 rfl rfl ?_
        refine g_aloadR_n dX7_stillComes_58 rfl rfl ?_
        refine g_aloadR_n dX7_stillComes_59 rfl rfl ?_
        refine n_getR dX7_stillComes_60 fX7_29 rfl hW vld_x20 rfl rfl ?_
        refine g_iload dX7_stillComes_63 rfl ?_
        refine n_iald (j := m) dX7_stillComes_65 rfl hW (vld_ma (by decide : 1 < 25)) (by decide) rfl (show m < 10 by omega) ?_
        rw [show mI M (21, 1, 0) m = S.2.2 m 0 from hR.2.2 m 0 hm2 (by decide)]
        refine g_iconst dX7_stillComes_66 (v := 3) (by decide) ?_
        refine n_v2i (n' := 0) dX7_stillComes_67 mX7_isUnder lX7_116 rfl hW vld_x20 rfl rfl ⟨Nat.le_of_ble_eq_true rfl, Nat.le_of_ble_eq_true rfl⟩ ⟨Nat.zero_le _, Nat.zero_le _⟩ (Nat.le_of_ble_eq_true rfl) ?_
        refine wp_X7_isUnder ?_
        refine ⟨_, rfl, ?_⟩
        rw [iu3 hO hm2]
        refine g_if_eq (tgt := 78) dX7_stillComes_70 (by decide) (fun c70 => ?_) (fun c70 => ?_)
        · have e70 : undr 7 (S.2.2 (S.2.2 j 4).toNatClampNeg 0) 3 = undr 7 (S.2.2 m 0) 3 := by rw [hcl]
          rw [← e70] at c70
          refine g_iconst dX7_stillComes_78 (v := 3) (by decide) ?_
          refine g_iadd dX7_stillComes_79 ?_
          refine g_istore_3 dX7_stillComes_80 rfl ?_
          refine g_iload_n dX7_stillComes_81 rfl rfl ?_
          refine g_if_le (tgt := 111) dX7_stillComes_82 (by decide) (fun c82 => ?_) (fun c82 => ?_)
          · refine g_iconst dX7_stillComes_111 (v := 0) (by decide) ?_
            refine g_zret dX7_stillComes_112 rfl (Or.inl rfl) ?_
            refine qI h (b2_f ?_)
            unfold cmwS
            rw [if_pos hth]
            rw [if_pos c70]
            simp [(Int32.not_lt.mpr c82)]
          · refine g_aloadR_n dX7_stillComes_85 rfl rfl ?_
            refine n_getR dX7_stillComes_86 fX7_29 rfl hW vld_x20 rfl rfl ?_
            refine g_iload_n dX7_stillComes_89 rfl rfl ?_
            refine n_iald (j := j) dX7_stillComes_90 rfl hW (vld_ma (by decide : 1 < 25)) (by decide) rfl (show j < 10 by omega) ?_
            rw [show mI M (21, 1, 0) j = S.2.2 j 0 from hR.2.2 j 0 hj (by decide)]
            refine g_bipush dX7_stillComes_91 (v := 6) (by decide) ?_
            refine g_icmp_ne (tgt := 107) dX7_stillComes_93 (by decide) (fun c93 => ?_) (fun c93 => ?_)
            · refine g_iconst dX7_stillComes_107 (v := 1) (by decide) ?_
              refine g_goto (tgt := 112) dX7_stillComes_108 (by decide) ?_
              refine g_zret dX7_stillComes_112 rfl (Or.inr rfl) ?_
              refine qI h (b2_t ?_)
              unfold cmwS
              rw [if_pos hth]
              rw [if_pos c70]
              simp [(Int32.not_le.mp c82)]
            · refine g_iload dX7_stillComes_96 rfl ?_
              refine g_iconst dX7_stillComes_98 (v := (-1)) (by decide) ?_
              refine g_icmp_eq (tgt := 107) dX7_stillComes_99 (by decide) (fun c99 => ?_) (fun c99 => ?_)
              · rw [← hm1] at c99
                refine g_iconst dX7_stillComes_107 (v := 1) (by decide) ?_
                refine g_goto (tgt := 112) dX7_stillComes_108 (by decide) ?_
                refine g_zret dX7_stillComes_112 rfl (Or.inr rfl) ?_
                refine qI h (b2_t ?_)
                unfold cmwS
                rw [if_pos hth]
                rw [if_pos c70]
                simp [(Int32.not_le.mp c82)]
              · rw [← hm1] at c99
                refine g_iload dX7_stillComes_102 rfl ?_
                refine g_if_eq (tgt := 111) dX7_stillComes_104 (by decide) (fun c104 => ?_) (fun c104 => ?_)
                · exact absurd c104 (by decide)
                · refine g_iconst dX7_stillComes_107 (v := 1) (by decide) ?_
                  refine g_goto (tgt := 112) dX7_stillComes_108 (by decide) ?_
                  refine g_zret dX7_stillComes_112 rfl (Or.inr rfl) ?_
                  refine qI h (b2_t ?_)
                  unfold cmwS
                  rw [if_pos hth]
                  rw [if_pos c70]
                  simp [(Int32.not_le.mp c82)]
        · have e70 : undr 7 (S.2.2 (S.2.2 j 4).toNatClampNeg 0) 3 = undr 7 (S.2.2 m 0) 3 := by rw [hcl]
          rw [← e70] at c70
          refine g_bipush dX7_stillComes_73 (v := 6) (by decide) ?_
          refine g_goto (tgt := 79) dX7_stillComes_75 (by decide) ?_
          refine g_iadd dX7_stillComes_79 ?_
          refine g_istore_3 dX7_stillComes_80 rfl ?_
          refine g_iload_n dX7_stillComes_81 rfl rfl ?_
          refine g_if_le (tgt := 111) dX7_stillComes_82 (by decide) (fun c82 => ?_) (fun c82 => ?_)
          · refine g_iconst dX7_stillComes_111 (v := 0) (by decide) ?_
            refine g_zret dX7_stillComes_112 rfl (Or.inl rfl) ?_
            refine qI h (b2_f ?_)
            unfold cmwS
            rw [if_pos hth]
            rw [if_neg c70]
            simp [(Int32.not_lt.mpr c82)]
          · refine g_aloadR_n dX7_stillComes_85 rfl rfl ?_
            refine n_getR dX7_stillComes_86 fX7_29 rfl hW vld_x20 rfl rfl ?_
            refine g_iload_n dX7_stillComes_89 rfl rfl ?_
            refine n_iald (j := j) dX7_stillComes_90 rfl hW (vld_ma (by decide : 1 < 25)) (by decide) rfl (show j < 10 by omega) ?_
            rw [show mI M (21, 1, 0) j = S.2.2 j 0 from hR.2.2 j 0 hj (by decide)]
            refine g_bipush dX7_stillComes_91 (v := 6) (by decide) ?_
            refine g_icmp_ne (tgt := 107) dX7_stillComes_93 (by decide) (fun c93 => ?_) (fun c93 => ?_)
            · refine g_iconst dX7_stillComes_107 (v := 1) (by decide) ?_
              refine g_goto (tgt := 112) dX7_stillComes_108 (by decide) ?_
              refine g_zret dX7_stillComes_112 rfl (Or.inr rfl) ?_
              refine qI h (b2_t ?_)
              unfold cmwS
              rw [if_pos hth]
              rw [if_neg c70]
              simp [(Int32.not_le.mp c82)]
            · refine g_iload dX7_stillComes_96 rfl ?_
              refine g_iconst dX7_stillComes_98 (v := (-1)) (by decide) ?_
              refine g_icmp_eq (tgt := 107) dX7_stillComes_99 (by decide) (fun c99 => ?_) (fun c99 => ?_)
              · rw [← hm1] at c99
                refine g_iconst dX7_stillComes_107 (v := 1) (by decide) ?_
                refine g_goto (tgt := 112) dX7_stillComes_108 (by decide) ?_
                refine g_zret dX7_stillComes_112 rfl (Or.inr rfl) ?_
                refine qI h (b2_t ?_)
                unfold cmwS
                rw [if_pos hth]
                rw [if_neg c70]
                simp [(Int32.not_le.mp c82)]
              · rw [← hm1] at c99
                refine g_iload dX7_stillComes_102 rfl ?_
                refine g_if_eq (tgt := 111) dX7_stillComes_104 (by decide) (fun c104 => ?_) (fun c104 => ?_)
                · exact absurd c104 (by decide)
                · refine g_iconst dX7_stillComes_107 (v := 1) (by decide) ?_
                  refine g_goto (tgt := 112) dX7_stillComes_108 (by decide) ?_
                  refine g_zret dX7_stillComes_112 rfl (Or.inr rfl) ?_
                  refine qI h (b2_t ?_)
                  unfold cmwS
                  rw [if_pos hth]
                  rw [if_neg c70]
                  simp [(Int32.not_le.mp c82)]
set_option maxHeartbeats 4000000 in
set_option maxRecDepth 100000 in
theorem wp_X7_stillComes {E : Ev} {M : Mem} {Q : QT} (hW : Wi M) {S : Sc} (hR : RepR M S) (hO : OkS S) {c : Nat} (hc : c < 1024) (hcm : mI M (20, 0, 0) 36 = nI c) {j : Nat} (hj : j < S.1) {r : Nat} (hr : r < 2048) (h : Q (some (vI (b2 (cmwS S (plS S r) c j = true)))) M) : Mth E 1 0 0 kX7_stillComes [vR (20, 0, 0), vI (nI j), vI (nI r)] M Q := by
  have hs10 : S.1 ≤ 10 := hO.1
  have hsz := hR.1
  refine mth_of (by decide +kernel) [some (vR (20, 0, 0)), some (vI (nI j)), some (vI (nI r)), none, none, none] (Nat.le_of_ble_eq_true rfl) rfl ?_
  refine g_aloadR_n dX7_stillComes_0 rfl rfl ?_
  refine g_iload_n dX7_stillComes_1 rfl rfl ?_
  refine n_v1i (n' := 0) dX7_stillComes_2 mX7_wills lX7_196 rfl hW vld_x20 rfl rfl ⟨Nat.le_of_ble_eq_true rfl, Nat.le_of_ble_eq_true rfl⟩ ⟨Nat.zero_le _, Nat.zero_le _⟩ (Nat.le_of_ble_eq_true rfl) ?_
  refine wp_X7_wills (by exact hW) hR hO rfl hj ?_
  refine ⟨_, rfl, ?_⟩
  refine g_istore_3 dX7_stillComes_5 rfl ?_
  refine g_aloadR_n dX7_stillComes_6 rfl rfl ?_
  refine n_getR dX7_stillComes_7 fX7_41 rfl hW vld_x20 rfl rfl ?_
  refine g_iload_n dX7_stillComes_10 rfl rfl ?_
  refine n_iald (j := j) dX7_stillComes_11 rfl hW (vld_ma (by decide : 5 < 25)) (by decide) rfl (show j < 10 by omega) ?_
  rw [show mI M (21, 5, 0) j = S.2.2 j 4 from hR.2.2 j 4 hj (by decide)]
  refine g_istore_4 dX7_stillComes_12 rfl ?_
  refine g_iload_n dX7_stillComes_14 rfl rfl ?_
  refine g_iload_n dX7_stillComes_15 rfl rfl ?_
  refine g_ishr dX7_stillComes_16 ?_
  refine g_iconst dX7_stillComes_17 (v := 1) (by decide) ?_
  refine g_iand dX7_stillComes_18 ?_
  rw [bt_tb (by omega) hr]
  refine g_iconst dX7_stillComes_19 (v := 1) (by decide) ?_
  refine g_icmp_ne (tgt := 26) dX7_stillComes_20 (by decide) (fun c20 => ?_) (fun c20 => ?_)
  · have hb : ¬ r.testBit j = true := fun q => by rw [if_pos q] at c20; exact c20 rfl
    have e0 : willS S j = plS S r j := by unfold plS; rw [if_neg hb, Int32.add_zero]
    rw [e0]
    exact lp_X7_still2 hW hR hO hc hcm hj h
  · have hb : r.testBit j = true := by
      by_cases q : r.testBit j = true
      · exact q
      · rw [if_neg q] at c20; exact absurd c20 (by decide)
    refine g_iinc_3 (v := plS S r j) dX7_stillComes_23 rfl (by unfold plS; rw [if_pos hb]; rfl) ?_
    exact lp_X7_still2 hW hR hO hc hcm hj h
def ComO (M : Mem) (S : Sc) (c : Nat) : Prop := mI M (20, 0, 0) 36 = nI c ∧ mI M (20, 0, 0) 37 = nI (seatS S c) ∧ mI M (20, 0, 0) 38 = nI (cnt c S.1) ∧ mI M (20, 0, 0) 39 = nI (cnt (seatS S c) S.1)
theorem frC7 {M : Mem} {f : Nat} {x : Int32} (h1 : 36 ≤ f) (h2 : f ≤ 39) : FrI DC M (sI M (20, 0, 0) f x) := fr_sI ⟨rfl, h1, h2⟩
theorem seat_bit {S : Sc} {c j : Nat} (hj : j < S.1) : (seatS S c).testBit j = sdP S c j := by unfold seatS; rw [mk_bit]; simp [hj]
theorem cnt_s (c : Nat) {j : Nat} (h : c.testBit j = true) : cnt c (j + 1) = cnt c j + 1 := by rw [cnt, if_pos h]
theorem cnt_n (c : Nat) {j : Nat} (h : ¬ c.testBit j = true) : cnt c (j + 1) = cnt c j := by rw [cnt, if_neg h, Nat.add_zero]
theorem mk_s {P : Nat → Bool} {j : Nat} (h : P j = true) : mk P (j + 1) = mk P j + 2 ^ j := by rw [mk, if_pos h]
theorem mk_n {P : Nat → Bool} {j : Nat} (h : ¬ P j = true) : mk P (j + 1) = mk P j := by rw [mk, if_neg h]; rfl
set_option maxHeartbeats 4000000 in
set_option maxRecDepth 100000 in
theorem lp_X7_comesC {E : Ev} {M0 : Mem} {Q : QT} (hW0 : Wi M0) {S : Sc} (hR0 : RepR M0 S) (hO : OkS S) {c : Nat} (hc : c < 2 ^ S.1) {x1 x2 : Int32} (h : ∀ M', FrI DC M0 M' → ComO M' S c → Q none M') : ∀ j, j ≤ S.1 → ∀ (M : Mem), (FrI DC M0 M ∧ mI M (20, 0, 0) 36 = nI c ∧ mI M (20, 0, 0) 37 = nI (mk (sdP S c) j) ∧ mI M (20, 0, 0) 38 = nI (cnt c j) ∧ mI M (20, 0, 0) 39 = nI (cnt (seatS S c) j)) → G E (rm 2 0 0) kX7_comes (ZQ E Q 0 0) 0 0 123 [some (vR (20, 0, 0)), some (vI x1), some (vI x2), some (vI (nI j))] [] M := by
  refine up_loop S.1 (fun j hj ih M hst => ?_)
  obtain ⟨hf, h36, h37, h38, h39⟩ := hst
  have hW := hf.W hW0
  have hR1 := hR0.dc hf
  have hsz := hR1.1
  have hs10 := hO.1
  have hc10 := Nat.lt_of_lt_of_le hc (pow_le10 hO.1)
  obtain ⟨ch1, ch2, ch3⟩ := chN_eq hO
  have hcl := cnt_le c j
  refine g_iload_n dX7_comes_123 rfl rfl ?_
  refine g_aloadR_n dX7_comes_124 rfl rfl ?_
  refine n_getI dX7_comes_125 fX7_102 rfl hW vld_x20 (Or.inl rfl) ?_
  refine g_icmp_ge (tgt := 197) dX7_comes_128 (by decide) (fun c128 => ?_) (fun c128 => ?_)
  · rw [hsz] at c128
    have hjn2 : j = S.1 := by rw [nI_leI (by omega) (by omega)] at c128; omega
    refine g_vret dX7_comes_197 rfl ?_
    subst hjn2
    exact h _ hf ⟨h36, h37, h38, h39⟩
  · rw [hsz] at c128
    have hjn : j < S.1 := by rw [nI_leI (by omega) (by omega)] at c128; omega
    refine g_aloadR_n dX7_comes_131 rfl rfl ?_
    refine n_getI dX7_comes_132 fX7_199 rfl hW vld_x20 (Or.inl rfl) ?_
    refine g_iload_n dX7_comes_135 rfl rfl ?_
    refine g_ishr dX7_comes_136 ?_
    refine g_iconst dX7_comes_137 (v := 1) (by decide) ?_
    refine g_iand dX7_comes_138 ?_
    rw [h36, bt_tb (by omega) (by omega)]
    refine g_if_ne (tgt := 145) dX7_comes_139 (by decide) (fun c139 => ?_) (fun c139 => ?_)
    · have hb : c.testBit j = true := by
        by_cases q : c.testBit j = true
        · exact q
        · rw [if_neg q] at c139; exact absurd rfl c139
      refine g_aloadR_n dX7_comes_145 rfl rfl ?_
      refine g_dup dX7_comes_146 rfl ?_
      refine n_getI dX7_comes_147 fX7_208 rfl hW vld_x20 (Or.inl rfl) ?_
      refine g_top (fun z ez => ?_)
      have ez : z = nI (cnt c j) := ez.trans (by first | exact h38 | (simp [mI, sI]; exact h38))
      subst ez
      refine g_iconst dX7_comes_150 (v := 1) (by decide) ?_
      refine g_iadd dX7_comes_151 ?_
      rw [nI_1]
      refine n_putI dX7_comes_152 fX7_208 rfl hW vld_x20 rfl ?_
      refine g_aloadR_n dX7_comes_155 rfl rfl ?_
      refine n_getI dX7_comes_156 fX7_208 rfl hW vld_x20 (Or.inl rfl) ?_
      refine g_top (fun z ez => ?_)
      have ez : z = nI (cnt c j + 1) := ez.trans (by simp [mI, sI])
      subst ez
      refine g_aloadR_n dX7_comes_159 rfl rfl ?_
      refine n_getI dX7_comes_160 fX7_13 rfl hW vld_x20 (Or.inl rfl) ?_
      refine g_top (fun z ez => ?_)
      have ez : z = nI (chN S) := ez.trans (((show mI _ (20, 0, 0) 3 = mI M (20, 0, 0) 3 from by simp [mI, sI])).trans ((hR1.2.1 3 (by decide) (by decide)).trans ch1))
      subst ez
      refine g_icmp_le (tgt := 169) dX7_comes_163 (by decide) (fun c163 => ?_) (fun c163 => ?_)
      · rw [nI_leI (by omega) (by omega)] at c163
        have hq : sdP S c j = true := by simp only [sdP, Bool.and_eq_true, decide_eq_true_eq]; exact ⟨hb, by omega⟩
        refine g_aloadR_n dX7_comes_169 rfl rfl ?_
        refine g_dup dX7_comes_170 rfl ?_
        refine n_getI dX7_comes_171 fX7_205 rfl hW vld_x20 (Or.inl rfl) ?_
        refine g_top (fun z ez => ?_)
        have ez : z = nI (mk (sdP S c) j) := ez.trans (by first | exact h37 | (simp [mI, sI]; exact h37))
        subst ez
        refine g_iconst dX7_comes_174 (v := 1) (by decide) ?_
        refine g_iload_n dX7_comes_175 rfl rfl ?_
        refine g_ishl dX7_comes_176 ?_
        refine g_iadd dX7_comes_177 ?_
        rw [bt_sh (by omega), nI_add]
        refine n_putI dX7_comes_178 fX7_205 rfl hW vld_x20 rfl ?_
        refine g_aloadR_n dX7_comes_181 rfl rfl ?_
        refine g_dup dX7_comes_182 rfl ?_
        refine n_getI dX7_comes_183 fX7_211 rfl hW vld_x20 (Or.inl rfl) ?_
        refine g_top (fun z ez => ?_)
        have ez : z = nI (cnt (seatS S c) j) := ez.trans (by first | exact h39 | (simp [mI, sI]; exact h39))
        subst ez
        refine g_iconst dX7_comes_186 (v := 1) (by decide) ?_
        refine g_iadd dX7_comes_187 ?_
        rw [nI_1]
        refine n_putI dX7_comes_188 fX7_211 rfl hW vld_x20 rfl ?_
        refine g_iinc_3 (v := nI (j + 1)) dX7_comes_191 rfl (nI_inc j) ?_
        refine g_goto (tgt := 123) dX7_comes_194 (by decide) ?_
        exact ih hjn _ ⟨((hf.tr (frC7 (by decide) (by decide))).tr (frC7 (by decide) (by decide))).tr (frC7 (by decide) (by decide)), by simpa [mI, sI] using h36, by rw [mk_s hq]; simp [mI, sI], by rw [cnt_s _ hb]; simp [mI, sI], by rw [cnt_s _ (by rw [seat_bit hjn]; exact hq)]; simp [mI, sI]⟩
      · rw [nI_leI (by omega) (by omega)] at c163
        have hq : ¬ sdP S c j = true := fun q => by simp only [sdP, Bool.and_eq_true, decide_eq_true_eq] at q; omega
        refine g_goto (tgt := 191) dX7_comes_166 (by decide) ?_
        refine g_iinc_3 (v := nI (j + 1)) dX7_comes_191 rfl (nI_inc j) ?_
        refine g_goto (tgt := 123) dX7_comes_194 (by decide) ?_
        exact ih hjn _ ⟨hf.tr (frC7 (by decide) (by decide)), by simpa [mI, sI] using h36, by rw [mk_n hq]; simpa [mI, sI] using h37, by rw [cnt_s _ hb]; simp [mI, sI], by rw [cnt_n _ (by rw [seat_bit hjn]; exact hq)]; simpa [mI, sI] using h39⟩
    · have hb : ¬ c.testBit j = true := fun q => by rw [if_pos q] at c139; exact absurd c139 (by decide)
      have hq : ¬ sdP S c j = true := fun q => by simp only [sdP, Bool.and_eq_true] at q; exact hb q.1
      refine g_goto (tgt := 191) dX7_comes_142 (by decide) ?_
      refine g_iinc_3 (v := nI (j + 1)) dX7_comes_191 rfl (nI_inc j) ?_
      refine g_goto (tgt := 123) dX7_comes_194 (by decide) ?_
      exact ih hjn M ⟨hf, h36, by rw [mk_n hq]; exact h37, by rw [cnt_n _ hb]; exact h38, by rw [cnt_n _ (by rw [seat_bit hjn]; exact hq)]; exact h39⟩
set_option maxHeartbeats 4000000 in
set_option maxRecDepth 100000 in
theorem lp_X7_comesB1 {E : Ev} {M0 : Mem} {Q : QT} (hW0 : Wi M0) {S : Sc} (hR0 : RepR M0 S) (hO : OkS S) {r : Nat} (hr : r < 2048) {c0 : Nat} (hout : ∀ M c, c < c0 → (FrI DC M0 M ∧ mI M (20, 0, 0) 36 = nI c ∧ Inv S r c) → G E (rm 2 0 0) kX7_comes (ZQ E Q 0 0) 0 0 44 [some (vR (20, 0, 0)), some (vI (nI r)), some (vI 1), some (vI (nI S.1))] [] M) (hend : ∀ M c, (FrI DC M0 M ∧ mI M (20, 0, 0) 36 = nI c ∧ Inv S r c) → (∀ i, c.testBit i = true → cmwS S (plS S r) c i = true) → G E (rm 2 0 0) kX7_comes (ZQ E Q 0 0) 0 0 44 [some (vR (20, 0, 0)), some (vI (nI r)), some (vI 0), some (vI (nI S.1))] [] M) : ∀ j, j ≤ S.1 → ∀ (M : Mem) (c : Nat) (g : Int32), (FrI DC M0 M ∧ mI M (20, 0, 0) 36 = nI c ∧ Inv S r c) → ((g = 0 ∧ c = c0 ∧ ∀ i, i < j → c.testBit i = true → cmwS S (plS S r) c i = true) ∨ (g = 1 ∧ c < c0)) → G E (rm 2 0 0) kX7_comes (ZQ E Q 0 0) 0 0 52 [some (vR (20, 0, 0)), some (vI (nI r)), some (vI g), some (vI (nI j))] [] M := by
  refine up_loop S.1 (fun j hj ih M c g hst hg => ?_)
  obtain ⟨hf, h36, hI⟩ := hst
  have hcm := h36
  have hW := hf.W hW0
  have hR1 := hR0.dc hf
  have hsz := hR1.1
  have hs10 := hO.1
  have hc10 := Nat.lt_of_lt_of_le hI.1 (pow_le10 hO.1)
  refine g_iload_n dX7_comes_52 rfl rfl ?_
  refine g_aloadR_n dX7_comes_53 rfl rfl ?_
  refine n_getI dX7_comes_54 fX7_102 rfl hW vld_x20 (Or.inl rfl) ?_
  refine g_icmp_ge (tgt := 103) dX7_comes_57 (by decide) (fun c57 => ?_) (fun c57 => ?_)
  · rw [hsz] at c57
    have hjn2 : j = S.1 := by rw [nI_leI (by omega) (by omega)] at c57; omega
    refine g_goto (tgt := 44) dX7_comes_103 (by decide) ?_
    subst hjn2
    rcases hg with ⟨g0, hcc, hall⟩ | ⟨g1, hlt⟩
    · subst g0
      exact hend M c ⟨hf, h36, hI⟩ (fun i hi => hall i (tb_lt hI.1 hi) hi)
    · subst g1
      exact hout M c hlt ⟨hf, h36, hI⟩
  · rw [hsz] at c57
    have hjn : j < S.1 := by rw [nI_leI (by omega) (by omega)] at c57; omega
    refine g_aloadR_n dX7_comes_60 rfl rfl ?_
    refine n_getI dX7_comes_61 fX7_199 rfl hW vld_x20 (Or.inl rfl) ?_
    refine g_iload_n dX7_comes_64 rfl rfl ?_
    refine g_ishr dX7_comes_65 ?_
    refine g_iconst dX7_comes_66 (v := 1) (by decide) ?_
    refine g_iand dX7_comes_67 ?_
    rw [h36, bt_tb (by omega) (by omega)]
    refine g_if_eq (tgt := 97) dX7_comes_68 (by decide) (fun c68 => ?_) (fun c68 => ?_)
    · have hb : ¬ c.testBit j = true := fun q => by rw [if_pos q] at c68; exact absurd c68 (by decide)
      refine g_iinc_3 (v := nI (j + 1)) dX7_comes_97 rfl (nI_inc j) ?_
      refine g_goto (tgt := 52) dX7_comes_100 (by decide) ?_
      refine ih hjn M c g ⟨hf, h36, hI⟩ (hg.imp (fun q => ⟨q.1, q.2.1, fun i hi hbi => ?_⟩) (fun q => q))
      by_cases z : i = j
      · subst z; exact absurd hbi hb
      · exact q.2.2 i (by omega) hbi
    · have hb : c.testBit j = true := by
        by_cases q : c.testBit j = true
        · exact q
        · rw [if_neg q] at c68; exact absurd rfl c68
      refine g_aloadR_n dX7_comes_71 rfl rfl ?_
      refine g_iload_n dX7_comes_72 rfl rfl ?_
      refine g_iload_n dX7_comes_73 rfl rfl ?_
      refine n_v2i (n' := 1) dX7_comes_74 mX7_stillComes lX7_202 rfl hW vld_x20 rfl rfl ⟨Nat.le_of_ble_eq_true rfl, Nat.le_of_ble_eq_true rfl⟩ ⟨Nat.zero_le _, Nat.zero_le _⟩ (Nat.le_of_ble_eq_true rfl) ?_
      refine wp_X7_stillComes (by exact hW) hR1 hO hc10 hcm hjn hr ?_
      refine ⟨_, rfl, ?_⟩
      refine g_if_eq (tgt := 83) dX7_comes_77 (by decide) (fun c77 => ?_) (fun c77 => ?_)
      · simp only [b2_0, Decidable.not_not] at c77
        refine g_aloadR_n dX7_comes_83 rfl rfl ?_
        refine g_dup dX7_comes_84 rfl ?_
        refine n_getI dX7_comes_85 fX7_199 rfl hW vld_x20 (Or.inl rfl) ?_
        rw [h36]
        refine g_iconst dX7_comes_88 (v := 1) (by decide) ?_
        refine g_iload_n dX7_comes_89 rfl rfl ?_
        refine g_ishl dX7_comes_90 ?_
        refine g_isub dX7_comes_91 ?_
        rw [bt_sh (by omega), pk_sub (tb_ge hb)]
        refine n_putI dX7_comes_92 fX7_199 rfl hW vld_x20 rfl ?_
        refine g_iconst dX7_comes_95 (v := 1) (by decide) ?_
        refine g_istore_2 dX7_comes_96 rfl ?_
        refine g_iinc_3 (v := nI (j + 1)) dX7_comes_97 rfl (nI_inc j) ?_
        refine g_goto (tgt := 52) dX7_comes_100 (by decide) ?_
        have hlt : c - 2 ^ j < c := Nat.sub_lt (Nat.lt_of_lt_of_le (Nat.two_pow_pos j) (tb_ge hb)) (Nat.two_pow_pos j)
        exact ih hjn _ (c - 2 ^ j) 1 ⟨hf.tr (frC7 (by decide) (by decide)), by simp [mI, sI], hI.out hO hb c77⟩ (Or.inr ⟨rfl, by rcases hg with q | q; (have := q.2.1; omega); (have := q.2; omega)⟩)
      · simp only [b2_0, Decidable.not_not] at c77
        refine g_goto (tgt := 97) dX7_comes_80 (by decide) ?_
        refine g_iinc_3 (v := nI (j + 1)) dX7_comes_97 rfl (nI_inc j) ?_
        refine g_goto (tgt := 52) dX7_comes_100 (by decide) ?_
        refine ih hjn M c g ⟨hf, h36, hI⟩ (hg.imp (fun q => ⟨q.1, q.2.1, fun i hi hbi => ?_⟩) (fun q => q))
        by_cases z : i = j
        · subst z; exact c77
        · exact q.2.2 i (by omega) hbi
set_option maxHeartbeats 4000000 in
set_option maxRecDepth 100000 in
theorem lp_X7_comesB {E : Ev} {M0 : Mem} {Q : QT} (hW0 : Wi M0) {S : Sc} (hR0 : RepR M0 S) (hO : OkS S) {r : Nat} (hr : r < 2048) (h : ∀ M', FrI DC M0 M' → ComO M' S (comersS S r) → Q none M') : ∀ n c (M : Mem) (a3 : Option AV), c < n → (FrI DC M0 M ∧ mI M (20, 0, 0) 36 = nI c ∧ Inv S r c) → G E (rm 2 0 0) kX7_comes (ZQ E Q 0 0) 0 0 44 [some (vR (20, 0, 0)), some (vI (nI r)), some (vI 1), a3] [] M := by
  intro n
  induction n with
  | zero => intro c M a3 hc; omega
  | succ n ih =>
    intro c M a3 hc hst
    refine g_iload_n dX7_comes_44 rfl rfl ?_
    refine g_if_eq (tgt := 106) dX7_comes_45 (by decide) (fun q => absurd q (by decide)) (fun _ => ?_)
    refine g_iconst dX7_comes_48 (v := 0) (by decide) ?_
    refine g_istore_2 dX7_comes_49 rfl ?_
    refine g_iconst dX7_comes_50 (v := 0) (by decide) ?_
    refine g_istore_3 dX7_comes_51 rfl ?_
    refine lp_X7_comesB1 hW0 hR0 hO hr (c0 := c) (fun M1 c1 h1 h2 => ih c1 M1 _ (by omega) h2) (fun M1 c1 h2 h3 => ?_) 0 (Nat.zero_le _) M c 0 hst (Or.inl ⟨rfl, rfl, fun i hi => absurd hi (by omega)⟩)
    obtain ⟨hf, h36, hI⟩ := h2
    have hW := hf.W hW0
    have ec := hI.done hO h3
    subst ec
    refine g_iload_n dX7_comes_44 rfl rfl ?_
    refine g_if_eq (tgt := 106) dX7_comes_45 (by decide) (fun _ => ?_) (fun q => absurd rfl q)
    refine g_aloadR_n dX7_comes_106 rfl rfl ?_
    refine g_iconst dX7_comes_107 (v := 0) (by decide) ?_
    refine n_putI dX7_comes_108 fX7_205 rfl hW vld_x20 rfl ?_
    refine g_aloadR_n dX7_comes_111 rfl rfl ?_
    refine g_iconst dX7_comes_112 (v := 0) (by decide) ?_
    refine n_putI dX7_comes_113 fX7_208 rfl (by exact hW) vld_x20 rfl ?_
    refine g_aloadR_n dX7_comes_116 rfl rfl ?_
    refine g_iconst dX7_comes_117 (v := 0) (by decide) ?_
    refine n_putI dX7_comes_118 fX7_211 rfl (by exact hW) vld_x20 rfl ?_
    refine g_iconst dX7_comes_121 (v := 0) (by decide) ?_
    refine g_istore_3 dX7_comes_122 rfl ?_
    exact lp_X7_comesC hW0 hR0 hO hI.1 h 0 (Nat.zero_le _) _ ⟨((hf.tr (frC7 (by decide) (by decide))).tr (frC7 (by decide) (by decide))).tr (frC7 (by decide) (by decide)), by simpa [mI, sI] using h36, by simp [mI, sI, mk, nI_0], by simp [mI, sI, cnt, nI_0], by simp [mI, sI, cnt, nI_0]⟩
set_option maxHeartbeats 4000000 in
set_option maxRecDepth 100000 in
theorem lp_X7_comesA {E : Ev} {M0 : Mem} {Q : QT} (hW0 : Wi M0) {S : Sc} (hR0 : RepR M0 S) (hO : OkS S) {r : Nat} (hr : r < 2048) (h : ∀ M', FrI DC M0 M' → ComO M' S (comersS S r) → Q none M') : ∀ j, j ≤ S.1 → ∀ (M : Mem), FrI DC M0 M → mI M (20, 0, 0) 36 = nI (mk (fun i => S.2.2 i 8 == 0) j) → G E (rm 2 0 0) kX7_comes (ZQ E Q 0 0) 0 0 7 [some (vR (20, 0, 0)), some (vI (nI r)), some (vI (nI j)), none] [] M := by
  refine up_loop S.1 (fun j hj ih M hf h36 => ?_)
  have hW := hf.W hW0
  have hR1 := hR0.dc hf
  have hsz := hR1.1
  have hs10 := hO.1
  refine g_iload_n dX7_comes_7 rfl rfl ?_
  refine g_aloadR_n dX7_comes_8 rfl rfl ?_
  refine n_getI dX7_comes_9 fX7_102 rfl hW vld_x20 (Or.inl rfl) ?_
  refine g_icmp_ge (tgt := 42) dX7_comes_12 (by decide) (fun c12 => ?_) (fun c12 => ?_)
  · rw [hsz] at c12
    have hjn2 : j = S.1 := by rw [nI_leI (by omega) (by omega)] at c12; omega
    refine g_iconst dX7_comes_42 (v := 1) (by decide) ?_
    refine g_istore_2 dX7_comes_43 rfl ?_
    subst hjn2
    exact lp_X7_comesB hW0 hR0 hO hr h (presS S + 1) (presS S) M _ (by omega) ⟨hf, h36, Inv.z S r⟩
  · rw [hsz] at c12
    have hjn : j < S.1 := by rw [nI_leI (by omega) (by omega)] at c12; omega
    refine g_aloadR_n dX7_comes_15 rfl rfl ?_
    refine n_getR dX7_comes_16 fX7_53 rfl hW vld_x20 rfl rfl ?_
    refine g_iload_n dX7_comes_19 rfl rfl ?_
    refine n_iald (j := j) dX7_comes_20 rfl hW (vld_ma (by decide : 9 < 25)) (by decide) rfl (show j < 10 by omega) ?_
    rw [show mI M (21, 9, 0) j = S.2.2 j 8 from hR1.2.2 j 8 hjn (by decide)]
    refine g_if_ne (tgt := 36) dX7_comes_21 (by decide) (fun c21 => ?_) (fun c21 => ?_)
    · refine g_iinc_2 (v := nI (j + 1)) dX7_comes_36 rfl (nI_inc j) ?_
      refine g_goto (tgt := 7) dX7_comes_39 (by decide) ?_
      exact ih hjn M hf (by rw [mk_n (by simpa using c21)]; exact h36)
    · refine g_aloadR_n dX7_comes_24 rfl rfl ?_
      refine g_dup dX7_comes_25 rfl ?_
      refine n_getI dX7_comes_26 fX7_199 rfl hW vld_x20 (Or.inl rfl) ?_
      rw [h36]
      refine g_iconst dX7_comes_29 (v := 1) (by decide) ?_
      refine g_iload_n dX7_comes_30 rfl rfl ?_
      refine g_ishl dX7_comes_31 ?_
      refine g_iadd dX7_comes_32 ?_
      rw [bt_sh (by omega), nI_add]
      refine n_putI dX7_comes_33 fX7_199 rfl hW vld_x20 rfl ?_
      refine g_iinc_2 (v := nI (j + 1)) dX7_comes_36 rfl (nI_inc j) ?_
      refine g_goto (tgt := 7) dX7_comes_39 (by decide) ?_
      have c21 : S.2.2 j 8 = 0 := by first | exact c21 | exact Decidable.not_not.mp c21
      exact ih hjn _ (hf.tr (frC7 (by decide) (by decide))) (by rw [mk_s (by simpa using c21)]; simp [mI, sI])
set_option maxHeartbeats 4000000 in
set_option maxRecDepth 100000 in
theorem wp_X7_comes {E : Ev} {M : Mem} {Q : QT} (hW : Wi M) {S : Sc} (hR : RepR M S) (hO : OkS S) {r : Nat} (hr : r < 2048) (h : ∀ M', FrI DC M M' → ComO M' S (comersS S r) → Q none M') : Mth E 2 0 0 kX7_comes [vR (20, 0, 0), vI (nI r)] M Q := by
  refine mth_of (by decide +kernel) [some (vR (20, 0, 0)), some (vI (nI r)), none, none] (Nat.le_of_ble_eq_true rfl) rfl ?_
  refine g_aloadR_n dX7_comes_0 rfl rfl ?_
  refine g_iconst dX7_comes_1 (v := 0) (by decide) ?_
  refine n_putI dX7_comes_2 fX7_199 rfl hW vld_x20 rfl ?_
  refine g_iconst dX7_comes_5 (v := 0) (by decide) ?_
  refine g_istore_2 dX7_comes_6 rfl ?_
  exact lp_X7_comesA hW hR hO hr h 0 (Nat.zero_le _) _ (frC7 (by decide) (by decide)) (by simp [mI, sI, mk, nI_0])
