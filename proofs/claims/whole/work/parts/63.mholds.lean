/-! THE REFERENCE: WHO HOLDS WHOM; FRIENDS -/
theorem cn_cl0 : (List.range 10).all (fun p => (List.range 1024).all fun c => nI (cnt c 10) - ((nI c >>> (nI p &&& 31)) &&& 1) == nI (cnt (clr c p) 11)) = true := by decide +kernel
theorem cn_cl {p c : Nat} (hp : p < 10) (hc : c < 1024) : nI (cnt c 10) - ((nI c >>> (nI p &&& 31)) &&& 1) = nI (cnt (clr c p) 11) := by
  have h := List.all_eq_true.mp (List.all_eq_true.mp cn_cl0 p (List.mem_range.mpr hp)) c (List.mem_range.mpr hc)
  simpa using h
theorem cn_ad0 : (List.range 10).all (fun p => (List.range 1024).all fun c => c.testBit p || (cnt (c + 2 ^ p) 11 == cnt c 11 + 1)) = true := by decide +kernel
theorem cn_ad {p c : Nat} (hp : p < 10) (hc : c < 1024) (hb : ¬ c.testBit p = true) : cnt (c + 2 ^ p) 11 = cnt c 11 + 1 := by
  have h := List.all_eq_true.mp (List.all_eq_true.mp cn_ad0 p (List.mem_range.mpr hp)) c (List.mem_range.mpr hc)
  simp only [Bool.or_eq_true, beq_iff_eq] at h
  exact h.resolve_left hb
set_option maxHeartbeats 4000000 in
set_option maxRecDepth 100000 in
theorem wp_X7_holdsBack {E : Ev} {M : Mem} {Q : QT} (hW : Wi M) {S : Sc} (hR : RepR M S) (hO : OkS S) {p : Nat} (hp : p < S.1) (h8 : S.2.2 p 8 = 0) (h : ∀ M', FrI DP M M' → RepR M' S → Q (some (vI (heldF S p))) M') : Mth E 3 0 0 kX7_holdsBack [vR (20, 0, 0), vI (nI p)] M Q := by
  have hs10 := hO.1
  have hc1 := Nat.lt_of_lt_of_le (comersS_lt S 0) (pow_le10 hO.1)
  have hO2 : OkS (upS S p 8 1) := hO.up8 (Or.inr rfl)
  have hc2 : comersS (upS S p 8 1) 0 < 2 ^ S.1 := comersS_lt (upS S p 8 1) 0
  have hc3 := Nat.lt_of_lt_of_le hc2 (pow_le10 hO.1)
  refine mth_of (by decide +kernel) [some (vR (20, 0, 0)), some (vI (nI p)), none] (Nat.le_of_ble_eq_true rfl) rfl ?_
  refine g_aloadR_n dX7_holdsBack_0 rfl rfl ?_
  refine g_iconst dX7_holdsBack_1 (v := 0) (by decide) ?_
  refine n_v1v (n' := 2) dX7_holdsBack_2 mX7_comes lX7_214 rfl hW vld_x20 rfl rfl ⟨Nat.le_of_ble_eq_true rfl, Nat.le_of_ble_eq_true rfl⟩ ⟨Nat.zero_le _, Nat.zero_le _⟩ (Nat.le_of_ble_eq_true rfl) ?_
  refine wp_X7_comes (r := 0) (by exact hW) hR hO (by decide) (fun M1 hf1 ho1 => ?_)
  have hW1 := hf1.W (by exact hW)
  have hR1 := hR.dc hf1
  refine ⟨rfl, ?_⟩
  refine g_aloadR_n dX7_holdsBack_5 rfl rfl ?_
  refine g_aloadR_n dX7_holdsBack_6 rfl rfl ?_
  refine n_getI dX7_holdsBack_7 fX7_199 rfl hW1 vld_x20 (Or.inl rfl) ?_
  rw [show mI M1 (20, 0, 0) 36 = nI (comersS S 0) from ho1.1]
  refine n_v1i (n' := 0) dX7_holdsBack_10 mX7_bits lX7_248 rfl hW1 vld_x20 rfl rfl ⟨Nat.le_of_ble_eq_true rfl, Nat.le_of_ble_eq_true rfl⟩ ⟨Nat.zero_le _, Nat.zero_le _⟩ (Nat.le_of_ble_eq_true rfl) ?_
  refine wp_X7_bits (by exact hW1) (m := comersS S 0) (by omega) ?_
  refine ⟨_, rfl, ?_⟩
  refine g_aloadR_n dX7_holdsBack_13 rfl rfl ?_
  refine n_getI dX7_holdsBack_14 fX7_199 rfl hW1 vld_x20 (Or.inl rfl) ?_
  rw [show mI M1 (20, 0, 0) 36 = nI (comersS S 0) from ho1.1]
  refine g_iload_n dX7_holdsBack_17 rfl rfl ?_
  refine g_ishr dX7_holdsBack_18 ?_
  refine g_iconst dX7_holdsBack_19 (v := 1) (by decide) ?_
  refine g_iand dX7_holdsBack_20 ?_
  refine g_isub dX7_holdsBack_21 ?_
  rw [cn_cl (by omega) hc1]
  refine g_istore_2 dX7_holdsBack_22 rfl ?_
  refine g_aloadR_n dX7_holdsBack_23 rfl rfl ?_
  refine n_getR dX7_holdsBack_24 fX7_53 rfl hW1 vld_x20 rfl rfl ?_
  refine g_iload_n dX7_holdsBack_27 rfl rfl ?_
  refine g_iconst dX7_holdsBack_28 (v := 1) (by decide) ?_
  refine n_iast (j := p) dX7_holdsBack_29 rfl hW1 (vld_ma (by decide : 9 < 25)) (by decide) rfl (show p < 10 by omega) ?_
  refine g_aloadR_n dX7_holdsBack_30 rfl rfl ?_
  refine g_iconst dX7_holdsBack_31 (v := 0) (by decide) ?_
  refine n_v1v (n' := 2) dX7_holdsBack_32 mX7_comes lX7_214 rfl hW1 vld_x20 rfl rfl ⟨Nat.le_of_ble_eq_true rfl, Nat.le_of_ble_eq_true rfl⟩ ⟨Nat.zero_le _, Nat.zero_le _⟩ (Nat.le_of_ble_eq_true rfl) ?_
  refine wp_X7_comes (r := 0) (by exact hW1) (hR1.up (i := p) (f := 8) (x := 1)) hO2 (by decide) (fun M2 hf2 ho2 => ?_)
  have hW3 := hf2.W (by exact hW1)
  have hR2 := (hR1.up (i := p) (f := 8) (x := 1)).dc hf2
  refine ⟨rfl, ?_⟩
  refine g_aloadR_n dX7_holdsBack_35 rfl rfl ?_
  refine n_getR dX7_holdsBack_36 fX7_53 rfl hW3 vld_x20 rfl rfl ?_
  refine g_iload_n dX7_holdsBack_39 rfl rfl ?_
  refine g_iconst dX7_holdsBack_40 (v := 0) (by decide) ?_
  refine n_iast (j := p) dX7_holdsBack_41 rfl hW3 (vld_ma (by decide : 9 < 25)) (by decide) rfl (show p < 10 by omega) ?_
  refine g_iload_n dX7_holdsBack_42 rfl rfl ?_
  refine g_aloadR_n dX7_holdsBack_43 rfl rfl ?_
  refine g_aloadR_n dX7_holdsBack_44 rfl rfl ?_
  refine n_getI dX7_holdsBack_45 fX7_199 rfl hW3 vld_x20 (Or.inl rfl) ?_
  refine g_top (fun z ez => ?_)
  have ez : z = nI (comersS (upS S p 8 1) 0) := ez.trans ((by simp [mI, sI] : _ = mI M2 (20, 0, 0) 36).trans ho2.1)
  subst ez
  refine n_v1i (n' := 0) dX7_holdsBack_48 mX7_bits lX7_248 rfl hW3 vld_x20 rfl rfl ⟨Nat.le_of_ble_eq_true rfl, Nat.le_of_ble_eq_true rfl⟩ ⟨Nat.zero_le _, Nat.zero_le _⟩ (Nat.le_of_ble_eq_true rfl) ?_
  refine wp_X7_bits (by exact hW3) (m := comersS (upS S p 8 1) 0) (by omega) ?_
  refine ⟨_, rfl, ?_⟩
  rw [cnt_10 hc2 hO.1, ← cnt_11 hc2 hO.1]
  refine g_isub dX7_holdsBack_51 ?_
  refine g_iret dX7_holdsBack_52 rfl ?_
  have hRb : RepR (sI M2 (21, 9, 0) p 0) S := hR2.up.cg rfl (fun _ _ _ => rfl) (fun i f hi hf => by
    simp only [upS]
    by_cases q : i = p ∧ f = 8
    · rw [if_pos q, q.1, q.2, h8]
    · rw [if_neg q, if_neg q])
  have d1 : FrI DP M M1 := hf1.mono (fun b f q => Or.inl q)
  have d2 : FrI DP M1 (sI M1 (21, 9, 0) p 1) := fr_sI (Or.inr (Or.inr ⟨rfl, by decide, by decide⟩))
  have d3 : FrI DP (sI M1 (21, 9, 0) p 1) M2 := hf2.mono (fun b f q => Or.inl q)
  have d4 : FrI DP M2 (sI M2 (21, 9, 0) p 0) := fr_sI (Or.inr (Or.inr ⟨rfl, by decide, by decide⟩))
  refine h _ (((d1.tr d2).tr d3).tr d4) hRb
set_option maxHeartbeats 4000000 in
set_option maxRecDepth 100000 in
theorem wp_X7_keeps {E : Ev} {M : Mem} {Q : QT} (hW : Wi M) {X : Sys} (hX : RepMo M X) (hO : OkX X) {x : Int32} (h : ∀ M', FrM M M' → RepMo M' (opKeeps X x).2 → Q (some (vI (opKeeps X x).1)) M') : Mth E 4 0 0 kX7_keeps [vR (20, 0, 0), vI x] M Q := by
  have hsz := hX.1.1
  have hs10 : (xS X).1 ≤ 10 := hO.1.1
  refine mth_of (by decide +kernel) [some (vR (20, 0, 0)), some (vI x)] (Nat.le_of_ble_eq_true rfl) rfl ?_
  refine g_aloadR_n dX7_keeps_0 rfl rfl ?_
  refine g_iload_n dX7_keeps_1 rfl rfl ?_
  refine n_v1i (n' := 0) dX7_keeps_2 mX7_isOne lX7_113 rfl hW vld_x20 rfl rfl ⟨Nat.le_of_ble_eq_true rfl, Nat.le_of_ble_eq_true rfl⟩ ⟨Nat.zero_le _, Nat.zero_le _⟩ (Nat.le_of_ble_eq_true rfl) ?_
  refine wp_X7_isOne (by exact hW) hsz hs10 ?_
  refine ⟨_, rfl, ?_⟩
  refine g_if_ne (tgt := 14) dX7_keeps_5 (by decide) (fun c5 => ?_) (fun c5 => ?_)
  · simp only [b2_0, Decidable.not_not] at c5
    obtain ⟨hx1, hx2⟩ := IN_nI c5
    have hx3 : x.toNatClampNeg < 10 := by omega
    refine g_aloadR_n dX7_keeps_14 rfl rfl ?_
    refine n_getR dX7_keeps_15 fX7_53 rfl hW vld_x20 rfl rfl ?_
    refine g_iload_n dX7_keeps_18 rfl rfl ?_
    refine n_iald (j := x.toNatClampNeg) dX7_keeps_19 rfl hW (vld_ma (by decide : 9 < 25)) (by decide) hx1 hx3 ?_
    rw [show mI M (21, 9, 0) x.toNatClampNeg = (xS X).2.2 x.toNatClampNeg 8 from hX.1.2.2 _ 8 hx2 (by decide)]
    refine g_iconst dX7_keeps_20 (v := 1) (by decide) ?_
    refine g_icmp_ne (tgt := 33) dX7_keeps_21 (by decide) (fun c21 => ?_) (fun c21 => ?_)
    · have h8 : (xS X).2.2 x.toNatClampNeg 8 = 0 := ((hO.1.z hx2).2).resolve_right c21
      refine g_aloadR_n dX7_keeps_33 rfl rfl ?_
      refine g_iload_n dX7_keeps_34 rfl rfl ?_
      rw [hx1]
      refine n_v1i (n' := 3) dX7_keeps_35 mX7_holdsBack lX7_255 rfl hW vld_x20 rfl rfl ⟨Nat.le_of_ble_eq_true rfl, Nat.le_of_ble_eq_true rfl⟩ ⟨Nat.zero_le _, Nat.zero_le _⟩ (Nat.le_of_ble_eq_true rfl) ?_
      refine wp_X7_holdsBack (by exact hW) hX.1 hO.1 hx2 h8 (fun M1 hf1 hR1 => ?_)
      have hW2 := hf1.W (by exact hW)
      refine ⟨_, rfl, ?_⟩
      refine g_iret dX7_keeps_38 rfl ?_
      have e : opKeeps X x = (heldF (xS X) x.toNatClampNeg, X) := by
        unfold opKeeps
        rw [if_neg (not_not_intro c5), if_neg (not_not_intro h8)]
      rw [e] at h
      have hdm := hf1.mono DP_DM
      exact h _ (frM_DM hdm) (hX.dm hdm hR1)
    · refine g_aloadR_n dX7_keeps_24 rfl rfl ?_
      refine g_bipush dX7_keeps_25 (v := (-6)) (by decide) ?_
      refine n_v1i (n' := 0) dX7_keeps_27 mX7_no lX7_109 rfl hW vld_x20 rfl rfl ⟨Nat.le_of_ble_eq_true rfl, Nat.le_of_ble_eq_true rfl⟩ ⟨Nat.zero_le _, Nat.zero_le _⟩ (Nat.le_of_ble_eq_true rfl) ?_
      refine wp_X7_no (j := 6) (by exact hW) (by decide) (by decide) ?_
      refine ⟨_, rfl, ?_⟩
      refine g_goto (tgt := 38) dX7_keeps_30 (by decide) ?_
      refine g_iret dX7_keeps_38 rfl ?_
      have c21 : (xS X).2.2 x.toNatClampNeg 8 = 1 := by first | exact c21 | exact Decidable.not_not.mp c21
      have e : opKeeps X x = rfX X 6 := by
        unfold opKeeps
        rw [if_neg (not_not_intro c5), if_pos (by rw [c21]; decide)]
      rw [e] at h
      exact h _ (frM_sI (by decide)) (repMo_rfm hX (by decide) (by decide))
  · simp only [b2_0, Decidable.not_not] at c5
    refine g_aloadR_n dX7_keeps_8 rfl rfl ?_
    refine g_iconst dX7_keeps_9 (v := (-1)) (by decide) ?_
    refine n_v1i (n' := 0) dX7_keeps_10 mX7_no lX7_109 rfl hW vld_x20 rfl rfl ⟨Nat.le_of_ble_eq_true rfl, Nat.le_of_ble_eq_true rfl⟩ ⟨Nat.zero_le _, Nat.zero_le _⟩ (Nat.le_of_ble_eq_true rfl) ?_
    refine wp_X7_no (j := 1) (by exact hW) (by decide) (by decide) ?_
    refine ⟨_, rfl, ?_⟩
    refine g_iret dX7_keeps_13 rfl ?_
    have e : opKeeps X x = rfX X 1 := by
      unfold opKeeps
      rw [if_pos c5]
    rw [e] at h
    exact h _ (frM_sI (by decide)) (repMo_rfm hX (by decide) (by decide))
set_option maxHeartbeats 4000000 in
set_option maxRecDepth 100000 in
theorem lp_X7_keep {E : Ev} {M0 : Mem} {Q : QT} (hW0 : Wi M0) {S : Sc} (hO : OkS S) (h : ∀ M', FrI DP M0 M' → RepR M' S → Q (some (vI (kpF S S.1).1)) M') : ∀ j, j ≤ S.1 → ∀ (M : Mem) (a4 : Option AV), FrI DP M0 M → RepR M S → G E (rm 4 0 0) kX7_keep (ZQ E Q 0 0) 0 0 6 [some (vR (20, 0, 0)), some (vI (kpF S j).1), some (vI (kpF S j).2), some (vI (nI j)), a4] [] M := by
  refine up_loop S.1 (fun j hj ih M a4 hf hR => ?_)
  have hW := hf.W hW0
  have hsz := hR.1
  have hs10 := hO.1
  refine g_iload_n dX7_keep_6 rfl rfl ?_
  refine g_aloadR_n dX7_keep_7 rfl rfl ?_
  refine n_getI dX7_keep_8 fX7_102 rfl hW vld_x20 (Or.inl rfl) ?_
  refine g_icmp_ge (tgt := 55) dX7_keep_11 (by decide) (fun c11 => ?_) (fun c11 => ?_)
  · rw [hsz] at c11
    have hjn2 : j = S.1 := by rw [nI_leI (by omega) (by omega)] at c11; omega
    refine g_iload_n dX7_keep_55 rfl rfl ?_
    refine g_iret dX7_keep_56 rfl ?_
    subst hjn2
    exact h M hf hR
  · rw [hsz] at c11
    have hjn : j < S.1 := by rw [nI_leI (by omega) (by omega)] at c11; omega
    refine g_aloadR_n dX7_keep_14 rfl rfl ?_
    refine n_getR dX7_keep_15 fX7_53 rfl hW vld_x20 rfl rfl ?_
    refine g_iload_n dX7_keep_18 rfl rfl ?_
    refine n_iald (j := j) dX7_keep_19 rfl hW (vld_ma (by decide : 9 < 25)) (by decide) rfl (show j < 10 by omega) ?_
    rw [show mI M (21, 9, 0) j = S.2.2 j 8 from hR.2.2 j 8 hjn (by decide)]
    refine g_iconst dX7_keep_20 (v := 1) (by decide) ?_
    refine g_icmp_ne (tgt := 28) dX7_keep_21 (by decide) (fun c21 => ?_) (fun c21 => ?_)
    · have h8 : S.2.2 j 8 = 0 := ((hO.z hjn).2).resolve_right c21
      have hv : (if ¬ S.2.2 j 8 = 0 then -1 else heldF S j) = heldF S j := if_neg (not_not_intro h8)
      refine g_aloadR_n dX7_keep_28 rfl rfl ?_
      refine g_iload_n dX7_keep_29 rfl rfl ?_
      refine n_v1i (n' := 3) dX7_keep_30 mX7_holdsBack lX7_255 rfl hW vld_x20 rfl rfl ⟨Nat.le_of_ble_eq_true rfl, Nat.le_of_ble_eq_true rfl⟩ ⟨Nat.zero_le _, Nat.zero_le _⟩ (Nat.le_of_ble_eq_true rfl) ?_
      refine wp_X7_holdsBack (by exact hW) hR hO hjn h8 (fun M1 hf1 hR1 => ?_)
      have hW1 := hf1.W (by exact hW)
      refine ⟨_, rfl, ?_⟩
      refine g_istore_4 dX7_keep_33 rfl ?_
      refine g_iload dX7_keep_35 rfl ?_
      refine g_iload_n dX7_keep_37 rfl rfl ?_
      refine g_icmp_gt (tgt := 44) dX7_keep_38 (by decide) (fun c38 => ?_) (fun c38 => ?_)
      · refine g_iload_n dX7_keep_44 rfl rfl ?_
        refine g_istore_1 dX7_keep_45 rfl ?_
        refine g_iload dX7_keep_46 rfl ?_
        refine g_istore_2 dX7_keep_48 rfl ?_
        refine g_iinc_3 (v := nI (j + 1)) dX7_keep_49 rfl (nI_inc j) ?_
        refine g_goto (tgt := 6) dX7_keep_52 (by decide) ?_
        have eb : kpF S (j + 1) = (nI j, (if ¬ S.2.2 j 8 = 0 then -1 else heldF S j)) := if_neg (by rw [hv]; exact Int32.not_le.mpr c38)
        rw [hv] at eb
        have key := ih hjn M1 (some (vI (heldF S j))) (hf.tr hf1) hR1
        rw [eb] at key
        exact key
      · refine g_goto (tgt := 49) dX7_keep_41 (by decide) ?_
        refine g_iinc_3 (v := nI (j + 1)) dX7_keep_49 rfl (nI_inc j) ?_
        refine g_goto (tgt := 6) dX7_keep_52 (by decide) ?_
        have eb : kpF S (j + 1) = kpF S j := if_pos (by rw [hv]; exact Int32.not_lt.mp c38)
        have key := ih hjn M1 (some (vI (heldF S j))) (hf.tr hf1) hR1
        rw [eb] at key
        exact key
    · have c21 : S.2.2 j 8 = 1 := by first | exact c21 | exact Decidable.not_not.mp c21
      have hv : (if ¬ S.2.2 j 8 = 0 then -1 else heldF S j) = -1 := if_pos (by rw [c21]; decide)
      refine g_iconst dX7_keep_24 (v := (-1)) (by decide) ?_
      refine g_goto (tgt := 33) dX7_keep_25 (by decide) ?_
      refine g_istore_4 dX7_keep_33 rfl ?_
      refine g_iload dX7_keep_35 rfl ?_
      refine g_iload_n dX7_keep_37 rfl rfl ?_
      refine g_icmp_gt (tgt := 44) dX7_keep_38 (by decide) (fun c38 => ?_) (fun c38 => ?_)
      · refine g_iload_n dX7_keep_44 rfl rfl ?_
        refine g_istore_1 dX7_keep_45 rfl ?_
        refine g_iload dX7_keep_46 rfl ?_
        refine g_istore_2 dX7_keep_48 rfl ?_
        refine g_iinc_3 (v := nI (j + 1)) dX7_keep_49 rfl (nI_inc j) ?_
        refine g_goto (tgt := 6) dX7_keep_52 (by decide) ?_
        have eb : kpF S (j + 1) = (nI j, (if ¬ S.2.2 j 8 = 0 then -1 else heldF S j)) := if_neg (by rw [hv]; exact Int32.not_le.mpr c38)
        rw [hv] at eb
        have key := ih hjn M (some (vI (-1))) hf hR
        rw [eb] at key
        exact key
      · refine g_goto (tgt := 49) dX7_keep_41 (by decide) ?_
        refine g_iinc_3 (v := nI (j + 1)) dX7_keep_49 rfl (nI_inc j) ?_
        refine g_goto (tgt := 6) dX7_keep_52 (by decide) ?_
        have eb : kpF S (j + 1) = kpF S j := if_pos (by rw [hv]; exact Int32.not_lt.mp c38)
        have key := ih hjn M (some (vI (-1))) hf hR
        rw [eb] at key
        exact key
set_option maxHeartbeats 4000000 in
set_option maxRecDepth 100000 in
theorem wp_X7_keep {E : Ev} {M : Mem} {Q : QT} (hW : Wi M) {X : Sys} (hX : RepMo M X) (hO : OkX X) (h : ∀ M', FrM M M' → RepMo M' (opKeep X).2 → Q (some (vI (opKeep X).1)) M') : Mth E 4 0 0 kX7_keep [vR (20, 0, 0)] M Q := by
  refine mth_of (by decide +kernel) [some (vR (20, 0, 0)), none, none, none, none] (Nat.le_of_ble_eq_true rfl) rfl ?_
  refine g_iconst dX7_keep_0 (v := (-1)) (by decide) ?_
  refine g_istore_1 dX7_keep_1 rfl ?_
  refine g_iconst dX7_keep_2 (v := (-1)) (by decide) ?_
  refine g_istore_2 dX7_keep_3 rfl ?_
  refine g_iconst dX7_keep_4 (v := 0) (by decide) ?_
  refine g_istore_3 dX7_keep_5 rfl ?_
  unfold opKeep at h
  dsimp only at h
  exact lp_X7_keep hW hO.1 (fun M' hf hR => h _ (frM_DM (hf.mono DP_DM)) (hX.dm (hf.mono DP_DM) hR)) 0 (Nat.zero_le _) M none FrI.rf hX.1
set_option maxHeartbeats 4000000 in
set_option maxRecDepth 100000 in
theorem lp_X7_pairs {E : Ev} {M : Mem} {Q : QT} (hW : Wi M) {S : Sc} (hR : RepR M S) (hO : OkS S) (h : Q (some (vI (prF S S.1))) M) : ∀ j, j ≤ S.1 → G E (rm 0 0 0) kX7_pairs (ZQ E Q 0 0) 0 0 4 [some (vR (20, 0, 0)), some (vI (prF S j)), some (vI (nI j))] [] M := by
  refine up_loop S.1 (fun j hj ih => ?_)
  have hsz := hR.1
  have hs10 := hO.1
  refine g_iload_n dX7_pairs_4 rfl rfl ?_
  refine g_aloadR_n dX7_pairs_5 rfl rfl ?_
  refine n_getI dX7_pairs_6 fX7_102 rfl hW vld_x20 (Or.inl rfl) ?_
  refine g_icmp_ge (tgt := 46) dX7_pairs_9 (by decide) (fun c9 => ?_) (fun c9 => ?_)
  · rw [hsz] at c9
    have hjn2 : j = S.1 := by rw [nI_leI (by omega) (by omega)] at c9; omega
    refine g_iload_n dX7_pairs_46 rfl rfl ?_
    refine g_iret dX7_pairs_47 rfl ?_
    subst hjn2
    exact h
  · rw [hsz] at c9
    have hjn : j < S.1 := by rw [nI_leI (by omega) (by omega)] at c9; omega
    have ef : mI M (21, 5, 0) j = S.2.2 j 4 := hR.2.2 j 4 hjn (by decide)
    have p4 := (hO.2.2.2.2.2 j hjn).2.2.2.2.1
    refine g_aloadR_n dX7_pairs_12 rfl rfl ?_
    refine n_getR dX7_pairs_13 fX7_41 rfl hW vld_x20 rfl rfl ?_
    refine g_iload_n dX7_pairs_16 rfl rfl ?_
    refine n_iald (j := j) dX7_pairs_17 rfl hW (vld_ma (by decide : 5 < 25)) (by decide) rfl (show j < 10 by omega) ?_
    rw [ef]
    refine g_iload_n dX7_pairs_18 rfl rfl ?_
    refine g_icmp_le (tgt := 40) dX7_pairs_19 (by decide) (fun c19 => ?_) (fun c19 => ?_)
    · refine g_iinc_2 (v := nI (j + 1)) dX7_pairs_40 rfl (nI_inc j) ?_
      refine g_goto (tgt := 4) dX7_pairs_43 (by decide) ?_
      have eb : prF S (j + 1) = prF S j := if_pos c19
      have key := ih hjn
      rw [eb] at key
      exact key
    · have hin : IN (S.2.2 j 4) S.1 := p4.resolve_left (fun q => by rw [q] at c19; exact c19 (by rw [Int32.le_iff_toInt_le, nI_toInt (by omega)]; simp only [zcs]; omega))
      obtain ⟨hi1, hi2⟩ := IN_nI hin
      have ef2 : mI M (21, 5, 0) (S.2.2 j 4).toNatClampNeg = S.2.2 (S.2.2 j 4).toNatClampNeg 4 := hR.2.2 _ 4 hi2 (by decide)
      refine g_aloadR_n dX7_pairs_22 rfl rfl ?_
      refine n_getR dX7_pairs_23 fX7_41 rfl hW vld_x20 rfl rfl ?_
      refine g_aloadR_n dX7_pairs_26 rfl rfl ?_
      refine n_getR dX7_pairs_27 fX7_41 rfl hW vld_x20 rfl rfl ?_
      refine g_iload_n dX7_pairs_30 rfl rfl ?_
      refine n_iald (j := j) dX7_pairs_31 rfl hW (vld_ma (by decide : 5 < 25)) (by decide) rfl (show j < 10 by omega) ?_
      rw [ef]
      refine n_iald (j := (S.2.2 j 4).toNatClampNeg) dX7_pairs_32 rfl hW (vld_ma (by decide : 5 < 25)) (by decide) hi1 (show (S.2.2 j 4).toNatClampNeg < 10 by omega) ?_
      rw [ef2]
      refine g_iload_n dX7_pairs_33 rfl rfl ?_
      refine g_icmp_ne (tgt := 40) dX7_pairs_34 (by decide) (fun c34 => ?_) (fun c34 => ?_)
      · refine g_iinc_2 (v := nI (j + 1)) dX7_pairs_40 rfl (nI_inc j) ?_
        refine g_goto (tgt := 4) dX7_pairs_43 (by decide) ?_
        have eb : prF S (j + 1) = prF S j := by simp only [prF]; rw [if_neg c19, if_pos c34]
        have key := ih hjn
        rw [eb] at key
        exact key
      · refine g_iinc_1 dX7_pairs_37 rfl rfl ?_
        refine g_iinc_2 (v := nI (j + 1)) dX7_pairs_40 rfl (nI_inc j) ?_
        refine g_goto (tgt := 4) dX7_pairs_43 (by decide) ?_
        have c34 : S.2.2 (S.2.2 j 4).toNatClampNeg 4 = nI j := by first | exact c34 | exact Decidable.not_not.mp c34
        have eb : prF S (j + 1) = prF S j + Int32.ofInt 1 := by simp only [prF]; rw [if_neg c19, if_neg (not_not_intro c34)]
        have key := ih hjn
        rw [eb] at key
        exact key
set_option maxHeartbeats 4000000 in
set_option maxRecDepth 100000 in
theorem wp_X7_pairs {E : Ev} {M : Mem} {Q : QT} (hW : Wi M) {X : Sys} (hX : RepMo M X) (hO : OkX X) (h : Q (some (vI (prF (xS X) (xS X).1))) M) : Mth E 0 0 0 kX7_pairs [vR (20, 0, 0)] M Q := by
  refine mth_of (by decide +kernel) [some (vR (20, 0, 0)), none, none] (Nat.le_of_ble_eq_true rfl) rfl ?_
  refine g_iconst dX7_pairs_0 (v := 0) (by decide) ?_
  refine g_istore_1 dX7_pairs_1 rfl ?_
  refine g_iconst dX7_pairs_2 (v := 0) (by decide) ?_
  refine g_istore_2 dX7_pairs_3 rfl ?_
  exact lp_X7_pairs hW hX.1 hO.1 h 0 (Nat.zero_le _)
theorem or_bit0 : (List.range 10).all (fun b => (List.range 1024).all fun m => m.testBit b || (m ||| 2 ^ b == m + 2 ^ b)) = true := by decide +kernel
theorem or_bit {m b : Nat} (hp : b < 10) (hm : m < 1024) (hb : ¬ m.testBit b = true) : m ||| 2 ^ b = m + 2 ^ b := by
  have h := List.all_eq_true.mp (List.all_eq_true.mp or_bit0 b (List.mem_range.mpr hp)) m (List.mem_range.mpr hm)
  simp only [Bool.or_eq_true, beq_iff_eq] at h
  exact h.resolve_left hb
set_option maxHeartbeats 4000000 in
set_option maxRecDepth 100000 in
theorem lp_X7_chain {E : Ev} {M : Mem} {Q : QT} (hW : Wi M) {S : Sc} (hR : RepR M S) (hO : OkS S) {x1 : Int32} : ∀ d m (a : Int32), m < 2 ^ S.1 → (a = -1 ∨ IN a S.1) → cnt m 11 + d = 11 → 1 ≤ cnt m 11 → (Q (some (vI (nI (cnt (chF S d m a) 11) - 1))) M) → G E (rm 1 0 0) kX7_chain (ZQ E Q 0 0) 0 0 28 [some (vR (20, 0, 0)), some (vI x1), some (vI (nI m)), some (vI (nI (cnt m 11 - 1))), some (vI a)] [] M := by
  have hs10 := hO.1
  intro d
  induction d with
  | zero =>
    intro m a hm _ hc _ _
    have := cnt_11 hm hO.1
    have := cnt_le m S.1
    omega
  | succ d ih =>
  intro m a hm ha hc hc1 h
  have hm10 := Nat.lt_of_lt_of_le hm (pow_le10 hO.1)
  refine g_iload dX7_chain_28 rfl ?_
  refine g_iconst dX7_chain_30 (v := (-1)) (by decide) ?_
  refine g_icmp_eq (tgt := 65) dX7_chain_31 (by decide) (fun c31 => ?_) (fun c31 => ?_)
  · refine g_iload_n dX7_chain_65 rfl rfl ?_
    refine g_iret dX7_chain_66 rfl ?_
    have c31 : a = -1 := by first | exact c31 | exact Decidable.not_not.mp c31
    simp only [chF] at h
    rw [if_pos (fun q => by rw [c31] at q; exact IN_n1 q)] at h
    have := cnt_le m 11
    rw [show (1 : Int32) = nI 1 from rfl, pk_sub hc1] at h
    exact h
  · have hin := ha.resolve_left c31
    obtain ⟨b, hb1, hb2⟩ : ∃ b, a = nI b ∧ b < S.1 := ⟨_, (IN_nI hin).1, (IN_nI hin).2⟩
    subst hb1
    have hbc : (nI b).toNatClampNeg = b := nI_clamp (by omega)
    refine g_iload_n dX7_chain_34 rfl rfl ?_
    refine g_iload dX7_chain_35 rfl ?_
    refine g_ishr dX7_chain_37 ?_
    refine g_iconst dX7_chain_38 (v := 1) (by decide) ?_
    refine g_iand dX7_chain_39 ?_
    rw [bt_tb (by omega) (by omega)]
    refine g_if_ne (tgt := 65) dX7_chain_40 (by decide) (fun c40 => ?_) (fun c40 => ?_)
    · have hb : m.testBit b = true := by
        by_cases q : m.testBit b = true
        · exact q
        · rw [if_neg q] at c40; exact absurd rfl c40
      refine g_iload_n dX7_chain_65 rfl rfl ?_
      refine g_iret dX7_chain_66 rfl ?_
      simp only [chF] at h
      rw [if_neg (not_not_intro hin), hbc, if_pos hb] at h
      have := cnt_le m 11
      rw [show (1 : Int32) = nI 1 from rfl, pk_sub hc1] at h
      exact h
    · have hb : ¬ m.testBit b = true := fun q => by rw [if_pos q] at c40; exact absurd c40 (by decide)
      refine g_iload_n dX7_chain_43 rfl rfl ?_
      refine g_iconst dX7_chain_44 (v := 1) (by decide) ?_
      refine g_iload dX7_chain_45 rfl ?_
      refine g_ishl dX7_chain_47 ?_
      rw [bt_sh (by omega)]
      refine g_iadd dX7_chain_48 ?_
      rw [nI_add]
      refine g_istore_2 dX7_chain_49 rfl ?_
      refine g_iinc_3 (v := nI (cnt m 11)) dX7_chain_50 rfl (by rw [nI_inc, show cnt m 11 - 1 + 1 = cnt m 11 by omega]) ?_
      refine g_aloadR_n dX7_chain_53 rfl rfl ?_
      refine n_getR dX7_chain_54 fX7_41 rfl hW vld_x20 rfl rfl ?_
      refine g_iload dX7_chain_57 rfl ?_
      refine n_iald (j := b) dX7_chain_59 rfl hW (vld_ma (by decide : 5 < 25)) (by decide) rfl (show b < 10 by omega) ?_
      rw [show mI M (21, 5, 0) b = S.2.2 b 4 from hR.2.2 b 4 hb2 (by decide)]
      refine g_istore_4 dX7_chain_60 rfl ?_
      refine g_goto (tgt := 28) dX7_chain_62 (by decide) ?_
      have e1 := cn_ad (p := b) (c := m) (by omega) hm10 hb
      have key := ih (m + 2 ^ b) (S.2.2 b 4) (by
        refine Nat.lt_of_le_of_lt (Nat.le_refl _) ?_
        have e2 : m + 2 ^ b = m ||| 2 ^ b := (or_bit (by omega) hm10 hb).symm
        rw [e2]
        exact Nat.or_lt_two_pow hm (Nat.pow_lt_pow_right (by decide) hb2)) (hO.2.2.2.2.2 b hb2).2.2.2.2.1 (by omega) (by omega) (by
        simp only [chF] at h
        rw [if_neg (not_not_intro hin), hbc, if_neg hb] at h
        exact h)
      rw [e1, Nat.add_sub_cancel] at key
      exact key
set_option maxHeartbeats 4000000 in
set_option maxRecDepth 100000 in
theorem wp_X7_chain {E : Ev} {M : Mem} {Q : QT} (hW : Wi M) {X : Sys} (hX : RepMo M X) (hO : OkX X) {x : Int32} (h : ∀ M', FrM M M' → RepMo M' (opChain X x).2 → Q (some (vI (opChain X x).1)) M') : Mth E 1 0 0 kX7_chain [vR (20, 0, 0), vI x] M Q := by
  have hsz := hX.1.1
  have hs10 : (xS X).1 ≤ 10 := hO.1.1
  refine mth_of (by decide +kernel) [some (vR (20, 0, 0)), some (vI x), none, none, none] (Nat.le_of_ble_eq_true rfl) rfl ?_
  refine g_aloadR_n dX7_chain_0 rfl rfl ?_
  refine g_iload_n dX7_chain_1 rfl rfl ?_
  refine n_v1i (n' := 0) dX7_chain_2 mX7_isOne lX7_113 rfl hW vld_x20 rfl rfl ⟨Nat.le_of_ble_eq_true rfl, Nat.le_of_ble_eq_true rfl⟩ ⟨Nat.zero_le _, Nat.zero_le _⟩ (Nat.le_of_ble_eq_true rfl) ?_
  refine wp_X7_isOne (by exact hW) hsz hs10 ?_
  refine ⟨_, rfl, ?_⟩
  refine g_if_ne (tgt := 14) dX7_chain_5 (by decide) (fun c5 => ?_) (fun c5 => ?_)
  · simp only [b2_0, Decidable.not_not] at c5
    obtain ⟨b, hb1, hb2⟩ : ∃ b, x = nI b ∧ b < (xS X).1 := ⟨_, (IN_nI c5).1, (IN_nI c5).2⟩
    subst hb1
    have hbc : (nI b).toNatClampNeg = b := nI_clamp (by omega)
    refine g_iconst dX7_chain_14 (v := 1) (by decide) ?_
    refine g_iload_n dX7_chain_15 rfl rfl ?_
    refine g_ishl dX7_chain_16 ?_
    rw [bt_sh (by omega)]
    refine g_istore_2 dX7_chain_17 rfl ?_
    refine g_iconst dX7_chain_18 (v := 0) (by decide) ?_
    refine g_istore_3 dX7_chain_19 rfl ?_
    refine g_aloadR_n dX7_chain_20 rfl rfl ?_
    refine n_getR dX7_chain_21 fX7_41 rfl hW vld_x20 rfl rfl ?_
    refine g_iload_n dX7_chain_24 rfl rfl ?_
    refine n_iald (j := b) dX7_chain_25 rfl hW (vld_ma (by decide : 5 < 25)) (by decide) rfl (show b < 10 by omega) ?_
    rw [show mI M (21, 5, 0) b = (xS X).2.2 b 4 from hX.1.2.2 b 4 hb2 (by decide)]
    refine g_istore_4 dX7_chain_26 rfl ?_
    have e : opChain X (nI b) = (nI (cnt (chF (xS X) 10 (2 ^ b) ((xS X).2.2 b 4)) 11) - 1, X) := by
      unfold opChain
      rw [if_neg (not_not_intro c5), hbc]
    rw [e] at h
    dsimp only at h
    have e0 : ¬ (0 : Nat).testBit b = true := by simp
    have ec := cn_ad (p := b) (c := 0) (by omega) (by decide) e0
    rw [Nat.zero_add, show cnt 0 11 = 0 by decide] at ec
    have key := lp_X7_chain (E := E) (Q := Q) hW hX.1 hO.1 (x1 := nI b) 10 (2 ^ b) ((xS X).2.2 b 4) (Nat.pow_lt_pow_right (by decide) hb2) (hO.1.2.2.2.2.2 b hb2).2.2.2.2.1 (by omega) (by omega) (h M FrM.rf hX)
    rw [ec] at key
    exact key
  · simp only [b2_0, Decidable.not_not] at c5
    refine g_aloadR_n dX7_chain_8 rfl rfl ?_
    refine g_iconst dX7_chain_9 (v := (-1)) (by decide) ?_
    refine n_v1i (n' := 0) dX7_chain_10 mX7_no lX7_109 rfl hW vld_x20 rfl rfl ⟨Nat.le_of_ble_eq_true rfl, Nat.le_of_ble_eq_true rfl⟩ ⟨Nat.zero_le _, Nat.zero_le _⟩ (Nat.le_of_ble_eq_true rfl) ?_
    refine wp_X7_no (j := 1) (by exact hW) (by decide) (by decide) ?_
    refine ⟨_, rfl, ?_⟩
    refine g_iret dX7_chain_13 rfl ?_
    have e : opChain X x = rfX X 1 := by
      unfold opChain
      rw [if_pos c5]
    rw [e] at h
    exact h _ (frM_sI (by decide)) (repMo_rfm hX (by decide) (by decide))
