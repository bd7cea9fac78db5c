/-! THE REFERENCE: REGISTERS, RINGING UP -/
set_option maxHeartbeats 4000000 in
set_option maxRecDepth 100000 in
theorem wp_X7_barsOf {E : Ev} {M : Mem} {Q : QT} (hW : Wi M) {X : Sys} (hX : RepMo M X) (hO : OkX X) {s n : Int32} (h : Q (some (vI (-(nI (wrg X s n))))) M) : Mth E 2 0 0 kX7_barsOf [vR (20, 0, 0), vI s, vI n] M Q := by
  refine mth_of (by decide +kernel) [some (vR (20, 0, 0)), some (vI s), some (vI n), none] (Nat.le_of_ble_eq_true rfl) rfl ?_
  refine g_aloadR_n dX7_barsOf_0 rfl rfl ?_
  refine g_iload_n dX7_barsOf_1 rfl rfl ?_
  refine n_v1i (n' := 1) dX7_barsOf_2 mX7_wanted lX7_186 rfl hW vld_x20 rfl rfl ⟨Nat.le_of_ble_eq_true rfl, Nat.le_of_ble_eq_true rfl⟩ ⟨Nat.zero_le _, Nat.zero_le _⟩ (Nat.le_of_ble_eq_true rfl) ?_
  refine wp_X7_wanted (by exact hW) hX hO ?_
  refine ⟨_, rfl, ?_⟩
  refine g_istore_3 dX7_barsOf_5 rfl ?_
  refine g_iload_n dX7_barsOf_6 rfl rfl ?_
  refine g_if_eq (tgt := 14) dX7_barsOf_7 (by decide) (fun c7 => ?_) (fun c7 => ?_)
  · have w0 := (ng_0 (wnr_lt X s)).mp c7
    obtain ⟨hin, hv1⟩ := wnr_0 w0
    obtain ⟨hs1, hs2⟩ := IN_nI hin
    have hsv := shV_in (X := X) hin
    have hsf := hX.2.2.1 _ hs2
    have hv2 : (xH X s.toNatClampNeg).1 = 1 := by rw [← hsv]; exact hv1
    have hl12 : mI M (21, 12, 0) s.toNatClampNeg = nI (lenF (shV X s)) := by rw [hsv, lenF_1 hv2]; exact (hsf.2.1 hv2).2.1
    refine g_iload_n dX7_barsOf_14 rfl rfl ?_
    refine g_if_ge (tgt := 23) dX7_barsOf_15 (by decide) (fun c15 => ?_) (fun c15 => ?_)
    · refine g_iload_n dX7_barsOf_23 rfl rfl ?_
      refine g_aloadR_n dX7_barsOf_24 rfl rfl ?_
      refine n_getR dX7_barsOf_25 fX7_62 rfl hW vld_x20 rfl rfl ?_
      refine g_iload_n dX7_barsOf_28 rfl rfl ?_
      refine n_iald (j := s.toNatClampNeg) dX7_barsOf_29 rfl hW (vld_ma (by decide : 12 < 25)) (by decide) hs1 hs2 ?_
      rw [hl12]
      refine g_icmp_le (tgt := 38) dX7_barsOf_30 (by decide) (fun c30 => ?_) (fun c30 => ?_)
      · refine g_iload_n dX7_barsOf_38 rfl rfl ?_
        refine g_bipush dX7_barsOf_39 (v := 24) (by decide) ?_
        refine g_icmp_le (tgt := 49) dX7_barsOf_41 (by decide) (fun c41 => ?_) (fun c41 => ?_)
        · refine g_iconst dX7_barsOf_49 (v := 0) (by decide) ?_
          refine g_iret dX7_barsOf_50 rfl ?_
          have w0 : wnr X s = 0 := (ng_0 (wnr_lt X s)).mp (by first | exact c7 | exact Decidable.not_not.mp c7)
          have e : wrg X s n = 0 := by unfold wrg; rw [if_neg (not_not_intro w0), if_neg (not_not_intro c15), if_neg (not_not_intro c30), if_neg (not_not_intro c41)]
          rw [e] at h
          exact h
        · refine g_bipush dX7_barsOf_44 (v := (-6)) (by decide) ?_
          refine g_goto (tgt := 50) dX7_barsOf_46 (by decide) ?_
          refine g_iret dX7_barsOf_50 rfl ?_
          have w0 : wnr X s = 0 := (ng_0 (wnr_lt X s)).mp (by first | exact c7 | exact Decidable.not_not.mp c7)
          have e : wrg X s n = 6 := by unfold wrg; rw [if_neg (not_not_intro w0), if_neg (not_not_intro c15), if_neg (not_not_intro c30), if_pos c41]
          rw [e] at h
          exact h
      · refine g_bipush dX7_barsOf_33 (v := (-5)) (by decide) ?_
        refine g_goto (tgt := 50) dX7_barsOf_35 (by decide) ?_
        refine g_iret dX7_barsOf_50 rfl ?_
        have w0 : wnr X s = 0 := (ng_0 (wnr_lt X s)).mp (by first | exact c7 | exact Decidable.not_not.mp c7)
        have e : wrg X s n = 5 := by unfold wrg; rw [if_neg (not_not_intro w0), if_neg (not_not_intro c15), if_pos c30]
        rw [e] at h
        exact h
    · refine g_bipush dX7_barsOf_18 (v := (-4)) (by decide) ?_
      refine g_goto (tgt := 50) dX7_barsOf_20 (by decide) ?_
      refine g_iret dX7_barsOf_50 rfl ?_
      have w0 : wnr X s = 0 := (ng_0 (wnr_lt X s)).mp (by first | exact c7 | exact Decidable.not_not.mp c7)
      have e : wrg X s n = 4 := by unfold wrg; rw [if_neg (not_not_intro w0), if_pos (fun q => c15 q)]
      rw [e] at h
      exact h
  · refine g_iload_n dX7_barsOf_10 rfl rfl ?_
    refine g_goto (tgt := 50) dX7_barsOf_11 (by decide) ?_
    refine g_iret dX7_barsOf_50 rfl ?_
    have e : wrg X s n = wnr X s := by unfold wrg; rw [if_pos (fun q => c7 (by rw [q]; rfl))]
    rw [e] at h
    exact h
set_option maxHeartbeats 4000000 in
set_option maxRecDepth 100000 in
theorem lp_X7_wrongE {E : Ev} {M0 : Mem} {Q : QT} (hW0 : Wi M0) {S : Sc} (hO : OkS S) {M : Mem} (hf : FrI DQ M0 M) (hSv : RepSv M 22 S) {a1 a2 a4 : Option AV} {r : Int32} (h : ∀ M', FrI DQ M0 M' → RepR M' S → Q (some (vI r)) M') : G E (rm 4 0 0) kX7_wrongIn (ZQ E Q 0 0) 0 0 52 [some (vR (20, 0, 0)), a1, a2, some (vI r), a4] [] M := by
  have hW := hf.W hW0
  refine g_aloadR_n dX7_wrongIn_52 rfl rfl ?_
  refine g_aloadR_n dX7_wrongIn_53 rfl rfl ?_
  refine n_getR dX7_wrongIn_54 fX7_93 rfl hW vld_x20 rfl rfl ?_
  refine g_iconst dX7_wrongIn_57 (v := 1) (by decide) ?_
  refine n_v2v (n' := 1) dX7_wrongIn_58 mX7_all lX7_189 rfl hW vld_x20 rfl rfl ⟨Nat.le_of_ble_eq_true rfl, Nat.le_of_ble_eq_true rfl⟩ ⟨Nat.zero_le _, Nat.zero_le _⟩ (Nat.le_of_ble_eq_true rfl) ?_
  refine wp_X7_all1 (b := 22) (by exact hW) (Or.inr (Or.inr rfl)) hSv hO (fun M3 hf3 hR3 => ?_)
  have hW1 := hf3.W (by exact hW)
  refine ⟨rfl, ?_⟩
  refine g_iload_n dX7_wrongIn_61 rfl rfl ?_
  refine g_iret dX7_wrongIn_62 rfl ?_
  exact h M3 (hf.tr (hf3.mono (fun b f q => Or.inl (Or.inr q)))) hR3
set_option maxHeartbeats 4000000 in
set_option maxRecDepth 100000 in
theorem lp_X7_wrongIn {E : Ev} {M0 : Mem} {Q : QT} (hW0 : Wi M0) {S : Sc} (hO : OkS S) {s n : Nat} (hs : s < 8) (hn : n ≤ 24) {reg : Nat → Int32} (hreg : ∀ i, i < n → (mJ M0 (21, 14, 0) (160 * s + i)).toInt32 = reg i)  : ∀ j, j ≤ n → ∀ (M : Mem), FrI DQ M0 M → RepR M (itS S j) → RepSv M 22 S → (∀ M', FrI DQ M0 M' → RepR M' S → Q (some (vI (fwR reg S (n - j) j))) M') → G E (rm 4 0 0) kX7_wrongIn (ZQ E Q 0 0) 0 0 14 [some (vR (20, 0, 0)), some (vI (nI s)), some (vI (nI n)), some (vI (-1)), some (vI (nI j))] [] M := by
  refine up_loop n (fun j hj ih M hf hRj hSv h => ?_)
  have hW := hf.W hW0
  have hOj := hO.it j
  refine g_iload dX7_wrongIn_14 rfl ?_
  refine g_iload_n dX7_wrongIn_16 rfl rfl ?_
  refine g_icmp_ge (tgt := 52) dX7_wrongIn_17 (by decide) (fun c17 => ?_) (fun c17 => ?_)
  · have hjn2 : j = n := by rw [nI_leI (by omega) (by omega)] at c17; omega
    subst hjn2
    rw [Nat.sub_self] at h
    exact lp_X7_wrongE hW0 hO hf hSv h
  · have hjn : j < n := by rw [nI_leI (by omega) (by omega)] at c17; omega
    refine g_iload_n dX7_wrongIn_20 rfl rfl ?_
    refine g_iconst dX7_wrongIn_21 (v := (-1)) (by decide) ?_
    refine g_icmp_ne (tgt := 52) dX7_wrongIn_22 (by decide) (fun c22 => ?_) (fun c22 => ?_)
    · exact absurd c22 (by decide)
    · refine g_aloadR_n dX7_wrongIn_25 rfl rfl ?_
      refine n_v0v (n' := 3) dX7_wrongIn_26 mX7_passes lX7_230 rfl hW vld_x20 rfl rfl ⟨Nat.le_of_ble_eq_true rfl, Nat.le_of_ble_eq_true rfl⟩ ⟨Nat.zero_le _, Nat.zero_le _⟩ (Nat.le_of_ble_eq_true rfl) ?_
      refine wp_X7_passes (by exact hW) hRj hOj (fun M1 hf1 hR1 ho1 => ?_)
      have hW1 := hf1.W (by exact hW)
      refine ⟨rfl, ?_⟩
      refine g_aloadR_n dX7_wrongIn_29 rfl rfl ?_
      refine n_getI dX7_wrongIn_30 fX7_205 rfl hW1 vld_x20 (Or.inl rfl) ?_
      rw [show mI M1 (20, 0, 0) 37 = nI (eveM (itS S j)) from ho1.2.1]
      refine g_aloadR_n dX7_wrongIn_33 rfl rfl ?_
      refine g_iload_n dX7_wrongIn_34 rfl rfl ?_
      refine g_iload dX7_wrongIn_35 rfl ?_
      refine n_v2i (n' := 0) dX7_wrongIn_37 mX7_intAt lX7_258 rfl hW1 vld_x20 rfl rfl ⟨Nat.le_of_ble_eq_true rfl, Nat.le_of_ble_eq_true rfl⟩ ⟨Nat.zero_le _, Nat.zero_le _⟩ (Nat.le_of_ble_eq_true rfl) ?_
      refine wp_X7_intAt (by exact hW1) (s := s) (i := j) rfl rfl hs (by omega) ?_
      refine ⟨_, rfl, ?_⟩
      rw [show (mJ M1 (21, 14, 0) (160 * s + j)).toInt32 = reg j by rw [← hreg j hjn]; unfold mJ; rw [hf1.1, hf.1]]
      have hfw : fwR reg S (n - j) j = if reg j = nI (eveM (itS S j)) then fwR reg S (n - (j + 1)) (j + 1) else nI j := by
        obtain ⟨d, hd⟩ : ∃ d, n - j = d + 1 := ⟨n - j - 1, by omega⟩
        rw [hd, show n - (j + 1) = d by omega]; rfl
      refine g_icmp_eq (tgt := 46) dX7_wrongIn_40 (by decide) (fun c40 => ?_) (fun c40 => ?_)
      · refine g_iinc_4 (v := nI (j + 1)) dX7_wrongIn_46 rfl (nI_inc j) ?_
        refine g_goto (tgt := 14) dX7_wrongIn_49 (by decide) ?_
        have c40 : nI (eveM (itS S j)) = reg j := c40
        refine ih hjn M1 (hf.tr (hf1.mono DP_DQ)) hR1 (hSv.fr hf1 (fun i => DP_h (Or.inr ⟨rfl, by decide⟩))) (fun M' h1 h2 => ?_)
        have key := h M' h1 h2
        rw [hfw, if_pos c40.symm] at key
        exact key
      · refine g_iload dX7_wrongIn_43 rfl ?_
        refine g_istore_3 dX7_wrongIn_45 rfl ?_
        refine g_iinc_4 (v := nI (j + 1)) dX7_wrongIn_46 rfl (nI_inc j) ?_
        refine g_goto (tgt := 14) dX7_wrongIn_49 (by decide) ?_
        have hfw2 : fwR reg S (n - j) j = nI j := hfw.trans (if_neg (fun q => c40 q.symm))
        have hj0 : ¬ nI j = -1 := fun q => by have := nI_toInt (n := j) (by omega); rw [q] at this; simp only [zcs] at this; omega
        refine g_iload dX7_wrongIn_14 rfl ?_
        refine g_iload_n dX7_wrongIn_16 rfl rfl ?_
        refine g_icmp_ge (tgt := 52) dX7_wrongIn_17 (by decide) (fun c17 => ?_) (fun c17 => ?_)
        · exact lp_X7_wrongE hW0 hO (hf.tr (hf1.mono DP_DQ)) (hSv.fr hf1 (fun i => DP_h (Or.inr ⟨rfl, by decide⟩))) (fun M' h1 h2 => by rw [← hfw2]; exact h M' h1 h2)
        · refine g_iload_n dX7_wrongIn_20 rfl rfl ?_
          refine g_iconst dX7_wrongIn_21 (v := (-1)) (by decide) ?_
          refine g_icmp_ne (tgt := 52) dX7_wrongIn_22 (by decide) (fun c22 => ?_) (fun c22 => ?_)
          · exact lp_X7_wrongE hW0 hO (hf.tr (hf1.mono DP_DQ)) (hSv.fr hf1 (fun i => DP_h (Or.inr ⟨rfl, by decide⟩))) (fun M' h1 h2 => by rw [← hfw2]; exact h M' h1 h2)
          · exact absurd (by first | exact c22 | exact Decidable.not_not.mp c22) hj0
set_option maxHeartbeats 4000000 in
set_option maxRecDepth 100000 in
theorem wp_X7_wrongIn {E : Ev} {M : Mem} {Q : QT} (hW : Wi M) {S : Sc} (hR : RepR M S) (hO : OkS S) {s n : Nat} {s1 n1 : Int32} (hs1 : s1 = nI s) (hn1 : n1 = nI n) (hs : s < 8) (hn : n ≤ 24) {reg : Nat → Int32} (hreg : ∀ i, i < n → (mJ M (21, 14, 0) (160 * s + i)).toInt32 = reg i) (h : ∀ M', FrI DQ M M' → RepR M' S → Q (some (vI (fwR reg S n 0))) M') : Mth E 4 0 0 kX7_wrongIn [vR (20, 0, 0), vI s1, vI n1] M Q := by
  subst hs1 hn1
  refine mth_of (by decide +kernel) [some (vR (20, 0, 0)), some (vI (nI s)), some (vI (nI n)), none, none] (Nat.le_of_ble_eq_true rfl) rfl ?_
  refine g_iconst dX7_wrongIn_0 (v := (-1)) (by decide) ?_
  refine g_istore_3 dX7_wrongIn_1 rfl ?_
  refine g_aloadR_n dX7_wrongIn_2 rfl rfl ?_
  refine g_aloadR_n dX7_wrongIn_3 rfl rfl ?_
  refine n_getR dX7_wrongIn_4 fX7_93 rfl hW vld_x20 rfl rfl ?_
  refine g_iconst dX7_wrongIn_7 (v := 0) (by decide) ?_
  refine n_v2v (n' := 1) dX7_wrongIn_8 mX7_all lX7_189 rfl hW vld_x20 rfl rfl ⟨Nat.le_of_ble_eq_true rfl, Nat.le_of_ble_eq_true rfl⟩ ⟨Nat.zero_le _, Nat.zero_le _⟩ (Nat.le_of_ble_eq_true rfl) ?_
  refine wp_X7_all0 (b := 22) (by exact hW) hR hO (Or.inr (Or.inr rfl)) (fun M1 hf1 hS1 => ?_)
  have hW1 := hf1.W (by exact hW)
  have hR1 := hR.fr hf1 (fun j _ q => by cases q) (fun i f hf9 q => by injection q with _ q; injection q with q _; omega)
  refine ⟨rfl, ?_⟩
  refine g_iconst dX7_wrongIn_11 (v := 0) (by decide) ?_
  refine g_istore_4 dX7_wrongIn_12 rfl ?_
  exact lp_X7_wrongIn hW hO hs hn hreg 0 (Nat.zero_le _) M1 (hf1.mono (fun b f q => by subst q; exact Or.inr (Or.inr ⟨rfl, rfl⟩))) hR1 hS1 h
theorem wrgm_0 {X : Sys} {s n : Int32} (h : wrg X s n = 0) : IN s 8 ∧ (shV X s).1 = 1 ∧ IN n 25 ∧ n.toNatClampNeg ≤ lenF (shV X s) := by
  unfold wrg at h
  by_cases h1 : wnr X s = 0
  · rw [if_neg (not_not_intro h1)] at h
    by_cases h2 : 0 ≤ n
    · rw [if_neg (not_not_intro h2)] at h
      by_cases h3 : n ≤ nI (lenF (shV X s))
      · rw [if_neg (not_not_intro h3)] at h
        by_cases h4 : n ≤ 24
        · have hin : IN n 25 := by simp only [Int32.le_iff_toInt_le, zcs] at h2 h4; exact ⟨h2, by omega⟩
          obtain ⟨e1, e2⟩ := IN_nI hin
          refine ⟨(wnr_0 h1).1, (wnr_0 h1).2, hin, ?_⟩
          have h5 := congrArg Int32.toInt e1
          rw [nI_toInt (by omega)] at h5
          rw [Int32.le_iff_toInt_le, h5] at h3
          by_cases hl : lenF (shV X s) < 2 ^ 31
          · rw [nI_toInt hl] at h3; omega
          · omega
        · rw [if_pos h4] at h; cases h
      · rw [if_pos h3] at h; cases h
    · rw [if_pos h2] at h; cases h
  · rw [if_pos h1] at h; exact absurd h h1
theorem reg_eq {M : Mem} {X : Sys} (hX : RepMo M X) {s n : Int32} (h0 : wrg X s n = 0) : ∀ i, i < n.toNatClampNeg → (mJ M (21, 14, 0) (160 * s.toNatClampNeg + i)).toInt32 = regX X s i := by
  intro i hi
  obtain ⟨h1, h2, h3, h4⟩ := wrgm_0 h0
  obtain ⟨-, hs2⟩ := IN_nI h1
  obtain ⟨-, hn2⟩ := IN_nI h3
  have hsv := shV_in (X := X) h1
  have hv2 : (xH X s.toNatClampNeg).1 = 1 := by rw [← hsv]; exact h2
  have hsf := ((hX.2.2.1 _ hs2).2.1 hv2).2.2 i (by omega)
  unfold regX elF
  have hcl : (nI i).toNatClampNeg = i := nI_clamp (by omega)
  have hti : (nI i).toInt = (i : Int) := nI_toInt (by omega)
  rw [if_pos ⟨by omega, by omega⟩, hcl, hsv, hsf]
set_option maxHeartbeats 4000000 in
set_option maxRecDepth 100000 in
theorem wp_X7_judge {E : Ev} {M : Mem} {Q : QT} (hW : Wi M) {X : Sys} (hX : RepMo M X) (hO : OkX X) {s n : Int32} (h : ∀ M', FrM M M' → RepMo M' (opJudge X s n).2 → Q (some (vI (opJudge X s n).1)) M') : Mth E 5 0 0 kX7_judge [vR (20, 0, 0), vI s, vI n] M Q := by
  have hwl := wrg_lt X s n
  refine mth_of (by decide +kernel) [some (vR (20, 0, 0)), some (vI s), some (vI n), none] (Nat.le_of_ble_eq_true rfl) rfl ?_
  refine g_aloadR_n dX7_judge_0 rfl rfl ?_
  refine g_iload_n dX7_judge_1 rfl rfl ?_
  refine g_iload_n dX7_judge_2 rfl rfl ?_
  refine n_v2i (n' := 2) dX7_judge_3 mX7_barsOf lX7_261 rfl hW vld_x20 rfl rfl ⟨Nat.le_of_ble_eq_true rfl, Nat.le_of_ble_eq_true rfl⟩ ⟨Nat.zero_le _, Nat.zero_le _⟩ (Nat.le_of_ble_eq_true rfl) ?_
  refine wp_X7_barsOf (by exact hW) hX hO ?_
  refine ⟨_, rfl, ?_⟩
  refine g_istore_3 dX7_judge_6 rfl ?_
  refine g_iload_n dX7_judge_7 rfl rfl ?_
  refine g_if_eq (tgt := 19) dX7_judge_8 (by decide) (fun c8 => ?_) (fun c8 => ?_)
  · have w0 := (ng_0 hwl).mp c8
    obtain ⟨hin, hv1, hin2, hnl⟩ := wrgm_0 w0
    obtain ⟨hs1, hs2⟩ := IN_nI hin
    obtain ⟨hn1, hn2⟩ := IN_nI hin2
    have hreg := reg_eq hX w0
    refine g_aloadR_n dX7_judge_19 rfl rfl ?_
    refine g_iload_n dX7_judge_20 rfl rfl ?_
    refine g_iload_n dX7_judge_21 rfl rfl ?_
    refine n_v2i (n' := 4) dX7_judge_22 mX7_wrongIn lX7_264 rfl hW vld_x20 rfl rfl ⟨Nat.le_of_ble_eq_true rfl, Nat.le_of_ble_eq_true rfl⟩ ⟨Nat.zero_le _, Nat.zero_le _⟩ (Nat.le_of_ble_eq_true rfl) ?_
    refine wp_X7_wrongIn (S := xS X) (by exact hW) hX.1 hO.1 hs1 hn1 hs2 (by omega) hreg (fun M1 hf1 hR1 => ?_)
    have hW2 := hf1.W (by exact hW)
    refine ⟨_, rfl, ?_⟩
    refine g_iret dX7_judge_25 rfl ?_
    have e : opJudge X s n = (fwR (regX X s) (xS X) n.toNatClampNeg 0, X) := by
      unfold opJudge
      rw [if_neg (not_not_intro w0)]
    rw [e] at h
    have hdm := hf1.mono DQ_DM
    exact h _ (frM_DM hdm) (hX.dm hdm hR1)
  · have w0 : ¬ wrg X s n = 0 := fun q => c8 ((ng_0 hwl).mpr q)
    refine g_aloadR_n dX7_judge_11 rfl rfl ?_
    refine g_iload_n dX7_judge_12 rfl rfl ?_
    refine n_v1i (n' := 0) dX7_judge_13 mX7_noTen lX7_128 rfl hW vld_x20 rfl rfl ⟨Nat.le_of_ble_eq_true rfl, Nat.le_of_ble_eq_true rfl⟩ ⟨Nat.zero_le _, Nat.zero_le _⟩ (Nat.le_of_ble_eq_true rfl) ?_
    refine wp_X7_noTen (by exact hW) (j := wrg X s n) rfl hwl ?_
    refine ⟨_, rfl, ?_⟩
    refine g_goto (tgt := 25) dX7_judge_16 (by decide) ?_
    refine g_iret dX7_judge_25 rfl ?_
    have e : opJudge X s n = ((rfX X (wrg X s n)).1 - 10, (rfX X (wrg X s n)).2) := by
      unfold opJudge
      rw [if_pos w0]
    rw [e] at h
    exact h _ (frM_sI (by decide)) (repMo_rfm hX (by omega) hwl)
def rfF (X : Sys) (s : Int32) (n x : Nat) : Nat → Nat
  | 0 => 0
  | j + 1 => rfF X s n x j + (if frW X s n x (j + 1) = true then 2 ^ j else 0)
theorem rfF_lt (X : Sys) (s : Int32) (n x : Nat) : ∀ j, rfF X s n x j < 2 ^ j
  | 0 => by simp [rfF]
  | j + 1 => by
    have := rfF_lt X s n x j
    simp only [rfF, Nat.pow_succ]
    split <;> omega
theorem frF_eq (X : Sys) (s : Int32) (n x : Nat) : ∀ j, frF X s n x (j + 1) = rfF X s n x j + (if frW X s n x 0 = true then 2 ^ (xS X).1 else 0)
  | 0 => by simp [frF, rfF, frB]
  | j + 1 => by
    rw [frF, frF_eq X s n x j, rfF]
    have : frB (xS X) (j + 1) = j := if_neg (by omega)
    rw [this]; omega
theorem frW_0 (X : Sys) (s : Int32) (n x : Nat) (hx : x < 10) : frW X s n x 0 = (fwR (regX X s) (upS (xS X) x 4 (-1)) n 0 == -1) := by
  have e : frO (xS X) 0 = -1 := if_pos rfl
  unfold frW
  rw [e]
  have : ((-1 : Int32) == nI x) = false := by
    rw [beq_eq_false_iff_ne]; intro q
    have h1 := congrArg Int32.toInt q
    rw [nI_toInt (by omega)] at h1; simp only [zcs] at h1; omega
  rw [this]; rfl
theorem frW_s (X : Sys) (s : Int32) (n x j : Nat) (hx : x < 10) (hj : j < 10) : frW X s n x (j + 1) = (!(j == x) && fwR (regX X s) (upS (xS X) x 4 (nI j)) n 0 == -1) := by
  have e : frO (xS X) (j + 1) = nI j := if_neg (by omega)
  unfold frW
  rw [e]
  have : (nI j == nI x) = (j == x) := by
    by_cases q : j = x
    · subst q; simp
    · have : ¬ nI j = nI x := fun z => q ((nI_eq (by omega) (by omega)).mp z)
      rw [beq_eq_false_iff_ne.mpr this, beq_eq_false_iff_ne.mpr q]
  rw [this]
theorem RepR.u4 {M : Mem} {S : Sc} {x : Nat} {y z : Int32} (h : RepR M (upS S x 4 y)) : RepR (sI M (21, 5, 0) x z) (upS S x 4 z) := (h.up (i := x) (f := 4) (x := z)).cg rfl (fun _ _ _ => rfl) (fun i f _ _ => by
  simp only [upS]
  by_cases q : i = x ∧ f = 4
  · rw [if_pos q, if_pos q]
  · rw [if_neg q, if_neg q, if_neg q])
theorem RepR.u4b {M : Mem} {S : Sc} {x : Nat} {y : Int32} (h : RepR M (upS S x 4 y)) : RepR (sI M (21, 5, 0) x (S.2.2 x 4)) S := h.u4.cg rfl (fun _ _ _ => rfl) (fun i f _ _ => by
  simp only [upS]
  by_cases q : i = x ∧ f = 4
  · rw [if_pos q, q.1, q.2]
  · rw [if_neg q])
theorem RepR.u0 {M : Mem} {S : Sc} {x : Nat} (h : RepR M S) : RepR M (upS S x 4 (S.2.2 x 4)) := h.cg rfl (fun _ _ _ => rfl) (fun i f _ _ => by
  simp only [upS]
  by_cases q : i = x ∧ f = 4
  · rw [if_pos q, q.1, q.2]
  · rw [if_neg q])
theorem fr5 {M : Mem} {i : Nat} {x : Int32} : FrI DQ M (sI M (21, 5, 0) i x) := fr_sI (Or.inl (Or.inr (Or.inr ⟨rfl, by decide, by decide⟩)))
theorem DQ_J {M M' : Mem} (h : FrI DQ M M') (b : Id) : mJ M' b = mJ M b := by unfold mJ; rw [h.1]
set_option maxHeartbeats 4000000 in
set_option maxRecDepth 100000 in
theorem lp_X7_friendsE {E : Ev} {M0 : Mem} {Q : QT} (hW0 : Wi M0) {X : Sys} (hO : OkS (xS X)) {s n : Int32} {x : Nat} (hx : x < (xS X).1) (hs1 : s = nI s.toNatClampNeg) (hs2 : s.toNatClampNeg < 8) (hn1 : n = nI n.toNatClampNeg) (hn2 : n.toNatClampNeg < 25) (hreg0 : ∀ i, i < n.toNatClampNeg → (mJ M0 (21, 14, 0) (160 * s.toNatClampNeg + i)).toInt32 = regX X s i) {M : Mem} {y : Int32} (hf : FrI DQ M0 M) (hR : RepR M (upS (xS X) x 4 y)) {a7 : Option AV} (h : ∀ M', FrI DQ M0 M' → RepR M' (xS X) → Q (some (vI (nI (frF X s n.toNatClampNeg x ((xS X).1 + 1))))) M') : G E (rm 5 0 0) kX7_friends (ZQ E Q 0 0) 0 0 97 [some (vR (20, 0, 0)), some (vI s), some (vI n), some (vI (nI x)), some (vI 0), some (vI ((xS X).2.2 x 4)), some (vI (nI (rfF X s n.toNatClampNeg x (xS X).1))), a7] [] M := by
  have hs10 : (xS X).1 ≤ 10 := hO.1
  have hW := hf.W hW0
  have hsz : mI M (20, 0, 0) 0 = nI (xS X).1 := hR.1
  have hregb : ∀ i, i < n.toNatClampNeg → (mJ M (21, 14, 0) (160 * s.toNatClampNeg + i)).toInt32 = regX X s i := fun i hi => by rw [DQ_J hf]; exact hreg0 i hi
  have hreg := hregb
  have hrl := rfF_lt X s n.toNatClampNeg x (xS X).1
  have hrl2 := pow_le10 hO.1
  refine g_aloadR_n dX7_friends_97 rfl rfl ?_
  refine n_getR dX7_friends_98 fX7_41 rfl hW vld_x20 rfl rfl ?_
  refine g_iload_n dX7_friends_101 rfl rfl ?_
  refine g_iconst dX7_friends_102 (v := (-1)) (by decide) ?_
  refine n_iast (j := x) dX7_friends_103 rfl hW (vld_ma (by decide : 5 < 25)) (by decide) rfl (show x < 10 by omega) ?_
  refine g_aloadR_n dX7_friends_104 rfl rfl ?_
  refine g_iload_n dX7_friends_105 rfl rfl ?_
  refine g_iload_n dX7_friends_106 rfl rfl ?_
  refine n_v2i (n' := 4) dX7_friends_107 mX7_wrongIn lX7_264 rfl hW vld_x20 rfl rfl ⟨Nat.le_of_ble_eq_true rfl, Nat.le_of_ble_eq_true rfl⟩ ⟨Nat.zero_le _, Nat.zero_le _⟩ (Nat.le_of_ble_eq_true rfl) ?_
  refine wp_X7_wrongIn (S := upS (xS X) x 4 (-1)) (by exact hW) hR.u4 (hO.up4 (Or.inl rfl)) hs1 hn1 hs2 (by omega) hreg (fun M1 hf1 hR1 => ?_)
  have hW1 := hf1.W (by exact hW)
  refine ⟨_, rfl, ?_⟩
  refine g_iconst dX7_friends_110 (v := (-1)) (by decide) ?_
  refine g_icmp_ne (tgt := 125) dX7_friends_111 (by decide) (fun c111 => ?_) (fun c111 => ?_)
  · have hw0 : ¬ frW X s n.toNatClampNeg x 0 = true := by rw [frW_0 _ _ _ _ (by omega)]; simpa using c111
    rw [frF_eq, if_neg hw0, Nat.add_zero] at h
    refine g_aloadR_n dX7_friends_125 rfl rfl ?_
    refine n_getR dX7_friends_126 fX7_41 rfl hW1 vld_x20 rfl rfl ?_
    refine g_iload_n dX7_friends_129 rfl rfl ?_
    refine g_iload dX7_friends_130 rfl ?_
    refine n_iast (j := x) dX7_friends_132 rfl hW1 (vld_ma (by decide : 5 < 25)) (by decide) rfl (show x < 10 by omega) ?_
    refine g_iload dX7_friends_133 rfl ?_
    refine g_iret dX7_friends_135 rfl ?_
    exact h _ (((hf.tr fr5).tr hf1).tr fr5) hR1.u4b
  · refine g_iload dX7_friends_114 rfl ?_
    refine g_iconst dX7_friends_116 (v := 1) (by decide) ?_
    refine g_aloadR_n dX7_friends_117 rfl rfl ?_
    refine n_getI dX7_friends_118 fX7_102 rfl hW1 vld_x20 (Or.inl rfl) ?_
    rw [show mI M1 (20, 0, 0) 0 = nI (xS X).1 from hR1.1]
    refine g_ishl dX7_friends_121 ?_
    rw [bt_sh (by omega)]
    refine g_iadd dX7_friends_122 ?_
    rw [nI_add]
    refine g_istore_6 dX7_friends_123 rfl ?_
    have c111 : fwR (regX X s) (upS (xS X) x 4 (-1)) n.toNatClampNeg 0 = -1 := by first | exact c111 | exact Decidable.not_not.mp c111
    have hw0 : frW X s n.toNatClampNeg x 0 = true := by rw [frW_0 _ _ _ _ (by omega)]; simpa using c111
    rw [frF_eq, if_pos hw0] at h
    refine g_aloadR_n dX7_friends_125 rfl rfl ?_
    refine n_getR dX7_friends_126 fX7_41 rfl hW1 vld_x20 rfl rfl ?_
    refine g_iload_n dX7_friends_129 rfl rfl ?_
    refine g_iload dX7_friends_130 rfl ?_
    refine n_iast (j := x) dX7_friends_132 rfl hW1 (vld_ma (by decide : 5 < 25)) (by decide) rfl (show x < 10 by omega) ?_
    refine g_iload dX7_friends_133 rfl ?_
    refine g_iret dX7_friends_135 rfl ?_
    exact h _ (((hf.tr fr5).tr hf1).tr fr5) hR1.u4b
set_option maxHeartbeats 4000000 in
set_option maxRecDepth 100000 in
theorem lp_X7_friends {E : Ev} {M0 : Mem} {Q : QT} (hW0 : Wi M0) {X : Sys} (hO : OkS (xS X)) {s n : Int32} {x : Nat} (hx : x < (xS X).1) (hs1 : s = nI s.toNatClampNeg) (hs2 : s.toNatClampNeg < 8) (hn1 : n = nI n.toNatClampNeg) (hn2 : n.toNatClampNeg < 25) (hreg0 : ∀ i, i < n.toNatClampNeg → (mJ M0 (21, 14, 0) (160 * s.toNatClampNeg + i)).toInt32 = regX X s i) (h : ∀ M', FrI DQ M0 M' → RepR M' (xS X) → Q (some (vI (nI (frF X s n.toNatClampNeg x ((xS X).1 + 1))))) M') : ∀ j, j ≤ (xS X).1 → ∀ (M : Mem) (y : Int32), FrI DQ M0 M → RepR M (upS (xS X) x 4 y) → G E (rm 5 0 0) kX7_friends (ZQ E Q 0 0) 0 0 46 [some (vR (20, 0, 0)), some (vI s), some (vI n), some (vI (nI x)), some (vI 0), some (vI ((xS X).2.2 x 4)), some (vI (nI (rfF X s n.toNatClampNeg x j))), some (vI (nI j))] [] M := by
  refine up_loop (xS X).1 (fun j hj ih M y hf hR => ?_)
  have hs10 : (xS X).1 ≤ 10 := hO.1
  have hW := hf.W hW0
  have hsz : mI M (20, 0, 0) 0 = nI (xS X).1 := hR.1
  have hregb : ∀ i, i < n.toNatClampNeg → (mJ M (21, 14, 0) (160 * s.toNatClampNeg + i)).toInt32 = regX X s i := fun i hi => by rw [DQ_J hf]; exact hreg0 i hi
  have hreg := hregb
  refine g_iload dX7_friends_46 rfl ?_
  refine g_aloadR_n dX7_friends_48 rfl rfl ?_
  refine n_getI dX7_friends_49 fX7_102 rfl hW vld_x20 (Or.inl rfl) ?_
  refine g_icmp_ge (tgt := 97) dX7_friends_52 (by decide) (fun c52 => ?_) (fun c52 => ?_)
  · rw [hsz] at c52
    have hjn2 : j = (xS X).1 := by rw [nI_leI (by omega) (by omega)] at c52; omega
    subst hjn2
    exact lp_X7_friendsE hW0 hO hx hs1 hs2 hn1 hn2 hreg0 hf hR h
  · rw [hsz] at c52
    have hjn : j < (xS X).1 := by rw [nI_leI (by omega) (by omega)] at c52; omega
    refine g_iload dX7_friends_55 rfl ?_
    refine g_iload_n dX7_friends_57 rfl rfl ?_
    refine g_icmp_ne (tgt := 64) dX7_friends_58 (by decide) (fun c58 => ?_) (fun c58 => ?_)
    · refine g_aloadR_n dX7_friends_64 rfl rfl ?_
      refine n_getR dX7_friends_65 fX7_41 rfl hW vld_x20 rfl rfl ?_
      refine g_iload_n dX7_friends_68 rfl rfl ?_
      refine g_iload dX7_friends_69 rfl ?_
      refine n_iast (j := x) dX7_friends_71 rfl hW (vld_ma (by decide : 5 < 25)) (by decide) rfl (show x < 10 by omega) ?_
      refine g_aloadR_n dX7_friends_72 rfl rfl ?_
      refine g_iload_n dX7_friends_73 rfl rfl ?_
      refine g_iload_n dX7_friends_74 rfl rfl ?_
      refine n_v2i (n' := 4) dX7_friends_75 mX7_wrongIn lX7_264 rfl hW vld_x20 rfl rfl ⟨Nat.le_of_ble_eq_true rfl, Nat.le_of_ble_eq_true rfl⟩ ⟨Nat.zero_le _, Nat.zero_le _⟩ (Nat.le_of_ble_eq_true rfl) ?_
      refine wp_X7_wrongIn (S := upS (xS X) x 4 (nI j)) (by exact hW) hR.u4 (hO.up4 (Or.inr (IN_of hjn (by omega)))) hs1 hn1 hs2 (by omega) hreg (fun M1 hf1 hR1 => ?_)
      have hW1 := hf1.W (by exact hW)
      refine ⟨_, rfl, ?_⟩
      refine g_iconst dX7_friends_78 (v := (-1)) (by decide) ?_
      refine g_icmp_ne (tgt := 91) dX7_friends_79 (by decide) (fun c79 => ?_) (fun c79 => ?_)
      · refine g_iinc_7 (v := nI (j + 1)) dX7_friends_91 rfl (nI_inc j) ?_
        refine g_goto (tgt := 46) dX7_friends_94 (by decide) ?_
        have hne : ¬ j = x := fun q => c58 (by rw [q])
        have eb : rfF X s n.toNatClampNeg x (j + 1) = rfF X s n.toNatClampNeg x j := by
          rw [rfF, frW_s _ _ _ _ _ (by omega) (by omega)]; simp [c79]
        have key := ih hjn M1 _ ((hf.tr fr5).tr hf1) hR1
        rw [eb] at key
        exact key
      · refine g_iload dX7_friends_82 rfl ?_
        refine g_iconst dX7_friends_84 (v := 1) (by decide) ?_
        refine g_iload dX7_friends_85 rfl ?_
        refine g_ishl dX7_friends_87 ?_
        rw [bt_sh (by omega)]
        refine g_iadd dX7_friends_88 ?_
        rw [nI_add]
        refine g_istore_6 dX7_friends_89 rfl ?_
        refine g_iinc_7 (v := nI (j + 1)) dX7_friends_91 rfl (nI_inc j) ?_
        refine g_goto (tgt := 46) dX7_friends_94 (by decide) ?_
        have hne : ¬ j = x := fun q => c58 (by rw [q])
        have c79 : fwR (regX X s) (upS (xS X) x 4 (nI j)) n.toNatClampNeg 0 = -1 := by first | exact c79 | exact Decidable.not_not.mp c79
        have eb : rfF X s n.toNatClampNeg x (j + 1) = rfF X s n.toNatClampNeg x j + 2 ^ j := by
          rw [rfF, frW_s _ _ _ _ _ (by omega) (by omega)]; simp [c79, hne]
        have key := ih hjn M1 _ ((hf.tr fr5).tr hf1) hR1
        rw [eb] at key
        exact key
    · refine g_goto (tgt := 91) dX7_friends_61 (by decide) ?_
      refine g_iinc_7 (v := nI (j + 1)) dX7_friends_91 rfl (nI_inc j) ?_
      refine g_goto (tgt := 46) dX7_friends_94 (by decide) ?_
      have hjx : j = x := by
        have c58 : nI j = nI x := by first | exact c58 | exact Decidable.not_not.mp c58
        exact (nI_eq (by omega) (by omega)).mp c58
      have eb : rfF X s n.toNatClampNeg x (j + 1) = rfF X s n.toNatClampNeg x j := by
        rw [rfF, frW_s _ _ _ _ _ (by omega) (by omega), hjx]; simp
      have key := ih hjn M _ hf hR
      rw [eb] at key
      exact key
set_option maxHeartbeats 4000000 in
set_option maxRecDepth 100000 in
theorem wp_X7_friends {E : Ev} {M : Mem} {Q : QT} (hW : Wi M) {X : Sys} (hX : RepMo M X) (hO : OkX X) {s n x : Int32} (h : ∀ M', FrM M M' → RepMo M' (opFriends X s n x).2 → Q (some (vI (opFriends X s n x).1)) M') : Mth E 5 0 0 kX7_friends [vR (20, 0, 0), vI s, vI n, vI x] M Q := by
  have hsz := hX.1.1
  have hs10 : (xS X).1 ≤ 10 := hO.1.1
  have hwl := wrg_lt X s n
  refine mth_of (by decide +kernel) [some (vR (20, 0, 0)), some (vI s), some (vI n), some (vI x), none, none, none, none] (Nat.le_of_ble_eq_true rfl) rfl ?_
  refine g_aloadR_n dX7_friends_0 rfl rfl ?_
  refine g_iload_n dX7_friends_1 rfl rfl ?_
  refine n_v1i (n' := 0) dX7_friends_2 mX7_isOne lX7_113 rfl hW vld_x20 rfl rfl ⟨Nat.le_of_ble_eq_true rfl, Nat.le_of_ble_eq_true rfl⟩ ⟨Nat.zero_le _, Nat.zero_le _⟩ (Nat.le_of_ble_eq_true rfl) ?_
  refine wp_X7_isOne (by exact hW) hsz hs10 ?_
  refine ⟨_, rfl, ?_⟩
  refine g_if_eq (tgt := 17) dX7_friends_5 (by decide) (fun c5 => ?_) (fun c5 => ?_)
  · simp only [b2_0, Decidable.not_not] at c5
    refine g_iconst dX7_friends_17 (v := (-1)) (by decide) ?_
    refine g_istore_4 dX7_friends_18 rfl ?_
    refine g_iload dX7_friends_20 rfl ?_
    refine g_if_eq (tgt := 32) dX7_friends_22 (by decide) (fun c22 => ?_) (fun c22 => ?_)
    · exact absurd c22 (by decide)
    · refine g_aloadR_n dX7_friends_25 rfl rfl ?_
      refine g_iload dX7_friends_26 rfl ?_
      refine n_v1i (n' := 0) dX7_friends_28 mX7_no lX7_109 rfl hW vld_x20 rfl rfl ⟨Nat.le_of_ble_eq_true rfl, Nat.le_of_ble_eq_true rfl⟩ ⟨Nat.zero_le _, Nat.zero_le _⟩ (Nat.le_of_ble_eq_true rfl) ?_
      refine wp_X7_no (by exact hW) (j := 1) (by decide) (by decide) ?_
      refine ⟨_, rfl, ?_⟩
      refine g_iret dX7_friends_31 rfl ?_
      have e : opFriends X s n x = rfX X 1 := by
        unfold opFriends
        rw [if_pos c5]
      rw [e] at h
      exact h _ (frM_sI (by decide)) (repMo_rfm hX (by decide) (by decide))
  · simp only [b2_0, Decidable.not_not] at c5
    obtain ⟨hx1, hx2⟩ := IN_nI c5
    have hx3 : x.toNatClampNeg < 10 := by omega
    refine g_aloadR_n dX7_friends_8 rfl rfl ?_
    refine g_iload_n dX7_friends_9 rfl rfl ?_
    refine g_iload_n dX7_friends_10 rfl rfl ?_
    refine n_v2i (n' := 2) dX7_friends_11 mX7_barsOf lX7_261 rfl hW vld_x20 rfl rfl ⟨Nat.le_of_ble_eq_true rfl, Nat.le_of_ble_eq_true rfl⟩ ⟨Nat.zero_le _, Nat.zero_le _⟩ (Nat.le_of_ble_eq_true rfl) ?_
    refine wp_X7_barsOf (by exact hW) hX hO ?_
    refine ⟨_, rfl, ?_⟩
    refine g_goto (tgt := 18) dX7_friends_14 (by decide) ?_
    refine g_istore_4 dX7_friends_18 rfl ?_
    refine g_iload dX7_friends_20 rfl ?_
    refine g_if_eq (tgt := 32) dX7_friends_22 (by decide) (fun c22 => ?_) (fun c22 => ?_)
    · have w0 := (ng_0 hwl).mp c22
      obtain ⟨hin, hv1, hin2, hnl⟩ := wrgm_0 w0
      obtain ⟨hs1, hs2⟩ := IN_nI hin
      obtain ⟨hn1, hn2⟩ := IN_nI hin2
      have hreg := reg_eq hX w0
      have hz : -(nI (wrg X s n)) = 0 := by rw [w0]; rfl
      rw [hz]
      refine g_aloadR_n dX7_friends_32 rfl rfl ?_
      refine n_getR dX7_friends_33 fX7_41 rfl hW vld_x20 rfl rfl ?_
      refine g_iload_n dX7_friends_36 rfl rfl ?_
      refine n_iald (j := x.toNatClampNeg) dX7_friends_37 rfl hW (vld_ma (by decide : 5 < 25)) (by decide) hx1 hx3 ?_
      rw [show mI M (21, 5, 0) x.toNatClampNeg = (xS X).2.2 x.toNatClampNeg 4 from hX.1.2.2 _ 4 hx2 (by decide)]
      refine g_istore_5 dX7_friends_38 rfl ?_
      refine g_iconst dX7_friends_40 (v := 0) (by decide) ?_
      refine g_istore_6 dX7_friends_41 rfl ?_
      refine g_iconst dX7_friends_43 (v := 0) (by decide) ?_
      refine g_istore_7 dX7_friends_44 rfl ?_
      have e : opFriends X s n x = (nI (frF X s n.toNatClampNeg x.toNatClampNeg ((xS X).1 + 1)), X) := by
        unfold opFriends
        rw [if_neg (not_not_intro c5), if_neg (not_not_intro w0)]
      rw [e] at h
      dsimp only at h
      have key := lp_X7_friends (E := E) (Q := Q) (X := X) hW hO.1 hx2 hs1 hs2 hn1 hn2 hreg (fun M' hf hR => h _ (frM_DM (hf.mono DQ_DM)) (hX.dm (hf.mono DQ_DM) hR)) 0 (Nat.zero_le _) M _ FrI.rf hX.1.u0
      rw [← hx1] at key
      exact key
    · have w0 : ¬ wrg X s n = 0 := fun q => c22 ((ng_0 hwl).mpr q)
      refine g_aloadR_n dX7_friends_25 rfl rfl ?_
      refine g_iload dX7_friends_26 rfl ?_
      refine n_v1i (n' := 0) dX7_friends_28 mX7_no lX7_109 rfl hW vld_x20 rfl rfl ⟨Nat.le_of_ble_eq_true rfl, Nat.le_of_ble_eq_true rfl⟩ ⟨Nat.zero_le _, Nat.zero_le _⟩ (Nat.le_of_ble_eq_true rfl) ?_
      refine wp_X7_no (by exact hW) (j := wrg X s n) rfl hwl ?_
      refine ⟨_, rfl, ?_⟩
      refine g_iret dX7_friends_31 rfl ?_
      have e : opFriends X s n x = rfX X (wrg X s n) := by
        unfold opFriends
        rw [if_neg (not_not_intro c5), if_pos w0]
      rw [e] at h
      exact h _ (frM_sI (by decide)) (repMo_rfm hX (by omega) hwl)
