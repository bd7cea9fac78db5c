/-! THE REFERENCE: ONES, IMAGE, RESTORE, STATUS -/
set_option maxHeartbeats 4000000 in
set_option maxRecDepth 100000 in
theorem lp_X7_ones {E : Ev} {M0 : Mem} {Q : QT} (hW0 : Wi M0) {S : Sc} (hO : OkS S) {n : Nat} (hn : n ≤ 24) {a1 : Option AV} {w3 : Int32} (h : ∀ M, FrI DQ M0 M → RepR M (itS S n) → RepSv M 22 S → G E (rm 4 0 0) kX7_ones (ZQ E Q 0 0) 0 0 73 [some (vR (20, 0, 0)), a1, some (vI (nI n)), some (vI w3), some (vI (nI n))] [] M) : ∀ j, j ≤ n → ∀ (M : Mem), FrI DQ M0 M → RepR M (itS S j) → RepSv M 22 S → G E (rm 4 0 0) kX7_ones (ZQ E Q 0 0) 0 0 57 [some (vR (20, 0, 0)), a1, some (vI (nI n)), some (vI w3), some (vI (nI j))] [] M := by
  refine up_loop n (fun j hj ih M hf hRj hSv => ?_)
  have hW := hf.W hW0
  have hOj := hO.it j
  refine g_iload dX7_ones_57 rfl ?_
  refine g_iload_n dX7_ones_59 rfl rfl ?_
  refine g_icmp_ge (tgt := 73) dX7_ones_60 (by decide) (fun c60 => ?_) (fun c60 => ?_)
  · have hjn2 : j = n := by rw [nI_leI (by omega) (by omega)] at c60; omega
    subst hjn2
    exact h M hf hRj hSv
  · have hjn : j < n := by rw [nI_leI (by omega) (by omega)] at c60; omega
    refine g_aloadR_n dX7_ones_63 rfl rfl ?_
    refine n_v0v (n' := 3) dX7_ones_64 mX7_passes lX7_230 rfl hW vld_x20 rfl rfl ⟨Nat.le_of_ble_eq_true rfl, Nat.le_of_ble_eq_true rfl⟩ ⟨Nat.zero_le _, Nat.zero_le _⟩ (Nat.le_of_ble_eq_true rfl) ?_
    refine wp_X7_passes (by exact hW) hRj hOj (fun M1 hf1 hR1 ho1 => ?_)
    have hW1 := hf1.W (by exact hW)
    refine ⟨rfl, ?_⟩
    refine g_iinc_4 (v := nI (j + 1)) dX7_ones_67 rfl (nI_inc j) ?_
    refine g_goto (tgt := 57) dX7_ones_70 (by decide) ?_
    exact ih hjn M1 (hf.tr (hf1.mono DP_DQ)) hR1 (hSv.fr hf1 (fun i => DP_h (Or.inr ⟨rfl, by decide⟩)))
set_option maxHeartbeats 4000000 in
set_option maxRecDepth 100000 in
theorem wp_X7_ones {E : Ev} {M : Mem} {Q : QT} (hW : Wi M) {X : Sys} (hX : RepMo M X) (hO : OkX X) {x n w : Int32} (h : ∀ M', FrM M M' → RepMo M' (opOnes X x n w).2 → Q (some (vI (opOnes X x n w).1)) M') : Mth E 4 0 0 kX7_ones [vR (20, 0, 0), vI x, vI n, vI w] M Q := by
  have hsz := hX.1.1
  have hs10 : (xS X).1 ≤ 10 := hO.1.1
  refine mth_of (by decide +kernel) [some (vR (20, 0, 0)), some (vI x), some (vI n), some (vI w), none] (Nat.le_of_ble_eq_true rfl) rfl ?_
  refine g_aloadR_n dX7_ones_0 rfl rfl ?_
  refine g_iload_n dX7_ones_1 rfl rfl ?_
  refine n_v1i (n' := 0) dX7_ones_2 mX7_isOne lX7_113 rfl hW vld_x20 rfl rfl ⟨Nat.le_of_ble_eq_true rfl, Nat.le_of_ble_eq_true rfl⟩ ⟨Nat.zero_le _, Nat.zero_le _⟩ (Nat.le_of_ble_eq_true rfl) ?_
  refine wp_X7_isOne (by exact hW) hsz hs10 ?_
  refine ⟨_, rfl, ?_⟩
  refine g_if_ne (tgt := 14) dX7_ones_5 (by decide) (fun c5 => ?_) (fun c5 => ?_)
  · simp only [b2_0, Decidable.not_not] at c5
    obtain ⟨hx1, hx2⟩ := IN_nI c5
    have hx3 : x.toNatClampNeg < 10 := by omega
    refine g_iload_n dX7_ones_14 rfl rfl ?_
    refine g_if_lt (tgt := 23) dX7_ones_15 (by decide) (fun c15 => ?_) (fun c15 => ?_)
    · refine g_aloadR_n dX7_ones_23 rfl rfl ?_
      refine g_bipush dX7_ones_24 (v := (-5)) (by decide) ?_
      refine n_v1i (n' := 0) dX7_ones_26 mX7_no lX7_109 rfl hW vld_x20 rfl rfl ⟨Nat.le_of_ble_eq_true rfl, Nat.le_of_ble_eq_true rfl⟩ ⟨Nat.zero_le _, Nat.zero_le _⟩ (Nat.le_of_ble_eq_true rfl) ?_
      refine wp_X7_no (j := 5) (by exact hW) (by decide) (by decide) ?_
      refine ⟨_, rfl, ?_⟩
      refine g_iret dX7_ones_29 rfl ?_
      have e : opOnes X x n w = rfX X 5 := by
        unfold opOnes
        rw [if_neg (not_not_intro c5), if_pos c15]
      rw [e] at h
      exact h _ (frM_sI (by decide)) (repMo_rfm hX (by decide) (by decide))
    · refine g_iload_n dX7_ones_18 rfl rfl ?_
      refine g_iconst dX7_ones_19 (v := 1) (by decide) ?_
      refine g_icmp_le (tgt := 30) dX7_ones_20 (by decide) (fun c20 => ?_) (fun c20 => ?_)
      · refine g_aloadR_n dX7_ones_30 rfl rfl ?_
        refine g_iload_n dX7_ones_31 rfl rfl ?_
        refine n_v1i (n' := 1) dX7_ones_32 mX7_isMany lX7_242 rfl hW vld_x20 rfl rfl ⟨Nat.le_of_ble_eq_true rfl, Nat.le_of_ble_eq_true rfl⟩ ⟨Nat.zero_le _, Nat.zero_le _⟩ (Nat.le_of_ble_eq_true rfl) ?_
        refine wp_X7_isMany (by exact hW) ?_
        refine ⟨_, rfl, ?_⟩
        refine g_if_ne (tgt := 45) dX7_ones_35 (by decide) (fun c35 => ?_) (fun c35 => ?_)
        · simp only [b2_0, Decidable.not_not] at c35
          obtain ⟨k, hke, hk⟩ : ∃ k, n = nI k ∧ k < 25 := ⟨_, (IN_nI c35).1, (IN_nI c35).2⟩
          subst hke
          have hkc : (nI k).toNatClampNeg = k := nI_clamp (by omega)
          refine g_aloadR_n dX7_ones_45 rfl rfl ?_
          refine g_aloadR_n dX7_ones_46 rfl rfl ?_
          refine n_getR dX7_ones_47 fX7_93 rfl hW vld_x20 rfl rfl ?_
          refine g_iconst dX7_ones_50 (v := 0) (by decide) ?_
          refine n_v2v (n' := 1) dX7_ones_51 mX7_all lX7_189 rfl hW vld_x20 rfl rfl ⟨Nat.le_of_ble_eq_true rfl, Nat.le_of_ble_eq_true rfl⟩ ⟨Nat.zero_le _, Nat.zero_le _⟩ (Nat.le_of_ble_eq_true rfl) ?_
          refine wp_X7_all0 (b := 22) (by exact hW) hX.1 hO.1 (Or.inr (Or.inr rfl)) (fun M1 hf1 hS1 => ?_)
          have hW4 := hf1.W (by exact hW)
          have hR1 := hX.1.fr hf1 (fun j _ q => by cases q) (fun i f hf9 q => by injection q with _ q; injection q with q _; omega)
          refine ⟨rfl, ?_⟩
          refine g_iconst dX7_ones_54 (v := 0) (by decide) ?_
          refine g_istore_4 dX7_ones_55 rfl ?_
          refine lp_X7_ones hW hO.1 (n := k) (by omega) (fun M2 hf2 hRn hSv => ?_) 0 (Nat.zero_le _) M1 (hf1.mono (fun b f q => by subst q; exact Or.inr (Or.inr ⟨rfl, rfl⟩))) hR1 hS1
          have hW2 := hf2.W hW
          have hxn : x.toNatClampNeg < (itS (xS X) k).1 := by rw [itS_n]; exact hx2
          refine g_iload_n dX7_ones_73 rfl rfl ?_
          refine g_if_ne (tgt := 86) dX7_ones_74 (by decide) (fun c74 => ?_) (fun c74 => ?_)
          · refine g_aloadR_n dX7_ones_86 rfl rfl ?_
            refine n_getR dX7_ones_87 fX7_35 rfl hW2 vld_x20 rfl rfl ?_
            refine g_iload_n dX7_ones_90 rfl rfl ?_
            refine n_iald (j := x.toNatClampNeg) dX7_ones_91 rfl hW2 (vld_ma (by decide : 3 < 25)) (by decide) hx1 hx3 ?_
            rw [show mI M2 (21, 3, 0) x.toNatClampNeg = (itS (xS X) k).2.2 x.toNatClampNeg 2 from hRn.2.2 _ 2 hxn (by decide)]
            refine g_istore_4 dX7_ones_92 rfl ?_
            refine g_aloadR_n dX7_ones_94 rfl rfl ?_
            refine g_aloadR_n dX7_ones_95 rfl rfl ?_
            refine n_getR dX7_ones_96 fX7_93 rfl hW2 vld_x20 rfl rfl ?_
            refine g_iconst dX7_ones_99 (v := 1) (by decide) ?_
            refine n_v2v (n' := 1) dX7_ones_100 mX7_all lX7_189 rfl hW2 vld_x20 rfl rfl ⟨Nat.le_of_ble_eq_true rfl, Nat.le_of_ble_eq_true rfl⟩ ⟨Nat.zero_le _, Nat.zero_le _⟩ (Nat.le_of_ble_eq_true rfl) ?_
            refine wp_X7_all1 (b := 22) (by exact hW2) (Or.inr (Or.inr rfl)) hSv hO.1 (fun M3 hf3 hR3 => ?_)
            have hW5 := hf3.W (by exact hW2)
            refine ⟨rfl, ?_⟩
            refine g_iload dX7_ones_103 rfl ?_
            refine g_iret dX7_ones_105 rfl ?_
            have e : opOnes X x (nI k) w = ((itS (xS X) k).2.2 x.toNatClampNeg 2, X) := by
              unfold opOnes
              rw [if_neg (not_not_intro c5), if_neg c15, if_neg (not_not_intro c20), if_neg (not_not_intro c35), if_neg c74, hkc]
            rw [e] at h
            have hdm := (hf2.mono DQ_DM).tr (hf3.mono DS_DM)
            exact h _ (frM_DM hdm) (hX.dm hdm hR3)
          · refine g_aloadR_n dX7_ones_77 rfl rfl ?_
            refine n_getR dX7_ones_78 fX7_50 rfl hW2 vld_x20 rfl rfl ?_
            refine g_iload_n dX7_ones_81 rfl rfl ?_
            refine n_iald (j := x.toNatClampNeg) dX7_ones_82 rfl hW2 (vld_ma (by decide : 8 < 25)) (by decide) hx1 hx3 ?_
            rw [show mI M2 (21, 8, 0) x.toNatClampNeg = (itS (xS X) k).2.2 x.toNatClampNeg 7 from hRn.2.2 _ 7 hxn (by decide)]
            refine g_goto (tgt := 92) dX7_ones_83 (by decide) ?_
            
            refine g_istore_4 dX7_ones_92 rfl ?_
            refine g_aloadR_n dX7_ones_94 rfl rfl ?_
            refine g_aloadR_n dX7_ones_95 rfl rfl ?_
            refine n_getR dX7_ones_96 fX7_93 rfl hW2 vld_x20 rfl rfl ?_
            refine g_iconst dX7_ones_99 (v := 1) (by decide) ?_
            refine n_v2v (n' := 1) dX7_ones_100 mX7_all lX7_189 rfl hW2 vld_x20 rfl rfl ⟨Nat.le_of_ble_eq_true rfl, Nat.le_of_ble_eq_true rfl⟩ ⟨Nat.zero_le _, Nat.zero_le _⟩ (Nat.le_of_ble_eq_true rfl) ?_
            refine wp_X7_all1 (b := 22) (by exact hW2) (Or.inr (Or.inr rfl)) hSv hO.1 (fun M3 hf3 hR3 => ?_)
            have hW6 := hf3.W (by exact hW2)
            refine ⟨rfl, ?_⟩
            refine g_iload dX7_ones_103 rfl ?_
            refine g_iret dX7_ones_105 rfl ?_
            have c74 : w = 0 := by first | exact c74 | exact Decidable.not_not.mp c74
            have e : opOnes X x (nI k) w = ((itS (xS X) k).2.2 x.toNatClampNeg 7, X) := by
              unfold opOnes
              rw [if_neg (not_not_intro c5), if_neg c15, if_neg (not_not_intro c20), if_neg (not_not_intro c35), if_pos c74, hkc]
            rw [e] at h
            have hdm := (hf2.mono DQ_DM).tr (hf3.mono DS_DM)
            exact h _ (frM_DM hdm) (hX.dm hdm hR3)
        · simp only [b2_0, Decidable.not_not] at c35
          refine g_aloadR_n dX7_ones_38 rfl rfl ?_
          refine g_bipush dX7_ones_39 (v := (-6)) (by decide) ?_
          refine n_v1i (n' := 0) dX7_ones_41 mX7_no lX7_109 rfl hW vld_x20 rfl rfl ⟨Nat.le_of_ble_eq_true rfl, Nat.le_of_ble_eq_true rfl⟩ ⟨Nat.zero_le _, Nat.zero_le _⟩ (Nat.le_of_ble_eq_true rfl) ?_
          refine wp_X7_no (j := 6) (by exact hW) (by decide) (by decide) ?_
          refine ⟨_, rfl, ?_⟩
          refine g_iret dX7_ones_44 rfl ?_
          have e : opOnes X x n w = rfX X 6 := by
            unfold opOnes
            rw [if_neg (not_not_intro c5), if_neg c15, if_neg (not_not_intro c20), if_pos c35]
          rw [e] at h
          exact h _ (frM_sI (by decide)) (repMo_rfm hX (by decide) (by decide))
      · refine g_aloadR_n dX7_ones_23 rfl rfl ?_
        refine g_bipush dX7_ones_24 (v := (-5)) (by decide) ?_
        refine n_v1i (n' := 0) dX7_ones_26 mX7_no lX7_109 rfl hW vld_x20 rfl rfl ⟨Nat.le_of_ble_eq_true rfl, Nat.le_of_ble_eq_true rfl⟩ ⟨Nat.zero_le _, Nat.zero_le _⟩ (Nat.le_of_ble_eq_true rfl) ?_
        refine wp_X7_no (j := 5) (by exact hW) (by decide) (by decide) ?_
        refine ⟨_, rfl, ?_⟩
        refine g_iret dX7_ones_29 rfl ?_
        have e : opOnes X x n w = rfX X 5 := by
          unfold opOnes
          rw [if_neg (not_not_intro c5), if_neg c15, if_pos c20]
        rw [e] at h
        exact h _ (frM_sI (by decide)) (repMo_rfm hX (by decide) (by decide))
  · simp only [b2_0, Decidable.not_not] at c5
    refine g_aloadR_n dX7_ones_8 rfl rfl ?_
    refine g_iconst dX7_ones_9 (v := (-1)) (by decide) ?_
    refine n_v1i (n' := 0) dX7_ones_10 mX7_no lX7_109 rfl hW vld_x20 rfl rfl ⟨Nat.le_of_ble_eq_true rfl, Nat.le_of_ble_eq_true rfl⟩ ⟨Nat.zero_le _, Nat.zero_le _⟩ (Nat.le_of_ble_eq_true rfl) ?_
    refine wp_X7_no (j := 1) (by exact hW) (by decide) (by decide) ?_
    refine ⟨_, rfl, ?_⟩
    refine g_iret dX7_ones_13 rfl ?_
    have e : opOnes X x n w = rfX X 1 := by
      unfold opOnes
      rw [if_pos c5]
    rw [e] at h
    exact h _ (frM_sI (by decide)) (repMo_rfm hX (by decide) (by decide))
theorem RepMo.img {M M' : Mem} {X : Sys} (h : RepMo M X) (hf : FrI (fun b f => (b = (20, 0, 0) ∧ f = 49) ∨ b = (21, 21, 0)) M M') (hS : RepImM M' (some (xS X))) : RepMo M' (setI X (some (xS X))) := by
  obtain ⟨h1, h2, h3, h4, h5, h6, h7⟩ := h
  have hJ : ∀ b, mJ M' b = mJ M b := fun b => by unfold mJ; rw [hf.1]
  have hA : ∀ j i, j ≠ 21 → mI M' (21, j, 0) i = mI M (21, j, 0) i := fun j i hj => hf.2 _ _ (fun q => by
    rcases q with q | q
    · cases q.1
    · injection q with _ q; injection q with q _; exact hj q)
  have hB : ∀ f, f ≠ 49 → mI M' (20, 0, 0) f = mI M (20, 0, 0) f := fun f hf2 => hf.2 _ _ (fun q => by
    rcases q with q | q
    · exact hf2 q.2
    · cases q)
  refine ⟨⟨(hB 0 (by decide)).trans h1.1, fun j a b => (hB j (by omega)).trans (h1.2.1 j a b), fun i f a b => (hA _ _ (by omega)).trans (h1.2.2 i f a b)⟩, hS, fun s hs => ?_, fun j a b => (hA 0 j (by decide)).trans (h4 j a b), (hB 7 (by decide)).trans h5, ⟨(hB 48 (by decide)).trans h6.1, fun i a b => (hA _ _ (by decide)).trans (h6.2 i a b)⟩, fun j hj => (hA _ _ (by decide)).trans (h7.1 j hj), fun j hj => (hA _ _ (by decide)).trans (h7.2.1 j hj), fun j hj => (hA _ _ (by decide)).trans (h7.2.2 j hj)⟩
  obtain ⟨g1, g2, g3⟩ := h3 s hs
  exact ⟨(hA _ _ (by decide)).trans g1, fun q => ⟨(hA _ _ (by decide)).trans (g2 q).1, (hA _ _ (by decide)).trans (g2 q).2.1, fun j hj => by rw [hJ]; exact (g2 q).2.2 j hj⟩, fun q => (hA _ _ (by decide)).trans (g3 q)⟩
set_option maxHeartbeats 4000000 in
set_option maxRecDepth 100000 in
theorem wp_X7_image {E : Ev} {M : Mem} {Q : QT} (hW : Wi M) {X : Sys} (hX : RepMo M X) (hO : OkX X) (h : ∀ M', FrM M M' → RepMo M' (opImage X).2 → Q (some (vI (opImage X).1)) M') : Mth E 2 0 0 kX7_image [vR (20, 0, 0)] M Q := by
  refine mth_of (by decide +kernel) [some (vR (20, 0, 0))] (Nat.le_of_ble_eq_true rfl) rfl ?_
  refine g_aloadR_n dX7_image_0 rfl rfl ?_
  refine g_iconst dX7_image_1 (v := 1) (by decide) ?_
  refine n_putZ dX7_image_2 fX7_285 rfl hW vld_x20 rfl (Or.inr rfl) ?_
  refine g_aloadR_n dX7_image_5 rfl rfl ?_
  refine g_aloadR_n dX7_image_6 rfl rfl ?_
  refine n_getR dX7_image_7 fX7_90 rfl hW vld_x20 rfl rfl ?_
  refine g_iconst dX7_image_10 (v := 0) (by decide) ?_
  refine n_v2v (n' := 1) dX7_image_11 mX7_all lX7_189 rfl hW vld_x20 rfl rfl ⟨Nat.le_of_ble_eq_true rfl, Nat.le_of_ble_eq_true rfl⟩ ⟨Nat.zero_le _, Nat.zero_le _⟩ (Nat.le_of_ble_eq_true rfl) ?_
  refine wp_X7_all0 (b := 21) (by exact hW) (hX.1.q (by decide)) hO.1 (Or.inr (Or.inl rfl)) (fun M1 hf1 hS1 => ?_)
  have hW1 := hf1.W (by exact hW)
  have e49 : mI M1 (20, 0, 0) 49 = 1 := (hf1.2 _ _ (fun q => by cases q)).trans (by simp [mI, sI])
  have e0 : mI M1 (20, 0, 0) 0 = nI (xS X).1 := (hf1.2 _ _ (fun q => by cases q)).trans ((by simp [mI, sI] : _ = mI M (20, 0, 0) 0).trans hX.1.1)
  refine ⟨rfl, ?_⟩
  refine g_aloadR_n dX7_image_14 rfl rfl ?_
  refine n_getI dX7_image_15 fX7_102 rfl hW1 vld_x20 (Or.inl rfl) ?_
  rw [e0]
  refine g_iret dX7_image_18 rfl ?_
  have hfr : FrI (fun b f => (b = (20, 0, 0) ∧ f = 49) ∨ b = (21, 21, 0)) M M1 := (fr_sI (Or.inl ⟨rfl, rfl⟩)).tr (hf1.mono (fun b f q => Or.inr q))
  exact h M1 (FrM.of hfr (fun b f q => by rcases q with q | q; (have := q.1; subst this; decide); (subst q; decide))) (hX.img hfr ⟨e49, hS1⟩)
theorem RepImM.som {M : Mem} {I : Option Sc} (h : RepImM M I) (hc : ¬ mI M (20, 0, 0) 49 = 0) : ∃ S, I = some S ∧ RepSv M 21 S := by
  cases I with
  | none => exact absurd h hc
  | some S => exact ⟨S, rfl, h.2⟩
theorem RepImM.non {M : Mem} {I : Option Sc} (h : RepImM M I) (hc : mI M (20, 0, 0) 49 = 0) : I = none := by
  cases I with
  | none => rfl
  | some S => have := h.1; rw [hc] at this; exact absurd this (by decide)
theorem RepMo.hs {M : Mem} {X : Sys} {H : Nat → Sf} (h : RepMo M X) (hH : ∀ s, s < 8 → H s = xH X s) : RepMo M (setHs X H) := by
  obtain ⟨h1, h2, h3, h4⟩ := h
  exact ⟨h1, h2, fun s hs => by show RepSfM M s (H s); rw [hH s hs]; exact h3 s hs, h4⟩
theorem rsH_at {n : Nat} {H : Nat → Sf} {j : Nat} : rsH n H j j = H j := by unfold rsH; rw [if_neg (fun q => absurd q.1 (by omega))]
theorem rsH_k {n : Nat} {H : Nat → Sf} {j s : Nat} (h : ¬ ((H j).1 = 2 ∧ ¬ IN (H j).2.2.1 n)) : rsH n H (j + 1) s = rsH n H j s := by
  unfold rsH
  by_cases q : s = j
  · subst q; rw [if_neg (fun z => h z.2), if_neg (fun z => absurd z.1 (by omega))]
  · by_cases q2 : s < j
    · by_cases q3 : (H s).1 = 2 ∧ ¬ IN (H s).2.2.1 n
      · rw [if_pos ⟨by omega, q3⟩, if_pos ⟨q2, q3⟩]
      · rw [if_neg (fun z => q3 z.2), if_neg (fun z => q3 z.2)]
    · rw [if_neg (fun z => absurd z.1 (by omega)), if_neg (fun z => absurd z.1 (by omega))]
theorem rsH_o {n : Nat} {H : Nat → Sf} {j s : Nat} (h : (H j).1 = 2 ∧ ¬ IN (H j).2.2.1 n) : rsH n H (j + 1) s = if s = j then noSf else rsH n H j s := by
  unfold rsH
  by_cases q : s = j
  · subst q; rw [if_pos ⟨by omega, h⟩, if_pos rfl]
  · rw [if_neg q]
    by_cases q2 : s < j
    · by_cases q3 : (H s).1 = 2 ∧ ¬ IN (H s).2.2.1 n
      · rw [if_pos ⟨by omega, q3⟩, if_pos ⟨q2, q3⟩]
      · rw [if_neg (fun z => q3 z.2), if_neg (fun z => q3 z.2)]
    · rw [if_neg (fun z => absurd z.1 (by omega)), if_neg (fun z => absurd z.1 (by omega))]
theorem RepMo.out {M : Mem} {X : Sys} {s : Nat} (h : RepMo M X) (hs : s < 8) : RepMo (sI M (21, 10, 0) s 0) (setH X s noSf) := by
  refine h.shelf (v := noSf) (fun b j hb => ?_) (fun j hj => rfl) ⟨?_, fun q => absurd (show (0 : Nat) = 1 from q) (by decide), fun q => absurd (show (0 : Nat) = 2 from q) (by decide)⟩
  · simp only [mI, sI]
    rw [if_neg (fun z => by
      obtain ⟨z1, z2⟩ := z; subst z1; rcases hb with q | ⟨-, q⟩
      · cases q
      · simp only at q; omega)]
  · simp [mI, sI]; decide
set_option maxHeartbeats 4000000 in
set_option maxRecDepth 100000 in
theorem lp_X7_restore {E : Ev} {M0 : Mem} {Q : QT} (hW0 : Wi M0) {X : Sys} (hO : OkX X) {S : Sc} (hOS : OkS S) (h : ∀ M', FrM M0 M' → RepMo M' (rsX X S 8) → Q (some (vI (nI S.1))) M') : ∀ j, j ≤ 8 → ∀ (M : Mem), FrM M0 M → RepMo M (rsX X S j) → G E (rm 2 0 0) kX7_restore (ZQ E Q 0 0) 0 0 25 [some (vR (20, 0, 0)), some (vI (nI j))] [] M := by
  refine up_loop 8 (fun j hj ih M hf hX1 => ?_)
  have hW := hf.W hW0
  have hs10 : S.1 ≤ 10 := hOS.1
  have hsz : mI M (20, 0, 0) 0 = nI S.1 := hX1.1.1
  refine g_iload_n dX7_restore_25 rfl rfl ?_
  refine g_bipush dX7_restore_26 (v := 8) (by decide) ?_
  refine g_icmp_ge (tgt := 67) dX7_restore_28 (by decide) (fun c28 => ?_) (fun c28 => ?_)
  · rw [show (8 : Int32) = nI 8 from rfl] at c28
    have hjn2 : j = 8 := by rw [nI_leI (by omega) (by omega)] at c28; omega
    refine g_aloadR_n dX7_restore_67 rfl rfl ?_
    refine n_getI dX7_restore_68 fX7_102 rfl hW vld_x20 (Or.inl rfl) ?_
    rw [hsz]
    refine g_iret dX7_restore_71 rfl ?_
    subst hjn2
    exact h M hf hX1
  · rw [show (8 : Int32) = nI 8 from rfl] at c28
    have hjn : j < 8 := by rw [nI_leI (by omega) (by omega)] at c28; omega
    have hsf := hX1.2.2.1 j hjn
    rw [show xH (rsX X S j) j = xH X j from rsH_at] at hsf
    have hos := hO.2.2.1 j hjn
    have hh := hsf.h0 hos.1
    refine g_aloadR_n dX7_restore_31 rfl rfl ?_
    refine n_getR dX7_restore_32 fX7_56 rfl hW vld_x20 rfl rfl ?_
    refine g_iload_n dX7_restore_35 rfl rfl ?_
    refine n_iald (j := j) dX7_restore_36 rfl hW (vld_ma (by decide : 10 < 25)) (by decide) rfl (show j < 8 by omega) ?_
    refine g_iconst dX7_restore_37 (v := 2) (by decide) ?_
    refine g_icmp_ne (tgt := 61) dX7_restore_38 (by decide) (fun c38 => ?_) (fun c38 => ?_)
    · have v2 : ¬ (xH X j).1 = 2 := fun z => c38 (hh.2.2.mpr z)
      refine g_iinc_1 (v := nI (j + 1)) dX7_restore_61 rfl (nI_inc j) ?_
      refine g_goto (tgt := 25) dX7_restore_64 (by decide) ?_
      exact ih hjn M hf (hX1.hs (H := rsH S.1 (xH X) (j + 1)) (fun s _ => rsH_k (fun z => v2 z.1)))
    · have c38 : mI M (21, 10, 0) j = 2 := by first | exact c38 | exact Decidable.not_not.mp c38
      have v2 := hh.2.2.mp c38
      have e13 : mI M (21, 13, 0) j = (xH X j).2.2.1 := hsf.2.2 v2
      have hin := hos.2.2 v2
      refine g_aloadR_n dX7_restore_41 rfl rfl ?_
      refine n_getR dX7_restore_42 fX7_65 rfl hW vld_x20 rfl rfl ?_
      refine g_iload_n dX7_restore_45 rfl rfl ?_
      refine n_iald (j := j) dX7_restore_46 rfl hW (vld_ma (by decide : 13 < 25)) (by decide) rfl (show j < 8 by omega) ?_
      refine g_aloadR_n dX7_restore_47 rfl rfl ?_
      refine n_getI dX7_restore_48 fX7_102 rfl hW vld_x20 (Or.inl rfl) ?_
      refine g_icmp_lt (tgt := 61) dX7_restore_51 (by decide) (fun c51 => ?_) (fun c51 => ?_)
      · rw [e13, hsz] at c51
        have hi : IN (xH X j).2.2.1 S.1 := ⟨hin.1, by rw [Int32.lt_iff_toInt_lt, nI_toInt (by omega)] at c51; exact c51⟩
        refine g_iinc_1 (v := nI (j + 1)) dX7_restore_61 rfl (nI_inc j) ?_
        refine g_goto (tgt := 25) dX7_restore_64 (by decide) ?_
        exact ih hjn M hf (hX1.hs (H := rsH S.1 (xH X) (j + 1)) (fun s _ => rsH_k (fun z => z.2 hi)))
      · rw [e13, hsz] at c51
        have hi : ¬ IN (xH X j).2.2.1 S.1 := fun q => c51 (by rw [Int32.lt_iff_toInt_lt, nI_toInt (by omega)]; exact q.2)
        refine g_aloadR_n dX7_restore_54 rfl rfl ?_
        refine n_getR dX7_restore_55 fX7_56 rfl hW vld_x20 rfl rfl ?_
        refine g_iload_n dX7_restore_58 rfl rfl ?_
        refine g_iconst dX7_restore_59 (v := 0) (by decide) ?_
        refine n_iast (j := j) dX7_restore_60 rfl hW (vld_ma (by decide : 10 < 25)) (by decide) rfl (show j < 8 by omega) ?_
        refine g_iinc_1 (v := nI (j + 1)) dX7_restore_61 rfl (nI_inc j) ?_
        refine g_goto (tgt := 25) dX7_restore_64 (by decide) ?_
        exact ih hjn _ (hf.tr (frM_sI (by decide))) ((hX1.out hjn).hs (H := rsH S.1 (xH X) (j + 1)) (fun s _ => rsH_o ⟨v2, hi⟩))
set_option maxHeartbeats 4000000 in
set_option maxRecDepth 100000 in
theorem wp_X7_restore {E : Ev} {M : Mem} {Q : QT} (hW : Wi M) {X : Sys} (hX : RepMo M X) (hO : OkX X) (h : ∀ M', FrM M M' → RepMo M' (opRestore X).2 → Q (some (vI (opRestore X).1)) M') : Mth E 2 0 0 kX7_restore [vR (20, 0, 0)] M Q := by
  refine mth_of (by decide +kernel) [some (vR (20, 0, 0)), none] (Nat.le_of_ble_eq_true rfl) rfl ?_
  refine g_aloadR_n dX7_restore_0 rfl rfl ?_
  refine n_getI dX7_restore_1 fX7_285 rfl hW vld_x20 (Or.inr rfl) ?_
  refine g_if_ne (tgt := 14) dX7_restore_4 (by decide) (fun c4 => ?_) (fun c4 => ?_)
  · obtain ⟨S, hS, hSv⟩ := hX.2.1.som c4
    have hOS := hO.2.1 S hS
    refine g_aloadR_n dX7_restore_14 rfl rfl ?_
    refine g_aloadR_n dX7_restore_15 rfl rfl ?_
    refine n_getR dX7_restore_16 fX7_90 rfl hW vld_x20 rfl rfl ?_
    refine g_iconst dX7_restore_19 (v := 1) (by decide) ?_
    refine n_v2v (n' := 1) dX7_restore_20 mX7_all lX7_189 rfl hW vld_x20 rfl rfl ⟨Nat.le_of_ble_eq_true rfl, Nat.le_of_ble_eq_true rfl⟩ ⟨Nat.zero_le _, Nat.zero_le _⟩ (Nat.le_of_ble_eq_true rfl) ?_
    refine wp_X7_all1 (b := 21) (by exact hW) (Or.inr (Or.inl rfl)) hSv hOS (fun M1 hf1 hR1 => ?_)
    have hW1 := hf1.W (by exact hW)
    have hdm := hf1.mono DS_DM
    refine ⟨rfl, ?_⟩
    refine g_iconst dX7_restore_23 (v := 0) (by decide) ?_
    refine g_istore_1 dX7_restore_24 rfl ?_
    have e : opRestore X = (nI S.1, rsX X S 8) := by unfold opRestore; rw [hS]
    rw [e] at h
    exact lp_X7_restore hW hO hOS h 0 (Nat.zero_le _) M1 (frM_DM hdm) ((hX.sch hdm hR1).hs (H := rsH S.1 (xH X) 0) (fun s _ => by unfold rsH; rw [if_neg (fun q => absurd q.1 (by omega))]; rfl))
  · have c4 : mI M (20, 0, 0) 49 = 0 := by first | exact c4 | exact Decidable.not_not.mp c4
    have hN := hX.2.1.non c4
    refine g_aloadR_n dX7_restore_7 rfl rfl ?_
    refine g_bipush dX7_restore_8 (v := (-6)) (by decide) ?_
    refine n_v1i (n' := 0) dX7_restore_10 mX7_no lX7_109 rfl hW vld_x20 rfl rfl ⟨Nat.le_of_ble_eq_true rfl, Nat.le_of_ble_eq_true rfl⟩ ⟨Nat.zero_le _, Nat.zero_le _⟩ (Nat.le_of_ble_eq_true rfl) ?_
    refine wp_X7_no (j := 6) (by exact hW) (by decide) (by decide) ?_
    refine ⟨_, rfl, ?_⟩
    refine g_iret dX7_restore_13 rfl ?_
    have e : opRestore X = rfX X 6 := by unfold opRestore; rw [hN]
    rw [e] at h
    exact h _ (frM_sI (by decide)) (repMo_rfm hX (by decide) (by decide))
theorem sum8 {S : Sc} (hO : OkS S) : ∀ j, j ≤ S.1 → sumS S 8 j + nI (cnt (presS S) j) = nI j
  | 0, _ => by simp [sumS, cnt, nI_0]
  | j + 1, hj => by
    have ih := sum8 hO j (by omega)
    rw [sumS, ← cnt_h hO (show j < S.1 by omega), ← nI_1, ← ih]
    apply Int32.toBitVec_inj.mp
    simp only [Int32.toBitVec_add, Int32.toBitVec_sub]
    generalize (sumS S 8 j).toBitVec = a
    generalize (nI (cnt (presS S) j)).toBitVec = b
    generalize (S.2.2 j 8).toBitVec = c
    rw [BitVec.sub_eq_add_neg]
    have : a + c + (b + ((1 : Int32).toBitVec + -c)) = a + b + (1 : Int32).toBitVec + (c + -c) := by ac_rfl
    rw [this, BitVec.add_right_neg, BitVec.add_zero]
    try rfl
theorem sum8b {S : Sc} (hO : OkS S) : sumS S 8 S.1 = nI S.1 - nI (cnt (presS S) 11) := by
  rw [cnt_11 (presS_lt S) hO.1, ← sum8 hO S.1 (Nat.le_refl _)]
  apply Int32.toBitVec_inj.mp
  simp only [Int32.toBitVec_add, Int32.toBitVec_sub]
  rw [BitVec.add_sub_cancel]
set_option maxHeartbeats 4000000 in
set_option maxRecDepth 100000 in
theorem wp_X7_status {E : Ev} {M : Mem} {Q : QT} (hW : Wi M) {X : Sys} (hX : RepMo M X) (hO : OkX X) {w : Int32} (h : Q (some (vI (opStatus X w))) M) : Mth E 1 0 0 kX7_status [vR (20, 0, 0), vI w] M Q := by
  refine mth_of (by decide +kernel) [some (vR (20, 0, 0)), some (vI w)] (Nat.le_of_ble_eq_true rfl) rfl ?_
  refine g_iload_n dX7_status_0 rfl rfl ?_
  refine g_bipush dX7_status_1 (v := 11) (by decide) ?_
  refine g_icmp_lt (tgt := 22) dX7_status_3 (by decide) (fun c3 => ?_) (fun c3 => ?_)
  · refine g_iload_n dX7_status_22 rfl rfl ?_
    refine g_top (fun y23 e23 => ?_)
    by_cases s23_0 : y23 = 0
    · refine g_tableIn (tgt := 76) dX7_status_23 (by rw [s23_0]; decide) (by rw [s23_0]; decide) (o := 53) (by rw [s23_0]; decide) (by decide) ?_
      refine g_aloadR_n dX7_status_76 rfl rfl ?_
      refine n_getI dX7_status_77 fX7_102 rfl hW vld_x20 (Or.inl rfl) ?_
      refine g_iret dX7_status_80 rfl ?_
      refine qI h ?_
      have hwj : w = 0 := by rw [← e23]; exact s23_0
      subst hwj
      exact (show _ = opStatus X 0 from hX.1.1)
    by_cases s23_1 : y23 = 1
    · refine g_tableIn (tgt := 81) dX7_status_23 (by rw [s23_1]; decide) (by rw [s23_1]; decide) (o := 58) (by rw [s23_1]; decide) (by decide) ?_
      refine g_aloadR_n dX7_status_81 rfl rfl ?_
      refine n_getI dX7_status_82 fX7_7 rfl hW vld_x20 (Or.inl rfl) ?_
      refine g_iret dX7_status_85 rfl ?_
      refine qI h ?_
      have hwj : w = 1 := by rw [← e23]; exact s23_1
      subst hwj
      exact (show _ = opStatus X 1 from hX.1.2.1 1 (by decide) (by decide))
    by_cases s23_2 : y23 = 2
    · refine g_tableIn (tgt := 86) dX7_status_23 (by rw [s23_2]; decide) (by rw [s23_2]; decide) (o := 63) (by rw [s23_2]; decide) (by decide) ?_
      refine g_aloadR_n dX7_status_86 rfl rfl ?_
      refine n_getI dX7_status_87 fX7_131 rfl hW vld_x20 (Or.inl rfl) ?_
      refine g_iret dX7_status_90 rfl ?_
      refine qI h ?_
      have hwj : w = 2 := by rw [← e23]; exact s23_2
      subst hwj
      exact (show _ = opStatus X 2 from hX.1.2.1 2 (by decide) (by decide))
    by_cases s23_3 : y23 = 3
    · refine g_tableIn (tgt := 91) dX7_status_23 (by rw [s23_3]; decide) (by rw [s23_3]; decide) (o := 68) (by rw [s23_3]; decide) (by decide) ?_
      refine g_aloadR_n dX7_status_91 rfl rfl ?_
      refine n_getI dX7_status_92 fX7_13 rfl hW vld_x20 (Or.inl rfl) ?_
      refine g_iret dX7_status_95 rfl ?_
      refine qI h ?_
      have hwj : w = 3 := by rw [← e23]; exact s23_3
      subst hwj
      exact (show _ = opStatus X 3 from hX.1.2.1 3 (by decide) (by decide))
    by_cases s23_4 : y23 = 4
    · refine g_tableIn (tgt := 96) dX7_status_23 (by rw [s23_4]; decide) (by rw [s23_4]; decide) (o := 73) (by rw [s23_4]; decide) (by decide) ?_
      refine g_aloadR_n dX7_status_96 rfl rfl ?_
      refine n_getI dX7_status_97 fX7_16 rfl hW vld_x20 (Or.inl rfl) ?_
      refine g_iret dX7_status_100 rfl ?_
      refine qI h ?_
      have hwj : w = 4 := by rw [← e23]; exact s23_4
      subst hwj
      exact (show _ = opStatus X 4 from hX.1.2.1 4 (by decide) (by decide))
    by_cases s23_5 : y23 = 5
    · refine g_tableIn (tgt := 101) dX7_status_23 (by rw [s23_5]; decide) (by rw [s23_5]; decide) (o := 78) (by rw [s23_5]; decide) (by decide) ?_
      refine g_aloadR_n dX7_status_101 rfl rfl ?_
      refine n_getI dX7_status_102 fX7_183 rfl hW vld_x20 (Or.inl rfl) ?_
      refine g_iret dX7_status_105 rfl ?_
      refine qI h ?_
      have hwj : w = 5 := by rw [← e23]; exact s23_5
      subst hwj
      exact (show _ = opStatus X 5 from hX.1.2.1 5 (by decide) (by decide))
    by_cases s23_6 : y23 = 6
    · refine g_tableIn (tgt := 106) dX7_status_23 (by rw [s23_6]; decide) (by rw [s23_6]; decide) (o := 83) (by rw [s23_6]; decide) (by decide) ?_
      skip
      refine g_aloadR_n dX7_status_106 rfl rfl ?_
      refine g_aloadR_n dX7_status_107 rfl rfl ?_
      refine n_getR dX7_status_108 fX7_53 rfl hW vld_x20 rfl rfl ?_
      refine n_v1i (n' := 0) dX7_status_111 mX7_together lX7_289 rfl hW vld_x20 rfl rfl ⟨Nat.le_of_ble_eq_true rfl, Nat.le_of_ble_eq_true rfl⟩ ⟨Nat.zero_le _, Nat.zero_le _⟩ (Nat.le_of_ble_eq_true rfl) ?_
      refine wp_X7_together (f := 8) (by exact hW) hX.1 hO.1 (by decide) ?_
      refine ⟨_, rfl, ?_⟩
      refine g_iret dX7_status_114 rfl ?_
      refine qI h ?_
      have hwj : w = 6 := by rw [← e23]; exact s23_6
      subst hwj
      exact (show _ = opStatus X 6 from sum8b hO.1)
    by_cases s23_7 : y23 = 7
    · refine g_tableIn (tgt := 115) dX7_status_23 (by rw [s23_7]; decide) (by rw [s23_7]; decide) (o := 92) (by rw [s23_7]; decide) (by decide) ?_
      skip
      refine g_aloadR_n dX7_status_115 rfl rfl ?_
      refine g_aloadR_n dX7_status_116 rfl rfl ?_
      refine n_getR dX7_status_117 fX7_50 rfl hW vld_x20 rfl rfl ?_
      refine n_v1i (n' := 0) dX7_status_120 mX7_together lX7_289 rfl hW vld_x20 rfl rfl ⟨Nat.le_of_ble_eq_true rfl, Nat.le_of_ble_eq_true rfl⟩ ⟨Nat.zero_le _, Nat.zero_le _⟩ (Nat.le_of_ble_eq_true rfl) ?_
      refine wp_X7_together (f := 7) (by exact hW) hX.1 hO.1 (by decide) ?_
      refine ⟨_, rfl, ?_⟩
      refine g_iret dX7_status_123 rfl ?_
      refine qI h ?_
      have hwj : w = 7 := by rw [← e23]; exact s23_7
      subst hwj
      exact (show _ = opStatus X 7 from rfl)
    by_cases s23_8 : y23 = 8
    · refine g_tableIn (tgt := 124) dX7_status_23 (by rw [s23_8]; decide) (by rw [s23_8]; decide) (o := 101) (by rw [s23_8]; decide) (by decide) ?_
      refine g_aloadR_n dX7_status_124 rfl rfl ?_
      refine n_getI dX7_status_125 fX7_19 rfl hW vld_x20 (Or.inl rfl) ?_
      refine g_iret dX7_status_128 rfl ?_
      refine qI h ?_
      have hwj : w = 8 := by rw [← e23]; exact s23_8
      subst hwj
      exact (show _ = opStatus X 8 from hX.1.2.1 6 (by decide) (by decide))
    by_cases s23_9 : y23 = 9
    · refine g_tableIn (tgt := 129) dX7_status_23 (by rw [s23_9]; decide) (by rw [s23_9]; decide) (o := 106) (by rw [s23_9]; decide) (by decide) ?_
      refine g_aloadR_n dX7_status_129 rfl rfl ?_
      refine n_getI dX7_status_130 fX7_271 rfl hW vld_x20 (Or.inl rfl) ?_
      refine g_iret dX7_status_133 rfl ?_
      refine qI h ?_
      have hwj : w = 9 := by rw [← e23]; exact s23_9
      subst hwj
      exact (show _ = opStatus X 9 from hX.2.2.2.2.2.1.1)
    refine g_tableOut (tgt := 134) dX7_status_23 (by have t0 : ¬ y23.toInt = 0 := sw_ne s23_0; have t1 : ¬ y23.toInt = 1 := sw_ne s23_1; have t2 : ¬ y23.toInt = 2 := sw_ne s23_2; have t3 : ¬ y23.toInt = 3 := sw_ne s23_3; have t4 : ¬ y23.toInt = 4 := sw_ne s23_4; have t5 : ¬ y23.toInt = 5 := sw_ne s23_5; have t6 : ¬ y23.toInt = 6 := sw_ne s23_6; have t7 : ¬ y23.toInt = 7 := sw_ne s23_7; have t8 : ¬ y23.toInt = 8 := sw_ne s23_8; have t9 : ¬ y23.toInt = 9 := sw_ne s23_9; omega) (by decide) ?_
    refine g_iconst dX7_status_134 (v := (-1)) (by decide) ?_
    refine g_iret dX7_status_135 rfl ?_
    refine qI h ?_
    rw [e23] at s23_0 s23_1 s23_2 s23_3 s23_4 s23_5 s23_6 s23_7 s23_8 s23_9
    unfold opStatus
    rw [if_neg s23_0, if_neg s23_1, if_neg s23_2, if_neg s23_3, if_neg s23_4, if_neg s23_5, if_neg s23_6, if_neg s23_7, if_neg s23_8, if_neg s23_9, if_neg (fun z => by obtain ⟨z1, z2⟩ := z; first | (simp only [Int32.lt_iff_toInt_lt, zcs] at *; omega) | (simp only [Int32.lt_iff_toInt_lt, Int32.le_iff_toInt_le, zcs, show ((18 : Int32)).toInt = 18 by decide] at *; omega))]
  · refine g_iload_n dX7_status_6 rfl rfl ?_
    refine g_bipush dX7_status_7 (v := 17) (by decide) ?_
    refine g_icmp_gt (tgt := 22) dX7_status_9 (by decide) (fun c9 => ?_) (fun c9 => ?_)
    · refine g_iload_n dX7_status_22 rfl rfl ?_
      refine g_top (fun y23 e23 => ?_)
      by_cases s23_0 : y23 = 0
      · refine g_tableIn (tgt := 76) dX7_status_23 (by rw [s23_0]; decide) (by rw [s23_0]; decide) (o := 53) (by rw [s23_0]; decide) (by decide) ?_
        refine g_aloadR_n dX7_status_76 rfl rfl ?_
        refine n_getI dX7_status_77 fX7_102 rfl hW vld_x20 (Or.inl rfl) ?_
        refine g_iret dX7_status_80 rfl ?_
        refine qI h ?_
        have hwj : w = 0 := by rw [← e23]; exact s23_0
        subst hwj
        exact (show _ = opStatus X 0 from hX.1.1)
      by_cases s23_1 : y23 = 1
      · refine g_tableIn (tgt := 81) dX7_status_23 (by rw [s23_1]; decide) (by rw [s23_1]; decide) (o := 58) (by rw [s23_1]; decide) (by decide) ?_
        refine g_aloadR_n dX7_status_81 rfl rfl ?_
        refine n_getI dX7_status_82 fX7_7 rfl hW vld_x20 (Or.inl rfl) ?_
        refine g_iret dX7_status_85 rfl ?_
        refine qI h ?_
        have hwj : w = 1 := by rw [← e23]; exact s23_1
        subst hwj
        exact (show _ = opStatus X 1 from hX.1.2.1 1 (by decide) (by decide))
      by_cases s23_2 : y23 = 2
      · refine g_tableIn (tgt := 86) dX7_status_23 (by rw [s23_2]; decide) (by rw [s23_2]; decide) (o := 63) (by rw [s23_2]; decide) (by decide) ?_
        refine g_aloadR_n dX7_status_86 rfl rfl ?_
        refine n_getI dX7_status_87 fX7_131 rfl hW vld_x20 (Or.inl rfl) ?_
        refine g_iret dX7_status_90 rfl ?_
        refine qI h ?_
        have hwj : w = 2 := by rw [← e23]; exact s23_2
        subst hwj
        exact (show _ = opStatus X 2 from hX.1.2.1 2 (by decide) (by decide))
      by_cases s23_3 : y23 = 3
      · refine g_tableIn (tgt := 91) dX7_status_23 (by rw [s23_3]; decide) (by rw [s23_3]; decide) (o := 68) (by rw [s23_3]; decide) (by decide) ?_
        refine g_aloadR_n dX7_status_91 rfl rfl ?_
        refine n_getI dX7_status_92 fX7_13 rfl hW vld_x20 (Or.inl rfl) ?_
        refine g_iret dX7_status_95 rfl ?_
        refine qI h ?_
        have hwj : w = 3 := by rw [← e23]; exact s23_3
        subst hwj
        exact (show _ = opStatus X 3 from hX.1.2.1 3 (by decide) (by decide))
      by_cases s23_4 : y23 = 4
      · refine g_tableIn (tgt := 96) dX7_status_23 (by rw [s23_4]; decide) (by rw [s23_4]; decide) (o := 73) (by rw [s23_4]; decide) (by decide) ?_
        refine g_aloadR_n dX7_status_96 rfl rfl ?_
        refine n_getI dX7_status_97 fX7_16 rfl hW vld_x20 (Or.inl rfl) ?_
        refine g_iret dX7_status_100 rfl ?_
        refine qI h ?_
        have hwj : w = 4 := by rw [← e23]; exact s23_4
        subst hwj
        exact (show _ = opStatus X 4 from hX.1.2.1 4 (by decide) (by decide))
      by_cases s23_5 : y23 = 5
      · refine g_tableIn (tgt := 101) dX7_status_23 (by rw [s23_5]; decide) (by rw [s23_5]; decide) (o := 78) (by rw [s23_5]; decide) (by decide) ?_
        refine g_aloadR_n dX7_status_101 rfl rfl ?_
        refine n_getI dX7_status_102 fX7_183 rfl hW vld_x20 (Or.inl rfl) ?_
        refine g_iret dX7_status_105 rfl ?_
        refine qI h ?_
        have hwj : w = 5 := by rw [← e23]; exact s23_5
        subst hwj
        exact (show _ = opStatus X 5 from hX.1.2.1 5 (by decide) (by decide))
      by_cases s23_6 : y23 = 6
      · refine g_tableIn (tgt := 106) dX7_status_23 (by rw [s23_6]; decide) (by rw [s23_6]; decide) (o := 83) (by rw [s23_6]; decide) (by decide) ?_
        skip
        refine g_aloadR_n dX7_status_106 rfl rfl ?_
        refine g_aloadR_n dX7_status_107 rfl rfl ?_
        refine n_getR dX7_status_108 fX7_53 rfl hW vld_x20 rfl rfl ?_
        refine n_v1i (n' := 0) dX7_status_111 mX7_together lX7_289 rfl hW vld_x20 rfl rfl ⟨Nat.le_of_ble_eq_true rfl, Nat.le_of_ble_eq_true rfl⟩ ⟨Nat.zero_le _, Nat.zero_le _⟩ (Nat.le_of_ble_eq_true rfl) ?_
        refine wp_X7_together (f := 8) (by exact hW) hX.1 hO.1 (by decide) ?_
        refine ⟨_, rfl, ?_⟩
        refine g_iret dX7_status_114 rfl ?_
        refine qI h ?_
        have hwj : w = 6 := by rw [← e23]; exact s23_6
        subst hwj
        exact (show _ = opStatus X 6 from sum8b hO.1)
      by_cases s23_7 : y23 = 7
      · refine g_tableIn (tgt := 115) dX7_status_23 (by rw [s23_7]; decide) (by rw [s23_7]; decide) (o := 92) (by rw [s23_7]; decide) (by decide) ?_
        skip
        refine g_aloadR_n dX7_status_115 rfl rfl ?_
        refine g_aloadR_n dX7_status_116 rfl rfl ?_
        refine n_getR dX7_status_117 fX7_50 rfl hW vld_x20 rfl rfl ?_
        refine n_v1i (n' := 0) dX7_status_120 mX7_together lX7_289 rfl hW vld_x20 rfl rfl ⟨Nat.le_of_ble_eq_true rfl, Nat.le_of_ble_eq_true rfl⟩ ⟨Nat.zero_le _, Nat.zero_le _⟩ (Nat.le_of_ble_eq_true rfl) ?_
        refine wp_X7_together (f := 7) (by exact hW) hX.1 hO.1 (by decide) ?_
        refine ⟨_, rfl, ?_⟩
        refine g_iret dX7_status_123 rfl ?_
        refine qI h ?_
        have hwj : w = 7 := by rw [← e23]; exact s23_7
        subst hwj
        exact (show _ = opStatus X 7 from rfl)
      by_cases s23_8 : y23 = 8
      · refine g_tableIn (tgt := 124) dX7_status_23 (by rw [s23_8]; decide) (by rw [s23_8]; decide) (o := 101) (by rw [s23_8]; decide) (by decide) ?_
        refine g_aloadR_n dX7_status_124 rfl rfl ?_
        refine n_getI dX7_status_125 fX7_19 rfl hW vld_x20 (Or.inl rfl) ?_
        refine g_iret dX7_status_128 rfl ?_
        refine qI h ?_
        have hwj : w = 8 := by rw [← e23]; exact s23_8
        subst hwj
        exact (show _ = opStatus X 8 from hX.1.2.1 6 (by decide) (by decide))
      by_cases s23_9 : y23 = 9
      · refine g_tableIn (tgt := 129) dX7_status_23 (by rw [s23_9]; decide) (by rw [s23_9]; decide) (o := 106) (by rw [s23_9]; decide) (by decide) ?_
        refine g_aloadR_n dX7_status_129 rfl rfl ?_
        refine n_getI dX7_status_130 fX7_271 rfl hW vld_x20 (Or.inl rfl) ?_
        refine g_iret dX7_status_133 rfl ?_
        refine qI h ?_
        have hwj : w = 9 := by rw [← e23]; exact s23_9
        subst hwj
        exact (show _ = opStatus X 9 from hX.2.2.2.2.2.1.1)
      refine g_tableOut (tgt := 134) dX7_status_23 (by have t0 : ¬ y23.toInt = 0 := sw_ne s23_0; have t1 : ¬ y23.toInt = 1 := sw_ne s23_1; have t2 : ¬ y23.toInt = 2 := sw_ne s23_2; have t3 : ¬ y23.toInt = 3 := sw_ne s23_3; have t4 : ¬ y23.toInt = 4 := sw_ne s23_4; have t5 : ¬ y23.toInt = 5 := sw_ne s23_5; have t6 : ¬ y23.toInt = 6 := sw_ne s23_6; have t7 : ¬ y23.toInt = 7 := sw_ne s23_7; have t8 : ¬ y23.toInt = 8 := sw_ne s23_8; have t9 : ¬ y23.toInt = 9 := sw_ne s23_9; omega) (by decide) ?_
      refine g_iconst dX7_status_134 (v := (-1)) (by decide) ?_
      refine g_iret dX7_status_135 rfl ?_
      refine qI h ?_
      rw [e23] at s23_0 s23_1 s23_2 s23_3 s23_4 s23_5 s23_6 s23_7 s23_8 s23_9
      unfold opStatus
      rw [if_neg s23_0, if_neg s23_1, if_neg s23_2, if_neg s23_3, if_neg s23_4, if_neg s23_5, if_neg s23_6, if_neg s23_7, if_neg s23_8, if_neg s23_9, if_neg (fun z => by obtain ⟨z1, z2⟩ := z; first | (simp only [Int32.lt_iff_toInt_lt, zcs] at *; omega) | (simp only [Int32.lt_iff_toInt_lt, Int32.le_iff_toInt_le, zcs, show ((18 : Int32)).toInt = 18 by decide] at *; omega))]
    · have hw0 : ¬ w - 10 < 0 := by
        have e1 := i_sub (x := w) (y := 10) (by simp only [Int32.lt_iff_toInt_lt, Int32.le_iff_toInt_le, zcs] at *; omega) (by simp only [Int32.lt_iff_toInt_lt, Int32.le_iff_toInt_le, zcs] at *; omega)
        simp only [Int32.lt_iff_toInt_lt, Int32.le_iff_toInt_le, zcs] at *
        omega
      have hwi : (w - 10).toInt = w.toInt - 10 := by
        have e1 := i_sub (x := w) (y := 10) (by simp only [Int32.lt_iff_toInt_lt, Int32.le_iff_toInt_le, zcs] at *; omega) (by simp only [Int32.lt_iff_toInt_lt, Int32.le_iff_toInt_le, zcs] at *; omega)
        rw [e1]; simp only [zcs]
      have hw1 := clamp_eq hw0
      have hw2 : (w - 10).toNatClampNeg = (w.toInt - 10).toNat := by show (w - 10).toInt.toNat = _; rw [hwi]
      have hj1 : 1 ≤ (w - 10).toNatClampNeg := by rw [hw2]; simp only [Int32.lt_iff_toInt_lt, Int32.le_iff_toInt_le, zcs] at *; omega
      have hj8 : (w - 10).toNatClampNeg < 8 := by rw [hw2]; simp only [Int32.lt_iff_toInt_lt, Int32.le_iff_toInt_le, zcs] at *; omega
      refine g_aloadR_n dX7_status_12 rfl rfl ?_
      refine n_getR dX7_status_13 fX7_25 rfl hW vld_x20 rfl rfl ?_
      refine g_iload_n dX7_status_16 rfl rfl ?_
      refine g_bipush dX7_status_17 (v := 10) (by decide) ?_
      refine g_isub dX7_status_19 ?_
      refine n_iald (j := (w - 10).toNatClampNeg) dX7_status_20 rfl hW (vld_ma (by decide : 0 < 25)) (by decide) hw1 hj8 ?_
      refine g_iret dX7_status_21 rfl ?_
      refine qI h ?_
      unfold opStatus
      rw [if_neg (fun z => by subst z; revert c3; decide)]
      rw [if_neg (fun z => by subst z; revert c3; decide)]
      rw [if_neg (fun z => by subst z; revert c3; decide)]
      rw [if_neg (fun z => by subst z; revert c3; decide)]
      rw [if_neg (fun z => by subst z; revert c3; decide)]
      rw [if_neg (fun z => by subst z; revert c3; decide)]
      rw [if_neg (fun z => by subst z; revert c3; decide)]
      rw [if_neg (fun z => by subst z; revert c3; decide)]
      rw [if_neg (fun z => by subst z; revert c3; decide)]
      rw [if_neg (fun z => by subst z; revert c3; decide)]
      rw [if_pos (by simp only [Int32.lt_iff_toInt_lt, Int32.le_iff_toInt_le, zcs] at c3 c9 ⊢; exact ⟨by omega, by omega⟩)]
      exact hX.2.2.2.1 _ hj1 hj8
