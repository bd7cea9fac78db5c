/-! THE REFERENCE: SHELVES -/
theorem RepMo.shelf {M M' : Mem} {X : Sys} {s : Nat} {v : Sf} (h : RepMo M X) (hI : ∀ (b : Id) j, (b.1 = 20 ∨ (b.1 = 21 ∧ (b.2.1 < 10 ∨ 13 < b.2.1 ∨ j ≠ s))) → mI M' b j = mI M b j) (hJ : ∀ j, (j < 160 * s ∨ 160 * s + 160 ≤ j) → mJ M' (21, 14, 0) j = mJ M (21, 14, 0) j) (hn : RepSfM M' s v) : RepMo M' (setH X s v) := by
  obtain ⟨h1, h2, h3, h4, h5, h6, h7⟩ := h
  have hA : ∀ k j, k < 10 ∨ 13 < k → mI M' (21, k, 0) j = mI M (21, k, 0) j := fun k j hk => hI _ _ (Or.inr ⟨rfl, by simp only; omega⟩)
  have hB : ∀ f, mI M' (20, 0, 0) f = mI M (20, 0, 0) f := fun f => hI _ _ (Or.inl rfl)
  refine ⟨⟨(hB 0).trans h1.1, fun j a b => (hB j).trans (h1.2.1 j a b), fun i f a b => (hA _ _ (by omega)).trans (h1.2.2 i f a b)⟩, ?_, fun t ht => ?_, fun j a b => (hA _ _ (by omega)).trans (h4 j a b), (hB 7).trans h5, ⟨(hB 48).trans h6.1, fun i a b => (hA _ _ (by omega)).trans (h6.2 i a b)⟩, fun j hj => (hA _ _ (by omega)).trans (h7.1 j hj), fun j hj => (hA _ _ (by omega)).trans (h7.2.1 j hj), fun j hj => (hA _ _ (by omega)).trans (h7.2.2 j hj)⟩
  · show RepImM M' (xI X)
    revert h2
    cases xI X with
    | none => exact fun h2 => (hB 49).trans h2
    | some S => exact fun h2 => ⟨(hB 49).trans h2.1, (hA _ _ (by omega)).trans h2.2.1, fun j a b => (hA _ _ (by omega)).trans (h2.2.2.1 j a b), fun i f a b => (hA _ _ (by omega)).trans (h2.2.2.2 i f a b)⟩
  · show RepSfM M' t (if t = s then v else xH X t)
    by_cases q : t = s
    · subst q; rw [if_pos rfl]; exact hn
    · rw [if_neg q]
      obtain ⟨g1, g2, g3⟩ := h3 t ht
      have hS : ∀ k, mI M' (21, k, 0) t = mI M (21, k, 0) t := fun k => hI _ _ (Or.inr ⟨rfl, by simp only; omega⟩)
      exact ⟨(hS _).trans g1, fun q2 => ⟨(hS _).trans (g2 q2).1, (hS _).trans (g2 q2).2.1, fun j hj => (hJ _ (by omega)).trans ((g2 q2).2.2 j hj)⟩, fun q2 => (hS _).trans (g3 q2)⟩
theorem RepSfM.h0 {M : Mem} {s : Nat} {v : Sf} (h : RepSfM M s v) (h3 : v.1 = 0 ∨ v.1 = 1 ∨ v.1 = 2) : (mI M (21, 10, 0) s = 0 ↔ v.1 = 0) ∧ (mI M (21, 10, 0) s = 1 ↔ v.1 = 1) ∧ (mI M (21, 10, 0) s = 2 ↔ v.1 = 2) := by
  rw [h.1, show (0 : Int32) = nI 0 from rfl, show (1 : Int32) = nI 1 from rfl, show (2 : Int32) = nI 2 from rfl, nI_eq (by omega) (by omega), nI_eq (by omega) (by omega), nI_eq (by omega) (by omega)]
  exact ⟨Iff.rfl, Iff.rfl, Iff.rfl⟩
def rowM (M : Mem) (s : Nat) (so n : Int32) : Mem := sI (sI (sI M (21, 10, 0) s 1) (21, 11, 0) s so) (21, 12, 0) s n
set_option maxHeartbeats 4000000 in
set_option maxRecDepth 100000 in
theorem lp_X7_row {E : Ev} {M : Mem} {Q : QT} (hW : Wi M) {s : Nat} (hs : s < 8) {s1 so n : Int32} (hs1 : s1 = nI s) (h : ∀ M1, (M1.1 = (rowM M s so n).1 ∧ M1.2.2 = M.2.2 ∧ (∀ b, b ≠ (21, 14, 0) → mJ M1 b = mJ M b) ∧ (∀ i, i < 160 → mJ M1 (21, 14, 0) (160 * s + i) = 0) ∧ ∀ k, k < 160 * s ∨ 160 * s + 160 ≤ k → mJ M1 (21, 14, 0) k = mJ M (21, 14, 0) k) → Q (some (vI 1)) M1) : ∀ j, j ≤ 160 → ∀ (M1 : Mem), (M1.1 = (rowM M s so n).1 ∧ M1.2.2 = M.2.2 ∧ (∀ b, b ≠ (21, 14, 0) → mJ M1 b = mJ M b) ∧ (∀ i, i < j → mJ M1 (21, 14, 0) (160 * s + i) = 0) ∧ ∀ k, k < 160 * s ∨ 160 * s + 160 ≤ k → mJ M1 (21, 14, 0) k = mJ M (21, 14, 0) k) → G E (rm 1 0 0) kX7_row (ZQ E Q 0 0) 0 0 79 [some (vR (20, 0, 0)), some (vI s1), some (vI so), some (vI n), some (vI (nI j))] [] M1 := by
  subst hs1
  refine up_loop 160 (fun j hj ih M1 hst => ?_)
  have hst2 := hst
  obtain ⟨r1, r2, r3, r4, r5⟩ := hst2
  have hW1 : Wi M1 := by unfold Wi; rw [r2]; exact hW
  refine g_iload dX7_row_79 rfl ?_
  refine g_sipush dX7_row_81 (v := 160) (by decide) ?_
  refine g_icmp_ge (tgt := 107) dX7_row_84 (by decide) (fun c84 => ?_) (fun c84 => ?_)
  · rw [show (160 : Int32) = nI 160 from rfl] at c84
    have hjn2 : j = 160 := by rw [nI_leI (by omega) (by omega)] at c84; omega
    refine g_iconst dX7_row_107 (v := 1) (by decide) ?_
    refine g_iret dX7_row_108 rfl ?_
    subst hjn2
    exact h M1 hst
  · rw [show (160 : Int32) = nI 160 from rfl] at c84
    have hjn : j < 160 := by rw [nI_leI (by omega) (by omega)] at c84; omega
    refine g_aloadR_n dX7_row_87 rfl rfl ?_
    refine n_getR dX7_row_88 fX7_68 rfl hW1 vld_x20 rfl rfl ?_
    refine g_sipush dX7_row_91 (v := 160) (by decide) ?_
    refine g_iload_n dX7_row_94 rfl rfl ?_
    refine g_imul dX7_row_95 ?_
    refine g_iload dX7_row_96 rfl ?_
    refine g_iadd dX7_row_98 ?_
    refine g_lconst dX7_row_99 (v := 0) (by decide) ?_
    refine n_last (j := 160 * s + j) dX7_row_100 rfl hW1 (vld_ma (by decide : 14 < 25)) (by decide) ix160 (show 160 * s + j < 1280 by omega) ?_
    refine g_iinc_4 (v := nI (j + 1)) dX7_row_101 rfl (nI_inc j) ?_
    refine g_goto (tgt := 79) dX7_row_104 (by decide) ?_
    refine ih hjn _ ⟨r1, r2, fun b hb => (funext fun k => by simp only [mJ, sJ]; rw [if_neg (fun z => hb z.1)]; exact congrFun (r3 b hb) k), fun i hi => ?_, fun k hk => ?_⟩
    · simp only [mJ, sJ]
      by_cases q : i = j
      · subst q; rw [if_pos ⟨trivial, rfl⟩]
      · rw [if_neg (fun z => by have := z.2; omega)]; exact r4 i (by omega)
    · simp only [mJ, sJ]
      rw [if_neg (fun z => by have := z.2; omega)]; exact r5 k hk
set_option maxHeartbeats 4000000 in
set_option maxRecDepth 100000 in
theorem wp_X7_row {E : Ev} {M : Mem} {Q : QT} (hW : Wi M) {X : Sys} (hX : RepMo M X) (hO : OkX X) {s so n : Int32} (h : ∀ M', FrM M M' → RepMo M' (opRow X s so n).2 → Q (some (vI (opRow X s so n).1)) M') : Mth E 1 0 0 kX7_row [vR (20, 0, 0), vI s, vI so, vI n] M Q := by
  refine mth_of (by decide +kernel) [some (vR (20, 0, 0)), some (vI s), some (vI so), some (vI n), none] (Nat.le_of_ble_eq_true rfl) rfl ?_
  refine g_aloadR_n dX7_row_0 rfl rfl ?_
  refine g_iload_n dX7_row_1 rfl rfl ?_
  refine n_v1i (n' := 0) dX7_row_2 mX7_isShelf lX7_105 rfl hW vld_x20 rfl rfl ⟨Nat.le_of_ble_eq_true rfl, Nat.le_of_ble_eq_true rfl⟩ ⟨Nat.zero_le _, Nat.zero_le _⟩ (Nat.le_of_ble_eq_true rfl) ?_
  refine wp_X7_isShelf ?_
  refine ⟨_, rfl, ?_⟩
  refine g_if_ne (tgt := 14) dX7_row_5 (by decide) (fun c5 => ?_) (fun c5 => ?_)
  · simp only [b2_0, Decidable.not_not] at c5
    obtain ⟨hs1, hs2⟩ := IN_nI c5
    have hsf := hX.2.2.1 _ hs2
    have h3 := hO.sf hs2
    have hsv := shV_in (X := X) c5
    have hos := hO.2.2.1 _ hs2
    refine g_iload_n dX7_row_14 rfl rfl ?_
    refine g_if_ge (tgt := 25) dX7_row_15 (by decide) (fun c15 => ?_) (fun c15 => ?_)
    · refine g_iload_n dX7_row_25 rfl rfl ?_
      refine g_if_lt (tgt := 34) dX7_row_26 (by decide) (fun c26 => ?_) (fun c26 => ?_)
      · refine g_aloadR_n dX7_row_34 rfl rfl ?_
        refine g_bipush dX7_row_35 (v := (-6)) (by decide) ?_
        refine n_v1i (n' := 0) dX7_row_37 mX7_no lX7_109 rfl hW vld_x20 rfl rfl ⟨Nat.le_of_ble_eq_true rfl, Nat.le_of_ble_eq_true rfl⟩ ⟨Nat.zero_le _, Nat.zero_le _⟩ (Nat.le_of_ble_eq_true rfl) ?_
        refine wp_X7_no (j := 6) (by exact hW) (by decide) (by decide) ?_
        refine ⟨_, rfl, ?_⟩
        refine g_iret dX7_row_40 rfl ?_
        have e : opRow X s so n = rfX X 6 := by
          unfold opRow
          rw [if_neg (not_not_intro c5), if_neg (not_not_intro c15), if_pos c26]
        rw [e] at h
        exact h _ (frM_sI (by decide)) (repMo_rfm hX (by decide) (by decide))
      · refine g_iload_n dX7_row_29 rfl rfl ?_
        refine g_iconst dX7_row_30 (v := 3) (by decide) ?_
        refine g_icmp_le (tgt := 41) dX7_row_31 (by decide) (fun c31 => ?_) (fun c31 => ?_)
        · refine g_iload_n dX7_row_41 rfl rfl ?_
          refine g_sipush dX7_row_42 (v := 160) (by decide) ?_
          refine g_icmp_le (tgt := 55) dX7_row_45 (by decide) (fun c45 => ?_) (fun c45 => ?_)
          · refine g_aloadR_n dX7_row_55 rfl rfl ?_
            refine n_getR dX7_row_56 fX7_56 rfl hW vld_x20 rfl rfl ?_
            refine g_iload_n dX7_row_59 rfl rfl ?_
            refine g_iconst dX7_row_60 (v := 1) (by decide) ?_
            refine n_iast (j := s.toNatClampNeg) dX7_row_61 rfl hW (vld_ma (by decide : 10 < 25)) (by decide) hs1 hs2 ?_
            refine g_aloadR_n dX7_row_62 rfl rfl ?_
            refine n_getR dX7_row_63 fX7_59 rfl hW vld_x20 rfl rfl ?_
            refine g_iload_n dX7_row_66 rfl rfl ?_
            refine g_iload_n dX7_row_67 rfl rfl ?_
            refine n_iast (j := s.toNatClampNeg) dX7_row_68 rfl hW (vld_ma (by decide : 11 < 25)) (by decide) hs1 hs2 ?_
            refine g_aloadR_n dX7_row_69 rfl rfl ?_
            refine n_getR dX7_row_70 fX7_62 rfl hW vld_x20 rfl rfl ?_
            refine g_iload_n dX7_row_73 rfl rfl ?_
            refine g_iload_n dX7_row_74 rfl rfl ?_
            refine n_iast (j := s.toNatClampNeg) dX7_row_75 rfl hW (vld_ma (by decide : 12 < 25)) (by decide) hs1 hs2 ?_
            refine g_iconst dX7_row_76 (v := 0) (by decide) ?_
            refine g_istore_4 dX7_row_77 rfl ?_
            refine lp_X7_row (n := n) (so := so) (s := s.toNatClampNeg) (M := M) hW hs2 hs1 (fun M1 hst => ?_) 0 (Nat.zero_le _) _ ⟨rfl, rfl, fun b hb => rfl, fun i hi => absurd hi (by omega), fun k hk => rfl⟩
            obtain ⟨r1, r2, r3, r4, r5⟩ := hst
            have e : opRow X s so n = (1, setH X s.toNatClampNeg (1, so, 0, n.toNatClampNeg, fun _ => 0)) := by
              unfold opRow
              rw [if_neg (not_not_intro c5), if_neg (not_not_intro c15), if_neg c26, if_neg (not_not_intro c31), if_neg (not_not_intro c45)]
            rw [e] at h
            have hn1 : n = nI n.toNatClampNeg := clamp_eq (Int32.not_lt.mpr c15)
            have hI : ∀ (b : Id) j, mI M1 b j = mI (rowM M s.toNatClampNeg so n) b j := fun b j => congrFun (congrFun r1 b) j
            refine h _ ⟨r2, fun b hb => ⟨funext fun j => ?_, r3 b (by intro q; subst q; exact absurd hb (by decide))⟩⟩ (hX.shelf (fun b j hb => ?_) r5 ⟨?_, fun _ => ⟨?_, ?_, r4⟩, fun q => by cases q⟩)
            · rw [hI]; unfold rowM; simp only [mI, sI]
              rw [if_neg (fun z => by rw [z.1] at hb; exact absurd hb (by decide)), if_neg (fun z => by rw [z.1] at hb; exact absurd hb (by decide)), if_neg (fun z => by rw [z.1] at hb; exact absurd hb (by decide))]
            · rw [hI]; unfold rowM; simp only [mI, sI]
              have hk : ∀ k, (k = 10 ∨ k = 11 ∨ k = 12) → ¬ (b = (21, k, 0) ∧ j = s.toNatClampNeg) := fun k hk z => by
                obtain ⟨z1, z2⟩ := z; subst z1; rcases hb with q | ⟨-, q⟩
                · cases q
                · simp only at q; omega
              rw [if_neg (hk _ (by omega)), if_neg (hk _ (by omega)), if_neg (hk _ (by omega))]
            · rw [hI]; simp [rowM, mI, sI, nI_1]; decide
            · rw [hI]; simp [rowM, mI, sI]
            · rw [hI]; rw [← hn1]; simp [rowM, mI, sI]
          · refine g_aloadR_n dX7_row_48 rfl rfl ?_
            refine g_bipush dX7_row_49 (v := (-7)) (by decide) ?_
            refine n_v1i (n' := 0) dX7_row_51 mX7_no lX7_109 rfl hW vld_x20 rfl rfl ⟨Nat.le_of_ble_eq_true rfl, Nat.le_of_ble_eq_true rfl⟩ ⟨Nat.zero_le _, Nat.zero_le _⟩ (Nat.le_of_ble_eq_true rfl) ?_
            refine wp_X7_no (j := 7) (by exact hW) (by decide) (by decide) ?_
            refine ⟨_, rfl, ?_⟩
            refine g_iret dX7_row_54 rfl ?_
            have e : opRow X s so n = rfX X 7 := by
              unfold opRow
              rw [if_neg (not_not_intro c5), if_neg (not_not_intro c15), if_neg c26, if_neg (not_not_intro c31), if_pos c45]
            rw [e] at h
            exact h _ (frM_sI (by decide)) (repMo_rfm hX (by decide) (by decide))
        · refine g_aloadR_n dX7_row_34 rfl rfl ?_
          refine g_bipush dX7_row_35 (v := (-6)) (by decide) ?_
          refine n_v1i (n' := 0) dX7_row_37 mX7_no lX7_109 rfl hW vld_x20 rfl rfl ⟨Nat.le_of_ble_eq_true rfl, Nat.le_of_ble_eq_true rfl⟩ ⟨Nat.zero_le _, Nat.zero_le _⟩ (Nat.le_of_ble_eq_true rfl) ?_
          refine wp_X7_no (j := 6) (by exact hW) (by decide) (by decide) ?_
          refine ⟨_, rfl, ?_⟩
          refine g_iret dX7_row_40 rfl ?_
          have e : opRow X s so n = rfX X 6 := by
            unfold opRow
            rw [if_neg (not_not_intro c5), if_neg (not_not_intro c15), if_neg c26, if_pos c31]
          rw [e] at h
          exact h _ (frM_sI (by decide)) (repMo_rfm hX (by decide) (by decide))
    · refine g_aloadR_n dX7_row_18 rfl rfl ?_
      refine g_bipush dX7_row_19 (v := (-4)) (by decide) ?_
      refine n_v1i (n' := 0) dX7_row_21 mX7_no lX7_109 rfl hW vld_x20 rfl rfl ⟨Nat.le_of_ble_eq_true rfl, Nat.le_of_ble_eq_true rfl⟩ ⟨Nat.zero_le _, Nat.zero_le _⟩ (Nat.le_of_ble_eq_true rfl) ?_
      refine wp_X7_no (j := 4) (by exact hW) (by decide) (by decide) ?_
      refine ⟨_, rfl, ?_⟩
      refine g_iret dX7_row_24 rfl ?_
      have e : opRow X s so n = rfX X 4 := by
        unfold opRow
        rw [if_neg (not_not_intro c5), if_pos c15]
      rw [e] at h
      exact h _ (frM_sI (by decide)) (repMo_rfm hX (by decide) (by decide))
  · simp only [b2_0, Decidable.not_not] at c5
    refine g_aloadR_n dX7_row_8 rfl rfl ?_
    refine g_iconst dX7_row_9 (v := (-1)) (by decide) ?_
    refine n_v1i (n' := 0) dX7_row_10 mX7_no lX7_109 rfl hW vld_x20 rfl rfl ⟨Nat.le_of_ble_eq_true rfl, Nat.le_of_ble_eq_true rfl⟩ ⟨Nat.zero_le _, Nat.zero_le _⟩ (Nat.le_of_ble_eq_true rfl) ?_
    refine wp_X7_no (j := 1) (by exact hW) (by decide) (by decide) ?_
    refine ⟨_, rfl, ?_⟩
    refine g_iret dX7_row_13 rfl ?_
    have e : opRow X s so n = rfX X 1 := by
      unfold opRow
      rw [if_pos c5]
    rw [e] at h
    exact h _ (frM_sI (by decide)) (repMo_rfm hX (by decide) (by decide))
theorem wnr_1 {X : Sys} {s : Int32} (h : ¬ IN s 8) : wnr X s = 1 := if_pos h
theorem wnr_2 {X : Sys} {s : Int32} (h : IN s 8) (h2 : (xH X s.toNatClampNeg).1 = 2) : wnr X s = 2 := by unfold wnr; rw [if_neg (not_not_intro h), shV_in h, if_pos h2]
theorem wnr_3 {X : Sys} {s : Int32} (h : IN s 8) (h2 : (xH X s.toNatClampNeg).1 = 0) : wnr X s = 3 := by unfold wnr; rw [if_neg (not_not_intro h), shV_in h, if_neg (by omega), if_neg (by omega)]
theorem wnr0_ {X : Sys} {s : Int32} (h : IN s 8) (h2 : (xH X s.toNatClampNeg).1 = 1) : wnr X s = 0 := by unfold wnr; rw [if_neg (not_not_intro h), shV_in h, if_neg (by omega), if_pos h2]
theorem lenF_1 {v : Sf} (h : v.1 = 1) : lenF v = v.2.2.2.1 := if_pos h
theorem lenF_n {v : Sf} (h : ¬ v.1 = 1) : lenF v = 0 := if_neg h
set_option maxHeartbeats 4000000 in
set_option maxRecDepth 100000 in
theorem wp_X7_element {E : Ev} {M : Mem} {Q : QT} (hW : Wi M) {X : Sys} (hX : RepMo M X) (hO : OkX X) {s i : Int32} (h : Q (some (vL (elF (shV X s) i))) M) : Mth E 1 0 0 kX7_element [vR (20, 0, 0), vI s, vI i] M Q := by
  refine mth_of (by decide +kernel) [some (vR (20, 0, 0)), some (vI s), some (vI i)] (Nat.le_of_ble_eq_true rfl) rfl ?_
  refine g_aloadR_n dX7_element_0 rfl rfl ?_
  refine g_iload_n dX7_element_1 rfl rfl ?_
  refine n_v1i (n' := 0) dX7_element_2 mX7_isShelf lX7_105 rfl hW vld_x20 rfl rfl ⟨Nat.le_of_ble_eq_true rfl, Nat.le_of_ble_eq_true rfl⟩ ⟨Nat.zero_le _, Nat.zero_le _⟩ (Nat.le_of_ble_eq_true rfl) ?_
  refine wp_X7_isShelf ?_
  refine ⟨_, rfl, ?_⟩
  refine g_if_eq (tgt := 47) dX7_element_5 (by decide) (fun c5 => ?_) (fun c5 => ?_)
  · simp only [b2_0, Decidable.not_not] at c5
    refine g_lconst dX7_element_47 (v := 0) (by decide) ?_
    refine g_lret dX7_element_48 rfl ?_
    refine qL h ?_
    unfold elF
    have hv0 : shV X s = noSf := if_neg c5
    rw [hv0, if_neg (fun q => by have q1 := q.1; have q2 := q.2; have : lenF noSf = 0 := rfl; omega)]
  · simp only [b2_0, Decidable.not_not] at c5
    obtain ⟨hs1, hs2⟩ := IN_nI c5
    have hsf := hX.2.2.1 _ hs2
    have h3 := hO.sf hs2
    have hsv := shV_in (X := X) c5
    have hos := hO.2.2.1 _ hs2
    have hh := hsf.h0 h3
    refine g_aloadR_n dX7_element_8 rfl rfl ?_
    refine n_getR dX7_element_9 fX7_56 rfl hW vld_x20 rfl rfl ?_
    refine g_iload_n dX7_element_12 rfl rfl ?_
    refine n_iald (j := s.toNatClampNeg) dX7_element_13 rfl hW (vld_ma (by decide : 10 < 25)) (by decide) hs1 hs2 ?_
    refine g_iconst dX7_element_14 (v := 1) (by decide) ?_
    refine g_icmp_ne (tgt := 47) dX7_element_15 (by decide) (fun c15 => ?_) (fun c15 => ?_)
    · refine g_lconst dX7_element_47 (v := 0) (by decide) ?_
      refine g_lret dX7_element_48 rfl ?_
      refine qL h ?_
      unfold elF
      rw [hsv, if_neg (fun q => by have q2 := q.2; rw [lenF_n (fun z => c15 (hh.2.1.mpr z))] at q2; omega)]
    · have c15 : mI M (21, 10, 0) s.toNatClampNeg = 1 := by first | exact c15 | exact Decidable.not_not.mp c15
      have hv1 := hh.2.1.mp c15
      have hl160 : (xH X s.toNatClampNeg).2.2.2.1 ≤ 160 := (hos.2.1 hv1).2
      have hsz12 := (hsf.2.1 hv1).2.1
      refine g_iload_n dX7_element_18 rfl rfl ?_
      refine g_if_lt (tgt := 47) dX7_element_19 (by decide) (fun c19 => ?_) (fun c19 => ?_)
      · refine g_lconst dX7_element_47 (v := 0) (by decide) ?_
        refine g_lret dX7_element_48 rfl ?_
        refine qL h ?_
        unfold elF
        rw [hsv, if_neg (fun q => by have := q.1; simp only [Int32.lt_iff_toInt_lt, zcs] at c19; omega)]
      · refine g_iload_n dX7_element_22 rfl rfl ?_
        refine g_aloadR_n dX7_element_23 rfl rfl ?_
        refine n_getR dX7_element_24 fX7_62 rfl hW vld_x20 rfl rfl ?_
        refine g_iload_n dX7_element_27 rfl rfl ?_
        refine n_iald (j := s.toNatClampNeg) dX7_element_28 rfl hW (vld_ma (by decide : 12 < 25)) (by decide) hs1 hs2 ?_
        refine g_icmp_ge (tgt := 47) dX7_element_29 (by decide) (fun c29 => ?_) (fun c29 => ?_)
        · rw [hsz12] at c29
          refine g_lconst dX7_element_47 (v := 0) (by decide) ?_
          refine g_lret dX7_element_48 rfl ?_
          refine qL h ?_
          unfold elF
          rw [hsv, lenF_1 hv1, if_neg (fun q => by have q2 := q.2; have := nI_toInt (n := (xH X s.toNatClampNeg).2.2.2.1) (by omega); rw [Int32.le_iff_toInt_le] at c29; omega)]
        · rw [hsz12] at c29
          have hi0 : i = nI i.toNatClampNeg := clamp_eq c19
          have hib := clamp_lt c19 c29 (by omega)
          refine g_aloadR_n dX7_element_32 rfl rfl ?_
          refine n_getR dX7_element_33 fX7_68 rfl hW vld_x20 rfl rfl ?_
          refine g_sipush dX7_element_36 (v := 160) (by decide) ?_
          refine g_iload_n dX7_element_39 rfl rfl ?_
          refine g_imul dX7_element_40 ?_
          refine g_iload_n dX7_element_41 rfl rfl ?_
          refine g_iadd dX7_element_42 ?_
          refine n_lald (j := 160 * s.toNatClampNeg + i.toNatClampNeg) dX7_element_43 rfl hW (vld_ma (by decide : 14 < 25)) (by decide) (by rw [← ix160, ← hs1, ← hi0]) (show 160 * s.toNatClampNeg + i.toNatClampNeg < 1280 by omega) ?_
          refine g_goto (tgt := 48) dX7_element_44 (by decide) ?_
          refine g_lret dX7_element_48 rfl ?_
          refine qL h ?_
          unfold elF
          rw [hsv, lenF_1 hv1, if_pos (by have h1 : i.toInt = (i.toNatClampNeg : Int) := by rw [hi0]; rw [nI_clamp (by omega)]; exact nI_toInt (by omega)
                                          exact ⟨by omega, by omega⟩)]
          exact (hsf.2.1 hv1).2.2 _ (by omega)
set_option maxHeartbeats 4000000 in
set_option maxRecDepth 100000 in
theorem wp_X7_holds {E : Ev} {M : Mem} {Q : QT} (hW : Wi M) {X : Sys} (hX : RepMo M X) (hO : OkX X) {s : Int32} (h : Q (some (vI (opHolds X s))) M) : Mth E 1 0 0 kX7_holds [vR (20, 0, 0), vI s] M Q := by
  refine mth_of (by decide +kernel) [some (vR (20, 0, 0)), some (vI s)] (Nat.le_of_ble_eq_true rfl) rfl ?_
  refine g_aloadR_n dX7_holds_0 rfl rfl ?_
  refine g_iload_n dX7_holds_1 rfl rfl ?_
  refine n_v1i (n' := 0) dX7_holds_2 mX7_isShelf lX7_105 rfl hW vld_x20 rfl rfl ⟨Nat.le_of_ble_eq_true rfl, Nat.le_of_ble_eq_true rfl⟩ ⟨Nat.zero_le _, Nat.zero_le _⟩ (Nat.le_of_ble_eq_true rfl) ?_
  refine wp_X7_isShelf ?_
  refine ⟨_, rfl, ?_⟩
  refine g_if_eq (tgt := 17) dX7_holds_5 (by decide) (fun c5 => ?_) (fun c5 => ?_)
  · simp only [b2_0, Decidable.not_not] at c5
    refine g_iconst dX7_holds_17 (v := (-1)) (by decide) ?_
    refine g_iret dX7_holds_18 rfl ?_
    refine qI h ?_
    unfold opHolds
    have hv0 : shV X s = noSf := if_neg c5
    rw [hv0]; rfl
  · simp only [b2_0, Decidable.not_not] at c5
    obtain ⟨hs1, hs2⟩ := IN_nI c5
    have hsf := hX.2.2.1 _ hs2
    have h3 := hO.sf hs2
    have hsv := shV_in (X := X) c5
    have hos := hO.2.2.1 _ hs2
    have hh := hsf.h0 h3
    refine g_aloadR_n dX7_holds_8 rfl rfl ?_
    refine n_getR dX7_holds_9 fX7_56 rfl hW vld_x20 rfl rfl ?_
    refine g_iload_n dX7_holds_12 rfl rfl ?_
    refine n_iald (j := s.toNatClampNeg) dX7_holds_13 rfl hW (vld_ma (by decide : 10 < 25)) (by decide) hs1 hs2 ?_
    refine g_if_ne (tgt := 19) dX7_holds_14 (by decide) (fun c14 => ?_) (fun c14 => ?_)
    · have c14 : ¬ (xH X s.toNatClampNeg).1 = 0 := fun z => c14 (hh.1.mpr z)
      refine g_aloadR_n dX7_holds_19 rfl rfl ?_
      refine n_getR dX7_holds_20 fX7_56 rfl hW vld_x20 rfl rfl ?_
      refine g_iload_n dX7_holds_23 rfl rfl ?_
      refine n_iald (j := s.toNatClampNeg) dX7_holds_24 rfl hW (vld_ma (by decide : 10 < 25)) (by decide) hs1 hs2 ?_
      refine g_iconst dX7_holds_25 (v := 1) (by decide) ?_
      refine g_icmp_ne (tgt := 41) dX7_holds_26 (by decide) (fun c26 => ?_) (fun c26 => ?_)
      · have c26 : ¬ (xH X s.toNatClampNeg).1 = 1 := fun z => c26 (hh.2.1.mpr z)
        refine g_aloadR_n dX7_holds_41 rfl rfl ?_
        refine n_getR dX7_holds_42 fX7_65 rfl hW vld_x20 rfl rfl ?_
        refine g_iload_n dX7_holds_45 rfl rfl ?_
        refine n_iald (j := s.toNatClampNeg) dX7_holds_46 rfl hW (vld_ma (by decide : 13 < 25)) (by decide) hs1 hs2 ?_
        refine g_iret dX7_holds_47 rfl ?_
        refine qI h ?_
        unfold opHolds
        have q2 : (xH X s.toNatClampNeg).1 = 2 := by omega
        rw [hsv, if_neg (by omega)]; unfold persF; rw [if_pos q2]; exact hsf.2.2 q2
      · have c26 : mI M (21, 10, 0) s.toNatClampNeg = 1 := by first | exact c26 | exact Decidable.not_not.mp c26
        have c26 := hh.2.1.mp c26
        refine g_bipush dX7_holds_29 (v := 100) (by decide) ?_
        refine g_aloadR_n dX7_holds_31 rfl rfl ?_
        refine n_getR dX7_holds_32 fX7_59 rfl hW vld_x20 rfl rfl ?_
        refine g_iload_n dX7_holds_35 rfl rfl ?_
        refine n_iald (j := s.toNatClampNeg) dX7_holds_36 rfl hW (vld_ma (by decide : 11 < 25)) (by decide) hs1 hs2 ?_
        refine g_iadd dX7_holds_37 ?_
        refine g_goto (tgt := 47) dX7_holds_38 (by decide) ?_
        refine g_iret dX7_holds_47 rfl ?_
        refine qI h ?_
        unfold opHolds
        rw [hsv, if_pos c26, (hsf.2.1 c26).1]
    · have c14 : mI M (21, 10, 0) s.toNatClampNeg = 0 := by first | exact c14 | exact Decidable.not_not.mp c14
      have c14 := hh.1.mp c14
      refine g_iconst dX7_holds_17 (v := (-1)) (by decide) ?_
      refine g_iret dX7_holds_18 rfl ?_
      refine qI h ?_
      unfold opHolds
      rw [hsv, if_neg (by omega)]; unfold persF; rw [if_neg (by omega)]
set_option maxHeartbeats 4000000 in
set_option maxRecDepth 100000 in
theorem wp_X7_fault {E : Ev} {M : Mem} {Q : QT} (hW : Wi M) {X : Sys} (hX : RepMo M X) (hO : OkX X) (h : Q (some (vI (xF X))) M) : Mth E 0 0 0 kX7_fault [vR (20, 0, 0)] M Q := by
  refine mth_of (by decide +kernel) [some (vR (20, 0, 0))] (Nat.le_of_ble_eq_true rfl) rfl ?_
  refine g_aloadR_n dX7_fault_0 rfl rfl ?_
  refine n_getI dX7_fault_1 fX7_22 rfl hW vld_x20 (Or.inl rfl) ?_
  refine g_iret dX7_fault_4 rfl ?_
  exact qI h hX.2.2.2.2.1
