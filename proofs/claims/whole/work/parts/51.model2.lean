/-! THE REFERENCE: MORE SMALL METHODS -/
theorem OkX.sf {X : Sys} (h : OkX X) {s : Nat} (hs : s < 8) : (xH X s).1 = 0 ∨ (xH X s).1 = 1 ∨ (xH X s).1 = 2 := (h.2.2.1 s hs).1
theorem shV_in {X : Sys} {s : Int32} (h : IN s 8) : shV X s = xH X s.toNatClampNeg := if_pos h
set_option maxHeartbeats 4000000 in
set_option maxRecDepth 100000 in
theorem wp_X7_wanted {E : Ev} {M : Mem} {Q : QT} (hW : Wi M) {X : Sys} (hX : RepMo M X) (hO : OkX X) {s : Int32} (h : Q (some (vI (-(nI (wnr X s))))) M) : Mth E 1 0 0 kX7_wanted [vR (20, 0, 0), vI s] M Q := by
  refine mth_of (by decide +kernel) [some (vR (20, 0, 0)), some (vI s)] (Nat.le_of_ble_eq_true rfl) rfl ?_
  refine g_aloadR_n dX7_wanted_0 rfl rfl ?_
  refine g_iload_n dX7_wanted_1 rfl rfl ?_
  refine n_v1i (n' := 0) dX7_wanted_2 mX7_isShelf lX7_105 rfl hW vld_x20 rfl rfl ⟨Nat.le_of_ble_eq_true rfl, Nat.le_of_ble_eq_true rfl⟩ ⟨Nat.zero_le _, Nat.zero_le _⟩ (Nat.le_of_ble_eq_true rfl) ?_
  refine wp_X7_isShelf ?_
  refine ⟨_, rfl, ?_⟩
  refine g_if_ne (tgt := 12) dX7_wanted_5 (by decide) (fun c5 => ?_) (fun c5 => ?_)
  · simp only [b2_0, Decidable.not_not] at c5
    obtain ⟨hs1, hs2⟩ := IN_nI c5
    have hsf := hX.2.2.1 _ hs2
    have h3 := hO.sf hs2
    have hsv := shV_in (X := X) c5
    refine g_aloadR_n dX7_wanted_12 rfl rfl ?_
    refine n_getR dX7_wanted_13 fX7_56 rfl hW vld_x20 rfl rfl ?_
    refine g_iload_n dX7_wanted_16 rfl rfl ?_
    refine n_iald (j := s.toNatClampNeg) dX7_wanted_17 rfl hW (vld_ma (by decide : 10 < 25)) (by decide) hs1 hs2 ?_
    refine g_iconst dX7_wanted_18 (v := 2) (by decide) ?_
    refine g_icmp_ne (tgt := 27) dX7_wanted_19 (by decide) (fun c19 => ?_) (fun c19 => ?_)
    · rw [hsf.1] at c19
      refine g_aloadR_n dX7_wanted_27 rfl rfl ?_
      refine n_getR dX7_wanted_28 fX7_56 rfl hW vld_x20 rfl rfl ?_
      refine g_iload_n dX7_wanted_31 rfl rfl ?_
      refine n_iald (j := s.toNatClampNeg) dX7_wanted_32 rfl hW (vld_ma (by decide : 10 < 25)) (by decide) hs1 hs2 ?_
      refine g_if_ne (tgt := 41) dX7_wanted_33 (by decide) (fun c33 => ?_) (fun c33 => ?_)
      · rw [hsf.1] at c33
        refine g_iconst dX7_wanted_41 (v := 0) (by decide) ?_
        refine g_iret dX7_wanted_42 rfl ?_
        have n2 : (xH X s.toNatClampNeg).1 ≠ 2 := fun q => c19 (by rw [q]; rfl)
        have n0 : (xH X s.toNatClampNeg).1 ≠ 0 := fun q => c33 (by rw [q]; rfl)
        have e : wnr X s = 0 := by unfold wnr; rw [if_neg (not_not_intro c5), hsv, if_neg n2, if_pos (by omega)]
        rw [e] at h; exact h
      · rw [hsf.1] at c33
        refine g_bipush dX7_wanted_36 (v := (-3)) (by decide) ?_
        refine g_goto (tgt := 42) dX7_wanted_38 (by decide) ?_
        refine g_iret dX7_wanted_42 rfl ?_
        have c33 : (xH X s.toNatClampNeg).1 = 0 := by
          have c33 : nI (xH X s.toNatClampNeg).1 = nI 0 := by first | exact c33 | exact Decidable.not_not.mp c33
          exact (nI_eq (by omega) (by omega)).mp c33
        have e : wnr X s = 3 := by unfold wnr; rw [if_neg (not_not_intro c5), hsv, if_neg (by omega), if_neg (by omega)]
        rw [e] at h; exact h
    · rw [hsf.1] at c19
      refine g_bipush dX7_wanted_22 (v := (-2)) (by decide) ?_
      refine g_goto (tgt := 42) dX7_wanted_24 (by decide) ?_
      refine g_iret dX7_wanted_42 rfl ?_
      have c19 : (xH X s.toNatClampNeg).1 = 2 := by
        have c19 : nI (xH X s.toNatClampNeg).1 = nI 2 := by first | exact c19 | exact Decidable.not_not.mp c19
        exact (nI_eq (by omega) (by omega)).mp c19
      have e : wnr X s = 2 := by unfold wnr; rw [if_neg (not_not_intro c5), hsv, if_pos c19]
      rw [e] at h; exact h
  · simp only [b2_0, Decidable.not_not] at c5
    refine g_iconst dX7_wanted_8 (v := (-1)) (by decide) ?_
    refine g_goto (tgt := 42) dX7_wanted_9 (by decide) ?_
    refine g_iret dX7_wanted_42 rfl ?_
    have e : wnr X s = 1 := if_pos c5
    rw [e] at h; exact h
theorem ix160 {s i : Nat} : (160 : Int32) * nI s + nI i = nI (160 * s + i) := by
  rw [show (160 : Int32) = nI 160 from rfl, pk_mul, nI_add]
set_option maxHeartbeats 4000000 in
set_option maxRecDepth 100000 in
theorem wp_X7_intAt {E : Ev} {M : Mem} {Q : QT} (hW : Wi M) {s i : Nat} {s1 i1 : Int32} (hs1 : s1 = nI s) (hi1 : i1 = nI i) (hs : s < 8) (hi : i < 160) (h : Q (some (vI (mJ M (21, 14, 0) (160 * s + i)).toInt32)) M) : Mth E 0 0 0 kX7_intAt [vR (20, 0, 0), vI s1, vI i1] M Q := by
  subst hs1 hi1
  refine mth_of (by decide +kernel) [some (vR (20, 0, 0)), some (vI (nI s)), some (vI (nI i))] (Nat.le_of_ble_eq_true rfl) rfl ?_
  refine g_aloadR_n dX7_intAt_0 rfl rfl ?_
  refine n_getR dX7_intAt_1 fX7_68 rfl hW vld_x20 rfl rfl ?_
  refine g_sipush dX7_intAt_4 (v := 160) (by decide) ?_
  refine g_iload_n dX7_intAt_7 rfl rfl ?_
  refine g_imul dX7_intAt_8 ?_
  refine g_iload_n dX7_intAt_9 rfl rfl ?_
  refine g_iadd dX7_intAt_10 ?_
  refine n_lald (j := 160 * s + i) dX7_intAt_11 rfl hW (vld_ma (by decide : 14 < 25)) (by decide) ix160 (by omega) ?_
  refine g_l2i dX7_intAt_12 ?_
  refine g_iret dX7_intAt_13 rfl ?_
  exact h
def adM (M : Mem) (S : Sc) (kd a ow pd : Int32) : Mem := sI (sI (sI (sI (sI (sI (sI (sI (sI (sI M (21, 1, 0) S.1 kd) (21, 2, 0) S.1 a) (21, 3, 0) S.1 ow) (21, 4, 0) S.1 pd) (21, 5, 0) S.1 (-1)) (21, 6, 0) S.1 0) (21, 7, 0) S.1 0) (21, 8, 0) S.1 0) (21, 9, 0) S.1 0) (20, 0, 0) 0 (nI (S.1 + 1))
theorem adM_fr {M : Mem} {S : Sc} {kd a ow pd : Int32} : FrI DS M (adM M S kd a ow pd) := by
  have hA : ∀ {M : Mem} {j i : Nat} {x : Int32}, 1 ≤ j → j ≤ 9 → FrI DS M (sI M (21, j, 0) i x) := fun h1 h2 => fr_sI (Or.inr ⟨rfl, h1, h2⟩)
  exact (((((((((hA (by decide) (by decide)).tr (hA (by decide) (by decide))).tr (hA (by decide) (by decide))).tr (hA (by decide) (by decide))).tr (hA (by decide) (by decide))).tr (hA (by decide) (by decide))).tr (hA (by decide) (by decide))).tr (hA (by decide) (by decide))).tr (hA (by decide) (by decide))).tr (fr_sI (Or.inl ⟨rfl, by decide⟩))
theorem RepR.add {M : Mem} {S : Sc} {kd av ow pd : Int32} (h : RepR M S) : RepR (adM M S kd av ow pd) (enrS S kd av ow pd) := by
  refine ⟨by simp [adM, mI, sI, enrS], fun j a b => ?_, fun i f hi hf => ?_⟩
  · have e : mI (adM M S kd av ow pd) (20, 0, 0) j = mI M (20, 0, 0) j := by simp [adM, mI, sI, show j ≠ 0 by omega]
    rw [e]; exact h.2.1 j a b
  · have hi : i < S.1 + 1 := hi
    show _ = (if i = S.1 then entF (fun _ => 0) kd av ow pd else S.2.2 i) f
    by_cases q : i = S.1
    · subst q
      rw [if_pos rfl]
      have q9 : f = 0 ∨ f = 1 ∨ f = 2 ∨ f = 3 ∨ f = 4 ∨ f = 5 ∨ f = 6 ∨ f = 7 ∨ f = 8 := by omega
      rcases q9 with rfl | rfl | rfl | rfl | rfl | rfl | rfl | rfl | rfl <;> simp [adM, mI, sI, entF]
    · rw [if_neg q]
      have e : mI (adM M S kd av ow pd) (21, f + 1, 0) i = mI M (21, f + 1, 0) i := by simp [adM, mI, sI, q]
      rw [e]; exact h.2.2 i f (by omega) hf
set_option maxHeartbeats 4000000 in
set_option maxRecDepth 100000 in
theorem wp_X7_adds {E : Ev} {M : Mem} {Q : QT} (hW : Wi M) {S : Sc} (hR : RepR M S) (hO : OkS S) (hn : S.1 < 10) {kd a ow pd : Int32} (h : Q (some (vI (nI S.1))) (adM M S kd a ow pd)) : Mth E 0 0 0 kX7_adds [vR (20, 0, 0), vI kd, vI a, vI ow, vI pd] M Q := by
  refine mth_of (by decide +kernel) [some (vR (20, 0, 0)), some (vI kd), some (vI a), some (vI ow), some (vI pd)] (Nat.le_of_ble_eq_true rfl) rfl ?_
  refine g_aloadR_n dX7_adds_0 rfl rfl ?_
  refine n_getR dX7_adds_1 fX7_29 rfl hW vld_x20 rfl rfl ?_
  refine g_aloadR_n dX7_adds_4 rfl rfl ?_
  refine n_getI dX7_adds_5 fX7_102 rfl hW vld_x20 (Or.inl rfl) ?_
  rw [show mI M (20, 0, 0) 0 = nI S.1 from hR.1]
  refine g_iload_n dX7_adds_8 rfl rfl ?_
  refine n_iast (j := S.1) dX7_adds_9 rfl hW (vld_ma (by decide : 1 < 25)) (by decide) rfl hn ?_
  refine g_aloadR_n dX7_adds_10 rfl rfl ?_
  refine n_getR dX7_adds_11 fX7_32 rfl hW vld_x20 rfl rfl ?_
  refine g_aloadR_n dX7_adds_14 rfl rfl ?_
  refine n_getI dX7_adds_15 fX7_102 rfl hW vld_x20 (Or.inl rfl) ?_
  rw [show mI (sI M (21, 1, 0) S.1 kd) (20, 0, 0) 0 = nI S.1 from (by simp [mI, sI]; exact hR.1)]
  refine g_iload_n dX7_adds_18 rfl rfl ?_
  refine n_iast (j := S.1) dX7_adds_19 rfl hW (vld_ma (by decide : 2 < 25)) (by decide) rfl hn ?_
  refine g_aloadR_n dX7_adds_20 rfl rfl ?_
  refine n_getR dX7_adds_21 fX7_35 rfl hW vld_x20 rfl rfl ?_
  refine g_aloadR_n dX7_adds_24 rfl rfl ?_
  refine n_getI dX7_adds_25 fX7_102 rfl hW vld_x20 (Or.inl rfl) ?_
  rw [show mI (sI (sI M (21, 1, 0) S.1 kd) (21, 2, 0) S.1 a) (20, 0, 0) 0 = nI S.1 from (by simp [mI, sI]; exact hR.1)]
  refine g_iload_n dX7_adds_28 rfl rfl ?_
  refine n_iast (j := S.1) dX7_adds_29 rfl hW (vld_ma (by decide : 3 < 25)) (by decide) rfl hn ?_
  refine g_aloadR_n dX7_adds_30 rfl rfl ?_
  refine n_getR dX7_adds_31 fX7_38 rfl hW vld_x20 rfl rfl ?_
  refine g_aloadR_n dX7_adds_34 rfl rfl ?_
  refine n_getI dX7_adds_35 fX7_102 rfl hW vld_x20 (Or.inl rfl) ?_
  rw [show mI (sI (sI (sI M (21, 1, 0) S.1 kd) (21, 2, 0) S.1 a) (21, 3, 0) S.1 ow) (20, 0, 0) 0 = nI S.1 from (by simp [mI, sI]; exact hR.1)]
  refine g_iload dX7_adds_38 rfl ?_
  refine n_iast (j := S.1) dX7_adds_40 rfl hW (vld_ma (by decide : 4 < 25)) (by decide) rfl hn ?_
  refine g_aloadR_n dX7_adds_41 rfl rfl ?_
  refine n_getR dX7_adds_42 fX7_41 rfl hW vld_x20 rfl rfl ?_
  refine g_aloadR_n dX7_adds_45 rfl rfl ?_
  refine n_getI dX7_adds_46 fX7_102 rfl hW vld_x20 (Or.inl rfl) ?_
  rw [show mI (sI (sI (sI (sI M (21, 1, 0) S.1 kd) (21, 2, 0) S.1 a) (21, 3, 0) S.1 ow) (21, 4, 0) S.1 pd) (20, 0, 0) 0 = nI S.1 from (by simp [mI, sI]; exact hR.1)]
  refine g_iconst dX7_adds_49 (v := (-1)) (by decide) ?_
  refine n_iast (j := S.1) dX7_adds_50 rfl hW (vld_ma (by decide : 5 < 25)) (by decide) rfl hn ?_
  refine g_aloadR_n dX7_adds_51 rfl rfl ?_
  refine n_getR dX7_adds_52 fX7_44 rfl hW vld_x20 rfl rfl ?_
  refine g_aloadR_n dX7_adds_55 rfl rfl ?_
  refine n_getI dX7_adds_56 fX7_102 rfl hW vld_x20 (Or.inl rfl) ?_
  rw [show mI (sI (sI (sI (sI (sI M (21, 1, 0) S.1 kd) (21, 2, 0) S.1 a) (21, 3, 0) S.1 ow) (21, 4, 0) S.1 pd) (21, 5, 0) S.1 (-1)) (20, 0, 0) 0 = nI S.1 from (by simp [mI, sI]; exact hR.1)]
  refine g_iconst dX7_adds_59 (v := 0) (by decide) ?_
  refine n_iast (j := S.1) dX7_adds_60 rfl hW (vld_ma (by decide : 6 < 25)) (by decide) rfl hn ?_
  refine g_aloadR_n dX7_adds_61 rfl rfl ?_
  refine n_getR dX7_adds_62 fX7_47 rfl hW vld_x20 rfl rfl ?_
  refine g_aloadR_n dX7_adds_65 rfl rfl ?_
  refine n_getI dX7_adds_66 fX7_102 rfl hW vld_x20 (Or.inl rfl) ?_
  rw [show mI (sI (sI (sI (sI (sI (sI M (21, 1, 0) S.1 kd) (21, 2, 0) S.1 a) (21, 3, 0) S.1 ow) (21, 4, 0) S.1 pd) (21, 5, 0) S.1 (-1)) (21, 6, 0) S.1 0) (20, 0, 0) 0 = nI S.1 from (by simp [mI, sI]; exact hR.1)]
  refine g_iconst dX7_adds_69 (v := 0) (by decide) ?_
  refine n_iast (j := S.1) dX7_adds_70 rfl hW (vld_ma (by decide : 7 < 25)) (by decide) rfl hn ?_
  refine g_aloadR_n dX7_adds_71 rfl rfl ?_
  refine n_getR dX7_adds_72 fX7_50 rfl hW vld_x20 rfl rfl ?_
  refine g_aloadR_n dX7_adds_75 rfl rfl ?_
  refine n_getI dX7_adds_76 fX7_102 rfl hW vld_x20 (Or.inl rfl) ?_
  rw [show mI (sI (sI (sI (sI (sI (sI (sI M (21, 1, 0) S.1 kd) (21, 2, 0) S.1 a) (21, 3, 0) S.1 ow) (21, 4, 0) S.1 pd) (21, 5, 0) S.1 (-1)) (21, 6, 0) S.1 0) (21, 7, 0) S.1 0) (20, 0, 0) 0 = nI S.1 from (by simp [mI, sI]; exact hR.1)]
  refine g_iconst dX7_adds_79 (v := 0) (by decide) ?_
  refine n_iast (j := S.1) dX7_adds_80 rfl hW (vld_ma (by decide : 8 < 25)) (by decide) rfl hn ?_
  refine g_aloadR_n dX7_adds_81 rfl rfl ?_
  refine n_getR dX7_adds_82 fX7_53 rfl hW vld_x20 rfl rfl ?_
  refine g_aloadR_n dX7_adds_85 rfl rfl ?_
  refine n_getI dX7_adds_86 fX7_102 rfl hW vld_x20 (Or.inl rfl) ?_
  rw [show mI (sI (sI (sI (sI (sI (sI (sI (sI M (21, 1, 0) S.1 kd) (21, 2, 0) S.1 a) (21, 3, 0) S.1 ow) (21, 4, 0) S.1 pd) (21, 5, 0) S.1 (-1)) (21, 6, 0) S.1 0) (21, 7, 0) S.1 0) (21, 8, 0) S.1 0) (20, 0, 0) 0 = nI S.1 from (by simp [mI, sI]; exact hR.1)]
  refine g_iconst dX7_adds_89 (v := 0) (by decide) ?_
  refine n_iast (j := S.1) dX7_adds_90 rfl hW (vld_ma (by decide : 9 < 25)) (by decide) rfl hn ?_
  refine g_aloadR_n dX7_adds_91 rfl rfl ?_
  refine g_dup dX7_adds_92 rfl ?_
  refine n_getI dX7_adds_93 fX7_102 rfl hW vld_x20 (Or.inl rfl) ?_
  refine g_dup_x1 dX7_adds_96 rfl rfl ?_
  refine g_iconst dX7_adds_97 (v := 1) (by decide) ?_
  refine g_iadd dX7_adds_98 ?_
  rw [show mI (sI (sI (sI (sI (sI (sI (sI (sI (sI M (21, 1, 0) S.1 kd) (21, 2, 0) S.1 a) (21, 3, 0) S.1 ow) (21, 4, 0) S.1 pd) (21, 5, 0) S.1 (-1)) (21, 6, 0) S.1 0) (21, 7, 0) S.1 0) (21, 8, 0) S.1 0) (21, 9, 0) S.1 0) (20, 0, 0) 0 = nI S.1 from (by simp [mI, sI]; exact hR.1)]
  refine g_top (fun z ez => ?_)
  rw [nI_1] at ez
  subst ez
  refine n_putI dX7_adds_99 fX7_102 rfl hW vld_x20 rfl ?_
  refine g_iret dX7_adds_102 rfl ?_
  exact h
theorem presS_bit (S : Sc) {j : Nat} (hj : j < S.1) : (presS S).testBit j = (S.2.2 j 8 == 0) := by unfold presS; rw [mk_bit]; simp [hj]
theorem cnt_h {S : Sc} (hO : OkS S) {j : Nat} (hj : j < S.1) : nI (cnt (presS S) j) + (1 - S.2.2 j 8) = nI (cnt (presS S) (j + 1)) := by
  rw [cnt, presS_bit S hj]
  rcases (hO.z hj).2 with q | q
  · rw [q, if_pos (by decide), show (1 : Int32) - 0 = 1 by decide, nI_1]
  · rw [q, if_neg (by decide), show (1 : Int32) - 1 = nI 0 by decide, nI_add]
set_option maxHeartbeats 4000000 in
set_option maxRecDepth 100000 in
theorem lp_X7_here {E : Ev} {M : Mem} {Q : QT} (hW : Wi M) {S : Sc} (hR : RepR M S) (hO : OkS S) (h : Q (some (vI (nI (cnt (presS S) S.1)))) M) : ∀ j, j ≤ S.1 → G E (rm 0 0 0) kX7_here (ZQ E Q 0 0) 0 0 4 [some (vR (20, 0, 0)), some (vI (nI (cnt (presS S) j))), some (vI (nI j))] [] M := by
  refine up_loop S.1 (fun j hj ih => ?_)
  have hs10 : S.1 ≤ 10 := hO.1
  have hsz := hR.1
  refine g_iload_n dX7_here_4 rfl rfl ?_
  refine g_aloadR_n dX7_here_5 rfl rfl ?_
  refine n_getI dX7_here_6 fX7_102 rfl hW vld_x20 (Or.inl rfl) ?_
  refine g_icmp_ge (tgt := 29) dX7_here_9 (by decide) (fun c9 => ?_) (fun c9 => ?_)
  · rw [hsz] at c9
    have hjn2 : j = S.1 := by rw [nI_leI (by omega) (by omega)] at c9; omega
    refine g_iload_n dX7_here_29 rfl rfl ?_
    refine g_iret dX7_here_30 rfl ?_
    rw [hjn2]; exact h
  · rw [hsz] at c9
    have hjn : j < S.1 := by rw [nI_leI (by omega) (by omega)] at c9; omega
    refine g_iload_n dX7_here_12 rfl rfl ?_
    refine g_iconst dX7_here_13 (v := 1) (by decide) ?_
    refine g_aloadR_n dX7_here_14 rfl rfl ?_
    refine n_getR dX7_here_15 fX7_53 rfl hW vld_x20 rfl rfl ?_
    refine g_iload_n dX7_here_18 rfl rfl ?_
    refine n_iald (j := j) dX7_here_19 rfl hW (vld_ma (by decide : 9 < 25)) (by decide) rfl (show j < 10 by omega) ?_
    refine g_isub dX7_here_20 ?_
    refine g_iadd dX7_here_21 ?_
    rw [show mI M (21, 9, 0) j = S.2.2 j 8 from hR.2.2 j 8 hjn (by decide), cnt_h hO hjn]
    refine g_istore_1 dX7_here_22 rfl ?_
    refine g_iinc_2 (v := nI (j + 1)) dX7_here_23 rfl (nI_inc j) ?_
    refine g_goto (tgt := 4) dX7_here_26 (by decide) ?_
    exact ih hjn
set_option maxHeartbeats 4000000 in
set_option maxRecDepth 100000 in
theorem wp_X7_here {E : Ev} {M : Mem} {Q : QT} (hW : Wi M) {S : Sc} (hR : RepR M S) (hO : OkS S) (h : Q (some (vI (nI (cnt (presS S) S.1)))) M) : Mth E 0 0 0 kX7_here [vR (20, 0, 0)] M Q := by
  refine mth_of (by decide +kernel) [some (vR (20, 0, 0)), none, none] (Nat.le_of_ble_eq_true rfl) rfl ?_
  refine g_iconst dX7_here_0 (v := 0) (by decide) ?_
  refine g_istore_1 dX7_here_1 rfl ?_
  refine g_iconst dX7_here_2 (v := 0) (by decide) ?_
  refine g_istore_2 dX7_here_3 rfl ?_
  exact lp_X7_here hW hR hO h 0 (Nat.zero_le _)
set_option maxHeartbeats 4000000 in
set_option maxRecDepth 100000 in
theorem lp_X7_bits {E : Ev} {M : Mem} {Q : QT} {m : Nat} (hm : m < 2048) (h : Q (some (vI (nI (cnt m 10)))) M) : ∀ j, j ≤ 10 → G E (rm 0 0 0) kX7_bits (ZQ E Q 0 0) 0 0 4 [some (vR (20, 0, 0)), some (vI (nI m)), some (vI (nI (cnt m j))), some (vI (nI j))] [] M := by
  refine up_loop 10 (fun j hj ih => ?_)
  refine g_iload_n dX7_bits_4 rfl rfl ?_
  refine g_bipush dX7_bits_5 (v := 10) (by decide) ?_
  refine g_icmp_ge (tgt := 24) dX7_bits_7 (by decide) (fun c7 => ?_) (fun c7 => ?_)
  · rw [show (10 : Int32) = nI 10 from rfl] at c7
    have hjn2 : j = 10 := by rw [nI_leI (by omega) (by omega)] at c7; omega
    refine g_iload_n dX7_bits_24 rfl rfl ?_
    refine g_iret dX7_bits_25 rfl ?_
    rw [hjn2] at *; exact h
  · rw [show (10 : Int32) = nI 10 from rfl] at c7
    have hjn : j < 10 := by rw [nI_leI (by omega) (by omega)] at c7; omega
    refine g_iload_n dX7_bits_10 rfl rfl ?_
    refine g_iload_n dX7_bits_11 rfl rfl ?_
    refine g_iload_n dX7_bits_12 rfl rfl ?_
    refine g_ishr dX7_bits_13 ?_
    refine g_iconst dX7_bits_14 (v := 1) (by decide) ?_
    refine g_iand dX7_bits_15 ?_
    refine g_iadd dX7_bits_16 ?_
    refine g_top (fun z ez => ?_)
    have ez : z = nI (cnt m (j + 1)) := by
      rw [ez, bt_tb (by omega) hm, cnt]
      by_cases q : m.testBit j = true
      · rw [if_pos q, if_pos q, nI_1]
      · rw [if_neg q, if_neg q, show (0 : Int32) = nI 0 from rfl, nI_add]
    subst ez
    refine g_istore_2 dX7_bits_17 rfl ?_
    refine g_iinc_3 (v := nI (j + 1)) dX7_bits_18 rfl (nI_inc j) ?_
    refine g_goto (tgt := 4) dX7_bits_21 (by decide) ?_
    exact ih hjn
set_option maxHeartbeats 4000000 in
set_option maxRecDepth 100000 in
theorem wp_X7_bits {E : Ev} {M : Mem} {Q : QT} (hW : Wi M) {m : Nat} (hm : m < 2048) (h : Q (some (vI (nI (cnt m 10)))) M) : Mth E 0 0 0 kX7_bits [vR (20, 0, 0), vI (nI m)] M Q := by
  refine mth_of (by decide +kernel) [some (vR (20, 0, 0)), some (vI (nI m)), none, none] (Nat.le_of_ble_eq_true rfl) rfl ?_
  refine g_iconst dX7_bits_0 (v := 0) (by decide) ?_
  refine g_istore_2 dX7_bits_1 rfl ?_
  refine g_iconst dX7_bits_2 (v := 0) (by decide) ?_
  refine g_istore_3 dX7_bits_3 rfl ?_
  exact lp_X7_bits hm h 0 (Nat.zero_le _)
set_option maxHeartbeats 4000000 in
set_option maxRecDepth 100000 in
theorem lp_X7_together {E : Ev} {M : Mem} {Q : QT} (hW : Wi M) {S : Sc} (hR : RepR M S) (hO : OkS S) {f : Nat} (hf : f < 9) (h : Q (some (vI (sumS S f S.1))) M) : ∀ j, j ≤ S.1 → G E (rm 0 0 0) kX7_together (ZQ E Q 0 0) 0 0 4 [some (vR (20, 0, 0)), some (vR (21, f + 1, 0)), some (vI (sumS S f j)), some (vI (nI j))] [] M := by
  refine up_loop S.1 (fun j hj ih => ?_)
  have hs10 : S.1 ≤ 10 := hO.1
  have hsz := hR.1
  have hsh : shp (21, f + 1, 0) = (1, 10) := by
    have q9 : f = 0 ∨ f = 1 ∨ f = 2 ∨ f = 3 ∨ f = 4 ∨ f = 5 ∨ f = 6 ∨ f = 7 ∨ f = 8 := by omega
    rcases q9 with rfl | rfl | rfl | rfl | rfl | rfl | rfl | rfl | rfl <;> rfl
  refine g_iload_n dX7_together_4 rfl rfl ?_
  refine g_aloadR_n dX7_together_5 rfl rfl ?_
  refine n_getI dX7_together_6 fX7_102 rfl hW vld_x20 (Or.inl rfl) ?_
  refine g_icmp_ge (tgt := 24) dX7_together_9 (by decide) (fun c9 => ?_) (fun c9 => ?_)
  · rw [hsz] at c9
    have hjn2 : j = S.1 := by rw [nI_leI (by omega) (by omega)] at c9; omega
    refine g_iload_n dX7_together_24 rfl rfl ?_
    refine g_iret dX7_together_25 rfl ?_
    rw [hjn2]; exact h
  · rw [hsz] at c9
    have hjn : j < S.1 := by rw [nI_leI (by omega) (by omega)] at c9; omega
    refine g_iload_n dX7_together_12 rfl rfl ?_
    refine g_aloadR_n dX7_together_13 rfl rfl ?_
    refine g_iload_n dX7_together_14 rfl rfl ?_
    refine n_iald (j := j) dX7_together_15 hsh hW (vld_ma (by omega : f + 1 < 25)) (by decide) rfl (show j < 10 by omega) ?_
    rw [show mI M (21, f + 1, 0) j = S.2.2 j f from hR.2.2 j f hjn hf]
    refine g_iadd dX7_together_16 ?_
    refine g_istore_2 dX7_together_17 rfl ?_
    refine g_iinc_3 (v := nI (j + 1)) dX7_together_18 rfl (nI_inc j) ?_
    refine g_goto (tgt := 4) dX7_together_21 (by decide) ?_
    exact ih hjn
set_option maxHeartbeats 4000000 in
set_option maxRecDepth 100000 in
theorem wp_X7_together {E : Ev} {M : Mem} {Q : QT} (hW : Wi M) {S : Sc} (hR : RepR M S) (hO : OkS S) {f : Nat} (hf : f < 9) (h : Q (some (vI (sumS S f S.1))) M) : Mth E 0 0 0 kX7_together [vR (20, 0, 0), vR (21, f + 1, 0)] M Q := by
  refine mth_of (by decide +kernel) [some (vR (20, 0, 0)), some (vR (21, f + 1, 0)), none, none] (Nat.le_of_ble_eq_true rfl) rfl ?_
  refine g_iconst dX7_together_0 (v := 0) (by decide) ?_
  refine g_istore_2 dX7_together_1 rfl ?_
  refine g_iconst dX7_together_2 (v := 0) (by decide) ?_
  refine g_istore_3 dX7_together_3 rfl ?_
  exact lp_X7_together hW hR hO hf h 0 (Nat.zero_le _)
set_option maxHeartbeats 4000000 in
set_option maxRecDepth 100000 in
theorem wp_X7_draw {E : Ev} {M : Mem} {Q : QT} (hW : Wi M) (h : Q (some (vI (drF (mI M (20, 0, 0) 6)))) (sI M (20, 0, 0) 6 (lkF (mI M (20, 0, 0) 6)))) : Mth E 0 0 0 kX7_draw [vR (20, 0, 0), vI 10] M Q := by
  refine mth_of (by decide +kernel) [some (vR (20, 0, 0)), some (vI 10)] (Nat.le_of_ble_eq_true rfl) rfl ?_
  refine g_aloadR_n dX7_draw_0 rfl rfl ?_
  refine g_aloadR_n dX7_draw_1 rfl rfl ?_
  refine n_getI dX7_draw_2 fX7_19 rfl hW vld_x20 (Or.inl rfl) ?_
  refine g_ldcw dX7_draw_5 qX7_267 ?_
  refine g_imul dX7_draw_8 ?_
  refine g_sipush dX7_draw_9 (v := 12345) (by decide) ?_
  refine g_iadd dX7_draw_12 ?_
  refine n_putI dX7_draw_13 fX7_19 rfl hW vld_x20 rfl ?_
  refine g_mem (fun M2 e2 => ?_)
  have hW2 : Wi M2 := by rw [e2]; exact hW
  have e6 : mI M2 (20, 0, 0) 6 = lkF (mI M (20, 0, 0) 6) := by rw [e2]; simp [mI, sI, lkF]
  refine g_aloadR_n dX7_draw_16 rfl rfl ?_
  refine n_getI dX7_draw_17 fX7_19 rfl hW2 vld_x20 (Or.inl rfl) ?_
  rw [e6]
  refine g_bipush dX7_draw_20 (v := 16) (by decide) ?_
  refine g_iushr dX7_draw_22 ?_
  refine g_iload_n dX7_draw_23 rfl rfl ?_
  refine g_irem dX7_draw_24 (by decide) ?_
  refine g_iret dX7_draw_25 rfl ?_
  rw [e2]; exact h
