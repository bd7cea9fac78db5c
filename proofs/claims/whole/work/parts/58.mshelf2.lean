/-! THE REFERENCE: SET, SHOW, SAYS, COPY -/
theorem b2ne {x n : Int32} : True := trivial
theorem RepSfM.put {M : Mem} {X : Sys} {s : Nat} {v : Sf} {i : Nat} {x : Int64} (h : RepMo M X) (hs : s < 8) (hv : RepSfM M s v) (h1 : v.1 = 1) (hi : i < 160) : RepMo (sJ M (21, 14, 0) (160 * s + i) x) (setH X s (1, v.2.1, 0, v.2.2.2.1, updJ v.2.2.2.2 i x)) := by
  refine h.shelf (fun b j _ => rfl) (fun j hj => ?_) ⟨?_, fun _ => ⟨(hv.2.1 h1).1, (hv.2.1 h1).2.1, fun j hj => ?_⟩, fun q => by cases q⟩
  · simp only [mJ, sJ]; rw [if_neg (fun z => by have := z.2; omega)]
  · have := hv.1; rw [h1] at this; exact this
  · show _ = (if j = i then x else v.2.2.2.2 j)
    simp only [mJ, sJ]
    by_cases q : j = i
    · subst q; rw [if_pos ⟨trivial, rfl⟩, if_pos rfl]
    · rw [if_neg (fun z => by have := z.2; omega), if_neg q]; exact (hv.2.1 h1).2.2 j hj
set_option maxHeartbeats 4000000 in
set_option maxRecDepth 100000 in
theorem wp_X7_set {E : Ev} {M : Mem} {Q : QT} (hW : Wi M) {X : Sys} (hX : RepMo M X) (hO : OkX X) {s i : Int32} {v : Int64} (h : ∀ M', FrM M M' → RepMo M' (opSet X s i v).2 → Q (some (vI (opSet X s i v).1)) M') : Mth E 1 0 0 kX7_set [vR (20, 0, 0), vI s, vI i, vL v] M Q := by
  refine mth_of (by decide +kernel) [some (vR (20, 0, 0)), some (vI s), some (vI i), some (vL v), none] (Nat.le_of_ble_eq_true rfl) rfl ?_
  refine g_aloadR_n dX7_set_0 rfl rfl ?_
  refine g_iload_n dX7_set_1 rfl rfl ?_
  refine n_v1i (n' := 0) dX7_set_2 mX7_isShelf lX7_105 rfl hW vld_x20 rfl rfl ⟨Nat.le_of_ble_eq_true rfl, Nat.le_of_ble_eq_true rfl⟩ ⟨Nat.zero_le _, Nat.zero_le _⟩ (Nat.le_of_ble_eq_true rfl) ?_
  refine wp_X7_isShelf ?_
  refine ⟨_, rfl, ?_⟩
  refine g_if_ne (tgt := 14) dX7_set_5 (by decide) (fun c5 => ?_) (fun c5 => ?_)
  · simp only [b2_0, Decidable.not_not] at c5
    obtain ⟨hs1, hs2⟩ := IN_nI c5
    have hsf := hX.2.2.1 _ hs2
    have h3 := hO.sf hs2
    have hsv := shV_in (X := X) c5
    have hos := hO.2.2.1 _ hs2
    have hh := hsf.h0 h3
    refine g_aloadR_n dX7_set_14 rfl rfl ?_
    refine n_getR dX7_set_15 fX7_56 rfl hW vld_x20 rfl rfl ?_
    refine g_iload_n dX7_set_18 rfl rfl ?_
    refine n_iald (j := s.toNatClampNeg) dX7_set_19 rfl hW (vld_ma (by decide : 10 < 25)) (by decide) hs1 hs2 ?_
    refine g_iconst dX7_set_20 (v := 2) (by decide) ?_
    refine g_icmp_ne (tgt := 31) dX7_set_21 (by decide) (fun c21 => ?_) (fun c21 => ?_)
    · have n2 : ¬ (xH X s.toNatClampNeg).1 = 2 := fun z => c21 (hh.2.2.mpr z)
      refine g_aloadR_n dX7_set_31 rfl rfl ?_
      refine n_getR dX7_set_32 fX7_56 rfl hW vld_x20 rfl rfl ?_
      refine g_iload_n dX7_set_35 rfl rfl ?_
      refine n_iald (j := s.toNatClampNeg) dX7_set_36 rfl hW (vld_ma (by decide : 10 < 25)) (by decide) hs1 hs2 ?_
      refine g_if_ne (tgt := 47) dX7_set_37 (by decide) (fun c37 => ?_) (fun c37 => ?_)
      · have n0 : ¬ (xH X s.toNatClampNeg).1 = 0 := fun z => c37 (hh.1.mpr z)
        have hv1 : (xH X s.toNatClampNeg).1 = 1 := by omega
        have hl160 : (xH X s.toNatClampNeg).2.2.2.1 ≤ 160 := (hos.2.1 hv1).2
        have hsz12 := (hsf.2.1 hv1).2.1
        refine g_iload_n dX7_set_47 rfl rfl ?_
        refine g_if_lt (tgt := 61) dX7_set_48 (by decide) (fun c48 => ?_) (fun c48 => ?_)
        · refine g_aloadR_n dX7_set_61 rfl rfl ?_
          refine g_bipush dX7_set_62 (v := (-5)) (by decide) ?_
          refine n_v1i (n' := 0) dX7_set_64 mX7_no lX7_109 rfl hW vld_x20 rfl rfl ⟨Nat.le_of_ble_eq_true rfl, Nat.le_of_ble_eq_true rfl⟩ ⟨Nat.zero_le _, Nat.zero_le _⟩ (Nat.le_of_ble_eq_true rfl) ?_
          refine wp_X7_no (j := 5) (by exact hW) (by decide) (by decide) ?_
          refine ⟨_, rfl, ?_⟩
          refine g_iret dX7_set_67 rfl ?_
          have e : opSet X s i v = rfX X 5 := by
            unfold opSet
            rw [wnr0_ c5 hv1, if_neg (not_not_intro rfl), hsv, if_pos (fun q => by have := q.1; simp only [Int32.lt_iff_toInt_lt, zcs] at c48; omega)]
          rw [e] at h
          exact h _ (frM_sI (by decide)) (repMo_rfm hX (by decide) (by decide))
        · refine g_iload_n dX7_set_51 rfl rfl ?_
          refine g_aloadR_n dX7_set_52 rfl rfl ?_
          refine n_getR dX7_set_53 fX7_62 rfl hW vld_x20 rfl rfl ?_
          refine g_iload_n dX7_set_56 rfl rfl ?_
          refine n_iald (j := s.toNatClampNeg) dX7_set_57 rfl hW (vld_ma (by decide : 12 < 25)) (by decide) hs1 hs2 ?_
          refine g_icmp_lt (tgt := 68) dX7_set_58 (by decide) (fun c58 => ?_) (fun c58 => ?_)
          · rw [hsz12] at c58
            have hIN : IN i (xH X s.toNatClampNeg).2.2.2.1 := ⟨by simp only [Int32.lt_iff_toInt_lt, zcs] at c48; omega, by have e := nI_toInt (n := (xH X s.toNatClampNeg).2.2.2.1) (by omega); rw [Int32.lt_iff_toInt_lt, e] at c58; exact c58⟩
            obtain ⟨hi0, hib⟩ := IN_nI hIN
            refine g_aloadR_n dX7_set_68 rfl rfl ?_
            refine n_getR dX7_set_69 fX7_68 rfl hW vld_x20 rfl rfl ?_
            refine g_sipush dX7_set_72 (v := 160) (by decide) ?_
            refine g_iload_n dX7_set_75 rfl rfl ?_
            refine g_imul dX7_set_76 ?_
            refine g_iload_n dX7_set_77 rfl rfl ?_
            refine g_iadd dX7_set_78 ?_
            refine g_aloadR_n dX7_set_79 rfl rfl ?_
            refine n_getR dX7_set_80 fX7_59 rfl hW vld_x20 rfl rfl ?_
            refine g_iload_n dX7_set_83 rfl rfl ?_
            refine n_iald (j := s.toNatClampNeg) dX7_set_84 rfl hW (vld_ma (by decide : 11 < 25)) (by decide) hs1 hs2 ?_
            rw [show mI M (21, 11, 0) s.toNatClampNeg = (xH X s.toNatClampNeg).2.1 from (hsf.2.1 hv1).1]
            refine g_if_ne (tgt := 95) dX7_set_85 (by decide) (fun c85 => ?_) (fun c85 => ?_)
            · refine g_aloadR_n dX7_set_95 rfl rfl ?_
              refine n_getR dX7_set_96 fX7_59 rfl hW vld_x20 rfl rfl ?_
              refine g_iload_n dX7_set_99 rfl rfl ?_
              refine n_iald (j := s.toNatClampNeg) dX7_set_100 rfl hW (vld_ma (by decide : 11 < 25)) (by decide) hs1 hs2 ?_
              rw [show mI M (21, 11, 0) s.toNatClampNeg = (xH X s.toNatClampNeg).2.1 from (hsf.2.1 hv1).1]
              refine g_iconst dX7_set_101 (v := 1) (by decide) ?_
              refine g_icmp_ne (tgt := 112) dX7_set_102 (by decide) (fun c102 => ?_) (fun c102 => ?_)
              · refine g_aloadR_n dX7_set_112 rfl rfl ?_
                refine n_getR dX7_set_113 fX7_59 rfl hW vld_x20 rfl rfl ?_
                refine g_iload_n dX7_set_116 rfl rfl ?_
                refine n_iald (j := s.toNatClampNeg) dX7_set_117 rfl hW (vld_ma (by decide : 11 < 25)) (by decide) hs1 hs2 ?_
                rw [show mI M (21, 11, 0) s.toNatClampNeg = (xH X s.toNatClampNeg).2.1 from (hsf.2.1 hv1).1]
                refine g_iconst dX7_set_118 (v := 2) (by decide) ?_
                refine g_icmp_ne (tgt := 128) dX7_set_119 (by decide) (fun c119 => ?_) (fun c119 => ?_)
                · refine g_lload_n dX7_set_128 rfl rfl ?_
                  refine n_last (j := 160 * s.toNatClampNeg + i.toNatClampNeg) dX7_set_129 rfl hW (vld_ma (by decide : 14 < 25)) (by decide) (by rw [← ix160, ← hs1, ← hi0]) (show 160 * s.toNatClampNeg + i.toNatClampNeg < 1280 by omega) ?_
                  refine g_iconst dX7_set_130 (v := 1) (by decide) ?_
                  refine g_iret dX7_set_131 rfl ?_
                  have ep : putV (xH X s.toNatClampNeg).2.1 v = v := by unfold putV; rw [if_neg c85, if_neg c102, if_neg c119]
                  have e : opSet X s i v = (1, setH X s.toNatClampNeg (1, (xH X s.toNatClampNeg).2.1, 0, (xH X s.toNatClampNeg).2.2.2.1, updJ (xH X s.toNatClampNeg).2.2.2.2 i.toNatClampNeg (v))) := by
                    unfold opSet
                    rw [wnr0_ c5 hv1, if_neg (not_not_intro rfl), hsv, if_neg (not_not_intro hIN), ep]
                  rw [e] at h
                  exact h _ (frM_sJ (by decide)) (RepSfM.put hX hs2 hsf hv1 (by omega))
                · refine g_lload_n dX7_set_122 rfl rfl ?_
                  refine g_l2i dX7_set_123 ?_
                  refine g_i2l dX7_set_124 ?_
                  refine g_goto (tgt := 129) dX7_set_125 (by decide) ?_
                  refine n_last (j := 160 * s.toNatClampNeg + i.toNatClampNeg) dX7_set_129 rfl hW (vld_ma (by decide : 14 < 25)) (by decide) (by rw [← ix160, ← hs1, ← hi0]) (show 160 * s.toNatClampNeg + i.toNatClampNeg < 1280 by omega) ?_
                  refine g_iconst dX7_set_130 (v := 1) (by decide) ?_
                  refine g_iret dX7_set_131 rfl ?_
                  have c119 : (xH X s.toNatClampNeg).2.1 = 2 := by first | exact c119 | exact Decidable.not_not.mp c119
                  have ep : putV (xH X s.toNatClampNeg).2.1 v = v.toInt32.toInt64 := by unfold putV; rw [if_neg c85, if_neg c102, if_pos c119]
                  have e : opSet X s i v = (1, setH X s.toNatClampNeg (1, (xH X s.toNatClampNeg).2.1, 0, (xH X s.toNatClampNeg).2.2.2.1, updJ (xH X s.toNatClampNeg).2.2.2.2 i.toNatClampNeg (v.toInt32.toInt64))) := by
                    unfold opSet
                    rw [wnr0_ c5 hv1, if_neg (not_not_intro rfl), hsv, if_neg (not_not_intro hIN), ep]
                  rw [e] at h
                  exact h _ (frM_sJ (by decide)) (RepSfM.put hX hs2 hsf hv1 (by omega))
              · refine g_lload_n dX7_set_105 rfl rfl ?_
                refine g_l2i dX7_set_106 ?_
                refine g_i2s dX7_set_107 ?_
                refine g_i2l dX7_set_108 ?_
                refine g_goto (tgt := 129) dX7_set_109 (by decide) ?_
                refine n_last (j := 160 * s.toNatClampNeg + i.toNatClampNeg) dX7_set_129 rfl hW (vld_ma (by decide : 14 < 25)) (by decide) (by rw [← ix160, ← hs1, ← hi0]) (show 160 * s.toNatClampNeg + i.toNatClampNeg < 1280 by omega) ?_
                refine g_iconst dX7_set_130 (v := 1) (by decide) ?_
                refine g_iret dX7_set_131 rfl ?_
                have c102 : (xH X s.toNatClampNeg).2.1 = 1 := by first | exact c102 | exact Decidable.not_not.mp c102
                have ep : putV (xH X s.toNatClampNeg).2.1 v = v.toInt32.toInt16.toInt32.toInt64 := by unfold putV; rw [if_neg c85, if_pos c102]
                have e : opSet X s i v = (1, setH X s.toNatClampNeg (1, (xH X s.toNatClampNeg).2.1, 0, (xH X s.toNatClampNeg).2.2.2.1, updJ (xH X s.toNatClampNeg).2.2.2.2 i.toNatClampNeg (v.toInt32.toInt16.toInt32.toInt64))) := by
                  unfold opSet
                  rw [wnr0_ c5 hv1, if_neg (not_not_intro rfl), hsv, if_neg (not_not_intro hIN), ep]
                rw [e] at h
                exact h _ (frM_sJ (by decide)) (RepSfM.put hX hs2 hsf hv1 (by omega))
            · refine g_lload_n dX7_set_88 rfl rfl ?_
              refine g_l2i dX7_set_89 ?_
              refine g_i2b dX7_set_90 ?_
              refine g_i2l dX7_set_91 ?_
              refine g_goto (tgt := 129) dX7_set_92 (by decide) ?_
              refine n_last (j := 160 * s.toNatClampNeg + i.toNatClampNeg) dX7_set_129 rfl hW (vld_ma (by decide : 14 < 25)) (by decide) (by rw [← ix160, ← hs1, ← hi0]) (show 160 * s.toNatClampNeg + i.toNatClampNeg < 1280 by omega) ?_
              refine g_iconst dX7_set_130 (v := 1) (by decide) ?_
              refine g_iret dX7_set_131 rfl ?_
              have c85 : (xH X s.toNatClampNeg).2.1 = 0 := by first | exact c85 | exact Decidable.not_not.mp c85
              have ep : putV (xH X s.toNatClampNeg).2.1 v = v.toInt32.toInt8.toInt32.toInt64 := by unfold putV; rw [if_pos c85]
              have e : opSet X s i v = (1, setH X s.toNatClampNeg (1, (xH X s.toNatClampNeg).2.1, 0, (xH X s.toNatClampNeg).2.2.2.1, updJ (xH X s.toNatClampNeg).2.2.2.2 i.toNatClampNeg (v.toInt32.toInt8.toInt32.toInt64))) := by
                unfold opSet
                rw [wnr0_ c5 hv1, if_neg (not_not_intro rfl), hsv, if_neg (not_not_intro hIN), ep]
              rw [e] at h
              exact h _ (frM_sJ (by decide)) (RepSfM.put hX hs2 hsf hv1 (by omega))
          · rw [hsz12] at c58
            refine g_aloadR_n dX7_set_61 rfl rfl ?_
            refine g_bipush dX7_set_62 (v := (-5)) (by decide) ?_
            refine n_v1i (n' := 0) dX7_set_64 mX7_no lX7_109 rfl hW vld_x20 rfl rfl ⟨Nat.le_of_ble_eq_true rfl, Nat.le_of_ble_eq_true rfl⟩ ⟨Nat.zero_le _, Nat.zero_le _⟩ (Nat.le_of_ble_eq_true rfl) ?_
            refine wp_X7_no (j := 5) (by exact hW) (by decide) (by decide) ?_
            refine ⟨_, rfl, ?_⟩
            refine g_iret dX7_set_67 rfl ?_
            have e : opSet X s i v = rfX X 5 := by
              unfold opSet
              rw [wnr0_ c5 hv1, if_neg (not_not_intro rfl), hsv, if_pos (fun q => by have q2 := q.2; have := nI_toInt (n := (xH X s.toNatClampNeg).2.2.2.1) (by omega); rw [Int32.lt_iff_toInt_lt] at c58; omega)]
            rw [e] at h
            exact h _ (frM_sI (by decide)) (repMo_rfm hX (by decide) (by decide))
      · have c37 : mI M (21, 10, 0) s.toNatClampNeg = 0 := by first | exact c37 | exact Decidable.not_not.mp c37
        have v0 : (xH X s.toNatClampNeg).1 = 0 := hh.1.mp c37
        refine g_aloadR_n dX7_set_40 rfl rfl ?_
        refine g_bipush dX7_set_41 (v := (-3)) (by decide) ?_
        refine n_v1i (n' := 0) dX7_set_43 mX7_no lX7_109 rfl hW vld_x20 rfl rfl ⟨Nat.le_of_ble_eq_true rfl, Nat.le_of_ble_eq_true rfl⟩ ⟨Nat.zero_le _, Nat.zero_le _⟩ (Nat.le_of_ble_eq_true rfl) ?_
        refine wp_X7_no (j := 3) (by exact hW) (by decide) (by decide) ?_
        refine ⟨_, rfl, ?_⟩
        refine g_iret dX7_set_46 rfl ?_
        have e : opSet X s i v = rfX X 3 := by
          unfold opSet
          rw [wnr_3 c5 v0, if_pos (by decide)]
        rw [e] at h
        exact h _ (frM_sI (by decide)) (repMo_rfm hX (by decide) (by decide))
    · have c21 : mI M (21, 10, 0) s.toNatClampNeg = 2 := by first | exact c21 | exact Decidable.not_not.mp c21
      have v2 : (xH X s.toNatClampNeg).1 = 2 := hh.2.2.mp c21
      refine g_aloadR_n dX7_set_24 rfl rfl ?_
      refine g_bipush dX7_set_25 (v := (-2)) (by decide) ?_
      refine n_v1i (n' := 0) dX7_set_27 mX7_no lX7_109 rfl hW vld_x20 rfl rfl ⟨Nat.le_of_ble_eq_true rfl, Nat.le_of_ble_eq_true rfl⟩ ⟨Nat.zero_le _, Nat.zero_le _⟩ (Nat.le_of_ble_eq_true rfl) ?_
      refine wp_X7_no (j := 2) (by exact hW) (by decide) (by decide) ?_
      refine ⟨_, rfl, ?_⟩
      refine g_iret dX7_set_30 rfl ?_
      have e : opSet X s i v = rfX X 2 := by
        unfold opSet
        rw [wnr_2 c5 v2, if_pos (by decide)]
      rw [e] at h
      exact h _ (frM_sI (by decide)) (repMo_rfm hX (by decide) (by decide))
  · simp only [b2_0, Decidable.not_not] at c5
    refine g_aloadR_n dX7_set_8 rfl rfl ?_
    refine g_iconst dX7_set_9 (v := (-1)) (by decide) ?_
    refine n_v1i (n' := 0) dX7_set_10 mX7_no lX7_109 rfl hW vld_x20 rfl rfl ⟨Nat.le_of_ble_eq_true rfl, Nat.le_of_ble_eq_true rfl⟩ ⟨Nat.zero_le _, Nat.zero_le _⟩ (Nat.le_of_ble_eq_true rfl) ?_
    refine wp_X7_no (j := 1) (by exact hW) (by decide) (by decide) ?_
    refine ⟨_, rfl, ?_⟩
    refine g_iret dX7_set_13 rfl ?_
    have e : opSet X s i v = rfX X 1 := by
      unfold opSet
      rw [wnr_1 c5, if_pos (by decide)]
    rw [e] at h
    exact h _ (frM_sI (by decide)) (repMo_rfm hX (by decide) (by decide))
theorem IN_n1 {n : Nat} : ¬ IN (-1 : Int32) n := fun q => absurd q.1 (by decide)
theorem RepMo.shw {M : Mem} {X : Sys} {s : Nat} {k : Nat} {p x : Int32} (h : RepMo M X) (hs : s < 8) {v : Sf} (hv1 : v.1 = k) (hk : k = 0 ∨ k = 2) (hx : x = nI k) (hvp : k = 2 → v.2.2.1 = p) : RepMo (sI (sI M (21, 10, 0) s x) (21, 13, 0) s p) (setH X s v) := by
  refine h.shelf (fun b j hb => ?_) (fun j hj => rfl) ⟨?_, fun q => by omega, fun q => ?_⟩
  · simp only [mI, sI]
    have hk : ∀ k, (k = 10 ∨ k = 13) → ¬ (b = (21, k, 0) ∧ j = s) := fun k hk z => by
      obtain ⟨z1, z2⟩ := z; subst z1; rcases hb with q | ⟨-, q⟩
      · cases q
      · simp only at q; omega
    rw [if_neg (hk _ (by omega)), if_neg (hk _ (by omega))]
  · rw [hv1, hx]; simp [mI, sI]
  · rw [hvp (by omega)]; simp [mI, sI]
set_option maxHeartbeats 4000000 in
set_option maxRecDepth 100000 in
theorem wp_X7_show {E : Ev} {M : Mem} {Q : QT} (hW : Wi M) {X : Sys} (hX : RepMo M X) (hO : OkX X) {s p : Int32} (h : ∀ M', FrM M M' → RepMo M' (opShow X s p).2 → Q (some (vI (opShow X s p).1)) M') : Mth E 1 0 0 kX7_show [vR (20, 0, 0), vI s, vI p] M Q := by
  have hsz := hX.1.1
  have hs10 : (xS X).1 ≤ 10 := hO.1.1
  refine mth_of (by decide +kernel) [some (vR (20, 0, 0)), some (vI s), some (vI p)] (Nat.le_of_ble_eq_true rfl) rfl ?_
  refine g_aloadR_n dX7_show_0 rfl rfl ?_
  refine g_iload_n dX7_show_1 rfl rfl ?_
  refine n_v1i (n' := 0) dX7_show_2 mX7_isShelf lX7_105 rfl hW vld_x20 rfl rfl ⟨Nat.le_of_ble_eq_true rfl, Nat.le_of_ble_eq_true rfl⟩ ⟨Nat.zero_le _, Nat.zero_le _⟩ (Nat.le_of_ble_eq_true rfl) ?_
  refine wp_X7_isShelf ?_
  refine ⟨_, rfl, ?_⟩
  refine g_if_eq (tgt := 21) dX7_show_5 (by decide) (fun c5 => ?_) (fun c5 => ?_)
  · simp only [b2_0, Decidable.not_not] at c5
    refine g_aloadR_n dX7_show_21 rfl rfl ?_
    refine g_iconst dX7_show_22 (v := (-1)) (by decide) ?_
    refine n_v1i (n' := 0) dX7_show_23 mX7_no lX7_109 rfl hW vld_x20 rfl rfl ⟨Nat.le_of_ble_eq_true rfl, Nat.le_of_ble_eq_true rfl⟩ ⟨Nat.zero_le _, Nat.zero_le _⟩ (Nat.le_of_ble_eq_true rfl) ?_
    refine wp_X7_no (j := 1) (by exact hW) (by decide) (by decide) ?_
    refine ⟨_, rfl, ?_⟩
    refine g_iret dX7_show_26 rfl ?_
    have e : opShow X s p = rfX X 1 := by
      unfold opShow
      rw [if_pos c5]
    rw [e] at h
    exact h _ (frM_sI (by decide)) (repMo_rfm hX (by decide) (by decide))
  · simp only [b2_0, Decidable.not_not] at c5
    obtain ⟨hs1, hs2⟩ := IN_nI c5
    have hsf := hX.2.2.1 _ hs2
    have h3 := hO.sf hs2
    have hsv := shV_in (X := X) c5
    have hos := hO.2.2.1 _ hs2
    have hh := hsf.h0 h3
    refine g_iload_n dX7_show_8 rfl rfl ?_
    refine g_iconst dX7_show_9 (v := (-1)) (by decide) ?_
    refine g_icmp_eq (tgt := 27) dX7_show_10 (by decide) (fun c10 => ?_) (fun c10 => ?_)
    · refine g_aloadR_n dX7_show_27 rfl rfl ?_
      refine n_getR dX7_show_28 fX7_56 rfl hW vld_x20 rfl rfl ?_
      refine g_iload_n dX7_show_31 rfl rfl ?_
      refine g_iload_n dX7_show_32 rfl rfl ?_
      refine g_iconst dX7_show_33 (v := (-1)) (by decide) ?_
      refine g_icmp_ne (tgt := 41) dX7_show_34 (by decide) (fun c34 => ?_) (fun c34 => ?_)
      · refine g_iconst dX7_show_41 (v := 2) (by decide) ?_
        refine n_iast (j := s.toNatClampNeg) dX7_show_42 rfl hW (vld_ma (by decide : 10 < 25)) (by decide) hs1 hs2 ?_
        refine g_aloadR_n dX7_show_43 rfl rfl ?_
        refine n_getR dX7_show_44 fX7_65 rfl hW vld_x20 rfl rfl ?_
        refine g_iload_n dX7_show_47 rfl rfl ?_
        refine g_iload_n dX7_show_48 rfl rfl ?_
        refine n_iast (j := s.toNatClampNeg) dX7_show_49 rfl hW (vld_ma (by decide : 13 < 25)) (by decide) hs1 hs2 ?_
        refine g_iload_n dX7_show_50 rfl rfl ?_
        refine g_iconst dX7_show_51 (v := (-1)) (by decide) ?_
        refine g_icmp_ne (tgt := 59) dX7_show_52 (by decide) (fun c52 => ?_) (fun c52 => ?_)
        · refine g_iconst dX7_show_59 (v := 1) (by decide) ?_
          refine g_iret dX7_show_60 rfl ?_
          have c34 : ¬ p = -1 := c34
          have hp : IN p (xS X).1 := by first | exact c18 | exact absurd c10 c34
          have e : opShow X s p = (1, setH X s.toNatClampNeg (2, 0, p, 0, fun _ => 0)) := by
            unfold opShow
            rw [if_neg (not_not_intro c5), if_neg c34, if_neg (not_not_intro hp)]
          rw [e] at h
          exact h _ ((frM_sI (by decide)).tr (frM_sI (by decide))) (hX.shw hs2 (k := 2) rfl (Or.inr rfl) (show (2 : Int32) = nI 2 by decide) (fun _ => rfl))
        · refine g_iconst dX7_show_55 (v := 0) (by decide) ?_
          refine g_goto (tgt := 60) dX7_show_56 (by decide) ?_
          refine g_iret dX7_show_60 rfl ?_
          first
            | exact absurd c34 c52
            | exact absurd c52 c34
            | exact absurd (Decidable.not_not.mp c52) c34
            | exact absurd (Decidable.not_not.mp c34) c52
      · refine g_iconst dX7_show_37 (v := 0) (by decide) ?_
        refine g_goto (tgt := 42) dX7_show_38 (by decide) ?_
        refine n_iast (j := s.toNatClampNeg) dX7_show_42 rfl hW (vld_ma (by decide : 10 < 25)) (by decide) hs1 hs2 ?_
        refine g_aloadR_n dX7_show_43 rfl rfl ?_
        refine n_getR dX7_show_44 fX7_65 rfl hW vld_x20 rfl rfl ?_
        refine g_iload_n dX7_show_47 rfl rfl ?_
        refine g_iload_n dX7_show_48 rfl rfl ?_
        refine n_iast (j := s.toNatClampNeg) dX7_show_49 rfl hW (vld_ma (by decide : 13 < 25)) (by decide) hs1 hs2 ?_
        refine g_iload_n dX7_show_50 rfl rfl ?_
        refine g_iconst dX7_show_51 (v := (-1)) (by decide) ?_
        refine g_icmp_ne (tgt := 59) dX7_show_52 (by decide) (fun c52 => ?_) (fun c52 => ?_)
        · refine g_iconst dX7_show_59 (v := 1) (by decide) ?_
          refine g_iret dX7_show_60 rfl ?_
          first
            | exact absurd c34 c52
            | exact absurd c52 c34
            | exact absurd (Decidable.not_not.mp c52) c34
            | exact absurd (Decidable.not_not.mp c34) c52
        · refine g_iconst dX7_show_55 (v := 0) (by decide) ?_
          refine g_goto (tgt := 60) dX7_show_56 (by decide) ?_
          refine g_iret dX7_show_60 rfl ?_
          have c34 : p = -1 := by first | exact c34 | exact Decidable.not_not.mp c34
          have e : opShow X s p = (0, setH X s.toNatClampNeg noSf) := by
            unfold opShow
            rw [if_neg (not_not_intro c5), if_pos c34]
          rw [e] at h
          exact h _ ((frM_sI (by decide)).tr (frM_sI (by decide))) (hX.shw hs2 (k := 0) rfl (Or.inl rfl) (show (0 : Int32) = nI 0 by decide) (fun q => by cases q))
    · refine g_aloadR_n dX7_show_13 rfl rfl ?_
      refine g_iload_n dX7_show_14 rfl rfl ?_
      refine n_v1i (n' := 0) dX7_show_15 mX7_isOne lX7_113 rfl hW vld_x20 rfl rfl ⟨Nat.le_of_ble_eq_true rfl, Nat.le_of_ble_eq_true rfl⟩ ⟨Nat.zero_le _, Nat.zero_le _⟩ (Nat.le_of_ble_eq_true rfl) ?_
      refine wp_X7_isOne (by exact hW) hsz hs10 ?_
      refine ⟨_, rfl, ?_⟩
      refine g_if_ne (tgt := 27) dX7_show_18 (by decide) (fun c18 => ?_) (fun c18 => ?_)
      · simp only [b2_0, Decidable.not_not] at c18
        refine g_aloadR_n dX7_show_27 rfl rfl ?_
        refine n_getR dX7_show_28 fX7_56 rfl hW vld_x20 rfl rfl ?_
        refine g_iload_n dX7_show_31 rfl rfl ?_
        refine g_iload_n dX7_show_32 rfl rfl ?_
        refine g_iconst dX7_show_33 (v := (-1)) (by decide) ?_
        refine g_icmp_ne (tgt := 41) dX7_show_34 (by decide) (fun c34 => ?_) (fun c34 => ?_)
        · refine g_iconst dX7_show_41 (v := 2) (by decide) ?_
          refine n_iast (j := s.toNatClampNeg) dX7_show_42 rfl hW (vld_ma (by decide : 10 < 25)) (by decide) hs1 hs2 ?_
          refine g_aloadR_n dX7_show_43 rfl rfl ?_
          refine n_getR dX7_show_44 fX7_65 rfl hW vld_x20 rfl rfl ?_
          refine g_iload_n dX7_show_47 rfl rfl ?_
          refine g_iload_n dX7_show_48 rfl rfl ?_
          refine n_iast (j := s.toNatClampNeg) dX7_show_49 rfl hW (vld_ma (by decide : 13 < 25)) (by decide) hs1 hs2 ?_
          refine g_iload_n dX7_show_50 rfl rfl ?_
          refine g_iconst dX7_show_51 (v := (-1)) (by decide) ?_
          refine g_icmp_ne (tgt := 59) dX7_show_52 (by decide) (fun c52 => ?_) (fun c52 => ?_)
          · refine g_iconst dX7_show_59 (v := 1) (by decide) ?_
            refine g_iret dX7_show_60 rfl ?_
            have c34 : ¬ p = -1 := c34
            have hp : IN p (xS X).1 := by first | exact c18 | exact absurd c10 c34
            have e : opShow X s p = (1, setH X s.toNatClampNeg (2, 0, p, 0, fun _ => 0)) := by
              unfold opShow
              rw [if_neg (not_not_intro c5), if_neg c34, if_neg (not_not_intro hp)]
            rw [e] at h
            exact h _ ((frM_sI (by decide)).tr (frM_sI (by decide))) (hX.shw hs2 (k := 2) rfl (Or.inr rfl) (show (2 : Int32) = nI 2 by decide) (fun _ => rfl))
          · refine g_iconst dX7_show_55 (v := 0) (by decide) ?_
            refine g_goto (tgt := 60) dX7_show_56 (by decide) ?_
            refine g_iret dX7_show_60 rfl ?_
            first
              | exact absurd c34 c52
              | exact absurd c52 c34
              | exact absurd (Decidable.not_not.mp c52) c34
              | exact absurd (Decidable.not_not.mp c34) c52
        · refine g_iconst dX7_show_37 (v := 0) (by decide) ?_
          refine g_goto (tgt := 42) dX7_show_38 (by decide) ?_
          refine n_iast (j := s.toNatClampNeg) dX7_show_42 rfl hW (vld_ma (by decide : 10 < 25)) (by decide) hs1 hs2 ?_
          refine g_aloadR_n dX7_show_43 rfl rfl ?_
          refine n_getR dX7_show_44 fX7_65 rfl hW vld_x20 rfl rfl ?_
          refine g_iload_n dX7_show_47 rfl rfl ?_
          refine g_iload_n dX7_show_48 rfl rfl ?_
          refine n_iast (j := s.toNatClampNeg) dX7_show_49 rfl hW (vld_ma (by decide : 13 < 25)) (by decide) hs1 hs2 ?_
          refine g_iload_n dX7_show_50 rfl rfl ?_
          refine g_iconst dX7_show_51 (v := (-1)) (by decide) ?_
          refine g_icmp_ne (tgt := 59) dX7_show_52 (by decide) (fun c52 => ?_) (fun c52 => ?_)
          · refine g_iconst dX7_show_59 (v := 1) (by decide) ?_
            refine g_iret dX7_show_60 rfl ?_
            first
              | exact absurd c34 c52
              | exact absurd c52 c34
              | exact absurd (Decidable.not_not.mp c52) c34
              | exact absurd (Decidable.not_not.mp c34) c52
          · refine g_iconst dX7_show_55 (v := 0) (by decide) ?_
            refine g_goto (tgt := 60) dX7_show_56 (by decide) ?_
            refine g_iret dX7_show_60 rfl ?_
            have c34 : p = -1 := by first | exact c34 | exact Decidable.not_not.mp c34
            have e : opShow X s p = (0, setH X s.toNatClampNeg noSf) := by
              unfold opShow
              rw [if_neg (not_not_intro c5), if_pos c34]
            rw [e] at h
            exact h _ ((frM_sI (by decide)).tr (frM_sI (by decide))) (hX.shw hs2 (k := 0) rfl (Or.inl rfl) (show (0 : Int32) = nI 0 by decide) (fun q => by cases q))
      · simp only [b2_0, Decidable.not_not] at c18
        refine g_aloadR_n dX7_show_21 rfl rfl ?_
        refine g_iconst dX7_show_22 (v := (-1)) (by decide) ?_
        refine n_v1i (n' := 0) dX7_show_23 mX7_no lX7_109 rfl hW vld_x20 rfl rfl ⟨Nat.le_of_ble_eq_true rfl, Nat.le_of_ble_eq_true rfl⟩ ⟨Nat.zero_le _, Nat.zero_le _⟩ (Nat.le_of_ble_eq_true rfl) ?_
        refine wp_X7_no (j := 1) (by exact hW) (by decide) (by decide) ?_
        refine ⟨_, rfl, ?_⟩
        refine g_iret dX7_show_26 rfl ?_
        have e : opShow X s p = rfX X 1 := by
          unfold opShow
          rw [if_neg (not_not_intro c5), if_neg c10, if_pos c18]
        rw [e] at h
        exact h _ (frM_sI (by decide)) (repMo_rfm hX (by decide) (by decide))
set_option maxHeartbeats 4000000 in
set_option maxRecDepth 100000 in
theorem wp_X7_says {E : Ev} {M : Mem} {Q : QT} (hW : Wi M) {X : Sys} (hX : RepMo M X) (hO : OkX X) {s k : Int32} (h : ∀ M', FrM M M' → RepMo M' (opSays X s k).2 → Q (some (vI (opSays X s k).1)) M') : Mth E 1 0 0 kX7_says [vR (20, 0, 0), vI s, vI k] M Q := by
  have hsz := hX.1.1
  have hs10 : (xS X).1 ≤ 10 := hO.1.1
  refine mth_of (by decide +kernel) [some (vR (20, 0, 0)), some (vI s), some (vI k), none] (Nat.le_of_ble_eq_true rfl) rfl ?_
  refine g_aloadR_n dX7_says_0 rfl rfl ?_
  refine g_iload_n dX7_says_1 rfl rfl ?_
  refine n_v1i (n' := 0) dX7_says_2 mX7_isShelf lX7_105 rfl hW vld_x20 rfl rfl ⟨Nat.le_of_ble_eq_true rfl, Nat.le_of_ble_eq_true rfl⟩ ⟨Nat.zero_le _, Nat.zero_le _⟩ (Nat.le_of_ble_eq_true rfl) ?_
  refine wp_X7_isShelf ?_
  refine ⟨_, rfl, ?_⟩
  refine g_if_eq (tgt := 18) dX7_says_5 (by decide) (fun c5 => ?_) (fun c5 => ?_)
  · simp only [b2_0, Decidable.not_not] at c5
    refine g_aloadR_n dX7_says_18 rfl rfl ?_
    refine g_iconst dX7_says_19 (v := (-1)) (by decide) ?_
    refine n_v1i (n' := 0) dX7_says_20 mX7_no lX7_109 rfl hW vld_x20 rfl rfl ⟨Nat.le_of_ble_eq_true rfl, Nat.le_of_ble_eq_true rfl⟩ ⟨Nat.zero_le _, Nat.zero_le _⟩ (Nat.le_of_ble_eq_true rfl) ?_
    refine wp_X7_no (j := 1) (by exact hW) (by decide) (by decide) ?_
    refine ⟨_, rfl, ?_⟩
    refine g_iret dX7_says_23 rfl ?_
    have e : opSays X s k = rfX X 1 := by
      unfold opSays
      rw [if_pos c5]
    rw [e] at h
    exact h _ (frM_sI (by decide)) (repMo_rfm hX (by decide) (by decide))
  · simp only [b2_0, Decidable.not_not] at c5
    obtain ⟨hs1, hs2⟩ := IN_nI c5
    have hsf := hX.2.2.1 _ hs2
    have h3 := hO.sf hs2
    have hsv := shV_in (X := X) c5
    have hos := hO.2.2.1 _ hs2
    have hh := hsf.h0 h3
    refine g_iload_n dX7_says_8 rfl rfl ?_
    refine g_if_lt (tgt := 18) dX7_says_9 (by decide) (fun c9 => ?_) (fun c9 => ?_)
    · refine g_aloadR_n dX7_says_18 rfl rfl ?_
      refine g_iconst dX7_says_19 (v := (-1)) (by decide) ?_
      refine n_v1i (n' := 0) dX7_says_20 mX7_no lX7_109 rfl hW vld_x20 rfl rfl ⟨Nat.le_of_ble_eq_true rfl, Nat.le_of_ble_eq_true rfl⟩ ⟨Nat.zero_le _, Nat.zero_le _⟩ (Nat.le_of_ble_eq_true rfl) ?_
      refine wp_X7_no (j := 1) (by exact hW) (by decide) (by decide) ?_
      refine ⟨_, rfl, ?_⟩
      refine g_iret dX7_says_23 rfl ?_
      have e : opSays X s k = rfX X 1 := by
        unfold opSays
        rw [if_neg (not_not_intro c5), if_pos (fun q => by have := q.1; simp only [Int32.lt_iff_toInt_lt, zcs] at c9; omega)]
      rw [e] at h
      exact h _ (frM_sI (by decide)) (repMo_rfm hX (by decide) (by decide))
    · refine g_iload_n dX7_says_12 rfl rfl ?_
      refine g_bipush dX7_says_13 (v := 6) (by decide) ?_
      refine g_icmp_le (tgt := 24) dX7_says_15 (by decide) (fun c15 => ?_) (fun c15 => ?_)
      · have hk7 : IN k 7 := by simp only [IN, Int32.lt_iff_toInt_lt, Int32.le_iff_toInt_le, zcs] at *; omega
        refine g_aloadR_n dX7_says_24 rfl rfl ?_
        refine n_getR dX7_says_25 fX7_56 rfl hW vld_x20 rfl rfl ?_
        refine g_iload_n dX7_says_28 rfl rfl ?_
        refine n_iald (j := s.toNatClampNeg) dX7_says_29 rfl hW (vld_ma (by decide : 10 < 25)) (by decide) hs1 hs2 ?_
        refine g_iconst dX7_says_30 (v := 1) (by decide) ?_
        refine g_icmp_ne (tgt := 41) dX7_says_31 (by decide) (fun c31 => ?_) (fun c31 => ?_)
        · have n1 : ¬ (xH X s.toNatClampNeg).1 = 1 := fun z => c31 (hh.2.1.mpr z)
          refine g_aloadR_n dX7_says_41 rfl rfl ?_
          refine n_getR dX7_says_42 fX7_56 rfl hW vld_x20 rfl rfl ?_
          refine g_iload_n dX7_says_45 rfl rfl ?_
          refine n_iald (j := s.toNatClampNeg) dX7_says_46 rfl hW (vld_ma (by decide : 10 < 25)) (by decide) hs1 hs2 ?_
          refine g_if_ne (tgt := 57) dX7_says_47 (by decide) (fun c47 => ?_) (fun c47 => ?_)
          · have n0 : ¬ (xH X s.toNatClampNeg).1 = 0 := fun z => c47 (hh.1.mpr z)
            have v2 : (xH X s.toNatClampNeg).1 = 2 := by omega
            have hxi := hos.2.2 v2
            obtain ⟨hx1, hxn⟩ := IN_nI hxi
            have e13 : mI M (21, 13, 0) s.toNatClampNeg = (xH X s.toNatClampNeg).2.2.1 := hsf.2.2 v2
            refine g_aloadR_n dX7_says_57 rfl rfl ?_
            refine n_getR dX7_says_58 fX7_65 rfl hW vld_x20 rfl rfl ?_
            refine g_iload_n dX7_says_61 rfl rfl ?_
            refine n_iald (j := s.toNatClampNeg) dX7_says_62 rfl hW (vld_ma (by decide : 13 < 25)) (by decide) hs1 hs2 ?_
            rw [e13]
            refine g_istore_3 dX7_says_63 rfl ?_
            refine g_aloadR_n dX7_says_64 rfl rfl ?_
            refine g_aloadR_n dX7_says_65 rfl rfl ?_
            refine n_getR dX7_says_66 fX7_29 rfl hW vld_x20 rfl rfl ?_
            refine g_iload_n dX7_says_69 rfl rfl ?_
            refine n_iald (j := (xH X s.toNatClampNeg).2.2.1.toNatClampNeg) dX7_says_70 rfl hW (vld_ma (by decide : 1 < 25)) (by decide) hx1 (show (xH X s.toNatClampNeg).2.2.1.toNatClampNeg < 10 by omega) ?_
            rw [show mI M (21, 1, 0) (xH X s.toNatClampNeg).2.2.1.toNatClampNeg = (xS X).2.2 (xH X s.toNatClampNeg).2.2.1.toNatClampNeg 0 from hX.1.2.2 _ 0 hxn (by decide)]
            refine g_iload_n dX7_says_71 rfl rfl ?_
            refine n_v2i (n' := 0) dX7_says_72 mX7_isUnder lX7_116 rfl hW vld_x20 rfl rfl ⟨Nat.le_of_ble_eq_true rfl, Nat.le_of_ble_eq_true rfl⟩ ⟨Nat.zero_le _, Nat.zero_le _⟩ (Nat.le_of_ble_eq_true rfl) ?_
            refine wp_X7_isUnder ?_
            refine ⟨_, rfl, ?_⟩
            rw [iu_eq (hO.1.2.2.2.2.2 _ hxn).1 hk7]
            refine g_if_ne (tgt := 85) dX7_says_75 (by decide) (fun c75 => ?_) (fun c75 => ?_)
            · refine g_iload_n dX7_says_85 rfl rfl ?_
              refine g_top (fun y86 e86 => ?_)
              by_cases s86_0 : y86 = 0
              · refine g_tableIn (tgt := 124) dX7_says_86 (by rw [s86_0]; decide) (by rw [s86_0]; decide) (o := 38) (by rw [s86_0]; decide) (by decide) ?_
                refine g_aloadR_n dX7_says_124 rfl rfl ?_
                refine n_getR dX7_says_125 fX7_35 rfl hW vld_x20 rfl rfl ?_
                refine g_iload_n dX7_says_128 rfl rfl ?_
                refine n_iald (j := (xH X s.toNatClampNeg).2.2.1.toNatClampNeg) dX7_says_129 rfl hW (vld_ma (by decide : 3 < 25)) (by decide) hx1 (show (xH X s.toNatClampNeg).2.2.1.toNatClampNeg < 10 by omega) ?_
                refine g_iret dX7_says_130 rfl ?_
                have ek : sayI k = 2 := by
                  unfold sayI
                  rw [← e86]
                  first
                    | (rw [s86_0]; decide)
                    | (rw [s86_1]; decide)
                    | (rw [s86_2]; decide)
                    | (rw [s86_3]; decide)
                    | (rw [s86_4]; decide)
                    | (rw [s86_5]; decide)
                    | (have h6 : k.toInt < 7 := hk7.2
                       have h0 : 0 ≤ k.toInt := hk7.1
                       rw [e86] at s86_0 s86_1 s86_2 s86_3 s86_4 s86_5 ⊢
                       rw [if_pos (by simp only [← Int32.toInt_inj, zcs] at *; omega)])
                have e : opSays X s k = ((xS X).2.2 (xH X s.toNatClampNeg).2.2.1.toNatClampNeg (sayI k), X) := by
                  unfold opSays
                  rw [if_neg (not_not_intro c5), if_neg (not_not_intro hk7), hsv, if_neg n1, if_pos v2, if_neg c75]
                rw [e] at h
                have ev : mI M (21, 3, 0) (xH X s.toNatClampNeg).2.2.1.toNatClampNeg = (xS X).2.2 (xH X s.toNatClampNeg).2.2.1.toNatClampNeg 2 := hX.1.2.2 _ 2 hxn (by decide)
                rw [ev]
                rw [ek] at h
                exact h M FrM.rf hX
              by_cases s86_2 : y86 = 2
              · refine g_tableIn (tgt := 131) dX7_says_86 (by rw [s86_2]; decide) (by rw [s86_2]; decide) (o := 45) (by rw [s86_2]; decide) (by decide) ?_
                refine g_aloadR_n dX7_says_131 rfl rfl ?_
                refine n_getR dX7_says_132 fX7_44 rfl hW vld_x20 rfl rfl ?_
                refine g_iload_n dX7_says_135 rfl rfl ?_
                refine n_iald (j := (xH X s.toNatClampNeg).2.2.1.toNatClampNeg) dX7_says_136 rfl hW (vld_ma (by decide : 6 < 25)) (by decide) hx1 (show (xH X s.toNatClampNeg).2.2.1.toNatClampNeg < 10 by omega) ?_
                refine g_iret dX7_says_137 rfl ?_
                have ek : sayI k = 5 := by
                  unfold sayI
                  rw [← e86]
                  first
                    | (rw [s86_0]; decide)
                    | (rw [s86_1]; decide)
                    | (rw [s86_2]; decide)
                    | (rw [s86_3]; decide)
                    | (rw [s86_4]; decide)
                    | (rw [s86_5]; decide)
                    | (have h6 : k.toInt < 7 := hk7.2
                       have h0 : 0 ≤ k.toInt := hk7.1
                       rw [e86] at s86_0 s86_1 s86_2 s86_3 s86_4 s86_5 ⊢
                       rw [if_pos (by simp only [← Int32.toInt_inj, zcs] at *; omega)])
                have e : opSays X s k = ((xS X).2.2 (xH X s.toNatClampNeg).2.2.1.toNatClampNeg (sayI k), X) := by
                  unfold opSays
                  rw [if_neg (not_not_intro c5), if_neg (not_not_intro hk7), hsv, if_neg n1, if_pos v2, if_neg c75]
                rw [e] at h
                have ev : mI M (21, 6, 0) (xH X s.toNatClampNeg).2.2.1.toNatClampNeg = (xS X).2.2 (xH X s.toNatClampNeg).2.2.1.toNatClampNeg 5 := hX.1.2.2 _ 5 hxn (by decide)
                rw [ev]
                rw [ek] at h
                exact h M FrM.rf hX
              by_cases s86_4 : y86 = 4
              · refine g_tableIn (tgt := 131) dX7_says_86 (by rw [s86_4]; decide) (by rw [s86_4]; decide) (o := 45) (by rw [s86_4]; decide) (by decide) ?_
                refine g_aloadR_n dX7_says_131 rfl rfl ?_
                refine n_getR dX7_says_132 fX7_44 rfl hW vld_x20 rfl rfl ?_
                refine g_iload_n dX7_says_135 rfl rfl ?_
                refine n_iald (j := (xH X s.toNatClampNeg).2.2.1.toNatClampNeg) dX7_says_136 rfl hW (vld_ma (by decide : 6 < 25)) (by decide) hx1 (show (xH X s.toNatClampNeg).2.2.1.toNatClampNeg < 10 by omega) ?_
                refine g_iret dX7_says_137 rfl ?_
                have ek : sayI k = 5 := by
                  unfold sayI
                  rw [← e86]
                  first
                    | (rw [s86_0]; decide)
                    | (rw [s86_1]; decide)
                    | (rw [s86_2]; decide)
                    | (rw [s86_3]; decide)
                    | (rw [s86_4]; decide)
                    | (rw [s86_5]; decide)
                    | (have h6 : k.toInt < 7 := hk7.2
                       have h0 : 0 ≤ k.toInt := hk7.1
                       rw [e86] at s86_0 s86_1 s86_2 s86_3 s86_4 s86_5 ⊢
                       rw [if_pos (by simp only [← Int32.toInt_inj, zcs] at *; omega)])
                have e : opSays X s k = ((xS X).2.2 (xH X s.toNatClampNeg).2.2.1.toNatClampNeg (sayI k), X) := by
                  unfold opSays
                  rw [if_neg (not_not_intro c5), if_neg (not_not_intro hk7), hsv, if_neg n1, if_pos v2, if_neg c75]
                rw [e] at h
                have ev : mI M (21, 6, 0) (xH X s.toNatClampNeg).2.2.1.toNatClampNeg = (xS X).2.2 (xH X s.toNatClampNeg).2.2.1.toNatClampNeg 5 := hX.1.2.2 _ 5 hxn (by decide)
                rw [ev]
                rw [ek] at h
                exact h M FrM.rf hX
              by_cases s86_5 : y86 = 5
              · refine g_tableIn (tgt := 138) dX7_says_86 (by rw [s86_5]; decide) (by rw [s86_5]; decide) (o := 52) (by rw [s86_5]; decide) (by decide) ?_
                refine g_aloadR_n dX7_says_138 rfl rfl ?_
                refine n_getR dX7_says_139 fX7_32 rfl hW vld_x20 rfl rfl ?_
                refine g_iload_n dX7_says_142 rfl rfl ?_
                refine n_iald (j := (xH X s.toNatClampNeg).2.2.1.toNatClampNeg) dX7_says_143 rfl hW (vld_ma (by decide : 2 < 25)) (by decide) hx1 (show (xH X s.toNatClampNeg).2.2.1.toNatClampNeg < 10 by omega) ?_
                refine g_iret dX7_says_144 rfl ?_
                have ek : sayI k = 1 := by
                  unfold sayI
                  rw [← e86]
                  first
                    | (rw [s86_0]; decide)
                    | (rw [s86_1]; decide)
                    | (rw [s86_2]; decide)
                    | (rw [s86_3]; decide)
                    | (rw [s86_4]; decide)
                    | (rw [s86_5]; decide)
                    | (have h6 : k.toInt < 7 := hk7.2
                       have h0 : 0 ≤ k.toInt := hk7.1
                       rw [e86] at s86_0 s86_1 s86_2 s86_3 s86_4 s86_5 ⊢
                       rw [if_pos (by simp only [← Int32.toInt_inj, zcs] at *; omega)])
                have e : opSays X s k = ((xS X).2.2 (xH X s.toNatClampNeg).2.2.1.toNatClampNeg (sayI k), X) := by
                  unfold opSays
                  rw [if_neg (not_not_intro c5), if_neg (not_not_intro hk7), hsv, if_neg n1, if_pos v2, if_neg c75]
                rw [e] at h
                have ev : mI M (21, 2, 0) (xH X s.toNatClampNeg).2.2.1.toNatClampNeg = (xS X).2.2 (xH X s.toNatClampNeg).2.2.1.toNatClampNeg 1 := hX.1.2.2 _ 1 hxn (by decide)
                rw [ev]
                rw [ek] at h
                exact h M FrM.rf hX
              by_cases s86_1 : y86 = 1
              · refine g_tableIn (tgt := 145) dX7_says_86 (by rw [s86_1]; decide) (by rw [s86_1]; decide) (o := 59) (by rw [s86_1]; decide) (by decide) ?_
                refine g_aloadR_n dX7_says_145 rfl rfl ?_
                refine n_getR dX7_says_146 fX7_50 rfl hW vld_x20 rfl rfl ?_
                refine g_iload_n dX7_says_149 rfl rfl ?_
                refine n_iald (j := (xH X s.toNatClampNeg).2.2.1.toNatClampNeg) dX7_says_150 rfl hW (vld_ma (by decide : 8 < 25)) (by decide) hx1 (show (xH X s.toNatClampNeg).2.2.1.toNatClampNeg < 10 by omega) ?_
                refine g_iret dX7_says_151 rfl ?_
                have ek : sayI k = 7 := by
                  unfold sayI
                  rw [← e86]
                  first
                    | (rw [s86_0]; decide)
                    | (rw [s86_1]; decide)
                    | (rw [s86_2]; decide)
                    | (rw [s86_3]; decide)
                    | (rw [s86_4]; decide)
                    | (rw [s86_5]; decide)
                    | (have h6 : k.toInt < 7 := hk7.2
                       have h0 : 0 ≤ k.toInt := hk7.1
                       rw [e86] at s86_0 s86_1 s86_2 s86_3 s86_4 s86_5 ⊢
                       rw [if_pos (by simp only [← Int32.toInt_inj, zcs] at *; omega)])
                have e : opSays X s k = ((xS X).2.2 (xH X s.toNatClampNeg).2.2.1.toNatClampNeg (sayI k), X) := by
                  unfold opSays
                  rw [if_neg (not_not_intro c5), if_neg (not_not_intro hk7), hsv, if_neg n1, if_pos v2, if_neg c75]
                rw [e] at h
                have ev : mI M (21, 8, 0) (xH X s.toNatClampNeg).2.2.1.toNatClampNeg = (xS X).2.2 (xH X s.toNatClampNeg).2.2.1.toNatClampNeg 7 := hX.1.2.2 _ 7 hxn (by decide)
                rw [ev]
                rw [ek] at h
                exact h M FrM.rf hX
              by_cases s86_3 : y86 = 3
              · refine g_tableIn (tgt := 145) dX7_says_86 (by rw [s86_3]; decide) (by rw [s86_3]; decide) (o := 59) (by rw [s86_3]; decide) (by decide) ?_
                refine g_aloadR_n dX7_says_145 rfl rfl ?_
                refine n_getR dX7_says_146 fX7_50 rfl hW vld_x20 rfl rfl ?_
                refine g_iload_n dX7_says_149 rfl rfl ?_
                refine n_iald (j := (xH X s.toNatClampNeg).2.2.1.toNatClampNeg) dX7_says_150 rfl hW (vld_ma (by decide : 8 < 25)) (by decide) hx1 (show (xH X s.toNatClampNeg).2.2.1.toNatClampNeg < 10 by omega) ?_
                refine g_iret dX7_says_151 rfl ?_
                have ek : sayI k = 7 := by
                  unfold sayI
                  rw [← e86]
                  first
                    | (rw [s86_0]; decide)
                    | (rw [s86_1]; decide)
                    | (rw [s86_2]; decide)
                    | (rw [s86_3]; decide)
                    | (rw [s86_4]; decide)
                    | (rw [s86_5]; decide)
                    | (have h6 : k.toInt < 7 := hk7.2
                       have h0 : 0 ≤ k.toInt := hk7.1
                       rw [e86] at s86_0 s86_1 s86_2 s86_3 s86_4 s86_5 ⊢
                       rw [if_pos (by simp only [← Int32.toInt_inj, zcs] at *; omega)])
                have e : opSays X s k = ((xS X).2.2 (xH X s.toNatClampNeg).2.2.1.toNatClampNeg (sayI k), X) := by
                  unfold opSays
                  rw [if_neg (not_not_intro c5), if_neg (not_not_intro hk7), hsv, if_neg n1, if_pos v2, if_neg c75]
                rw [e] at h
                have ev : mI M (21, 8, 0) (xH X s.toNatClampNeg).2.2.1.toNatClampNeg = (xS X).2.2 (xH X s.toNatClampNeg).2.2.1.toNatClampNeg 7 := hX.1.2.2 _ 7 hxn (by decide)
                rw [ev]
                rw [ek] at h
                exact h M FrM.rf hX
              refine g_tableOut (tgt := 145) dX7_says_86 (by have t0 : ¬ y86.toInt = 0 := sw_ne s86_0; have t1 : ¬ y86.toInt = 1 := sw_ne s86_1; have t2 : ¬ y86.toInt = 2 := sw_ne s86_2; have t3 : ¬ y86.toInt = 3 := sw_ne s86_3; have t4 : ¬ y86.toInt = 4 := sw_ne s86_4; have t5 : ¬ y86.toInt = 5 := sw_ne s86_5; omega) (by decide) ?_
              refine g_aloadR_n dX7_says_145 rfl rfl ?_
              refine n_getR dX7_says_146 fX7_50 rfl hW vld_x20 rfl rfl ?_
              refine g_iload_n dX7_says_149 rfl rfl ?_
              refine n_iald (j := (xH X s.toNatClampNeg).2.2.1.toNatClampNeg) dX7_says_150 rfl hW (vld_ma (by decide : 8 < 25)) (by decide) hx1 (show (xH X s.toNatClampNeg).2.2.1.toNatClampNeg < 10 by omega) ?_
              refine g_iret dX7_says_151 rfl ?_
              have ek : sayI k = 7 := by
                unfold sayI
                rw [← e86]
                first
                  | (rw [s86_0]; decide)
                  | (rw [s86_1]; decide)
                  | (rw [s86_2]; decide)
                  | (rw [s86_3]; decide)
                  | (rw [s86_4]; decide)
                  | (rw [s86_5]; decide)
                  | (have h6 : k.toInt < 7 := hk7.2
                     have h0 : 0 ≤ k.toInt := hk7.1
                     rw [e86] at s86_0 s86_1 s86_2 s86_3 s86_4 s86_5 ⊢
                     rw [if_pos (by simp only [← Int32.toInt_inj, zcs] at *; omega)])
              have e : opSays X s k = ((xS X).2.2 (xH X s.toNatClampNeg).2.2.1.toNatClampNeg (sayI k), X) := by
                unfold opSays
                rw [if_neg (not_not_intro c5), if_neg (not_not_intro hk7), hsv, if_neg n1, if_pos v2, if_neg c75]
              rw [e] at h
              have ev : mI M (21, 8, 0) (xH X s.toNatClampNeg).2.2.1.toNatClampNeg = (xS X).2.2 (xH X s.toNatClampNeg).2.2.1.toNatClampNeg 7 := hX.1.2.2 _ 7 hxn (by decide)
              rw [ev]
              rw [ek] at h
              exact h M FrM.rf hX
            · refine g_aloadR_n dX7_says_78 rfl rfl ?_
              refine g_bipush dX7_says_79 (v := (-2)) (by decide) ?_
              refine n_v1i (n' := 0) dX7_says_81 mX7_no lX7_109 rfl hW vld_x20 rfl rfl ⟨Nat.le_of_ble_eq_true rfl, Nat.le_of_ble_eq_true rfl⟩ ⟨Nat.zero_le _, Nat.zero_le _⟩ (Nat.le_of_ble_eq_true rfl) ?_
              refine wp_X7_no (j := 2) (by exact hW) (by decide) (by decide) ?_
              refine ⟨_, rfl, ?_⟩
              refine g_iret dX7_says_84 rfl ?_
              have e : opSays X s k = rfX X 2 := by
                unfold opSays
                rw [if_neg (not_not_intro c5), if_neg (not_not_intro hk7), hsv, if_neg n1, if_pos v2, if_pos c75]
              rw [e] at h
              exact h _ (frM_sI (by decide)) (repMo_rfm hX (by decide) (by decide))
          · have c47 : mI M (21, 10, 0) s.toNatClampNeg = 0 := by first | exact c47 | exact Decidable.not_not.mp c47
            have v0 : (xH X s.toNatClampNeg).1 = 0 := hh.1.mp c47
            refine g_aloadR_n dX7_says_50 rfl rfl ?_
            refine g_bipush dX7_says_51 (v := (-3)) (by decide) ?_
            refine n_v1i (n' := 0) dX7_says_53 mX7_no lX7_109 rfl hW vld_x20 rfl rfl ⟨Nat.le_of_ble_eq_true rfl, Nat.le_of_ble_eq_true rfl⟩ ⟨Nat.zero_le _, Nat.zero_le _⟩ (Nat.le_of_ble_eq_true rfl) ?_
            refine wp_X7_no (j := 3) (by exact hW) (by decide) (by decide) ?_
            refine ⟨_, rfl, ?_⟩
            refine g_iret dX7_says_56 rfl ?_
            have e : opSays X s k = rfX X 3 := by
              unfold opSays
              rw [if_neg (not_not_intro c5), if_neg (not_not_intro hk7), hsv, if_neg n1, if_neg (by omega)]
            rw [e] at h
            exact h _ (frM_sI (by decide)) (repMo_rfm hX (by decide) (by decide))
        · have c31 : mI M (21, 10, 0) s.toNatClampNeg = 1 := by first | exact c31 | exact Decidable.not_not.mp c31
          have v1 : (xH X s.toNatClampNeg).1 = 1 := hh.2.1.mp c31
          refine g_aloadR_n dX7_says_34 rfl rfl ?_
          refine g_bipush dX7_says_35 (v := (-2)) (by decide) ?_
          refine n_v1i (n' := 0) dX7_says_37 mX7_no lX7_109 rfl hW vld_x20 rfl rfl ⟨Nat.le_of_ble_eq_true rfl, Nat.le_of_ble_eq_true rfl⟩ ⟨Nat.zero_le _, Nat.zero_le _⟩ (Nat.le_of_ble_eq_true rfl) ?_
          refine wp_X7_no (j := 2) (by exact hW) (by decide) (by decide) ?_
          refine ⟨_, rfl, ?_⟩
          refine g_iret dX7_says_40 rfl ?_
          have e : opSays X s k = rfX X 2 := by
            unfold opSays
            rw [if_neg (not_not_intro c5), if_neg (not_not_intro hk7), hsv, if_pos v1]
          rw [e] at h
          exact h _ (frM_sI (by decide)) (repMo_rfm hX (by decide) (by decide))
      · refine g_aloadR_n dX7_says_18 rfl rfl ?_
        refine g_iconst dX7_says_19 (v := (-1)) (by decide) ?_
        refine n_v1i (n' := 0) dX7_says_20 mX7_no lX7_109 rfl hW vld_x20 rfl rfl ⟨Nat.le_of_ble_eq_true rfl, Nat.le_of_ble_eq_true rfl⟩ ⟨Nat.zero_le _, Nat.zero_le _⟩ (Nat.le_of_ble_eq_true rfl) ?_
        refine wp_X7_no (j := 1) (by exact hW) (by decide) (by decide) ?_
        refine ⟨_, rfl, ?_⟩
        refine g_iret dX7_says_23 rfl ?_
        have e : opSays X s k = rfX X 1 := by
          unfold opSays
          rw [if_neg (not_not_intro c5), if_pos (fun q => by have := q.2; simp only [Int32.le_iff_toInt_le, zcs] at c15; omega)]
        rw [e] at h
        exact h _ (frM_sI (by decide)) (repMo_rfm hX (by decide) (by decide))
