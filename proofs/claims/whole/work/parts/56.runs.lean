/-! THE REFERENCE: EVENINGS ON END -/
def DQ : Id → Nat → Prop := fun b f => DP b f ∨ (b.1 = 20 ∧ 40 ≤ f ∧ f ≤ 45) ∨ (b.1 = 21 ∧ b.2.1 = 22)
theorem DP_DQ : ∀ b f, DP b f → DQ b f := fun b f h => Or.inl h
theorem DP_DM : ∀ b f, DP b f → DM b f := fun b f h => h.elim (DC_DM b f) (DS_DM b f)
theorem DQ_DM : ∀ b f, DQ b f → DM b f := fun b f h => h.elim (DP_DM b f) (fun h => h.elim (fun h => Or.inl ⟨h.1, Or.inr (Or.inr ⟨by omega, h.2.2⟩)⟩) (fun h => Or.inr ⟨h.1, by omega⟩))
theorem cnt_top {c n : Nat} (hc : c < 2 ^ n) : ∀ d, cnt c (n + d) = cnt c n
  | 0 => rfl
  | d + 1 => by
    rw [← Nat.add_assoc, cnt, Nat.testBit_lt_two_pow (Nat.lt_of_lt_of_le hc (Nat.pow_le_pow_right (by decide) (by omega)))]
    exact cnt_top hc d
theorem cnt_11 {c n : Nat} (hc : c < 2 ^ n) (hn : n ≤ 10) : cnt c 11 = cnt c n := by
  have := cnt_top hc (11 - n)
  rwa [show n + (11 - n) = 11 by omega] at this
theorem cnt_10 {c n : Nat} (hc : c < 2 ^ n) (hn : n ≤ 10) : cnt c 10 = cnt c n := by
  have := cnt_top hc (10 - n)
  rwa [show n + (10 - n) = 10 by omega] at this
theorem tS_eq {S : Sc} (hO : OkS S) (j : Nat) : cnt (eveM (itS S j)) (itS S j).1 = tS S j := (cnt_11 (eveM_lt _) (by rw [itS_n]; exact hO.1)).symm
theorem cS_eq {S : Sc} (hO : OkS S) (j : Nat) : cnt (comersS (itS S j) 0) (itS S j).1 = cS S j := (cnt_11 (comersS_lt _ 0) (by rw [itS_n]; exact hO.1)).symm
theorem tS_10 {S : Sc} (hO : OkS S) (j : Nat) : tS S j ≤ 10 := by rw [← tS_eq hO]; have := cnt_le (eveM (itS S j)) (itS S j).1; rw [itS_n] at this ⊢; have := hO.1; omega
theorem woF_nn (S : Sc) (hO : OkS S) : ∀ j, (woF S j).1 = -1 → j < 2 ^ 31 → j = 0
  | 0, _, _ => rfl
  | j + 1, h, hj => by
    simp only [woF] at h
    split at h
    · have := nI_toInt (n := j) (by omega)
      have h : nI j = -1 := h
      rw [h] at this; simp only [zcs] at this; omega
    · rename_i hn
      have := woF_nn S hO j h (by omega)
      subst this
      exact absurd (show tS S 0 < 11 by have := tS_10 hO 0; omega) hn
def RuS (M0 M : Mem) (S : Sc) (j : Nat) : Prop := FrI DQ M0 M ∧ RepR M (itS S j) ∧ RepSv M 22 S ∧ mI M (20, 0, 0) 41 = nI (seatSum S j) ∧ mI M (20, 0, 0) 42 = nI (turnSum S j) ∧ mI M (20, 0, 0) 43 = (woF S j).1 ∧ mI M (20, 0, 0) 44 = shF S j
theorem RepSv.fr {D : Id → Nat → Prop} {M M' : Mem} {b : Nat} {S : Sc} (h : RepSv M b S) (hf : FrI D M M') (hD : ∀ i, ¬ D (21, b, 0) i) : RepSv M' b S := ⟨(hf.2 _ _ (hD _)).trans h.1, fun j a b2 => (hf.2 _ _ (hD _)).trans (h.2.1 j a b2), fun i f a b2 => (hf.2 _ _ (hD _)).trans (h.2.2 i f a b2)⟩
theorem frQ {M : Mem} {f : Nat} {x : Int32} (h1 : 40 ≤ f) (h2 : f ≤ 45) : FrI DQ M (sI M (20, 0, 0) f x) := fr_sI (Or.inr (Or.inl ⟨rfl, h1, h2⟩))
theorem RepR.q {M : Mem} {S : Sc} {f : Nat} {x : Int32} (h : RepR M S) (hf : 7 ≤ f) : RepR (sI M (20, 0, 0) f x) S := h.fr (D := fun b g => b.1 = 20 ∧ g = f) (fr_sI ⟨rfl, rfl⟩) (fun j hj q => by have := q.2; omega) (fun i f _ q => by cases q.1)
theorem RepSv.q {M : Mem} {b : Nat} {S : Sc} {f : Nat} {x : Int32} (h : RepSv M b S) : RepSv (sI M (20, 0, 0) f x) b S := h.fr (D := fun b g => b.1 = 20) (fr_sI rfl) (fun i q => by cases q)
theorem DP_h {b : Id} {f : Nat} (h : (b = (20, 0, 0) ∧ 40 ≤ f) ∨ (b.1 = 21 ∧ 10 ≤ b.2.1)) : ¬ DP b f := fun q => by
  rcases h with ⟨rfl, h⟩ | ⟨h1, h2⟩
  · rcases q with q | q | q
    · have := q.2.2; omega
    · have := q.2; omega
    · cases q.1
  · rcases q with q | q | q
    · have := q.1; omega
    · have := q.1; omega
    · have := q.2.2; omega
set_option maxHeartbeats 4000000 in
set_option maxRecDepth 100000 in
theorem lp_X7_runs {E : Ev} {M0 : Mem} {Q : QT} (hW0 : Wi M0) {S : Sc} (hO : OkS S) {n : Nat} (hn : n ≤ 24) (h : ∀ M fw, RuS M0 M S n → G E (rm 4 0 0) kX7_runs (ZQ E Q 0 0) 0 0 129 [some (vR (20, 0, 0)), some (vI (nI n)), some (vI fw), some (vI (nI n))] [] M) : ∀ j, j ≤ n → ∀ (M : Mem) (fw : Int32), RuS M0 M S j → (j ≠ 0 → fw = nI (woF S j).2) → G E (rm 4 0 0) kX7_runs (ZQ E Q 0 0) 0 0 33 [some (vR (20, 0, 0)), some (vI (nI n)), some (vI fw), some (vI (nI j))] [] M := by
  refine up_loop n (fun j hj ih M fw hst hfw => ?_)
  have hst2 := hst
  obtain ⟨hf, hRj, hSv, h41, h42, h43, h44⟩ := hst2
  have hW := hf.W hW0
  have hOj := hO.it j
  refine g_iload_n dX7_runs_33 rfl rfl ?_
  refine g_iload_n dX7_runs_34 rfl rfl ?_
  refine g_icmp_ge (tgt := 129) dX7_runs_35 (by decide) (fun c35 => ?_) (fun c35 => ?_)
  · have hjn2 : j = n := by rw [nI_leI (by omega) (by omega)] at c35; omega
    subst hjn2
    exact h M fw hst
  · have hjn : j < n := by rw [nI_leI (by omega) (by omega)] at c35; omega
    refine g_aloadR_n dX7_runs_38 rfl rfl ?_
    refine n_v0v (n' := 3) dX7_runs_39 mX7_passes lX7_230 rfl hW vld_x20 rfl rfl ⟨Nat.le_of_ble_eq_true rfl, Nat.le_of_ble_eq_true rfl⟩ ⟨Nat.zero_le _, Nat.zero_le _⟩ (Nat.le_of_ble_eq_true rfl) ?_
    refine wp_X7_passes (by exact hW) hRj hOj (fun M1 hf1 hR1 ho1 => ?_)
    have hW1 := hf1.W (by exact hW)
    have e39 : mI M1 (20, 0, 0) 39 = nI (tS S j) := ho1.2.2.2.trans (congrArg nI (tS_eq hO j))
    have e38 : mI M1 (20, 0, 0) 38 = nI (cS S j) := ho1.2.2.1.trans (congrArg nI (cS_eq hO j))
    have e41 : mI M1 (20, 0, 0) 41 = nI (seatSum S j) := (hf1.2 _ _ (DP_h (Or.inl ⟨rfl, by decide⟩))).trans h41
    have e42 : mI M1 (20, 0, 0) 42 = nI (turnSum S j) := (hf1.2 _ _ (DP_h (Or.inl ⟨rfl, by decide⟩))).trans h42
    have e43 : mI M1 (20, 0, 0) 43 = (woF S j).1 := (hf1.2 _ _ (DP_h (Or.inl ⟨rfl, by decide⟩))).trans h43
    have e44 : mI M1 (20, 0, 0) 44 = shF S j := (hf1.2 _ _ (DP_h (Or.inl ⟨rfl, by decide⟩))).trans h44
    have e4 : mI M1 (20, 0, 0) 4 = S.2.1 4 := (hR1.2.1 4 (by decide) (by decide)).trans (itS_g S (by decide) (j + 1))
    have hSv1 : RepSv M1 22 S := hSv.fr hf1 (fun i => DP_h (Or.inr ⟨rfl, by decide⟩))
    have hts := tS_10 hO j
    have htc := tS_cS S j
    have hcs := cS_le S j
    refine ⟨rfl, ?_⟩
    refine g_aloadR_n dX7_runs_42 rfl rfl ?_
    refine g_dup dX7_runs_43 rfl ?_
    refine n_getI dX7_runs_44 fX7_218 rfl hW1 vld_x20 (Or.inl rfl) ?_
    refine g_top (fun z ez => ?_)
    have ez : z = nI (seatSum S j) := ez.trans (by first | exact e41 | (simp [mI, sI]; exact e41))
    subst ez
    refine g_aloadR_n dX7_runs_47 rfl rfl ?_
    refine n_getI dX7_runs_48 fX7_211 rfl hW1 vld_x20 (Or.inl rfl) ?_
    refine g_top (fun z ez => ?_)
    have ez : z = nI (tS S j) := ez.trans (by first | exact e39 | (simp [mI, sI]; exact e39))
    subst ez
    refine g_iadd dX7_runs_51 ?_
    rw [nI_add]
    refine n_putI dX7_runs_52 fX7_218 rfl hW1 vld_x20 rfl ?_
    refine g_aloadR_n dX7_runs_55 rfl rfl ?_
    refine g_dup dX7_runs_56 rfl ?_
    refine n_getI dX7_runs_57 fX7_221 rfl hW1 vld_x20 (Or.inl rfl) ?_
    skip
    refine g_aloadR_n dX7_runs_60 rfl rfl ?_
    skip
    refine n_getI dX7_runs_61 fX7_208 rfl hW1 vld_x20 (Or.inl rfl) ?_
    refine g_top (fun z ez => ?_)
    have ez : z = nI (cS S j) := ez.trans (by first | exact e38 | (simp [mI, sI]; exact e38))
    subst ez
    refine g_aloadR_n dX7_runs_64 rfl rfl ?_
    refine n_getI dX7_runs_65 fX7_211 rfl hW1 vld_x20 (Or.inl rfl) ?_
    refine g_top (fun z ez => ?_)
    have ez : z = nI (tS S j) := ez.trans (by first | exact e39 | (simp [mI, sI]; exact e39))
    subst ez
    refine g_isub dX7_runs_68 ?_
    rw [pk_sub (by omega)]
    refine g_iadd dX7_runs_69 ?_
    refine g_top (fun z ez => ?_)
    have e42b : mI (sI M1 (20, 0, 0) 41 (nI (seatSum S j + tS S j))) (20, 0, 0) 42 = nI (turnSum S j) := by simp [mI, sI]; exact e42
    rw [e42b, nI_add] at ez
    subst ez
    refine n_putI dX7_runs_70 fX7_221 rfl hW1 vld_x20 rfl ?_
    refine g_aloadR_n dX7_runs_73 rfl rfl ?_
    refine n_getI dX7_runs_74 fX7_224 rfl hW1 vld_x20 (Or.inl rfl) ?_
    refine g_top (fun z ez => ?_)
    have ez : z = (woF S j).1 := ez.trans (by first | exact e43 | (simp [mI, sI]; exact e43))
    subst ez
    refine g_iconst dX7_runs_77 (v := (-1)) (by decide) ?_
    refine g_icmp_eq (tgt := 89) dX7_runs_78 (by decide) (fun c78 => ?_) (fun c78 => ?_)
    · refine g_aloadR_n dX7_runs_89 rfl rfl ?_
      refine g_iload_n dX7_runs_90 rfl rfl ?_
      refine n_putI dX7_runs_91 fX7_224 rfl hW1 vld_x20 rfl ?_
      refine g_aloadR_n dX7_runs_94 rfl rfl ?_
      refine n_getI dX7_runs_95 fX7_211 rfl hW1 vld_x20 (Or.inl rfl) ?_
      refine g_top (fun z ez => ?_)
      have ez : z = nI (tS S j) := ez.trans (by first | exact e39 | (simp [mI, sI]; exact e39))
      subst ez
      refine g_istore_2 dX7_runs_98 rfl ?_
      refine g_aloadR_n dX7_runs_99 rfl rfl ?_
      refine n_getI dX7_runs_100 fX7_227 rfl hW1 vld_x20 (Or.inl rfl) ?_
      refine g_top (fun z ez => ?_)
      have ez : z = shF S j := ez.trans (by first | exact e44 | (simp [mI, sI]; exact e44))
      subst ez
      refine g_iconst dX7_runs_103 (v := (-1)) (by decide) ?_
      refine g_icmp_ne (tgt := 123) dX7_runs_104 (by decide) (fun c104 => ?_) (fun c104 => ?_)
      · refine g_iinc_3 (v := nI (j + 1)) dX7_runs_123 rfl (nI_inc j) ?_
        refine g_goto (tgt := 33) dX7_runs_126 (by decide) ?_
        have hj0 : j = 0 := woF_nn S hO j c78 (by omega)
        have hwo : woF S (j + 1) = (nI j, tS S j) := by subst hj0; exact if_pos (show tS S 0 < (woF S 0).2 by show tS S 0 < 11; omega)
        have hsh : shF S (j + 1) = shF S j := by simp only [shF]; rw [if_neg (fun q => c104 q.1)]
        refine ih hjn _ _ ⟨((((hf.tr (hf1.mono DP_DQ)).tr (frQ (by decide) (by decide))).tr (frQ (by decide) (by decide))).tr (frQ (by decide) (by decide))), (((hR1.q (by decide)).q (by decide)).q (by decide)), hSv1.q.q.q, by simp [mI, sI, seatSum], by simp [mI, sI, turnSum], ?_, ?_⟩ (fun _ => ?_)
        · rw [hwo]; simp [mI, sI]
        · rw [hsh]; simp [mI, sI]; exact e44
        · rw [hwo]
      · refine g_aloadR_n dX7_runs_107 rfl rfl ?_
        refine n_getI dX7_runs_108 fX7_211 rfl hW1 vld_x20 (Or.inl rfl) ?_
        refine g_top (fun z ez => ?_)
        have ez : z = nI (tS S j) := ez.trans (by first | exact e39 | (simp [mI, sI]; exact e39))
        subst ez
        refine g_aloadR_n dX7_runs_111 rfl rfl ?_
        refine n_getI dX7_runs_112 fX7_16 rfl hW1 vld_x20 (Or.inl rfl) ?_
        refine g_top (fun z ez => ?_)
        have ez : z = S.2.1 4 := ez.trans (by first | exact e4 | (simp [mI, sI]; exact e4))
        subst ez
        refine g_icmp_ge (tgt := 123) dX7_runs_115 (by decide) (fun c115 => ?_) (fun c115 => ?_)
        · refine g_iinc_3 (v := nI (j + 1)) dX7_runs_123 rfl (nI_inc j) ?_
          refine g_goto (tgt := 33) dX7_runs_126 (by decide) ?_
          have hj0 : j = 0 := woF_nn S hO j c78 (by omega)
          have hwo : woF S (j + 1) = (nI j, tS S j) := by subst hj0; exact if_pos (show tS S 0 < (woF S 0).2 by show tS S 0 < 11; omega)
          have hsh : shF S (j + 1) = shF S j := by simp only [shF]; rw [if_neg (fun q => absurd q.2 (Int32.not_lt.mpr c115))]
          refine ih hjn _ _ ⟨((((hf.tr (hf1.mono DP_DQ)).tr (frQ (by decide) (by decide))).tr (frQ (by decide) (by decide))).tr (frQ (by decide) (by decide))), (((hR1.q (by decide)).q (by decide)).q (by decide)), hSv1.q.q.q, by simp [mI, sI, seatSum], by simp [mI, sI, turnSum], ?_, ?_⟩ (fun _ => ?_)
          · rw [hwo]; simp [mI, sI]
          · rw [hsh]; simp [mI, sI]; exact e44
          · rw [hwo]
        · refine g_aloadR_n dX7_runs_118 rfl rfl ?_
          refine g_iload_n dX7_runs_119 rfl rfl ?_
          refine n_putI dX7_runs_120 fX7_227 rfl hW1 vld_x20 rfl ?_
          refine g_iinc_3 (v := nI (j + 1)) dX7_runs_123 rfl (nI_inc j) ?_
          refine g_goto (tgt := 33) dX7_runs_126 (by decide) ?_
          have hj0 : j = 0 := woF_nn S hO j c78 (by omega)
          have hwo : woF S (j + 1) = (nI j, tS S j) := by subst hj0; exact if_pos (show tS S 0 < (woF S 0).2 by show tS S 0 < 11; omega)
          have c104 : shF S j = -1 := by first | exact c104 | exact Decidable.not_not.mp c104
          have hsh : shF S (j + 1) = nI j := by simp only [shF]; rw [if_pos ⟨c104, Int32.not_le.mp c115⟩]
          refine ih hjn _ _ ⟨(((((hf.tr (hf1.mono DP_DQ)).tr (frQ (by decide) (by decide))).tr (frQ (by decide) (by decide))).tr (frQ (by decide) (by decide))).tr (frQ (by decide) (by decide))), ((((hR1.q (by decide)).q (by decide)).q (by decide)).q (by decide)), hSv1.q.q.q.q, by simp [mI, sI, seatSum], by simp [mI, sI, turnSum], ?_, ?_⟩ (fun _ => ?_)
          · rw [hwo]; simp [mI, sI]
          · rw [hsh]; simp [mI, sI]
          · rw [hwo]
    · refine g_aloadR_n dX7_runs_81 rfl rfl ?_
      refine n_getI dX7_runs_82 fX7_211 rfl hW1 vld_x20 (Or.inl rfl) ?_
      refine g_top (fun z ez => ?_)
      have ez : z = nI (tS S j) := ez.trans (by first | exact e39 | (simp [mI, sI]; exact e39))
      subst ez
      refine g_iload_n dX7_runs_85 rfl rfl ?_
      refine g_icmp_ge (tgt := 99) dX7_runs_86 (by decide) (fun c86 => ?_) (fun c86 => ?_)
      · refine g_aloadR_n dX7_runs_99 rfl rfl ?_
        refine n_getI dX7_runs_100 fX7_227 rfl hW1 vld_x20 (Or.inl rfl) ?_
        refine g_top (fun z ez => ?_)
        have ez : z = shF S j := ez.trans (by first | exact e44 | (simp [mI, sI]; exact e44))
        subst ez
        refine g_iconst dX7_runs_103 (v := (-1)) (by decide) ?_
        refine g_icmp_ne (tgt := 123) dX7_runs_104 (by decide) (fun c104 => ?_) (fun c104 => ?_)
        · refine g_iinc_3 (v := nI (j + 1)) dX7_runs_123 rfl (nI_inc j) ?_
          refine g_goto (tgt := 33) dX7_runs_126 (by decide) ?_
          have hj0 : j ≠ 0 := fun q => c78 (by rw [q]; rfl)
          have c86b := c86
          rw [hfw hj0, nI_leI (by have := woF_le S j; omega) (by omega)] at c86
          have hwo : woF S (j + 1) = woF S j := if_neg (show ¬ tS S j < (woF S j).2 by omega)
          have hsh : shF S (j + 1) = shF S j := by simp only [shF]; rw [if_neg (fun q => c104 q.1)]
          refine ih hjn _ _ ⟨(((hf.tr (hf1.mono DP_DQ)).tr (frQ (by decide) (by decide))).tr (frQ (by decide) (by decide))), ((hR1.q (by decide)).q (by decide)), hSv1.q.q, by simp [mI, sI, seatSum], by simp [mI, sI, turnSum], ?_, ?_⟩ (fun _ => ?_)
          · rw [hwo]; simp [mI, sI]; exact e43
          · rw [hsh]; simp [mI, sI]; exact e44
          · rw [hwo]; exact hfw hj0
        · refine g_aloadR_n dX7_runs_107 rfl rfl ?_
          refine n_getI dX7_runs_108 fX7_211 rfl hW1 vld_x20 (Or.inl rfl) ?_
          refine g_top (fun z ez => ?_)
          have ez : z = nI (tS S j) := ez.trans (by first | exact e39 | (simp [mI, sI]; exact e39))
          subst ez
          refine g_aloadR_n dX7_runs_111 rfl rfl ?_
          refine n_getI dX7_runs_112 fX7_16 rfl hW1 vld_x20 (Or.inl rfl) ?_
          refine g_top (fun z ez => ?_)
          have ez : z = S.2.1 4 := ez.trans (by first | exact e4 | (simp [mI, sI]; exact e4))
          subst ez
          refine g_icmp_ge (tgt := 123) dX7_runs_115 (by decide) (fun c115 => ?_) (fun c115 => ?_)
          · refine g_iinc_3 (v := nI (j + 1)) dX7_runs_123 rfl (nI_inc j) ?_
            refine g_goto (tgt := 33) dX7_runs_126 (by decide) ?_
            have hj0 : j ≠ 0 := fun q => c78 (by rw [q]; rfl)
            have c86b := c86
            rw [hfw hj0, nI_leI (by have := woF_le S j; omega) (by omega)] at c86
            have hwo : woF S (j + 1) = woF S j := if_neg (show ¬ tS S j < (woF S j).2 by omega)
            have hsh : shF S (j + 1) = shF S j := by simp only [shF]; rw [if_neg (fun q => absurd q.2 (Int32.not_lt.mpr c115))]
            refine ih hjn _ _ ⟨(((hf.tr (hf1.mono DP_DQ)).tr (frQ (by decide) (by decide))).tr (frQ (by decide) (by decide))), ((hR1.q (by decide)).q (by decide)), hSv1.q.q, by simp [mI, sI, seatSum], by simp [mI, sI, turnSum], ?_, ?_⟩ (fun _ => ?_)
            · rw [hwo]; simp [mI, sI]; exact e43
            · rw [hsh]; simp [mI, sI]; exact e44
            · rw [hwo]; exact hfw hj0
          · refine g_aloadR_n dX7_runs_118 rfl rfl ?_
            refine g_iload_n dX7_runs_119 rfl rfl ?_
            refine n_putI dX7_runs_120 fX7_227 rfl hW1 vld_x20 rfl ?_
            refine g_iinc_3 (v := nI (j + 1)) dX7_runs_123 rfl (nI_inc j) ?_
            refine g_goto (tgt := 33) dX7_runs_126 (by decide) ?_
            have hj0 : j ≠ 0 := fun q => c78 (by rw [q]; rfl)
            have c86b := c86
            rw [hfw hj0, nI_leI (by have := woF_le S j; omega) (by omega)] at c86
            have hwo : woF S (j + 1) = woF S j := if_neg (show ¬ tS S j < (woF S j).2 by omega)
            have c104 : shF S j = -1 := by first | exact c104 | exact Decidable.not_not.mp c104
            have hsh : shF S (j + 1) = nI j := by simp only [shF]; rw [if_pos ⟨c104, Int32.not_le.mp c115⟩]
            refine ih hjn _ _ ⟨((((hf.tr (hf1.mono DP_DQ)).tr (frQ (by decide) (by decide))).tr (frQ (by decide) (by decide))).tr (frQ (by decide) (by decide))), (((hR1.q (by decide)).q (by decide)).q (by decide)), hSv1.q.q.q, by simp [mI, sI, seatSum], by simp [mI, sI, turnSum], ?_, ?_⟩ (fun _ => ?_)
            · rw [hwo]; simp [mI, sI]; exact e43
            · rw [hsh]; simp [mI, sI]
            · rw [hwo]; exact hfw hj0
      · refine g_aloadR_n dX7_runs_89 rfl rfl ?_
        refine g_iload_n dX7_runs_90 rfl rfl ?_
        refine n_putI dX7_runs_91 fX7_224 rfl hW1 vld_x20 rfl ?_
        refine g_aloadR_n dX7_runs_94 rfl rfl ?_
        refine n_getI dX7_runs_95 fX7_211 rfl hW1 vld_x20 (Or.inl rfl) ?_
        refine g_top (fun z ez => ?_)
        have ez : z = nI (tS S j) := ez.trans (by first | exact e39 | (simp [mI, sI]; exact e39))
        subst ez
        refine g_istore_2 dX7_runs_98 rfl ?_
        refine g_aloadR_n dX7_runs_99 rfl rfl ?_
        refine n_getI dX7_runs_100 fX7_227 rfl hW1 vld_x20 (Or.inl rfl) ?_
        refine g_top (fun z ez => ?_)
        have ez : z = shF S j := ez.trans (by first | exact e44 | (simp [mI, sI]; exact e44))
        subst ez
        refine g_iconst dX7_runs_103 (v := (-1)) (by decide) ?_
        refine g_icmp_ne (tgt := 123) dX7_runs_104 (by decide) (fun c104 => ?_) (fun c104 => ?_)
        · refine g_iinc_3 (v := nI (j + 1)) dX7_runs_123 rfl (nI_inc j) ?_
          refine g_goto (tgt := 33) dX7_runs_126 (by decide) ?_
          have hj0 : j ≠ 0 := fun q => c78 (by rw [q]; rfl)
          rw [hfw hj0, nI_leI (by have := woF_le S j; omega) (by omega)] at c86
          have hwo : woF S (j + 1) = (nI j, tS S j) := if_pos (show tS S j < (woF S j).2 by omega)
          have hsh : shF S (j + 1) = shF S j := by simp only [shF]; rw [if_neg (fun q => c104 q.1)]
          refine ih hjn _ _ ⟨((((hf.tr (hf1.mono DP_DQ)).tr (frQ (by decide) (by decide))).tr (frQ (by decide) (by decide))).tr (frQ (by decide) (by decide))), (((hR1.q (by decide)).q (by decide)).q (by decide)), hSv1.q.q.q, by simp [mI, sI, seatSum], by simp [mI, sI, turnSum], ?_, ?_⟩ (fun _ => ?_)
          · rw [hwo]; simp [mI, sI]
          · rw [hsh]; simp [mI, sI]; exact e44
          · rw [hwo]
        · refine g_aloadR_n dX7_runs_107 rfl rfl ?_
          refine n_getI dX7_runs_108 fX7_211 rfl hW1 vld_x20 (Or.inl rfl) ?_
          refine g_top (fun z ez => ?_)
          have ez : z = nI (tS S j) := ez.trans (by first | exact e39 | (simp [mI, sI]; exact e39))
          subst ez
          refine g_aloadR_n dX7_runs_111 rfl rfl ?_
          refine n_getI dX7_runs_112 fX7_16 rfl hW1 vld_x20 (Or.inl rfl) ?_
          refine g_top (fun z ez => ?_)
          have ez : z = S.2.1 4 := ez.trans (by first | exact e4 | (simp [mI, sI]; exact e4))
          subst ez
          refine g_icmp_ge (tgt := 123) dX7_runs_115 (by decide) (fun c115 => ?_) (fun c115 => ?_)
          · refine g_iinc_3 (v := nI (j + 1)) dX7_runs_123 rfl (nI_inc j) ?_
            refine g_goto (tgt := 33) dX7_runs_126 (by decide) ?_
            have hj0 : j ≠ 0 := fun q => c78 (by rw [q]; rfl)
            rw [hfw hj0, nI_leI (by have := woF_le S j; omega) (by omega)] at c86
            have hwo : woF S (j + 1) = (nI j, tS S j) := if_pos (show tS S j < (woF S j).2 by omega)
            have hsh : shF S (j + 1) = shF S j := by simp only [shF]; rw [if_neg (fun q => absurd q.2 (Int32.not_lt.mpr c115))]
            refine ih hjn _ _ ⟨((((hf.tr (hf1.mono DP_DQ)).tr (frQ (by decide) (by decide))).tr (frQ (by decide) (by decide))).tr (frQ (by decide) (by decide))), (((hR1.q (by decide)).q (by decide)).q (by decide)), hSv1.q.q.q, by simp [mI, sI, seatSum], by simp [mI, sI, turnSum], ?_, ?_⟩ (fun _ => ?_)
            · rw [hwo]; simp [mI, sI]
            · rw [hsh]; simp [mI, sI]; exact e44
            · rw [hwo]
          · refine g_aloadR_n dX7_runs_118 rfl rfl ?_
            refine g_iload_n dX7_runs_119 rfl rfl ?_
            refine n_putI dX7_runs_120 fX7_227 rfl hW1 vld_x20 rfl ?_
            refine g_iinc_3 (v := nI (j + 1)) dX7_runs_123 rfl (nI_inc j) ?_
            refine g_goto (tgt := 33) dX7_runs_126 (by decide) ?_
            have hj0 : j ≠ 0 := fun q => c78 (by rw [q]; rfl)
            rw [hfw hj0, nI_leI (by have := woF_le S j; omega) (by omega)] at c86
            have hwo : woF S (j + 1) = (nI j, tS S j) := if_pos (show tS S j < (woF S j).2 by omega)
            have c104 : shF S j = -1 := by first | exact c104 | exact Decidable.not_not.mp c104
            have hsh : shF S (j + 1) = nI j := by simp only [shF]; rw [if_pos ⟨c104, Int32.not_le.mp c115⟩]
            refine ih hjn _ _ ⟨(((((hf.tr (hf1.mono DP_DQ)).tr (frQ (by decide) (by decide))).tr (frQ (by decide) (by decide))).tr (frQ (by decide) (by decide))).tr (frQ (by decide) (by decide))), ((((hR1.q (by decide)).q (by decide)).q (by decide)).q (by decide)), hSv1.q.q.q.q, by simp [mI, sI, seatSum], by simp [mI, sI, turnSum], ?_, ?_⟩ (fun _ => ?_)
            · rw [hwo]; simp [mI, sI]
            · rw [hsh]; simp [mI, sI]
            · rw [hwo]
def RunO (M : Mem) (S : Sc) (n : Nat) : Prop := mI M (20, 0, 0) 40 = nI (cnt (presS (itS S n)) 11) ∧ mI M (20, 0, 0) 41 = nI (seatSum S n) ∧ mI M (20, 0, 0) 42 = nI (turnSum S n) ∧ mI M (20, 0, 0) 43 = (woF S n).1 ∧ mI M (20, 0, 0) 44 = shF S n ∧ mI M (20, 0, 0) 45 = nI (mk (fun i => (itS S n).2.2 i 8 == 1) S.1)
def RuT (M0 M : Mem) (S : Sc) (n j : Nat) : Prop := RuS M0 M S n ∧ mI M (20, 0, 0) 40 = nI (cnt (presS (itS S n)) 11) ∧ mI M (20, 0, 0) 45 = nI (mk (fun i => (itS S n).2.2 i 8 == 1) j)
theorem RuS.q {M0 M : Mem} {S : Sc} {n f : Nat} {x : Int32} (h : RuS M0 M S n) (hf : f = 40 ∨ f = 45) : RuS M0 (sI M (20, 0, 0) f x) S n := by
  obtain ⟨h1, h2, h3, h4, h5, h6, h7⟩ := h
  refine ⟨h1.tr (frQ (by omega) (by omega)), h2.q (by omega), h3.q, ?_, ?_, ?_, ?_⟩
  · rcases hf with rfl | rfl <;> simpa [mI, sI] using h4
  · rcases hf with rfl | rfl <;> simpa [mI, sI] using h5
  · rcases hf with rfl | rfl <;> simpa [mI, sI] using h6
  · rcases hf with rfl | rfl <;> simpa [mI, sI] using h7
set_option maxHeartbeats 4000000 in
set_option maxRecDepth 100000 in
theorem lp_X7_runs2 {E : Ev} {M0 : Mem} {Q : QT} (hW0 : Wi M0) {S : Sc} (hO : OkS S) {n : Nat} (h : ∀ M', FrI DQ M0 M' → RepR M' S → RunO M' S n → Q none M') {x2 : Int32} : ∀ j, j ≤ S.1 → ∀ (M : Mem), RuT M0 M S n j → G E (rm 4 0 0) kX7_runs (ZQ E Q 0 0) 0 0 144 [some (vR (20, 0, 0)), some (vI (nI n)), some (vI x2), some (vI (nI j))] [] M := by
  refine up_loop S.1 (fun j hj ih M hst => ?_)
  have hst2 := hst
  obtain ⟨⟨hf, hRn, hSv, h41, h42, h43, h44⟩, h40, h45⟩ := hst2
  have hW := hf.W hW0
  have hs10 := hO.1
  have hsz : mI M (20, 0, 0) 0 = nI S.1 := hRn.1.trans (by rw [itS_n])
  refine g_iload_n dX7_runs_144 rfl rfl ?_
  refine g_aloadR_n dX7_runs_145 rfl rfl ?_
  refine n_getI dX7_runs_146 fX7_102 rfl hW vld_x20 (Or.inl rfl) ?_
  refine g_icmp_ge (tgt := 180) dX7_runs_149 (by decide) (fun c149 => ?_) (fun c149 => ?_)
  · rw [hsz] at c149
    have hjn2 : j = S.1 := by rw [nI_leI (by omega) (by omega)] at c149; omega
    refine g_aloadR_n dX7_runs_180 rfl rfl ?_
    refine g_aloadR_n dX7_runs_181 rfl rfl ?_
    refine n_getR dX7_runs_182 fX7_93 rfl hW vld_x20 rfl rfl ?_
    refine g_iconst dX7_runs_185 (v := 1) (by decide) ?_
    refine n_v2v (n' := 1) dX7_runs_186 mX7_all lX7_189 rfl hW vld_x20 rfl rfl ⟨Nat.le_of_ble_eq_true rfl, Nat.le_of_ble_eq_true rfl⟩ ⟨Nat.zero_le _, Nat.zero_le _⟩ (Nat.le_of_ble_eq_true rfl) ?_
    refine wp_X7_all1 (b := 22) (by exact hW) (Or.inr (Or.inr rfl)) hSv hO (fun M1 hf1 hR1 => ?_)
    have hW1 := hf1.W (by exact hW)
    refine ⟨rfl, ?_⟩
    refine g_vret dX7_runs_189 rfl ?_
    subst hjn2
    have hk : ∀ f, 40 ≤ f → mI M1 (20, 0, 0) f = mI M (20, 0, 0) f := fun f hf => hf1.2 _ _ (fun q => by rcases q with q | q; (have := q.2; omega); cases q.1)
    exact h _ (hf.tr (hf1.mono (fun b f q => Or.inl (Or.inr q)))) hR1 ⟨(hk _ (by decide)).trans h40, (hk _ (by decide)).trans h41, (hk _ (by decide)).trans h42, (hk _ (by decide)).trans h43, (hk _ (by decide)).trans h44, (hk _ (by decide)).trans h45⟩
  · rw [hsz] at c149
    have hjn : j < S.1 := by rw [nI_leI (by omega) (by omega)] at c149; omega
    refine g_aloadR_n dX7_runs_152 rfl rfl ?_
    refine n_getR dX7_runs_153 fX7_53 rfl hW vld_x20 rfl rfl ?_
    refine g_iload_n dX7_runs_156 rfl rfl ?_
    refine n_iald (j := j) dX7_runs_157 rfl hW (vld_ma (by decide : 9 < 25)) (by decide) rfl (show j < 10 by omega) ?_
    rw [show mI M (21, 9, 0) j = (itS S n).2.2 j 8 from hRn.2.2 j 8 (by rw [itS_n]; exact hjn) (by decide)]
    refine g_iconst dX7_runs_158 (v := 1) (by decide) ?_
    refine g_icmp_ne (tgt := 174) dX7_runs_159 (by decide) (fun c159 => ?_) (fun c159 => ?_)
    · refine g_iinc_3 (v := nI (j + 1)) dX7_runs_174 rfl (nI_inc j) ?_
      refine g_goto (tgt := 144) dX7_runs_177 (by decide) ?_
      exact ih hjn M ⟨hst.1, h40, by rw [mk_n (by simpa using c159)]; exact h45⟩
    · refine g_aloadR_n dX7_runs_162 rfl rfl ?_
      refine g_dup dX7_runs_163 rfl ?_
      refine n_getI dX7_runs_164 fX7_239 rfl hW vld_x20 (Or.inl rfl) ?_
      rw [h45]
      refine g_iconst dX7_runs_167 (v := 1) (by decide) ?_
      refine g_iload_n dX7_runs_168 rfl rfl ?_
      refine g_ishl dX7_runs_169 ?_
      refine g_iadd dX7_runs_170 ?_
      rw [bt_sh (by omega), nI_add]
      refine n_putI dX7_runs_171 fX7_239 rfl hW vld_x20 rfl ?_
      refine g_iinc_3 (v := nI (j + 1)) dX7_runs_174 rfl (nI_inc j) ?_
      refine g_goto (tgt := 144) dX7_runs_177 (by decide) ?_
      have c159 : (itS S n).2.2 j 8 = 1 := by first | exact c159 | exact Decidable.not_not.mp c159
      exact ih hjn _ ⟨hst.1.q (Or.inr rfl), by simpa [mI, sI] using h40, by rw [mk_s (by simpa using c159)]; simp [mI, sI]⟩
set_option maxHeartbeats 4000000 in
set_option maxRecDepth 100000 in
theorem wp_X7_runs {E : Ev} {M : Mem} {Q : QT} (hW : Wi M) {S : Sc} (hR : RepR M S) (hO : OkS S) {n : Nat} (hn : n ≤ 24) (h : ∀ M', FrI DQ M M' → RepR M' S → RunO M' S n → Q none M') : Mth E 4 0 0 kX7_runs [vR (20, 0, 0), vI (nI n)] M Q := by
  refine mth_of (by decide +kernel) [some (vR (20, 0, 0)), some (vI (nI n)), none, none] (Nat.le_of_ble_eq_true rfl) rfl ?_
  refine g_iconst dX7_runs_0 (v := 0) (by decide) ?_
  refine g_istore_2 dX7_runs_1 rfl ?_
  refine g_aloadR_n dX7_runs_2 rfl rfl ?_
  refine g_aloadR_n dX7_runs_3 rfl rfl ?_
  refine n_getR dX7_runs_4 fX7_93 rfl hW vld_x20 rfl rfl ?_
  refine g_iconst dX7_runs_7 (v := 0) (by decide) ?_
  refine n_v2v (n' := 1) dX7_runs_8 mX7_all lX7_189 rfl hW vld_x20 rfl rfl ⟨Nat.le_of_ble_eq_true rfl, Nat.le_of_ble_eq_true rfl⟩ ⟨Nat.zero_le _, Nat.zero_le _⟩ (Nat.le_of_ble_eq_true rfl) ?_
  refine wp_X7_all0 (b := 22) (by exact hW) hR hO (Or.inr (Or.inr rfl)) (fun M1 hf1 hS1 => ?_)
  have hW1 := hf1.W (by exact hW)
  have hR1 := hR.fr hf1 (fun j _ q => by cases q) (fun i f hf9 q => by injection q with _ q; injection q with q _; omega)
  refine ⟨rfl, ?_⟩
  refine g_aloadR_n dX7_runs_11 rfl rfl ?_
  refine g_iconst dX7_runs_12 (v := 0) (by decide) ?_
  refine n_putI dX7_runs_13 fX7_218 rfl hW1 vld_x20 rfl ?_
  refine g_aloadR_n dX7_runs_16 rfl rfl ?_
  refine g_iconst dX7_runs_17 (v := 0) (by decide) ?_
  refine n_putI dX7_runs_18 fX7_221 rfl hW1 vld_x20 rfl ?_
  refine g_aloadR_n dX7_runs_21 rfl rfl ?_
  refine g_iconst dX7_runs_22 (v := (-1)) (by decide) ?_
  refine n_putI dX7_runs_23 fX7_224 rfl hW1 vld_x20 rfl ?_
  refine g_aloadR_n dX7_runs_26 rfl rfl ?_
  refine g_iconst dX7_runs_27 (v := (-1)) (by decide) ?_
  refine n_putI dX7_runs_28 fX7_227 rfl hW1 vld_x20 rfl ?_
  refine g_iconst dX7_runs_31 (v := 0) (by decide) ?_
  refine g_istore_3 dX7_runs_32 rfl ?_
  refine lp_X7_runs (M0 := M) hW hO hn (fun M2 fw hst => ?_) 0 (Nat.zero_le _) _ 0 ⟨(((((hf1.mono (fun b f q => by subst q; exact Or.inr (Or.inr ⟨rfl, rfl⟩))).tr (frQ (by decide) (by decide))).tr (frQ (by decide) (by decide))).tr (frQ (by decide) (by decide))).tr (frQ (by decide) (by decide))), ((((hR1.q (by decide)).q (by decide)).q (by decide)).q (by decide)), hS1.q.q.q.q, by simp [mI, sI, seatSum, nI_0], by simp [mI, sI, turnSum, nI_0], by simp [mI, sI, woF], by simp [mI, sI, shF]⟩ (fun q => absurd rfl q)
  have hW2 := hst.1.W hW
  refine g_aloadR_n dX7_runs_129 rfl rfl ?_
  refine g_aloadR_n dX7_runs_130 rfl rfl ?_
  refine n_v0i (n' := 0) dX7_runs_131 mX7_here lX7_233 rfl hW2 vld_x20 rfl rfl ⟨Nat.le_of_ble_eq_true rfl, Nat.le_of_ble_eq_true rfl⟩ ⟨Nat.zero_le _, Nat.zero_le _⟩ (Nat.le_of_ble_eq_true rfl) ?_
  refine wp_X7_here hW2 hst.2.1 (hO.it n) ?_
  refine ⟨_, rfl, ?_⟩
  rw [← cnt_11 (presS_lt (itS S n)) (by rw [itS_n]; exact hO.1)]
  refine n_putI dX7_runs_134 fX7_236 rfl hW2 vld_x20 rfl ?_
  refine g_aloadR_n dX7_runs_137 rfl rfl ?_
  refine g_iconst dX7_runs_138 (v := 0) (by decide) ?_
  refine n_putI dX7_runs_139 fX7_239 rfl (by exact hW2) vld_x20 rfl ?_
  refine g_iconst dX7_runs_142 (v := 0) (by decide) ?_
  refine g_istore_3 dX7_runs_143 rfl ?_
  exact lp_X7_runs2 hW hO h 0 (Nat.zero_le _) _ ⟨(hst.q (Or.inl rfl)).q (Or.inr rfl), by simp [mI, sI], by simp [mI, sI, mk, nI_0]⟩
