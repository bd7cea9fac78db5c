/-! THE REFERENCE: COPIES -/
def CyA (M M1 : Mem) (a : Nat) (j : Nat) : Prop := M1.1 = M.1 ∧ M1.2.2 = M.2.2 ∧ (∀ b, b ≠ (21, 15, 0) → mJ M1 b = mJ M b) ∧ ∀ i, i < j → mJ M1 (21, 15, 0) i = mJ M (21, 14, 0) (a + i)
def CyB (M M1 : Mem) (a c n : Nat) (j : Nat) : Prop := M1.1 = M.1 ∧ M1.2.2 = M.2.2 ∧ (∀ b, b ≠ (21, 15, 0) → b ≠ (21, 14, 0) → mJ M1 b = mJ M b) ∧ (∀ i, i < n → mJ M1 (21, 15, 0) i = mJ M (21, 14, 0) (a + i)) ∧ ∀ k, mJ M1 (21, 14, 0) k = if c ≤ k ∧ k < c + j then mJ M (21, 14, 0) (a + (k - c)) else mJ M (21, 14, 0) k
theorem ix160b {s i k : Nat} : (160 : Int32) * nI s + nI i + nI k = nI (160 * s + i + k) := by
  rw [ix160, nI_add]
set_option maxHeartbeats 4000000 in
set_option maxRecDepth 100000 in
theorem lp_X7_copyB {E : Ev} {M : Mem} {Q : QT} (hW : Wi M) {p q i j n : Nat} (hp : p < 8) (hq : q < 8) (hi : i + n ≤ 160) (hj : j + n ≤ 160) (h : ∀ M', CyB M M' (160 * p + i) (160 * q + j) n n → Q (some (vI 1)) M') : ∀ t, t ≤ n → ∀ (M1 : Mem), CyB M M1 (160 * p + i) (160 * q + j) n t → G E (rm 1 0 0) kX7_copy (ZQ E Q 0 0) 0 0 205 [some (vR (20, 0, 0)), some (vI (nI p)), some (vI (nI q)), some (vI (nI i)), some (vI (nI j)), some (vI (nI n)), some (vI (nI t))] [] M1 := by
  refine up_loop n (fun t ht ih M1 hst => ?_)
  have hst2 := hst
  obtain ⟨r1, r2, r3, r4, r5⟩ := hst2
  have hW1 : Wi M1 := by unfold Wi; rw [r2]; exact hW
  refine g_iload dX7_copy_205 rfl ?_
  refine g_iload dX7_copy_207 rfl ?_
  refine g_icmp_ge (tgt := 241) dX7_copy_209 (by decide) (fun c209 => ?_) (fun c209 => ?_)
  · have hjn2 : t = n := by rw [nI_leI (by omega) (by omega)] at c209; omega
    refine g_iconst dX7_copy_241 (v := 1) (by decide) ?_
    refine g_iret dX7_copy_242 rfl ?_
    subst hjn2
    exact h M1 hst
  · have hjn : t < n := by rw [nI_leI (by omega) (by omega)] at c209; omega
    refine g_aloadR_n dX7_copy_212 rfl rfl ?_
    refine n_getR dX7_copy_213 fX7_68 rfl hW1 vld_x20 rfl rfl ?_
    refine g_sipush dX7_copy_216 (v := 160) (by decide) ?_
    refine g_iload_n dX7_copy_219 rfl rfl ?_
    refine g_imul dX7_copy_220 ?_
    refine g_iload dX7_copy_221 rfl ?_
    refine g_iadd dX7_copy_223 ?_
    refine g_iload dX7_copy_224 rfl ?_
    refine g_iadd dX7_copy_226 ?_
    refine g_aloadR_n dX7_copy_227 rfl rfl ?_
    refine n_getR dX7_copy_228 fX7_72 rfl hW1 vld_x20 rfl rfl ?_
    refine g_iload dX7_copy_231 rfl ?_
    refine n_lald (j := t) dX7_copy_233 rfl hW1 (vld_ma (by decide : 15 < 25)) (by decide) rfl (show t < 160 by omega) ?_
    rw [r4 t hjn]
    refine n_last (j := 160 * q + j + t) dX7_copy_234 rfl hW1 (vld_ma (by decide : 14 < 25)) (by decide) ix160b (show 160 * q + j + t < 1280 by omega) ?_
    refine g_iinc_6 (v := nI (t + 1)) dX7_copy_235 rfl (nI_inc t) ?_
    refine g_goto (tgt := 205) dX7_copy_238 (by decide) ?_
    refine ih hjn _ ⟨r1, r2, fun b b1 b2 => (by funext k; simp only [mJ, sJ]; rw [if_neg (fun z => b2 z.1)]; exact congrFun (r3 b b1 b2) k), fun k hk => ?_, fun k => ?_⟩
    · simp only [mJ, sJ]; rw [if_neg (fun z => by cases z.1)]; exact r4 k hk
    · simp only [mJ, sJ]
      by_cases z : k = 160 * q + j + t
      · subst z
        rw [if_pos ⟨trivial, rfl⟩, if_pos ⟨by omega, by omega⟩, show 160 * p + i + (160 * q + j + t - (160 * q + j)) = 160 * p + i + t by omega]
      · rw [if_neg (fun y => z y.2)]
        have := r5 k
        simp only [mJ] at this
        rw [this]
        by_cases y : 160 * q + j ≤ k ∧ k < 160 * q + j + t
        · rw [if_pos y, if_pos ⟨y.1, by omega⟩]
        · rw [if_neg y, if_neg (fun w => y ⟨w.1, by omega⟩)]
set_option maxHeartbeats 4000000 in
set_option maxRecDepth 100000 in
theorem lp_X7_copyA {E : Ev} {M : Mem} {Q : QT} (hW : Wi M) {p q i j n : Nat} (hp : p < 8) (hq : q < 8) (hi : i + n ≤ 160) (hj : j + n ≤ 160) (h : ∀ M', CyB M M' (160 * p + i) (160 * q + j) n n → Q (some (vI 1)) M') : ∀ t, t ≤ n → ∀ (M1 : Mem), CyA M M1 (160 * p + i) t → G E (rm 1 0 0) kX7_copy (ZQ E Q 0 0) 0 0 167 [some (vR (20, 0, 0)), some (vI (nI p)), some (vI (nI q)), some (vI (nI i)), some (vI (nI j)), some (vI (nI n)), some (vI (nI t))] [] M1 := by
  refine up_loop n (fun t ht ih M1 hst => ?_)
  have hst2 := hst
  obtain ⟨r1, r2, r3, r4⟩ := hst2
  have hW1 : Wi M1 := by unfold Wi; rw [r2]; exact hW
  refine g_iload dX7_copy_167 rfl ?_
  refine g_iload dX7_copy_169 rfl ?_
  refine g_icmp_ge (tgt := 202) dX7_copy_171 (by decide) (fun c171 => ?_) (fun c171 => ?_)
  · have hjn2 : t = n := by rw [nI_leI (by omega) (by omega)] at c171; omega
    refine g_iconst dX7_copy_202 (v := 0) (by decide) ?_
    refine g_istore_6 dX7_copy_203 rfl ?_
    subst hjn2
    exact lp_X7_copyB hW hp hq hi hj h 0 (Nat.zero_le _) M1 ⟨r1, r2, fun b b1 _ => r3 b b1, r4, fun k => by rw [if_neg (fun y => by omega)]; exact congrFun (r3 _ (by intro z; cases z)) k⟩
  · have hjn : t < n := by rw [nI_leI (by omega) (by omega)] at c171; omega
    refine g_aloadR_n dX7_copy_174 rfl rfl ?_
    refine n_getR dX7_copy_175 fX7_72 rfl hW1 vld_x20 rfl rfl ?_
    refine g_iload dX7_copy_178 rfl ?_
    refine g_aloadR_n dX7_copy_180 rfl rfl ?_
    refine n_getR dX7_copy_181 fX7_68 rfl hW1 vld_x20 rfl rfl ?_
    refine g_sipush dX7_copy_184 (v := 160) (by decide) ?_
    refine g_iload_n dX7_copy_187 rfl rfl ?_
    refine g_imul dX7_copy_188 ?_
    refine g_iload_n dX7_copy_189 rfl rfl ?_
    refine g_iadd dX7_copy_190 ?_
    refine g_iload dX7_copy_191 rfl ?_
    refine g_iadd dX7_copy_193 ?_
    refine n_lald (j := 160 * p + i + t) dX7_copy_194 rfl hW1 (vld_ma (by decide : 14 < 25)) (by decide) ix160b (show 160 * p + i + t < 1280 by omega) ?_
    rw [r3 _ (by intro z; cases z)]
    refine n_last (j := t) dX7_copy_195 rfl hW1 (vld_ma (by decide : 15 < 25)) (by decide) rfl (show t < 160 by omega) ?_
    refine g_iinc_6 (v := nI (t + 1)) dX7_copy_196 rfl (nI_inc t) ?_
    refine g_goto (tgt := 167) dX7_copy_199 (by decide) ?_
    refine ih hjn _ ⟨r1, r2, fun b b1 => (by funext k; simp only [mJ, sJ]; rw [if_neg (fun z => b1 z.1)]; exact congrFun (r3 b b1) k), fun k hk => ?_⟩
    simp only [mJ, sJ]
    by_cases z : k = t
    · subst z; rw [if_pos ⟨trivial, rfl⟩]
    · rw [if_neg (fun y => z y.2)]; exact r4 k (by omega)
set_option maxHeartbeats 4000000 in
set_option maxRecDepth 100000 in
theorem lp_X7_copyN {E : Ev} {M : Mem} {Q : QT} (hW : Wi M) {X : Sys} (hX : RepMo M X) (hO : OkX X) {p q i j n : Int32} (c5 : IN p 8) (c13 : IN q 8) (np2 : ¬ (xH X p.toNatClampNeg).1 = 2) (nq2 : ¬ (xH X q.toNatClampNeg).1 = 2) (h : ∀ M', FrM M M' → RepMo M' (opCopy X p q i j n).2 → Q (some (vI (opCopy X p q i j n).1)) M') (hb : ¬ ((xH X p.toNatClampNeg).1 = 1 ∧ (xH X q.toNatClampNeg).1 = 1)) : G E (rm 1 0 0) kX7_copy (ZQ E Q 0 0) 0 0 84 [some (vR (20, 0, 0)), some (vI p), some (vI q), some (vI i), some (vI j), some (vI n), none] [] M := by
  obtain ⟨hp1, hp2⟩ := IN_nI c5
  have hsfp := hX.2.2.1 _ hp2
  have h3p := hO.sf hp2
  have hsvp := shV_in (X := X) c5
  have hosp := hO.2.2.1 _ hp2
  have hhp := hsfp.h0 h3p
  obtain ⟨hq1, hq2⟩ := IN_nI c13
  have hsfq := hX.2.2.1 _ hq2
  have h3q := hO.sf hq2
  have hsvq := shV_in (X := X) c13
  have hosq := hO.2.2.1 _ hq2
  have hhq := hsfq.h0 h3q
  refine g_aloadR_n dX7_copy_84 rfl rfl ?_
  refine n_getR dX7_copy_85 fX7_56 rfl hW vld_x20 rfl rfl ?_
  refine g_iload_n dX7_copy_88 rfl rfl ?_
  refine n_iald (j := p.toNatClampNeg) dX7_copy_89 rfl hW (vld_ma (by decide : 10 < 25)) (by decide) hp1 hp2 ?_
  refine g_if_eq (tgt := 102) dX7_copy_90 (by decide) (fun c90 => ?_) (fun c90 => ?_)
  · have zp := hhp.1.mp c90
    refine g_aloadR_n dX7_copy_102 rfl rfl ?_
    refine g_bipush dX7_copy_103 (v := (-3)) (by decide) ?_
    refine n_v1i (n' := 0) dX7_copy_105 mX7_no lX7_109 rfl hW vld_x20 rfl rfl ⟨Nat.le_of_ble_eq_true rfl, Nat.le_of_ble_eq_true rfl⟩ ⟨Nat.zero_le _, Nat.zero_le _⟩ (Nat.le_of_ble_eq_true rfl) ?_
    refine wp_X7_no (j := 3) (by exact hW) (by decide) (by decide) ?_
    refine ⟨_, rfl, ?_⟩
    refine g_iret dX7_copy_108 rfl ?_
    have e : opCopy X p q i j n = rfX X 3 := by
      unfold opCopy
      rw [if_neg (not_not_intro c5), if_neg (not_not_intro c13), hsvp, hsvq, if_neg np2, if_neg nq2, if_neg hb]
    rw [e] at h
    exact h _ (frM_sI (by decide)) (repMo_rfm hX (by decide) (by decide))
  · have zp : ¬ (xH X p.toNatClampNeg).1 = 0 := fun z => c90 (hhp.1.mpr z)
    refine g_aloadR_n dX7_copy_93 rfl rfl ?_
    refine n_getR dX7_copy_94 fX7_56 rfl hW vld_x20 rfl rfl ?_
    refine g_iload_n dX7_copy_97 rfl rfl ?_
    refine n_iald (j := q.toNatClampNeg) dX7_copy_98 rfl hW (vld_ma (by decide : 10 < 25)) (by decide) hq1 hq2 ?_
    refine g_if_ne (tgt := 109) dX7_copy_99 (by decide) (fun c99 => ?_) (fun c99 => ?_)
    · have zq : ¬ (xH X q.toNatClampNeg).1 = 0 := fun z => c99 (hhq.1.mpr z)
      exact absurd ⟨by omega, by omega⟩ hb
    · refine g_aloadR_n dX7_copy_102 rfl rfl ?_
      refine g_bipush dX7_copy_103 (v := (-3)) (by decide) ?_
      refine n_v1i (n' := 0) dX7_copy_105 mX7_no lX7_109 rfl hW vld_x20 rfl rfl ⟨Nat.le_of_ble_eq_true rfl, Nat.le_of_ble_eq_true rfl⟩ ⟨Nat.zero_le _, Nat.zero_le _⟩ (Nat.le_of_ble_eq_true rfl) ?_
      refine wp_X7_no (j := 3) (by exact hW) (by decide) (by decide) ?_
      refine ⟨_, rfl, ?_⟩
      refine g_iret dX7_copy_108 rfl ?_
      have e : opCopy X p q i j n = rfX X 3 := by
        unfold opCopy
        rw [if_neg (not_not_intro c5), if_neg (not_not_intro c13), hsvp, hsvq, if_neg np2, if_neg nq2, if_neg hb]
      rw [e] at h
      exact h _ (frM_sI (by decide)) (repMo_rfm hX (by decide) (by decide))
set_option maxHeartbeats 4000000 in
set_option maxRecDepth 100000 in
theorem lp_X7_copyR {E : Ev} {M : Mem} {Q : QT} (hW : Wi M) {X : Sys} (hX : RepMo M X) (hO : OkX X) {p q i j n : Int32} (c5 : IN p 8) (c13 : IN q 8) (np2 : ¬ (xH X p.toNatClampNeg).1 = 2) (nq2 : ¬ (xH X q.toNatClampNeg).1 = 2) (h : ∀ M', FrM M M' → RepMo M' (opCopy X p q i j n).2 → Q (some (vI (opCopy X p q i j n).1)) M') (p1 : (xH X p.toNatClampNeg).1 = 1) (q1 : (xH X q.toNatClampNeg).1 = 1) (hso : (xH X p.toNatClampNeg).2.1 = (xH X q.toNatClampNeg).2.1) : G E (rm 1 0 0) kX7_copy (ZQ E Q 0 0) 0 0 84 [some (vR (20, 0, 0)), some (vI p), some (vI q), some (vI i), some (vI j), some (vI n), none] [] M := by
  obtain ⟨hp1, hp2⟩ := IN_nI c5
  have hsfp := hX.2.2.1 _ hp2
  have h3p := hO.sf hp2
  have hsvp := shV_in (X := X) c5
  have hosp := hO.2.2.1 _ hp2
  have hhp := hsfp.h0 h3p
  obtain ⟨hq1, hq2⟩ := IN_nI c13
  have hsfq := hX.2.2.1 _ hq2
  have h3q := hO.sf hq2
  have hsvq := shV_in (X := X) c13
  have hosq := hO.2.2.1 _ hq2
  have hhq := hsfq.h0 h3q
  have lp : lenF (xH X p.toNatClampNeg) = (xH X p.toNatClampNeg).2.2.2.1 := lenF_1 p1
  have lq : lenF (xH X q.toNatClampNeg) = (xH X q.toNatClampNeg).2.2.2.1 := lenF_1 q1
  have lp160 := (hosp.2.1 p1).2
  have lq160 := (hosq.2.1 q1).2
  have e12p := (hsfp.2.1 p1).2.1
  have e12q := (hsfq.2.1 q1).2.1
  refine g_aloadR_n dX7_copy_84 rfl rfl ?_
  refine n_getR dX7_copy_85 fX7_56 rfl hW vld_x20 rfl rfl ?_
  refine g_iload_n dX7_copy_88 rfl rfl ?_
  refine n_iald (j := p.toNatClampNeg) dX7_copy_89 rfl hW (vld_ma (by decide : 10 < 25)) (by decide) hp1 hp2 ?_
  refine g_if_eq (tgt := 102) dX7_copy_90 (by decide) (fun c90 => ?_) (fun c90 => ?_)
  · exact absurd (hhp.1.mp c90) (by omega)
  · refine g_aloadR_n dX7_copy_93 rfl rfl ?_
    refine n_getR dX7_copy_94 fX7_56 rfl hW vld_x20 rfl rfl ?_
    refine g_iload_n dX7_copy_97 rfl rfl ?_
    refine n_iald (j := q.toNatClampNeg) dX7_copy_98 rfl hW (vld_ma (by decide : 10 < 25)) (by decide) hq1 hq2 ?_
    refine g_if_ne (tgt := 109) dX7_copy_99 (by decide) (fun c99 => ?_) (fun c99 => ?_)
    · refine g_iload dX7_copy_109 rfl ?_
      refine g_if_ge (tgt := 121) dX7_copy_111 (by decide) (fun c111 => ?_) (fun c111 => ?_)
      · have hn0 : 0 ≤ n.toInt := by have z := c111; rw [Int32.le_iff_toInt_le] at z; simp only [zcs] at z; omega
        refine g_iload_n dX7_copy_121 rfl rfl ?_
        refine g_if_lt (tgt := 157) dX7_copy_122 (by decide) (fun c122 => ?_) (fun c122 => ?_)
        · refine g_aloadR_n dX7_copy_157 rfl rfl ?_
          refine g_bipush dX7_copy_158 (v := (-5)) (by decide) ?_
          refine n_v1i (n' := 0) dX7_copy_160 mX7_no lX7_109 rfl hW vld_x20 rfl rfl ⟨Nat.le_of_ble_eq_true rfl, Nat.le_of_ble_eq_true rfl⟩ ⟨Nat.zero_le _, Nat.zero_le _⟩ (Nat.le_of_ble_eq_true rfl) ?_
          refine wp_X7_no (j := 5) (by exact hW) (by decide) (by decide) ?_
          refine ⟨_, rfl, ?_⟩
          refine g_iret dX7_copy_163 rfl ?_
          have e : opCopy X p q i j n = rfX X 5 := by
            unfold opCopy
            rw [if_neg (not_not_intro c5), if_neg (not_not_intro c13), hsvp, hsvq, if_neg np2, if_neg nq2, if_pos ⟨p1, q1⟩, if_neg (not_not_intro hso), if_neg (not_not_intro c111), lp, lq]
            by_cases z1 : 0 ≤ i.toInt ∧ 0 ≤ n.toInt ∧ i.toInt + n.toInt ≤ ((xH X p.toNatClampNeg).2.2.2.1 : Int)
            · rw [if_neg (not_not_intro z1), if_pos (fun z2 => ?_)]
              first
                | (rw [Int32.lt_iff_toInt_lt] at c122; simp only [zcs] at c122; omega)
                | (rw [Int32.lt_iff_toInt_lt] at c127; simp only [zcs] at c127; omega)
                | omega
            · rw [if_pos z1]
          rw [e] at h
          exact h _ (frM_sI (by decide)) (repMo_rfm hX (by decide) (by decide))
        · refine g_iload dX7_copy_125 rfl ?_
          refine g_if_lt (tgt := 157) dX7_copy_127 (by decide) (fun c127 => ?_) (fun c127 => ?_)
          · refine g_aloadR_n dX7_copy_157 rfl rfl ?_
            refine g_bipush dX7_copy_158 (v := (-5)) (by decide) ?_
            refine n_v1i (n' := 0) dX7_copy_160 mX7_no lX7_109 rfl hW vld_x20 rfl rfl ⟨Nat.le_of_ble_eq_true rfl, Nat.le_of_ble_eq_true rfl⟩ ⟨Nat.zero_le _, Nat.zero_le _⟩ (Nat.le_of_ble_eq_true rfl) ?_
            refine wp_X7_no (j := 5) (by exact hW) (by decide) (by decide) ?_
            refine ⟨_, rfl, ?_⟩
            refine g_iret dX7_copy_163 rfl ?_
            have e : opCopy X p q i j n = rfX X 5 := by
              unfold opCopy
              rw [if_neg (not_not_intro c5), if_neg (not_not_intro c13), hsvp, hsvq, if_neg np2, if_neg nq2, if_pos ⟨p1, q1⟩, if_neg (not_not_intro hso), if_neg (not_not_intro c111), lp, lq]
              by_cases z1 : 0 ≤ i.toInt ∧ 0 ≤ n.toInt ∧ i.toInt + n.toInt ≤ ((xH X p.toNatClampNeg).2.2.2.1 : Int)
              · rw [if_neg (not_not_intro z1), if_pos (fun z2 => ?_)]
                first
                  | (rw [Int32.lt_iff_toInt_lt] at c122; simp only [zcs] at c122; omega)
                  | (rw [Int32.lt_iff_toInt_lt] at c127; simp only [zcs] at c127; omega)
                  | omega
              · rw [if_pos z1]
            rw [e] at h
            exact h _ (frM_sI (by decide)) (repMo_rfm hX (by decide) (by decide))
          · refine g_iload_n dX7_copy_130 rfl rfl ?_
            refine g_aloadR_n dX7_copy_131 rfl rfl ?_
            refine n_getR dX7_copy_132 fX7_62 rfl hW vld_x20 rfl rfl ?_
            refine g_iload_n dX7_copy_135 rfl rfl ?_
            refine n_iald (j := p.toNatClampNeg) dX7_copy_136 rfl hW (vld_ma (by decide : 12 < 25)) (by decide) hp1 hp2 ?_
            rw [e12p]
            refine g_iload dX7_copy_137 rfl ?_
            refine g_isub dX7_copy_139 ?_
            refine g_icmp_gt (tgt := 157) dX7_copy_140 (by decide) (fun c140 => ?_) (fun c140 => ?_)
            · have e140 : (nI (xH X p.toNatClampNeg).2.2.2.1 - n).toInt = ((xH X p.toNatClampNeg).2.2.2.1 : Int) - n.toInt := by
                have z := nI_toInt (n := (xH X p.toNatClampNeg).2.2.2.1) (by omega)
                have zn := Int32.toInt_lt n
                rw [i_sub (by omega) (by omega), z]
              rw [Int32.lt_iff_toInt_lt, e140] at c140
              refine g_aloadR_n dX7_copy_157 rfl rfl ?_
              refine g_bipush dX7_copy_158 (v := (-5)) (by decide) ?_
              refine n_v1i (n' := 0) dX7_copy_160 mX7_no lX7_109 rfl hW vld_x20 rfl rfl ⟨Nat.le_of_ble_eq_true rfl, Nat.le_of_ble_eq_true rfl⟩ ⟨Nat.zero_le _, Nat.zero_le _⟩ (Nat.le_of_ble_eq_true rfl) ?_
              refine wp_X7_no (j := 5) (by exact hW) (by decide) (by decide) ?_
              refine ⟨_, rfl, ?_⟩
              refine g_iret dX7_copy_163 rfl ?_
              have e : opCopy X p q i j n = rfX X 5 := by
                unfold opCopy
                rw [if_neg (not_not_intro c5), if_neg (not_not_intro c13), hsvp, hsvq, if_neg np2, if_neg nq2, if_pos ⟨p1, q1⟩, if_neg (not_not_intro hso), if_neg (not_not_intro c111), lp, lq]
                by_cases z1 : 0 ≤ i.toInt ∧ 0 ≤ n.toInt ∧ i.toInt + n.toInt ≤ ((xH X p.toNatClampNeg).2.2.2.1 : Int)
                · rw [if_neg (not_not_intro z1), if_pos (fun z2 => ?_)]
                  first
                    | (rw [Int32.lt_iff_toInt_lt] at c122; simp only [zcs] at c122; omega)
                    | (rw [Int32.lt_iff_toInt_lt] at c127; simp only [zcs] at c127; omega)
                    | omega
                · rw [if_pos z1]
              rw [e] at h
              exact h _ (frM_sI (by decide)) (repMo_rfm hX (by decide) (by decide))
            · have e140 : (nI (xH X p.toNatClampNeg).2.2.2.1 - n).toInt = ((xH X p.toNatClampNeg).2.2.2.1 : Int) - n.toInt := by
                have z := nI_toInt (n := (xH X p.toNatClampNeg).2.2.2.1) (by omega)
                have zn := Int32.toInt_lt n
                rw [i_sub (by omega) (by omega), z]
              rw [Int32.lt_iff_toInt_lt, e140] at c140
              refine g_iload dX7_copy_143 rfl ?_
              refine g_aloadR_n dX7_copy_145 rfl rfl ?_
              refine n_getR dX7_copy_146 fX7_62 rfl hW vld_x20 rfl rfl ?_
              refine g_iload_n dX7_copy_149 rfl rfl ?_
              refine n_iald (j := q.toNatClampNeg) dX7_copy_150 rfl hW (vld_ma (by decide : 12 < 25)) (by decide) hq1 hq2 ?_
              rw [e12q]
              refine g_iload dX7_copy_151 rfl ?_
              refine g_isub dX7_copy_153 ?_
              refine g_icmp_le (tgt := 164) dX7_copy_154 (by decide) (fun c154 => ?_) (fun c154 => ?_)
              · have e154 : (nI (xH X q.toNatClampNeg).2.2.2.1 - n).toInt = ((xH X q.toNatClampNeg).2.2.2.1 : Int) - n.toInt := by
                  have z := nI_toInt (n := (xH X q.toNatClampNeg).2.2.2.1) (by omega)
                  have zn := Int32.toInt_lt n
                  rw [i_sub (by omega) (by omega), z]
                rw [Int32.le_iff_toInt_le, e154] at c154
                refine g_iconst dX7_copy_164 (v := 0) (by decide) ?_
                refine g_istore_6 dX7_copy_165 rfl ?_
                have hi0 : 0 ≤ i.toInt := by rw [Int32.lt_iff_toInt_lt] at c122; simp only [zcs] at c122; omega
                have hj0 : 0 ≤ j.toInt := by rw [Int32.lt_iff_toInt_lt] at c127; simp only [zcs] at c127; omega
                have hz1 : 0 ≤ i.toInt ∧ 0 ≤ n.toInt ∧ i.toInt + n.toInt ≤ ((xH X p.toNatClampNeg).2.2.2.1 : Int) := ⟨hi0, hn0, by omega⟩
                have hz2 : 0 ≤ j.toInt ∧ 0 ≤ n.toInt ∧ j.toInt + n.toInt ≤ ((xH X q.toNatClampNeg).2.2.2.1 : Int) := ⟨hj0, hn0, by omega⟩
                have e : opCopy X p q i j n = (1, setH X q.toNatClampNeg (cpyS (xH X p.toNatClampNeg) (xH X q.toNatClampNeg) i.toNatClampNeg j.toNatClampNeg n.toNatClampNeg)) := by
                  unfold opCopy
                  rw [if_neg (not_not_intro c5), if_neg (not_not_intro c13), hsvp, hsvq, if_neg np2, if_neg nq2, if_pos ⟨p1, q1⟩, if_neg (not_not_intro hso), if_neg (not_not_intro c111), lp, lq, if_neg (not_not_intro hz1), if_neg (not_not_intro hz2)]
                rw [e] at h
                have ii : i.toInt = (i.toNatClampNeg : Int) := by show _ = ((i.toInt.toNat : Nat) : Int); omega
                have jj : j.toInt = (j.toNatClampNeg : Int) := by show _ = ((j.toInt.toNat : Nat) : Int); omega
                have nn : n.toInt = (n.toNatClampNeg : Int) := by show _ = ((n.toInt.toNat : Nat) : Int); omega
                have hi1 : i = nI i.toNatClampNeg := clamp_eq c122
                have hj1 : j = nI j.toNatClampNeg := clamp_eq c127
                have hn1 : n = nI n.toNatClampNeg := clamp_eq (fun z => by rw [Int32.lt_iff_toInt_lt] at z; simp only [zcs] at z; omega)
                have key := lp_X7_copyA (E := E) (Q := Q) (M := M) hW (p := p.toNatClampNeg) (q := q.toNatClampNeg) (i := i.toNatClampNeg) (j := j.toNatClampNeg) (n := n.toNatClampNeg) hp2 hq2 (by omega) (by omega) (fun M' hst => ?_) 0 (Nat.zero_le _) M ⟨rfl, rfl, fun b _ => rfl, fun k hk => absurd hk (by omega)⟩
                · rw [← hp1, ← hq1, ← hi1, ← hj1, ← hn1] at key
                  exact key
                · obtain ⟨r1, r2, r3, r4, r5⟩ := hst
                  have hI : ∀ b, mI M' b = mI M b := fun b => congrFun r1 b
                  refine h M' ⟨r2, fun b hb => ⟨hI b, r3 b (fun z => by subst z; exact absurd hb (by decide)) (fun z => by subst z; exact absurd hb (by decide))⟩⟩ (hX.shelf (fun b k _ => by rw [hI]) (fun k hk => ?_) ⟨?_, fun _ => ⟨?_, ?_, fun k hk => ?_⟩, fun z => by cases z⟩)
                  · rw [r5, if_neg (fun z => by omega)]
                  · rw [hI, hsfq.1, q1]; rfl
                  · rw [hI]; exact (hsfq.2.1 q1).1
                  · rw [hI]; exact (hsfq.2.1 q1).2.1
                  · rw [r5]
                    show _ = va_cpy _ _ _ _ _ k
                    unfold va_cpy
                    by_cases z : j.toNatClampNeg ≤ k ∧ k < j.toNatClampNeg + n.toNatClampNeg
                    · rw [if_pos ⟨by omega, by omega⟩, if_pos z, show 160 * p.toNatClampNeg + i.toNatClampNeg + (160 * q.toNatClampNeg + k - (160 * q.toNatClampNeg + j.toNatClampNeg)) = 160 * p.toNatClampNeg + (i.toNatClampNeg + (k - j.toNatClampNeg)) by omega]
                      exact (hsfp.2.1 p1).2.2 _ (by omega)
                    · rw [if_neg (fun y => z ⟨by omega, by omega⟩), if_neg z]
                      exact (hsfq.2.1 q1).2.2 k hk
              · have e154 : (nI (xH X q.toNatClampNeg).2.2.2.1 - n).toInt = ((xH X q.toNatClampNeg).2.2.2.1 : Int) - n.toInt := by
                  have z := nI_toInt (n := (xH X q.toNatClampNeg).2.2.2.1) (by omega)
                  have zn := Int32.toInt_lt n
                  rw [i_sub (by omega) (by omega), z]
                rw [Int32.le_iff_toInt_le, e154] at c154
                refine g_aloadR_n dX7_copy_157 rfl rfl ?_
                refine g_bipush dX7_copy_158 (v := (-5)) (by decide) ?_
                refine n_v1i (n' := 0) dX7_copy_160 mX7_no lX7_109 rfl hW vld_x20 rfl rfl ⟨Nat.le_of_ble_eq_true rfl, Nat.le_of_ble_eq_true rfl⟩ ⟨Nat.zero_le _, Nat.zero_le _⟩ (Nat.le_of_ble_eq_true rfl) ?_
                refine wp_X7_no (j := 5) (by exact hW) (by decide) (by decide) ?_
                refine ⟨_, rfl, ?_⟩
                refine g_iret dX7_copy_163 rfl ?_
                have e : opCopy X p q i j n = rfX X 5 := by
                  unfold opCopy
                  rw [if_neg (not_not_intro c5), if_neg (not_not_intro c13), hsvp, hsvq, if_neg np2, if_neg nq2, if_pos ⟨p1, q1⟩, if_neg (not_not_intro hso), if_neg (not_not_intro c111), lp, lq]
                  by_cases z1 : 0 ≤ i.toInt ∧ 0 ≤ n.toInt ∧ i.toInt + n.toInt ≤ ((xH X p.toNatClampNeg).2.2.2.1 : Int)
                  · rw [if_neg (not_not_intro z1), if_pos (fun z2 => ?_)]
                    first
                      | (rw [Int32.lt_iff_toInt_lt] at c122; simp only [zcs] at c122; omega)
                      | (rw [Int32.lt_iff_toInt_lt] at c127; simp only [zcs] at c127; omega)
                      | omega
                  · rw [if_pos z1]
                rw [e] at h
                exact h _ (frM_sI (by decide)) (repMo_rfm hX (by decide) (by decide))
      · refine g_aloadR_n dX7_copy_114 rfl rfl ?_
        refine g_bipush dX7_copy_115 (v := (-4)) (by decide) ?_
        refine n_v1i (n' := 0) dX7_copy_117 mX7_no lX7_109 rfl hW vld_x20 rfl rfl ⟨Nat.le_of_ble_eq_true rfl, Nat.le_of_ble_eq_true rfl⟩ ⟨Nat.zero_le _, Nat.zero_le _⟩ (Nat.le_of_ble_eq_true rfl) ?_
        refine wp_X7_no (j := 4) (by exact hW) (by decide) (by decide) ?_
        refine ⟨_, rfl, ?_⟩
        refine g_iret dX7_copy_120 rfl ?_
        have e : opCopy X p q i j n = rfX X 4 := by
          unfold opCopy
          rw [if_neg (not_not_intro c5), if_neg (not_not_intro c13), hsvp, hsvq, if_neg np2, if_neg nq2, if_pos ⟨p1, q1⟩, if_neg (not_not_intro hso), if_pos (fun z => c111 z)]
        rw [e] at h
        exact h _ (frM_sI (by decide)) (repMo_rfm hX (by decide) (by decide))
    · exact absurd (hhq.1.mp (by first | exact c99 | exact Decidable.not_not.mp c99)) (by omega)
set_option maxHeartbeats 4000000 in
set_option maxRecDepth 100000 in
theorem wp_X7_copy {E : Ev} {M : Mem} {Q : QT} (hW : Wi M) {X : Sys} (hX : RepMo M X) (hO : OkX X) {p q i j n : Int32} (h : ∀ M', FrM M M' → RepMo M' (opCopy X p q i j n).2 → Q (some (vI (opCopy X p q i j n).1)) M') : Mth E 1 0 0 kX7_copy [vR (20, 0, 0), vI p, vI q, vI i, vI j, vI n] M Q := by
  refine mth_of (by decide +kernel) [some (vR (20, 0, 0)), some (vI p), some (vI q), some (vI i), some (vI j), some (vI n), none] (Nat.le_of_ble_eq_true rfl) rfl ?_
  refine g_aloadR_n dX7_copy_0 rfl rfl ?_
  refine g_iload_n dX7_copy_1 rfl rfl ?_
  refine n_v1i (n' := 0) dX7_copy_2 mX7_isShelf lX7_105 rfl hW vld_x20 rfl rfl ⟨Nat.le_of_ble_eq_true rfl, Nat.le_of_ble_eq_true rfl⟩ ⟨Nat.zero_le _, Nat.zero_le _⟩ (Nat.le_of_ble_eq_true rfl) ?_
  refine wp_X7_isShelf ?_
  refine ⟨_, rfl, ?_⟩
  refine g_if_eq (tgt := 16) dX7_copy_5 (by decide) (fun c5 => ?_) (fun c5 => ?_)
  · simp only [b2_0, Decidable.not_not] at c5
    refine g_aloadR_n dX7_copy_16 rfl rfl ?_
    refine g_iconst dX7_copy_17 (v := (-1)) (by decide) ?_
    refine n_v1i (n' := 0) dX7_copy_18 mX7_no lX7_109 rfl hW vld_x20 rfl rfl ⟨Nat.le_of_ble_eq_true rfl, Nat.le_of_ble_eq_true rfl⟩ ⟨Nat.zero_le _, Nat.zero_le _⟩ (Nat.le_of_ble_eq_true rfl) ?_
    refine wp_X7_no (j := 1) (by exact hW) (by decide) (by decide) ?_
    refine ⟨_, rfl, ?_⟩
    refine g_iret dX7_copy_21 rfl ?_
    have e : opCopy X p q i j n = rfX X 1 := by
      unfold opCopy
      rw [if_pos c5]
    rw [e] at h
    exact h _ (frM_sI (by decide)) (repMo_rfm hX (by decide) (by decide))
  · simp only [b2_0, Decidable.not_not] at c5
    obtain ⟨hp1, hp2⟩ := IN_nI c5
    have hsfp := hX.2.2.1 _ hp2
    have h3p := hO.sf hp2
    have hsvp := shV_in (X := X) c5
    have hosp := hO.2.2.1 _ hp2
    have hhp := hsfp.h0 h3p
    refine g_aloadR_n dX7_copy_8 rfl rfl ?_
    refine g_iload_n dX7_copy_9 rfl rfl ?_
    refine n_v1i (n' := 0) dX7_copy_10 mX7_isShelf lX7_105 rfl hW vld_x20 rfl rfl ⟨Nat.le_of_ble_eq_true rfl, Nat.le_of_ble_eq_true rfl⟩ ⟨Nat.zero_le _, Nat.zero_le _⟩ (Nat.le_of_ble_eq_true rfl) ?_
    refine wp_X7_isShelf ?_
    refine ⟨_, rfl, ?_⟩
    refine g_if_ne (tgt := 22) dX7_copy_13 (by decide) (fun c13 => ?_) (fun c13 => ?_)
    · simp only [b2_0, Decidable.not_not] at c13
      obtain ⟨hq1, hq2⟩ := IN_nI c13
      have hsfq := hX.2.2.1 _ hq2
      have h3q := hO.sf hq2
      have hsvq := shV_in (X := X) c13
      have hosq := hO.2.2.1 _ hq2
      have hhq := hsfq.h0 h3q
      refine g_aloadR_n dX7_copy_22 rfl rfl ?_
      refine n_getR dX7_copy_23 fX7_56 rfl hW vld_x20 rfl rfl ?_
      refine g_iload_n dX7_copy_26 rfl rfl ?_
      refine n_iald (j := p.toNatClampNeg) dX7_copy_27 rfl hW (vld_ma (by decide : 10 < 25)) (by decide) hp1 hp2 ?_
      refine g_iconst dX7_copy_28 (v := 2) (by decide) ?_
      refine g_icmp_eq (tgt := 77) dX7_copy_29 (by decide) (fun c29 => ?_) (fun c29 => ?_)
      · refine g_aloadR_n dX7_copy_77 rfl rfl ?_
        refine g_bipush dX7_copy_78 (v := (-2)) (by decide) ?_
        refine n_v1i (n' := 0) dX7_copy_80 mX7_no lX7_109 rfl hW vld_x20 rfl rfl ⟨Nat.le_of_ble_eq_true rfl, Nat.le_of_ble_eq_true rfl⟩ ⟨Nat.zero_le _, Nat.zero_le _⟩ (Nat.le_of_ble_eq_true rfl) ?_
        refine wp_X7_no (j := 2) (by exact hW) (by decide) (by decide) ?_
        refine ⟨_, rfl, ?_⟩
        refine g_iret dX7_copy_83 rfl ?_
        have c29 := hhp.2.2.mp c29
        have e : opCopy X p q i j n = rfX X 2 := by
          unfold opCopy
          rw [if_neg (not_not_intro c5), if_neg (not_not_intro c13), hsvp, hsvq, if_pos c29]
        rw [e] at h
        exact h _ (frM_sI (by decide)) (repMo_rfm hX (by decide) (by decide))
      · have np2 : ¬ (xH X p.toNatClampNeg).1 = 2 := fun z => c29 (hhp.2.2.mpr z)
        refine g_aloadR_n dX7_copy_32 rfl rfl ?_
        refine n_getR dX7_copy_33 fX7_56 rfl hW vld_x20 rfl rfl ?_
        refine g_iload_n dX7_copy_36 rfl rfl ?_
        refine n_iald (j := q.toNatClampNeg) dX7_copy_37 rfl hW (vld_ma (by decide : 10 < 25)) (by decide) hq1 hq2 ?_
        refine g_iconst dX7_copy_38 (v := 2) (by decide) ?_
        refine g_icmp_eq (tgt := 77) dX7_copy_39 (by decide) (fun c39 => ?_) (fun c39 => ?_)
        · refine g_aloadR_n dX7_copy_77 rfl rfl ?_
          refine g_bipush dX7_copy_78 (v := (-2)) (by decide) ?_
          refine n_v1i (n' := 0) dX7_copy_80 mX7_no lX7_109 rfl hW vld_x20 rfl rfl ⟨Nat.le_of_ble_eq_true rfl, Nat.le_of_ble_eq_true rfl⟩ ⟨Nat.zero_le _, Nat.zero_le _⟩ (Nat.le_of_ble_eq_true rfl) ?_
          refine wp_X7_no (j := 2) (by exact hW) (by decide) (by decide) ?_
          refine ⟨_, rfl, ?_⟩
          refine g_iret dX7_copy_83 rfl ?_
          have c39 := hhq.2.2.mp c39
          have e : opCopy X p q i j n = rfX X 2 := by
            unfold opCopy
            rw [if_neg (not_not_intro c5), if_neg (not_not_intro c13), hsvp, hsvq, if_neg np2, if_pos c39]
          rw [e] at h
          exact h _ (frM_sI (by decide)) (repMo_rfm hX (by decide) (by decide))
        · have nq2 : ¬ (xH X q.toNatClampNeg).1 = 2 := fun z => c39 (hhq.2.2.mpr z)
          refine g_aloadR_n dX7_copy_42 rfl rfl ?_
          refine n_getR dX7_copy_43 fX7_56 rfl hW vld_x20 rfl rfl ?_
          refine g_iload_n dX7_copy_46 rfl rfl ?_
          refine n_iald (j := p.toNatClampNeg) dX7_copy_47 rfl hW (vld_ma (by decide : 10 < 25)) (by decide) hp1 hp2 ?_
          refine g_iconst dX7_copy_48 (v := 1) (by decide) ?_
          refine g_icmp_ne (tgt := 84) dX7_copy_49 (by decide) (fun c49 => ?_) (fun c49 => ?_)
          · exact lp_X7_copyN hW hX hO c5 c13 np2 nq2 h (fun z => c49 (hhp.2.1.mpr z.1))
          · have p1 := hhp.2.1.mp (by first | exact c49 | exact Decidable.not_not.mp c49)
            refine g_aloadR_n dX7_copy_52 rfl rfl ?_
            refine n_getR dX7_copy_53 fX7_56 rfl hW vld_x20 rfl rfl ?_
            refine g_iload_n dX7_copy_56 rfl rfl ?_
            refine n_iald (j := q.toNatClampNeg) dX7_copy_57 rfl hW (vld_ma (by decide : 10 < 25)) (by decide) hq1 hq2 ?_
            refine g_iconst dX7_copy_58 (v := 1) (by decide) ?_
            refine g_icmp_ne (tgt := 84) dX7_copy_59 (by decide) (fun c59 => ?_) (fun c59 => ?_)
            · exact lp_X7_copyN hW hX hO c5 c13 np2 nq2 h (fun z => c59 (hhq.2.1.mpr z.2))
            · have q1 := hhq.2.1.mp (by first | exact c59 | exact Decidable.not_not.mp c59)
              have e11p := (hsfp.2.1 p1).1
              have e11q := (hsfq.2.1 q1).1
              refine g_aloadR_n dX7_copy_62 rfl rfl ?_
              refine n_getR dX7_copy_63 fX7_59 rfl hW vld_x20 rfl rfl ?_
              refine g_iload_n dX7_copy_66 rfl rfl ?_
              refine n_iald (j := p.toNatClampNeg) dX7_copy_67 rfl hW (vld_ma (by decide : 11 < 25)) (by decide) hp1 hp2 ?_
              refine g_aloadR_n dX7_copy_68 rfl rfl ?_
              refine n_getR dX7_copy_69 fX7_59 rfl hW vld_x20 rfl rfl ?_
              refine g_iload_n dX7_copy_72 rfl rfl ?_
              refine n_iald (j := q.toNatClampNeg) dX7_copy_73 rfl hW (vld_ma (by decide : 11 < 25)) (by decide) hq1 hq2 ?_
              refine g_icmp_eq (tgt := 84) dX7_copy_74 (by decide) (fun c74 => ?_) (fun c74 => ?_)
              · exact lp_X7_copyR hW hX hO c5 c13 np2 nq2 h p1 q1 (by rw [← e11p, ← e11q]; exact c74)
              · refine g_aloadR_n dX7_copy_77 rfl rfl ?_
                refine g_bipush dX7_copy_78 (v := (-2)) (by decide) ?_
                refine n_v1i (n' := 0) dX7_copy_80 mX7_no lX7_109 rfl hW vld_x20 rfl rfl ⟨Nat.le_of_ble_eq_true rfl, Nat.le_of_ble_eq_true rfl⟩ ⟨Nat.zero_le _, Nat.zero_le _⟩ (Nat.le_of_ble_eq_true rfl) ?_
                refine wp_X7_no (j := 2) (by exact hW) (by decide) (by decide) ?_
                refine ⟨_, rfl, ?_⟩
                refine g_iret dX7_copy_83 rfl ?_
                have e : opCopy X p q i j n = rfX X 2 := by
                  unfold opCopy
                  rw [if_neg (not_not_intro c5), if_neg (not_not_intro c13), hsvp, hsvq, if_neg np2, if_neg nq2, if_pos ⟨p1, q1⟩, if_pos (fun z => c74 (by rw [e11p, e11q]; exact z))]
                rw [e] at h
                exact h _ (frM_sI (by decide)) (repMo_rfm hX (by decide) (by decide))
    · simp only [b2_0, Decidable.not_not] at c13
      refine g_aloadR_n dX7_copy_16 rfl rfl ?_
      refine g_iconst dX7_copy_17 (v := (-1)) (by decide) ?_
      refine n_v1i (n' := 0) dX7_copy_18 mX7_no lX7_109 rfl hW vld_x20 rfl rfl ⟨Nat.le_of_ble_eq_true rfl, Nat.le_of_ble_eq_true rfl⟩ ⟨Nat.zero_le _, Nat.zero_le _⟩ (Nat.le_of_ble_eq_true rfl) ?_
      refine wp_X7_no (j := 1) (by exact hW) (by decide) (by decide) ?_
      refine ⟨_, rfl, ?_⟩
      refine g_iret dX7_copy_21 rfl ?_
      have e : opCopy X p q i j n = rfX X 1 := by
        unfold opCopy
        rw [if_neg (not_not_intro c5), if_pos c13]
      rw [e] at h
      exact h _ (frM_sI (by decide)) (repMo_rfm hX (by decide) (by decide))
