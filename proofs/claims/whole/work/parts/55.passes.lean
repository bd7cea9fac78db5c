/-! THE REFERENCE: EVENINGS -/
def DP : Id → Nat → Prop := fun b f => DC b f ∨ DS b f
theorem sat50 : (List.range 10).all (fun x => (if nI x ≤ 0 then nI x - 0 else nI x - 1) == (if 0 < nI x - 1 then nI x - 1 else 0)) = true := by decide +kernel
theorem sat5 {x : Int32} (h : IN x 10) : (if x ≤ 0 then x - 0 else x - 1) = if 0 < x - 1 then x - 1 else 0 := by
  have h1 := List.all_eq_true.mp sat50 _ (List.mem_range.mpr (IN_nI h).2)
  rw [← (IN_nI h).1] at h1; simpa using h1
theorem sat20 : (List.range 21).all (fun x => (if 20 ≤ nI x then nI x + 0 else nI x + 1) == (if nI x + 1 < 20 then nI x + 1 else 20)) = true := by decide +kernel
theorem sat2 {x : Int32} (h : IN x 21) : (if 20 ≤ x then x + 0 else x + 1) = if x + 1 < 20 then x + 1 else 20 := by
  have h1 := List.all_eq_true.mp sat20 _ (List.mem_range.mpr (IN_nI h).2)
  rw [← (IN_nI h).1] at h1; simpa using h1
theorem awa50 : (List.range 10).all (fun x => (if 9 ≤ nI x then nI x + 0 else nI x + 1) == (if nI x + 1 < 9 then nI x + 1 else 9)) = true := by decide +kernel
theorem awa5 {x : Int32} (h : IN x 10) : (if 9 ≤ x then x + 0 else x + 1) = if x + 1 < 9 then x + 1 else 9 := by
  have h1 := List.all_eq_true.mp awa50 _ (List.mem_range.mpr (IN_nI h).2)
  rw [← (IN_nI h).1] at h1; simpa using h1
def PaS (M0 M : Mem) (S : Sc) (c j : Nat) : Prop := FrI DP M0 M ∧ (mI M (20, 0, 0) 0 = nI S.1 ∧ ∀ f, 1 ≤ f → f < 7 → mI M (20, 0, 0) f = S.2.1 f) ∧ (∀ i f, i < S.1 → f < 9 → mI M (21, f + 1, 0) i = if i < j then endP S (seatS S c) i f else S.2.2 i f) ∧ ComO M S c
theorem ComO.arr {M M' : Mem} {S : Sc} {c : Nat} (h : ComO M S c) (he : ∀ f, mI M' (20, 0, 0) f = mI M (20, 0, 0) f) : ComO M' S c := by unfold ComO; rw [he, he, he, he]; exact h
theorem PaS.step {M0 M M' : Mem} {S : Sc} {c j : Nat} (h : PaS M0 M S c j) (hf : FrI (fun b f => b.1 = 21 ∧ 1 ≤ b.2.1 ∧ b.2.1 ≤ 9 ∧ f = j) M M') (hn : ∀ f, f < 9 → mI M' (21, f + 1, 0) j = endP S (seatS S c) j f) : PaS M0 M' S c (j + 1) := by
  obtain ⟨h1, h2, h3, h4⟩ := h
  have h20 : ∀ f, mI M' (20, 0, 0) f = mI M (20, 0, 0) f := fun f => hf.2 _ _ (fun q => by cases q.1)
  refine ⟨h1.tr (hf.mono (fun b f q => Or.inr (Or.inr ⟨q.1, q.2.1, q.2.2.1⟩))), ⟨(h20 0).trans h2.1, fun f a b => (h20 f).trans (h2.2 f a b)⟩, fun i f hi hf9 => ?_, h4.arr h20⟩
  by_cases q : i = j
  · subst q; rw [if_pos (by omega)]; exact hn f hf9
  · rw [hf.2 _ _ (fun z => q z.2.2.2), h3 i f hi hf9]
    by_cases q2 : i < j
    · rw [if_pos q2, if_pos (by omega)]
    · rw [if_neg q2, if_neg (by omega)]
set_option maxHeartbeats 4000000 in
set_option maxRecDepth 100000 in
theorem lp_X7_passes {E : Ev} {M0 : Mem} {Q : QT} (hW0 : Wi M0) {S : Sc} (hO : OkS S) {c : Nat} (hc : c < 2 ^ S.1) (h : ∀ M', FrI DP M0 M' → RepR M' (endS S (seatS S c)) → ComO M' S c → Q none M') : ∀ j, j ≤ S.1 → ∀ (M : Mem), PaS M0 M S c j → G E (rm 3 0 0) kX7_passes (ZQ E Q 0 0) 0 0 7 [some (vR (20, 0, 0)), some (vI (nI j))] [] M := by
  refine up_loop S.1 (fun j hj ih M hst => ?_)
  have hst2 := hst
  obtain ⟨hf, ⟨hsz, hgl⟩, har, hco⟩ := hst2
  have hW := hf.W hW0
  have hs10 := hO.1
  have hm10 := Nat.lt_of_lt_of_le (seatS_lt S c) (pow_le10 hO.1)
  refine g_iload_n dX7_passes_7 rfl rfl ?_
  refine g_aloadR_n dX7_passes_8 rfl rfl ?_
  refine n_getI dX7_passes_9 fX7_102 rfl hW vld_x20 (Or.inl rfl) ?_
  refine g_icmp_ge (tgt := 176) dX7_passes_12 (by decide) (fun c12 => ?_) (fun c12 => ?_)
  · rw [hsz] at c12
    have hjn2 : j = S.1 := by rw [nI_leI (by omega) (by omega)] at c12; omega
    refine g_aloadR_n dX7_passes_176 rfl rfl ?_
    refine g_dup dX7_passes_177 rfl ?_
    refine n_getI dX7_passes_178 fX7_183 rfl hW vld_x20 (Or.inl rfl) ?_
    rw [hgl 5 (by decide) (by decide)]
    refine g_iconst dX7_passes_181 (v := 1) (by decide) ?_
    refine g_iadd dX7_passes_182 ?_
    refine n_putI dX7_passes_183 fX7_183 rfl hW vld_x20 rfl ?_
    refine g_vret dX7_passes_186 rfl ?_
    subst hjn2
    refine h _ (hf.tr (fr_sI (Or.inr (Or.inl ⟨rfl, by decide⟩)))) ⟨by show _ = nI S.1; simpa [mI, sI] using hsz, fun f a b => ?_, fun i f hi hf9 => ?_⟩ ⟨by simpa [mI, sI] using hco.1, by simpa [mI, sI] using hco.2.1, by simpa [mI, sI] using hco.2.2.1, by simpa [mI, sI] using hco.2.2.2⟩
    · show _ = (if f = 5 then S.2.1 5 + 1 else S.2.1 f)
      by_cases q : f = 5
      · subst q; simp [mI, sI]
      · rw [if_neg q]; simp only [mI, sI]; rw [if_neg (fun z => q z.2)]; exact hgl f a b
    · have hi : i < S.1 := hi
      show _ = endP S (seatS S c) i f
      have := har i f hi hf9
      rw [if_pos hi] at this
      simpa [mI, sI] using this
  · rw [hsz] at c12
    have hjn : j < S.1 := by rw [nI_leI (by omega) (by omega)] at c12; omega
    have hv : ∀ f, f < 9 → mI M (21, f + 1, 0) j = S.2.2 j f := fun f hf9 => (har j f hjn hf9).trans (if_neg (by omega))
    have hp := hO.2.2.2.2.2 j hjn
    have hp2 := hp.2.2.1
    have hp5 := hp.2.2.2.2.2.1
    have hz3 := hp.2.2.2.1
    refine g_aloadR_n dX7_passes_15 rfl rfl ?_
    refine n_getI dX7_passes_16 fX7_205 rfl hW vld_x20 (Or.inl rfl) ?_
    refine g_iload_n dX7_passes_19 rfl rfl ?_
    refine g_ishr dX7_passes_20 ?_
    refine g_iconst dX7_passes_21 (v := 1) (by decide) ?_
    refine g_iand dX7_passes_22 ?_
    rw [hco.2.1, bt_tb (by omega) (by omega)]
    refine g_iconst dX7_passes_23 (v := 1) (by decide) ?_
    refine g_icmp_ne (tgt := 95) dX7_passes_24 (by decide) (fun c24 => ?_) (fun c24 => ?_)
    · have hb : ¬ (seatS S c).testBit j = true := fun q => by rw [if_pos q] at c24; exact c24 rfl
      refine g_aloadR_n dX7_passes_95 rfl rfl ?_
      refine n_getR dX7_passes_96 fX7_53 rfl hW vld_x20 rfl rfl ?_
      refine g_iload_n dX7_passes_99 rfl rfl ?_
      refine n_iald (j := j) dX7_passes_100 rfl hW (vld_ma (by decide : 9 < 25)) (by decide) rfl (show j < 10 by omega) ?_
      refine g_top (fun z ez => ?_)
      have ez : z = S.2.2 j 8 := ez.trans (by first | exact hv 8 (by decide) | (simp [mI, sI]; exact hv 8 (by decide)))
      subst ez
      refine g_if_ne (tgt := 170) dX7_passes_101 (by decide) (fun c101 => ?_) (fun c101 => ?_)
      · refine g_iinc_1 (v := nI (j + 1)) dX7_passes_170 rfl (nI_inc j) ?_
        refine g_goto (tgt := 7) dX7_passes_173 (by decide) ?_
        refine ih hjn _ (hst.step FrI.rf (fun f hf9 => ?_))
        have he : endP S (seatS S c) j = S.2.2 j := by unfold endP; rw [if_neg hb, if_neg c101]
        rw [he]; exact hv f hf9
      · refine g_aloadR_n dX7_passes_104 rfl rfl ?_
        refine n_getR dX7_passes_105 fX7_44 rfl hW vld_x20 rfl rfl ?_
        refine g_iload_n dX7_passes_108 rfl rfl ?_
        refine g_dup2 dX7_passes_109 rfl rfl ?_
        refine n_iald (j := j) dX7_passes_110 rfl hW (vld_ma (by decide : 6 < 25)) (by decide) rfl (show j < 10 by omega) ?_
        refine g_top (fun z ez => ?_)
        have ez : z = S.2.2 j 5 := ez.trans (by first | exact hv 5 (by decide) | (simp [mI, sI]; exact hv 5 (by decide)))
        subst ez
        refine g_aloadR_n dX7_passes_111 rfl rfl ?_
        refine n_getR dX7_passes_112 fX7_44 rfl hW vld_x20 rfl rfl ?_
        refine g_iload_n dX7_passes_115 rfl rfl ?_
        refine n_iald (j := j) dX7_passes_116 rfl hW (vld_ma (by decide : 6 < 25)) (by decide) rfl (show j < 10 by omega) ?_
        refine g_top (fun z ez => ?_)
        have ez : z = S.2.2 j 5 := ez.trans (by first | exact hv 5 (by decide) | (simp [mI, sI]; exact hv 5 (by decide)))
        subst ez
        refine g_bipush dX7_passes_117 (v := 9) (by decide) ?_
        refine g_icmp_ge (tgt := 126) dX7_passes_119 (by decide) (fun c119 => ?_) (fun c119 => ?_)
        · refine g_iconst dX7_passes_126 (v := 0) (by decide) ?_
          refine g_iadd dX7_passes_127 ?_
          refine n_iast (j := j) dX7_passes_128 rfl hW (vld_ma (by decide : 6 < 25)) (by decide) rfl (show j < 10 by omega) ?_
          refine g_aloadR_n dX7_passes_129 rfl rfl ?_
          refine n_getR dX7_passes_130 fX7_47 rfl hW vld_x20 rfl rfl ?_
          refine g_iload_n dX7_passes_133 rfl rfl ?_
          refine g_dup2 dX7_passes_134 rfl rfl ?_
          refine n_iald (j := j) dX7_passes_135 rfl hW (vld_ma (by decide : 7 < 25)) (by decide) rfl (show j < 10 by omega) ?_
          refine g_top (fun z ez => ?_)
          have ez : z = S.2.2 j 6 := ez.trans (by first | exact hv 6 (by decide) | (simp [mI, sI]; exact hv 6 (by decide)))
          subst ez
          refine g_iconst dX7_passes_136 (v := 1) (by decide) ?_
          refine g_iadd dX7_passes_137 ?_
          refine n_iast (j := j) dX7_passes_138 rfl hW (vld_ma (by decide : 7 < 25)) (by decide) rfl (show j < 10 by omega) ?_
          refine g_aloadR_n dX7_passes_139 rfl rfl ?_
          refine n_getR dX7_passes_140 fX7_47 rfl hW vld_x20 rfl rfl ?_
          refine g_iload_n dX7_passes_143 rfl rfl ?_
          refine n_iald (j := j) dX7_passes_144 rfl hW (vld_ma (by decide : 7 < 25)) (by decide) rfl (show j < 10 by omega) ?_
          refine g_top (fun z ez => ?_)
          have ez : z = S.2.2 j 6 + 1 := ez.trans (by simp [mI, sI])
          subst ez
          refine g_aloadR_n dX7_passes_145 rfl rfl ?_
          refine n_getR dX7_passes_146 fX7_38 rfl hW vld_x20 rfl rfl ?_
          refine g_iload_n dX7_passes_149 rfl rfl ?_
          refine n_iald (j := j) dX7_passes_150 rfl hW (vld_ma (by decide : 4 < 25)) (by decide) rfl (show j < 10 by omega) ?_
          refine g_top (fun z ez => ?_)
          have ez : z = S.2.2 j 3 := ez.trans (by first | exact hv 3 (by decide) | (simp [mI, sI]; exact hv 3 (by decide)))
          subst ez
          refine g_iconst dX7_passes_151 (v := 1) (by decide) ?_
          refine g_icmp_ne (tgt := 159) dX7_passes_152 (by decide) (fun c152 => ?_) (fun c152 => ?_)
          · refine g_iconst dX7_passes_159 (v := 2) (by decide) ?_
            refine g_icmp_lt (tgt := 170) dX7_passes_160 (by decide) (fun c160 => ?_) (fun c160 => ?_)
            · refine g_iinc_1 (v := nI (j + 1)) dX7_passes_170 rfl (nI_inc j) ?_
              refine g_goto (tgt := 7) dX7_passes_173 (by decide) ?_
              have h5 := awa5 hp5
              rw [if_pos c119] at h5
              have c101 : S.2.2 j 8 = 0 := by first | exact c101 | exact Decidable.not_not.mp c101
              have c152 : ¬ S.2.2 j 3 = 1 := by first | exact c152 | exact Decidable.not_not.mp c152
              have hk : (if S.2.2 j 3 = 0 then (2 : Int32) else 3) = 2 := by
                rcases hz3 with q | q
                · first | (rw [if_pos q]; done) | (rw [q] at c152; exact absurd c152 (by decide))
                · first | (rw [if_neg (by rw [q]; decide)]; done) | exact absurd q c152
              refine ih hjn _ (hst.step ((fr_sI ⟨rfl, by decide, by decide, rfl⟩).tr (fr_sI ⟨rfl, by decide, by decide, rfl⟩)) (fun f hf9 => ?_))
              have he : endP S (seatS S c) j = awayF (S.2.2 j) := by unfold endP; rw [if_neg hb, if_pos c101]
              rw [he]
              have q9 : f = 0 ∨ f = 1 ∨ f = 2 ∨ f = 3 ∨ f = 4 ∨ f = 5 ∨ f = 6 ∨ f = 7 ∨ f = 8 := by omega
              rcases q9 with rfl | rfl | rfl | rfl | rfl | rfl | rfl | rfl | rfl
              · simp [mI, sI, awayF]; exact hv 0 (by decide)
              · simp [mI, sI, awayF]; exact hv 1 (by decide)
              · simp [mI, sI, awayF]; exact hv 2 (by decide)
              · simp [mI, sI, awayF]; exact hv 3 (by decide)
              · simp [mI, sI, awayF]; exact hv 4 (by decide)
              · show _ = (if S.2.2 j 5 + 1 < 9 then S.2.2 j 5 + 1 else 9)
                rw [← h5]; simp [mI, sI]
              · simp [mI, sI, awayF]
              · simp [mI, sI, awayF]; exact hv 7 (by decide)
              · show _ = (if (if S.2.2 j 3 = 0 then 2 else 3) ≤ S.2.2 j 6 + 1 then 1 else S.2.2 j 8)
                rw [hk, if_neg (Int32.not_le.mpr c160)]
                simp [mI, sI]; exact hv 8 (by decide)
            · refine g_aloadR_n dX7_passes_163 rfl rfl ?_
              refine n_getR dX7_passes_164 fX7_53 rfl hW vld_x20 rfl rfl ?_
              refine g_iload_n dX7_passes_167 rfl rfl ?_
              refine g_iconst dX7_passes_168 (v := 1) (by decide) ?_
              refine n_iast (j := j) dX7_passes_169 rfl hW (vld_ma (by decide : 9 < 25)) (by decide) rfl (show j < 10 by omega) ?_
              refine g_iinc_1 (v := nI (j + 1)) dX7_passes_170 rfl (nI_inc j) ?_
              refine g_goto (tgt := 7) dX7_passes_173 (by decide) ?_
              have h5 := awa5 hp5
              rw [if_pos c119] at h5
              have c101 : S.2.2 j 8 = 0 := by first | exact c101 | exact Decidable.not_not.mp c101
              have c152 : ¬ S.2.2 j 3 = 1 := by first | exact c152 | exact Decidable.not_not.mp c152
              have hk : (if S.2.2 j 3 = 0 then (2 : Int32) else 3) = 2 := by
                rcases hz3 with q | q
                · first | (rw [if_pos q]; done) | (rw [q] at c152; exact absurd c152 (by decide))
                · first | (rw [if_neg (by rw [q]; decide)]; done) | exact absurd q c152
              refine ih hjn _ (hst.step (((fr_sI ⟨rfl, by decide, by decide, rfl⟩).tr (fr_sI ⟨rfl, by decide, by decide, rfl⟩)).tr (fr_sI ⟨rfl, by decide, by decide, rfl⟩)) (fun f hf9 => ?_))
              have he : endP S (seatS S c) j = awayF (S.2.2 j) := by unfold endP; rw [if_neg hb, if_pos c101]
              rw [he]
              have q9 : f = 0 ∨ f = 1 ∨ f = 2 ∨ f = 3 ∨ f = 4 ∨ f = 5 ∨ f = 6 ∨ f = 7 ∨ f = 8 := by omega
              rcases q9 with rfl | rfl | rfl | rfl | rfl | rfl | rfl | rfl | rfl
              · simp [mI, sI, awayF]; exact hv 0 (by decide)
              · simp [mI, sI, awayF]; exact hv 1 (by decide)
              · simp [mI, sI, awayF]; exact hv 2 (by decide)
              · simp [mI, sI, awayF]; exact hv 3 (by decide)
              · simp [mI, sI, awayF]; exact hv 4 (by decide)
              · show _ = (if S.2.2 j 5 + 1 < 9 then S.2.2 j 5 + 1 else 9)
                rw [← h5]; simp [mI, sI]
              · simp [mI, sI, awayF]
              · simp [mI, sI, awayF]; exact hv 7 (by decide)
              · show _ = (if (if S.2.2 j 3 = 0 then 2 else 3) ≤ S.2.2 j 6 + 1 then 1 else S.2.2 j 8)
                rw [hk, if_pos (Int32.not_lt.mp c160)]
                simp [mI, sI]
          · refine g_iconst dX7_passes_155 (v := 3) (by decide) ?_
            refine g_goto (tgt := 160) dX7_passes_156 (by decide) ?_
            refine g_icmp_lt (tgt := 170) dX7_passes_160 (by decide) (fun c160 => ?_) (fun c160 => ?_)
            · refine g_iinc_1 (v := nI (j + 1)) dX7_passes_170 rfl (nI_inc j) ?_
              refine g_goto (tgt := 7) dX7_passes_173 (by decide) ?_
              have h5 := awa5 hp5
              rw [if_pos c119] at h5
              have c101 : S.2.2 j 8 = 0 := by first | exact c101 | exact Decidable.not_not.mp c101
              have c152 : S.2.2 j 3 = 1 := by first | exact c152 | exact Decidable.not_not.mp c152
              have hk : (if S.2.2 j 3 = 0 then (2 : Int32) else 3) = 3 := by
                rcases hz3 with q | q
                · first | (rw [if_pos q]; done) | (rw [q] at c152; exact absurd c152 (by decide))
                · first | (rw [if_neg (by rw [q]; decide)]; done) | exact absurd q c152
              refine ih hjn _ (hst.step ((fr_sI ⟨rfl, by decide, by decide, rfl⟩).tr (fr_sI ⟨rfl, by decide, by decide, rfl⟩)) (fun f hf9 => ?_))
              have he : endP S (seatS S c) j = awayF (S.2.2 j) := by unfold endP; rw [if_neg hb, if_pos c101]
              rw [he]
              have q9 : f = 0 ∨ f = 1 ∨ f = 2 ∨ f = 3 ∨ f = 4 ∨ f = 5 ∨ f = 6 ∨ f = 7 ∨ f = 8 := by omega
              rcases q9 with rfl | rfl | rfl | rfl | rfl | rfl | rfl | rfl | rfl
              · simp [mI, sI, awayF]; exact hv 0 (by decide)
              · simp [mI, sI, awayF]; exact hv 1 (by decide)
              · simp [mI, sI, awayF]; exact hv 2 (by decide)
              · simp [mI, sI, awayF]; exact hv 3 (by decide)
              · simp [mI, sI, awayF]; exact hv 4 (by decide)
              · show _ = (if S.2.2 j 5 + 1 < 9 then S.2.2 j 5 + 1 else 9)
                rw [← h5]; simp [mI, sI]
              · simp [mI, sI, awayF]
              · simp [mI, sI, awayF]; exact hv 7 (by decide)
              · show _ = (if (if S.2.2 j 3 = 0 then 2 else 3) ≤ S.2.2 j 6 + 1 then 1 else S.2.2 j 8)
                rw [hk, if_neg (Int32.not_le.mpr c160)]
                simp [mI, sI]; exact hv 8 (by decide)
            · refine g_aloadR_n dX7_passes_163 rfl rfl ?_
              refine n_getR dX7_passes_164 fX7_53 rfl hW vld_x20 rfl rfl ?_
              refine g_iload_n dX7_passes_167 rfl rfl ?_
              refine g_iconst dX7_passes_168 (v := 1) (by decide) ?_
              refine n_iast (j := j) dX7_passes_169 rfl hW (vld_ma (by decide : 9 < 25)) (by decide) rfl (show j < 10 by omega) ?_
              refine g_iinc_1 (v := nI (j + 1)) dX7_passes_170 rfl (nI_inc j) ?_
              refine g_goto (tgt := 7) dX7_passes_173 (by decide) ?_
              have h5 := awa5 hp5
              rw [if_pos c119] at h5
              have c101 : S.2.2 j 8 = 0 := by first | exact c101 | exact Decidable.not_not.mp c101
              have c152 : S.2.2 j 3 = 1 := by first | exact c152 | exact Decidable.not_not.mp c152
              have hk : (if S.2.2 j 3 = 0 then (2 : Int32) else 3) = 3 := by
                rcases hz3 with q | q
                · first | (rw [if_pos q]; done) | (rw [q] at c152; exact absurd c152 (by decide))
                · first | (rw [if_neg (by rw [q]; decide)]; done) | exact absurd q c152
              refine ih hjn _ (hst.step (((fr_sI ⟨rfl, by decide, by decide, rfl⟩).tr (fr_sI ⟨rfl, by decide, by decide, rfl⟩)).tr (fr_sI ⟨rfl, by decide, by decide, rfl⟩)) (fun f hf9 => ?_))
              have he : endP S (seatS S c) j = awayF (S.2.2 j) := by unfold endP; rw [if_neg hb, if_pos c101]
              rw [he]
              have q9 : f = 0 ∨ f = 1 ∨ f = 2 ∨ f = 3 ∨ f = 4 ∨ f = 5 ∨ f = 6 ∨ f = 7 ∨ f = 8 := by omega
              rcases q9 with rfl | rfl | rfl | rfl | rfl | rfl | rfl | rfl | rfl
              · simp [mI, sI, awayF]; exact hv 0 (by decide)
              · simp [mI, sI, awayF]; exact hv 1 (by decide)
              · simp [mI, sI, awayF]; exact hv 2 (by decide)
              · simp [mI, sI, awayF]; exact hv 3 (by decide)
              · simp [mI, sI, awayF]; exact hv 4 (by decide)
              · show _ = (if S.2.2 j 5 + 1 < 9 then S.2.2 j 5 + 1 else 9)
                rw [← h5]; simp [mI, sI]
              · simp [mI, sI, awayF]
              · simp [mI, sI, awayF]; exact hv 7 (by decide)
              · show _ = (if (if S.2.2 j 3 = 0 then 2 else 3) ≤ S.2.2 j 6 + 1 then 1 else S.2.2 j 8)
                rw [hk, if_pos (Int32.not_lt.mp c160)]
                simp [mI, sI]
        · refine g_iconst dX7_passes_122 (v := 1) (by decide) ?_
          refine g_goto (tgt := 127) dX7_passes_123 (by decide) ?_
          refine g_iadd dX7_passes_127 ?_
          refine n_iast (j := j) dX7_passes_128 rfl hW (vld_ma (by decide : 6 < 25)) (by decide) rfl (show j < 10 by omega) ?_
          refine g_aloadR_n dX7_passes_129 rfl rfl ?_
          refine n_getR dX7_passes_130 fX7_47 rfl hW vld_x20 rfl rfl ?_
          refine g_iload_n dX7_passes_133 rfl rfl ?_
          refine g_dup2 dX7_passes_134 rfl rfl ?_
          refine n_iald (j := j) dX7_passes_135 rfl hW (vld_ma (by decide : 7 < 25)) (by decide) rfl (show j < 10 by omega) ?_
          refine g_top (fun z ez => ?_)
          have ez : z = S.2.2 j 6 := ez.trans (by first | exact hv 6 (by decide) | (simp [mI, sI]; exact hv 6 (by decide)))
          subst ez
          refine g_iconst dX7_passes_136 (v := 1) (by decide) ?_
          refine g_iadd dX7_passes_137 ?_
          refine n_iast (j := j) dX7_passes_138 rfl hW (vld_ma (by decide : 7 < 25)) (by decide) rfl (show j < 10 by omega) ?_
          refine g_aloadR_n dX7_passes_139 rfl rfl ?_
          refine n_getR dX7_passes_140 fX7_47 rfl hW vld_x20 rfl rfl ?_
          refine g_iload_n dX7_passes_143 rfl rfl ?_
          refine n_iald (j := j) dX7_passes_144 rfl hW (vld_ma (by decide : 7 < 25)) (by decide) rfl (show j < 10 by omega) ?_
          refine g_top (fun z ez => ?_)
          have ez : z = S.2.2 j 6 + 1 := ez.trans (by simp [mI, sI])
          subst ez
          refine g_aloadR_n dX7_passes_145 rfl rfl ?_
          refine n_getR dX7_passes_146 fX7_38 rfl hW vld_x20 rfl rfl ?_
          refine g_iload_n dX7_passes_149 rfl rfl ?_
          refine n_iald (j := j) dX7_passes_150 rfl hW (vld_ma (by decide : 4 < 25)) (by decide) rfl (show j < 10 by omega) ?_
          refine g_top (fun z ez => ?_)
          have ez : z = S.2.2 j 3 := ez.trans (by first | exact hv 3 (by decide) | (simp [mI, sI]; exact hv 3 (by decide)))
          subst ez
          refine g_iconst dX7_passes_151 (v := 1) (by decide) ?_
          refine g_icmp_ne (tgt := 159) dX7_passes_152 (by decide) (fun c152 => ?_) (fun c152 => ?_)
          · refine g_iconst dX7_passes_159 (v := 2) (by decide) ?_
            refine g_icmp_lt (tgt := 170) dX7_passes_160 (by decide) (fun c160 => ?_) (fun c160 => ?_)
            · refine g_iinc_1 (v := nI (j + 1)) dX7_passes_170 rfl (nI_inc j) ?_
              refine g_goto (tgt := 7) dX7_passes_173 (by decide) ?_
              have h5 := awa5 hp5
              rw [if_neg c119] at h5
              have c101 : S.2.2 j 8 = 0 := by first | exact c101 | exact Decidable.not_not.mp c101
              have c152 : ¬ S.2.2 j 3 = 1 := by first | exact c152 | exact Decidable.not_not.mp c152
              have hk : (if S.2.2 j 3 = 0 then (2 : Int32) else 3) = 2 := by
                rcases hz3 with q | q
                · first | (rw [if_pos q]; done) | (rw [q] at c152; exact absurd c152 (by decide))
                · first | (rw [if_neg (by rw [q]; decide)]; done) | exact absurd q c152
              refine ih hjn _ (hst.step ((fr_sI ⟨rfl, by decide, by decide, rfl⟩).tr (fr_sI ⟨rfl, by decide, by decide, rfl⟩)) (fun f hf9 => ?_))
              have he : endP S (seatS S c) j = awayF (S.2.2 j) := by unfold endP; rw [if_neg hb, if_pos c101]
              rw [he]
              have q9 : f = 0 ∨ f = 1 ∨ f = 2 ∨ f = 3 ∨ f = 4 ∨ f = 5 ∨ f = 6 ∨ f = 7 ∨ f = 8 := by omega
              rcases q9 with rfl | rfl | rfl | rfl | rfl | rfl | rfl | rfl | rfl
              · simp [mI, sI, awayF]; exact hv 0 (by decide)
              · simp [mI, sI, awayF]; exact hv 1 (by decide)
              · simp [mI, sI, awayF]; exact hv 2 (by decide)
              · simp [mI, sI, awayF]; exact hv 3 (by decide)
              · simp [mI, sI, awayF]; exact hv 4 (by decide)
              · show _ = (if S.2.2 j 5 + 1 < 9 then S.2.2 j 5 + 1 else 9)
                rw [← h5]; simp [mI, sI]
              · simp [mI, sI, awayF]
              · simp [mI, sI, awayF]; exact hv 7 (by decide)
              · show _ = (if (if S.2.2 j 3 = 0 then 2 else 3) ≤ S.2.2 j 6 + 1 then 1 else S.2.2 j 8)
                rw [hk, if_neg (Int32.not_le.mpr c160)]
                simp [mI, sI]; exact hv 8 (by decide)
            · refine g_aloadR_n dX7_passes_163 rfl rfl ?_
              refine n_getR dX7_passes_164 fX7_53 rfl hW vld_x20 rfl rfl ?_
              refine g_iload_n dX7_passes_167 rfl rfl ?_
              refine g_iconst dX7_passes_168 (v := 1) (by decide) ?_
              refine n_iast (j := j) dX7_passes_169 rfl hW (vld_ma (by decide : 9 < 25)) (by decide) rfl (show j < 10 by omega) ?_
              refine g_iinc_1 (v := nI (j + 1)) dX7_passes_170 rfl (nI_inc j) ?_
              refine g_goto (tgt := 7) dX7_passes_173 (by decide) ?_
              have h5 := awa5 hp5
              rw [if_neg c119] at h5
              have c101 : S.2.2 j 8 = 0 := by first | exact c101 | exact Decidable.not_not.mp c101
              have c152 : ¬ S.2.2 j 3 = 1 := by first | exact c152 | exact Decidable.not_not.mp c152
              have hk : (if S.2.2 j 3 = 0 then (2 : Int32) else 3) = 2 := by
                rcases hz3 with q | q
                · first | (rw [if_pos q]; done) | (rw [q] at c152; exact absurd c152 (by decide))
                · first | (rw [if_neg (by rw [q]; decide)]; done) | exact absurd q c152
              refine ih hjn _ (hst.step (((fr_sI ⟨rfl, by decide, by decide, rfl⟩).tr (fr_sI ⟨rfl, by decide, by decide, rfl⟩)).tr (fr_sI ⟨rfl, by decide, by decide, rfl⟩)) (fun f hf9 => ?_))
              have he : endP S (seatS S c) j = awayF (S.2.2 j) := by unfold endP; rw [if_neg hb, if_pos c101]
              rw [he]
              have q9 : f = 0 ∨ f = 1 ∨ f = 2 ∨ f = 3 ∨ f = 4 ∨ f = 5 ∨ f = 6 ∨ f = 7 ∨ f = 8 := by omega
              rcases q9 with rfl | rfl | rfl | rfl | rfl | rfl | rfl | rfl | rfl
              · simp [mI, sI, awayF]; exact hv 0 (by decide)
              · simp [mI, sI, awayF]; exact hv 1 (by decide)
              · simp [mI, sI, awayF]; exact hv 2 (by decide)
              · simp [mI, sI, awayF]; exact hv 3 (by decide)
              · simp [mI, sI, awayF]; exact hv 4 (by decide)
              · show _ = (if S.2.2 j 5 + 1 < 9 then S.2.2 j 5 + 1 else 9)
                rw [← h5]; simp [mI, sI]
              · simp [mI, sI, awayF]
              · simp [mI, sI, awayF]; exact hv 7 (by decide)
              · show _ = (if (if S.2.2 j 3 = 0 then 2 else 3) ≤ S.2.2 j 6 + 1 then 1 else S.2.2 j 8)
                rw [hk, if_pos (Int32.not_lt.mp c160)]
                simp [mI, sI]
          · refine g_iconst dX7_passes_155 (v := 3) (by decide) ?_
            refine g_goto (tgt := 160) dX7_passes_156 (by decide) ?_
            refine g_icmp_lt (tgt := 170) dX7_passes_160 (by decide) (fun c160 => ?_) (fun c160 => ?_)
            · refine g_iinc_1 (v := nI (j + 1)) dX7_passes_170 rfl (nI_inc j) ?_
              refine g_goto (tgt := 7) dX7_passes_173 (by decide) ?_
              have h5 := awa5 hp5
              rw [if_neg c119] at h5
              have c101 : S.2.2 j 8 = 0 := by first | exact c101 | exact Decidable.not_not.mp c101
              have c152 : S.2.2 j 3 = 1 := by first | exact c152 | exact Decidable.not_not.mp c152
              have hk : (if S.2.2 j 3 = 0 then (2 : Int32) else 3) = 3 := by
                rcases hz3 with q | q
                · first | (rw [if_pos q]; done) | (rw [q] at c152; exact absurd c152 (by decide))
                · first | (rw [if_neg (by rw [q]; decide)]; done) | exact absurd q c152
              refine ih hjn _ (hst.step ((fr_sI ⟨rfl, by decide, by decide, rfl⟩).tr (fr_sI ⟨rfl, by decide, by decide, rfl⟩)) (fun f hf9 => ?_))
              have he : endP S (seatS S c) j = awayF (S.2.2 j) := by unfold endP; rw [if_neg hb, if_pos c101]
              rw [he]
              have q9 : f = 0 ∨ f = 1 ∨ f = 2 ∨ f = 3 ∨ f = 4 ∨ f = 5 ∨ f = 6 ∨ f = 7 ∨ f = 8 := by omega
              rcases q9 with rfl | rfl | rfl | rfl | rfl | rfl | rfl | rfl | rfl
              · simp [mI, sI, awayF]; exact hv 0 (by decide)
              · simp [mI, sI, awayF]; exact hv 1 (by decide)
              · simp [mI, sI, awayF]; exact hv 2 (by decide)
              · simp [mI, sI, awayF]; exact hv 3 (by decide)
              · simp [mI, sI, awayF]; exact hv 4 (by decide)
              · show _ = (if S.2.2 j 5 + 1 < 9 then S.2.2 j 5 + 1 else 9)
                rw [← h5]; simp [mI, sI]
              · simp [mI, sI, awayF]
              · simp [mI, sI, awayF]; exact hv 7 (by decide)
              · show _ = (if (if S.2.2 j 3 = 0 then 2 else 3) ≤ S.2.2 j 6 + 1 then 1 else S.2.2 j 8)
                rw [hk, if_neg (Int32.not_le.mpr c160)]
                simp [mI, sI]; exact hv 8 (by decide)
            · refine g_aloadR_n dX7_passes_163 rfl rfl ?_
              refine n_getR dX7_passes_164 fX7_53 rfl hW vld_x20 rfl rfl ?_
              refine g_iload_n dX7_passes_167 rfl rfl ?_
              refine g_iconst dX7_passes_168 (v := 1) (by decide) ?_
              refine n_iast (j := j) dX7_passes_169 rfl hW (vld_ma (by decide : 9 < 25)) (by decide) rfl (show j < 10 by omega) ?_
              refine g_iinc_1 (v := nI (j + 1)) dX7_passes_170 rfl (nI_inc j) ?_
              refine g_goto (tgt := 7) dX7_passes_173 (by decide) ?_
              have h5 := awa5 hp5
              rw [if_neg c119] at h5
              have c101 : S.2.2 j 8 = 0 := by first | exact c101 | exact Decidable.not_not.mp c101
              have c152 : S.2.2 j 3 = 1 := by first | exact c152 | exact Decidable.not_not.mp c152
              have hk : (if S.2.2 j 3 = 0 then (2 : Int32) else 3) = 3 := by
                rcases hz3 with q | q
                · first | (rw [if_pos q]; done) | (rw [q] at c152; exact absurd c152 (by decide))
                · first | (rw [if_neg (by rw [q]; decide)]; done) | exact absurd q c152
              refine ih hjn _ (hst.step (((fr_sI ⟨rfl, by decide, by decide, rfl⟩).tr (fr_sI ⟨rfl, by decide, by decide, rfl⟩)).tr (fr_sI ⟨rfl, by decide, by decide, rfl⟩)) (fun f hf9 => ?_))
              have he : endP S (seatS S c) j = awayF (S.2.2 j) := by unfold endP; rw [if_neg hb, if_pos c101]
              rw [he]
              have q9 : f = 0 ∨ f = 1 ∨ f = 2 ∨ f = 3 ∨ f = 4 ∨ f = 5 ∨ f = 6 ∨ f = 7 ∨ f = 8 := by omega
              rcases q9 with rfl | rfl | rfl | rfl | rfl | rfl | rfl | rfl | rfl
              · simp [mI, sI, awayF]; exact hv 0 (by decide)
              · simp [mI, sI, awayF]; exact hv 1 (by decide)
              · simp [mI, sI, awayF]; exact hv 2 (by decide)
              · simp [mI, sI, awayF]; exact hv 3 (by decide)
              · simp [mI, sI, awayF]; exact hv 4 (by decide)
              · show _ = (if S.2.2 j 5 + 1 < 9 then S.2.2 j 5 + 1 else 9)
                rw [← h5]; simp [mI, sI]
              · simp [mI, sI, awayF]
              · simp [mI, sI, awayF]; exact hv 7 (by decide)
              · show _ = (if (if S.2.2 j 3 = 0 then 2 else 3) ≤ S.2.2 j 6 + 1 then 1 else S.2.2 j 8)
                rw [hk, if_pos (Int32.not_lt.mp c160)]
                simp [mI, sI]
    · have hb : (seatS S c).testBit j = true := by
        by_cases q : (seatS S c).testBit j = true
        · exact q
        · rw [if_neg q] at c24; exact absurd c24 (by decide)
      refine g_aloadR_n dX7_passes_27 rfl rfl ?_
      refine n_getR dX7_passes_28 fX7_50 rfl hW vld_x20 rfl rfl ?_
      refine g_iload_n dX7_passes_31 rfl rfl ?_
      refine g_dup2 dX7_passes_32 rfl rfl ?_
      refine n_iald (j := j) dX7_passes_33 rfl hW (vld_ma (by decide : 8 < 25)) (by decide) rfl (show j < 10 by omega) ?_
      refine g_top (fun z ez => ?_)
      have ez : z = S.2.2 j 7 := ez.trans (by first | exact hv 7 (by decide) | (simp [mI, sI]; exact hv 7 (by decide)))
      subst ez
      refine g_iconst dX7_passes_34 (v := 1) (by decide) ?_
      refine g_iadd dX7_passes_35 ?_
      refine n_iast (j := j) dX7_passes_36 rfl hW (vld_ma (by decide : 8 < 25)) (by decide) rfl (show j < 10 by omega) ?_
      refine g_aloadR_n dX7_passes_37 rfl rfl ?_
      refine n_getR dX7_passes_38 fX7_44 rfl hW vld_x20 rfl rfl ?_
      refine g_iload_n dX7_passes_41 rfl rfl ?_
      refine g_dup2 dX7_passes_42 rfl rfl ?_
      refine n_iald (j := j) dX7_passes_43 rfl hW (vld_ma (by decide : 6 < 25)) (by decide) rfl (show j < 10 by omega) ?_
      refine g_top (fun z ez => ?_)
      have ez : z = S.2.2 j 5 := ez.trans (by first | exact hv 5 (by decide) | (simp [mI, sI]; exact hv 5 (by decide)))
      subst ez
      refine g_aloadR_n dX7_passes_44 rfl rfl ?_
      refine n_getR dX7_passes_45 fX7_44 rfl hW vld_x20 rfl rfl ?_
      refine g_iload_n dX7_passes_48 rfl rfl ?_
      refine n_iald (j := j) dX7_passes_49 rfl hW (vld_ma (by decide : 6 < 25)) (by decide) rfl (show j < 10 by omega) ?_
      refine g_top (fun z ez => ?_)
      have ez : z = S.2.2 j 5 := ez.trans (by first | exact hv 5 (by decide) | (simp [mI, sI]; exact hv 5 (by decide)))
      subst ez
      refine g_if_le (tgt := 57) dX7_passes_50 (by decide) (fun c50 => ?_) (fun c50 => ?_)
      · refine g_iconst dX7_passes_57 (v := 0) (by decide) ?_
        refine g_isub dX7_passes_58 ?_
        refine n_iast (j := j) dX7_passes_59 rfl hW (vld_ma (by decide : 6 < 25)) (by decide) rfl (show j < 10 by omega) ?_
        refine g_aloadR_n dX7_passes_60 rfl rfl ?_
        refine n_getR dX7_passes_61 fX7_35 rfl hW vld_x20 rfl rfl ?_
        refine g_iload_n dX7_passes_64 rfl rfl ?_
        refine g_dup2 dX7_passes_65 rfl rfl ?_
        refine n_iald (j := j) dX7_passes_66 rfl hW (vld_ma (by decide : 3 < 25)) (by decide) rfl (show j < 10 by omega) ?_
        refine g_top (fun z ez => ?_)
        have ez : z = S.2.2 j 2 := ez.trans (by first | exact hv 2 (by decide) | (simp [mI, sI]; exact hv 2 (by decide)))
        subst ez
        refine g_aloadR_n dX7_passes_67 rfl rfl ?_
        refine n_getR dX7_passes_68 fX7_35 rfl hW vld_x20 rfl rfl ?_
        refine g_iload_n dX7_passes_71 rfl rfl ?_
        refine n_iald (j := j) dX7_passes_72 rfl hW (vld_ma (by decide : 3 < 25)) (by decide) rfl (show j < 10 by omega) ?_
        refine g_top (fun z ez => ?_)
        have ez : z = S.2.2 j 2 := ez.trans (by first | exact hv 2 (by decide) | (simp [mI, sI]; exact hv 2 (by decide)))
        subst ez
        refine g_bipush dX7_passes_73 (v := 20) (by decide) ?_
        refine g_icmp_ge (tgt := 82) dX7_passes_75 (by decide) (fun c75 => ?_) (fun c75 => ?_)
        · refine g_iconst dX7_passes_82 (v := 0) (by decide) ?_
          refine g_iadd dX7_passes_83 ?_
          refine n_iast (j := j) dX7_passes_84 rfl hW (vld_ma (by decide : 3 < 25)) (by decide) rfl (show j < 10 by omega) ?_
          refine g_aloadR_n dX7_passes_85 rfl rfl ?_
          refine n_getR dX7_passes_86 fX7_47 rfl hW vld_x20 rfl rfl ?_
          refine g_iload_n dX7_passes_89 rfl rfl ?_
          refine g_iconst dX7_passes_90 (v := 0) (by decide) ?_
          refine n_iast (j := j) dX7_passes_91 rfl hW (vld_ma (by decide : 7 < 25)) (by decide) rfl (show j < 10 by omega) ?_
          refine g_goto (tgt := 170) dX7_passes_92 (by decide) ?_
          refine g_iinc_1 (v := nI (j + 1)) dX7_passes_170 rfl (nI_inc j) ?_
          refine g_goto (tgt := 7) dX7_passes_173 (by decide) ?_
          have h5 := sat5 hp5
          have h2 := sat2 hp2
          rw [if_pos c50] at h5
          rw [if_pos c75] at h2
          refine ih hjn _ (hst.step ((((fr_sI ⟨rfl, by decide, by decide, rfl⟩).tr (fr_sI ⟨rfl, by decide, by decide, rfl⟩)).tr (fr_sI ⟨rfl, by decide, by decide, rfl⟩)).tr (fr_sI ⟨rfl, by decide, by decide, rfl⟩)) (fun f hf9 => ?_))
          have he : endP S (seatS S c) j = satF (S.2.2 j) := if_pos hb
          rw [he]
          have q9 : f = 0 ∨ f = 1 ∨ f = 2 ∨ f = 3 ∨ f = 4 ∨ f = 5 ∨ f = 6 ∨ f = 7 ∨ f = 8 := by omega
          rcases q9 with rfl | rfl | rfl | rfl | rfl | rfl | rfl | rfl | rfl
          · simp [mI, sI, satF]; exact hv 0 (by decide)
          · simp [mI, sI, satF]; exact hv 1 (by decide)
          · show _ = (if S.2.2 j 2 + 1 < 20 then S.2.2 j 2 + 1 else 20)
            rw [← h2]; simp [mI, sI]
          · simp [mI, sI, satF]; exact hv 3 (by decide)
          · simp [mI, sI, satF]; exact hv 4 (by decide)
          · show _ = (if 0 < S.2.2 j 5 - 1 then S.2.2 j 5 - 1 else 0)
            rw [← h5]; simp [mI, sI]
          · simp [mI, sI, satF]
          · simp [mI, sI, satF]
          · simp [mI, sI, satF]; exact hv 8 (by decide)
        · refine g_iconst dX7_passes_78 (v := 1) (by decide) ?_
          refine g_goto (tgt := 83) dX7_passes_79 (by decide) ?_
          refine g_iadd dX7_passes_83 ?_
          refine n_iast (j := j) dX7_passes_84 rfl hW (vld_ma (by decide : 3 < 25)) (by decide) rfl (show j < 10 by omega) ?_
          refine g_aloadR_n dX7_passes_85 rfl rfl ?_
          refine n_getR dX7_passes_86 fX7_47 rfl hW vld_x20 rfl rfl ?_
          refine g_iload_n dX7_passes_89 rfl rfl ?_
          refine g_iconst dX7_passes_90 (v := 0) (by decide) ?_
          refine n_iast (j := j) dX7_passes_91 rfl hW (vld_ma (by decide : 7 < 25)) (by decide) rfl (show j < 10 by omega) ?_
          refine g_goto (tgt := 170) dX7_passes_92 (by decide) ?_
          refine g_iinc_1 (v := nI (j + 1)) dX7_passes_170 rfl (nI_inc j) ?_
          refine g_goto (tgt := 7) dX7_passes_173 (by decide) ?_
          have h5 := sat5 hp5
          have h2 := sat2 hp2
          rw [if_pos c50] at h5
          rw [if_neg c75] at h2
          refine ih hjn _ (hst.step ((((fr_sI ⟨rfl, by decide, by decide, rfl⟩).tr (fr_sI ⟨rfl, by decide, by decide, rfl⟩)).tr (fr_sI ⟨rfl, by decide, by decide, rfl⟩)).tr (fr_sI ⟨rfl, by decide, by decide, rfl⟩)) (fun f hf9 => ?_))
          have he : endP S (seatS S c) j = satF (S.2.2 j) := if_pos hb
          rw [he]
          have q9 : f = 0 ∨ f = 1 ∨ f = 2 ∨ f = 3 ∨ f = 4 ∨ f = 5 ∨ f = 6 ∨ f = 7 ∨ f = 8 := by omega
          rcases q9 with rfl | rfl | rfl | rfl | rfl | rfl | rfl | rfl | rfl
          · simp [mI, sI, satF]; exact hv 0 (by decide)
          · simp [mI, sI, satF]; exact hv 1 (by decide)
          · show _ = (if S.2.2 j 2 + 1 < 20 then S.2.2 j 2 + 1 else 20)
            rw [← h2]; simp [mI, sI]
          · simp [mI, sI, satF]; exact hv 3 (by decide)
          · simp [mI, sI, satF]; exact hv 4 (by decide)
          · show _ = (if 0 < S.2.2 j 5 - 1 then S.2.2 j 5 - 1 else 0)
            rw [← h5]; simp [mI, sI]
          · simp [mI, sI, satF]
          · simp [mI, sI, satF]
          · simp [mI, sI, satF]; exact hv 8 (by decide)
      · refine g_iconst dX7_passes_53 (v := 1) (by decide) ?_
        refine g_goto (tgt := 58) dX7_passes_54 (by decide) ?_
        refine g_isub dX7_passes_58 ?_
        refine n_iast (j := j) dX7_passes_59 rfl hW (vld_ma (by decide : 6 < 25)) (by decide) rfl (show j < 10 by omega) ?_
        refine g_aloadR_n dX7_passes_60 rfl rfl ?_
        refine n_getR dX7_passes_61 fX7_35 rfl hW vld_x20 rfl rfl ?_
        refine g_iload_n dX7_passes_64 rfl rfl ?_
        refine g_dup2 dX7_passes_65 rfl rfl ?_
        refine n_iald (j := j) dX7_passes_66 rfl hW (vld_ma (by decide : 3 < 25)) (by decide) rfl (show j < 10 by omega) ?_
        refine g_top (fun z ez => ?_)
        have ez : z = S.2.2 j 2 := ez.trans (by first | exact hv 2 (by decide) | (simp [mI, sI]; exact hv 2 (by decide)))
        subst ez
        refine g_aloadR_n dX7_passes_67 rfl rfl ?_
        refine n_getR dX7_passes_68 fX7_35 rfl hW vld_x20 rfl rfl ?_
        refine g_iload_n dX7_passes_71 rfl rfl ?_
        refine n_iald (j := j) dX7_passes_72 rfl hW (vld_ma (by decide : 3 < 25)) (by decide) rfl (show j < 10 by omega) ?_
        refine g_top (fun z ez => ?_)
        have ez : z = S.2.2 j 2 := ez.trans (by first | exact hv 2 (by decide) | (simp [mI, sI]; exact hv 2 (by decide)))
        subst ez
        refine g_bipush dX7_passes_73 (v := 20) (by decide) ?_
        refine g_icmp_ge (tgt := 82) dX7_passes_75 (by decide) (fun c75 => ?_) (fun c75 => ?_)
        · refine g_iconst dX7_passes_82 (v := 0) (by decide) ?_
          refine g_iadd dX7_passes_83 ?_
          refine n_iast (j := j) dX7_passes_84 rfl hW (vld_ma (by decide : 3 < 25)) (by decide) rfl (show j < 10 by omega) ?_
          refine g_aloadR_n dX7_passes_85 rfl rfl ?_
          refine n_getR dX7_passes_86 fX7_47 rfl hW vld_x20 rfl rfl ?_
          refine g_iload_n dX7_passes_89 rfl rfl ?_
          refine g_iconst dX7_passes_90 (v := 0) (by decide) ?_
          refine n_iast (j := j) dX7_passes_91 rfl hW (vld_ma (by decide : 7 < 25)) (by decide) rfl (show j < 10 by omega) ?_
          refine g_goto (tgt := 170) dX7_passes_92 (by decide) ?_
          refine g_iinc_1 (v := nI (j + 1)) dX7_passes_170 rfl (nI_inc j) ?_
          refine g_goto (tgt := 7) dX7_passes_173 (by decide) ?_
          have h5 := sat5 hp5
          have h2 := sat2 hp2
          rw [if_neg c50] at h5
          rw [if_pos c75] at h2
          refine ih hjn _ (hst.step ((((fr_sI ⟨rfl, by decide, by decide, rfl⟩).tr (fr_sI ⟨rfl, by decide, by decide, rfl⟩)).tr (fr_sI ⟨rfl, by decide, by decide, rfl⟩)).tr (fr_sI ⟨rfl, by decide, by decide, rfl⟩)) (fun f hf9 => ?_))
          have he : endP S (seatS S c) j = satF (S.2.2 j) := if_pos hb
          rw [he]
          have q9 : f = 0 ∨ f = 1 ∨ f = 2 ∨ f = 3 ∨ f = 4 ∨ f = 5 ∨ f = 6 ∨ f = 7 ∨ f = 8 := by omega
          rcases q9 with rfl | rfl | rfl | rfl | rfl | rfl | rfl | rfl | rfl
          · simp [mI, sI, satF]; exact hv 0 (by decide)
          · simp [mI, sI, satF]; exact hv 1 (by decide)
          · show _ = (if S.2.2 j 2 + 1 < 20 then S.2.2 j 2 + 1 else 20)
            rw [← h2]; simp [mI, sI]
          · simp [mI, sI, satF]; exact hv 3 (by decide)
          · simp [mI, sI, satF]; exact hv 4 (by decide)
          · show _ = (if 0 < S.2.2 j 5 - 1 then S.2.2 j 5 - 1 else 0)
            rw [← h5]; simp [mI, sI]
          · simp [mI, sI, satF]
          · simp [mI, sI, satF]
          · simp [mI, sI, satF]; exact hv 8 (by decide)
        · refine g_iconst dX7_passes_78 (v := 1) (by decide) ?_
          refine g_goto (tgt := 83) dX7_passes_79 (by decide) ?_
          refine g_iadd dX7_passes_83 ?_
          refine n_iast (j := j) dX7_passes_84 rfl hW (vld_ma (by decide : 3 < 25)) (by decide) rfl (show j < 10 by omega) ?_
          refine g_aloadR_n dX7_passes_85 rfl rfl ?_
          refine n_getR dX7_passes_86 fX7_47 rfl hW vld_x20 rfl rfl ?_
          refine g_iload_n dX7_passes_89 rfl rfl ?_
          refine g_iconst dX7_passes_90 (v := 0) (by decide) ?_
          refine n_iast (j := j) dX7_passes_91 rfl hW (vld_ma (by decide : 7 < 25)) (by decide) rfl (show j < 10 by omega) ?_
          refine g_goto (tgt := 170) dX7_passes_92 (by decide) ?_
          refine g_iinc_1 (v := nI (j + 1)) dX7_passes_170 rfl (nI_inc j) ?_
          refine g_goto (tgt := 7) dX7_passes_173 (by decide) ?_
          have h5 := sat5 hp5
          have h2 := sat2 hp2
          rw [if_neg c50] at h5
          rw [if_neg c75] at h2
          refine ih hjn _ (hst.step ((((fr_sI ⟨rfl, by decide, by decide, rfl⟩).tr (fr_sI ⟨rfl, by decide, by decide, rfl⟩)).tr (fr_sI ⟨rfl, by decide, by decide, rfl⟩)).tr (fr_sI ⟨rfl, by decide, by decide, rfl⟩)) (fun f hf9 => ?_))
          have he : endP S (seatS S c) j = satF (S.2.2 j) := if_pos hb
          rw [he]
          have q9 : f = 0 ∨ f = 1 ∨ f = 2 ∨ f = 3 ∨ f = 4 ∨ f = 5 ∨ f = 6 ∨ f = 7 ∨ f = 8 := by omega
          rcases q9 with rfl | rfl | rfl | rfl | rfl | rfl | rfl | rfl | rfl
          · simp [mI, sI, satF]; exact hv 0 (by decide)
          · simp [mI, sI, satF]; exact hv 1 (by decide)
          · show _ = (if S.2.2 j 2 + 1 < 20 then S.2.2 j 2 + 1 else 20)
            rw [← h2]; simp [mI, sI]
          · simp [mI, sI, satF]; exact hv 3 (by decide)
          · simp [mI, sI, satF]; exact hv 4 (by decide)
          · show _ = (if 0 < S.2.2 j 5 - 1 then S.2.2 j 5 - 1 else 0)
            rw [← h5]; simp [mI, sI]
          · simp [mI, sI, satF]
          · simp [mI, sI, satF]
          · simp [mI, sI, satF]; exact hv 8 (by decide)
theorem PaS.z {M0 M : Mem} {S : Sc} {c : Nat} (hf : FrI DC M0 M) (hR : RepR M S) (ho : ComO M S c) : PaS M0 M S c 0 := ⟨hf.mono (fun b f q => Or.inl q), ⟨hR.1, hR.2.1⟩, fun i f hi hf9 => by rw [if_neg (by omega)]; exact hR.2.2 i f hi hf9, ho⟩
set_option maxHeartbeats 4000000 in
set_option maxRecDepth 100000 in
theorem wp_X7_passes {E : Ev} {M : Mem} {Q : QT} (hW : Wi M) {S : Sc} (hR : RepR M S) (hO : OkS S) (h : ∀ M', FrI DP M M' → RepR M' (evS S) → ComO M' S (comersS S 0) → Q none M') : Mth E 3 0 0 kX7_passes [vR (20, 0, 0)] M Q := by
  refine mth_of (by decide +kernel) [some (vR (20, 0, 0)), none] (Nat.le_of_ble_eq_true rfl) rfl ?_
  refine g_aloadR_n dX7_passes_0 rfl rfl ?_
  refine g_iconst dX7_passes_1 (v := 0) (by decide) ?_
  refine n_v1v (n' := 2) dX7_passes_2 mX7_comes lX7_214 rfl hW vld_x20 rfl rfl ⟨Nat.le_of_ble_eq_true rfl, Nat.le_of_ble_eq_true rfl⟩ ⟨Nat.zero_le _, Nat.zero_le _⟩ (Nat.le_of_ble_eq_true rfl) ?_
  refine wp_X7_comes (r := 0) (by exact hW) hR hO (by decide) (fun M1 hf1 ho1 => ?_)
  have hW1 := hf1.W (by exact hW)
  refine ⟨rfl, ?_⟩
  refine g_iconst dX7_passes_5 (v := 0) (by decide) ?_
  refine g_istore_1 dX7_passes_6 rfl ?_
  exact lp_X7_passes hW hO (comersS_lt S 0) h 0 (Nat.zero_le _) M1 (PaS.z hf1 (hR.dc hf1) ho1)
