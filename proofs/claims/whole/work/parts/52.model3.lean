/-! THE REFERENCE: WHAT DRAWS; ALL SAVED AND BACK -/
def DT : Id → Nat → Prop := fun b f => (b.1 = 20 ∧ f = 48) ∨ (b.1 = 21 ∧ b.2.1 = 24)
set_option maxHeartbeats 4000000 in
set_option maxRecDepth 100000 in
theorem wp_X7_body {E : Ev} {M : Mem} {Q : QT} (hW : Wi M) {L : List Int32} (hr : RepTrM M L) (hl : L.length < 100) {b : Int32} (h : ∀ M', FrI DT M M' → RepTrM M' (L ++ [b]) → Q none M') : Mth E 0 0 0 kX7_body [vR (20, 0, 0), vI b] M Q := by
  refine mth_of (by decide +kernel) [some (vR (20, 0, 0)), some (vI b)] (Nat.le_of_ble_eq_true rfl) rfl ?_
  refine g_aloadR_n dX7_body_0 rfl rfl ?_
  refine n_getI dX7_body_1 fX7_271 rfl hW vld_x20 (Or.inl rfl) ?_
  rw [hr.1]
  refine g_bipush dX7_body_4 (v := 20) (by decide) ?_
  rw [show (20 : Int32) = nI 20 from rfl]
  refine g_icmp_ge (tgt := 19) dX7_body_6 (by decide) (fun c6 => ?_) (fun c6 => ?_)
  · rw [nI_leI (by omega) (by omega)] at c6
    refine g_aloadR_n dX7_body_19 rfl rfl ?_
    refine g_dup dX7_body_20 rfl ?_
    refine n_getI dX7_body_21 fX7_271 rfl hW vld_x20 (Or.inl rfl) ?_
    refine g_top (fun z ez => ?_)
    have ez : z = nI L.length := ez.trans (by first | exact hr.1 | (simp [mI, sI]; exact hr.1))
    subst ez
    refine g_iconst dX7_body_24 (v := 1) (by decide) ?_
    refine g_iadd dX7_body_25 ?_
    rw [nI_1]
    refine n_putI dX7_body_26 fX7_271 rfl hW vld_x20 rfl ?_
    refine g_vret dX7_body_29 rfl ?_
    refine h _ (fr_sI (Or.inl ⟨rfl, rfl⟩)) ⟨by simp [mI, sI], fun i hi hl2 => ?_⟩
    rw [List.length_append, List.length_singleton] at hl2
    by_cases q : i < L.length
    · rw [show (L ++ [b]).getD i 0 = L.getD i 0 from by simp [List.getD_eq_getElem?_getD, List.getElem?_append_left q], ← hr.2 i hi q]
      simp [mI, sI, show i ≠ L.length by omega]
    · obtain rfl : i = L.length := by omega
      omega
  · rw [nI_leI (by omega) (by omega)] at c6
    refine g_aloadR_n dX7_body_9 rfl rfl ?_
    refine n_getR dX7_body_10 fX7_99 rfl hW vld_x20 rfl rfl ?_
    refine g_aloadR_n dX7_body_13 rfl rfl ?_
    refine n_getI dX7_body_14 fX7_271 rfl hW vld_x20 (Or.inl rfl) ?_
    rw [hr.1]
    refine g_iload_n dX7_body_17 rfl rfl ?_
    refine n_iast (j := L.length) dX7_body_18 rfl hW (vld_ma (by decide : 24 < 25)) (by decide) rfl (show L.length < 20 by omega) ?_
    refine g_aloadR_n dX7_body_19 rfl rfl ?_
    refine g_dup dX7_body_20 rfl ?_
    refine n_getI dX7_body_21 fX7_271 rfl hW vld_x20 (Or.inl rfl) ?_
    refine g_top (fun z ez => ?_)
    have ez : z = nI L.length := ez.trans (by first | exact hr.1 | (simp [mI, sI]; exact hr.1))
    subst ez
    refine g_iconst dX7_body_24 (v := 1) (by decide) ?_
    refine g_iadd dX7_body_25 ?_
    rw [nI_1]
    refine n_putI dX7_body_26 fX7_271 rfl hW vld_x20 rfl ?_
    refine g_vret dX7_body_29 rfl ?_
    refine h _ ((fr_sI (Or.inr ⟨rfl, rfl⟩)).tr (fr_sI (Or.inl ⟨rfl, rfl⟩))) ⟨by simp [mI, sI], fun i hi hl2 => ?_⟩
    rw [List.length_append, List.length_singleton] at hl2
    by_cases q : i < L.length
    · rw [show (L ++ [b]).getD i 0 = L.getD i 0 from by simp [List.getD_eq_getElem?_getD, List.getElem?_append_left q], ← hr.2 i hi q]
      simp [mI, sI, show i ≠ L.length by omega]
    · obtain rfl : i = L.length := by omega
      simp [mI, sI]
def wlF (f : Nat → Int32) (st w e : Int32) : Int32 := if f 0 = 1 then w + f 1 else if f 0 = 3 ∨ f 0 = 6 then w + f 1 + 2 else if f 0 = 2 then w - f 1 else if f 0 = 4 then w - f 1 - st else if f 0 = 5 then (if mdF (f 1) e = 0 then w else w - 20) else w
theorem wl_off0 : (List.range 21).all (fun a => (List.range 21).all fun b => (if nI a ≤ nI b then nI b - nI a else nI a - nI b) == (if 0 ≤ nI a - nI b then nI a - nI b else 0 - (nI a - nI b))) = true := by decide +kernel
theorem wl_off {l o : Int32} (hl : IN l 21) (ho : IN o 21) : (if l ≤ o then o - l else l - o) = (if 0 ≤ l - o then l - o else 0 - (l - o)) := by
  have h := List.all_eq_true.mp (List.all_eq_true.mp wl_off0 _ (List.mem_range.mpr (IN_nI hl).2)) _ (List.mem_range.mpr (IN_nI ho).2)
  rw [← (IN_nI hl).1, ← (IN_nI ho).1] at h
  simpa using h
theorem wl_two0 : (List.range 10).all (fun a => decide (¬ nI a + 2 = 0) && decide (0 < nI a + 2)) = true := by decide +kernel
theorem wl_two {a : Int32} (ha : IN a 10) : ¬ a + 2 = 0 ∧ 0 < a + 2 := by
  have h := List.all_eq_true.mp wl_two0 _ (List.mem_range.mpr (IN_nI ha).2)
  rw [← (IN_nI ha).1] at h
  simpa using h
set_option maxHeartbeats 4000000 in
set_option maxRecDepth 100000 in
theorem lp_X7_wills3 {E : Ev} {M : Mem} {Q : QT} (hW : Wi M) {S : Sc} (hR : RepR M S) (hO : OkS S) {j : Nat} (hj : j < S.1) {off ah is_ : Int32} (h : Q (some (vI (wlF (S.2.2 j) off is_ (S.2.1 5)))) M) : G E (rm 0 0 0) kX7_wills (ZQ E Q 0 0) 0 0 90 [some (vR (20, 0, 0)), some (vI (nI j)), some (vI off), some (vI ah), some (vI is_)] [] M := by
  have hs10 : S.1 ≤ 10 := hO.1
  have hsz := hR.1
  have htw := wl_two (hO.2.2.2.2.2 j hj).2.1
  refine g_aloadR_n dX7_wills_90 rfl rfl ?_
  refine n_getR dX7_wills_91 fX7_29 rfl hW vld_x20 rfl rfl ?_
  refine g_iload_n dX7_wills_94 rfl rfl ?_
  refine n_iald (j := j) dX7_wills_95 rfl hW (vld_ma (by decide : 1 < 25)) (by decide) rfl (show j < 10 by omega) ?_
  rw [show mI M (21, 1, 0) j = S.2.2 j 0 from hR.2.2 j 0 hj (by decide)]
  refine g_top (fun y96 e96 => ?_)
  by_cases s96_0 : y96 = 1
  · refine g_tableIn (tgt := 136) dX7_wills_96 (by rw [s96_0]; decide) (by rw [s96_0]; decide) (o := 40) (by rw [s96_0]; decide) (by decide) ?_
    refine g_iload dX7_wills_136 rfl ?_
    refine g_aloadR_n dX7_wills_138 rfl rfl ?_
    refine n_getR dX7_wills_139 fX7_32 rfl hW vld_x20 rfl rfl ?_
    refine g_iload_n dX7_wills_142 rfl rfl ?_
    refine n_iald (j := j) dX7_wills_143 rfl hW (vld_ma (by decide : 2 < 25)) (by decide) rfl (show j < 10 by omega) ?_
    rw [show mI M (21, 2, 0) j = S.2.2 j 1 from hR.2.2 j 1 hj (by decide)]
    refine g_iadd dX7_wills_144 ?_
    refine g_iret dX7_wills_145 rfl ?_
    refine qI h ?_
    unfold wlF
    rw [if_pos (show S.2.2 j 0 = 1 by rw [← e96]; exact s96_0)]
  by_cases s96_1 : y96 = 2
  · refine g_tableIn (tgt := 158) dX7_wills_96 (by rw [s96_1]; decide) (by rw [s96_1]; decide) (o := 62) (by rw [s96_1]; decide) (by decide) ?_
    refine g_iload dX7_wills_158 rfl ?_
    refine g_aloadR_n dX7_wills_160 rfl rfl ?_
    refine n_getR dX7_wills_161 fX7_32 rfl hW vld_x20 rfl rfl ?_
    refine g_iload_n dX7_wills_164 rfl rfl ?_
    refine n_iald (j := j) dX7_wills_165 rfl hW (vld_ma (by decide : 2 < 25)) (by decide) rfl (show j < 10 by omega) ?_
    rw [show mI M (21, 2, 0) j = S.2.2 j 1 from hR.2.2 j 1 hj (by decide)]
    refine g_isub dX7_wills_166 ?_
    refine g_iret dX7_wills_167 rfl ?_
    refine qI h ?_
    unfold wlF
    rw [if_neg (show ¬ S.2.2 j 0 = 1 by rw [(show S.2.2 j 0 = 2 by rw [← e96]; exact s96_1)]; decide), if_neg (show ¬ (S.2.2 j 0 = 3 ∨ S.2.2 j 0 = 6) by rw [(show S.2.2 j 0 = 2 by rw [← e96]; exact s96_1)]; decide), if_pos (show S.2.2 j 0 = 2 by rw [← e96]; exact s96_1)]
  by_cases s96_2 : y96 = 3
  · refine g_tableIn (tgt := 146) dX7_wills_96 (by rw [s96_2]; decide) (by rw [s96_2]; decide) (o := 50) (by rw [s96_2]; decide) (by decide) ?_
    refine g_iload dX7_wills_146 rfl ?_
    refine g_aloadR_n dX7_wills_148 rfl rfl ?_
    refine n_getR dX7_wills_149 fX7_32 rfl hW vld_x20 rfl rfl ?_
    refine g_iload_n dX7_wills_152 rfl rfl ?_
    refine n_iald (j := j) dX7_wills_153 rfl hW (vld_ma (by decide : 2 < 25)) (by decide) rfl (show j < 10 by omega) ?_
    rw [show mI M (21, 2, 0) j = S.2.2 j 1 from hR.2.2 j 1 hj (by decide)]
    refine g_iadd dX7_wills_154 ?_
    refine g_iconst dX7_wills_155 (v := 2) (by decide) ?_
    refine g_iadd dX7_wills_156 ?_
    refine g_iret dX7_wills_157 rfl ?_
    refine qI h ?_
    unfold wlF
    first | (rw [if_neg (show ¬ S.2.2 j 0 = 1 by rw [(show S.2.2 j 0 = 3 by rw [← e96]; exact s96_2)]; decide), if_pos (show S.2.2 j 0 = 3 ∨ S.2.2 j 0 = 6 from Or.inl (show S.2.2 j 0 = 3 by rw [← e96]; exact s96_2))]; done) | (rw [if_neg (show ¬ S.2.2 j 0 = 1 by rw [(show S.2.2 j 0 = 6 by rw [← e96]; exact s96_5)]; decide), if_pos (show S.2.2 j 0 = 3 ∨ S.2.2 j 0 = 6 from Or.inr (show S.2.2 j 0 = 6 by rw [← e96]; exact s96_5))]; done)
  by_cases s96_3 : y96 = 4
  · refine g_tableIn (tgt := 168) dX7_wills_96 (by rw [s96_3]; decide) (by rw [s96_3]; decide) (o := 72) (by rw [s96_3]; decide) (by decide) ?_
    refine g_iload dX7_wills_168 rfl ?_
    refine g_aloadR_n dX7_wills_170 rfl rfl ?_
    refine n_getR dX7_wills_171 fX7_32 rfl hW vld_x20 rfl rfl ?_
    refine g_iload_n dX7_wills_174 rfl rfl ?_
    refine n_iald (j := j) dX7_wills_175 rfl hW (vld_ma (by decide : 2 < 25)) (by decide) rfl (show j < 10 by omega) ?_
    rw [show mI M (21, 2, 0) j = S.2.2 j 1 from hR.2.2 j 1 hj (by decide)]
    refine g_isub dX7_wills_176 ?_
    refine g_iload_n dX7_wills_177 rfl rfl ?_
    refine g_isub dX7_wills_178 ?_
    refine g_iret dX7_wills_179 rfl ?_
    refine qI h ?_
    unfold wlF
    rw [if_neg (show ¬ S.2.2 j 0 = 1 by rw [(show S.2.2 j 0 = 4 by rw [← e96]; exact s96_3)]; decide), if_neg (show ¬ (S.2.2 j 0 = 3 ∨ S.2.2 j 0 = 6) by rw [(show S.2.2 j 0 = 4 by rw [← e96]; exact s96_3)]; decide), if_neg (show ¬ S.2.2 j 0 = 2 by rw [(show S.2.2 j 0 = 4 by rw [← e96]; exact s96_3)]; decide), if_pos (show S.2.2 j 0 = 4 by rw [← e96]; exact s96_3)]
  by_cases s96_4 : y96 = 5
  · refine g_tableIn (tgt := 180) dX7_wills_96 (by rw [s96_4]; decide) (by rw [s96_4]; decide) (o := 84) (by rw [s96_4]; decide) (by decide) ?_
    refine g_aloadR_n dX7_wills_180 rfl rfl ?_
    refine n_getI dX7_wills_181 fX7_183 rfl hW vld_x20 (Or.inl rfl) ?_
    rw [show mI M (20, 0, 0) 5 = S.2.1 5 from hR.2.1 5 (by decide) (by decide)]
    refine g_aloadR_n dX7_wills_184 rfl rfl ?_
    refine n_getR dX7_wills_185 fX7_32 rfl hW vld_x20 rfl rfl ?_
    refine g_iload_n dX7_wills_188 rfl rfl ?_
    refine n_iald (j := j) dX7_wills_189 rfl hW (vld_ma (by decide : 2 < 25)) (by decide) rfl (show j < 10 by omega) ?_
    rw [show mI M (21, 2, 0) j = S.2.2 j 1 from hR.2.2 j 1 hj (by decide)]
    refine g_iconst dX7_wills_190 (v := 2) (by decide) ?_
    refine g_iadd dX7_wills_191 ?_
    refine g_irem dX7_wills_192 htw.1 ?_
    refine g_if_ne (tgt := 204) dX7_wills_193 (by decide) (fun c193 => ?_) (fun c193 => ?_)
    · refine g_iload dX7_wills_204 rfl ?_
      refine g_iret dX7_wills_206 rfl ?_
      refine qI h ?_
      unfold wlF
      rw [if_neg (show ¬ S.2.2 j 0 = 1 by rw [(show S.2.2 j 0 = 5 by rw [← e96]; exact s96_4)]; decide), if_neg (show ¬ (S.2.2 j 0 = 3 ∨ S.2.2 j 0 = 6) by rw [(show S.2.2 j 0 = 5 by rw [← e96]; exact s96_4)]; decide), if_neg (show ¬ S.2.2 j 0 = 2 by rw [(show S.2.2 j 0 = 5 by rw [← e96]; exact s96_4)]; decide), if_neg (show ¬ S.2.2 j 0 = 4 by rw [(show S.2.2 j 0 = 5 by rw [← e96]; exact s96_4)]; decide), if_pos (show S.2.2 j 0 = 5 by rw [← e96]; exact s96_4)]
      rw [if_pos (show mdF (S.2.2 j 1) (S.2.1 5) = 0 from b2_0.mpr (fun q => c193 q.2))]
    · refine g_iload dX7_wills_196 rfl ?_
      refine g_bipush dX7_wills_198 (v := 20) (by decide) ?_
      refine g_isub dX7_wills_200 ?_
      refine g_goto (tgt := 206) dX7_wills_201 (by decide) ?_
      refine g_iret dX7_wills_206 rfl ?_
      have c193 : S.2.1 5 - S.2.1 5 / (S.2.2 j 1 + 2) * (S.2.2 j 1 + 2) = 0 := by first | exact c193 | exact Decidable.not_not.mp c193
      refine qI h ?_
      unfold wlF
      rw [if_neg (show ¬ S.2.2 j 0 = 1 by rw [(show S.2.2 j 0 = 5 by rw [← e96]; exact s96_4)]; decide), if_neg (show ¬ (S.2.2 j 0 = 3 ∨ S.2.2 j 0 = 6) by rw [(show S.2.2 j 0 = 5 by rw [← e96]; exact s96_4)]; decide), if_neg (show ¬ S.2.2 j 0 = 2 by rw [(show S.2.2 j 0 = 5 by rw [← e96]; exact s96_4)]; decide), if_neg (show ¬ S.2.2 j 0 = 4 by rw [(show S.2.2 j 0 = 5 by rw [← e96]; exact s96_4)]; decide), if_pos (show S.2.2 j 0 = 5 by rw [← e96]; exact s96_4)]
      rw [if_neg (show ¬ mdF (S.2.2 j 1) (S.2.1 5) = 0 from fun q => (b2_0.mp q) ⟨htw.2, c193⟩)]
  by_cases s96_5 : y96 = 6
  · refine g_tableIn (tgt := 146) dX7_wills_96 (by rw [s96_5]; decide) (by rw [s96_5]; decide) (o := 50) (by rw [s96_5]; decide) (by decide) ?_
    refine g_iload dX7_wills_146 rfl ?_
    refine g_aloadR_n dX7_wills_148 rfl rfl ?_
    refine n_getR dX7_wills_149 fX7_32 rfl hW vld_x20 rfl rfl ?_
    refine g_iload_n dX7_wills_152 rfl rfl ?_
    refine n_iald (j := j) dX7_wills_153 rfl hW (vld_ma (by decide : 2 < 25)) (by decide) rfl (show j < 10 by omega) ?_
    rw [show mI M (21, 2, 0) j = S.2.2 j 1 from hR.2.2 j 1 hj (by decide)]
    refine g_iadd dX7_wills_154 ?_
    refine g_iconst dX7_wills_155 (v := 2) (by decide) ?_
    refine g_iadd dX7_wills_156 ?_
    refine g_iret dX7_wills_157 rfl ?_
    refine qI h ?_
    unfold wlF
    first | (rw [if_neg (show ¬ S.2.2 j 0 = 1 by rw [(show S.2.2 j 0 = 3 by rw [← e96]; exact s96_2)]; decide), if_pos (show S.2.2 j 0 = 3 ∨ S.2.2 j 0 = 6 from Or.inl (show S.2.2 j 0 = 3 by rw [← e96]; exact s96_2))]; done) | (rw [if_neg (show ¬ S.2.2 j 0 = 1 by rw [(show S.2.2 j 0 = 6 by rw [← e96]; exact s96_5)]; decide), if_pos (show S.2.2 j 0 = 3 ∨ S.2.2 j 0 = 6 from Or.inr (show S.2.2 j 0 = 6 by rw [← e96]; exact s96_5))]; done)
  refine g_tableOut (tgt := 207) dX7_wills_96 (by have t0 : ¬ y96.toInt = 1 := sw_ne s96_0; have t1 : ¬ y96.toInt = 2 := sw_ne s96_1; have t2 : ¬ y96.toInt = 3 := sw_ne s96_2; have t3 : ¬ y96.toInt = 4 := sw_ne s96_3; have t4 : ¬ y96.toInt = 5 := sw_ne s96_4; have t5 : ¬ y96.toInt = 6 := sw_ne s96_5; omega) (by decide) ?_
  refine g_iload dX7_wills_207 rfl ?_
  refine g_iret dX7_wills_209 rfl ?_
  refine qI h ?_
  unfold wlF
  rw [if_neg (show ¬ S.2.2 j 0 = 1 by rw [← e96]; exact s96_0), if_neg (show ¬ (S.2.2 j 0 = 3 ∨ S.2.2 j 0 = 6) by rw [← e96]; exact fun q => q.elim s96_2 s96_5), if_neg (show ¬ S.2.2 j 0 = 2 by rw [← e96]; exact s96_1), if_neg (show ¬ S.2.2 j 0 = 4 by rw [← e96]; exact s96_3), if_neg (show ¬ S.2.2 j 0 = 5 by rw [← e96]; exact s96_4)]
set_option maxHeartbeats 4000000 in
set_option maxRecDepth 100000 in
theorem lp_X7_wills2 {E : Ev} {M : Mem} {Q : QT} (hW : Wi M) {S : Sc} (hR : RepR M S) (hO : OkS S) {j : Nat} (hj : j < S.1) {st : Int32} (h : Q (some (vI (wlF (S.2.2 j) st (12 - S.2.1 2 - st - 2 * S.2.2 j 5 + (if S.2.2 j 3 = 0 then 0 else (if 0 < 4 - S.2.1 5 / 3 then 4 - S.2.1 5 / 3 else 0))) (S.2.1 5)))) M) : G E (rm 0 0 0) kX7_wills (ZQ E Q 0 0) 0 0 50 [some (vR (20, 0, 0)), some (vI (nI j)), some (vI st), some (vI (4 - S.2.1 5 / 3)), none] [] M := by
  have hs10 : S.1 ≤ 10 := hO.1
  have hsz := hR.1
  refine g_bipush dX7_wills_50 (v := 12) (by decide) ?_
  refine g_aloadR_n dX7_wills_52 rfl rfl ?_
  refine n_getI dX7_wills_53 fX7_131 rfl hW vld_x20 (Or.inl rfl) ?_
  rw [show mI M (20, 0, 0) 2 = S.2.1 2 from hR.2.1 2 (by decide) (by decide)]
  refine g_isub dX7_wills_56 ?_
  refine g_iload_n dX7_wills_57 rfl rfl ?_
  refine g_isub dX7_wills_58 ?_
  refine g_iconst dX7_wills_59 (v := 2) (by decide) ?_
  refine g_aloadR_n dX7_wills_60 rfl rfl ?_
  refine n_getR dX7_wills_61 fX7_44 rfl hW vld_x20 rfl rfl ?_
  refine g_iload_n dX7_wills_64 rfl rfl ?_
  refine n_iald (j := j) dX7_wills_65 rfl hW (vld_ma (by decide : 6 < 25)) (by decide) rfl (show j < 10 by omega) ?_
  rw [show mI M (21, 6, 0) j = S.2.2 j 5 from hR.2.2 j 5 hj (by decide)]
  refine g_imul dX7_wills_66 ?_
  refine g_isub dX7_wills_67 ?_
  refine g_istore_4 dX7_wills_68 rfl ?_
  refine g_aloadR_n dX7_wills_70 rfl rfl ?_
  refine n_getR dX7_wills_71 fX7_38 rfl hW vld_x20 rfl rfl ?_
  refine g_iload_n dX7_wills_74 rfl rfl ?_
  refine n_iald (j := j) dX7_wills_75 rfl hW (vld_ma (by decide : 4 < 25)) (by decide) rfl (show j < 10 by omega) ?_
  rw [show mI M (21, 4, 0) j = S.2.2 j 3 from hR.2.2 j 3 hj (by decide)]
  refine g_iconst dX7_wills_76 (v := 1) (by decide) ?_
  refine g_icmp_ne (tgt := 90) dX7_wills_77 (by decide) (fun c77 => ?_) (fun c77 => ?_)
  · have c77 : S.2.2 j 3 = 0 := ((hO.z hj).1).resolve_right c77
    rw [if_pos c77, Int32.add_zero] at h
    exact lp_X7_wills3 hW hR hO hj h
  · refine g_iload_n dX7_wills_80 rfl rfl ?_
    refine g_if_le (tgt := 90) dX7_wills_81 (by decide) (fun c81 => ?_) (fun c81 => ?_)
    · have c77 : ¬ S.2.2 j 3 = 0 := by
        have c77 : S.2.2 j 3 = 1 := by first | exact c77 | exact Decidable.not_not.mp c77
        rw [c77]; decide
      rw [if_neg c77] at h
      rw [if_neg (Int32.not_lt.mpr c81), Int32.add_zero] at h
      exact lp_X7_wills3 hW hR hO hj h
    · refine g_iload dX7_wills_84 rfl ?_
      refine g_iload_n dX7_wills_86 rfl rfl ?_
      refine g_iadd dX7_wills_87 ?_
      refine g_istore_4 dX7_wills_88 rfl ?_
      have c77 : ¬ S.2.2 j 3 = 0 := by
        have c77 : S.2.2 j 3 = 1 := by first | exact c77 | exact Decidable.not_not.mp c77
        rw [c77]; decide
      rw [if_neg c77] at h
      rw [if_pos (Int32.not_le.mp c81)] at h
      exact lp_X7_wills3 hW hR hO hj h
set_option maxHeartbeats 4000000 in
set_option maxRecDepth 100000 in
theorem wp_X7_wills {E : Ev} {M : Mem} {Q : QT} (hW : Wi M) {S : Sc} (hR : RepR M S) (hO : OkS S) {j : Nat} {x : Int32} (hx : x = nI j) (hj : j < S.1) (h : Q (some (vI (willS S j))) M) : Mth E 0 0 0 kX7_wills [vR (20, 0, 0), vI x] M Q := by
  subst hx
  have hs10 : S.1 ≤ 10 := hO.1
  have hsz := hR.1
  have hof := wl_off hO.2.1 (hO.2.2.2.2.2 j hj).2.2.1
  refine mth_of (by decide +kernel) [some (vR (20, 0, 0)), some (vI (nI j)), none, none, none] (Nat.le_of_ble_eq_true rfl) rfl ?_
  refine g_aloadR_n dX7_wills_0 rfl rfl ?_
  refine n_getI dX7_wills_1 fX7_7 rfl hW vld_x20 (Or.inl rfl) ?_
  rw [show mI M (20, 0, 0) 1 = S.2.1 1 from hR.2.1 1 (by decide) (by decide)]
  refine g_aloadR_n dX7_wills_4 rfl rfl ?_
  refine n_getR dX7_wills_5 fX7_35 rfl hW vld_x20 rfl rfl ?_
  refine g_iload_n dX7_wills_8 rfl rfl ?_
  refine n_iald (j := j) dX7_wills_9 rfl hW (vld_ma (by decide : 3 < 25)) (by decide) rfl (show j < 10 by omega) ?_
  rw [show mI M (21, 3, 0) j = S.2.2 j 2 from hR.2.2 j 2 hj (by decide)]
  refine g_icmp_le (tgt := 27) dX7_wills_10 (by decide) (fun c10 => ?_) (fun c10 => ?_)
  · refine g_aloadR_n dX7_wills_27 rfl rfl ?_
    refine n_getR dX7_wills_28 fX7_35 rfl hW vld_x20 rfl rfl ?_
    refine g_iload_n dX7_wills_31 rfl rfl ?_
    refine n_iald (j := j) dX7_wills_32 rfl hW (vld_ma (by decide : 3 < 25)) (by decide) rfl (show j < 10 by omega) ?_
    rw [show mI M (21, 3, 0) j = S.2.2 j 2 from hR.2.2 j 2 hj (by decide)]
    refine g_aloadR_n dX7_wills_33 rfl rfl ?_
    refine n_getI dX7_wills_34 fX7_7 rfl hW vld_x20 (Or.inl rfl) ?_
    rw [show mI M (20, 0, 0) 1 = S.2.1 1 from hR.2.1 1 (by decide) (by decide)]
    refine g_isub dX7_wills_37 ?_
    refine g_iconst dX7_wills_38 (v := 2) (by decide) ?_
    refine g_idiv dX7_wills_39 (by decide) ?_
    refine g_istore_2 dX7_wills_40 rfl ?_
    refine g_iconst dX7_wills_41 (v := 4) (by decide) ?_
    refine g_aloadR_n dX7_wills_42 rfl rfl ?_
    refine n_getI dX7_wills_43 fX7_183 rfl hW vld_x20 (Or.inl rfl) ?_
    rw [show mI M (20, 0, 0) 5 = S.2.1 5 from hR.2.1 5 (by decide) (by decide)]
    refine g_iconst dX7_wills_46 (v := 3) (by decide) ?_
    refine g_idiv dX7_wills_47 (by decide) ?_
    refine g_isub dX7_wills_48 ?_
    refine g_istore_3 dX7_wills_49 rfl ?_
    rw [if_pos c10] at hof
    rw [hof]
    exact lp_X7_wills2 hW hR hO hj h
  · refine g_aloadR_n dX7_wills_13 rfl rfl ?_
    refine n_getI dX7_wills_14 fX7_7 rfl hW vld_x20 (Or.inl rfl) ?_
    rw [show mI M (20, 0, 0) 1 = S.2.1 1 from hR.2.1 1 (by decide) (by decide)]
    refine g_aloadR_n dX7_wills_17 rfl rfl ?_
    refine n_getR dX7_wills_18 fX7_35 rfl hW vld_x20 rfl rfl ?_
    refine g_iload_n dX7_wills_21 rfl rfl ?_
    refine n_iald (j := j) dX7_wills_22 rfl hW (vld_ma (by decide : 3 < 25)) (by decide) rfl (show j < 10 by omega) ?_
    rw [show mI M (21, 3, 0) j = S.2.2 j 2 from hR.2.2 j 2 hj (by decide)]
    refine g_isub dX7_wills_23 ?_
    refine g_goto (tgt := 38) dX7_wills_24 (by decide) ?_
    refine g_iconst dX7_wills_38 (v := 2) (by decide) ?_
    refine g_idiv dX7_wills_39 (by decide) ?_
    refine g_istore_2 dX7_wills_40 rfl ?_
    refine g_iconst dX7_wills_41 (v := 4) (by decide) ?_
    refine g_aloadR_n dX7_wills_42 rfl rfl ?_
    refine n_getI dX7_wills_43 fX7_183 rfl hW vld_x20 (Or.inl rfl) ?_
    rw [show mI M (20, 0, 0) 5 = S.2.1 5 from hR.2.1 5 (by decide) (by decide)]
    refine g_iconst dX7_wills_46 (v := 3) (by decide) ?_
    refine g_idiv dX7_wills_47 (by decide) ?_
    refine g_isub dX7_wills_48 ?_
    refine g_istore_3 dX7_wills_49 rfl ?_
    rw [if_neg c10] at hof
    rw [hof]
    exact lp_X7_wills2 hW hR hO hj h
set_option maxHeartbeats 4000000 in
set_option maxRecDepth 100000 in
theorem lp_X7_carries0 {E : Ev} {M : Mem} {Q : QT} (hW : Wi M) {f b : Nat} (hf : f < 9) (hb : b = 20 ∨ b = 21 ∨ b = 22) (h : ∀ M', FrI (fun q i => q = (21, b, 0) ∧ 10 * f ≤ i ∧ i < 10 * f + 10) M M' → (∀ i, i < 10 → mI M' (21, b, 0) (10 * f + i) = mI M (21, f + 1, 0) i) → Q (some (vI (nI (10 * f + 10)))) M') : ∀ j, j ≤ 10 → ∀ (M1 : Mem), FrI (fun q i => q = (21, b, 0) ∧ 10 * f ≤ i ∧ i < 10 * f + 10) M M1 → (∀ i, i < j → mI M1 (21, b, 0) (10 * f + i) = mI M (21, f + 1, 0) i) → G E (rm 0 0 0) kX7_carries (ZQ E Q 0 0) 0 0 3 [some (vR (20, 0, 0)), some (vR (21, f + 1, 0)), some (vR (21, b, 0)), some (vI (nI (10 * f))), some (vI 0), some (vI (nI j))] [] M1 := by
  refine up_loop 10 (fun j hj ih M1 hfr hd => ?_)
  have hW1 := hfr.W hW
  have hsf : shp (21, f + 1, 0) = (1, 10) := by
    have q9 : f = 0 ∨ f = 1 ∨ f = 2 ∨ f = 3 ∨ f = 4 ∨ f = 5 ∨ f = 6 ∨ f = 7 ∨ f = 8 := by omega
    rcases q9 with rfl | rfl | rfl | rfl | rfl | rfl | rfl | rfl | rfl <;> rfl
  have hsb : shp (21, b, 0) = (1, 100) := by rcases hb with rfl | rfl | rfl <;> rfl
  have hb25 : b < 25 := by omega
  refine g_iload dX7_carries_3 rfl ?_
  refine g_bipush dX7_carries_5 (v := 10) (by decide) ?_
  refine g_icmp_ge (tgt := 44) dX7_carries_7 (by decide) (fun c7 => ?_) (fun c7 => ?_)
  · rw [show (10 : Int32) = nI 10 from rfl] at c7
    have hjn2 : j = 10 := by rw [nI_leI (by omega) (by omega)] at c7; omega
    refine g_iload_n dX7_carries_44 rfl rfl ?_
    refine g_bipush dX7_carries_45 (v := 10) (by decide) ?_
    skip
    refine g_iadd dX7_carries_47 ?_
    rw [show nI (10 * f) + 10 = nI (10 * f + 10) from nI_add _ 10]
    refine g_iret dX7_carries_48 rfl ?_
    subst hjn2
    exact h _ hfr hd
  · rw [show (10 : Int32) = nI 10 from rfl] at c7
    have hjn : j < 10 := by rw [nI_leI (by omega) (by omega)] at c7; omega
    refine g_iload dX7_carries_10 rfl ?_
    refine g_if_eq (tgt := 28) dX7_carries_12 (by decide) (fun c12 => ?_) (fun c12 => ?_)
    · refine g_aloadR_n dX7_carries_28 rfl rfl ?_
      refine g_iload_n dX7_carries_29 rfl rfl ?_
      refine g_iload dX7_carries_30 rfl ?_
      refine g_iadd dX7_carries_32 ?_
      refine g_aloadR_n dX7_carries_33 rfl rfl ?_
      refine g_iload dX7_carries_34 rfl ?_
      refine n_iald (j := j) dX7_carries_36 hsf hW1 (vld_ma (by omega : f + 1 < 25)) (by decide) rfl (show j < 10 by omega) ?_
      refine n_iast (j := 10 * f + j) dX7_carries_37 hsb hW1 (vld_ma hb25) (by decide) (nI_add _ _) (show 10 * f + j < 100 by omega) ?_
      refine g_iinc_5 (v := nI (j + 1)) dX7_carries_38 rfl (nI_inc j) ?_
      refine g_goto (tgt := 3) dX7_carries_41 (by decide) ?_
      refine ih hjn _ (hfr.tr (fr_sI ⟨rfl, by omega, by omega⟩)) (fun i hi => ?_)
      by_cases q : i = j
      · subst q
        simp only [mI, sI]
        rw [if_pos ⟨trivial, trivial⟩]
        exact (hfr.2 _ _ (fun q => by have := q.1; injection this with _ z; injection z with z _; omega))
      · simp only [mI, sI]
        rw [if_neg (fun z => by have := z.2; omega)]
        exact hd i (by omega)
    · exact absurd c12 (by decide)
set_option maxHeartbeats 4000000 in
set_option maxRecDepth 100000 in
theorem wp_X7_carries0 {E : Ev} {M : Mem} {Q : QT} (hW : Wi M) {f b : Nat} (hf : f < 9) (hb : b = 20 ∨ b = 21 ∨ b = 22) {F : Int32} (hF : F = nI (10 * f)) (h : ∀ M', FrI (fun q i => q = (21, b, 0) ∧ 10 * f ≤ i ∧ i < 10 * f + 10) M M' → (∀ i, i < 10 → mI M' (21, b, 0) (10 * f + i) = mI M (21, f + 1, 0) i) → Q (some (vI (nI (10 * f + 10)))) M') : Mth E 0 0 0 kX7_carries [vR (20, 0, 0), vR (21, f + 1, 0), vR (21, b, 0), vI F, vI 0] M Q := by
  subst hF
  refine mth_of (by decide +kernel) [some (vR (20, 0, 0)), some (vR (21, f + 1, 0)), some (vR (21, b, 0)), some (vI (nI (10 * f))), some (vI 0), none] (Nat.le_of_ble_eq_true rfl) rfl ?_
  refine g_iconst dX7_carries_0 (v := 0) (by decide) ?_
  refine g_istore_5 dX7_carries_1 rfl ?_
  exact lp_X7_carries0 hW hf hb h 0 (Nat.zero_le _) M FrI.rf (fun i hi => absurd hi (by omega))
set_option maxHeartbeats 4000000 in
set_option maxRecDepth 100000 in
theorem lp_X7_carries1 {E : Ev} {M : Mem} {Q : QT} (hW : Wi M) {f b : Nat} (hf : f < 9) (hb : b = 20 ∨ b = 21 ∨ b = 22) (h : ∀ M', FrI (fun q i => q = (21, f + 1, 0) ∧ i < 10) M M' → (∀ i, i < 10 → mI M' (21, f + 1, 0) i = mI M (21, b, 0) (10 * f + i)) → Q (some (vI (nI (10 * f + 10)))) M') : ∀ j, j ≤ 10 → ∀ (M1 : Mem), FrI (fun q i => q = (21, f + 1, 0) ∧ i < 10) M M1 → (∀ i, i < j → mI M1 (21, f + 1, 0) i = mI M (21, b, 0) (10 * f + i)) → G E (rm 0 0 0) kX7_carries (ZQ E Q 0 0) 0 0 3 [some (vR (20, 0, 0)), some (vR (21, f + 1, 0)), some (vR (21, b, 0)), some (vI (nI (10 * f))), some (vI 1), some (vI (nI j))] [] M1 := by
  refine up_loop 10 (fun j hj ih M1 hfr hd => ?_)
  have hW1 := hfr.W hW
  have hsf : shp (21, f + 1, 0) = (1, 10) := by
    have q9 : f = 0 ∨ f = 1 ∨ f = 2 ∨ f = 3 ∨ f = 4 ∨ f = 5 ∨ f = 6 ∨ f = 7 ∨ f = 8 := by omega
    rcases q9 with rfl | rfl | rfl | rfl | rfl | rfl | rfl | rfl | rfl <;> rfl
  have hsb : shp (21, b, 0) = (1, 100) := by rcases hb with rfl | rfl | rfl <;> rfl
  have hb25 : b < 25 := by omega
  refine g_iload dX7_carries_3 rfl ?_
  refine g_bipush dX7_carries_5 (v := 10) (by decide) ?_
  refine g_icmp_ge (tgt := 44) dX7_carries_7 (by decide) (fun c7 => ?_) (fun c7 => ?_)
  · rw [show (10 : Int32) = nI 10 from rfl] at c7
    have hjn2 : j = 10 := by rw [nI_leI (by omega) (by omega)] at c7; omega
    refine g_iload_n dX7_carries_44 rfl rfl ?_
    refine g_bipush dX7_carries_45 (v := 10) (by decide) ?_
    skip
    refine g_iadd dX7_carries_47 ?_
    rw [show nI (10 * f) + 10 = nI (10 * f + 10) from nI_add _ 10]
    refine g_iret dX7_carries_48 rfl ?_
    subst hjn2
    exact h _ hfr hd
  · rw [show (10 : Int32) = nI 10 from rfl] at c7
    have hjn : j < 10 := by rw [nI_leI (by omega) (by omega)] at c7; omega
    refine g_iload dX7_carries_10 rfl ?_
    refine g_if_eq (tgt := 28) dX7_carries_12 (by decide) (fun c12 => ?_) (fun c12 => ?_)
    · exact absurd c12 (by decide)
    · refine g_aloadR_n dX7_carries_15 rfl rfl ?_
      refine g_iload dX7_carries_16 rfl ?_
      refine g_aloadR_n dX7_carries_18 rfl rfl ?_
      refine g_iload_n dX7_carries_19 rfl rfl ?_
      refine g_iload dX7_carries_20 rfl ?_
      refine g_iadd dX7_carries_22 ?_
      refine n_iald (j := 10 * f + j) dX7_carries_23 hsb hW1 (vld_ma hb25) (by decide) (nI_add _ _) (show 10 * f + j < 100 by omega) ?_
      refine n_iast (j := j) dX7_carries_24 hsf hW1 (vld_ma (by omega : f + 1 < 25)) (by decide) rfl (show j < 10 by omega) ?_
      refine g_goto (tgt := 38) dX7_carries_25 (by decide) ?_
      refine g_iinc_5 (v := nI (j + 1)) dX7_carries_38 rfl (nI_inc j) ?_
      refine g_goto (tgt := 3) dX7_carries_41 (by decide) ?_
      refine ih hjn _ (hfr.tr (fr_sI ⟨rfl, by omega⟩)) (fun i hi => ?_)
      by_cases q : i = j
      · subst q
        simp only [mI, sI]
        rw [if_pos ⟨trivial, trivial⟩]
        exact (hfr.2 _ _ (fun q => by have := q.1; injection this with _ z; injection z with z _; omega))
      · simp only [mI, sI]
        rw [if_neg (fun z => by have := z.2; omega)]
        exact hd i (by omega)
set_option maxHeartbeats 4000000 in
set_option maxRecDepth 100000 in
theorem wp_X7_carries1 {E : Ev} {M : Mem} {Q : QT} (hW : Wi M) {f b : Nat} (hf : f < 9) (hb : b = 20 ∨ b = 21 ∨ b = 22) {F : Int32} (hF : F = nI (10 * f)) (h : ∀ M', FrI (fun q i => q = (21, f + 1, 0) ∧ i < 10) M M' → (∀ i, i < 10 → mI M' (21, f + 1, 0) i = mI M (21, b, 0) (10 * f + i)) → Q (some (vI (nI (10 * f + 10)))) M') : Mth E 0 0 0 kX7_carries [vR (20, 0, 0), vR (21, f + 1, 0), vR (21, b, 0), vI F, vI 1] M Q := by
  subst hF
  refine mth_of (by decide +kernel) [some (vR (20, 0, 0)), some (vR (21, f + 1, 0)), some (vR (21, b, 0)), some (vI (nI (10 * f))), some (vI 1), none] (Nat.le_of_ble_eq_true rfl) rfl ?_
  refine g_iconst dX7_carries_0 (v := 0) (by decide) ?_
  refine g_istore_5 dX7_carries_1 rfl ?_
  exact lp_X7_carries1 hW hf hb h 0 (Nat.zero_le _) M FrI.rf (fun i hi => absurd hi (by omega))
def SvP (M M1 : Mem) (b f : Nat) : Prop := FrI (fun q _ => q = (21, b, 0)) M M1 ∧ ∀ f' i, f' < f → i < 10 → mI M1 (21, b, 0) (10 * f' + i) = mI M (21, f' + 1, 0) i
theorem SvP.z {M : Mem} {b : Nat} : SvP M M b 0 := ⟨FrI.rf, fun f' i h => absurd h (by omega)⟩
theorem SvP.step {M M1 M2 : Mem} {b f : Nat} (h : SvP M M1 b f) (hf9 : f < 9) (hb : b = 20 ∨ b = 21 ∨ b = 22) (hf : FrI (fun q i => q = (21, b, 0) ∧ 10 * f ≤ i ∧ i < 10 * f + 10) M1 M2) (hc : ∀ i, i < 10 → mI M2 (21, b, 0) (10 * f + i) = mI M1 (21, f + 1, 0) i) : SvP M M2 b (f + 1) := by
  refine ⟨h.1.tr (hf.mono (fun q i z => z.1)), fun f' i hf' hi => ?_⟩
  by_cases q : f' = f
  · subst q; rw [hc i hi]; exact h.1.2 _ _ (fun z => by injection z with _ z; injection z with z _; omega)
  · rw [hf.2 _ _ (fun z => by have := z.2; omega)]; exact h.2 f' i (by omega) hi
def BkP (M M1 : Mem) (b f : Nat) : Prop := FrI (fun q _ => q.1 = 21 ∧ 1 ≤ q.2.1 ∧ q.2.1 ≤ 9) M M1 ∧ ∀ f' i, f' < f → i < 10 → mI M1 (21, f' + 1, 0) i = mI M (21, b, 0) (10 * f' + i)
theorem BkP.z {M : Mem} {b : Nat} : BkP M M b 0 := ⟨FrI.rf, fun f' i h => absurd h (by omega)⟩
theorem BkP.step {M M1 M2 : Mem} {b f : Nat} (h : BkP M M1 b f) (hf9 : f < 9) (hb : b = 20 ∨ b = 21 ∨ b = 22) (hf : FrI (fun q i => q = (21, f + 1, 0) ∧ i < 10) M1 M2) (hc : ∀ i, i < 10 → mI M2 (21, f + 1, 0) i = mI M1 (21, b, 0) (10 * f + i)) : BkP M M2 b (f + 1) := by
  refine ⟨h.1.tr (hf.mono (fun q i z => by have := z.1; subst this; exact ⟨rfl, by show 1 ≤ f + 1; omega, by show f + 1 ≤ 9; omega⟩)), fun f' i hf' hi => ?_⟩
  by_cases q : f' = f
  · subst q; rw [hc i hi]; exact h.1.2 _ _ (fun z => by have := z.2; simp only at this; omega)
  · rw [hf.2 _ _ (fun z => by have := z.1; injection this with _ z; injection z with z _; omega)]; exact h.2 f' i (by omega) hi
theorem SvP.g {M M1 : Mem} {b f : Nat} (h : SvP M M1 b f) (j : Nat) : mI M1 (20, 0, 0) j = mI M (20, 0, 0) j := h.1.2 _ _ (fun q => by cases q)
set_option maxHeartbeats 4000000 in
set_option maxRecDepth 100000 in
theorem wp_X7_all0 {E : Ev} {M : Mem} {Q : QT} (hW : Wi M) {S : Sc} (hR : RepR M S) (hO : OkS S) {b : Nat} (hb : b = 20 ∨ b = 21 ∨ b = 22) (h : ∀ M', FrI (fun q _ => q = (21, b, 0)) M M' → RepSv M' b S → Q none M') : Mth E 1 0 0 kX7_all [vR (20, 0, 0), vR (21, b, 0), vI 0] M Q := by
  have hsb : shp (21, b, 0) = (1, 100) := by rcases hb with rfl | rfl | rfl <;> rfl
  have hb25 : b < 25 := by omega
  refine mth_of (by decide +kernel) [some (vR (20, 0, 0)), some (vR (21, b, 0)), some (vI 0), none] (Nat.le_of_ble_eq_true rfl) rfl ?_
  refine g_aloadR_n dX7_all_0 rfl rfl ?_
  refine g_aloadR_n dX7_all_1 rfl rfl ?_
  refine n_getR dX7_all_2 fX7_29 rfl hW vld_x20 rfl rfl ?_
  refine g_aloadR_n dX7_all_5 rfl rfl ?_
  refine g_iconst dX7_all_6 (v := 0) (by decide) ?_
  refine g_iload_n dX7_all_7 rfl rfl ?_
  refine n_v4i (n' := 0) dX7_all_8 mX7_carries lX7_179 rfl hW vld_x20 rfl rfl ⟨Nat.le_of_ble_eq_true rfl, Nat.le_of_ble_eq_true rfl⟩ ⟨Nat.zero_le _, Nat.zero_le _⟩ (Nat.le_of_ble_eq_true rfl) ?_
  refine wp_X7_carries0 (f := 0) (by exact hW) (by decide) hb (by rfl) (fun M0a hf0 hc0 => ?_)
  have hs0 : SvP M M0a b 1 := SvP.step (f := 0) SvP.z (by decide) hb hf0 hc0
  have hW1 := hf0.W (by exact hW)
  refine ⟨_, rfl, ?_⟩
  refine g_istore_3 dX7_all_11 rfl ?_
  refine g_aloadR_n dX7_all_12 rfl rfl ?_
  refine g_aloadR_n dX7_all_13 rfl rfl ?_
  refine n_getR dX7_all_14 fX7_32 rfl hW1 vld_x20 rfl rfl ?_
  refine g_aloadR_n dX7_all_17 rfl rfl ?_
  refine g_iload_n dX7_all_18 rfl rfl ?_
  refine g_iload_n dX7_all_19 rfl rfl ?_
  refine n_v4i (n' := 0) dX7_all_20 mX7_carries lX7_179 rfl hW1 vld_x20 rfl rfl ⟨Nat.le_of_ble_eq_true rfl, Nat.le_of_ble_eq_true rfl⟩ ⟨Nat.zero_le _, Nat.zero_le _⟩ (Nat.le_of_ble_eq_true rfl) ?_
  refine wp_X7_carries0 (f := 1) (by exact hW1) (by decide) hb (by rfl) (fun M1a hf1 hc1 => ?_)
  have hs1 : SvP M M1a b 2 := SvP.step (f := 1) hs0 (by decide) hb hf1 hc1
  have hW2 := hf1.W (by exact hW1)
  refine ⟨_, rfl, ?_⟩
  refine g_istore_3 dX7_all_23 rfl ?_
  refine g_aloadR_n dX7_all_24 rfl rfl ?_
  refine g_aloadR_n dX7_all_25 rfl rfl ?_
  refine n_getR dX7_all_26 fX7_35 rfl hW2 vld_x20 rfl rfl ?_
  refine g_aloadR_n dX7_all_29 rfl rfl ?_
  refine g_iload_n dX7_all_30 rfl rfl ?_
  refine g_iload_n dX7_all_31 rfl rfl ?_
  refine n_v4i (n' := 0) dX7_all_32 mX7_carries lX7_179 rfl hW2 vld_x20 rfl rfl ⟨Nat.le_of_ble_eq_true rfl, Nat.le_of_ble_eq_true rfl⟩ ⟨Nat.zero_le _, Nat.zero_le _⟩ (Nat.le_of_ble_eq_true rfl) ?_
  refine wp_X7_carries0 (f := 2) (by exact hW2) (by decide) hb (by rfl) (fun M2a hf2 hc2 => ?_)
  have hs2 : SvP M M2a b 3 := SvP.step (f := 2) hs1 (by decide) hb hf2 hc2
  have hW3 := hf2.W (by exact hW2)
  refine ⟨_, rfl, ?_⟩
  refine g_istore_3 dX7_all_35 rfl ?_
  refine g_aloadR_n dX7_all_36 rfl rfl ?_
  refine g_aloadR_n dX7_all_37 rfl rfl ?_
  refine n_getR dX7_all_38 fX7_38 rfl hW3 vld_x20 rfl rfl ?_
  refine g_aloadR_n dX7_all_41 rfl rfl ?_
  refine g_iload_n dX7_all_42 rfl rfl ?_
  refine g_iload_n dX7_all_43 rfl rfl ?_
  refine n_v4i (n' := 0) dX7_all_44 mX7_carries lX7_179 rfl hW3 vld_x20 rfl rfl ⟨Nat.le_of_ble_eq_true rfl, Nat.le_of_ble_eq_true rfl⟩ ⟨Nat.zero_le _, Nat.zero_le _⟩ (Nat.le_of_ble_eq_true rfl) ?_
  refine wp_X7_carries0 (f := 3) (by exact hW3) (by decide) hb (by rfl) (fun M3a hf3 hc3 => ?_)
  have hs3 : SvP M M3a b 4 := SvP.step (f := 3) hs2 (by decide) hb hf3 hc3
  have hW4 := hf3.W (by exact hW3)
  refine ⟨_, rfl, ?_⟩
  refine g_istore_3 dX7_all_47 rfl ?_
  refine g_aloadR_n dX7_all_48 rfl rfl ?_
  refine g_aloadR_n dX7_all_49 rfl rfl ?_
  refine n_getR dX7_all_50 fX7_41 rfl hW4 vld_x20 rfl rfl ?_
  refine g_aloadR_n dX7_all_53 rfl rfl ?_
  refine g_iload_n dX7_all_54 rfl rfl ?_
  refine g_iload_n dX7_all_55 rfl rfl ?_
  refine n_v4i (n' := 0) dX7_all_56 mX7_carries lX7_179 rfl hW4 vld_x20 rfl rfl ⟨Nat.le_of_ble_eq_true rfl, Nat.le_of_ble_eq_true rfl⟩ ⟨Nat.zero_le _, Nat.zero_le _⟩ (Nat.le_of_ble_eq_true rfl) ?_
  refine wp_X7_carries0 (f := 4) (by exact hW4) (by decide) hb (by rfl) (fun M4a hf4 hc4 => ?_)
  have hs4 : SvP M M4a b 5 := SvP.step (f := 4) hs3 (by decide) hb hf4 hc4
  have hW5 := hf4.W (by exact hW4)
  refine ⟨_, rfl, ?_⟩
  refine g_istore_3 dX7_all_59 rfl ?_
  refine g_aloadR_n dX7_all_60 rfl rfl ?_
  refine g_aloadR_n dX7_all_61 rfl rfl ?_
  refine n_getR dX7_all_62 fX7_44 rfl hW5 vld_x20 rfl rfl ?_
  refine g_aloadR_n dX7_all_65 rfl rfl ?_
  refine g_iload_n dX7_all_66 rfl rfl ?_
  refine g_iload_n dX7_all_67 rfl rfl ?_
  refine n_v4i (n' := 0) dX7_all_68 mX7_carries lX7_179 rfl hW5 vld_x20 rfl rfl ⟨Nat.le_of_ble_eq_true rfl, Nat.le_of_ble_eq_true rfl⟩ ⟨Nat.zero_le _, Nat.zero_le _⟩ (Nat.le_of_ble_eq_true rfl) ?_
  refine wp_X7_carries0 (f := 5) (by exact hW5) (by decide) hb (by rfl) (fun M5a hf5 hc5 => ?_)
  have hs5 : SvP M M5a b 6 := SvP.step (f := 5) hs4 (by decide) hb hf5 hc5
  have hW6 := hf5.W (by exact hW5)
  refine ⟨_, rfl, ?_⟩
  refine g_istore_3 dX7_all_71 rfl ?_
  refine g_aloadR_n dX7_all_72 rfl rfl ?_
  refine g_aloadR_n dX7_all_73 rfl rfl ?_
  refine n_getR dX7_all_74 fX7_47 rfl hW6 vld_x20 rfl rfl ?_
  refine g_aloadR_n dX7_all_77 rfl rfl ?_
  refine g_iload_n dX7_all_78 rfl rfl ?_
  refine g_iload_n dX7_all_79 rfl rfl ?_
  refine n_v4i (n' := 0) dX7_all_80 mX7_carries lX7_179 rfl hW6 vld_x20 rfl rfl ⟨Nat.le_of_ble_eq_true rfl, Nat.le_of_ble_eq_true rfl⟩ ⟨Nat.zero_le _, Nat.zero_le _⟩ (Nat.le_of_ble_eq_true rfl) ?_
  refine wp_X7_carries0 (f := 6) (by exact hW6) (by decide) hb (by rfl) (fun M6a hf6 hc6 => ?_)
  have hs6 : SvP M M6a b 7 := SvP.step (f := 6) hs5 (by decide) hb hf6 hc6
  have hW7 := hf6.W (by exact hW6)
  refine ⟨_, rfl, ?_⟩
  refine g_istore_3 dX7_all_83 rfl ?_
  refine g_aloadR_n dX7_all_84 rfl rfl ?_
  refine g_aloadR_n dX7_all_85 rfl rfl ?_
  refine n_getR dX7_all_86 fX7_50 rfl hW7 vld_x20 rfl rfl ?_
  refine g_aloadR_n dX7_all_89 rfl rfl ?_
  refine g_iload_n dX7_all_90 rfl rfl ?_
  refine g_iload_n dX7_all_91 rfl rfl ?_
  refine n_v4i (n' := 0) dX7_all_92 mX7_carries lX7_179 rfl hW7 vld_x20 rfl rfl ⟨Nat.le_of_ble_eq_true rfl, Nat.le_of_ble_eq_true rfl⟩ ⟨Nat.zero_le _, Nat.zero_le _⟩ (Nat.le_of_ble_eq_true rfl) ?_
  refine wp_X7_carries0 (f := 7) (by exact hW7) (by decide) hb (by rfl) (fun M7a hf7 hc7 => ?_)
  have hs7 : SvP M M7a b 8 := SvP.step (f := 7) hs6 (by decide) hb hf7 hc7
  have hW8 := hf7.W (by exact hW7)
  refine ⟨_, rfl, ?_⟩
  refine g_istore_3 dX7_all_95 rfl ?_
  refine g_aloadR_n dX7_all_96 rfl rfl ?_
  refine g_aloadR_n dX7_all_97 rfl rfl ?_
  refine n_getR dX7_all_98 fX7_53 rfl hW8 vld_x20 rfl rfl ?_
  refine g_aloadR_n dX7_all_101 rfl rfl ?_
  refine g_iload_n dX7_all_102 rfl rfl ?_
  refine g_iload_n dX7_all_103 rfl rfl ?_
  refine n_v4i (n' := 0) dX7_all_104 mX7_carries lX7_179 rfl hW8 vld_x20 rfl rfl ⟨Nat.le_of_ble_eq_true rfl, Nat.le_of_ble_eq_true rfl⟩ ⟨Nat.zero_le _, Nat.zero_le _⟩ (Nat.le_of_ble_eq_true rfl) ?_
  refine wp_X7_carries0 (f := 8) (by exact hW8) (by decide) hb (by rfl) (fun M8a hf8 hc8 => ?_)
  have hs8 : SvP M M8a b 9 := SvP.step (f := 8) hs7 (by decide) hb hf8 hc8
  have hW9 := hf8.W (by exact hW8)
  refine ⟨_, rfl, ?_⟩
  refine g_istore_3 dX7_all_107 rfl ?_
  refine g_iload_n dX7_all_108 rfl rfl ?_
  refine g_if_eq (tgt := 177) dX7_all_109 (by decide) (fun c109 => ?_) (fun c109 => ?_)
  · refine g_aloadR_n dX7_all_177 rfl rfl ?_
    refine g_iload_n dX7_all_178 rfl rfl ?_
    refine g_aloadR_n dX7_all_179 rfl rfl ?_
    refine n_getI dX7_all_180 fX7_102 rfl hW9 vld_x20 (Or.inl rfl) ?_
    refine n_iast (j := 90) dX7_all_183 hsb hW9 (vld_ma hb25) (by decide) (by decide) (show 90 < 100 by decide) ?_
    refine g_aloadR_n dX7_all_184 rfl rfl ?_
    refine g_iload_n dX7_all_185 rfl rfl ?_
    refine g_iconst dX7_all_186 (v := 1) (by decide) ?_
    refine g_iadd dX7_all_187 ?_
    refine g_aloadR_n dX7_all_188 rfl rfl ?_
    refine n_getI dX7_all_189 fX7_7 rfl hW9 vld_x20 (Or.inl rfl) ?_
    refine n_iast (j := 91) dX7_all_192 hsb hW9 (vld_ma hb25) (by decide) (by decide) (show 91 < 100 by decide) ?_
    refine g_aloadR_n dX7_all_193 rfl rfl ?_
    refine g_iload_n dX7_all_194 rfl rfl ?_
    refine g_iconst dX7_all_195 (v := 2) (by decide) ?_
    refine g_iadd dX7_all_196 ?_
    refine g_aloadR_n dX7_all_197 rfl rfl ?_
    refine n_getI dX7_all_198 fX7_131 rfl hW9 vld_x20 (Or.inl rfl) ?_
    refine n_iast (j := 92) dX7_all_201 hsb hW9 (vld_ma hb25) (by decide) (by decide) (show 92 < 100 by decide) ?_
    refine g_aloadR_n dX7_all_202 rfl rfl ?_
    refine g_iload_n dX7_all_203 rfl rfl ?_
    refine g_iconst dX7_all_204 (v := 3) (by decide) ?_
    refine g_iadd dX7_all_205 ?_
    refine g_aloadR_n dX7_all_206 rfl rfl ?_
    refine n_getI dX7_all_207 fX7_13 rfl hW9 vld_x20 (Or.inl rfl) ?_
    refine n_iast (j := 93) dX7_all_210 hsb hW9 (vld_ma hb25) (by decide) (by decide) (show 93 < 100 by decide) ?_
    refine g_aloadR_n dX7_all_211 rfl rfl ?_
    refine g_iload_n dX7_all_212 rfl rfl ?_
    refine g_iconst dX7_all_213 (v := 4) (by decide) ?_
    refine g_iadd dX7_all_214 ?_
    refine g_aloadR_n dX7_all_215 rfl rfl ?_
    refine n_getI dX7_all_216 fX7_16 rfl hW9 vld_x20 (Or.inl rfl) ?_
    refine n_iast (j := 94) dX7_all_219 hsb hW9 (vld_ma hb25) (by decide) (by decide) (show 94 < 100 by decide) ?_
    refine g_aloadR_n dX7_all_220 rfl rfl ?_
    refine g_iload_n dX7_all_221 rfl rfl ?_
    refine g_iconst dX7_all_222 (v := 5) (by decide) ?_
    refine g_iadd dX7_all_223 ?_
    refine g_aloadR_n dX7_all_224 rfl rfl ?_
    refine n_getI dX7_all_225 fX7_183 rfl hW9 vld_x20 (Or.inl rfl) ?_
    refine n_iast (j := 95) dX7_all_228 hsb hW9 (vld_ma hb25) (by decide) (by decide) (show 95 < 100 by decide) ?_
    refine g_aloadR_n dX7_all_229 rfl rfl ?_
    refine g_iload_n dX7_all_230 rfl rfl ?_
    refine g_bipush dX7_all_231 (v := 6) (by decide) ?_
    refine g_iadd dX7_all_233 ?_
    refine g_aloadR_n dX7_all_234 rfl rfl ?_
    refine n_getI dX7_all_235 fX7_19 rfl hW9 vld_x20 (Or.inl rfl) ?_
    refine n_iast (j := 96) dX7_all_238 hsb hW9 (vld_ma hb25) (by decide) (by decide) (show 96 < 100 by decide) ?_
    refine g_vret dX7_all_239 rfl ?_
    refine h _ (((((((hs8.1.tr (fr_sI rfl)).tr (fr_sI rfl)).tr (fr_sI rfl)).tr (fr_sI rfl)).tr (fr_sI rfl)).tr (fr_sI rfl)).tr (fr_sI rfl)) ⟨?_, fun j a b2 => ?_, fun i f hi hf => ?_⟩
    · simp [mI, sI]; exact (hs8.g 0).trans hR.1
    · have q : j = 1 ∨ j = 2 ∨ j = 3 ∨ j = 4 ∨ j = 5 ∨ j = 6 := by omega
      rcases q with rfl | rfl | rfl | rfl | rfl | rfl
      · simp [mI, sI]; exact (hs8.g 1).trans (hR.2.1 1 (by decide) (by decide))
      · simp [mI, sI]; exact (hs8.g 2).trans (hR.2.1 2 (by decide) (by decide))
      · simp [mI, sI]; exact (hs8.g 3).trans (hR.2.1 3 (by decide) (by decide))
      · simp [mI, sI]; exact (hs8.g 4).trans (hR.2.1 4 (by decide) (by decide))
      · simp [mI, sI]; exact (hs8.g 5).trans (hR.2.1 5 (by decide) (by decide))
      · simp [mI, sI]; exact (hs8.g 6).trans (hR.2.1 6 (by decide) (by decide))
    · have hs10 : S.1 ≤ 10 := hO.1
      have e : ∀ k, 90 ≤ k → 10 * f + i ≠ k := fun k hk => by omega
      simp only [mI, sI]
      rw [if_neg (fun z => e _ (by decide) z.2), if_neg (fun z => e _ (by decide) z.2), if_neg (fun z => e _ (by decide) z.2), if_neg (fun z => e _ (by decide) z.2), if_neg (fun z => e _ (by decide) z.2), if_neg (fun z => e _ (by decide) z.2), if_neg (fun z => e _ (by decide) z.2)]
      exact (hs8.2 f i (by omega) (by omega)).trans (hR.2.2 i f hi hf)
  · exact absurd c109 (by decide)
theorem BkP.g {M M1 : Mem} {b f : Nat} (h : BkP M M1 b f) (hb : b = 20 ∨ b = 21 ∨ b = 22) (j : Nat) : mI M1 (21, b, 0) j = mI M (21, b, 0) j := h.1.2 _ _ (fun q => by have := q.2; simp only at this; omega)
set_option maxHeartbeats 4000000 in
set_option maxRecDepth 100000 in
theorem wp_X7_all1 {E : Ev} {M : Mem} {Q : QT} (hW : Wi M) {S : Sc} {b : Nat} (hb : b = 20 ∨ b = 21 ∨ b = 22) (hS : RepSv M b S) (hO : OkS S) (h : ∀ M', FrI DS M M' → RepR M' S → Q none M') : Mth E 1 0 0 kX7_all [vR (20, 0, 0), vR (21, b, 0), vI 1] M Q := by
  have hsb : shp (21, b, 0) = (1, 100) := by rcases hb with rfl | rfl | rfl <;> rfl
  have hb25 : b < 25 := by omega
  refine mth_of (by decide +kernel) [some (vR (20, 0, 0)), some (vR (21, b, 0)), some (vI 1), none] (Nat.le_of_ble_eq_true rfl) rfl ?_
  refine g_aloadR_n dX7_all_0 rfl rfl ?_
  refine g_aloadR_n dX7_all_1 rfl rfl ?_
  refine n_getR dX7_all_2 fX7_29 rfl hW vld_x20 rfl rfl ?_
  refine g_aloadR_n dX7_all_5 rfl rfl ?_
  refine g_iconst dX7_all_6 (v := 0) (by decide) ?_
  refine g_iload_n dX7_all_7 rfl rfl ?_
  refine n_v4i (n' := 0) dX7_all_8 mX7_carries lX7_179 rfl hW vld_x20 rfl rfl ⟨Nat.le_of_ble_eq_true rfl, Nat.le_of_ble_eq_true rfl⟩ ⟨Nat.zero_le _, Nat.zero_le _⟩ (Nat.le_of_ble_eq_true rfl) ?_
  refine wp_X7_carries1 (f := 0) (by exact hW) (by decide) hb (by rfl) (fun M0a hf0 hc0 => ?_)
  have hs0 : BkP M M0a b 1 := BkP.step (f := 0) BkP.z (by decide) hb hf0 hc0
  have hW1 := hf0.W (by exact hW)
  refine ⟨_, rfl, ?_⟩
  refine g_istore_3 dX7_all_11 rfl ?_
  refine g_aloadR_n dX7_all_12 rfl rfl ?_
  refine g_aloadR_n dX7_all_13 rfl rfl ?_
  refine n_getR dX7_all_14 fX7_32 rfl hW1 vld_x20 rfl rfl ?_
  refine g_aloadR_n dX7_all_17 rfl rfl ?_
  refine g_iload_n dX7_all_18 rfl rfl ?_
  refine g_iload_n dX7_all_19 rfl rfl ?_
  refine n_v4i (n' := 0) dX7_all_20 mX7_carries lX7_179 rfl hW1 vld_x20 rfl rfl ⟨Nat.le_of_ble_eq_true rfl, Nat.le_of_ble_eq_true rfl⟩ ⟨Nat.zero_le _, Nat.zero_le _⟩ (Nat.le_of_ble_eq_true rfl) ?_
  refine wp_X7_carries1 (f := 1) (by exact hW1) (by decide) hb (by rfl) (fun M1a hf1 hc1 => ?_)
  have hs1 : BkP M M1a b 2 := BkP.step (f := 1) hs0 (by decide) hb hf1 hc1
  have hW2 := hf1.W (by exact hW1)
  refine ⟨_, rfl, ?_⟩
  refine g_istore_3 dX7_all_23 rfl ?_
  refine g_aloadR_n dX7_all_24 rfl rfl ?_
  refine g_aloadR_n dX7_all_25 rfl rfl ?_
  refine n_getR dX7_all_26 fX7_35 rfl hW2 vld_x20 rfl rfl ?_
  refine g_aloadR_n dX7_all_29 rfl rfl ?_
  refine g_iload_n dX7_all_30 rfl rfl ?_
  refine g_iload_n dX7_all_31 rfl rfl ?_
  refine n_v4i (n' := 0) dX7_all_32 mX7_carries lX7_179 rfl hW2 vld_x20 rfl rfl ⟨Nat.le_of_ble_eq_true rfl, Nat.le_of_ble_eq_true rfl⟩ ⟨Nat.zero_le _, Nat.zero_le _⟩ (Nat.le_of_ble_eq_true rfl) ?_
  refine wp_X7_carries1 (f := 2) (by exact hW2) (by decide) hb (by rfl) (fun M2a hf2 hc2 => ?_)
  have hs2 : BkP M M2a b 3 := BkP.step (f := 2) hs1 (by decide) hb hf2 hc2
  have hW3 := hf2.W (by exact hW2)
  refine ⟨_, rfl, ?_⟩
  refine g_istore_3 dX7_all_35 rfl ?_
  refine g_aloadR_n dX7_all_36 rfl rfl ?_
  refine g_aloadR_n dX7_all_37 rfl rfl ?_
  refine n_getR dX7_all_38 fX7_38 rfl hW3 vld_x20 rfl rfl ?_
  refine g_aloadR_n dX7_all_41 rfl rfl ?_
  refine g_iload_n dX7_all_42 rfl rfl ?_
  refine g_iload_n dX7_all_43 rfl rfl ?_
  refine n_v4i (n' := 0) dX7_all_44 mX7_carries lX7_179 rfl hW3 vld_x20 rfl rfl ⟨Nat.le_of_ble_eq_true rfl, Nat.le_of_ble_eq_true rfl⟩ ⟨Nat.zero_le _, Nat.zero_le _⟩ (Nat.le_of_ble_eq_true rfl) ?_
  refine wp_X7_carries1 (f := 3) (by exact hW3) (by decide) hb (by rfl) (fun M3a hf3 hc3 => ?_)
  have hs3 : BkP M M3a b 4 := BkP.step (f := 3) hs2 (by decide) hb hf3 hc3
  have hW4 := hf3.W (by exact hW3)
  refine ⟨_, rfl, ?_⟩
  refine g_istore_3 dX7_all_47 rfl ?_
  refine g_aloadR_n dX7_all_48 rfl rfl ?_
  refine g_aloadR_n dX7_all_49 rfl rfl ?_
  refine n_getR dX7_all_50 fX7_41 rfl hW4 vld_x20 rfl rfl ?_
  refine g_aloadR_n dX7_all_53 rfl rfl ?_
  refine g_iload_n dX7_all_54 rfl rfl ?_
  refine g_iload_n dX7_all_55 rfl rfl ?_
  refine n_v4i (n' := 0) dX7_all_56 mX7_carries lX7_179 rfl hW4 vld_x20 rfl rfl ⟨Nat.le_of_ble_eq_true rfl, Nat.le_of_ble_eq_true rfl⟩ ⟨Nat.zero_le _, Nat.zero_le _⟩ (Nat.le_of_ble_eq_true rfl) ?_
  refine wp_X7_carries1 (f := 4) (by exact hW4) (by decide) hb (by rfl) (fun M4a hf4 hc4 => ?_)
  have hs4 : BkP M M4a b 5 := BkP.step (f := 4) hs3 (by decide) hb hf4 hc4
  have hW5 := hf4.W (by exact hW4)
  refine ⟨_, rfl, ?_⟩
  refine g_istore_3 dX7_all_59 rfl ?_
  refine g_aloadR_n dX7_all_60 rfl rfl ?_
  refine g_aloadR_n dX7_all_61 rfl rfl ?_
  refine n_getR dX7_all_62 fX7_44 rfl hW5 vld_x20 rfl rfl ?_
  refine g_aloadR_n dX7_all_65 rfl rfl ?_
  refine g_iload_n dX7_all_66 rfl rfl ?_
  refine g_iload_n dX7_all_67 rfl rfl ?_
  refine n_v4i (n' := 0) dX7_all_68 mX7_carries lX7_179 rfl hW5 vld_x20 rfl rfl ⟨Nat.le_of_ble_eq_true rfl, Nat.le_of_ble_eq_true rfl⟩ ⟨Nat.zero_le _, Nat.zero_le _⟩ (Nat.le_of_ble_eq_true rfl) ?_
  refine wp_X7_carries1 (f := 5) (by exact hW5) (by decide) hb (by rfl) (fun M5a hf5 hc5 => ?_)
  have hs5 : BkP M M5a b 6 := BkP.step (f := 5) hs4 (by decide) hb hf5 hc5
  have hW6 := hf5.W (by exact hW5)
  refine ⟨_, rfl, ?_⟩
  refine g_istore_3 dX7_all_71 rfl ?_
  refine g_aloadR_n dX7_all_72 rfl rfl ?_
  refine g_aloadR_n dX7_all_73 rfl rfl ?_
  refine n_getR dX7_all_74 fX7_47 rfl hW6 vld_x20 rfl rfl ?_
  refine g_aloadR_n dX7_all_77 rfl rfl ?_
  refine g_iload_n dX7_all_78 rfl rfl ?_
  refine g_iload_n dX7_all_79 rfl rfl ?_
  refine n_v4i (n' := 0) dX7_all_80 mX7_carries lX7_179 rfl hW6 vld_x20 rfl rfl ⟨Nat.le_of_ble_eq_true rfl, Nat.le_of_ble_eq_true rfl⟩ ⟨Nat.zero_le _, Nat.zero_le _⟩ (Nat.le_of_ble_eq_true rfl) ?_
  refine wp_X7_carries1 (f := 6) (by exact hW6) (by decide) hb (by rfl) (fun M6a hf6 hc6 => ?_)
  have hs6 : BkP M M6a b 7 := BkP.step (f := 6) hs5 (by decide) hb hf6 hc6
  have hW7 := hf6.W (by exact hW6)
  refine ⟨_, rfl, ?_⟩
  refine g_istore_3 dX7_all_83 rfl ?_
  refine g_aloadR_n dX7_all_84 rfl rfl ?_
  refine g_aloadR_n dX7_all_85 rfl rfl ?_
  refine n_getR dX7_all_86 fX7_50 rfl hW7 vld_x20 rfl rfl ?_
  refine g_aloadR_n dX7_all_89 rfl rfl ?_
  refine g_iload_n dX7_all_90 rfl rfl ?_
  refine g_iload_n dX7_all_91 rfl rfl ?_
  refine n_v4i (n' := 0) dX7_all_92 mX7_carries lX7_179 rfl hW7 vld_x20 rfl rfl ⟨Nat.le_of_ble_eq_true rfl, Nat.le_of_ble_eq_true rfl⟩ ⟨Nat.zero_le _, Nat.zero_le _⟩ (Nat.le_of_ble_eq_true rfl) ?_
  refine wp_X7_carries1 (f := 7) (by exact hW7) (by decide) hb (by rfl) (fun M7a hf7 hc7 => ?_)
  have hs7 : BkP M M7a b 8 := BkP.step (f := 7) hs6 (by decide) hb hf7 hc7
  have hW8 := hf7.W (by exact hW7)
  refine ⟨_, rfl, ?_⟩
  refine g_istore_3 dX7_all_95 rfl ?_
  refine g_aloadR_n dX7_all_96 rfl rfl ?_
  refine g_aloadR_n dX7_all_97 rfl rfl ?_
  refine n_getR dX7_all_98 fX7_53 rfl hW8 vld_x20 rfl rfl ?_
  refine g_aloadR_n dX7_all_101 rfl rfl ?_
  refine g_iload_n dX7_all_102 rfl rfl ?_
  refine g_iload_n dX7_all_103 rfl rfl ?_
  refine n_v4i (n' := 0) dX7_all_104 mX7_carries lX7_179 rfl hW8 vld_x20 rfl rfl ⟨Nat.le_of_ble_eq_true rfl, Nat.le_of_ble_eq_true rfl⟩ ⟨Nat.zero_le _, Nat.zero_le _⟩ (Nat.le_of_ble_eq_true rfl) ?_
  refine wp_X7_carries1 (f := 8) (by exact hW8) (by decide) hb (by rfl) (fun M8a hf8 hc8 => ?_)
  have hs8 : BkP M M8a b 9 := BkP.step (f := 8) hs7 (by decide) hb hf8 hc8
  have hW9 := hf8.W (by exact hW8)
  refine ⟨_, rfl, ?_⟩
  refine g_istore_3 dX7_all_107 rfl ?_
  refine g_iload_n dX7_all_108 rfl rfl ?_
  refine g_if_eq (tgt := 177) dX7_all_109 (by decide) (fun c109 => ?_) (fun c109 => ?_)
  · exact absurd c109 (by decide)
  · refine g_aloadR_n dX7_all_112 rfl rfl ?_
    refine g_aloadR_n dX7_all_113 rfl rfl ?_
    refine g_iload_n dX7_all_114 rfl rfl ?_
    refine n_iald (j := 90) dX7_all_115 hsb hW9 (vld_ma hb25) (by decide) (by decide) (show 90 < 100 by decide) ?_
    refine n_putI dX7_all_116 fX7_102 rfl hW9 vld_x20 rfl ?_
    refine g_aloadR_n dX7_all_119 rfl rfl ?_
    refine g_aloadR_n dX7_all_120 rfl rfl ?_
    refine g_iload_n dX7_all_121 rfl rfl ?_
    refine g_iconst dX7_all_122 (v := 1) (by decide) ?_
    refine g_iadd dX7_all_123 ?_
    refine n_iald (j := 91) dX7_all_124 hsb hW9 (vld_ma hb25) (by decide) (by decide) (show 91 < 100 by decide) ?_
    refine n_putI dX7_all_125 fX7_7 rfl hW9 vld_x20 rfl ?_
    refine g_aloadR_n dX7_all_128 rfl rfl ?_
    refine g_aloadR_n dX7_all_129 rfl rfl ?_
    refine g_iload_n dX7_all_130 rfl rfl ?_
    refine g_iconst dX7_all_131 (v := 2) (by decide) ?_
    refine g_iadd dX7_all_132 ?_
    refine n_iald (j := 92) dX7_all_133 hsb hW9 (vld_ma hb25) (by decide) (by decide) (show 92 < 100 by decide) ?_
    refine n_putI dX7_all_134 fX7_131 rfl hW9 vld_x20 rfl ?_
    refine g_aloadR_n dX7_all_137 rfl rfl ?_
    refine g_aloadR_n dX7_all_138 rfl rfl ?_
    refine g_iload_n dX7_all_139 rfl rfl ?_
    refine g_iconst dX7_all_140 (v := 3) (by decide) ?_
    refine g_iadd dX7_all_141 ?_
    refine n_iald (j := 93) dX7_all_142 hsb hW9 (vld_ma hb25) (by decide) (by decide) (show 93 < 100 by decide) ?_
    refine n_putI dX7_all_143 fX7_13 rfl hW9 vld_x20 rfl ?_
    refine g_aloadR_n dX7_all_146 rfl rfl ?_
    refine g_aloadR_n dX7_all_147 rfl rfl ?_
    refine g_iload_n dX7_all_148 rfl rfl ?_
    refine g_iconst dX7_all_149 (v := 4) (by decide) ?_
    refine g_iadd dX7_all_150 ?_
    refine n_iald (j := 94) dX7_all_151 hsb hW9 (vld_ma hb25) (by decide) (by decide) (show 94 < 100 by decide) ?_
    refine n_putI dX7_all_152 fX7_16 rfl hW9 vld_x20 rfl ?_
    refine g_aloadR_n dX7_all_155 rfl rfl ?_
    refine g_aloadR_n dX7_all_156 rfl rfl ?_
    refine g_iload_n dX7_all_157 rfl rfl ?_
    refine g_iconst dX7_all_158 (v := 5) (by decide) ?_
    refine g_iadd dX7_all_159 ?_
    refine n_iald (j := 95) dX7_all_160 hsb hW9 (vld_ma hb25) (by decide) (by decide) (show 95 < 100 by decide) ?_
    refine n_putI dX7_all_161 fX7_183 rfl hW9 vld_x20 rfl ?_
    refine g_aloadR_n dX7_all_164 rfl rfl ?_
    refine g_aloadR_n dX7_all_165 rfl rfl ?_
    refine g_iload_n dX7_all_166 rfl rfl ?_
    refine g_bipush dX7_all_167 (v := 6) (by decide) ?_
    refine g_iadd dX7_all_169 ?_
    refine n_iald (j := 96) dX7_all_170 hsb hW9 (vld_ma hb25) (by decide) (by decide) (show 96 < 100 by decide) ?_
    refine n_putI dX7_all_171 fX7_19 rfl hW9 vld_x20 rfl ?_
    refine g_goto (tgt := 239) dX7_all_174 (by decide) ?_
    refine g_vret dX7_all_239 rfl ?_
    have hg : ∀ {M : Mem} {f : Nat} {x : Int32}, f < 7 → FrI DS M (sI M (20, 0, 0) f x) := fun hf => fr_sI (Or.inl ⟨rfl, hf⟩)
    refine h _ ((((((((hs8.1.mono (fun q i z => Or.inr z)).tr (hg (by decide))).tr (hg (by decide))).tr (hg (by decide))).tr (hg (by decide))).tr (hg (by decide))).tr (hg (by decide))).tr (hg (by decide))) ⟨?_, fun j a b2 => ?_, fun i f hi hf => ?_⟩
    · simp [mI, sI]; exact (hs8.g hb 90).trans hS.1
    · have q : j = 1 ∨ j = 2 ∨ j = 3 ∨ j = 4 ∨ j = 5 ∨ j = 6 := by omega
      rcases q with rfl | rfl | rfl | rfl | rfl | rfl
      · simp [mI, sI]; exact (hs8.g hb 91).trans (hS.2.1 1 (by decide) (by decide))
      · simp [mI, sI]; exact (hs8.g hb 92).trans (hS.2.1 2 (by decide) (by decide))
      · simp [mI, sI]; exact (hs8.g hb 93).trans (hS.2.1 3 (by decide) (by decide))
      · simp [mI, sI]; exact (hs8.g hb 94).trans (hS.2.1 4 (by decide) (by decide))
      · simp [mI, sI]; exact (hs8.g hb 95).trans (hS.2.1 5 (by decide) (by decide))
      · simp [mI, sI]; exact (hs8.g hb 96).trans (hS.2.1 6 (by decide) (by decide))
    · have hs10 : S.1 ≤ 10 := hO.1
      have e : mI M8a (21, f + 1, 0) i = S.2.2 i f := (hs8.2 f i (by omega) (by omega)).trans (hS.2.2 i f hi hf)
      simpa [mI, sI] using e
