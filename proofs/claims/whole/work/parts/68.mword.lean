/-! THE REFERENCE: WORDS -/
def offW (j : Nat) : Nat := [0, 8, 16, 23, 29, 37, 42, 48].getD j 0
def wdW (j : Nat) : List Int32 := [[112, 101, 114, 115, 111, 110, 32], [102, 114, 105, 101, 110, 100, 32], [108, 101, 118, 101, 108, 32], [114, 97, 105, 110, 32], [99, 104, 97, 105, 114, 115, 32], [98, 97, 114, 32], [103, 111, 110, 101, 32]].getD j []
def mwI (w : Nat) : Nat := [0, 1, 6, 2, 3, 4, 5].getD w 0
theorem wd_f1 : ∀ j, j < 7 → (∀ i, i < (wdW j).length → wdK.getD (offW j + i) 0 = (wdW j).getD i 0 ∧ ¬ (wdW j).getD i 0 = 0 ∧ ¬ (wdW j).getD i 0 = -1) ∧ wdK.getD (offW j + (wdW j).length) 0 = 0 ∧ offW (j + 1) = offW j + (wdW j).length + 1 ∧ offW j + (wdW j).length < 48 ∧ (wdW j).length ≤ 7 ∧ 0 < (wdW j).length := by decide +kernel
theorem wd_f2 : ∀ i, i < 7 → ∀ k, k < 7 → i ≠ k → (wdW i).getD 0 0 ≠ (wdW k).getD 0 0 := by decide +kernel
theorem wd_f3 : ∀ w, w < 7 → mwI w < 7 ∧ wdW (mwI w) = jsB w ++ [32] ∧ (wdW (mwI w)).getD 0 0 = (jsB w).getD 0 0 := by decide +kernel
theorem wd_f4 : ∀ i, i < 7 → ∃ w, w < 7 ∧ (wdW i).getD 0 0 = (jsB w).getD 0 0 := by
  have : ∀ i, i < 7 → [0, 1, 3, 4, 5, 6, 2].getD i 0 < 7 ∧ (wdW i).getD 0 0 = (jsB ([0, 1, 3, 4, 5, 6, 2].getD i 0)).getD 0 0 := by decide +kernel
  exact fun i hi => ⟨_, this i hi⟩
def wdM (L : Tx) (p : Nat) : Nat → Nat → Nat → Nat ⊕ Nat
  | 0, _, far => .inl far
  | d + 1, j, far => if mt L (wdW j) p = (wdW j).length then .inr j else wdM L p d (j + 1) (if p + mt L (wdW j) p ≤ far then far else p + mt L (wdW j) p)
theorem mt_z {L : Tx} {B : List Int32} {p : Nat} (h : ¬ L p = B.getD 0 0) : mt L B p = 0 := by
  unfold mt
  cases B.length with
  | zero => rfl
  | succ n => rw [mtI, if_neg (show ¬ L (p + 0) = B.getD 0 0 from h)]
theorem wdM_skip {L : Tx} {p : Nat} : ∀ d d' j far, p ≤ far → (∀ i, j ≤ i → i < j + d → mt L (wdW i) p = 0 ∧ 0 < (wdW i).length) → wdM L p (d + d') j far = wdM L p d' (j + d) far := by
  intro d
  induction d with
  | zero => intro d' j far _ _; rw [Nat.zero_add, Nat.add_zero]
  | succ d ih =>
    intro d' j far hp h
    obtain ⟨h1, h2⟩ := h j (Nat.le_refl _) (by omega)
    rw [show d + 1 + d' = (d + d') + 1 by omega, wdM, h1, if_neg (by omega), if_pos (show p + 0 ≤ far from hp), ih d' (j + 1) far hp (fun i a b => h i (by omega) (by omega)), show j + 1 + d = j + (d + 1) by omega]
theorem mtI_app (L : Tx) (B : List Int32) (b : Int32) (p : Nat) : ∀ d i, i + d = B.length → mtI L (B ++ [b]) p (d + 1) i = if mtI L B p d i = B.length then (if L (p + B.length) = b then B.length + 1 else B.length) else mtI L B p d i := by
  intro d
  induction d with
  | zero =>
    intro i hi
    have hi : i = B.length := by omega
    subst hi
    simp [mtI]
  | succ d ih =>
    intro i hi
    have hg : (B ++ [b]).getD i 0 = B.getD i 0 := by rw [List.getD_eq_getElem?_getD, List.getD_eq_getElem?_getD, List.getElem?_append_left (by omega)]
    rw [mtI, hg]
    by_cases q : L (p + i) = B.getD i 0
    · rw [if_pos q, ih (i + 1) (by omega)]
      have e : mtI L B p (d + 1) i = mtI L B p d (i + 1) := by rw [mtI, if_pos q]
      rw [e]
    · rw [if_neg q]
      have e : mtI L B p (d + 1) i = i := by rw [mtI, if_neg q]
      rw [e, if_neg (by omega)]
theorem mt_app (L : Tx) (B : List Int32) (b : Int32) (p : Nat) : mt L (B ++ [b]) p = if mt L B p = B.length then (if L (p + B.length) = b then B.length + 1 else B.length) else mt L B p := by
  have h := mtI_app L B b p B.length 0 (by omega)
  unfold mt
  rw [List.length_append, List.length_singleton]
  exact h
def rdWB (L : Tx) (p : Nat) : Nat ⊕ (Nat × Nat) := match rdWord L p with
  | .inl f => .inl f
  | .inr (w, q) => if L q = 32 then .inr (w, q) else .inl q
theorem wIx_le7 (L : Tx) (p : Nat) : wIx L p ≤ 7 := by
  unfold wIx
  repeat' (first | omega | split)
theorem wdM_eq (L : Tx) (p : Nat) : (∀ f, wdM L p 7 0 p = .inl f → rdWB L p = .inl f) ∧ (∀ j, wdM L p 7 0 p = .inr j → ∃ w q, rdWB L p = .inr (w, q) ∧ w < 7 ∧ mwI w = j ∧ q + 1 = p + (wdW j).length ∧ L q = 32) := by
  have hle := wIx_le7 L p
  by_cases h7 : wIx L p = 7
  · have hz : ∀ i, 0 ≤ i → i < 0 + 7 → mt L (wdW i) p = 0 ∧ 0 < (wdW i).length := fun i _ hi => by
      refine ⟨mt_z (fun q => ?_), (wd_f1 i (by omega)).2.2.2.2.2⟩
      obtain ⟨w, hw, e⟩ := wd_f4 i (by omega)
      rw [e] at q
      have := (wIx_at hw).mp q
      omega
    have e := wdM_skip 7 0 0 p (Nat.le_refl _) hz
    have e2 : wdM L p 7 0 p = .inl p := e
    have er : rdWB L p = .inl p := by unfold rdWB rdWord; rw [if_pos h7]
    rw [e2, er]
    exact ⟨fun f h => by injection h with h; rw [h], fun j h => by cases h⟩
  · obtain ⟨w, hw, hwi⟩ : ∃ w, w < 7 ∧ wIx L p = w := ⟨_, by omega, rfl⟩
    obtain ⟨m7, mW, mF⟩ := wd_f3 w hw
    have hLp : L p = (jsB w).getD 0 0 := (wIx_at hw).mpr hwi
    have hz : ∀ i, i < 7 → i ≠ mwI w → mt L (wdW i) p = 0 ∧ 0 < (wdW i).length := fun i hi hne => ⟨mt_z (fun q => wd_f2 i hi _ m7 hne (by rw [← q, hLp, mF])), (wd_f1 i hi).2.2.2.2.2⟩
    have hma := mt_app L (jsB w) 32 p
    rw [← mW] at hma
    have hlen : (wdW (mwI w)).length = (jsB w).length + 1 := by rw [mW, List.length_append, List.length_singleton]
    have e1 := wdM_skip (L := L) (p := p) (mwI w) (7 - mwI w) 0 p (Nat.le_refl _) (fun i _ hi => hz i (by omega) (by omega))
    rw [show mwI w + (7 - mwI w) = 7 by omega, Nat.zero_add] at e1
    obtain ⟨d, hd⟩ : ∃ d, 7 - mwI w = d + 1 := ⟨7 - mwI w - 1, by omega⟩
    have ed : wdM L p (d + 1) (mwI w) p = if mt L (wdW (mwI w)) p = (wdW (mwI w)).length then .inr (mwI w) else wdM L p d (mwI w + 1) (if p + mt L (wdW (mwI w)) p ≤ p then p else p + mt L (wdW (mwI w)) p) := rfl
    rw [hd, ed] at e1
    have hfin : ∀ far, p ≤ far → wdM L p d (mwI w + 1) far = .inl far := fun far hf => by
      have e := wdM_skip (L := L) (p := p) d 0 (mwI w + 1) far hf (fun i a b => hz i (by omega) (by omega))
      rw [Nat.add_zero] at e
      rw [e]; rfl
    have hwo : rdWord L p = if mt L (jsB w) p = (jsB w).length then .inr (w, p + (jsB w).length) else .inl (p + mt L (jsB w) p) := by
      unfold rdWord; rw [hwi, if_neg (by omega)]
    have hfar : ∀ m, (if p + m ≤ p then p else p + m) = p + m := fun m => by split <;> omega
    rw [hfar, hfin _ (by omega)] at e1
    by_cases c1 : mt L (jsB w) p = (jsB w).length
    · rw [if_pos c1] at hma hwo
      by_cases c2 : L (p + (jsB w).length) = 32
      · rw [if_pos c2] at hma
        rw [hma, hlen, if_pos rfl] at e1
        have er : rdWB L p = .inr (w, p + (jsB w).length) := by unfold rdWB; rw [hwo]; exact if_pos c2
        rw [e1, er]
        refine ⟨fun f h => (by cases h), fun j h => ?_⟩
        injection h with h
        exact ⟨w, _, rfl, hw, h, by rw [← h, hlen]; omega, c2⟩
      · rw [if_neg c2] at hma
        rw [hma, hlen, if_neg (by omega)] at e1
        have er : rdWB L p = .inl (p + (jsB w).length) := by unfold rdWB; rw [hwo]; exact if_neg c2
        rw [e1, er]
        exact ⟨fun f h => by injection h with h; rw [h], fun j h => by cases h⟩
    · rw [if_neg c1] at hma hwo
      have hl := mtI_le L (jsB w) p (jsB w).length 0
      have hl2 : mt L (jsB w) p ≤ (jsB w).length := by unfold mt; omega
      rw [hma, hlen, if_neg (by omega)] at e1
      have er : rdWB L p = .inl (p + mt L (jsB w) p) := by unfold rdWB; rw [hwo]
      rw [e1, er]
      exact ⟨fun f h => by injection h with h; rw [h], fun j h => by cases h⟩
set_option maxHeartbeats 4000000 in
set_option maxRecDepth 100000 in
theorem lp_X7_word1 {E : Ev} {M : Mem} {Q : QT} (hW : Wi M) {L : Tx} {s ll p : Nat} {S : Sc} (hk : RkS M L s ll p S) (hs : s < 8) (ht : TxOk L ll) (hp : p ≤ 160) {j : Nat} (hj : j < 7) {far : Nat} (hfar : far ≤ 200) (hyes : mt L (wdW j) p = (wdW j).length → Q (some (vI (nI j))) (sI M (20, 0, 0) 29 (nI (p + (wdW j).length)))) (hno : ¬ mt L (wdW j) p = (wdW j).length → G E (rm 1 0 0) kX7_word (ZQ E Q 0 0) 0 0 86 [some (vR (20, 0, 0)), some (vI (nI (offW j))), some (vI (nI far)), some (vI (nI j)), some (vI (nI (p + mt L (wdW j) p))), some (vI (nI (offW j + mt L (wdW j) p)))] [] M) : ∀ i, i ≤ (wdW j).length → mt L (wdW j) p = mtI L (wdW j) p ((wdW j).length - i) i → G E (rm 1 0 0) kX7_word (ZQ E Q 0 0) 0 0 24 [some (vR (20, 0, 0)), some (vI (nI (offW j))), some (vI (nI far)), some (vI (nI j)), some (vI (nI (p + i))), some (vI (nI (offW j + i)))] [] M := by
  refine up_loop (wdW j).length (fun i hi ih hm => ?_)
  obtain ⟨f1, f2, f3, f4, f5, f6⟩ := wd_f1 j hj
  have hkw := hk.2.2.2.2.2.1
  have ht1 := ht.1
  have hpl := hk.2.1
  have hll := hk.2.2.1
  refine g_aloadR_n dX7_word_24 rfl rfl ?_
  refine n_getR dX7_word_25 fX7_75 rfl hW vld_x20 rfl rfl ?_
  refine g_iload dX7_word_28 rfl ?_
  refine n_iald (j := offW j + i) dX7_word_30 rfl hW (vld_ma (by decide : 16 < 25)) (by decide) rfl (show offW j + i < 48 by omega) ?_
  refine g_if_eq (tgt := 68) dX7_word_31 (by decide) (fun c31 => ?_) (fun c31 => ?_)
  · have hil : i = (wdW j).length := by
      rcases Nat.lt_or_ge i (wdW j).length with q | q
      · exact absurd (by rw [hkw _ (by omega), (f1 i q).1] at c31; exact c31) (f1 i q).2.1
      · omega
    refine g_aloadR_n dX7_word_68 rfl rfl ?_
    refine n_getR dX7_word_69 fX7_75 rfl hW vld_x20 rfl rfl ?_
    refine g_iload dX7_word_72 rfl ?_
    refine n_iald (j := offW j + i) dX7_word_74 rfl hW (vld_ma (by decide : 16 < 25)) (by decide) rfl (show offW j + i < 48 by omega) ?_
    refine g_if_ne (tgt := 86) dX7_word_75 (by decide) (fun c75 => ?_) (fun c75 => ?_)
    · have hm3 : i = mt L (wdW j) p := by rw [hm, hil, Nat.sub_self]; rfl
      exact absurd (by rw [hil, hkw _ (by omega)]; exact f2) c75
    · refine g_aloadR_n dX7_word_78 rfl rfl ?_
      refine g_iload dX7_word_79 rfl ?_
      refine n_putI dX7_word_81 fX7_147 rfl hW vld_x20 rfl ?_
      refine g_iload_n dX7_word_84 rfl rfl ?_
      refine g_iret dX7_word_85 rfl ?_
      subst hil
      exact hyes (by rw [hm, Nat.sub_self]; rfl)
  · have hil : i < (wdW j).length := by
      rcases Nat.lt_or_ge i (wdW j).length with q | q
      · exact q
      · exact absurd (by rw [show i = (wdW j).length by omega, hkw _ (by omega)]; exact f2) c31
    obtain ⟨g1, g2, g3⟩ := f1 i hil
    have ew : mI M (21, 16, 0) (offW j + i) = (wdW j).getD i 0 := (hkw _ (by omega)).trans g1
    have hst : mtI L (wdW j) p ((wdW j).length - i) i = if L (p + i) = (wdW j).getD i 0 then mtI L (wdW j) p ((wdW j).length - (i + 1)) (i + 1) else i := by
      obtain ⟨d, hd⟩ : ∃ d, (wdW j).length - i = d + 1 := ⟨(wdW j).length - i - 1, by omega⟩
      rw [hd, show (wdW j).length - (i + 1) = d by omega, mtI]
    rw [hst] at hm
    refine g_iload dX7_word_34 rfl ?_
    refine g_aloadR_n dX7_word_36 rfl rfl ?_
    refine n_getI dX7_word_37 fX7_150 rfl hW vld_x20 (Or.inl rfl) ?_
    refine g_icmp_ge (tgt := 68) dX7_word_40 (by decide) (fun c40 => ?_) (fun c40 => ?_)
    · rw [hll, nI_leI (by omega) (by omega)] at c40
      have hm2 : mt L (wdW j) p = i := by rw [hm, if_neg (fun q => g3 (by rw [← q]; exact ht.2 _ c40))]
      refine g_aloadR_n dX7_word_68 rfl rfl ?_
      refine n_getR dX7_word_69 fX7_75 rfl hW vld_x20 rfl rfl ?_
      refine g_iload dX7_word_72 rfl ?_
      refine n_iald (j := offW j + i) dX7_word_74 rfl hW (vld_ma (by decide : 16 < 25)) (by decide) rfl (show offW j + i < 48 by omega) ?_
      refine g_if_ne (tgt := 86) dX7_word_75 (by decide) (fun c75 => ?_) (fun c75 => ?_)
      · have hm3 : i = mt L (wdW j) p := hm2.symm
        rw [hm3]
        exact hno (by omega)
      · refine g_aloadR_n dX7_word_78 rfl rfl ?_
        refine g_iload dX7_word_79 rfl ?_
        refine n_putI dX7_word_81 fX7_147 rfl hW vld_x20 rfl ?_
        refine g_iload_n dX7_word_84 rfl rfl ?_
        refine g_iret dX7_word_85 rfl ?_
        exact absurd (by rw [← ew]; first | exact c75 | exact Decidable.not_not.mp c75) g2
    · rw [hll, nI_leI (by omega) (by omega)] at c40
      refine g_aloadR_n dX7_word_43 rfl rfl ?_
      refine g_iload dX7_word_44 rfl ?_
      refine n_v1i (n' := 0) dX7_word_46 mX7_sign lX7_153 rfl hW vld_x20 rfl rfl ⟨Nat.le_of_ble_eq_true rfl, Nat.le_of_ble_eq_true rfl⟩ ⟨Nat.zero_le _, Nat.zero_le _⟩ (Nat.le_of_ble_eq_true rfl) ?_
      refine wp_X7_sign (by exact hW) hk.1 (i := p + i) rfl hs (by omega) ?_
      refine ⟨_, rfl, ?_⟩
      rw [hk.2.2.2.1 (p + i) (by omega)]
      refine g_aloadR_n dX7_word_49 rfl rfl ?_
      refine n_getR dX7_word_50 fX7_75 rfl hW vld_x20 rfl rfl ?_
      refine g_iload dX7_word_53 rfl ?_
      refine n_iald (j := offW j + i) dX7_word_55 rfl hW (vld_ma (by decide : 16 < 25)) (by decide) rfl (show offW j + i < 48 by omega) ?_
      rw [ew]
      refine g_icmp_ne (tgt := 68) dX7_word_56 (by decide) (fun c56 => ?_) (fun c56 => ?_)
      · have hm2 : mt L (wdW j) p = i := by rw [hm, if_neg c56]
        refine g_aloadR_n dX7_word_68 rfl rfl ?_
        refine n_getR dX7_word_69 fX7_75 rfl hW vld_x20 rfl rfl ?_
        refine g_iload dX7_word_72 rfl ?_
        refine n_iald (j := offW j + i) dX7_word_74 rfl hW (vld_ma (by decide : 16 < 25)) (by decide) rfl (show offW j + i < 48 by omega) ?_
        refine g_if_ne (tgt := 86) dX7_word_75 (by decide) (fun c75 => ?_) (fun c75 => ?_)
        · have hm3 : i = mt L (wdW j) p := hm2.symm
          rw [hm3]
          exact hno (by omega)
        · refine g_aloadR_n dX7_word_78 rfl rfl ?_
          refine g_iload dX7_word_79 rfl ?_
          refine n_putI dX7_word_81 fX7_147 rfl hW vld_x20 rfl ?_
          refine g_iload_n dX7_word_84 rfl rfl ?_
          refine g_iret dX7_word_85 rfl ?_
          exact absurd (by rw [← ew]; first | exact c75 | exact Decidable.not_not.mp c75) g2
      · refine g_iinc_4 (v := nI (p + (i + 1))) dX7_word_59 rfl (by rw [nI_inc, Nat.add_assoc]) ?_
        refine g_iinc_5 (v := nI (offW j + (i + 1))) dX7_word_62 rfl (by rw [nI_inc, Nat.add_assoc]) ?_
        refine g_goto (tgt := 24) dX7_word_65 (by decide) ?_
        refine ih hil ?_
        rw [hm, if_pos (by first | exact c56 | exact Decidable.not_not.mp c56)]
set_option maxHeartbeats 4000000 in
set_option maxRecDepth 100000 in
theorem lp_X7_word2 {E : Ev} {M : Mem} {Q : QT} (hW : Wi M) {L : Tx} {s ll p : Nat} {S : Sc} (hk : RkS M L s ll p S) (hs : s < 8) (ht : TxOk L ll) (hp : p ≤ 160) {j : Nat} (hj : j < 7) {far : Nat} (hfar : far ≤ 200) {a4 a5 : Option AV} (h : G E (rm 1 0 0) kX7_word (ZQ E Q 0 0) 0 0 9 [some (vR (20, 0, 0)), some (vI (nI (offW (j + 1)))), some (vI (nI far)), some (vI (nI (j + 1))), a4, a5] [] M) : ∀ i, i ≤ (wdW j).length → G E (rm 1 0 0) kX7_word (ZQ E Q 0 0) 0 0 99 [some (vR (20, 0, 0)), some (vI (nI (offW j + i))), some (vI (nI far)), some (vI (nI j)), a4, a5] [] M := by
  refine up_loop (wdW j).length (fun i hi ih => ?_)
  obtain ⟨f1, f2, f3, f4, f5, f6⟩ := wd_f1 j hj
  have hkw := hk.2.2.2.2.2.1
  
  refine g_aloadR_n dX7_word_99 rfl rfl ?_
  refine n_getR dX7_word_100 fX7_75 rfl hW vld_x20 rfl rfl ?_
  refine g_iload_n dX7_word_103 rfl rfl ?_
  refine n_iald (j := offW j + i) dX7_word_104 rfl hW (vld_ma (by decide : 16 < 25)) (by decide) rfl (show offW j + i < 48 by omega) ?_
  refine g_if_eq (tgt := 114) dX7_word_105 (by decide) (fun c105 => ?_) (fun c105 => ?_)
  · have hil : i = (wdW j).length := by
      rcases Nat.lt_or_ge i (wdW j).length with q | q
      · exact absurd (by rw [hkw _ (by omega), (f1 i q).1] at c105; exact c105) (f1 i q).2.1
      · omega
    refine g_iinc_1 (v := nI (offW (j + 1))) dX7_word_114 rfl (by rw [nI_inc, hil, f3]) ?_
    refine g_iinc_3 (v := nI (j + 1)) dX7_word_117 rfl (nI_inc j) ?_
    refine g_goto (tgt := 9) dX7_word_120 (by decide) ?_
    exact h
  · have hil : i < (wdW j).length := by
      rcases Nat.lt_or_ge i (wdW j).length with q | q
      · exact q
      · exact absurd (by rw [show i = (wdW j).length by omega, hkw _ (by omega)]; exact f2) c105
    refine g_iinc_1 (v := nI (offW j + (i + 1))) dX7_word_108 rfl (by rw [nI_inc, Nat.add_assoc]) ?_
    refine g_goto (tgt := 99) dX7_word_111 (by decide) ?_
    exact ih hil
set_option maxHeartbeats 4000000 in
set_option maxRecDepth 100000 in
theorem lp_X7_word {E : Ev} {M : Mem} {Q : QT} (hW : Wi M) {L : Tx} {s ll p : Nat} {S : Sc} (hk : RkS M L s ll p S) (hs : s < 8) (ht : TxOk L ll) (hp : p ≤ 160)  : ∀ j, j ≤ 7 → ∀ (far : Nat) (a4 a5 : Option AV), far ≤ p + 7 → (∀ f, wdM L p (7 - j) j far = .inl f → Q (some (vI (-1))) (sI M (20, 0, 0) 32 (nI f))) → (∀ w, wdM L p (7 - j) j far = .inr w → w < 7 → Q (some (vI (nI w))) (sI M (20, 0, 0) 29 (nI (p + (wdW w).length)))) → G E (rm 1 0 0) kX7_word (ZQ E Q 0 0) 0 0 9 [some (vR (20, 0, 0)), some (vI (nI (offW j))), some (vI (nI far)), some (vI (nI j)), a4, a5] [] M := by
  refine up_loop 7 (fun j hj ih far a4 a5 hfar h0 h1 => ?_)
  have ht1 := ht.1
  have hpl := hk.2.1
  have hll := hk.2.2.1
  refine g_iload_n dX7_word_9 rfl rfl ?_
  refine g_bipush dX7_word_10 (v := 7) (by decide) ?_
  refine g_icmp_ge (tgt := 123) dX7_word_12 (by decide) (fun c12 => ?_) (fun c12 => ?_)
  · rw [show (7 : Int32) = nI 7 from rfl] at c12
    have hjn2 : j = 7 := by rw [nI_leI (by omega) (by omega)] at c12; omega
    refine g_aloadR_n dX7_word_123 rfl rfl ?_
    refine g_iload_n dX7_word_124 rfl rfl ?_
    refine n_putI dX7_word_125 fX7_141 rfl hW vld_x20 rfl ?_
    refine g_iconst dX7_word_128 (v := (-1)) (by decide) ?_
    refine g_iret dX7_word_129 rfl ?_
    subst hjn2
    exact h0 far rfl
  · rw [show (7 : Int32) = nI 7 from rfl] at c12
    have hjn : j < 7 := by rw [nI_leI (by omega) (by omega)] at c12; omega
    have hmt : mt L (wdW j) p ≤ 7 := by have z := mtI_le L (wdW j) p (wdW j).length 0; have := (wd_f1 j hjn).2.2.2.2.1; unfold mt; omega
    obtain ⟨d, hd⟩ : ∃ d, 7 - j = d + 1 := ⟨7 - j - 1, by omega⟩
    have hd2 : 7 - (j + 1) = d := by omega
    rw [hd] at h0 h1
    refine g_aloadR_n dX7_word_15 rfl rfl ?_
    refine n_getI dX7_word_16 fX7_147 rfl hW vld_x20 (Or.inl rfl) ?_
    rw [hpl]
    refine g_istore_4 dX7_word_19 rfl ?_
    refine g_iload_n dX7_word_21 rfl rfl ?_
    refine g_istore_5 dX7_word_22 rfl ?_
    refine lp_X7_word1 hW hk hs ht hp hjn (by omega) (fun hy => h1 j (by rw [wdM, if_pos hy]) hjn) (fun hn => ?_) 0 (Nat.zero_le _) rfl
    have key := ih hjn (if p + mt L (wdW j) p ≤ far then far else p + mt L (wdW j) p) (some (vI (nI (p + mt L (wdW j) p)))) (some (vI (nI (offW j + mt L (wdW j) p)))) (by split <;> omega) (fun f hf => h0 f (by rw [hd2] at hf; rw [wdM, if_neg hn]; exact hf)) (fun w hw => h1 w (by rw [hd2] at hw; rw [wdM, if_neg hn]; exact hw))
    have key2 := lp_X7_word2 hW hk hs ht hp hjn (by split <;> omega) key 0 (Nat.zero_le _)
    refine g_iload dX7_word_86 rfl ?_
    refine g_iload_n dX7_word_88 rfl rfl ?_
    refine g_icmp_le (tgt := 97) dX7_word_89 (by decide) (fun c89 => ?_) (fun c89 => ?_)
    · rw [nI_leI (by omega) (by omega)] at c89
      rw [if_pos c89] at key2
      refine g_iload_n dX7_word_97 rfl rfl ?_
      refine g_istore_2 dX7_word_98 rfl ?_
      exact key2
    · rw [nI_leI (by omega) (by omega)] at c89
      rw [if_neg c89] at key2
      refine g_iload dX7_word_92 rfl ?_
      refine g_goto (tgt := 98) dX7_word_94 (by decide) ?_
      refine g_istore_2 dX7_word_98 rfl ?_
      exact key2
set_option maxHeartbeats 4000000 in
set_option maxRecDepth 100000 in
theorem wp_X7_word {E : Ev} {M : Mem} {Q : QT} (hW : Wi M) {L : Tx} {s ll p : Nat} {S : Sc} (hk : RkS M L s ll p S) (hs : s < 8) (ht : TxOk L ll) (hp : p ≤ 160) (h0 : ∀ f, rdWB L p = .inl f → ∀ M', FrI DN M M' → mI M' (20, 0, 0) 32 = nI f → Q (some (vI (-1))) M') (h1 : ∀ w q, rdWB L p = .inr (w, q) → w < 7 → L q = 32 → ∀ M', FrI DN M M' → RkS M' L s ll (q + 1) S → Q (some (vI (nI (mwI w)))) M') : Mth E 1 0 0 kX7_word [vR (20, 0, 0)] M Q := by
  have ht1 := ht.1
  have hpl := hk.2.1
  have hll := hk.2.2.1
  refine mth_of (by decide +kernel) [some (vR (20, 0, 0)), none, none, none, none, none] (Nat.le_of_ble_eq_true rfl) rfl ?_
  refine g_iconst dX7_word_0 (v := 0) (by decide) ?_
  refine g_istore_1 dX7_word_1 rfl ?_
  refine g_aloadR_n dX7_word_2 rfl rfl ?_
  refine n_getI dX7_word_3 fX7_147 rfl hW vld_x20 (Or.inl rfl) ?_
  rw [hpl]
  refine g_istore_2 dX7_word_6 rfl ?_
  refine g_iconst dX7_word_7 (v := 0) (by decide) ?_
  refine g_istore_3 dX7_word_8 rfl ?_
  obtain ⟨e0, e1⟩ := wdM_eq L p
  refine lp_X7_word hW hk hs ht hp 0 (Nat.zero_le _) p none none (by omega) (fun f hf => h0 f (e0 f hf) _ (frN (by decide) (by decide)) (by simp [mI, sI])) (fun w hw hw7 => ?_)
  obtain ⟨w', q, hr, hw', hm, hq, hL⟩ := e1 w hw
  rw [← hq, ← hm]
  exact h1 w' q hr hw' hL _ (frN (by decide) (by decide)) hk.at_
