/-! THE REFERENCE: ITEMS -/
def rdNs (so : Int32 → Bool) (L : Tx) (q : Nat) : Nat ⊕ (Int32 × Nat) := if L q = 32 then (if dig L (q + 1) ∧ so (rdTwo L (q + 1)).1 = true then .inr ((rdTwo L (q + 1)).1, (rdTwo L (q + 1)).2) else .inl (q + 1)) else .inl q
theorem dg_r0 : (List.range 10).all (fun a => (List.range 10).all fun b => decide (0 ≤ ((nI (48 + a) - 48) * 10 + (nI (48 + b) - 48)).toInt) && decide (0 ≤ (nI (48 + a) - 48).toInt)) = true := by decide +kernel
theorem dg_a {L : Tx} {p : Nat} (h : dig L p) : ∃ a, a < 10 ∧ L p = nI (48 + a) := by
  have hi : IN (L p) 58 := ⟨by have := h.1; omega, by have := h.2; omega⟩
  obtain ⟨e1, e2⟩ := IN_nI hi
  have e3 := congrArg Int32.toInt e1
  rw [nI_toInt (by omega)] at e3
  refine ⟨(L p).toNatClampNeg - 48, by omega, ?_⟩
  have := h.1
  rw [show 48 + ((L p).toNatClampNeg - 48) = (L p).toNatClampNeg by omega]
  exact e1
theorem rdTwo_nn {L : Tx} {p : Nat} (h : dig L p) : 0 ≤ (rdTwo L p).1.toInt := by
  obtain ⟨a, ha, ea⟩ := dg_a h
  have hb0 := dg_r0
  unfold rdTwo
  by_cases h2 : dig L (p + 1)
  · obtain ⟨b, hb, eb⟩ := dg_a h2
    rw [if_pos h2]
    have h := List.all_eq_true.mp (List.all_eq_true.mp dg_r0 a (List.mem_range.mpr ha)) b (List.mem_range.mpr hb)
    simp only [Bool.and_eq_true, decide_eq_true_eq] at h
    show 0 ≤ ((L p - 48) * 10 + (L (p + 1) - 48)).toInt
    rw [ea, eb]; exact h.1
  · rw [if_neg h2]
    have h := List.all_eq_true.mp (List.all_eq_true.mp dg_r0 a (List.mem_range.mpr ha)) 0 (List.mem_range.mpr (by decide))
    simp only [Bool.and_eq_true, decide_eq_true_eq] at h
    show 0 ≤ (L p - 48).toInt
    rw [ea]; exact h.2
theorem rdTwo_le {L : Tx} {ll p : Nat} (ht : TxOk L ll) (h : dig L p) : (rdTwo L p).2 ≤ ll := by
  have h1 := ht.lt (p := p) (by have := h.1; omega)
  unfold rdTwo
  by_cases h2 : dig L (p + 1)
  · rw [if_pos h2]
    have := ht.lt (p := p + 1) (by have := h2.1; omega)
    show p + 2 ≤ ll; omega
  · rw [if_neg h2]; show p + 1 ≤ ll; omega
theorem rdNum_ns {so : Int32 → Bool} {lo hi : Int32} (L : Tx) (q : Nat) (h : ∀ v : Int32, 0 ≤ v.toInt → (so v = true ↔ lo ≤ v ∧ v ≤ hi)) : rdNum L q lo hi = rdNs so L q := by
  rw [rdNum_two, rdNs]
  by_cases h1 : L q = 32
  · rw [if_pos h1, if_pos h1]
    by_cases h2 : dig L (q + 1)
    · rw [if_pos h2]
      have e := h _ (rdTwo_nn h2)
      unfold rdFit
      by_cases h3 : so (rdTwo L (q + 1)).1 = true
      · obtain ⟨a, b⟩ := e.mp h3
        have r : (if dig L (q + 1) ∧ so (rdTwo L (q + 1)).1 = true then (Sum.inr ((rdTwo L (q + 1)).1, (rdTwo L (q + 1)).2) : Nat ⊕ (Int32 × Nat)) else .inl (q + 1)) = .inr ((rdTwo L (q + 1)).1, (rdTwo L (q + 1)).2) := if_pos ⟨h2, h3⟩
        rw [r, if_neg (Int32.not_lt.mpr a), if_pos b]
      · have r : (if dig L (q + 1) ∧ so (rdTwo L (q + 1)).1 = true then (Sum.inr ((rdTwo L (q + 1)).1, (rdTwo L (q + 1)).2) : Nat ⊕ (Int32 × Nat)) else .inl (q + 1)) = .inl (q + 1) := if_neg (fun z => h3 z.2)
        rw [r]
        by_cases h4 : (rdTwo L (q + 1)).1 < lo
        · rw [if_pos h4]
        · rw [if_neg h4, if_neg (fun z => h3 (e.mpr ⟨Int32.not_lt.mp h4, z⟩))]
    · rw [if_neg h2, if_neg (fun z => h2 z.1)]
  · rw [if_neg h1, if_neg h1]
def BoM (L : Tx) (s ll : Nat) (M M' : Mem) (r : Int32) (x : Nat ⊕ (Sc × Nat)) : Prop := FrI DK M M' ∧ match x with
  | .inl f => r = 0 ∧ mI M' (20, 0, 0) 32 = nI f
  | .inr (S', q) => r = 1 ∧ q ≤ 160 ∧ RkS M' L s ll q S'

set_option maxHeartbeats 4000000 in
set_option maxRecDepth 100000 in
theorem lp_X7_item96 {E : Ev} {M : Mem} {Q : QT} (hW : Wi M) {L : Tx} {s ll q : Nat} {S : Sc} (hk : RkS M L s ll (q + 1) S) (hs : s < 8) (ht : TxOk L ll) (hq : q + 1 ≤ 160) {w i : Nat} (hi : i < 4) {so : Int32 → Bool} (hso : ∀ (M' : Mem) (Q' : QT), Wi M' → RkS M' L s ll (rdTwo L (q + 1)).2 S → mI M' (20, 0, 0) 31 = (rdTwo L (q + 1)).1 → (∀ t, mI M' (21, 19, 0) t = mI M (21, 19, 0) t) → Q' (some (vI (b2 (so (rdTwo L (q + 1)).1 = true)))) M' → Mth E 2 0 0 kX7_isSo [vR (20, 0, 0), vI (nI w), vI (nI i)] M' Q') (hL : L q = 32) (hF : ∀ f, rdNs so L q = .inl f → ∀ M', FrI DF M M' → mI M' (20, 0, 0) 32 = nI f → Q (some (vI 0)) M') (hG : ∀ v q', rdNs so L q = .inr (v, q') → q' ≤ 160 → so v = true → 0 ≤ v.toInt → ∀ M' a3, FrI DF M M' → RkS M' L s ll q' S → mI M' (21, 19, 0) i = v → (∀ t, t ≠ i → mI M' (21, 19, 0) t = mI M (21, 19, 0) t) → G E (rm 3 0 0) kX7_item (ZQ E Q 0 0) 0 0 39 [some (vR (20, 0, 0)), some (vI (nI w)), some (vI (nI (i + 1))), a3] [] M') {a3 : Option AV} : G E (rm 3 0 0) kX7_item (ZQ E Q 0 0) 0 0 96 [some (vR (20, 0, 0)), some (vI (nI w)), some (vI (nI i)), a3] [] M := by
  have ht1 := ht.1
  refine g_aloadR_n dX7_item_96 rfl rfl ?_
  refine n_getI dX7_item_97 fX7_147 rfl hW vld_x20 (Or.inl rfl) ?_
  rw [hk.2.1]
  refine g_istore_3 dX7_item_100 rfl ?_
  refine g_aloadR_n dX7_item_101 rfl rfl ?_
  refine n_v0i (n' := 2) dX7_item_102 mX7_reads lX7_173 rfl hW vld_x20 rfl rfl ⟨Nat.le_of_ble_eq_true rfl, Nat.le_of_ble_eq_true rfl⟩ ⟨Nat.zero_le _, Nat.zero_le _⟩ (Nat.le_of_ble_eq_true rfl) ?_
  refine wp_X7_reads (by exact hW) hk hs ht hq (fun hd M1 hf1 h32 => ?_) (fun hd M1 hf1 hk1 h31 => ?_)
  · refine ⟨_, rfl, ?_⟩
    refine g_if_ne (tgt := 110) dX7_item_105 (by decide) (fun z => absurd rfl z) (fun _ => ?_)
    refine g_iconst dX7_item_108 (v := 0) (by decide) ?_
    refine g_zret dX7_item_109 rfl (Or.inl rfl) ?_
    exact hF _ (by rw [rdNs, if_pos hL, if_neg (fun z => hd z.1)]) M1 (hf1.mono DN_DF) h32
  have hW1 := hf1.W (by exact hW)
  refine ⟨_, rfl, ?_⟩
  refine g_if_ne (tgt := 110) dX7_item_105 (by decide) (fun c105 => ?_) (fun c105 => ?_)
  · refine g_aloadR_n dX7_item_110 rfl rfl ?_
    refine g_iload_n dX7_item_111 rfl rfl ?_
    refine g_iload_n dX7_item_112 rfl rfl ?_
    refine n_v2i (n' := 2) dX7_item_113 mX7_isSo lX7_176 rfl hW1 vld_x20 rfl rfl ⟨Nat.le_of_ble_eq_true rfl, Nat.le_of_ble_eq_true rfl⟩ ⟨Nat.zero_le _, Nat.zero_le _⟩ (Nat.le_of_ble_eq_true rfl) ?_
    refine hso M1 _ (by exact hW1) hk1 h31 (fun t => hf1.2 _ _ (fun z => by cases z.1)) ?_
    refine ⟨_, rfl, ?_⟩
    refine g_if_ne (tgt := 125) dX7_item_116 (by decide) (fun c116 => ?_) (fun c116 => ?_)
    · simp only [b2_0, Decidable.not_not] at c116
      refine g_aloadR_n dX7_item_125 rfl rfl ?_
      refine n_getR dX7_item_126 fX7_84 rfl hW1 vld_x20 rfl rfl ?_
      refine g_iload_n dX7_item_129 rfl rfl ?_
      refine g_aloadR_n dX7_item_130 rfl rfl ?_
      refine n_getI dX7_item_131 fX7_156 rfl hW1 vld_x20 (Or.inl rfl) ?_
      rw [h31]
      refine n_iast (j := i) dX7_item_134 rfl hW1 (vld_ma (by decide : 19 < 25)) (by decide) rfl hi ?_
      refine g_iinc_2 (v := nI (i + 1)) dX7_item_135 rfl (nI_inc i) ?_
      refine g_goto (tgt := 39) dX7_item_138 (by decide) ?_
      exact hG _ _ (by rw [rdNs, if_pos hL, if_pos ⟨hd, c116⟩]) (Nat.le_trans (rdTwo_le ht hd) ht1) c116 (rdTwo_nn hd) _ _ ((hf1.mono DN_DF).tr (fr_sI (Or.inr ⟨rfl, rfl⟩))) hk1.td (by simp [mI, sI]) (fun t hti => by simp only [mI, sI]; rw [if_neg (fun z => hti z.2)]; exact hf1.2 _ _ (fun z => by cases z.1))
    · simp only [b2_0, Decidable.not_not] at c116
      refine g_aloadR_n dX7_item_119 rfl rfl ?_
      refine g_iload_n dX7_item_120 rfl rfl ?_
      refine n_v1i (n' := 0) dX7_item_121 mX7_wrong lX7_163 rfl hW1 vld_x20 rfl rfl ⟨Nat.le_of_ble_eq_true rfl, Nat.le_of_ble_eq_true rfl⟩ ⟨Nat.zero_le _, Nat.zero_le _⟩ (Nat.le_of_ble_eq_true rfl) ?_
      refine wp_X7_wrong (by exact hW1) ?_
      refine ⟨_, rfl, ?_⟩
      refine g_zret dX7_item_124 rfl (Or.inl rfl) ?_
      exact hF _ (by rw [rdNs, if_pos hL, if_neg (fun z => c116 z.2)]) _ ((hf1.mono DN_DF).tr (fr_sI (Or.inl ⟨rfl, by decide, by decide⟩))) (by simp [mI, sI])
  · exact absurd c105 (by decide)
set_option maxHeartbeats 4000000 in
set_option maxRecDepth 100000 in
theorem lp_X7_itemA {E : Ev} {M : Mem} {Q : QT} (hW : Wi M) {L : Tx} {s ll q : Nat} {S : Sc} (hk : RkS M L s ll (q + 1) S) (hs : s < 8) (ht : TxOk L ll) (hq : q + 1 ≤ 160) {w i : Nat} (hi : i < 4) (hi0 : i = 0) {so : Int32 → Bool} (hnu : ¬ nmK.getD w 0 ≤ nI i) (hw : w < 7) (hso : ∀ (M' : Mem) (Q' : QT), Wi M' → RkS M' L s ll (rdTwo L (q + 1)).2 S → mI M' (20, 0, 0) 31 = (rdTwo L (q + 1)).1 → (∀ t, mI M' (21, 19, 0) t = mI M (21, 19, 0) t) → Q' (some (vI (b2 (so (rdTwo L (q + 1)).1 = true)))) M' → Mth E 2 0 0 kX7_isSo [vR (20, 0, 0), vI (nI w), vI (nI i)] M' Q') (hL : L q = 32) (hF : ∀ f, rdNs so L q = .inl f → ∀ M', FrI DF M M' → mI M' (20, 0, 0) 32 = nI f → Q (some (vI 0)) M') (hG : ∀ v q', rdNs so L q = .inr (v, q') → q' ≤ 160 → so v = true → 0 ≤ v.toInt → ∀ M' a3, FrI DF M M' → RkS M' L s ll q' S → mI M' (21, 19, 0) i = v → (∀ t, t ≠ i → mI M' (21, 19, 0) t = mI M (21, 19, 0) t) → G E (rm 3 0 0) kX7_item (ZQ E Q 0 0) 0 0 39 [some (vR (20, 0, 0)), some (vI (nI w)), some (vI (nI (i + 1))), a3] [] M') {a3 : Option AV} : G E (rm 3 0 0) kX7_item (ZQ E Q 0 0) 0 0 39 [some (vR (20, 0, 0)), some (vI (nI w)), some (vI (nI i)), a3] [] M := by
  
  refine g_iload_n dX7_item_39 rfl rfl ?_
  refine g_aloadR_n dX7_item_40 rfl rfl ?_
  refine n_getR dX7_item_41 fX7_78 rfl hW vld_x20 rfl rfl ?_
  refine g_iload_n dX7_item_44 rfl rfl ?_
  refine n_iald (j := w) dX7_item_45 rfl hW (vld_ma (by decide : 17 < 25)) (by decide) rfl hw ?_
  refine g_icmp_ge (tgt := 141) dX7_item_46 (by decide) (fun c46 => ?_) (fun c46 => ?_)
  · exact absurd (by rw [hk.2.2.2.2.2.2.1 w hw] at c46; exact c46) hnu
  · refine g_iload_n dX7_item_49 rfl rfl ?_
    refine g_if_le (tgt := 96) dX7_item_50 (by decide) (fun c50 => ?_) (fun c50 => ?_)
    · exact lp_X7_item96 hW hk hs ht hq hi hso hL hF hG
    · exact absurd (by rw [hi0]; decide) c50
set_option maxHeartbeats 4000000 in
set_option maxRecDepth 100000 in
theorem lp_X7_itemB {E : Ev} {M : Mem} {Q : QT} (hW : Wi M) {L : Tx} {s ll q : Nat} {S : Sc} (hk : RkS M L s ll q S) (hs : s < 8) (ht : TxOk L ll) (hq : q + 1 ≤ 160) {w i : Nat} (hi : i < 4) (hi0 : 0 < i) {so : Int32 → Bool} (hnu : ¬ nmK.getD w 0 ≤ nI i) (hw : w < 7) (hso : ∀ (M' : Mem) (Q' : QT), Wi M' → RkS M' L s ll (rdTwo L (q + 1)).2 S → mI M' (20, 0, 0) 31 = (rdTwo L (q + 1)).1 → (∀ t, mI M' (21, 19, 0) t = mI M (21, 19, 0) t) → Q' (some (vI (b2 (so (rdTwo L (q + 1)).1 = true)))) M' → Mth E 2 0 0 kX7_isSo [vR (20, 0, 0), vI (nI w), vI (nI i)] M' Q') (hF : ∀ f, rdNs so L q = .inl f → ∀ M', FrI DF M M' → mI M' (20, 0, 0) 32 = nI f → Q (some (vI 0)) M') (hG : ∀ v q', rdNs so L q = .inr (v, q') → q' ≤ 160 → so v = true → 0 ≤ v.toInt → ∀ M' a3, FrI DF M M' → RkS M' L s ll q' S → mI M' (21, 19, 0) i = v → (∀ t, t ≠ i → mI M' (21, 19, 0) t = mI M (21, 19, 0) t) → G E (rm 3 0 0) kX7_item (ZQ E Q 0 0) 0 0 39 [some (vR (20, 0, 0)), some (vI (nI w)), some (vI (nI (i + 1))), a3] [] M') {a3 : Option AV} : G E (rm 3 0 0) kX7_item (ZQ E Q 0 0) 0 0 39 [some (vR (20, 0, 0)), some (vI (nI w)), some (vI (nI i)), a3] [] M := by
  have ht1 := ht.1
  have hpl := hk.2.1
  have hll := hk.2.2.1
  refine g_iload_n dX7_item_39 rfl rfl ?_
  refine g_aloadR_n dX7_item_40 rfl rfl ?_
  refine n_getR dX7_item_41 fX7_78 rfl hW vld_x20 rfl rfl ?_
  refine g_iload_n dX7_item_44 rfl rfl ?_
  refine n_iald (j := w) dX7_item_45 rfl hW (vld_ma (by decide : 17 < 25)) (by decide) rfl hw ?_
  refine g_icmp_ge (tgt := 141) dX7_item_46 (by decide) (fun c46 => ?_) (fun c46 => ?_)
  · exact absurd (by rw [hk.2.2.2.2.2.2.1 w hw] at c46; exact c46) hnu
  · refine g_iload_n dX7_item_49 rfl rfl ?_
    refine g_if_le (tgt := 96) dX7_item_50 (by decide) (fun c50 => ?_) (fun c50 => ?_)
    · exact absurd c50 (by rw [show (0 : Int32) = nI 0 from rfl, nI_leI (by omega) (by omega)]; omega)
    · refine g_aloadR_n dX7_item_53 rfl rfl ?_
      refine n_getI dX7_item_54 fX7_147 rfl hW vld_x20 (Or.inl rfl) ?_
      refine g_aloadR_n dX7_item_57 rfl rfl ?_
      refine n_getI dX7_item_58 fX7_150 rfl hW vld_x20 (Or.inl rfl) ?_
      refine g_icmp_ge (tgt := 77) dX7_item_61 (by decide) (fun c61 => ?_) (fun c61 => ?_)
      · rw [hpl, hll, nI_leI (by omega) (by omega)] at c61
        have hL : ¬ L q = 32 := fun z => by have := ht.lt (p := q) (by rw [z]; decide); omega
        refine g_aloadR_n dX7_item_77 rfl rfl ?_
        refine g_aloadR_n dX7_item_78 rfl rfl ?_
        refine n_getI dX7_item_79 fX7_147 rfl hW vld_x20 (Or.inl rfl) ?_
        rw [hpl]
        refine n_v1i (n' := 0) dX7_item_82 mX7_wrong lX7_163 rfl hW vld_x20 rfl rfl ⟨Nat.le_of_ble_eq_true rfl, Nat.le_of_ble_eq_true rfl⟩ ⟨Nat.zero_le _, Nat.zero_le _⟩ (Nat.le_of_ble_eq_true rfl) ?_
        refine wp_X7_wrong (by exact hW) ?_
        refine ⟨_, rfl, ?_⟩
        refine g_zret dX7_item_85 rfl (Or.inl rfl) ?_
        exact hF _ (by rw [rdNs, if_neg hL]) _ (fr_sI (Or.inl ⟨rfl, by decide, by decide⟩)) (by simp [mI, sI])
      · rw [hpl, hll, nI_leI (by omega) (by omega)] at c61
        refine g_aloadR_n dX7_item_64 rfl rfl ?_
        refine g_aloadR_n dX7_item_65 rfl rfl ?_
        refine n_getI dX7_item_66 fX7_147 rfl hW vld_x20 (Or.inl rfl) ?_
        rw [hpl]
        refine n_v1i (n' := 0) dX7_item_69 mX7_sign lX7_153 rfl hW vld_x20 rfl rfl ⟨Nat.le_of_ble_eq_true rfl, Nat.le_of_ble_eq_true rfl⟩ ⟨Nat.zero_le _, Nat.zero_le _⟩ (Nat.le_of_ble_eq_true rfl) ?_
        refine wp_X7_sign (by exact hW) hk.1 (i := q) rfl hs (by omega) ?_
        refine ⟨_, rfl, ?_⟩
        rw [hk.2.2.2.1 q (by omega)]
        refine g_bipush dX7_item_72 (v := 32) (by decide) ?_
        refine g_icmp_eq (tgt := 86) dX7_item_74 (by decide) (fun c74 => ?_) (fun c74 => ?_)
        · refine g_aloadR_n dX7_item_86 rfl rfl ?_
          refine g_dup dX7_item_87 rfl ?_
          refine n_getI dX7_item_88 fX7_147 rfl hW vld_x20 (Or.inl rfl) ?_
          refine g_iconst dX7_item_91 (v := 1) (by decide) ?_
          refine g_iadd dX7_item_92 ?_
          rw [hpl, nI_1]
          refine n_putI dX7_item_93 fX7_147 rfl hW vld_x20 rfl ?_
          have c74 : L q = 32 := by first | exact c74 | exact Decidable.not_not.mp c74
          have f29 : FrI DF M (sI M (20, 0, 0) 29 (nI (q + 1))) := fr_sI (Or.inl ⟨rfl, by decide, by decide⟩)
          exact lp_X7_item96 (by exact hW) hk.at_ hs ht hq hi (fun M' Q' a b c d e => hso M' Q' a b c (fun t => (d t).trans (by simp [mI, sI])) e) c74 (fun f a M' b c => hF f a M' (f29.tr b) c) (fun v q' a b c c2 M' a3 d e g k => hG v q' a b c c2 M' a3 (f29.tr d) e g (fun t hti => (k t hti).trans (by simp [mI, sI])))
        · have hL : ¬ L q = 32 := c74
          refine g_aloadR_n dX7_item_77 rfl rfl ?_
          refine g_aloadR_n dX7_item_78 rfl rfl ?_
          refine n_getI dX7_item_79 fX7_147 rfl hW vld_x20 (Or.inl rfl) ?_
          rw [hpl]
          refine n_v1i (n' := 0) dX7_item_82 mX7_wrong lX7_163 rfl hW vld_x20 rfl rfl ⟨Nat.le_of_ble_eq_true rfl, Nat.le_of_ble_eq_true rfl⟩ ⟨Nat.zero_le _, Nat.zero_le _⟩ (Nat.le_of_ble_eq_true rfl) ?_
          refine wp_X7_wrong (by exact hW) ?_
          refine ⟨_, rfl, ?_⟩
          refine g_zret dX7_item_85 rfl (Or.inl rfl) ?_
          exact hF _ (by rw [rdNs, if_neg hL]) _ (fr_sI (Or.inl ⟨rfl, by decide, by decide⟩)) (by simp [mI, sI])
