/-! THE REFERENCE: ONE ITEM AFTER ITS WORD -/
theorem b2_bool {p : Prop} [Decidable p] : b2 (decide p = true) = b2 p := by unfold b2; by_cases h : p <;> simp [h]
theorem soP {hi : Int32} : ∀ v : Int32, 0 ≤ v.toInt → (decide (v ≤ hi) = true ↔ 0 ≤ v ∧ v ≤ hi) := fun v hv => by
  rw [decide_eq_true_eq]
  exact ⟨fun h => ⟨by rw [Int32.le_iff_toInt_le]; simpa [zcs] using hv, h⟩, fun h => h.2⟩
theorem soN {n : Nat} (hn : n ≤ 10) : ∀ v : Int32, 0 ≤ v.toInt → (decide (v.toInt < (n : Int)) = true ↔ 0 ≤ v ∧ v ≤ nI n - 1) := fun v hv => by
  have e : (nI n - 1).toInt = (n : Int) - 1 := by
    rw [i_sub (by rw [nI_toInt (by omega)]; simp only [zcs]; omega) (by rw [nI_toInt (by omega)]; simp only [zcs]; omega), nI_toInt (by omega)]; simp only [zcs]
  rw [decide_eq_true_eq, Int32.le_iff_toInt_le, Int32.le_iff_toInt_le, e]
  simp only [zcs]
  omega
theorem soF {lo hi : Int32} : ∀ v : Int32, 0 ≤ v.toInt → (decide (fromP v lo hi) = true ↔ lo ≤ v ∧ v ≤ hi) := fun v _ => by
  rw [decide_eq_true_eq, Int32.le_iff_toInt_le, Int32.le_iff_toInt_le]
set_option maxHeartbeats 4000000 in
set_option maxRecDepth 100000 in
theorem lp_X7_itemB' {E : Ev} {M : Mem} {Q : QT} (hW : Wi M) {L : Tx} {s ll q : Nat} {S : Sc} (hk : RkS M L s ll q S) (hs : s < 8) (ht : TxOk L ll) (hq : q ≤ 160) {w i : Nat} (hi : i < 4) (hi0 : 0 < i) {so : Int32 → Bool} (hnu : ¬ nmK.getD w 0 ≤ nI i) (hw : w < 7) (hso : ∀ (M' : Mem) (Q' : QT), Wi M' → RkS M' L s ll (rdTwo L (q + 1)).2 S → mI M' (20, 0, 0) 31 = (rdTwo L (q + 1)).1 → (∀ t, mI M' (21, 19, 0) t = mI M (21, 19, 0) t) → Q' (some (vI (b2 (so (rdTwo L (q + 1)).1 = true)))) M' → Mth E 2 0 0 kX7_isSo [vR (20, 0, 0), vI (nI w), vI (nI i)] M' Q') (hF : ∀ f, rdNs so L q = .inl f → ∀ M', FrI DF M M' → mI M' (20, 0, 0) 32 = nI f → Q (some (vI 0)) M') (hG : ∀ v q', rdNs so L q = .inr (v, q') → q' ≤ 160 → so v = true → 0 ≤ v.toInt → ∀ M' a3, FrI DF M M' → RkS M' L s ll q' S → mI M' (21, 19, 0) i = v → (∀ t, t ≠ i → mI M' (21, 19, 0) t = mI M (21, 19, 0) t) → G E (rm 3 0 0) kX7_item (ZQ E Q 0 0) 0 0 39 [some (vR (20, 0, 0)), some (vI (nI w)), some (vI (nI (i + 1))), a3] [] M') {a3 : Option AV} : G E (rm 3 0 0) kX7_item (ZQ E Q 0 0) 0 0 39 [some (vR (20, 0, 0)), some (vI (nI w)), some (vI (nI i)), a3] [] M := by
  by_cases hqq : q + 1 ≤ 160
  · exact lp_X7_itemB hW hk hs ht hqq hi hi0 hnu hw hso hF hG
  · have hll := hk.2.2.1
    have hpl := hk.2.1
    have ht1 := ht.1
    have hL : ¬ L q = 32 := fun z => by have := ht.lt (p := q) (by rw [z]; decide); omega
    refine g_iload_n dX7_item_39 rfl rfl ?_
    refine g_aloadR_n dX7_item_40 rfl rfl ?_
    refine n_getR dX7_item_41 fX7_78 rfl hW vld_x20 rfl rfl ?_
    refine g_iload_n dX7_item_44 rfl rfl ?_
    refine n_iald (j := w) dX7_item_45 rfl hW (vld_ma (by decide : 17 < 25)) (by decide) rfl hw ?_
    refine g_icmp_ge (tgt := 141) dX7_item_46 (by decide) (fun c46 => ?_) (fun c46 => ?_)
    · exact absurd (by rw [hk.2.2.2.2.2.2.1 w hw] at c46; exact c46) hnu
    refine g_iload_n dX7_item_49 rfl rfl ?_
    refine g_if_le (tgt := 96) dX7_item_50 (by decide) (fun c50 => ?_) (fun c50 => ?_)
    · exact absurd c50 (by rw [show (0 : Int32) = nI 0 from rfl, nI_leI (by omega) (by omega)]; omega)
    refine g_aloadR_n dX7_item_53 rfl rfl ?_
    refine n_getI dX7_item_54 fX7_147 rfl hW vld_x20 (Or.inl rfl) ?_
    refine g_aloadR_n dX7_item_57 rfl rfl ?_
    refine n_getI dX7_item_58 fX7_150 rfl hW vld_x20 (Or.inl rfl) ?_
    refine g_icmp_ge (tgt := 77) dX7_item_61 (by decide) (fun c61 => ?_) (fun c61 => ?_)
    · refine g_aloadR_n dX7_item_77 rfl rfl ?_
      refine g_aloadR_n dX7_item_78 rfl rfl ?_
      refine n_getI dX7_item_79 fX7_147 rfl hW vld_x20 (Or.inl rfl) ?_
      rw [hpl]
      refine n_v1i (n' := 0) dX7_item_82 mX7_wrong lX7_163 rfl hW vld_x20 rfl rfl ⟨Nat.le_of_ble_eq_true rfl, Nat.le_of_ble_eq_true rfl⟩ ⟨Nat.zero_le _, Nat.zero_le _⟩ (Nat.le_of_ble_eq_true rfl) ?_
      refine wp_X7_wrong (by exact hW) ?_
      refine ⟨_, rfl, ?_⟩
      refine g_zret dX7_item_85 rfl (Or.inl rfl) ?_
      exact hF _ (by rw [rdNs, if_neg hL]) _ (fr_sI (Or.inl ⟨rfl, by decide, by decide⟩)) (by simp [mI, sI])
    · exact absurd (by rw [hpl, hll, nI_leI (by omega) (by omega)]; omega) c61
set_option maxHeartbeats 4000000 in
set_option maxRecDepth 100000 in
theorem lp_X7_itP {E : Ev} {M : Mem} {Q : QT} (hW : Wi M) {L : Tx} {s ll q : Nat} {S : Sc} (hO : OkS S) (hk : RkS M L s ll (q + 1) S) (hs : s < 8) (ht : TxOk L ll) (hq : q + 1 ≤ 160) (hL : L q = 32) (hn : S.1 < 10) (H : ∀ r M' x, rdPer L S q = x → BoM L s ll M M' r x → Q (some (vI r)) M') {a2 a3 : Option AV} : G E (rm 3 0 0) kX7_item (ZQ E Q 0 0) 0 0 37 [some (vR (20, 0, 0)), some (vI (nI 0)), a2, a3] [] M := by
  refine g_iconst dX7_item_37 (v := 0) (by decide) ?_
  refine g_istore_2 dX7_item_38 rfl ?_
  have e0 : ∀ q, rdNum L q 0 6 = rdNs (fun v => decide (v ≤ 6)) L q := fun q => rdNum_ns L q soP
  have e1 : ∀ q, rdNum L q 0 9 = rdNs (fun v => decide (v ≤ 9)) L q := fun q => rdNum_ns L q soP
  have e2 : ∀ q, rdNum L q 0 20 = rdNs (fun v => decide (v ≤ 20)) L q := fun q => rdNum_ns L q soP
  have e3 : ∀ q, rdNum L q 0 1 = rdNs (fun v => decide (v ≤ 1)) L q := fun q => rdNum_ns L q soP
  refine lp_X7_itemA hW hk hs ht hq (w := 0) (i := 0) (by decide) rfl (so := fun v => decide (v ≤ 6)) (by decide) (by decide) (fun M9 Q9 a b c d e => wp_X7_isSo0 a b hO c (i := 0) (by decide) (by rw [b2_bool] at e; exact e)) hL (fun f hf M' hx h32 => H 0 M' (.inl f) (by simp only [rdPer, e0, hf]) ⟨hx.mono DF_DK, rfl, h32⟩) (fun v0 q1 f0 hq1 _ _ M1 a3 h1 k1 t1 u1 => ?_)
  have hW1 := h1.W hW
  have hq1b : q1 + 1 ≤ 160 ∨ ¬ q1 + 1 ≤ 160 := Classical.em _
  refine lp_X7_itemB' hW1 k1 hs ht hq1 (w := 0) (i := 1) (by decide) (by decide) (so := fun v => decide (v ≤ 9)) (by decide) (by decide) (fun M9 Q9 a b c d e => wp_X7_isSo0 a b hO c (i := 1) (by decide) (by rw [b2_bool] at e; exact e)) (fun f hf M' hx h32 => H 0 M' (.inl f) (by simp only [rdPer, e0, e1, f0, hf]) ⟨(h1.tr hx).mono DF_DK, rfl, h32⟩) (fun v1 q2 f1 hq2 _ _ M2 a3 h2' k2 t2 u2 => ?_)
  have h2 := h1.tr h2'
  have hW2 := h2.W hW
  have hq2b : q2 + 1 ≤ 160 ∨ ¬ q2 + 1 ≤ 160 := Classical.em _
  refine lp_X7_itemB' hW2 k2 hs ht hq2 (w := 0) (i := 2) (by decide) (by decide) (so := fun v => decide (v ≤ 20)) (by decide) (by decide) (fun M9 Q9 a b c d e => wp_X7_isSo0 a b hO c (i := 2) (by decide) (by rw [b2_bool] at e; exact e)) (fun f hf M' hx h32 => H 0 M' (.inl f) (by simp only [rdPer, e0, e1, e2, f0, f1, hf]) ⟨(h2.tr hx).mono DF_DK, rfl, h32⟩) (fun v2 q3 f2 hq3 _ _ M3 a3 h3' k3 t3 u3 => ?_)
  have h3 := h2.tr h3'
  have hW3 := h3.W hW
  have hq3b : q3 + 1 ≤ 160 ∨ ¬ q3 + 1 ≤ 160 := Classical.em _
  refine lp_X7_itemB' hW3 k3 hs ht hq3 (w := 0) (i := 3) (by decide) (by decide) (so := fun v => decide (v ≤ 1)) (by decide) (by decide) (fun M9 Q9 a b c d e => wp_X7_isSo0 a b hO c (i := 3) (by decide) (by rw [b2_bool] at e; exact e)) (fun f hf M' hx h32 => H 0 M' (.inl f) (by simp only [rdPer, e0, e1, e2, e3, f0, f1, f2, hf]) ⟨(h3.tr hx).mono DF_DK, rfl, h32⟩) (fun v3 q4 f3 hq4 _ _ M4 a3 h4' k4 t4 u4 => ?_)
  have h4 := h3.tr h4'
  have hW4 := h4.W hW
  have z0 : mI M4 (21, 19, 0) 0 = v0 := (u4 0 (by decide)).trans ((u3 0 (by decide)).trans ((u2 0 (by decide)).trans t1))
  have z1 : mI M4 (21, 19, 0) 1 = v1 := (u4 1 (by decide)).trans ((u3 1 (by decide)).trans t2)
  have z2 : mI M4 (21, 19, 0) 2 = v2 := (u4 2 (by decide)).trans t3
  have z3 : mI M4 (21, 19, 0) 3 = v3 := t4
  have hfin : rdPer L S q = .inr (enrS S v0 v1 v2 v3, q4) := by simp only [rdPer, e0, e1, e2, e3, f0, f1, f2, f3]
  refine g_iload_n dX7_item_39 rfl rfl ?_
  refine g_aloadR_n dX7_item_40 rfl rfl ?_
  refine n_getR dX7_item_41 fX7_78 rfl hW4 vld_x20 rfl rfl ?_
  refine g_iload_n dX7_item_44 rfl rfl ?_
  refine n_iald (j := 0) dX7_item_45 rfl hW4 (vld_ma (by decide : 17 < 25)) (by decide) rfl (by decide) ?_
  refine g_icmp_ge (tgt := 141) dX7_item_46 (by decide) (fun c46 => ?_) (fun c46 => ?_)
  · refine g_iload_n dX7_item_141 rfl rfl ?_
    refine g_if_ne (tgt := 177) dX7_item_142 (by decide) (fun c142 => ?_) (fun c142 => ?_)
    · exact absurd c142 (by decide)
    · refine g_aloadR_n dX7_item_145 rfl rfl ?_
      refine g_aloadR_n dX7_item_146 rfl rfl ?_
      refine n_getR dX7_item_147 fX7_84 rfl hW4 vld_x20 rfl rfl ?_
      refine g_iconst dX7_item_150 (v := 0) (by decide) ?_
      refine n_iald (j := 0) dX7_item_151 rfl hW4 (vld_ma (by decide : 19 < 25)) (by decide) (by decide) (by decide) ?_
      rw [z0]
      refine g_aloadR_n dX7_item_152 rfl rfl ?_
      refine n_getR dX7_item_153 fX7_84 rfl hW4 vld_x20 rfl rfl ?_
      refine g_iconst dX7_item_156 (v := 1) (by decide) ?_
      refine n_iald (j := 1) dX7_item_157 rfl hW4 (vld_ma (by decide : 19 < 25)) (by decide) (by decide) (by decide) ?_
      rw [z1]
      refine g_aloadR_n dX7_item_158 rfl rfl ?_
      refine n_getR dX7_item_159 fX7_84 rfl hW4 vld_x20 rfl rfl ?_
      refine g_iconst dX7_item_162 (v := 2) (by decide) ?_
      refine n_iald (j := 2) dX7_item_163 rfl hW4 (vld_ma (by decide : 19 < 25)) (by decide) (by decide) (by decide) ?_
      rw [z2]
      refine g_aloadR_n dX7_item_164 rfl rfl ?_
      refine n_getR dX7_item_165 fX7_84 rfl hW4 vld_x20 rfl rfl ?_
      refine g_iconst dX7_item_168 (v := 3) (by decide) ?_
      refine n_iald (j := 3) dX7_item_169 rfl hW4 (vld_ma (by decide : 19 < 25)) (by decide) (by decide) (by decide) ?_
      rw [z3]
      refine n_v4i (n' := 0) dX7_item_170 mX7_adds lX7_124 rfl hW4 vld_x20 rfl rfl ⟨Nat.le_of_ble_eq_true rfl, Nat.le_of_ble_eq_true rfl⟩ ⟨Nat.zero_le _, Nat.zero_le _⟩ (Nat.le_of_ble_eq_true rfl) ?_
      refine wp_X7_adds (by exact hW4) k4.2.2.2.2.1 hO hn ?_
      refine ⟨_, rfl, ?_⟩
      refine g_pop dX7_item_173 rfl ?_
      refine g_goto (tgt := 236) dX7_item_174 (by decide) ?_
      refine g_iconst dX7_item_236 (v := 1) (by decide) ?_
      refine g_zret dX7_item_237 rfl (Or.inr rfl) ?_
      refine H 1 _ _ hfin ⟨(h4.mono DF_DK).tr (adM_fr.mono DS_DK), rfl, hq4, k4.fr adM_fr (fun z => by rcases z with z | z; (have := z.2; omega); cases z.1) (fun z => by rcases z with z | z; (have := z.2; omega); cases z.1) ((adM_fr.2 _ _ (fun z => by rcases z with z | z; (have := z.2; omega); cases z.1)).trans k4.2.1) k4.2.2.2.2.1.add (fun k j hk z => by rcases z with z | z; cases z.1; (have := z.2; simp only at this; omega))⟩
  · exact absurd (by rw [k4.2.2.2.2.2.2.1 0 (by decide)]; decide) c46
set_option maxHeartbeats 4000000 in
set_option maxRecDepth 100000 in
theorem lp_X7_itF {E : Ev} {M : Mem} {Q : QT} (hW : Wi M) {L : Tx} {s ll q : Nat} {S : Sc} (hO : OkS S) (hk : RkS M L s ll (q + 1) S) (hs : s < 8) (ht : TxOk L ll) (hq : q + 1 ≤ 160) (hL : L q = 32) (H : ∀ r M' x, rdFri L S q = x → BoM L s ll M M' r x → Q (some (vI r)) M') {a2 a3 : Option AV} : G E (rm 3 0 0) kX7_item (ZQ E Q 0 0) 0 0 37 [some (vR (20, 0, 0)), some (vI (nI 1)), a2, a3] [] M := by
  refine g_iconst dX7_item_37 (v := 0) (by decide) ?_
  refine g_istore_2 dX7_item_38 rfl ?_
  have hs10 := hO.1
  have e0 : ∀ q, rdNum L q 0 (nI S.1 - 1) = rdNs (fun v => decide (v.toInt < (S.1 : Int))) L q := fun q => rdNum_ns L q (soN hO.1)
  refine lp_X7_itemA hW hk hs ht hq (w := 1) (i := 0) (by decide) rfl (so := fun v => decide (v.toInt < (S.1 : Int))) (by decide) (by decide) (fun M9 Q9 a b c d e => wp_X7_isSo1a a b hO c (by rw [b2_bool] at e; exact e)) hL (fun f hf M' hx h32 => H 0 M' (.inl f) (by simp only [rdFri, e0, hf]) ⟨hx.mono DF_DK, rfl, h32⟩) (fun v0 q1 f0 hq1 s0 n0 M1 a3 h1 k1 t1 u1 => ?_)
  have hW1 := h1.W hW
  have hin0 : IN v0 S.1 := ⟨n0, by simpa using s0⟩
  refine lp_X7_itemB' hW1 k1 hs ht hq1 (w := 1) (i := 1) (by decide) (by decide) (so := fun v => decide (v.toInt < (S.1 : Int) ∧ ¬ v = v0)) (by decide) (by decide) (fun M9 Q9 a b c d e => wp_X7_isSo1b a b hO c ((d 0).trans t1) (by rw [b2_bool] at e; exact e)) (fun f hf M' hx h32 => H 0 M' (.inl f) (by
    simp only [rdFri, e0, f0]
    rw [rdNs] at hf ⊢
    by_cases c1 : L q1 = 32
    · rw [if_pos c1] at hf ⊢
      by_cases c2 : dig L (q1 + 1) ∧ decide ((rdTwo L (q1 + 1)).1.toInt < (S.1 : Int)) = true
      · have r : (if dig L (q1 + 1) ∧ decide ((rdTwo L (q1 + 1)).1.toInt < (S.1 : Int)) = true then (Sum.inr ((rdTwo L (q1 + 1)).1, (rdTwo L (q1 + 1)).2) : Nat ⊕ (Int32 × Nat)) else .inl (q1 + 1)) = .inr ((rdTwo L (q1 + 1)).1, (rdTwo L (q1 + 1)).2) := if_pos c2
        rw [r]
        dsimp only
        by_cases c3 : (rdTwo L (q1 + 1)).1 = v0
        · rw [if_pos c3]
          rw [if_neg (fun z => by have := z.2; rw [decide_eq_true_eq] at this; exact this.2 c3)] at hf
          injection hf with hf; rw [hf]
        · exfalso
          rw [if_pos ⟨c2.1, by rw [decide_eq_true_eq]; exact ⟨by simpa using c2.2, c3⟩⟩] at hf
          cases hf
      · have r : (if dig L (q1 + 1) ∧ decide ((rdTwo L (q1 + 1)).1.toInt < (S.1 : Int)) = true then (Sum.inr ((rdTwo L (q1 + 1)).1, (rdTwo L (q1 + 1)).2) : Nat ⊕ (Int32 × Nat)) else .inl (q1 + 1)) = .inl (q1 + 1) := if_neg c2
        rw [r]
        rw [if_neg (fun z => c2 ⟨z.1, by have := z.2; rw [decide_eq_true_eq] at this; simpa using this.1⟩)] at hf
        injection hf with hf; rw [hf]
    · rw [if_neg c1] at hf ⊢
      injection hf with hf; rw [hf]) ⟨(h1.tr hx).mono DF_DK, rfl, h32⟩) (fun v1 q2 f1 hq2 s1 n1 M2 a3 h2' k2 t2 u2 => ?_)
  have h2 := h1.tr h2'
  have hW2 := h2.W hW
  rw [decide_eq_true_eq] at s1
  have z0 : mI M2 (21, 19, 0) 0 = v0 := (u2 0 (by decide)).trans t1
  have z1 : mI M2 (21, 19, 0) 1 = v1 := t2
  obtain ⟨x1, x2⟩ := IN_nI hin0
  have f1' : rdNs (fun v => decide (v.toInt < (S.1 : Int))) L q1 = .inr (v1, q2) := by
    rw [rdNs] at f1 ⊢
    by_cases c1 : L q1 = 32
    · rw [if_pos c1] at f1 ⊢
      by_cases c2 : dig L (q1 + 1) ∧ decide ((rdTwo L (q1 + 1)).1.toInt < (S.1 : Int) ∧ ¬ (rdTwo L (q1 + 1)).1 = v0) = true
      · rw [if_pos c2] at f1
        have c3 := c2.2
        rw [decide_eq_true_eq] at c3
        rw [if_pos ⟨c2.1, by simpa using c3.1⟩]; exact f1
      · rw [if_neg c2] at f1; cases f1
    · rw [if_neg c1] at f1; cases f1
  have hfin : rdFri L S q = .inr (upS S v0.toNatClampNeg 4 v1, q2) := by
    simp only [rdFri, e0, f0, f1']
    rw [if_neg s1.2]
  refine g_iload_n dX7_item_39 rfl rfl ?_
  refine g_aloadR_n dX7_item_40 rfl rfl ?_
  refine n_getR dX7_item_41 fX7_78 rfl hW2 vld_x20 rfl rfl ?_
  refine g_iload_n dX7_item_44 rfl rfl ?_
  refine n_iald (j := 1) dX7_item_45 rfl hW2 (vld_ma (by decide : 17 < 25)) (by decide) rfl (by decide) ?_
  refine g_icmp_ge (tgt := 141) dX7_item_46 (by decide) (fun c46 => ?_) (fun c46 => ?_)
  · refine g_iload_n dX7_item_141 rfl rfl ?_
    refine g_if_ne (tgt := 177) dX7_item_142 (by decide) (fun c142 => ?_) (fun c142 => ?_)
    · refine g_iload_n dX7_item_177 rfl rfl ?_
      refine g_iconst dX7_item_178 (v := 1) (by decide) ?_
      refine g_icmp_ne (tgt := 202) dX7_item_179 (by decide) (fun c179 => ?_) (fun c179 => ?_)
      · exact absurd c179 (by decide)
      · refine g_aloadR_n dX7_item_182 rfl rfl ?_
        refine n_getR dX7_item_183 fX7_41 rfl hW2 vld_x20 rfl rfl ?_
        refine g_aloadR_n dX7_item_186 rfl rfl ?_
        refine n_getR dX7_item_187 fX7_84 rfl hW2 vld_x20 rfl rfl ?_
        refine g_iconst dX7_item_190 (v := 0) (by decide) ?_
        refine n_iald (j := 0) dX7_item_191 rfl hW2 (vld_ma (by decide : 19 < 25)) (by decide) (by decide) (by decide) ?_
        rw [z0]
        refine g_aloadR_n dX7_item_192 rfl rfl ?_
        refine n_getR dX7_item_193 fX7_84 rfl hW2 vld_x20 rfl rfl ?_
        refine g_iconst dX7_item_196 (v := 1) (by decide) ?_
        refine n_iald (j := 1) dX7_item_197 rfl hW2 (vld_ma (by decide : 19 < 25)) (by decide) (by decide) (by decide) ?_
        rw [z1]
        refine n_iast (j := v0.toNatClampNeg) dX7_item_198 rfl hW2 (vld_ma (by decide : 5 < 25)) (by decide) x1 (show v0.toNatClampNeg < 10 by omega) ?_
        refine g_goto (tgt := 236) dX7_item_199 (by decide) ?_
        refine g_iconst dX7_item_236 (v := 1) (by decide) ?_
        refine g_zret dX7_item_237 rfl (Or.inr rfl) ?_
        refine H 1 _ _ hfin ⟨(h2.mono DF_DK).tr (fr_sI (Or.inr ⟨rfl, Or.inl ⟨by decide, by decide⟩⟩)), rfl, hq2, k2.fr (D := fun b _ => b = (21, 5, 0)) (fr_sI rfl) (fun z => by cases z) (fun z => by cases z) (by simpa [mI, sI] using k2.2.1) (k2.2.2.2.2.1.up (f := 4)) (fun k j hk z => by injection z with _ z; injection z with z _; omega)⟩
    · exact absurd c142 (by decide)
  · exact absurd (by rw [k2.2.2.2.2.2.2.1 1 (by decide)]; decide) c46
set_option maxHeartbeats 4000000 in
set_option maxRecDepth 100000 in
theorem lp_X7_itG {E : Ev} {M : Mem} {Q : QT} (hW : Wi M) {L : Tx} {s ll q : Nat} {S : Sc} (hO : OkS S) (hk : RkS M L s ll (q + 1) S) (hs : s < 8) (ht : TxOk L ll) (hq : q + 1 ≤ 160) (hL : L q = 32) (H : ∀ r M' x, rdGon L S q = x → BoM L s ll M M' r x → Q (some (vI r)) M') {a2 a3 : Option AV} : G E (rm 3 0 0) kX7_item (ZQ E Q 0 0) 0 0 37 [some (vR (20, 0, 0)), some (vI (nI 6)), a2, a3] [] M := by
  refine g_iconst dX7_item_37 (v := 0) (by decide) ?_
  refine g_istore_2 dX7_item_38 rfl ?_
  have hs10 := hO.1
  have e0 : ∀ q, rdNum L q 0 (nI S.1 - 1) = rdNs (fun v => decide (v.toInt < (S.1 : Int))) L q := fun q => rdNum_ns L q (soN hO.1)
  refine lp_X7_itemA hW hk hs ht hq (w := 6) (i := 0) (by decide) rfl (so := fun v => decide (v.toInt < (S.1 : Int))) (by decide) (by decide) (fun M9 Q9 a b c d e => wp_X7_isSo6 a b hO c (by rw [b2_bool] at e; exact e)) hL (fun f hf M' hx h32 => H 0 M' (.inl f) (by simp only [rdGon, e0, hf]) ⟨hx.mono DF_DK, rfl, h32⟩) (fun v0 q1 f0 hq1 s0 n0 M1 a3 h1 k1 t1 u1 => ?_)
  have hW1 := h1.W hW
  have hin0 : IN v0 S.1 := ⟨n0, by simpa using s0⟩
  obtain ⟨x1, x2⟩ := IN_nI hin0
  have hfin : rdGon L S q = .inr (upS S v0.toNatClampNeg 8 1, q1) := by simp only [rdGon, e0, f0]
  refine g_iload_n dX7_item_39 rfl rfl ?_
  refine g_aloadR_n dX7_item_40 rfl rfl ?_
  refine n_getR dX7_item_41 fX7_78 rfl hW1 vld_x20 rfl rfl ?_
  refine g_iload_n dX7_item_44 rfl rfl ?_
  refine n_iald (j := 6) dX7_item_45 rfl hW1 (vld_ma (by decide : 17 < 25)) (by decide) rfl (by decide) ?_
  refine g_icmp_ge (tgt := 141) dX7_item_46 (by decide) (fun c46 => ?_) (fun c46 => ?_)
  · refine g_iload_n dX7_item_141 rfl rfl ?_
    refine g_if_ne (tgt := 177) dX7_item_142 (by decide) (fun c142 => ?_) (fun c142 => ?_)
    · refine g_iload_n dX7_item_177 rfl rfl ?_
      refine g_iconst dX7_item_178 (v := 1) (by decide) ?_
      refine g_icmp_ne (tgt := 202) dX7_item_179 (by decide) (fun c179 => ?_) (fun c179 => ?_)
      · refine g_iload_n dX7_item_202 rfl rfl ?_
        refine g_bipush dX7_item_203 (v := 6) (by decide) ?_
        refine g_icmp_ne (tgt := 223) dX7_item_205 (by decide) (fun c205 => ?_) (fun c205 => ?_)
        · exact absurd c205 (by decide)
        · refine g_aloadR_n dX7_item_208 rfl rfl ?_
          refine n_getR dX7_item_209 fX7_53 rfl hW1 vld_x20 rfl rfl ?_
          refine g_aloadR_n dX7_item_212 rfl rfl ?_
          refine n_getR dX7_item_213 fX7_84 rfl hW1 vld_x20 rfl rfl ?_
          refine g_iconst dX7_item_216 (v := 0) (by decide) ?_
          refine n_iald (j := 0) dX7_item_217 rfl hW1 (vld_ma (by decide : 19 < 25)) (by decide) (by decide) (by decide) ?_
          rw [t1]
          refine g_iconst dX7_item_218 (v := 1) (by decide) ?_
          refine n_iast (j := v0.toNatClampNeg) dX7_item_219 rfl hW1 (vld_ma (by decide : 9 < 25)) (by decide) x1 (show v0.toNatClampNeg < 10 by omega) ?_
          refine g_goto (tgt := 236) dX7_item_220 (by decide) ?_
          refine g_iconst dX7_item_236 (v := 1) (by decide) ?_
          refine g_zret dX7_item_237 rfl (Or.inr rfl) ?_
          refine H 1 _ _ hfin ⟨(h1.mono DF_DK).tr (fr_sI (Or.inr ⟨rfl, Or.inl ⟨by decide, by decide⟩⟩)), rfl, hq1, k1.fr (D := fun b _ => b = (21, 9, 0)) (fr_sI rfl) (fun z => by cases z) (fun z => by cases z) (by simpa [mI, sI] using k1.2.1) (k1.2.2.2.2.1.up (f := 8)) (fun k j hk z => by injection z with _ z; injection z with z _; omega)⟩
      · exact absurd c179 (by decide)
    · exact absurd c142 (by decide)
  · exact absurd (by rw [k1.2.2.2.2.2.2.1 6 (by decide)]; decide) c46
set_option maxHeartbeats 4000000 in
set_option maxRecDepth 100000 in
theorem lp_X7_itS0 {E : Ev} {M : Mem} {Q : QT} (hW : Wi M) {L : Tx} {s ll q : Nat} {S : Sc} (hO : OkS S) (hk : RkS M L s ll (q + 1) S) (hs : s < 8) (ht : TxOk L ll) (hq : q + 1 ≤ 160) (hL : L q = 32) (H : ∀ r M' x, rdSet L S 0 q = x → BoM L s ll M M' r x → Q (some (vI r)) M') {a2 a3 : Option AV} : G E (rm 3 0 0) kX7_item (ZQ E Q 0 0) 0 0 37 [some (vR (20, 0, 0)), some (vI (nI 2)), a2, a3] [] M := by
  refine g_iconst dX7_item_37 (v := 0) (by decide) ?_
  refine g_istore_2 dX7_item_38 rfl ?_
  have e0 : ∀ q, rdNum L q (lo_ (nI 0)) (hi_ (nI 0)) = rdNs (fun v => decide (fromP v (lo_ (nI 0)) (hi_ (nI 0)))) L q := fun q => rdNum_ns L q soF
  refine lp_X7_itemA hW hk hs ht hq (w := 2) (i := 0) (by decide) rfl (so := fun v => decide (fromP v (lo_ (nI 0)) (hi_ (nI 0)))) (by decide) (by decide) (fun M9 Q9 a b c d e => wp_X7_isSoA0 a b hO c (by rw [b2_bool] at e; exact e)) hL (fun f hf M' hx h32 => H 0 M' (.inl f) (by simp only [rdSet, e0, hf]) ⟨hx.mono DF_DK, rfl, h32⟩) (fun v0 q1 f0 hq1 s0 n0 M1 a3 h1 k1 t1 u1 => ?_)
  have hW1 := h1.W hW
  have hfin : rdSet L S 0 q = .inr (gS S (0 + 1) v0, q1) := by simp only [rdSet, e0, f0]
  refine g_iload_n dX7_item_39 rfl rfl ?_
  refine g_aloadR_n dX7_item_40 rfl rfl ?_
  refine n_getR dX7_item_41 fX7_78 rfl hW1 vld_x20 rfl rfl ?_
  refine g_iload_n dX7_item_44 rfl rfl ?_
  refine n_iald (j := 2) dX7_item_45 rfl hW1 (vld_ma (by decide : 17 < 25)) (by decide) rfl (by decide) ?_
  refine g_icmp_ge (tgt := 141) dX7_item_46 (by decide) (fun c46 => ?_) (fun c46 => ?_)
  · refine g_iload_n dX7_item_141 rfl rfl ?_
    refine g_if_ne (tgt := 177) dX7_item_142 (by decide) (fun c142 => ?_) (fun c142 => ?_)
    · refine g_iload_n dX7_item_177 rfl rfl ?_
      refine g_iconst dX7_item_178 (v := 1) (by decide) ?_
      refine g_icmp_ne (tgt := 202) dX7_item_179 (by decide) (fun c179 => ?_) (fun c179 => ?_)
      · refine g_iload_n dX7_item_202 rfl rfl ?_
        refine g_bipush dX7_item_203 (v := 6) (by decide) ?_
        refine g_icmp_ne (tgt := 223) dX7_item_205 (by decide) (fun c205 => ?_) (fun c205 => ?_)
        · refine g_aloadR_n dX7_item_223 rfl rfl ?_
          refine g_iload_n dX7_item_224 rfl rfl ?_
          refine g_iconst dX7_item_225 (v := 2) (by decide) ?_
          refine g_isub dX7_item_226 ?_
          refine g_aloadR_n dX7_item_227 rfl rfl ?_
          refine n_getR dX7_item_228 fX7_84 rfl hW1 vld_x20 rfl rfl ?_
          refine g_iconst dX7_item_231 (v := 0) (by decide) ?_
          refine n_iald (j := 0) dX7_item_232 rfl hW1 (vld_ma (by decide : 19 < 25)) (by decide) (by decide) (by decide) ?_
          rw [t1, show nI 2 - 2 = nI 0 by decide]
          refine n_v2v (n' := 0) dX7_item_233 mX7_asks lX7_137 rfl hW1 vld_x20 rfl rfl ⟨Nat.le_of_ble_eq_true rfl, Nat.le_of_ble_eq_true rfl⟩ ⟨Nat.zero_le _, Nat.zero_le _⟩ (Nat.le_of_ble_eq_true rfl) ?_
          refine wp_X7_asks (by exact hW1) (w := 0) (by decide) ?_
          refine ⟨rfl, ?_⟩
          refine g_iconst dX7_item_236 (v := 1) (by decide) ?_
          refine g_zret dX7_item_237 rfl (Or.inr rfl) ?_
          refine H 1 _ _ hfin ⟨(h1.mono DF_DK).tr (fr_sI (Or.inl ⟨rfl, Or.inl (by decide)⟩)), rfl, hq1, k1.fr (D := fun b f => b.1 = 20 ∧ f = 1) (fr_sI ⟨rfl, rfl⟩) (fun z => by cases z.2) (fun z => by cases z.2) (by simpa [mI, sI] using k1.2.1) (k1.2.2.2.2.1.gl (by decide)) (fun k j hk z => by cases z.1)⟩
        · exact absurd c205 (by decide)
      · exact absurd c179 (by decide)
    · exact absurd c142 (by decide)
  · exact absurd (by rw [k1.2.2.2.2.2.2.1 2 (by decide)]; decide) c46
set_option maxHeartbeats 4000000 in
set_option maxRecDepth 100000 in
theorem lp_X7_itS1 {E : Ev} {M : Mem} {Q : QT} (hW : Wi M) {L : Tx} {s ll q : Nat} {S : Sc} (hO : OkS S) (hk : RkS M L s ll (q + 1) S) (hs : s < 8) (ht : TxOk L ll) (hq : q + 1 ≤ 160) (hL : L q = 32) (H : ∀ r M' x, rdSet L S 1 q = x → BoM L s ll M M' r x → Q (some (vI r)) M') {a2 a3 : Option AV} : G E (rm 3 0 0) kX7_item (ZQ E Q 0 0) 0 0 37 [some (vR (20, 0, 0)), some (vI (nI 3)), a2, a3] [] M := by
  refine g_iconst dX7_item_37 (v := 0) (by decide) ?_
  refine g_istore_2 dX7_item_38 rfl ?_
  have e0 : ∀ q, rdNum L q (lo_ (nI 1)) (hi_ (nI 1)) = rdNs (fun v => decide (fromP v (lo_ (nI 1)) (hi_ (nI 1)))) L q := fun q => rdNum_ns L q soF
  refine lp_X7_itemA hW hk hs ht hq (w := 3) (i := 0) (by decide) rfl (so := fun v => decide (fromP v (lo_ (nI 1)) (hi_ (nI 1)))) (by decide) (by decide) (fun M9 Q9 a b c d e => wp_X7_isSoA1 a b hO c (by rw [b2_bool] at e; exact e)) hL (fun f hf M' hx h32 => H 0 M' (.inl f) (by simp only [rdSet, e0, hf]) ⟨hx.mono DF_DK, rfl, h32⟩) (fun v0 q1 f0 hq1 s0 n0 M1 a3 h1 k1 t1 u1 => ?_)
  have hW1 := h1.W hW
  have hfin : rdSet L S 1 q = .inr (gS S (1 + 1) v0, q1) := by simp only [rdSet, e0, f0]
  refine g_iload_n dX7_item_39 rfl rfl ?_
  refine g_aloadR_n dX7_item_40 rfl rfl ?_
  refine n_getR dX7_item_41 fX7_78 rfl hW1 vld_x20 rfl rfl ?_
  refine g_iload_n dX7_item_44 rfl rfl ?_
  refine n_iald (j := 3) dX7_item_45 rfl hW1 (vld_ma (by decide : 17 < 25)) (by decide) rfl (by decide) ?_
  refine g_icmp_ge (tgt := 141) dX7_item_46 (by decide) (fun c46 => ?_) (fun c46 => ?_)
  · refine g_iload_n dX7_item_141 rfl rfl ?_
    refine g_if_ne (tgt := 177) dX7_item_142 (by decide) (fun c142 => ?_) (fun c142 => ?_)
    · refine g_iload_n dX7_item_177 rfl rfl ?_
      refine g_iconst dX7_item_178 (v := 1) (by decide) ?_
      refine g_icmp_ne (tgt := 202) dX7_item_179 (by decide) (fun c179 => ?_) (fun c179 => ?_)
      · refine g_iload_n dX7_item_202 rfl rfl ?_
        refine g_bipush dX7_item_203 (v := 6) (by decide) ?_
        refine g_icmp_ne (tgt := 223) dX7_item_205 (by decide) (fun c205 => ?_) (fun c205 => ?_)
        · refine g_aloadR_n dX7_item_223 rfl rfl ?_
          refine g_iload_n dX7_item_224 rfl rfl ?_
          refine g_iconst dX7_item_225 (v := 2) (by decide) ?_
          refine g_isub dX7_item_226 ?_
          refine g_aloadR_n dX7_item_227 rfl rfl ?_
          refine n_getR dX7_item_228 fX7_84 rfl hW1 vld_x20 rfl rfl ?_
          refine g_iconst dX7_item_231 (v := 0) (by decide) ?_
          refine n_iald (j := 0) dX7_item_232 rfl hW1 (vld_ma (by decide : 19 < 25)) (by decide) (by decide) (by decide) ?_
          rw [t1, show nI 3 - 2 = nI 1 by decide]
          refine n_v2v (n' := 0) dX7_item_233 mX7_asks lX7_137 rfl hW1 vld_x20 rfl rfl ⟨Nat.le_of_ble_eq_true rfl, Nat.le_of_ble_eq_true rfl⟩ ⟨Nat.zero_le _, Nat.zero_le _⟩ (Nat.le_of_ble_eq_true rfl) ?_
          refine wp_X7_asks (by exact hW1) (w := 1) (by decide) ?_
          refine ⟨rfl, ?_⟩
          refine g_iconst dX7_item_236 (v := 1) (by decide) ?_
          refine g_zret dX7_item_237 rfl (Or.inr rfl) ?_
          refine H 1 _ _ hfin ⟨(h1.mono DF_DK).tr (fr_sI (Or.inl ⟨rfl, Or.inl (by decide)⟩)), rfl, hq1, k1.fr (D := fun b f => b.1 = 20 ∧ f = 2) (fr_sI ⟨rfl, rfl⟩) (fun z => by cases z.2) (fun z => by cases z.2) (by simpa [mI, sI] using k1.2.1) (k1.2.2.2.2.1.gl (by decide)) (fun k j hk z => by cases z.1)⟩
        · exact absurd c205 (by decide)
      · exact absurd c179 (by decide)
    · exact absurd c142 (by decide)
  · exact absurd (by rw [k1.2.2.2.2.2.2.1 3 (by decide)]; decide) c46
set_option maxHeartbeats 4000000 in
set_option maxRecDepth 100000 in
theorem lp_X7_itS2 {E : Ev} {M : Mem} {Q : QT} (hW : Wi M) {L : Tx} {s ll q : Nat} {S : Sc} (hO : OkS S) (hk : RkS M L s ll (q + 1) S) (hs : s < 8) (ht : TxOk L ll) (hq : q + 1 ≤ 160) (hL : L q = 32) (H : ∀ r M' x, rdSet L S 2 q = x → BoM L s ll M M' r x → Q (some (vI r)) M') {a2 a3 : Option AV} : G E (rm 3 0 0) kX7_item (ZQ E Q 0 0) 0 0 37 [some (vR (20, 0, 0)), some (vI (nI 4)), a2, a3] [] M := by
  refine g_iconst dX7_item_37 (v := 0) (by decide) ?_
  refine g_istore_2 dX7_item_38 rfl ?_
  have e0 : ∀ q, rdNum L q (lo_ (nI 2)) (hi_ (nI 2)) = rdNs (fun v => decide (fromP v (lo_ (nI 2)) (hi_ (nI 2)))) L q := fun q => rdNum_ns L q soF
  refine lp_X7_itemA hW hk hs ht hq (w := 4) (i := 0) (by decide) rfl (so := fun v => decide (fromP v (lo_ (nI 2)) (hi_ (nI 2)))) (by decide) (by decide) (fun M9 Q9 a b c d e => wp_X7_isSoA2 a b hO c (by rw [b2_bool] at e; exact e)) hL (fun f hf M' hx h32 => H 0 M' (.inl f) (by simp only [rdSet, e0, hf]) ⟨hx.mono DF_DK, rfl, h32⟩) (fun v0 q1 f0 hq1 s0 n0 M1 a3 h1 k1 t1 u1 => ?_)
  have hW1 := h1.W hW
  have hfin : rdSet L S 2 q = .inr (gS S (2 + 1) v0, q1) := by simp only [rdSet, e0, f0]
  refine g_iload_n dX7_item_39 rfl rfl ?_
  refine g_aloadR_n dX7_item_40 rfl rfl ?_
  refine n_getR dX7_item_41 fX7_78 rfl hW1 vld_x20 rfl rfl ?_
  refine g_iload_n dX7_item_44 rfl rfl ?_
  refine n_iald (j := 4) dX7_item_45 rfl hW1 (vld_ma (by decide : 17 < 25)) (by decide) rfl (by decide) ?_
  refine g_icmp_ge (tgt := 141) dX7_item_46 (by decide) (fun c46 => ?_) (fun c46 => ?_)
  · refine g_iload_n dX7_item_141 rfl rfl ?_
    refine g_if_ne (tgt := 177) dX7_item_142 (by decide) (fun c142 => ?_) (fun c142 => ?_)
    · refine g_iload_n dX7_item_177 rfl rfl ?_
      refine g_iconst dX7_item_178 (v := 1) (by decide) ?_
      refine g_icmp_ne (tgt := 202) dX7_item_179 (by decide) (fun c179 => ?_) (fun c179 => ?_)
      · refine g_iload_n dX7_item_202 rfl rfl ?_
        refine g_bipush dX7_item_203 (v := 6) (by decide) ?_
        refine g_icmp_ne (tgt := 223) dX7_item_205 (by decide) (fun c205 => ?_) (fun c205 => ?_)
        · refine g_aloadR_n dX7_item_223 rfl rfl ?_
          refine g_iload_n dX7_item_224 rfl rfl ?_
          refine g_iconst dX7_item_225 (v := 2) (by decide) ?_
          refine g_isub dX7_item_226 ?_
          refine g_aloadR_n dX7_item_227 rfl rfl ?_
          refine n_getR dX7_item_228 fX7_84 rfl hW1 vld_x20 rfl rfl ?_
          refine g_iconst dX7_item_231 (v := 0) (by decide) ?_
          refine n_iald (j := 0) dX7_item_232 rfl hW1 (vld_ma (by decide : 19 < 25)) (by decide) (by decide) (by decide) ?_
          rw [t1, show nI 4 - 2 = nI 2 by decide]
          refine n_v2v (n' := 0) dX7_item_233 mX7_asks lX7_137 rfl hW1 vld_x20 rfl rfl ⟨Nat.le_of_ble_eq_true rfl, Nat.le_of_ble_eq_true rfl⟩ ⟨Nat.zero_le _, Nat.zero_le _⟩ (Nat.le_of_ble_eq_true rfl) ?_
          refine wp_X7_asks (by exact hW1) (w := 2) (by decide) ?_
          refine ⟨rfl, ?_⟩
          refine g_iconst dX7_item_236 (v := 1) (by decide) ?_
          refine g_zret dX7_item_237 rfl (Or.inr rfl) ?_
          refine H 1 _ _ hfin ⟨(h1.mono DF_DK).tr (fr_sI (Or.inl ⟨rfl, Or.inl (by decide)⟩)), rfl, hq1, k1.fr (D := fun b f => b.1 = 20 ∧ f = 3) (fr_sI ⟨rfl, rfl⟩) (fun z => by cases z.2) (fun z => by cases z.2) (by simpa [mI, sI] using k1.2.1) (k1.2.2.2.2.1.gl (by decide)) (fun k j hk z => by cases z.1)⟩
        · exact absurd c205 (by decide)
      · exact absurd c179 (by decide)
    · exact absurd c142 (by decide)
  · exact absurd (by rw [k1.2.2.2.2.2.2.1 4 (by decide)]; decide) c46
set_option maxHeartbeats 4000000 in
set_option maxRecDepth 100000 in
theorem lp_X7_itS3 {E : Ev} {M : Mem} {Q : QT} (hW : Wi M) {L : Tx} {s ll q : Nat} {S : Sc} (hO : OkS S) (hk : RkS M L s ll (q + 1) S) (hs : s < 8) (ht : TxOk L ll) (hq : q + 1 ≤ 160) (hL : L q = 32) (H : ∀ r M' x, rdSet L S 3 q = x → BoM L s ll M M' r x → Q (some (vI r)) M') {a2 a3 : Option AV} : G E (rm 3 0 0) kX7_item (ZQ E Q 0 0) 0 0 37 [some (vR (20, 0, 0)), some (vI (nI 5)), a2, a3] [] M := by
  refine g_iconst dX7_item_37 (v := 0) (by decide) ?_
  refine g_istore_2 dX7_item_38 rfl ?_
  have e0 : ∀ q, rdNum L q (lo_ (nI 3)) (hi_ (nI 3)) = rdNs (fun v => decide (fromP v (lo_ (nI 3)) (hi_ (nI 3)))) L q := fun q => rdNum_ns L q soF
  refine lp_X7_itemA hW hk hs ht hq (w := 5) (i := 0) (by decide) rfl (so := fun v => decide (fromP v (lo_ (nI 3)) (hi_ (nI 3)))) (by decide) (by decide) (fun M9 Q9 a b c d e => wp_X7_isSoA3 a b hO c (by rw [b2_bool] at e; exact e)) hL (fun f hf M' hx h32 => H 0 M' (.inl f) (by simp only [rdSet, e0, hf]) ⟨hx.mono DF_DK, rfl, h32⟩) (fun v0 q1 f0 hq1 s0 n0 M1 a3 h1 k1 t1 u1 => ?_)
  have hW1 := h1.W hW
  have hfin : rdSet L S 3 q = .inr (gS S (3 + 1) v0, q1) := by simp only [rdSet, e0, f0]
  refine g_iload_n dX7_item_39 rfl rfl ?_
  refine g_aloadR_n dX7_item_40 rfl rfl ?_
  refine n_getR dX7_item_41 fX7_78 rfl hW1 vld_x20 rfl rfl ?_
  refine g_iload_n dX7_item_44 rfl rfl ?_
  refine n_iald (j := 5) dX7_item_45 rfl hW1 (vld_ma (by decide : 17 < 25)) (by decide) rfl (by decide) ?_
  refine g_icmp_ge (tgt := 141) dX7_item_46 (by decide) (fun c46 => ?_) (fun c46 => ?_)
  · refine g_iload_n dX7_item_141 rfl rfl ?_
    refine g_if_ne (tgt := 177) dX7_item_142 (by decide) (fun c142 => ?_) (fun c142 => ?_)
    · refine g_iload_n dX7_item_177 rfl rfl ?_
      refine g_iconst dX7_item_178 (v := 1) (by decide) ?_
      refine g_icmp_ne (tgt := 202) dX7_item_179 (by decide) (fun c179 => ?_) (fun c179 => ?_)
      · refine g_iload_n dX7_item_202 rfl rfl ?_
        refine g_bipush dX7_item_203 (v := 6) (by decide) ?_
        refine g_icmp_ne (tgt := 223) dX7_item_205 (by decide) (fun c205 => ?_) (fun c205 => ?_)
        · refine g_aloadR_n dX7_item_223 rfl rfl ?_
          refine g_iload_n dX7_item_224 rfl rfl ?_
          refine g_iconst dX7_item_225 (v := 2) (by decide) ?_
          refine g_isub dX7_item_226 ?_
          refine g_aloadR_n dX7_item_227 rfl rfl ?_
          refine n_getR dX7_item_228 fX7_84 rfl hW1 vld_x20 rfl rfl ?_
          refine g_iconst dX7_item_231 (v := 0) (by decide) ?_
          refine n_iald (j := 0) dX7_item_232 rfl hW1 (vld_ma (by decide : 19 < 25)) (by decide) (by decide) (by decide) ?_
          rw [t1, show nI 5 - 2 = nI 3 by decide]
          refine n_v2v (n' := 0) dX7_item_233 mX7_asks lX7_137 rfl hW1 vld_x20 rfl rfl ⟨Nat.le_of_ble_eq_true rfl, Nat.le_of_ble_eq_true rfl⟩ ⟨Nat.zero_le _, Nat.zero_le _⟩ (Nat.le_of_ble_eq_true rfl) ?_
          refine wp_X7_asks (by exact hW1) (w := 3) (by decide) ?_
          refine ⟨rfl, ?_⟩
          refine g_iconst dX7_item_236 (v := 1) (by decide) ?_
          refine g_zret dX7_item_237 rfl (Or.inr rfl) ?_
          refine H 1 _ _ hfin ⟨(h1.mono DF_DK).tr (fr_sI (Or.inl ⟨rfl, Or.inl (by decide)⟩)), rfl, hq1, k1.fr (D := fun b f => b.1 = 20 ∧ f = 4) (fr_sI ⟨rfl, rfl⟩) (fun z => by cases z.2) (fun z => by cases z.2) (by simpa [mI, sI] using k1.2.1) (k1.2.2.2.2.1.gl (by decide)) (fun k j hk z => by cases z.1)⟩
        · exact absurd c205 (by decide)
      · exact absurd c179 (by decide)
    · exact absurd c142 (by decide)
  · exact absurd (by rw [k1.2.2.2.2.2.2.1 5 (by decide)]; decide) c46
