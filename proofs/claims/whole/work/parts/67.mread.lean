/-! THE REFERENCE: READING A SCHOOL, SMALL METHODS -/
def DN : Id → Nat → Prop := fun b f => b.1 = 20 ∧ 28 ≤ f ∧ f ≤ 32
def DF : Id → Nat → Prop := fun b f => (b.1 = 20 ∧ 28 ≤ f ∧ f ≤ 32) ∨ (b.1 = 21 ∧ b.2.1 = 19)
def DK : Id → Nat → Prop := fun b f => (b.1 = 20 ∧ (f < 7 ∨ (28 ≤ f ∧ f ≤ 32))) ∨ (b.1 = 21 ∧ ((1 ≤ b.2.1 ∧ b.2.1 ≤ 9) ∨ b.2.1 = 19))
theorem DN_DF : ∀ b f, DN b f → DF b f := fun b f h => Or.inl h
theorem DF_DK : ∀ b f, DF b f → DK b f := fun b f h => h.elim (fun h => Or.inl ⟨h.1, Or.inr h.2⟩) (fun h => Or.inr ⟨h.1, Or.inr h.2⟩)
theorem DS_DK : ∀ b f, DS b f → DK b f := fun b f h => h.elim (fun h => Or.inl ⟨h.1, Or.inl h.2⟩) (fun h => Or.inr ⟨h.1, Or.inl h.2⟩)
theorem DK_DM : ∀ b f, DK b f → DM b f := fun b f h => h.elim (fun h => Or.inl ⟨h.1, by have := h.2; omega⟩) (fun h => Or.inr ⟨h.1, by have := h.2; omega⟩)
def RkS (M : Mem) (L : Tx) (s ll p : Nat) (S : Sc) : Prop := mI M (20, 0, 0) 28 = nI (160 * s) ∧ mI M (20, 0, 0) 29 = nI p ∧ mI M (20, 0, 0) 30 = nI ll ∧ (∀ i, i < ll → (mJ M (21, 14, 0) (160 * s + i)).toInt32 = L i) ∧ RepR M S ∧ RepKM M
theorem RkS.fr {D : Id → Nat → Prop} {M M' : Mem} {L : Tx} {s ll p p' : Nat} {S S' : Sc} (h : RkS M L s ll p S) (hf : FrI D M M') (h28 : ¬ D (20, 0, 0) 28) (h30 : ¬ D (20, 0, 0) 30) (h29 : mI M' (20, 0, 0) 29 = nI p') (hR : RepR M' S') (hw : ∀ k j, (k = 16 ∨ k = 17 ∨ k = 18) → ¬ D (21, k, 0) j) : RkS M' L s ll p' S' :=
  ⟨(hf.2 _ _ h28).trans h.1, h29, (hf.2 _ _ h30).trans h.2.2.1, fun i hi => by
    have e : mJ M' = mJ M := by unfold mJ; rw [hf.1]
    rw [e]; exact h.2.2.2.1 i hi, hR, ⟨fun j hj => (hf.2 _ _ (hw 16 j (by decide))).trans (h.2.2.2.2.2.1 j hj), fun j hj => (hf.2 _ _ (hw 17 j (by decide))).trans (h.2.2.2.2.2.2.1 j hj), fun j hj => (hf.2 _ _ (hw 18 j (by decide))).trans (h.2.2.2.2.2.2.2 j hj)⟩⟩
theorem RkS.at_ {M : Mem} {L : Tx} {s ll p p' : Nat} {S : Sc} (h : RkS M L s ll p S) : RkS (sI M (20, 0, 0) 29 (nI p')) L s ll p' S := h.fr (D := fun b f => b.1 = 20 ∧ f = 29) (fr_sI ⟨rfl, rfl⟩) (fun q => by cases q.2) (fun q => by cases q.2) (by simp [mI, sI]) (h.2.2.2.2.1.q (by decide)) (fun k j _ q => by cases q.1)
theorem RkS.nu {M : Mem} {L : Tx} {s ll p f : Nat} {S : Sc} {x : Int32} (h : RkS M L s ll p S) (hf : f = 31 ∨ f = 32) : RkS (sI M (20, 0, 0) f x) L s ll p S := h.fr (D := fun b g => b.1 = 20 ∧ g = f) (fr_sI ⟨rfl, rfl⟩) (fun q => by have := q.2; omega) (fun q => by have := q.2; omega) (by rcases hf with rfl | rfl <;> simpa [mI, sI] using h.2.1) (h.2.2.2.2.1.q (by omega)) (fun k j _ q => by cases q.1)
theorem RkS.td {M : Mem} {L : Tx} {s ll p i : Nat} {S : Sc} {x : Int32} (h : RkS M L s ll p S) : RkS (sI M (21, 19, 0) i x) L s ll p S := h.fr (D := fun b _ => b = (21, 19, 0)) (fr_sI rfl) (fun q => by cases q) (fun q => by cases q) (by simpa [mI, sI] using h.2.1) (h.2.2.2.2.1.fr (D := fun b _ => b = (21, 19, 0)) (fr_sI rfl) (fun j _ q => by cases q) (fun i f hf q => by injection q with _ q; injection q with q _; omega)) (fun k j hk q => by injection q with _ q; injection q with q _; omega)
theorem frN {M : Mem} {f : Nat} {x : Int32} (h1 : 28 ≤ f) (h2 : f ≤ 32) : FrI DN M (sI M (20, 0, 0) f x) := fr_sI ⟨rfl, h1, h2⟩
def rdTwo (L : Tx) (p : Nat) : Int32 × Nat := if dig L (p + 1) then ((L p - 48) * 10 + (L (p + 1) - 48), p + 2) else (L p - 48, p + 1)
theorem rdNum_two (L : Tx) (q : Nat) (lo hi : Int32) : rdNum L q lo hi = if L q = 32 then (if dig L (q + 1) then rdFit (rdTwo L (q + 1)).1 lo hi (q + 1) (rdTwo L (q + 1)).2 else .inl (q + 1)) else .inl q := by
  unfold rdNum rdTwo
  by_cases h1 : L q = 32
  · rw [if_pos h1, if_pos h1]
    by_cases h2 : dig L (q + 1)
    · rw [if_pos h2, if_pos h2]
      by_cases h3 : dig L (q + 2)
      · rw [if_pos h3, if_pos h3]
      · rw [if_neg h3, if_neg h3]
    · rw [if_neg h2, if_neg h2]
  · rw [if_neg h1, if_neg h1]
theorem i_ten (a : Int32) : 10 * 0 + a - 48 = a - 48 := by rw [show (10 : Int32) * 0 = 0 by decide, Int32.zero_add]
theorem i_two (a b : Int32) : 10 * (a - 48) + b - 48 = (a - 48) * 10 + (b - 48) := by
  rw [Int32.mul_comm, Int32.sub_eq_add_neg, Int32.sub_eq_add_neg (a := b), Int32.add_assoc]
set_option maxHeartbeats 4000000 in
set_option maxRecDepth 100000 in
theorem wp_X7_sign {E : Ev} {M : Mem} {Q : QT} (hW : Wi M) {s i : Nat} (hb : mI M (20, 0, 0) 28 = nI (160 * s)) {i1 : Int32} (hi1 : i1 = nI i) (hs : s < 8) (hi : i < 160) (h : Q (some (vI (mJ M (21, 14, 0) (160 * s + i)).toInt32)) M) : Mth E 0 0 0 kX7_sign [vR (20, 0, 0), vI i1] M Q := by
  subst hi1
  refine mth_of (by decide +kernel) [some (vR (20, 0, 0)), some (vI (nI i))] (Nat.le_of_ble_eq_true rfl) rfl ?_
  refine g_aloadR_n dX7_sign_0 rfl rfl ?_
  refine n_getR dX7_sign_1 fX7_68 rfl hW vld_x20 rfl rfl ?_
  refine g_aloadR_n dX7_sign_4 rfl rfl ?_
  refine n_getI dX7_sign_5 fX7_144 rfl hW vld_x20 (Or.inl rfl) ?_
  refine g_iload_n dX7_sign_8 rfl rfl ?_
  refine g_iadd dX7_sign_9 ?_
  refine n_lald (j := 160 * s + i) dX7_sign_10 rfl hW (vld_ma (by decide : 14 < 25)) (by decide) (by rw [hb, nI_add]) (show 160 * s + i < 1280 by omega) ?_
  refine g_l2i dX7_sign_11 ?_
  refine g_iret dX7_sign_12 rfl ?_
  exact h
set_option maxHeartbeats 4000000 in
set_option maxRecDepth 100000 in
theorem wp_X7_wrong {E : Ev} {M : Mem} {Q : QT} (hW : Wi M) {x : Int32} (h : Q (some (vI 0)) (sI M (20, 0, 0) 32 x)) : Mth E 0 0 0 kX7_wrong [vR (20, 0, 0), vI x] M Q := by
  refine mth_of (by decide +kernel) [some (vR (20, 0, 0)), some (vI x)] (Nat.le_of_ble_eq_true rfl) rfl ?_
  refine g_aloadR_n dX7_wrong_0 rfl rfl ?_
  refine g_iload_n dX7_wrong_1 rfl rfl ?_
  refine n_putI dX7_wrong_2 fX7_141 rfl hW vld_x20 rfl ?_
  refine g_iconst dX7_wrong_5 (v := 0) (by decide) ?_
  refine g_zret dX7_wrong_6 rfl (Or.inl rfl) ?_
  exact h
set_option maxHeartbeats 4000000 in
set_option maxRecDepth 100000 in
theorem wp_X7_isDigit {E : Ev} {M : Mem} {Q : QT} (hW : Wi M) {L : Tx} {s ll p : Nat} {S : Sc} (hk : RkS M L s ll p S) (hs : s < 8) (ht : TxOk L ll) (hp : p ≤ 160) (h : Q (some (vI (b2 (dig L p)))) M) : Mth E 1 0 0 kX7_isDigit [vR (20, 0, 0)] M Q := by
  have ht1 := ht.1
  have hpl := hk.2.1
  have hll := hk.2.2.1
  refine mth_of (by decide +kernel) [some (vR (20, 0, 0))] (Nat.le_of_ble_eq_true rfl) rfl ?_
  refine g_aloadR_n dX7_isDigit_0 rfl rfl ?_
  refine n_getI dX7_isDigit_1 fX7_147 rfl hW vld_x20 (Or.inl rfl) ?_
  refine g_aloadR_n dX7_isDigit_4 rfl rfl ?_
  refine n_getI dX7_isDigit_5 fX7_150 rfl hW vld_x20 (Or.inl rfl) ?_
  refine g_icmp_ge (tgt := 41) dX7_isDigit_8 (by decide) (fun c8 => ?_) (fun c8 => ?_)
  · rw [hpl, hll, nI_leI (by omega) (by omega)] at c8
    refine g_iconst dX7_isDigit_41 (v := 0) (by decide) ?_
    refine g_zret dX7_isDigit_42 rfl (Or.inl rfl) ?_
    exact qI h (b2_f (fun q => by have q1 := q.1; rw [ht.2 p c8] at q1; simp only [zcs] at q1; omega))
  · rw [hpl, hll, nI_leI (by omega) (by omega)] at c8
    refine g_aloadR_n dX7_isDigit_11 rfl rfl ?_
    refine g_aloadR_n dX7_isDigit_12 rfl rfl ?_
    refine n_getI dX7_isDigit_13 fX7_147 rfl hW vld_x20 (Or.inl rfl) ?_
    rw [hpl]
    refine n_v1i (n' := 0) dX7_isDigit_16 mX7_sign lX7_153 rfl hW vld_x20 rfl rfl ⟨Nat.le_of_ble_eq_true rfl, Nat.le_of_ble_eq_true rfl⟩ ⟨Nat.zero_le _, Nat.zero_le _⟩ (Nat.le_of_ble_eq_true rfl) ?_
    refine wp_X7_sign (by exact hW) hk.1 rfl hs (i := p) (by have := ht.1; omega) ?_
    refine ⟨_, rfl, ?_⟩
    rw [hk.2.2.2.1 p (by omega)]
    refine g_bipush dX7_isDigit_19 (v := 48) (by decide) ?_
    refine g_icmp_lt (tgt := 41) dX7_isDigit_21 (by decide) (fun c21 => ?_) (fun c21 => ?_)
    · refine g_iconst dX7_isDigit_41 (v := 0) (by decide) ?_
      refine g_zret dX7_isDigit_42 rfl (Or.inl rfl) ?_
      exact qI h (b2_f (fun q => by obtain ⟨q1, q2⟩ := q; simp only [Int32.lt_iff_toInt_lt, show ((48 : Int32)).toInt = 48 by decide] at c21; omega))
    · refine g_aloadR_n dX7_isDigit_24 rfl rfl ?_
      refine g_aloadR_n dX7_isDigit_25 rfl rfl ?_
      refine n_getI dX7_isDigit_26 fX7_147 rfl hW vld_x20 (Or.inl rfl) ?_
      rw [hpl]
      refine n_v1i (n' := 0) dX7_isDigit_29 mX7_sign lX7_153 rfl hW vld_x20 rfl rfl ⟨Nat.le_of_ble_eq_true rfl, Nat.le_of_ble_eq_true rfl⟩ ⟨Nat.zero_le _, Nat.zero_le _⟩ (Nat.le_of_ble_eq_true rfl) ?_
      refine wp_X7_sign (by exact hW) hk.1 rfl hs (i := p) (by have := ht.1; omega) ?_
      refine ⟨_, rfl, ?_⟩
      rw [hk.2.2.2.1 p (by omega)]
      refine g_bipush dX7_isDigit_32 (v := 57) (by decide) ?_
      refine g_icmp_gt (tgt := 41) dX7_isDigit_34 (by decide) (fun c34 => ?_) (fun c34 => ?_)
      · refine g_iconst dX7_isDigit_41 (v := 0) (by decide) ?_
        refine g_zret dX7_isDigit_42 rfl (Or.inl rfl) ?_
        exact qI h (b2_f (fun q => by obtain ⟨q1, q2⟩ := q; simp only [Int32.lt_iff_toInt_lt, show ((57 : Int32)).toInt = 57 by decide] at c34; omega))
      · refine g_iconst dX7_isDigit_37 (v := 1) (by decide) ?_
        refine g_goto (tgt := 42) dX7_isDigit_38 (by decide) ?_
        refine g_zret dX7_isDigit_42 rfl (Or.inr rfl) ?_
        exact qI h (b2_t ⟨by simp only [Int32.lt_iff_toInt_lt, zcs, show ((48 : Int32)).toInt = 48 by decide, show ((57 : Int32)).toInt = 57 by decide] at c21 c34; omega, by simp only [Int32.lt_iff_toInt_lt, zcs, show ((48 : Int32)).toInt = 48 by decide, show ((57 : Int32)).toInt = 57 by decide] at c21 c34; omega⟩)
set_option maxHeartbeats 4000000 in
set_option maxRecDepth 100000 in
theorem wp_X7_reads {E : Ev} {M : Mem} {Q : QT} (hW : Wi M) {L : Tx} {s ll p : Nat} {S : Sc} (hk : RkS M L s ll p S) (hs : s < 8) (ht : TxOk L ll) (hp : p ≤ 160) (h0 : ¬ dig L p → ∀ M', FrI DN M M' → mI M' (20, 0, 0) 32 = nI p → Q (some (vI 0)) M') (h1 : dig L p → ∀ M', FrI DN M M' → RkS M' L s ll (rdTwo L p).2 S → mI M' (20, 0, 0) 31 = (rdTwo L p).1 → Q (some (vI 1)) M') : Mth E 2 0 0 kX7_reads [vR (20, 0, 0)] M Q := by
  have ht1 := ht.1
  have hpl := hk.2.1
  have hll := hk.2.2.1
  refine mth_of (by decide +kernel) [some (vR (20, 0, 0)), none] (Nat.le_of_ble_eq_true rfl) rfl ?_
  refine g_aloadR_n dX7_reads_0 rfl rfl ?_
  refine g_iconst dX7_reads_1 (v := 0) (by decide) ?_
  refine n_putI dX7_reads_2 fX7_156 rfl hW vld_x20 rfl ?_
  refine g_aloadR_n dX7_reads_5 rfl rfl ?_
  refine n_v0i (n' := 1) dX7_reads_6 mX7_isDigit lX7_159 rfl hW vld_x20 rfl rfl ⟨Nat.le_of_ble_eq_true rfl, Nat.le_of_ble_eq_true rfl⟩ ⟨Nat.zero_le _, Nat.zero_le _⟩ (Nat.le_of_ble_eq_true rfl) ?_
  refine wp_X7_isDigit (by exact hW) (hk.nu (Or.inl rfl)) hs ht hp ?_
  refine ⟨_, rfl, ?_⟩
  refine g_if_ne (tgt := 21) dX7_reads_9 (by decide) (fun c9 => ?_) (fun c9 => ?_)
  · simp only [b2_0, Decidable.not_not] at c9
    have d0 := c9
    have hpll := ht.lt (p := p) (by have := d0.1; omega)
    refine g_iconst dX7_reads_21 (v := 0) (by decide) ?_
    refine g_istore_1 dX7_reads_22 rfl ?_
    skip
    refine g_iload_n dX7_reads_23 rfl rfl ?_
    refine g_iconst dX7_reads_24 (v := 2) (by decide) ?_
    refine g_icmp_ge (tgt := 74) dX7_reads_25 (by decide) (fun c25 => ?_) (fun c25 => ?_)
    · exact absurd c25 (by decide)
    · refine g_aloadR_n dX7_reads_28 rfl rfl ?_
      refine n_v0i (n' := 1) dX7_reads_29 mX7_isDigit lX7_159 rfl hW vld_x20 rfl rfl ⟨Nat.le_of_ble_eq_true rfl, Nat.le_of_ble_eq_true rfl⟩ ⟨Nat.zero_le _, Nat.zero_le _⟩ (Nat.le_of_ble_eq_true rfl) ?_
      refine wp_X7_isDigit (by exact hW) (hk.nu (Or.inl rfl)) hs ht (by omega) ?_
      refine ⟨_, rfl, ?_⟩
      refine g_if_eq (tgt := 74) dX7_reads_32 (by decide) (fun c32 => ?_) (fun c32 => ?_)
      · simp only [b2_0, Decidable.not_not] at c32
        exact absurd d0 c32
      · simp only [b2_0, Decidable.not_not] at c32
        have d0 := c32
        refine g_aloadR_n dX7_reads_35 rfl rfl ?_
        refine g_bipush dX7_reads_36 (v := 10) (by decide) ?_
        refine g_aloadR_n dX7_reads_38 rfl rfl ?_
        refine n_getI dX7_reads_39 fX7_156 rfl hW vld_x20 (Or.inl rfl) ?_
        refine g_top (fun z ez => ?_)
        have ez : z = 0 := ez.trans (by simp [mI, sI])
        subst ez
        refine g_imul dX7_reads_42 ?_
        refine g_aloadR_n dX7_reads_43 rfl rfl ?_
        refine g_aloadR_n dX7_reads_44 rfl rfl ?_
        refine n_getI dX7_reads_45 fX7_147 rfl hW vld_x20 (Or.inl rfl) ?_
        refine g_top (fun z ez => ?_)
        have ez : z = nI p := ez.trans (((by simp [mI, sI] : _ = mI M (20, 0, 0) 29)).trans hk.2.1)
        subst ez
        refine n_v1i (n' := 0) dX7_reads_48 mX7_sign lX7_153 rfl hW vld_x20 rfl rfl ⟨Nat.le_of_ble_eq_true rfl, Nat.le_of_ble_eq_true rfl⟩ ⟨Nat.zero_le _, Nat.zero_le _⟩ (Nat.le_of_ble_eq_true rfl) ?_
        refine wp_X7_sign (by exact hW) (hk.nu (Or.inl rfl)).1 (i := p) rfl hs (by have := ht.lt (p := p) (by have := d0.1; omega); omega) ?_
        refine ⟨_, rfl, ?_⟩
        rw [(hk.nu (Or.inl rfl)).2.2.2.1 _ (ht.lt (by have := d0.1; omega))]
        refine g_iadd dX7_reads_51 ?_
        refine g_bipush dX7_reads_52 (v := 48) (by decide) ?_
        refine g_isub dX7_reads_54 ?_
        rw [i_ten]
        refine n_putI dX7_reads_55 fX7_156 rfl hW vld_x20 rfl ?_
        refine g_aloadR_n dX7_reads_58 rfl rfl ?_
        refine g_dup dX7_reads_59 rfl ?_
        refine n_getI dX7_reads_60 fX7_147 rfl hW vld_x20 (Or.inl rfl) ?_
        refine g_iconst dX7_reads_63 (v := 1) (by decide) ?_
        refine g_iadd dX7_reads_64 ?_
        refine g_top (fun z ez => ?_)
        have ez : z = nI (p + 1) := ez.trans (by first | (rw [← nI_1]; simp [mI, sI]; exact hk.2.1) | (simp [mI, sI]; rw [hk.2.1, nI_1]))
        subst ez
        refine n_putI dX7_reads_65 fX7_147 rfl hW vld_x20 rfl ?_
        refine g_iinc_1 dX7_reads_68 rfl rfl ?_
        refine g_goto (tgt := 23) dX7_reads_71 (by decide) ?_
        skip
        refine g_iload_n dX7_reads_23 rfl rfl ?_
        refine g_iconst dX7_reads_24 (v := 2) (by decide) ?_
        refine g_icmp_ge (tgt := 74) dX7_reads_25 (by decide) (fun c25 => ?_) (fun c25 => ?_)
        · exact absurd c25 (by decide)
        · refine g_aloadR_n dX7_reads_28 rfl rfl ?_
          refine n_v0i (n' := 1) dX7_reads_29 mX7_isDigit lX7_159 rfl hW vld_x20 rfl rfl ⟨Nat.le_of_ble_eq_true rfl, Nat.le_of_ble_eq_true rfl⟩ ⟨Nat.zero_le _, Nat.zero_le _⟩ (Nat.le_of_ble_eq_true rfl) ?_
          refine wp_X7_isDigit (by exact hW) ((hk.nu (Or.inl rfl)).nu (Or.inl rfl)).at_ hs ht (by omega) ?_
          refine ⟨_, rfl, ?_⟩
          refine g_if_eq (tgt := 74) dX7_reads_32 (by decide) (fun c32 => ?_) (fun c32 => ?_)
          · simp only [b2_0, Decidable.not_not] at c32
            have d1 := c32
            refine g_iconst dX7_reads_74 (v := 1) (by decide) ?_
            refine g_zret dX7_reads_75 rfl (Or.inr rfl) ?_
            have e2 : rdTwo L p = (L p - 48, p + 1) := if_neg d1
            rw [e2] at h1
            exact h1 d0 _ (((frN (by decide) (by decide)).tr (frN (by decide) (by decide))).tr (frN (by decide) (by decide))) ((hk.nu (Or.inl rfl)).nu (Or.inl rfl)).at_ (by simp [mI, sI])
          · simp only [b2_0, Decidable.not_not] at c32
            have d1 := c32
            refine g_aloadR_n dX7_reads_35 rfl rfl ?_
            refine g_bipush dX7_reads_36 (v := 10) (by decide) ?_
            refine g_aloadR_n dX7_reads_38 rfl rfl ?_
            refine n_getI dX7_reads_39 fX7_156 rfl hW vld_x20 (Or.inl rfl) ?_
            refine g_top (fun z ez => ?_)
            have ez : z = (L p - 48) := ez.trans (by simp [mI, sI])
            subst ez
            refine g_imul dX7_reads_42 ?_
            refine g_aloadR_n dX7_reads_43 rfl rfl ?_
            refine g_aloadR_n dX7_reads_44 rfl rfl ?_
            refine n_getI dX7_reads_45 fX7_147 rfl hW vld_x20 (Or.inl rfl) ?_
            refine g_top (fun z ez => ?_)
            have ez : z = nI (p + 1) := ez.trans (by simp [mI, sI])
            subst ez
            refine n_v1i (n' := 0) dX7_reads_48 mX7_sign lX7_153 rfl hW vld_x20 rfl rfl ⟨Nat.le_of_ble_eq_true rfl, Nat.le_of_ble_eq_true rfl⟩ ⟨Nat.zero_le _, Nat.zero_le _⟩ (Nat.le_of_ble_eq_true rfl) ?_
            refine wp_X7_sign (by exact hW) ((hk.nu (Or.inl rfl)).nu (Or.inl rfl)).at_.1 (i := p + 1) rfl hs (by have := ht.lt (p := p + 1) (by have := d1.1; omega); omega) ?_
            refine ⟨_, rfl, ?_⟩
            rw [((hk.nu (Or.inl rfl)).nu (Or.inl rfl)).at_.2.2.2.1 _ (ht.lt (by have := d1.1; omega))]
            refine g_iadd dX7_reads_51 ?_
            refine g_bipush dX7_reads_52 (v := 48) (by decide) ?_
            refine g_isub dX7_reads_54 ?_
            rw [i_two]
            refine n_putI dX7_reads_55 fX7_156 rfl hW vld_x20 rfl ?_
            refine g_aloadR_n dX7_reads_58 rfl rfl ?_
            refine g_dup dX7_reads_59 rfl ?_
            refine n_getI dX7_reads_60 fX7_147 rfl hW vld_x20 (Or.inl rfl) ?_
            refine g_iconst dX7_reads_63 (v := 1) (by decide) ?_
            refine g_iadd dX7_reads_64 ?_
            refine g_top (fun z ez => ?_)
            have ez : z = nI (p + 2) := ez.trans (by simp [mI, sI]; exact nI_1 (p + 1))
            subst ez
            refine n_putI dX7_reads_65 fX7_147 rfl hW vld_x20 rfl ?_
            refine g_iinc_1 dX7_reads_68 rfl rfl ?_
            refine g_goto (tgt := 23) dX7_reads_71 (by decide) ?_
            skip
            refine g_iload_n dX7_reads_23 rfl rfl ?_
            refine g_iconst dX7_reads_24 (v := 2) (by decide) ?_
            refine g_icmp_ge (tgt := 74) dX7_reads_25 (by decide) (fun c25 => ?_) (fun c25 => ?_)
            · refine g_iconst dX7_reads_74 (v := 1) (by decide) ?_
              refine g_zret dX7_reads_75 rfl (Or.inr rfl) ?_
              have e2 : rdTwo L p = ((L p - 48) * 10 + (L (p + 1) - 48), p + 2) := if_pos d1
              rw [e2] at h1
              exact h1 d0 _ (((((frN (by decide) (by decide)).tr (frN (by decide) (by decide))).tr (frN (by decide) (by decide))).tr (frN (by decide) (by decide))).tr (frN (by decide) (by decide))) (((hk.nu (Or.inl rfl)).nu (Or.inl rfl)).at_.nu (Or.inl rfl)).at_ (by simp [mI, sI])
            · exact absurd c25 (by decide)
  · simp only [b2_0, Decidable.not_not] at c9
    refine g_aloadR_n dX7_reads_12 rfl rfl ?_
    refine g_aloadR_n dX7_reads_13 rfl rfl ?_
    refine n_getI dX7_reads_14 fX7_147 rfl hW vld_x20 (Or.inl rfl) ?_
    refine n_v1i (n' := 0) dX7_reads_17 mX7_wrong lX7_163 rfl hW vld_x20 rfl rfl ⟨Nat.le_of_ble_eq_true rfl, Nat.le_of_ble_eq_true rfl⟩ ⟨Nat.zero_le _, Nat.zero_le _⟩ (Nat.le_of_ble_eq_true rfl) ?_
    refine wp_X7_wrong (by exact hW) ?_
    refine ⟨_, rfl, ?_⟩
    refine g_zret dX7_reads_20 rfl (Or.inl rfl) ?_
    exact h0 c9 _ ((frN (by decide) (by decide)).tr (frN (by decide) (by decide))) ((by simp [mI, sI] : _ = mI M (20, 0, 0) 29).trans hk.2.1)
set_option maxHeartbeats 4000000 in
set_option maxRecDepth 100000 in
theorem wp_X7_isSo0 {E : Ev} {M : Mem} {Q : QT} (hW : Wi M) {L : Tx} {s ll p : Nat} {S : Sc} (hk : RkS M L s ll p S) (hO : OkS S) {v : Int32} (hv : mI M (20, 0, 0) 31 = v) {i : Nat} (hi : i < 4) (h : Q (some (vI (b2 (v ≤ msK.getD i 0)))) M) : Mth E 2 0 0 kX7_isSo [vR (20, 0, 0), vI 0, vI (nI i)] M Q := by
  have hsz := hk.2.2.2.2.1.1
  have hs10 := hO.1
  have hnt := nI_toInt (n := S.1) (by omega)
  refine mth_of (by decide +kernel) [some (vR (20, 0, 0)), some (vI 0), some (vI (nI i))] (Nat.le_of_ble_eq_true rfl) rfl ?_
  refine g_iload_n dX7_isSo_0 rfl rfl ?_
  refine g_if_ne (tgt := 23) dX7_isSo_1 (by decide) (fun c1 => ?_) (fun c1 => ?_)
  · exact absurd c1 (by decide)
  · refine g_aloadR_n dX7_isSo_4 rfl rfl ?_
    refine n_getI dX7_isSo_5 fX7_156 rfl hW vld_x20 (Or.inl rfl) ?_
    refine g_aloadR_n dX7_isSo_8 rfl rfl ?_
    refine n_getR dX7_isSo_9 fX7_81 rfl hW vld_x20 rfl rfl ?_
    refine g_iload_n dX7_isSo_12 rfl rfl ?_
    refine n_iald (j := i) dX7_isSo_13 rfl hW (vld_ma (by decide : 18 < 25)) (by decide) rfl (show i < 4 by omega) ?_
    rw [hk.2.2.2.2.2.2.2 i hi, hv]
    refine g_icmp_gt (tgt := 21) dX7_isSo_14 (by decide) (fun c14 => ?_) (fun c14 => ?_)
    · refine g_iconst dX7_isSo_21 (v := 0) (by decide) ?_
      refine g_zret dX7_isSo_22 rfl (Or.inl rfl) ?_
      exact qI h (b2_f (Int32.not_le.mpr c14))
    · refine g_iconst dX7_isSo_17 (v := 1) (by decide) ?_
      refine g_goto (tgt := 22) dX7_isSo_18 (by decide) ?_
      refine g_zret dX7_isSo_22 rfl (Or.inr rfl) ?_
      exact qI h (b2_t (Int32.not_lt.mp c14))
set_option maxHeartbeats 4000000 in
set_option maxRecDepth 100000 in
theorem wp_X7_isSo1a {E : Ev} {M : Mem} {Q : QT} (hW : Wi M) {L : Tx} {s ll p : Nat} {S : Sc} (hk : RkS M L s ll p S) (hO : OkS S) {v : Int32} (hv : mI M (20, 0, 0) 31 = v) (h : Q (some (vI (b2 (v.toInt < S.1)))) M) : Mth E 2 0 0 kX7_isSo [vR (20, 0, 0), vI 1, vI 0] M Q := by
  have hsz := hk.2.2.2.2.1.1
  have hs10 := hO.1
  have hnt := nI_toInt (n := S.1) (by omega)
  refine mth_of (by decide +kernel) [some (vR (20, 0, 0)), some (vI 1), some (vI 0)] (Nat.le_of_ble_eq_true rfl) rfl ?_
  refine g_iload_n dX7_isSo_0 rfl rfl ?_
  refine g_if_ne (tgt := 23) dX7_isSo_1 (by decide) (fun c1 => ?_) (fun c1 => ?_)
  · refine g_iload_n dX7_isSo_23 rfl rfl ?_
    refine g_iconst dX7_isSo_24 (v := 1) (by decide) ?_
    refine g_icmp_ne (tgt := 62) dX7_isSo_25 (by decide) (fun c25 => ?_) (fun c25 => ?_)
    · exact absurd c25 (by decide)
    · refine g_aloadR_n dX7_isSo_28 rfl rfl ?_
      refine n_getI dX7_isSo_29 fX7_156 rfl hW vld_x20 (Or.inl rfl) ?_
      refine g_aloadR_n dX7_isSo_32 rfl rfl ?_
      refine n_getI dX7_isSo_33 fX7_102 rfl hW vld_x20 (Or.inl rfl) ?_
      refine g_icmp_ge (tgt := 60) dX7_isSo_36 (by decide) (fun c36 => ?_) (fun c36 => ?_)
      · rw [hv, hsz, Int32.le_iff_toInt_le, hnt] at c36
        refine g_iconst dX7_isSo_60 (v := 0) (by decide) ?_
        refine g_zret dX7_isSo_61 rfl (Or.inl rfl) ?_
        exact qI h (b2_f (by omega))
      · rw [hv, hsz, Int32.le_iff_toInt_le, hnt] at c36
        refine g_iload_n dX7_isSo_39 rfl rfl ?_
        refine g_if_eq (tgt := 56) dX7_isSo_40 (by decide) (fun c40 => ?_) (fun c40 => ?_)
        · refine g_iconst dX7_isSo_56 (v := 1) (by decide) ?_
          refine g_goto (tgt := 61) dX7_isSo_57 (by decide) ?_
          refine g_zret dX7_isSo_61 rfl (Or.inr rfl) ?_
          exact qI h (b2_t (by omega))
        · exact absurd c40 (by decide)
  · exact absurd c1 (by decide)
set_option maxHeartbeats 4000000 in
set_option maxRecDepth 100000 in
theorem wp_X7_isSo1b {E : Ev} {M : Mem} {Q : QT} (hW : Wi M) {L : Tx} {s ll p : Nat} {S : Sc} (hk : RkS M L s ll p S) (hO : OkS S) {v : Int32} (hv : mI M (20, 0, 0) 31 = v) {t : Int32} (ht0 : mI M (21, 19, 0) 0 = t) (h : Q (some (vI (b2 (v.toInt < S.1 ∧ ¬ v = t)))) M) : Mth E 2 0 0 kX7_isSo [vR (20, 0, 0), vI 1, vI 1] M Q := by
  have hsz := hk.2.2.2.2.1.1
  have hs10 := hO.1
  have hnt := nI_toInt (n := S.1) (by omega)
  refine mth_of (by decide +kernel) [some (vR (20, 0, 0)), some (vI 1), some (vI 1)] (Nat.le_of_ble_eq_true rfl) rfl ?_
  refine g_iload_n dX7_isSo_0 rfl rfl ?_
  refine g_if_ne (tgt := 23) dX7_isSo_1 (by decide) (fun c1 => ?_) (fun c1 => ?_)
  · refine g_iload_n dX7_isSo_23 rfl rfl ?_
    refine g_iconst dX7_isSo_24 (v := 1) (by decide) ?_
    refine g_icmp_ne (tgt := 62) dX7_isSo_25 (by decide) (fun c25 => ?_) (fun c25 => ?_)
    · exact absurd c25 (by decide)
    · refine g_aloadR_n dX7_isSo_28 rfl rfl ?_
      refine n_getI dX7_isSo_29 fX7_156 rfl hW vld_x20 (Or.inl rfl) ?_
      refine g_aloadR_n dX7_isSo_32 rfl rfl ?_
      refine n_getI dX7_isSo_33 fX7_102 rfl hW vld_x20 (Or.inl rfl) ?_
      refine g_icmp_ge (tgt := 60) dX7_isSo_36 (by decide) (fun c36 => ?_) (fun c36 => ?_)
      · rw [hv, hsz, Int32.le_iff_toInt_le, hnt] at c36
        refine g_iconst dX7_isSo_60 (v := 0) (by decide) ?_
        refine g_zret dX7_isSo_61 rfl (Or.inl rfl) ?_
        exact qI h (b2_f (fun q => by have := q.1; omega))
      · rw [hv, hsz, Int32.le_iff_toInt_le, hnt] at c36
        refine g_iload_n dX7_isSo_39 rfl rfl ?_
        refine g_if_eq (tgt := 56) dX7_isSo_40 (by decide) (fun c40 => ?_) (fun c40 => ?_)
        · exact absurd c40 (by decide)
        · refine g_aloadR_n dX7_isSo_43 rfl rfl ?_
          refine n_getI dX7_isSo_44 fX7_156 rfl hW vld_x20 (Or.inl rfl) ?_
          refine g_aloadR_n dX7_isSo_47 rfl rfl ?_
          refine n_getR dX7_isSo_48 fX7_84 rfl hW vld_x20 rfl rfl ?_
          refine g_iconst dX7_isSo_51 (v := 0) (by decide) ?_
          refine n_iald (j := 0) dX7_isSo_52 rfl hW (vld_ma (by decide : 19 < 25)) (by decide) (by decide) (by decide) ?_
          refine g_icmp_eq (tgt := 60) dX7_isSo_53 (by decide) (fun c53 => ?_) (fun c53 => ?_)
          · rw [hv, ht0] at c53
            refine g_iconst dX7_isSo_60 (v := 0) (by decide) ?_
            refine g_zret dX7_isSo_61 rfl (Or.inl rfl) ?_
            exact qI h (b2_f (fun q => q.2 c53))
          · rw [hv, ht0] at c53
            refine g_iconst dX7_isSo_56 (v := 1) (by decide) ?_
            refine g_goto (tgt := 61) dX7_isSo_57 (by decide) ?_
            refine g_zret dX7_isSo_61 rfl (Or.inr rfl) ?_
            exact qI h (b2_t ⟨by omega, c53⟩)
  · exact absurd c1 (by decide)
set_option maxHeartbeats 4000000 in
set_option maxRecDepth 100000 in
theorem wp_X7_isSo6 {E : Ev} {M : Mem} {Q : QT} (hW : Wi M) {L : Tx} {s ll p : Nat} {S : Sc} (hk : RkS M L s ll p S) (hO : OkS S) {v : Int32} (hv : mI M (20, 0, 0) 31 = v) (h : Q (some (vI (b2 (v.toInt < S.1)))) M) : Mth E 2 0 0 kX7_isSo [vR (20, 0, 0), vI 6, vI 0] M Q := by
  have hsz := hk.2.2.2.2.1.1
  have hs10 := hO.1
  have hnt := nI_toInt (n := S.1) (by omega)
  refine mth_of (by decide +kernel) [some (vR (20, 0, 0)), some (vI 6), some (vI 0)] (Nat.le_of_ble_eq_true rfl) rfl ?_
  refine g_iload_n dX7_isSo_0 rfl rfl ?_
  refine g_if_ne (tgt := 23) dX7_isSo_1 (by decide) (fun c1 => ?_) (fun c1 => ?_)
  · refine g_iload_n dX7_isSo_23 rfl rfl ?_
    refine g_iconst dX7_isSo_24 (v := 1) (by decide) ?_
    refine g_icmp_ne (tgt := 62) dX7_isSo_25 (by decide) (fun c25 => ?_) (fun c25 => ?_)
    · refine g_iload_n dX7_isSo_62 rfl rfl ?_
      refine g_bipush dX7_isSo_63 (v := 6) (by decide) ?_
      refine g_icmp_ne (tgt := 87) dX7_isSo_65 (by decide) (fun c65 => ?_) (fun c65 => ?_)
      · exact absurd c65 (by decide)
      · refine g_aloadR_n dX7_isSo_68 rfl rfl ?_
        refine n_getI dX7_isSo_69 fX7_156 rfl hW vld_x20 (Or.inl rfl) ?_
        refine g_aloadR_n dX7_isSo_72 rfl rfl ?_
        refine n_getI dX7_isSo_73 fX7_102 rfl hW vld_x20 (Or.inl rfl) ?_
        refine g_icmp_ge (tgt := 83) dX7_isSo_76 (by decide) (fun c76 => ?_) (fun c76 => ?_)
        · rw [hv, hsz, Int32.le_iff_toInt_le, hnt] at c76
          refine g_iconst dX7_isSo_83 (v := 0) (by decide) ?_
          refine g_goto (tgt := 98) dX7_isSo_84 (by decide) ?_
          refine g_zret dX7_isSo_98 rfl (Or.inl rfl) ?_
          exact qI h (b2_f (by omega))
        · rw [hv, hsz, Int32.le_iff_toInt_le, hnt] at c76
          refine g_iconst dX7_isSo_79 (v := 1) (by decide) ?_
          refine g_goto (tgt := 98) dX7_isSo_80 (by decide) ?_
          refine g_zret dX7_isSo_98 rfl (Or.inr rfl) ?_
          exact qI h (b2_t (by omega))
    · exact absurd c25 (by decide)
  · exact absurd c1 (by decide)
set_option maxHeartbeats 4000000 in
set_option maxRecDepth 100000 in
theorem wp_X7_isSoA0 {E : Ev} {M : Mem} {Q : QT} (hW : Wi M) {L : Tx} {s ll p : Nat} {S : Sc} (hk : RkS M L s ll p S) (hO : OkS S) {v : Int32} (hv : mI M (20, 0, 0) 31 = v) (h : Q (some (vI (b2 (fromP v (lo_ (nI 0)) (hi_ (nI 0)))))) M) : Mth E 2 0 0 kX7_isSo [vR (20, 0, 0), vI 2, vI 0] M Q := by
  have hsz := hk.2.2.2.2.1.1
  have hs10 := hO.1
  have hnt := nI_toInt (n := S.1) (by omega)
  refine mth_of (by decide +kernel) [some (vR (20, 0, 0)), some (vI 2), some (vI 0)] (Nat.le_of_ble_eq_true rfl) rfl ?_
  refine g_iload_n dX7_isSo_0 rfl rfl ?_
  refine g_if_ne (tgt := 23) dX7_isSo_1 (by decide) (fun c1 => ?_) (fun c1 => ?_)
  · refine g_iload_n dX7_isSo_23 rfl rfl ?_
    refine g_iconst dX7_isSo_24 (v := 1) (by decide) ?_
    refine g_icmp_ne (tgt := 62) dX7_isSo_25 (by decide) (fun c25 => ?_) (fun c25 => ?_)
    · refine g_iload_n dX7_isSo_62 rfl rfl ?_
      refine g_bipush dX7_isSo_63 (v := 6) (by decide) ?_
      refine g_icmp_ne (tgt := 87) dX7_isSo_65 (by decide) (fun c65 => ?_) (fun c65 => ?_)
      · refine g_aloadR_n dX7_isSo_87 rfl rfl ?_
        refine g_iload_n dX7_isSo_88 rfl rfl ?_
        refine g_iconst dX7_isSo_89 (v := 2) (by decide) ?_
        refine g_isub dX7_isSo_90 ?_
        refine g_aloadR_n dX7_isSo_91 rfl rfl ?_
        refine n_getI dX7_isSo_92 fX7_156 rfl hW vld_x20 (Or.inl rfl) ?_
        rw [hv, show (2 : Int32) - 2 = nI 0 by decide]
        refine n_v2i (n' := 1) dX7_isSo_95 mX7_isAsked lX7_134 rfl hW vld_x20 rfl rfl ⟨Nat.le_of_ble_eq_true rfl, Nat.le_of_ble_eq_true rfl⟩ ⟨Nat.zero_le _, Nat.zero_le _⟩ (Nat.le_of_ble_eq_true rfl) ?_
        refine wp_X7_isAsked (by exact hW) (w := 0) (by decide) ?_
        refine ⟨_, rfl, ?_⟩
        refine g_zret dX7_isSo_98 rfl (by unfold b2; split <;> simp) ?_
        exact h
      · exact absurd c65 (by decide)
    · exact absurd c25 (by decide)
  · exact absurd c1 (by decide)
set_option maxHeartbeats 4000000 in
set_option maxRecDepth 100000 in
theorem wp_X7_isSoA1 {E : Ev} {M : Mem} {Q : QT} (hW : Wi M) {L : Tx} {s ll p : Nat} {S : Sc} (hk : RkS M L s ll p S) (hO : OkS S) {v : Int32} (hv : mI M (20, 0, 0) 31 = v) (h : Q (some (vI (b2 (fromP v (lo_ (nI 1)) (hi_ (nI 1)))))) M) : Mth E 2 0 0 kX7_isSo [vR (20, 0, 0), vI 3, vI 0] M Q := by
  have hsz := hk.2.2.2.2.1.1
  have hs10 := hO.1
  have hnt := nI_toInt (n := S.1) (by omega)
  refine mth_of (by decide +kernel) [some (vR (20, 0, 0)), some (vI 3), some (vI 0)] (Nat.le_of_ble_eq_true rfl) rfl ?_
  refine g_iload_n dX7_isSo_0 rfl rfl ?_
  refine g_if_ne (tgt := 23) dX7_isSo_1 (by decide) (fun c1 => ?_) (fun c1 => ?_)
  · refine g_iload_n dX7_isSo_23 rfl rfl ?_
    refine g_iconst dX7_isSo_24 (v := 1) (by decide) ?_
    refine g_icmp_ne (tgt := 62) dX7_isSo_25 (by decide) (fun c25 => ?_) (fun c25 => ?_)
    · refine g_iload_n dX7_isSo_62 rfl rfl ?_
      refine g_bipush dX7_isSo_63 (v := 6) (by decide) ?_
      refine g_icmp_ne (tgt := 87) dX7_isSo_65 (by decide) (fun c65 => ?_) (fun c65 => ?_)
      · refine g_aloadR_n dX7_isSo_87 rfl rfl ?_
        refine g_iload_n dX7_isSo_88 rfl rfl ?_
        refine g_iconst dX7_isSo_89 (v := 2) (by decide) ?_
        refine g_isub dX7_isSo_90 ?_
        refine g_aloadR_n dX7_isSo_91 rfl rfl ?_
        refine n_getI dX7_isSo_92 fX7_156 rfl hW vld_x20 (Or.inl rfl) ?_
        rw [hv, show (3 : Int32) - 2 = nI 1 by decide]
        refine n_v2i (n' := 1) dX7_isSo_95 mX7_isAsked lX7_134 rfl hW vld_x20 rfl rfl ⟨Nat.le_of_ble_eq_true rfl, Nat.le_of_ble_eq_true rfl⟩ ⟨Nat.zero_le _, Nat.zero_le _⟩ (Nat.le_of_ble_eq_true rfl) ?_
        refine wp_X7_isAsked (by exact hW) (w := 1) (by decide) ?_
        refine ⟨_, rfl, ?_⟩
        refine g_zret dX7_isSo_98 rfl (by unfold b2; split <;> simp) ?_
        exact h
      · exact absurd c65 (by decide)
    · exact absurd c25 (by decide)
  · exact absurd c1 (by decide)
set_option maxHeartbeats 4000000 in
set_option maxRecDepth 100000 in
theorem wp_X7_isSoA2 {E : Ev} {M : Mem} {Q : QT} (hW : Wi M) {L : Tx} {s ll p : Nat} {S : Sc} (hk : RkS M L s ll p S) (hO : OkS S) {v : Int32} (hv : mI M (20, 0, 0) 31 = v) (h : Q (some (vI (b2 (fromP v (lo_ (nI 2)) (hi_ (nI 2)))))) M) : Mth E 2 0 0 kX7_isSo [vR (20, 0, 0), vI 4, vI 0] M Q := by
  have hsz := hk.2.2.2.2.1.1
  have hs10 := hO.1
  have hnt := nI_toInt (n := S.1) (by omega)
  refine mth_of (by decide +kernel) [some (vR (20, 0, 0)), some (vI 4), some (vI 0)] (Nat.le_of_ble_eq_true rfl) rfl ?_
  refine g_iload_n dX7_isSo_0 rfl rfl ?_
  refine g_if_ne (tgt := 23) dX7_isSo_1 (by decide) (fun c1 => ?_) (fun c1 => ?_)
  · refine g_iload_n dX7_isSo_23 rfl rfl ?_
    refine g_iconst dX7_isSo_24 (v := 1) (by decide) ?_
    refine g_icmp_ne (tgt := 62) dX7_isSo_25 (by decide) (fun c25 => ?_) (fun c25 => ?_)
    · refine g_iload_n dX7_isSo_62 rfl rfl ?_
      refine g_bipush dX7_isSo_63 (v := 6) (by decide) ?_
      refine g_icmp_ne (tgt := 87) dX7_isSo_65 (by decide) (fun c65 => ?_) (fun c65 => ?_)
      · refine g_aloadR_n dX7_isSo_87 rfl rfl ?_
        refine g_iload_n dX7_isSo_88 rfl rfl ?_
        refine g_iconst dX7_isSo_89 (v := 2) (by decide) ?_
        refine g_isub dX7_isSo_90 ?_
        refine g_aloadR_n dX7_isSo_91 rfl rfl ?_
        refine n_getI dX7_isSo_92 fX7_156 rfl hW vld_x20 (Or.inl rfl) ?_
        rw [hv, show (4 : Int32) - 2 = nI 2 by decide]
        refine n_v2i (n' := 1) dX7_isSo_95 mX7_isAsked lX7_134 rfl hW vld_x20 rfl rfl ⟨Nat.le_of_ble_eq_true rfl, Nat.le_of_ble_eq_true rfl⟩ ⟨Nat.zero_le _, Nat.zero_le _⟩ (Nat.le_of_ble_eq_true rfl) ?_
        refine wp_X7_isAsked (by exact hW) (w := 2) (by decide) ?_
        refine ⟨_, rfl, ?_⟩
        refine g_zret dX7_isSo_98 rfl (by unfold b2; split <;> simp) ?_
        exact h
      · exact absurd c65 (by decide)
    · exact absurd c25 (by decide)
  · exact absurd c1 (by decide)
set_option maxHeartbeats 4000000 in
set_option maxRecDepth 100000 in
theorem wp_X7_isSoA3 {E : Ev} {M : Mem} {Q : QT} (hW : Wi M) {L : Tx} {s ll p : Nat} {S : Sc} (hk : RkS M L s ll p S) (hO : OkS S) {v : Int32} (hv : mI M (20, 0, 0) 31 = v) (h : Q (some (vI (b2 (fromP v (lo_ (nI 3)) (hi_ (nI 3)))))) M) : Mth E 2 0 0 kX7_isSo [vR (20, 0, 0), vI 5, vI 0] M Q := by
  have hsz := hk.2.2.2.2.1.1
  have hs10 := hO.1
  have hnt := nI_toInt (n := S.1) (by omega)
  refine mth_of (by decide +kernel) [some (vR (20, 0, 0)), some (vI 5), some (vI 0)] (Nat.le_of_ble_eq_true rfl) rfl ?_
  refine g_iload_n dX7_isSo_0 rfl rfl ?_
  refine g_if_ne (tgt := 23) dX7_isSo_1 (by decide) (fun c1 => ?_) (fun c1 => ?_)
  · refine g_iload_n dX7_isSo_23 rfl rfl ?_
    refine g_iconst dX7_isSo_24 (v := 1) (by decide) ?_
    refine g_icmp_ne (tgt := 62) dX7_isSo_25 (by decide) (fun c25 => ?_) (fun c25 => ?_)
    · refine g_iload_n dX7_isSo_62 rfl rfl ?_
      refine g_bipush dX7_isSo_63 (v := 6) (by decide) ?_
      refine g_icmp_ne (tgt := 87) dX7_isSo_65 (by decide) (fun c65 => ?_) (fun c65 => ?_)
      · refine g_aloadR_n dX7_isSo_87 rfl rfl ?_
        refine g_iload_n dX7_isSo_88 rfl rfl ?_
        refine g_iconst dX7_isSo_89 (v := 2) (by decide) ?_
        refine g_isub dX7_isSo_90 ?_
        refine g_aloadR_n dX7_isSo_91 rfl rfl ?_
        refine n_getI dX7_isSo_92 fX7_156 rfl hW vld_x20 (Or.inl rfl) ?_
        rw [hv, show (5 : Int32) - 2 = nI 3 by decide]
        refine n_v2i (n' := 1) dX7_isSo_95 mX7_isAsked lX7_134 rfl hW vld_x20 rfl rfl ⟨Nat.le_of_ble_eq_true rfl, Nat.le_of_ble_eq_true rfl⟩ ⟨Nat.zero_le _, Nat.zero_le _⟩ (Nat.le_of_ble_eq_true rfl) ?_
        refine wp_X7_isAsked (by exact hW) (w := 3) (by decide) ?_
        refine ⟨_, rfl, ?_⟩
        refine g_zret dX7_isSo_98 rfl (by unfold b2; split <;> simp) ?_
        exact h
      · exact absurd c65 (by decide)
    · exact absurd c25 (by decide)
  · exact absurd c1 (by decide)
theorem wd_per {M : Mem} (h : RepKM M) {j : Nat} (hj : j < 6) : mI M (21, 16, 0) j = (jsB 0).getD j 0 := by
  rw [h.1 j (by omega)]
  have : ∀ j, j < 6 → wdK.getD j 0 = (jsB 0).getD j 0 := by decide
  exact this j hj
theorem jb_ne : ∀ j, j < 6 → ¬ ((jsB 0).getD j 0) = -1 := by decide +kernel
set_option maxHeartbeats 4000000 in
set_option maxRecDepth 100000 in
theorem lp_X7_isPerson {E : Ev} {M : Mem} {Q : QT} (hW : Wi M) {L : Tx} {s ll p : Nat} {S : Sc} (hk : RkS M L s ll p S) (hs : s < 8) (ht : TxOk L ll) (hp : p ≤ 160) (hpp : p ≤ 160) (h : Q (some (vI (b2 (mt L (jsB 0) p = 6)))) M) : ∀ c, c ≤ 6 → mt L (jsB 0) p = mtI L (jsB 0) p (6 - c) c → G E (rm 1 0 0) kX7_isPerson (ZQ E Q 0 0) 0 0 2 [some (vR (20, 0, 0)), some (vI (nI c))] [] M := by
  refine up_loop 6 (fun c hc ih hm => ?_)
  have ht1 := ht.1
  have hpl := hk.2.1
  have hll := hk.2.2.1
  refine g_iload_n dX7_isPerson_2 rfl rfl ?_
  refine g_bipush dX7_isPerson_3 (v := 6) (by decide) ?_
  refine g_icmp_ge (tgt := 46) dX7_isPerson_5 (by decide) (fun c5 => ?_) (fun c5 => ?_)
  · rw [show (6 : Int32) = nI 6 from rfl, nI_leI (by decide) (by omega)] at c5
    have hc6 : c = 6 := by omega
    refine g_iload_n dX7_isPerson_46 rfl rfl ?_
    refine g_bipush dX7_isPerson_47 (v := 6) (by decide) ?_
    refine g_icmp_ne (tgt := 56) dX7_isPerson_49 (by decide) (fun c49 => ?_) (fun c49 => ?_)
    · rw [show (6 : Int32) = nI 6 from rfl] at c49
      refine g_iconst dX7_isPerson_56 (v := 0) (by decide) ?_
      refine g_zret dX7_isPerson_57 rfl (Or.inl rfl) ?_
      have hm6 : mt L (jsB 0) p = 6 := by rw [hm, hc6]; rfl
      exact absurd (by rw [hc6]) c49
    · rw [show (6 : Int32) = nI 6 from rfl] at c49
      refine g_iconst dX7_isPerson_52 (v := 1) (by decide) ?_
      refine g_goto (tgt := 57) dX7_isPerson_53 (by decide) ?_
      refine g_zret dX7_isPerson_57 rfl (Or.inr rfl) ?_
      have hm6 : mt L (jsB 0) p = 6 := by rw [hm, hc6]; rfl
      exact qI h (b2_t hm6)
  · rw [show (6 : Int32) = nI 6 from rfl, nI_leI (by decide) (by omega)] at c5
    have hcn : c < 6 := by omega
    have hst : mtI L (jsB 0) p (6 - c) c = if L (p + c) = (jsB 0).getD c 0 then mtI L (jsB 0) p (6 - (c + 1)) (c + 1) else c := by
      obtain ⟨d, hd⟩ : ∃ d, 6 - c = d + 1 := ⟨6 - c - 1, by omega⟩
      rw [hd, show 6 - (c + 1) = d by omega, mtI]
    rw [hst] at hm
    refine g_aloadR_n dX7_isPerson_8 rfl rfl ?_
    refine n_getI dX7_isPerson_9 fX7_147 rfl hW vld_x20 (Or.inl rfl) ?_
    refine g_iload_n dX7_isPerson_12 rfl rfl ?_
    refine g_iadd dX7_isPerson_13 ?_
    refine g_aloadR_n dX7_isPerson_14 rfl rfl ?_
    refine n_getI dX7_isPerson_15 fX7_150 rfl hW vld_x20 (Or.inl rfl) ?_
    refine g_icmp_ge (tgt := 46) dX7_isPerson_18 (by decide) (fun c18 => ?_) (fun c18 => ?_)
    · rw [hpl, hll, nI_add, nI_leI (by omega) (by omega)] at c18
      have hm2 : mt L (jsB 0) p = c := by rw [hm, if_neg (fun q => jb_ne c hcn (by rw [← q]; exact ht.2 _ c18))]
      refine g_iload_n dX7_isPerson_46 rfl rfl ?_
      refine g_bipush dX7_isPerson_47 (v := 6) (by decide) ?_
      refine g_icmp_ne (tgt := 56) dX7_isPerson_49 (by decide) (fun c49 => ?_) (fun c49 => ?_)
      · rw [show (6 : Int32) = nI 6 from rfl] at c49
        refine g_iconst dX7_isPerson_56 (v := 0) (by decide) ?_
        refine g_zret dX7_isPerson_57 rfl (Or.inl rfl) ?_
        exact qI h (b2_f (by omega))
      · rw [show (6 : Int32) = nI 6 from rfl] at c49
        refine g_iconst dX7_isPerson_52 (v := 1) (by decide) ?_
        refine g_goto (tgt := 57) dX7_isPerson_53 (by decide) ?_
        refine g_zret dX7_isPerson_57 rfl (Or.inr rfl) ?_
        have c49 : nI c = nI 6 := by first | exact c49 | exact Decidable.not_not.mp c49
        have := (nI_eq (by omega) (by omega)).mp c49
        omega
    · rw [hpl, hll, nI_add, nI_leI (by omega) (by omega)] at c18
      refine g_aloadR_n dX7_isPerson_21 rfl rfl ?_
      refine g_aloadR_n dX7_isPerson_22 rfl rfl ?_
      refine n_getI dX7_isPerson_23 fX7_147 rfl hW vld_x20 (Or.inl rfl) ?_
      refine g_iload_n dX7_isPerson_26 rfl rfl ?_
      refine g_iadd dX7_isPerson_27 ?_
      rw [hpl, nI_add]
      refine n_v1i (n' := 0) dX7_isPerson_28 mX7_sign lX7_153 rfl hW vld_x20 rfl rfl ⟨Nat.le_of_ble_eq_true rfl, Nat.le_of_ble_eq_true rfl⟩ ⟨Nat.zero_le _, Nat.zero_le _⟩ (Nat.le_of_ble_eq_true rfl) ?_
      refine wp_X7_sign (by exact hW) hk.1 (i := p + c) rfl hs (by omega) ?_
      refine ⟨_, rfl, ?_⟩
      rw [hk.2.2.2.1 (p + c) (by omega)]
      refine g_aloadR_n dX7_isPerson_31 rfl rfl ?_
      refine n_getR dX7_isPerson_32 fX7_75 rfl hW vld_x20 rfl rfl ?_
      refine g_iload_n dX7_isPerson_35 rfl rfl ?_
      refine n_iald (j := c) dX7_isPerson_36 rfl hW (vld_ma (by decide : 16 < 25)) (by decide) rfl (show c < 48 by omega) ?_
      rw [wd_per hk.2.2.2.2.2 hcn]
      refine g_icmp_ne (tgt := 46) dX7_isPerson_37 (by decide) (fun c37 => ?_) (fun c37 => ?_)
      · have hm2 : mt L (jsB 0) p = c := by rw [hm, if_neg c37]
        refine g_iload_n dX7_isPerson_46 rfl rfl ?_
        refine g_bipush dX7_isPerson_47 (v := 6) (by decide) ?_
        refine g_icmp_ne (tgt := 56) dX7_isPerson_49 (by decide) (fun c49 => ?_) (fun c49 => ?_)
        · rw [show (6 : Int32) = nI 6 from rfl] at c49
          refine g_iconst dX7_isPerson_56 (v := 0) (by decide) ?_
          refine g_zret dX7_isPerson_57 rfl (Or.inl rfl) ?_
          exact qI h (b2_f (by omega))
        · rw [show (6 : Int32) = nI 6 from rfl] at c49
          refine g_iconst dX7_isPerson_52 (v := 1) (by decide) ?_
          refine g_goto (tgt := 57) dX7_isPerson_53 (by decide) ?_
          refine g_zret dX7_isPerson_57 rfl (Or.inr rfl) ?_
          have c49 : nI c = nI 6 := by first | exact c49 | exact Decidable.not_not.mp c49
          have := (nI_eq (by omega) (by omega)).mp c49
          omega
      · refine g_iinc_1 (v := nI (c + 1)) dX7_isPerson_40 rfl (nI_inc c) ?_
        refine g_goto (tgt := 2) dX7_isPerson_43 (by decide) ?_
        refine ih hcn ?_
        rw [hm, if_pos (by first | exact c37 | exact Decidable.not_not.mp c37)]
set_option maxHeartbeats 4000000 in
set_option maxRecDepth 100000 in
theorem wp_X7_isPerson {E : Ev} {M : Mem} {Q : QT} (hW : Wi M) {L : Tx} {s ll p : Nat} {S : Sc} (hk : RkS M L s ll p S) (hs : s < 8) (ht : TxOk L ll) (hp : p ≤ 160) (h : Q (some (vI (b2 (mt L (jsB 0) p = 6)))) M) : Mth E 1 0 0 kX7_isPerson [vR (20, 0, 0)] M Q := by
  refine mth_of (by decide +kernel) [some (vR (20, 0, 0)), none] (Nat.le_of_ble_eq_true rfl) rfl ?_
  refine g_iconst dX7_isPerson_0 (v := 0) (by decide) ?_
  refine g_istore_1 dX7_isPerson_1 rfl ?_
  exact lp_X7_isPerson hW hk hs ht hp hp h 0 (Nat.zero_le _) rfl
