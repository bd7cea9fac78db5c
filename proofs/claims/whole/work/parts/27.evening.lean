/-! WHO HAS A CHAIR; BEHIND AN EVENING; ONE SCHOOL LIKE ANOTHER -/
def cnt (c : Nat) : Nat → Nat
  | 0 => 0
  | n + 1 => cnt c n + (if c.testBit n = true then 1 else 0)
theorem cnt_le (c : Nat) : ∀ n, cnt c n ≤ n
  | 0 => Nat.le_refl _
  | n + 1 => by have := cnt_le c n; simp only [cnt]; split <;> omega
theorem cnt_mono (c : Nat) {i j : Nat} (h : i ≤ j) : cnt c i ≤ cnt c j := by
  induction h with
  | refl => exact Nat.le_refl _
  | step h ih => simp only [cnt]; split <;> omega
theorem mk_stop {P : Nat → Bool} {j : Nat} : ∀ {n : Nat}, j ≤ n → (∀ i, j ≤ i → i < n → P i = false) → mk P n = mk P j := by
  intro n
  induction n with
  | zero => intro h _; have : j = 0 := by omega
            subst this; rfl
  | succ n ih =>
    intro h hP
    by_cases hj : j = n + 1
    · subst hj; rfl
    · simp only [mk]
      rw [hP n (by omega) (by omega), ih (by omega) (fun i a b => hP i a (by omega))]
      simp
def chN (S : Sc) : Nat := (S.2.1 3).toNatClampNeg
def sdP (S : Sc) (c : Nat) (i : Nat) : Bool := c.testBit i && decide (cnt c i < chN S)
def seatS (S : Sc) (c : Nat) : Nat := mk (sdP S c) S.1
theorem seatS_lt (S : Sc) (c : Nat) : seatS S c < 2 ^ S.1 := mk_lt _ _
theorem chN_eq {S : Sc} (h : OkS S) : S.2.1 3 = nI (chN S) ∧ chN S ≤ 12 ∧ 1 ≤ chN S := by
  obtain ⟨-, -, -, ⟨h1, h2⟩, -⟩ := h
  have := IN_nI h1
  have hc : chN S = (S.2.1 3).toInt.toNat := rfl
  exact ⟨this.1, by have := this.2; unfold chN; omega, by omega⟩
set_option maxHeartbeats 4000000 in
set_option maxRecDepth 100000 in
theorem lp_X4_seatedOf {E : Ev} {M : Mem} {Q : QT} (hW : Wi M) {k : Nat} (hk : k < 4) {S : Sc} (hR : RepC M k S) (hn : S.1 ≤ 10) (hO : OkS S) {c : Nat} (hc : c < 2 ^ S.1) (h : Q (some (vI (nI (seatS S c)))) M) : ∀ j, j ≤ S.1 → G E (rm 1 0 0) kX4_seatedOf (ZQ E Q 0 0) 0 0 10 [some (vR (1, k, 0)), some (vI (nI c)), some (vI (nI (mk (sdP S c) j))), some (vI (nI (chN S - cnt c j))), some (vI (nI j))] [] M := by
  refine up_loop S.1 (fun j hj ih => ?_)
  have hml := mk_lt (sdP S c) j
  have hc2 := c_lt hc hn
  obtain ⟨ch1, ch2, ch3⟩ := chN_eq hO
  refine g_iload dX4_seatedOf_10 rfl ?_
  refine g_aloadR_n dX4_seatedOf_12 rfl rfl ?_
  refine n_getI dX4_seatedOf_13 fX4_35 rfl hW (vld_sc hk) (Or.inl rfl) ?_
  refine g_icmp_ge (tgt := 48) dX4_seatedOf_16 (by decide) (fun c16 => ?_) (fun c16 => ?_)
  · have hjn := sz_ge hR.1 (by omega) (by omega) c16
    have hjn2 : j = S.1 := by omega
    refine g_iload_n dX4_seatedOf_48 rfl rfl ?_
    refine g_iret dX4_seatedOf_49 rfl ?_
    first
      | (rw [hjn2]; exact h)
      | (have e : seatS S c = mk (sdP S c) j := mk_stop (by omega) (fun i a b => by have := cnt_mono c a; simp [sdP]; omega)
         rw [e] at h; exact h)
  · have hjn := sz_lt hR.1 (by omega) (by omega) c16
    refine g_iload_n dX4_seatedOf_19 rfl rfl ?_
    refine g_if_le (tgt := 48) dX4_seatedOf_20 (by decide) (fun c20 => ?_) (fun c20 => ?_)
    · have q20 : chN S ≤ cnt c j := by
        have := nI_toInt (n := chN S - cnt c j) (by omega)
        simp only [Int32.le_iff_toInt_le, zcs] at c20; omega
      refine g_iload_n dX4_seatedOf_48 rfl rfl ?_
      refine g_iret dX4_seatedOf_49 rfl ?_
      first
        | (rw [hjn2]; exact h)
        | (have e : seatS S c = mk (sdP S c) j := mk_stop (by omega) (fun i a b => by have := cnt_mono c a; simp [sdP]; omega)
           rw [e] at h; exact h)
    · have q20 : cnt c j < chN S := by
        have := nI_toInt (n := chN S - cnt c j) (by omega)
        simp only [Int32.le_iff_toInt_le, zcs] at c20; omega
      refine g_iload_n dX4_seatedOf_23 rfl rfl ?_
      refine g_iload dX4_seatedOf_24 rfl ?_
      refine n_n2i (n' := 0) dX4_seatedOf_26 mX6_isIn lX4_79 ⟨Nat.le_of_ble_eq_true rfl, Nat.le_of_ble_eq_true rfl⟩ ⟨Nat.zero_le _, Nat.zero_le _⟩ (Nat.le_of_ble_eq_true rfl) ?_
      refine wp_X6_isIn hc2 ?_
      refine ⟨_, rfl, ?_⟩
      refine g_if_eq (tgt := 42) dX4_seatedOf_29 (by decide) (fun c29 => ?_) (fun c29 => ?_)
      · simp only [b2_0, Decidable.not_not, nI_clamp (show j < 2 ^ 31 by omega)] at c29
        have q29 : ¬ c.testBit j = true := fun q => c29 ⟨IN_of (by omega) (by decide), q⟩
        refine g_iinc_4 (v := nI (j + 1)) dX4_seatedOf_42 rfl (nI_inc j) ?_
        refine g_goto (tgt := 10) dX4_seatedOf_45 (by decide) ?_
        have hi := ih hjn
        first
          | (have q : sdP S c j = true := by simp [sdP, q29, q20]
             simp only [mk, cnt, if_pos q, if_pos q29] at hi
             rw [show chN S - (cnt c j + 1) = chN S - cnt c j - 1 by omega] at hi; exact hi)
          | (have q : ¬ sdP S c j = true := by simp [sdP, q29]
             simp only [mk, cnt, if_neg q, if_neg q29, Nat.add_zero] at hi; exact hi)
      · simp only [b2_0, Decidable.not_not, nI_clamp (show j < 2 ^ 31 by omega)] at c29
        have q29 : c.testBit j = true := c29.2
        refine g_iload_n dX4_seatedOf_32 rfl rfl ?_
        refine g_iconst dX4_seatedOf_33 (v := 1) (by decide) ?_
        refine g_iload dX4_seatedOf_34 rfl ?_
        refine g_ishl dX4_seatedOf_36 ?_
        refine g_ior dX4_seatedOf_37 ?_
        rw [bt_or (by omega) hml]
        refine g_istore_2 dX4_seatedOf_38 rfl ?_
        refine g_iinc_3 (v := nI (chN S - cnt c j - 1)) dX4_seatedOf_39 rfl (by obtain ⟨z, hz⟩ : ∃ z, chN S - cnt c j = z + 1 := ⟨chN S - cnt c j - 1, by omega⟩; rw [hz, Nat.add_sub_cancel]; exact pk_m1 z) ?_
        refine g_iinc_4 (v := nI (j + 1)) dX4_seatedOf_42 rfl (nI_inc j) ?_
        refine g_goto (tgt := 10) dX4_seatedOf_45 (by decide) ?_
        have hi := ih hjn
        first
          | (have q : sdP S c j = true := by simp [sdP, q29, q20]
             simp only [mk, cnt, if_pos q, if_pos q29] at hi
             rw [show chN S - (cnt c j + 1) = chN S - cnt c j - 1 by omega] at hi; exact hi)
          | (have q : ¬ sdP S c j = true := by simp [sdP, q29]
             simp only [mk, cnt, if_neg q, if_neg q29, Nat.add_zero] at hi; exact hi)
set_option maxHeartbeats 4000000 in
set_option maxRecDepth 100000 in
theorem wp_X4_seatedOf {E : Ev} {M : Mem} {Q : QT} (hW : Wi M) {k : Nat} (hk : k < 4) {S : Sc} (hR : RepC M k S) (hn : S.1 ≤ 10) (hO : OkS S) {c : Nat} (hc : c < 2 ^ S.1) (h : Q (some (vI (nI (seatS S c)))) M) : Mth E 1 0 0 kX4_seatedOf [vR (1, k, 0), vI (nI c)] M Q := by
  refine mth_of (by decide +kernel) [some (vR (1, k, 0)), some (vI (nI c)), none, none, none] (Nat.le_of_ble_eq_true rfl) rfl ?_
  refine g_iconst dX4_seatedOf_0 (v := 0) (by decide) ?_
  refine g_istore_2 dX4_seatedOf_1 rfl ?_
  refine g_aloadR_n dX4_seatedOf_2 rfl rfl ?_
  refine n_getI dX4_seatedOf_3 fX4_26 rfl hW (vld_sc hk) (Or.inl rfl) ?_
  refine g_istore_3 dX4_seatedOf_6 rfl ?_
  refine g_iconst dX4_seatedOf_7 (v := 0) (by decide) ?_
  refine g_istore_4 dX4_seatedOf_8 rfl ?_
  have h3 := hR.2.1 3 (by decide) (by decide)
  rw [h3, (chN_eq hO).1]
  exact lp_X4_seatedOf hW hk hR hn hO hc h 0 (Nat.zero_le _)
theorem satF_congr {f f' : Nat → Int32} (h : ∀ j, j < 9 → f j = f' j) : ∀ j, j < 9 → satF f j = satF f' j := fun j hj => by
  simp only [satF, h 7 (by decide), h 5 (by decide), h 2 (by decide), h j hj]
theorem awayF_congr {f f' : Nat → Int32} (h : ∀ j, j < 9 → f j = f' j) : ∀ j, j < 9 → awayF f j = awayF f' j := fun j hj => by
  simp only [awayF, h 5 (by decide), h 6 (by decide), h 3 (by decide), h 8 (by decide), h j hj]
def endP (S : Sc) (m i : Nat) : Nat → Int32 := if m.testBit i = true then satF (S.2.2 i) else if S.2.2 i 8 = 0 then awayF (S.2.2 i) else S.2.2 i
def endS (S : Sc) (m : Nat) : Sc := (S.1, fun j => if j = 5 then S.2.1 5 + 1 else S.2.1 j, endP S m)
/-- at place j of a round over all: those below are new, the others old -/
def Half (M M1 : Mem) (k : Nat) (S : Sc) (F : Nat → Nat → Int32) (j : Nat) : Prop := FrI (Dk k) M M1 ∧ (∀ f, mI M1 (1, k, 0) f = mI M (1, k, 0) f) ∧ ∀ i f, i < S.1 → f < 9 → mI M1 (2, k, i) f = if i < j then F i f else S.2.2 i f
theorem Half.z {M : Mem} {k : Nat} {S : Sc} {F : Nat → Nat → Int32} (hR : RepC M k S) : Half M M k S F 0 := ⟨FrI.rf, fun _ => rfl, fun i f hi hf => by rw [if_neg (by omega)]; exact hR.2.2 i f hi hf⟩
theorem Half.old {M M1 : Mem} {k : Nat} {S : Sc} {F : Nat → Nat → Int32} {j : Nat} (h : Half M M1 k S F j) (hj : j < S.1) : ∀ f, f < 9 → mI M1 (2, k, j) f = S.2.2 j f := fun f hf => by rw [h.2.2 j f hj hf, if_neg (by omega)]
theorem Half.step {M M1 : Mem} {k : Nat} {S : Sc} {F : Nat → Nat → Int32} {j : Nat} (h : Half M M1 k S F j) {X : Nat → Int32} (hX : ∀ f, f < 9 → X f = F j f) : Half M (sP M1 (2, k, j) X) k S F (j + 1) := by
  refine ⟨h.1.tr (fr_sP fun _ => ⟨Or.inr rfl, rfl⟩), fun f => ?_, fun i f hi hf => ?_⟩
  · rw [mI_sP_ne (by intro q; cases q)]; exact h.2.1 f
  · by_cases hij : i = j
    · subst hij; rw [mI_sP, if_pos (by omega)]; exact hX f hf
    · rw [mI_sP_ne (by intro q; injection q with q1 q2; injection q2 with q3 q4; exact hij q4), h.2.2 i f hi hf]
      by_cases h2 : i < j
      · rw [if_pos h2, if_pos (by omega)]
      · rw [if_neg h2, if_neg (by omega)]
theorem Half.keep {M M1 : Mem} {k : Nat} {S : Sc} {F : Nat → Nat → Int32} {j : Nat} (h : Half M M1 k S F j) (hX : ∀ f, f < 9 → S.2.2 j f = F j f) : Half M M1 k S F (j + 1) := by
  refine ⟨h.1, h.2.1, fun i f hi hf => ?_⟩
  rw [h.2.2 i f hi hf]
  by_cases hij : i = j
  · subst hij; rw [if_neg (by omega), if_pos (by omega)]; exact hX f hf
  · by_cases h2 : i < j
    · rw [if_pos h2, if_pos (by omega)]
    · rw [if_neg h2, if_neg (by omega)]
theorem Half.all {M M1 : Mem} {k : Nat} {S : Sc} {F : Nat → Nat → Int32} {j : Nat} (h : Half M M1 k S F j) (hj : j = S.1) : ∀ i f, i < S.1 → f < 9 → mI M1 (2, k, i) f = F i f := fun i f hi hf => by rw [h.2.2 i f hi hf, if_pos (by omega)]
set_option maxHeartbeats 4000000 in
set_option maxRecDepth 100000 in
theorem lp_X4_endEvening {E : Ev} {M : Mem} {Q : QT} (hW : Wi M) {k : Nat} (hk : k < 4) {S : Sc} (hR : RepC M k S) (hn : S.1 ≤ 10) {c : Nat} (hc : c < 2 ^ S.1) (h : ∀ M', FrI (Dk k) M M' → RepC M' k (endS S c) → Q none M') : ∀ j, j ≤ S.1 → ∀ M1, Half M M1 k S (endP S c) j → G E (rm 2 0 0) kX4_endEvening (ZQ E Q 0 0) 0 0 2 [some (vR (1, k, 0)), some (vI (nI c)), some (vI (nI j))] [] M1 := by
  refine up_loop S.1 (fun j hj ih M1 hh => ?_)
  have hc2 := c_lt hc hn
  have hW1 := hh.1.W hW
  have hsz : mI M1 (1, k, 0) 2 = nI S.1 := (hh.2.1 2).trans hR.1
  refine g_iload_n dX4_endEvening_2 rfl rfl ?_
  refine g_aloadR_n dX4_endEvening_3 rfl rfl ?_
  refine n_getI dX4_endEvening_4 fX4_35 rfl hW1 (vld_sc hk) (Or.inl rfl) ?_
  refine g_icmp_ge (tgt := 54) dX4_endEvening_7 (by decide) (fun c7 => ?_) (fun c7 => ?_)
  · have hjn := sz_ge hsz (by omega) (by omega) c7
    have hjn2 : j = S.1 := by omega
    refine g_aloadR_n dX4_endEvening_54 rfl rfl ?_
    refine g_dup dX4_endEvening_55 rfl ?_
    refine n_getI dX4_endEvening_56 fX4_41 rfl hW1 (vld_sc hk) (Or.inl rfl) ?_
    refine g_iconst dX4_endEvening_59 (v := 1) (by decide) ?_
    refine g_iadd dX4_endEvening_60 ?_
    refine n_putI dX4_endEvening_61 fX4_41 rfl hW1 (vld_sc hk) rfl ?_
    refine g_vret dX4_endEvening_64 rfl ?_
    refine h _ (hh.1.tr (fr_sI ⟨Or.inl rfl, rfl⟩)) ⟨?_, fun i a b => ?_, fun i f hi hf => ?_⟩
    · show mI (sI M1 (1, k, 0) 7 _) (1, k, 0) 2 = _
      simp only [mI, sI]; rw [if_neg (by simp)]; exact hsz
    · simp only [mI, sI, endS]
      by_cases hi : i = 5
      · subst hi; simp only [and_self, if_true]; rw [show M1.1 (1, k, 0) 7 = S.2.1 5 from (hh.2.1 7).trans (hR.2.1 5 (by decide) (by decide))]
      · rw [if_neg (by omega), if_neg hi]; exact (hh.2.1 _).trans (hR.2.1 i a b)
    · simp only [mI, sI]; rw [if_neg (by intro q; cases q.1)]; exact hh.all hjn2 i f hi hf
  · have hjn := sz_lt hsz (by omega) (by omega) c7
    refine g_iload_n dX4_endEvening_10 rfl rfl ?_
    refine g_iload_n dX4_endEvening_11 rfl rfl ?_
    refine n_n2i (n' := 0) dX4_endEvening_12 mX6_isIn lX4_79 ⟨Nat.le_of_ble_eq_true rfl, Nat.le_of_ble_eq_true rfl⟩ ⟨Nat.zero_le _, Nat.zero_le _⟩ (Nat.le_of_ble_eq_true rfl) ?_
    refine wp_X6_isIn hc2 ?_
    refine ⟨_, rfl, ?_⟩
    refine g_if_eq (tgt := 29) dX4_endEvening_15 (by decide) (fun c15 => ?_) (fun c15 => ?_)
    · simp only [b2_0, Decidable.not_not, nI_clamp (show j < 2 ^ 31 by omega)] at c15
      have q15 : ¬ c.testBit j = true := fun q => c15 ⟨IN_of (by omega) (by decide), q⟩
      refine g_aloadR_n dX4_endEvening_29 rfl rfl ?_
      refine g_iload_n dX4_endEvening_30 rfl rfl ?_
      refine n_v1r (n' := 0) dX4_endEvening_31 mX4_one lX4_44 rfl hW1 (vld_sc hk) rfl rfl ⟨Nat.le_of_ble_eq_true rfl, Nat.le_of_ble_eq_true rfl⟩ ⟨Nat.zero_le _, Nat.zero_le _⟩ (Nat.le_of_ble_eq_true rfl) ?_
      refine wp_X4_oneN (by exact hW1) hk (show j < 10 by omega) ?_
      refine ⟨_, rfl, ?_⟩
      refine n_getI dX4_endEvening_34 fX4_62 rfl hW1 (vld_pe hk (by omega)) (Or.inr rfl) ?_
      refine g_if_ne (tgt := 48) dX4_endEvening_37 (by decide) (fun c37 => ?_) (fun c37 => ?_)
      · rw [hh.old hjn 8 (by decide)] at c37
        refine g_iinc_2 (v := nI (j + 1)) dX4_endEvening_48 rfl (nI_inc j) ?_
        refine g_goto (tgt := 2) dX4_endEvening_51 (by decide) ?_
        first
          | exact ih hjn _ (hh.step (fun f hf => by unfold endP; rw [if_pos q15]; exact satF_congr (hh.old hjn) f hf))
          | exact ih hjn _ (hh.step (fun f hf => by unfold endP; rw [if_neg q15, if_pos c37]; exact awayF_congr (hh.old hjn) f hf))
          | exact ih hjn _ (hh.keep (fun f hf => by unfold endP; rw [if_neg q15, if_neg c37]))
      · rw [hh.old hjn 8 (by decide)] at c37
        refine g_aloadR_n dX4_endEvening_40 rfl rfl ?_
        refine g_iload_n dX4_endEvening_41 rfl rfl ?_
        refine n_v1r (n' := 0) dX4_endEvening_42 mX4_one lX4_44 rfl hW1 (vld_sc hk) rfl rfl ⟨Nat.le_of_ble_eq_true rfl, Nat.le_of_ble_eq_true rfl⟩ ⟨Nat.zero_le _, Nat.zero_le _⟩ (Nat.le_of_ble_eq_true rfl) ?_
        refine wp_X4_oneN (by exact hW1) hk (show j < 10 by omega) ?_
        refine ⟨_, rfl, ?_⟩
        refine n_v0v (n' := 1) dX4_endEvening_45 mX2_stayedAway lX4_109 rfl hW1 (vld_pe hk (by omega)) rfl rfl ⟨Nat.le_of_ble_eq_true rfl, Nat.le_of_ble_eq_true rfl⟩ ⟨Nat.zero_le _, Nat.zero_le _⟩ (Nat.le_of_ble_eq_true rfl) ?_
        refine wp_X2_stayedAway (by exact hW1) hk (show j < 11 by omega) ?_
        refine ⟨rfl, ?_⟩
        refine g_iinc_2 (v := nI (j + 1)) dX4_endEvening_48 rfl (nI_inc j) ?_
        refine g_goto (tgt := 2) dX4_endEvening_51 (by decide) ?_
        first
          | exact ih hjn _ (hh.step (fun f hf => by unfold endP; rw [if_pos q15]; exact satF_congr (hh.old hjn) f hf))
          | exact ih hjn _ (hh.step (fun f hf => by unfold endP; rw [if_neg q15, if_pos c37]; exact awayF_congr (hh.old hjn) f hf))
          | exact ih hjn _ (hh.keep (fun f hf => by unfold endP; rw [if_neg q15, if_neg c37]))
    · simp only [b2_0, Decidable.not_not, nI_clamp (show j < 2 ^ 31 by omega)] at c15
      have q15 : c.testBit j = true := c15.2
      refine g_aloadR_n dX4_endEvening_18 rfl rfl ?_
      refine g_iload_n dX4_endEvening_19 rfl rfl ?_
      refine n_v1r (n' := 0) dX4_endEvening_20 mX4_one lX4_44 rfl hW1 (vld_sc hk) rfl rfl ⟨Nat.le_of_ble_eq_true rfl, Nat.le_of_ble_eq_true rfl⟩ ⟨Nat.zero_le _, Nat.zero_le _⟩ (Nat.le_of_ble_eq_true rfl) ?_
      refine wp_X4_oneN (by exact hW1) hk (show j < 10 by omega) ?_
      refine ⟨_, rfl, ?_⟩
      refine n_v0v (n' := 1) dX4_endEvening_23 mX2_sat lX4_106 rfl hW1 (vld_pe hk (by omega)) rfl rfl ⟨Nat.le_of_ble_eq_true rfl, Nat.le_of_ble_eq_true rfl⟩ ⟨Nat.zero_le _, Nat.zero_le _⟩ (Nat.le_of_ble_eq_true rfl) ?_
      refine wp_X2_sat (by exact hW1) hk (show j < 11 by omega) ?_
      refine ⟨rfl, ?_⟩
      refine g_goto (tgt := 48) dX4_endEvening_26 (by decide) ?_
      refine g_iinc_2 (v := nI (j + 1)) dX4_endEvening_48 rfl (nI_inc j) ?_
      refine g_goto (tgt := 2) dX4_endEvening_51 (by decide) ?_
      first
        | exact ih hjn _ (hh.step (fun f hf => by unfold endP; rw [if_pos q15]; exact satF_congr (hh.old hjn) f hf))
        | exact ih hjn _ (hh.step (fun f hf => by unfold endP; rw [if_neg q15, if_pos c37]; exact awayF_congr (hh.old hjn) f hf))
        | exact ih hjn _ (hh.keep (fun f hf => by unfold endP; rw [if_neg q15, if_neg c37]))
set_option maxHeartbeats 4000000 in
set_option maxRecDepth 100000 in
theorem wp_X4_endEvening {E : Ev} {M : Mem} {Q : QT} (hW : Wi M) {k : Nat} (hk : k < 4) {S : Sc} (hR : RepC M k S) (hn : S.1 ≤ 10) {c : Nat} (hc : c < 2 ^ S.1) (h : ∀ M', FrI (Dk k) M M' → RepC M' k (endS S c) → Q none M') : Mth E 2 0 0 kX4_endEvening [vR (1, k, 0), vI (nI c)] M Q := by
  refine mth_of (by decide +kernel) [some (vR (1, k, 0)), some (vI (nI c)), none] (Nat.le_of_ble_eq_true rfl) rfl ?_
  refine g_iconst dX4_endEvening_0 (v := 0) (by decide) ?_
  refine g_istore_2 dX4_endEvening_1 rfl ?_
  exact lp_X4_endEvening hW hk hR hn hc h 0 (Nat.zero_le _) M (Half.z hR)
theorem Dk_ne {k k2 : Nat} (hne : k2 ≠ k) : (∀ j, ¬ Dk k (1, k2, 0) j) ∧ ∀ i f, f < 9 → ¬ Dk k (2, k2, i) f := ⟨fun j q => hne q.2, fun i f _ q => hne q.2⟩
def gl7 (M M1 : Mem) (k : Nat) (S : Sc) : Prop := FrI (Dk k) M M1 ∧ mI M1 (1, k, 0) 2 = nI S.1 ∧ (∀ j, 1 ≤ j → j < 7 → mI M1 (1, k, 0) (j + 2) = S.2.1 j)
/-- at place j of a round that copies: those below are there -/
def Cop (M M1 : Mem) (k : Nat) (S : Sc) (j : Nat) : Prop := gl7 M M1 k S ∧ ∀ i f, i < j → f < 9 → mI M1 (2, k, i) f = S.2.2 i f
theorem Cop.step {M M1 : Mem} {k : Nat} {S : Sc} {j : Nat} (h : Cop M M1 k S j) {X : Nat → Int32} (hX : ∀ f, f < 9 → X f = S.2.2 j f) : Cop M (sP M1 (2, k, j) X) k S (j + 1) := by
  obtain ⟨⟨h1, h2, h3⟩, h4⟩ := h
  have e1 : mI (sP M1 (2, k, j) X) (1, k, 0) = mI M1 (1, k, 0) := mI_sP_ne (by intro q; cases q)
  refine ⟨⟨h1.tr (fr_sP fun _ => ⟨Or.inr rfl, rfl⟩), by rw [e1]; exact h2, fun i a b => by rw [e1]; exact h3 i a b⟩, fun i f hi hf => ?_⟩
  by_cases hij : i = j
  · subst hij; rw [mI_sP]; exact hX f hf
  · rw [mI_sP_ne (by intro q; injection q with q1 q2; injection q2 with q3 q4; exact hij q4)]; exact h4 i f (by omega) hf
theorem OkS.z {S : Sc} (h : OkS S) {i : Nat} (hi : i < S.1) : (S.2.2 i 3 = 0 ∨ S.2.2 i 3 = 1) ∧ (S.2.2 i 8 = 0 ∨ S.2.2 i 8 = 1) := by
  obtain ⟨-, -, -, -, -, h6⟩ := h
  exact ⟨(h6 i hi).2.2.2.1, (h6 i hi).2.2.2.2.2.2⟩
set_option maxHeartbeats 4000000 in
set_option maxRecDepth 100000 in
theorem lp_X4_become {E : Ev} {M : Mem} {Q : QT} (hW : Wi M) {k : Nat} (hk : k < 4) {k2 : Nat} (hk2 : k2 < 4) (hne : k2 ≠ k) {S : Sc} (hR : RepC M k2 S) (hO : OkS S) (h : ∀ M', FrI (Dk k) M M' → RepC M' k S → Q none M') : ∀ j, j ≤ S.1 → ∀ M1, Cop M M1 k S j → G E (rm 1 0 0) kX4_become (ZQ E Q 0 0) 0 0 58 [some (vR (1, k, 0)), some (vR (1, k2, 0)), some (vI (nI j))] [] M1 := by
  refine up_loop S.1 (fun j hj ih M1 hh => ?_)
  have hn := hO.1
  have hW1 := hh.1.1.W hW
  have hR2 : RepC M1 k2 S := hR.fr hh.1.1 (Dk_ne hne).1 (Dk_ne hne).2
  have hsz := hh.1.2.1
  refine g_iload_n dX4_become_58 rfl rfl ?_
  refine g_aloadR_n dX4_become_59 rfl rfl ?_
  refine n_getI dX4_become_60 fX4_35 rfl hW1 (vld_sc hk) (Or.inl rfl) ?_
  refine g_icmp_ge (tgt := 85) dX4_become_63 (by decide) (fun c63 => ?_) (fun c63 => ?_)
  · have hjn := sz_ge hsz (by omega) (by omega) c63
    have hjn2 : j = S.1 := by omega
    refine g_vret dX4_become_85 rfl ?_
    exact h _ hh.1.1 ⟨hh.1.2.1, hh.1.2.2, fun i f hi hf => hh.2 i f (by omega) hf⟩
  · have hjn := sz_lt hsz (by omega) (by omega) c63
    refine g_aloadR_n dX4_become_66 rfl rfl ?_
    refine g_iload_n dX4_become_67 rfl rfl ?_
    refine n_v1r (n' := 0) dX4_become_68 mX4_one lX4_44 rfl hW1 (vld_sc hk) rfl rfl ⟨Nat.le_of_ble_eq_true rfl, Nat.le_of_ble_eq_true rfl⟩ ⟨Nat.zero_le _, Nat.zero_le _⟩ (Nat.le_of_ble_eq_true rfl) ?_
    refine wp_X4_oneN (by exact hW1) hk (show j < 10 by omega) ?_
    refine ⟨_, rfl, ?_⟩
    refine g_aloadR_n dX4_become_71 rfl rfl ?_
    refine g_iload_n dX4_become_72 rfl rfl ?_
    refine n_v1r (n' := 0) dX4_become_73 mX4_one lX4_44 rfl hW1 (vld_sc hk2) rfl rfl ⟨Nat.le_of_ble_eq_true rfl, Nat.le_of_ble_eq_true rfl⟩ ⟨Nat.zero_le _, Nat.zero_le _⟩ (Nat.le_of_ble_eq_true rfl) ?_
    refine wp_X4_oneN (by exact hW1) hk2 (show j < 10 by omega) ?_
    refine ⟨_, rfl, ?_⟩
    refine n_v1v (n' := 0) dX4_become_76 mX2_become lX4_48 rfl hW1 (vld_pe hk (by omega)) rfl rfl ⟨Nat.le_of_ble_eq_true rfl, Nat.le_of_ble_eq_true rfl⟩ ⟨Nat.zero_le _, Nat.zero_le _⟩ (Nat.le_of_ble_eq_true rfl) ?_
    refine wp_X2_become (by exact hW1) hk (show j < 11 by omega) hk2 (show j < 11 by omega) (by intro q; injection q with q1 q2; injection q2 with q3 q4; exact hne q3) (by rw [hR2.2.2 j 3 hjn (by decide)]; exact (hO.z hjn).1) (by rw [hR2.2.2 j 8 hjn (by decide)]; exact (hO.z hjn).2) ?_
    refine ⟨rfl, ?_⟩
    refine g_iinc_2 (v := nI (j + 1)) dX4_become_79 rfl (nI_inc j) ?_
    refine g_goto (tgt := 58) dX4_become_82 (by decide) ?_
    exact ih hjn _ (hh.step (fun f hf => by rw [if_pos hf]; exact hR2.2.2 j f hjn hf))
set_option maxHeartbeats 4000000 in
set_option maxRecDepth 100000 in
theorem wp_X4_become {E : Ev} {M : Mem} {Q : QT} (hW : Wi M) {k : Nat} (hk : k < 4) {k2 : Nat} (hk2 : k2 < 4) (hne : k2 ≠ k) {S : Sc} (hR : RepC M k2 S) (hO : OkS S) (h : ∀ M', FrI (Dk k) M M' → RepC M' k S → Q none M') : Mth E 1 0 0 kX4_become [vR (1, k, 0), vR (1, k2, 0)] M Q := by
  refine mth_of (by decide +kernel) [some (vR (1, k, 0)), some (vR (1, k2, 0)), none] (Nat.le_of_ble_eq_true rfl) rfl ?_
  refine g_aloadR_n dX4_become_0 rfl rfl ?_
  refine g_aloadR_n dX4_become_1 rfl rfl ?_
  refine n_getI dX4_become_2 fX4_35 rfl hW (vld_sc hk2) (Or.inl rfl) ?_
  refine n_putI dX4_become_5 fX4_35 rfl hW (vld_sc hk) rfl ?_
  refine g_aloadR_n dX4_become_8 rfl rfl ?_
  refine g_aloadR_n dX4_become_9 rfl rfl ?_
  refine n_getI dX4_become_10 fX4_22 rfl hW (vld_sc hk2) (Or.inl rfl) ?_
  refine n_putI dX4_become_13 fX4_22 rfl hW (vld_sc hk) rfl ?_
  refine g_aloadR_n dX4_become_16 rfl rfl ?_
  refine g_aloadR_n dX4_become_17 rfl rfl ?_
  refine n_getI dX4_become_18 fX4_38 rfl hW (vld_sc hk2) (Or.inl rfl) ?_
  refine n_putI dX4_become_21 fX4_38 rfl hW (vld_sc hk) rfl ?_
  refine g_aloadR_n dX4_become_24 rfl rfl ?_
  refine g_aloadR_n dX4_become_25 rfl rfl ?_
  refine n_getI dX4_become_26 fX4_26 rfl hW (vld_sc hk2) (Or.inl rfl) ?_
  refine n_putI dX4_become_29 fX4_26 rfl hW (vld_sc hk) rfl ?_
  refine g_aloadR_n dX4_become_32 rfl rfl ?_
  refine g_aloadR_n dX4_become_33 rfl rfl ?_
  refine n_getI dX4_become_34 fX4_29 rfl hW (vld_sc hk2) (Or.inl rfl) ?_
  refine n_putI dX4_become_37 fX4_29 rfl hW (vld_sc hk) rfl ?_
  refine g_aloadR_n dX4_become_40 rfl rfl ?_
  refine g_aloadR_n dX4_become_41 rfl rfl ?_
  refine n_getI dX4_become_42 fX4_41 rfl hW (vld_sc hk2) (Or.inl rfl) ?_
  refine n_putI dX4_become_45 fX4_41 rfl hW (vld_sc hk) rfl ?_
  refine g_aloadR_n dX4_become_48 rfl rfl ?_
  refine g_aloadR_n dX4_become_49 rfl rfl ?_
  refine n_getI dX4_become_50 fX4_32 rfl hW (vld_sc hk2) (Or.inl rfl) ?_
  refine n_putI dX4_become_53 fX4_32 rfl hW (vld_sc hk) rfl ?_
  refine g_iconst dX4_become_56 (v := 0) (by decide) ?_
  refine g_istore_2 dX4_become_57 rfl ?_
  have n1 : ((1, k2, 0) : Id) ≠ (1, k, 0) := by intro q; injection q with q1 q2; injection q2 with q3 q4; exact hne q3
  refine lp_X4_become hW hk hk2 hne hR hO h 0 (Nat.zero_le _) _ ⟨⟨?_, ?_, ?_⟩, fun i f hi _ => absurd hi (by omega)⟩
  · simp only [sI_sP, sP_sP]; exact fr_sP fun _ => ⟨Or.inl rfl, rfl⟩
  · simp only [sI_sP, sP_sP, mI_sP, mI_sP_ne n1]; simpa using hR.1
  · intro i a b
    rw [← hR.2.1 i a b]
    simp only [sI_sP, sP_sP, mI_sP, mI_sP_ne n1]
    rcases (by omega : i = 1 ∨ i = 2 ∨ i = 3 ∨ i = 4 ∨ i = 5 ∨ i = 6) with rfl | rfl | rfl | rfl | rfl | rfl <;> simp
def enrS (S : Sc) (kd a ow pd : Int32) : Sc := (S.1 + 1, S.2.1, fun i => if i = S.1 then entF (fun _ => 0) kd a ow pd else S.2.2 i)
set_option maxHeartbeats 4000000 in
set_option maxRecDepth 100000 in
theorem wp_X4_enrol {E : Ev} {M : Mem} {Q : QT} (hW : Wi M) {k : Nat} (hk : k < 4) {S : Sc} (hR : RepC M k S) (hn : S.1 < 10) {kd a ow pd : Int32} (hpd : pd = 0 ∨ pd = 1) (h : ∀ M', FrI (Dk k) M M' → RepC M' k (enrS S kd a ow pd) → Q (some (vI (nI S.1))) M') : Mth E 1 0 0 kX4_enrol [vR (1, k, 0), vI kd, vI a, vI ow, vI pd] M Q := by
  refine mth_of (by decide +kernel) [some (vR (1, k, 0)), some (vI kd), some (vI a), some (vI ow), some (vI pd)] (Nat.le_of_ble_eq_true rfl) rfl ?_
  refine g_aloadR_n dX4_enrol_0 rfl rfl ?_
  refine g_aloadR_n dX4_enrol_1 rfl rfl ?_
  refine n_getI dX4_enrol_2 fX4_35 rfl hW (vld_sc hk) (Or.inl rfl) ?_
  rw [hR.1]
  refine n_v1r (n' := 0) dX4_enrol_5 mX4_one lX4_44 rfl hW (vld_sc hk) rfl rfl ⟨Nat.le_of_ble_eq_true rfl, Nat.le_of_ble_eq_true rfl⟩ ⟨Nat.zero_le _, Nat.zero_le _⟩ (Nat.le_of_ble_eq_true rfl) ?_
  refine wp_X4_oneN (by exact hW) hk hn ?_
  refine ⟨_, rfl, ?_⟩
  refine g_iload_n dX4_enrol_8 rfl rfl ?_
  refine g_iload_n dX4_enrol_9 rfl rfl ?_
  refine g_iload_n dX4_enrol_10 rfl rfl ?_
  refine g_iload dX4_enrol_11 rfl ?_
  refine n_v4v (n' := 0) dX4_enrol_13 mX2_enter lX4_52 rfl hW (vld_pe hk (by omega)) rfl rfl ⟨Nat.le_of_ble_eq_true rfl, Nat.le_of_ble_eq_true rfl⟩ ⟨Nat.zero_le _, Nat.zero_le _⟩ (Nat.le_of_ble_eq_true rfl) ?_
  refine wp_X2_enter (by exact hW) hk (show S.1 < 11 by omega) hpd ?_
  refine ⟨rfl, ?_⟩
  refine g_aloadR_n dX4_enrol_16 rfl rfl ?_
  refine g_dup dX4_enrol_17 rfl ?_
  refine n_getI dX4_enrol_18 fX4_35 rfl hW (vld_sc hk) (Or.inl rfl) ?_
  refine g_iconst dX4_enrol_21 (v := 1) (by decide) ?_
  refine g_iadd dX4_enrol_22 ?_
  refine n_putI dX4_enrol_23 fX4_35 rfl hW (vld_sc hk) rfl ?_
  refine g_aloadR_n dX4_enrol_26 rfl rfl ?_
  refine n_getI dX4_enrol_27 fX4_35 rfl hW (vld_sc hk) (Or.inl rfl) ?_
  refine g_iconst dX4_enrol_30 (v := 1) (by decide) ?_
  refine g_isub dX4_enrol_31 ?_
  refine g_iret dX4_enrol_32 rfl ?_
  have e0 : mI (sP M (2, k, S.1) (entF (mI M (2, k, S.1)) kd a ow pd)) (1, k, 0) = mI M (1, k, 0) := mI_sP_ne (by intro q; cases q)
  have e1 : ∀ x, mI (sI (sP M (2, k, S.1) (entF (mI M (2, k, S.1)) kd a ow pd)) (1, k, 0) 2 x) (1, k, 0) 2 = x := fun x => by simp [mI, sI]
  rw [e1, e0, hR.1, show nI S.1 + 1 - 1 = nI S.1 from by rw [nI_1, nI_pred]]
  refine h _ ((fr_sP fun _ => ⟨Or.inr rfl, rfl⟩).tr (fr_sI ⟨Or.inl rfl, rfl⟩)) ⟨?_, fun j a b => ?_, fun i f hi hf => ?_⟩
  · rw [e1]; exact nI_1 _
  · show _ = S.2.1 j
    rw [← hR.2.1 j a b]; simp only [sI_sP, mI_sP, e0]; rw [if_neg (by omega)]
  · have e2 : ∀ x, mI (sI (sP M (2, k, S.1) (entF (mI M (2, k, S.1)) kd a ow pd)) (1, k, 0) 2 x) (2, k, i) f = mI (sP M (2, k, S.1) (entF (mI M (2, k, S.1)) kd a ow pd)) (2, k, i) f := fun x => by simp [mI, sI]
    rw [e2]
    by_cases his : i = S.1
    · subst his; rw [mI_sP]; simp only [enrS, if_true, entF]
      rcases (by omega : f = 0 ∨ f = 1 ∨ f = 2 ∨ f = 3 ∨ f = 4 ∨ f = 5 ∨ f = 6 ∨ f = 7 ∨ f = 8) with rfl | rfl | rfl | rfl | rfl | rfl | rfl | rfl | rfl <;> simp
    · rw [mI_sP_ne (by intro q; injection q with q1 q2; injection q2 with q3 q4; exact his q4)]
      simp only [enrS]; rw [if_neg his]; exact hR.2.2 i f (by simp only [enrS] at hi; omega) hf
