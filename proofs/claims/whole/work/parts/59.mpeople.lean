/-! THE REFERENCE: PEOPLE -/
theorem RepR.up {M : Mem} {S : Sc} {i f : Nat} {x : Int32} (h : RepR M S) : RepR (sI M (21, f + 1, 0) i x) (upS S i f x) := by
  refine ⟨(congrFun (sI_hk _ (by intro q; cases q)).1 _).trans h.1, fun j a b => (congrFun (sI_hk _ (by intro q; cases q)).1 _).trans (h.2.1 j a b), fun i' f' hi hf => ?_⟩
  simp only [mI, sI, upS]
  by_cases q : i' = i ∧ f' = f
  · rw [if_pos ⟨by rw [q.2], q.1⟩, if_pos q]
  · rw [if_neg (fun z => q ⟨z.2, by have := z.1; injection this with _ z2; injection z2 with z3 _; omega⟩), if_neg q]; exact h.2.2 i' f' hi hf
theorem RepR.gl {M : Mem} {S : Sc} {j : Nat} {x : Int32} (h : RepR M S) (hj : 1 ≤ j) : RepR (sI M (20, 0, 0) j x) (gS S j x) := by
  refine ⟨?_, fun j' a b => ?_, fun i' f' hi hf => (congrFun (sI_hk _ (by intro q; cases q)).1 _).trans (h.2.2 i' f' hi hf)⟩
  · simp only [mI, sI]; rw [if_neg (by intro q; have := q.2; omega)]; exact h.1
  · simp only [mI, sI, gS]
    by_cases q : j' = j
    · rw [if_pos ⟨trivial, q⟩, if_pos q]
    · rw [if_neg (fun z => q z.2), if_neg q]; exact h.2.1 j' a b
theorem frP {M : Mem} {i f : Nat} {x : Int32} (hf : f < 9) : FrI DM M (sI M (21, f + 1, 0) i x) := fr_sI (Or.inr ⟨rfl, Or.inl ⟨by show 1 ≤ f + 1; omega, by show f + 1 ≤ 9; omega⟩⟩)
theorem frG {M : Mem} {f : Nat} {x : Int32} (hf : f < 7) : FrI DM M (sI M (20, 0, 0) f x) := fr_sI (Or.inl ⟨rfl, Or.inl hf⟩)
theorem RepMo.up {M : Mem} {X : Sys} {i f : Nat} {x : Int32} (h : RepMo M X) (hf : f < 9) : RepMo (sI M (21, f + 1, 0) i x) (setS X (upS (xS X) i f x)) := h.sch (frP hf) h.1.up
theorem RepMo.gl {M : Mem} {X : Sys} {j : Nat} {x : Int32} (h : RepMo M X) (hj : 1 ≤ j) (hj7 : j < 7) : RepMo (sI M (20, 0, 0) j x) (setS X (gS (xS X) j x)) := h.sch (frG hj7) (h.1.gl hj)
theorem IN_nn {x : Int32} {n : Nat} : IN x n ↔ ¬ x < 0 ∧ ¬ (n : Int) ≤ x.toInt := by simp only [IN, Int32.lt_iff_toInt_lt, zcs]; omega
set_option maxHeartbeats 4000000 in
set_option maxRecDepth 100000 in
theorem wp_X7_person {E : Ev} {M : Mem} {Q : QT} (hW : Wi M) {X : Sys} (hX : RepMo M X) (hO : OkX X) {kd a ow pd : Int32} (hpd : pd = 0 ∨ pd = 1) (h : ∀ M', FrM M M' → RepMo M' (opPerson X kd a ow pd).2 → Q (some (vI (opPerson X kd a ow pd).1)) M') : Mth E 1 0 0 kX7_person [vR (20, 0, 0), vI kd, vI a, vI ow, vI pd] M Q := by
  have hsz := hX.1.1
  have hs10 : (xS X).1 ≤ 10 := hO.1.1
  refine mth_of (by decide +kernel) [some (vR (20, 0, 0)), some (vI kd), some (vI a), some (vI ow), some (vI pd)] (Nat.le_of_ble_eq_true rfl) rfl ?_
  refine g_iload_n dX7_person_0 rfl rfl ?_
  refine g_if_lt (tgt := 10) dX7_person_1 (by decide) (fun c1 => ?_) (fun c1 => ?_)
  · refine g_aloadR_n dX7_person_10 rfl rfl ?_
    refine g_iconst dX7_person_11 (v := (-1)) (by decide) ?_
    refine n_v1i (n' := 0) dX7_person_12 mX7_no lX7_109 rfl hW vld_x20 rfl rfl ⟨Nat.le_of_ble_eq_true rfl, Nat.le_of_ble_eq_true rfl⟩ ⟨Nat.zero_le _, Nat.zero_le _⟩ (Nat.le_of_ble_eq_true rfl) ?_
    refine wp_X7_no (j := 1) (by exact hW) (by decide) (by decide) ?_
    refine ⟨_, rfl, ?_⟩
    refine g_iret dX7_person_15 rfl ?_
    have e : opPerson X kd a ow pd = rfX X 1 := by
      unfold opPerson
      rw [if_pos (fun q => by obtain ⟨q1, q2⟩ := q; first | (simp only [Int32.lt_iff_toInt_lt, zcs] at c1; omega) | (simp only [Int32.lt_iff_toInt_lt, Int32.le_iff_toInt_le, zcs] at c1 c7; omega))]
    rw [e] at h
    exact h _ (frM_sI (by decide)) (repMo_rfm hX (by decide) (by decide))
  · refine g_iload_n dX7_person_4 rfl rfl ?_
    refine g_bipush dX7_person_5 (v := 6) (by decide) ?_
    refine g_icmp_le (tgt := 16) dX7_person_7 (by decide) (fun c7 => ?_) (fun c7 => ?_)
    · have hk7 : IN kd 7 := by simp only [IN, Int32.lt_iff_toInt_lt, Int32.le_iff_toInt_le, zcs] at c1 c7 ⊢; omega
      refine g_aloadR_n dX7_person_16 rfl rfl ?_
      refine g_iload_n dX7_person_17 rfl rfl ?_
      refine g_iconst dX7_person_18 (v := 0) (by decide) ?_
      refine g_bipush dX7_person_19 (v := 9) (by decide) ?_
      refine n_v3i (n' := 0) dX7_person_21 mX7_isFrom lX7_120 rfl hW vld_x20 rfl rfl ⟨Nat.le_of_ble_eq_true rfl, Nat.le_of_ble_eq_true rfl⟩ ⟨Nat.zero_le _, Nat.zero_le _⟩ (Nat.le_of_ble_eq_true rfl) ?_
      refine wp_X7_isFrom ?_
      refine ⟨_, rfl, ?_⟩
      refine g_if_eq (tgt := 38) dX7_person_24 (by decide) (fun c24 => ?_) (fun c24 => ?_)
      · simp only [b2_0, Decidable.not_not] at c24
        refine g_aloadR_n dX7_person_38 rfl rfl ?_
        refine g_bipush dX7_person_39 (v := (-6)) (by decide) ?_
        refine n_v1i (n' := 0) dX7_person_41 mX7_no lX7_109 rfl hW vld_x20 rfl rfl ⟨Nat.le_of_ble_eq_true rfl, Nat.le_of_ble_eq_true rfl⟩ ⟨Nat.zero_le _, Nat.zero_le _⟩ (Nat.le_of_ble_eq_true rfl) ?_
        refine wp_X7_no (j := 6) (by exact hW) (by decide) (by decide) ?_
        refine ⟨_, rfl, ?_⟩
        refine g_iret dX7_person_44 rfl ?_
        have e : opPerson X kd a ow pd = rfX X 6 := by
          unfold opPerson
          rw [if_neg (not_not_intro hk7)]
          by_cases z1 : a < 0
          · rw [if_pos z1]
          · rw [if_neg z1]
            by_cases z2 : 9 < a
            · rw [if_pos z2]
            · rw [if_neg z2]
              by_cases z3 : ow < 0
              · rw [if_pos z3]
              · rw [if_neg z3, if_pos (fun z4 => ?_)]
                simp only [fromP, Int32.lt_iff_toInt_lt, Int32.le_iff_toInt_le, zcs] at *
                omega
        rw [e] at h
        exact h _ (frM_sI (by decide)) (repMo_rfm hX (by decide) (by decide))
      · simp only [b2_0, Decidable.not_not] at c24
        refine g_aloadR_n dX7_person_27 rfl rfl ?_
        refine g_iload_n dX7_person_28 rfl rfl ?_
        refine g_iconst dX7_person_29 (v := 0) (by decide) ?_
        refine g_bipush dX7_person_30 (v := 20) (by decide) ?_
        refine n_v3i (n' := 0) dX7_person_32 mX7_isFrom lX7_120 rfl hW vld_x20 rfl rfl ⟨Nat.le_of_ble_eq_true rfl, Nat.le_of_ble_eq_true rfl⟩ ⟨Nat.zero_le _, Nat.zero_le _⟩ (Nat.le_of_ble_eq_true rfl) ?_
        refine wp_X7_isFrom ?_
        refine ⟨_, rfl, ?_⟩
        refine g_if_ne (tgt := 45) dX7_person_35 (by decide) (fun c35 => ?_) (fun c35 => ?_)
        · simp only [b2_0, Decidable.not_not] at c35
          refine g_aloadR_n dX7_person_45 rfl rfl ?_
          refine n_getI dX7_person_46 fX7_102 rfl hW vld_x20 (Or.inl rfl) ?_
          refine g_bipush dX7_person_49 (v := 10) (by decide) ?_
          refine g_icmp_ne (tgt := 63) dX7_person_51 (by decide) (fun c51 => ?_) (fun c51 => ?_)
          · rw [hsz] at c51
            have hne : ¬ (xS X).1 = 10 := fun q => c51 (by rw [q]; rfl)
            refine g_aloadR_n dX7_person_63 rfl rfl ?_
            refine g_iload_n dX7_person_64 rfl rfl ?_
            refine g_iload_n dX7_person_65 rfl rfl ?_
            refine g_iload_n dX7_person_66 rfl rfl ?_
            refine g_iload dX7_person_67 rfl ?_
            refine g_if_eq (tgt := 76) dX7_person_69 (by decide) (fun c69 => ?_) (fun c69 => ?_)
            · refine g_iconst dX7_person_76 (v := 0) (by decide) ?_
              refine n_v4i (n' := 0) dX7_person_77 mX7_adds lX7_124 rfl hW vld_x20 rfl rfl ⟨Nat.le_of_ble_eq_true rfl, Nat.le_of_ble_eq_true rfl⟩ ⟨Nat.zero_le _, Nat.zero_le _⟩ (Nat.le_of_ble_eq_true rfl) ?_
              refine wp_X7_adds (by exact hW) hX.1 hO.1 (show (xS X).1 < 10 by omega) ?_
              refine ⟨_, rfl, ?_⟩
              refine g_iret dX7_person_80 rfl ?_
              have hp : pd = 0 := by exact c69
              have e : opPerson X kd a ow pd = (nI (xS X).1, setS X (enrS (xS X) kd a ow 0)) := by
                unfold opPerson
                rw [if_neg (not_not_intro hk7), if_neg (fun z => by simp only [fromP, Int32.lt_iff_toInt_lt, zcs] at *; omega), if_neg (fun z => by simp only [fromP, Int32.lt_iff_toInt_lt, zcs] at *; omega), if_neg (fun z => by simp only [fromP, Int32.lt_iff_toInt_lt, zcs] at *; omega), if_neg (fun z => z (by simp only [fromP, Int32.le_iff_toInt_le, zcs] at *; omega)), if_neg hne, hp]
              rw [e] at h
              exact h _ (frM_DM (adM_fr.mono DS_DM)) (hX.sch (adM_fr.mono DS_DM) hX.1.add)
            · refine g_iconst dX7_person_72 (v := 1) (by decide) ?_
              refine g_goto (tgt := 77) dX7_person_73 (by decide) ?_
              refine n_v4i (n' := 0) dX7_person_77 mX7_adds lX7_124 rfl hW vld_x20 rfl rfl ⟨Nat.le_of_ble_eq_true rfl, Nat.le_of_ble_eq_true rfl⟩ ⟨Nat.zero_le _, Nat.zero_le _⟩ (Nat.le_of_ble_eq_true rfl) ?_
              refine wp_X7_adds (by exact hW) hX.1 hO.1 (show (xS X).1 < 10 by omega) ?_
              refine ⟨_, rfl, ?_⟩
              refine g_iret dX7_person_80 rfl ?_
              have hp : pd = 1 := by exact hpd.resolve_left c69
              have e : opPerson X kd a ow pd = (nI (xS X).1, setS X (enrS (xS X) kd a ow 1)) := by
                unfold opPerson
                rw [if_neg (not_not_intro hk7), if_neg (fun z => by simp only [fromP, Int32.lt_iff_toInt_lt, zcs] at *; omega), if_neg (fun z => by simp only [fromP, Int32.lt_iff_toInt_lt, zcs] at *; omega), if_neg (fun z => by simp only [fromP, Int32.lt_iff_toInt_lt, zcs] at *; omega), if_neg (fun z => z (by simp only [fromP, Int32.le_iff_toInt_le, zcs] at *; omega)), if_neg hne, hp]
              rw [e] at h
              exact h _ (frM_DM (adM_fr.mono DS_DM)) (hX.sch (adM_fr.mono DS_DM) hX.1.add)
          · rw [hsz] at c51
            refine g_aloadR_n dX7_person_54 rfl rfl ?_
            refine g_bipush dX7_person_55 (v := (-7)) (by decide) ?_
            refine n_v1i (n' := 0) dX7_person_57 mX7_no lX7_109 rfl hW vld_x20 rfl rfl ⟨Nat.le_of_ble_eq_true rfl, Nat.le_of_ble_eq_true rfl⟩ ⟨Nat.zero_le _, Nat.zero_le _⟩ (Nat.le_of_ble_eq_true rfl) ?_
            refine wp_X7_no (j := 7) (by exact hW) (by decide) (by decide) ?_
            refine ⟨_, rfl, ?_⟩
            refine g_goto (tgt := 80) dX7_person_60 (by decide) ?_
            refine g_iret dX7_person_80 rfl ?_
            have c51 : (xS X).1 = 10 := by
              have c51 : nI (xS X).1 = nI 10 := by first | exact c51 | exact Decidable.not_not.mp c51
              exact (nI_eq (by omega) (by omega)).mp c51
            have e : opPerson X kd a ow pd = rfX X 7 := by
              unfold opPerson
              rw [if_neg (not_not_intro hk7), if_neg (fun z => by simp only [fromP, Int32.lt_iff_toInt_lt, zcs] at *; omega), if_neg (fun z => by simp only [fromP, Int32.lt_iff_toInt_lt, zcs] at *; omega), if_neg (fun z => by simp only [fromP, Int32.lt_iff_toInt_lt, zcs] at *; omega), if_neg (fun z => z (by simp only [fromP, Int32.le_iff_toInt_le, zcs] at *; omega)), if_pos c51]
            rw [e] at h
            exact h _ (frM_sI (by decide)) (repMo_rfm hX (by decide) (by decide))
        · simp only [b2_0, Decidable.not_not] at c35
          refine g_aloadR_n dX7_person_38 rfl rfl ?_
          refine g_bipush dX7_person_39 (v := (-6)) (by decide) ?_
          refine n_v1i (n' := 0) dX7_person_41 mX7_no lX7_109 rfl hW vld_x20 rfl rfl ⟨Nat.le_of_ble_eq_true rfl, Nat.le_of_ble_eq_true rfl⟩ ⟨Nat.zero_le _, Nat.zero_le _⟩ (Nat.le_of_ble_eq_true rfl) ?_
          refine wp_X7_no (j := 6) (by exact hW) (by decide) (by decide) ?_
          refine ⟨_, rfl, ?_⟩
          refine g_iret dX7_person_44 rfl ?_
          have e : opPerson X kd a ow pd = rfX X 6 := by
            unfold opPerson
            rw [if_neg (not_not_intro hk7)]
            by_cases z1 : a < 0
            · rw [if_pos z1]
            · rw [if_neg z1]
              by_cases z2 : 9 < a
              · rw [if_pos z2]
              · rw [if_neg z2]
                by_cases z3 : ow < 0
                · rw [if_pos z3]
                · rw [if_neg z3, if_pos (fun z4 => ?_)]
                  simp only [fromP, Int32.lt_iff_toInt_lt, Int32.le_iff_toInt_le, zcs] at *
                  omega
          rw [e] at h
          exact h _ (frM_sI (by decide)) (repMo_rfm hX (by decide) (by decide))
    · refine g_aloadR_n dX7_person_10 rfl rfl ?_
      refine g_iconst dX7_person_11 (v := (-1)) (by decide) ?_
      refine n_v1i (n' := 0) dX7_person_12 mX7_no lX7_109 rfl hW vld_x20 rfl rfl ⟨Nat.le_of_ble_eq_true rfl, Nat.le_of_ble_eq_true rfl⟩ ⟨Nat.zero_le _, Nat.zero_le _⟩ (Nat.le_of_ble_eq_true rfl) ?_
      refine wp_X7_no (j := 1) (by exact hW) (by decide) (by decide) ?_
      refine ⟨_, rfl, ?_⟩
      refine g_iret dX7_person_15 rfl ?_
      have e : opPerson X kd a ow pd = rfX X 1 := by
        unfold opPerson
        rw [if_pos (fun q => by obtain ⟨q1, q2⟩ := q; first | (simp only [Int32.lt_iff_toInt_lt, zcs] at c1; omega) | (simp only [Int32.lt_iff_toInt_lt, Int32.le_iff_toInt_le, zcs] at c1 c7; omega))]
      rw [e] at h
      exact h _ (frM_sI (by decide)) (repMo_rfm hX (by decide) (by decide))
set_option maxHeartbeats 4000000 in
set_option maxRecDepth 100000 in
theorem wp_X7_friend {E : Ev} {M : Mem} {Q : QT} (hW : Wi M) {X : Sys} (hX : RepMo M X) (hO : OkX X) {x y : Int32} (h : ∀ M', FrM M M' → RepMo M' (opFriend X x y).2 → Q (some (vI (opFriend X x y).1)) M') : Mth E 1 0 0 kX7_friend [vR (20, 0, 0), vI x, vI y] M Q := by
  have hsz := hX.1.1
  have hs10 : (xS X).1 ≤ 10 := hO.1.1
  refine mth_of (by decide +kernel) [some (vR (20, 0, 0)), some (vI x), some (vI y), none] (Nat.le_of_ble_eq_true rfl) rfl ?_
  refine g_aloadR_n dX7_friend_0 rfl rfl ?_
  refine g_iload_n dX7_friend_1 rfl rfl ?_
  refine n_v1i (n' := 0) dX7_friend_2 mX7_isOne lX7_113 rfl hW vld_x20 rfl rfl ⟨Nat.le_of_ble_eq_true rfl, Nat.le_of_ble_eq_true rfl⟩ ⟨Nat.zero_le _, Nat.zero_le _⟩ (Nat.le_of_ble_eq_true rfl) ?_
  refine wp_X7_isOne (by exact hW) hsz hs10 ?_
  refine ⟨_, rfl, ?_⟩
  refine g_if_eq (tgt := 21) dX7_friend_5 (by decide) (fun c5 => ?_) (fun c5 => ?_)
  · simp only [b2_0, Decidable.not_not] at c5
    refine g_aloadR_n dX7_friend_21 rfl rfl ?_
    refine g_iconst dX7_friend_22 (v := (-1)) (by decide) ?_
    refine n_v1i (n' := 0) dX7_friend_23 mX7_noTen lX7_128 rfl hW vld_x20 rfl rfl ⟨Nat.le_of_ble_eq_true rfl, Nat.le_of_ble_eq_true rfl⟩ ⟨Nat.zero_le _, Nat.zero_le _⟩ (Nat.le_of_ble_eq_true rfl) ?_
    refine wp_X7_noTen (j := 1) (by exact hW) (by decide) (by decide) ?_
    refine ⟨_, rfl, ?_⟩
    refine g_iret dX7_friend_26 rfl ?_
    have e : opFriend X x y = ((rfX X 1).1 - 10, (rfX X 1).2) := by
      unfold opFriend
      rw [if_pos c5]
    rw [e] at h
    exact h _ (frM_sI (by decide)) (repMo_rfm hX (by decide) (by decide))
  · simp only [b2_0, Decidable.not_not] at c5
    obtain ⟨hx1, hx2⟩ := IN_nI c5
    have hx3 : x.toNatClampNeg < 10 := by omega
    refine g_iload_n dX7_friend_8 rfl rfl ?_
    refine g_iconst dX7_friend_9 (v := (-1)) (by decide) ?_
    refine g_icmp_eq (tgt := 27) dX7_friend_10 (by decide) (fun c10 => ?_) (fun c10 => ?_)
    · refine g_iload_n dX7_friend_27 rfl rfl ?_
      refine g_iload_n dX7_friend_28 rfl rfl ?_
      refine g_icmp_ne (tgt := 39) dX7_friend_29 (by decide) (fun c29 => ?_) (fun c29 => ?_)
      · refine g_aloadR_n dX7_friend_39 rfl rfl ?_
        refine n_getR dX7_friend_40 fX7_41 rfl hW vld_x20 rfl rfl ?_
        refine g_iload_n dX7_friend_43 rfl rfl ?_
        refine n_iald (j := x.toNatClampNeg) dX7_friend_44 rfl hW (vld_ma (by decide : 5 < 25)) (by decide) hx1 hx3 ?_
        rw [show mI M (21, 5, 0) x.toNatClampNeg = mateI X x from hX.1.2.2 _ 4 hx2 (by decide)]
        refine g_istore_3 dX7_friend_45 rfl ?_
        refine g_aloadR_n dX7_friend_46 rfl rfl ?_
        refine n_getR dX7_friend_47 fX7_41 rfl hW vld_x20 rfl rfl ?_
        refine g_iload_n dX7_friend_50 rfl rfl ?_
        refine g_iload_n dX7_friend_51 rfl rfl ?_
        refine n_iast (j := x.toNatClampNeg) dX7_friend_52 rfl hW (vld_ma (by decide : 5 < 25)) (by decide) hx1 hx3 ?_
        refine g_iload_n dX7_friend_53 rfl rfl ?_
        refine g_iret dX7_friend_54 rfl ?_
        have e : opFriend X x y = (mateI X x, setS X (upS (xS X) x.toNatClampNeg 4 y)) := by
          unfold opFriend
          rw [if_neg (not_not_intro c5), if_neg (not_not_intro (by first | exact Or.inl c10 | exact Or.inr c18)), if_neg c29]
        rw [e] at h
        exact h _ (frM_DM (frP (by decide))) (hX.up (by decide))
      · refine g_aloadR_n dX7_friend_32 rfl rfl ?_
        refine g_bipush dX7_friend_33 (v := (-6)) (by decide) ?_
        refine n_v1i (n' := 0) dX7_friend_35 mX7_noTen lX7_128 rfl hW vld_x20 rfl rfl ⟨Nat.le_of_ble_eq_true rfl, Nat.le_of_ble_eq_true rfl⟩ ⟨Nat.zero_le _, Nat.zero_le _⟩ (Nat.le_of_ble_eq_true rfl) ?_
        refine wp_X7_noTen (j := 6) (by exact hW) (by decide) (by decide) ?_
        refine ⟨_, rfl, ?_⟩
        refine g_iret dX7_friend_38 rfl ?_
        have c29 : x = y := by first | exact c29 | exact Decidable.not_not.mp c29
        have e : opFriend X x y = ((rfX X 6).1 - 10, (rfX X 6).2) := by
          unfold opFriend
          rw [if_neg (not_not_intro c5), if_neg (not_not_intro (by first | exact Or.inl c10 | exact Or.inr c18)), if_pos c29]
        rw [e] at h
        exact h _ (frM_sI (by decide)) (repMo_rfm hX (by decide) (by decide))
    · refine g_aloadR_n dX7_friend_13 rfl rfl ?_
      refine g_iload_n dX7_friend_14 rfl rfl ?_
      refine n_v1i (n' := 0) dX7_friend_15 mX7_isOne lX7_113 rfl hW vld_x20 rfl rfl ⟨Nat.le_of_ble_eq_true rfl, Nat.le_of_ble_eq_true rfl⟩ ⟨Nat.zero_le _, Nat.zero_le _⟩ (Nat.le_of_ble_eq_true rfl) ?_
      refine wp_X7_isOne (by exact hW) hsz hs10 ?_
      refine ⟨_, rfl, ?_⟩
      refine g_if_ne (tgt := 27) dX7_friend_18 (by decide) (fun c18 => ?_) (fun c18 => ?_)
      · simp only [b2_0, Decidable.not_not] at c18
        refine g_iload_n dX7_friend_27 rfl rfl ?_
        refine g_iload_n dX7_friend_28 rfl rfl ?_
        refine g_icmp_ne (tgt := 39) dX7_friend_29 (by decide) (fun c29 => ?_) (fun c29 => ?_)
        · refine g_aloadR_n dX7_friend_39 rfl rfl ?_
          refine n_getR dX7_friend_40 fX7_41 rfl hW vld_x20 rfl rfl ?_
          refine g_iload_n dX7_friend_43 rfl rfl ?_
          refine n_iald (j := x.toNatClampNeg) dX7_friend_44 rfl hW (vld_ma (by decide : 5 < 25)) (by decide) hx1 hx3 ?_
          rw [show mI M (21, 5, 0) x.toNatClampNeg = mateI X x from hX.1.2.2 _ 4 hx2 (by decide)]
          refine g_istore_3 dX7_friend_45 rfl ?_
          refine g_aloadR_n dX7_friend_46 rfl rfl ?_
          refine n_getR dX7_friend_47 fX7_41 rfl hW vld_x20 rfl rfl ?_
          refine g_iload_n dX7_friend_50 rfl rfl ?_
          refine g_iload_n dX7_friend_51 rfl rfl ?_
          refine n_iast (j := x.toNatClampNeg) dX7_friend_52 rfl hW (vld_ma (by decide : 5 < 25)) (by decide) hx1 hx3 ?_
          refine g_iload_n dX7_friend_53 rfl rfl ?_
          refine g_iret dX7_friend_54 rfl ?_
          have e : opFriend X x y = (mateI X x, setS X (upS (xS X) x.toNatClampNeg 4 y)) := by
            unfold opFriend
            rw [if_neg (not_not_intro c5), if_neg (not_not_intro (by first | exact Or.inl c10 | exact Or.inr c18)), if_neg c29]
          rw [e] at h
          exact h _ (frM_DM (frP (by decide))) (hX.up (by decide))
        · refine g_aloadR_n dX7_friend_32 rfl rfl ?_
          refine g_bipush dX7_friend_33 (v := (-6)) (by decide) ?_
          refine n_v1i (n' := 0) dX7_friend_35 mX7_noTen lX7_128 rfl hW vld_x20 rfl rfl ⟨Nat.le_of_ble_eq_true rfl, Nat.le_of_ble_eq_true rfl⟩ ⟨Nat.zero_le _, Nat.zero_le _⟩ (Nat.le_of_ble_eq_true rfl) ?_
          refine wp_X7_noTen (j := 6) (by exact hW) (by decide) (by decide) ?_
          refine ⟨_, rfl, ?_⟩
          refine g_iret dX7_friend_38 rfl ?_
          have c29 : x = y := by first | exact c29 | exact Decidable.not_not.mp c29
          have e : opFriend X x y = ((rfX X 6).1 - 10, (rfX X 6).2) := by
            unfold opFriend
            rw [if_neg (not_not_intro c5), if_neg (not_not_intro (by first | exact Or.inl c10 | exact Or.inr c18)), if_pos c29]
          rw [e] at h
          exact h _ (frM_sI (by decide)) (repMo_rfm hX (by decide) (by decide))
      · simp only [b2_0, Decidable.not_not] at c18
        refine g_aloadR_n dX7_friend_21 rfl rfl ?_
        refine g_iconst dX7_friend_22 (v := (-1)) (by decide) ?_
        refine n_v1i (n' := 0) dX7_friend_23 mX7_noTen lX7_128 rfl hW vld_x20 rfl rfl ⟨Nat.le_of_ble_eq_true rfl, Nat.le_of_ble_eq_true rfl⟩ ⟨Nat.zero_le _, Nat.zero_le _⟩ (Nat.le_of_ble_eq_true rfl) ?_
        refine wp_X7_noTen (j := 1) (by exact hW) (by decide) (by decide) ?_
        refine ⟨_, rfl, ?_⟩
        refine g_iret dX7_friend_26 rfl ?_
        have e : opFriend X x y = ((rfX X 1).1 - 10, (rfX X 1).2) := by
          unfold opFriend
          rw [if_neg (not_not_intro c5), if_pos (fun q => q.elim c10 c18)]
        rw [e] at h
        exact h _ (frM_sI (by decide)) (repMo_rfm hX (by decide) (by decide))
set_option maxHeartbeats 4000000 in
set_option maxRecDepth 100000 in
theorem lp_X7_ask {E : Ev} {M : Mem} {Q : QT} (hW : Wi M) {w : Nat} (hw : w < 4) {v : Int32} {a3 : Option AV} (h : Q (some (vI (mI M (20, 0, 0) (w + 1)))) (sI M (20, 0, 0) (w + 1) v)) : G E (rm 2 0 0) kX7_ask (ZQ E Q 0 0) 0 0 25 [some (vR (20, 0, 0)), some (vI (nI w)), some (vI v), a3] [] M := by
  have hwc : w = 0 ∨ w = 1 ∨ w = 2 ∨ w = 3 := by omega
  refine g_iload_n dX7_ask_25 rfl rfl ?_
  refine g_if_ne (tgt := 36) dX7_ask_26 (by decide) (fun c26 => ?_) (fun c26 => ?_)
  · refine g_iload_n dX7_ask_36 rfl rfl ?_
    refine g_iconst dX7_ask_37 (v := 1) (by decide) ?_
    refine g_icmp_ne (tgt := 48) dX7_ask_38 (by decide) (fun c38 => ?_) (fun c38 => ?_)
    · refine g_iload_n dX7_ask_48 rfl rfl ?_
      refine g_iconst dX7_ask_49 (v := 2) (by decide) ?_
      refine g_icmp_ne (tgt := 60) dX7_ask_50 (by decide) (fun c50 => ?_) (fun c50 => ?_)
      · refine g_aloadR_n dX7_ask_60 rfl rfl ?_
        refine n_getI dX7_ask_61 fX7_16 rfl hW vld_x20 (Or.inl rfl) ?_
        refine g_istore_3 dX7_ask_64 rfl ?_
        refine g_aloadR_n dX7_ask_65 rfl rfl ?_
        refine g_iload_n dX7_ask_66 rfl rfl ?_
        refine g_iload_n dX7_ask_67 rfl rfl ?_
        refine n_v2v (n' := 0) dX7_ask_68 mX7_asks lX7_137 rfl hW vld_x20 rfl rfl ⟨Nat.le_of_ble_eq_true rfl, Nat.le_of_ble_eq_true rfl⟩ ⟨Nat.zero_le _, Nat.zero_le _⟩ (Nat.le_of_ble_eq_true rfl) ?_
        refine wp_X7_asks (by exact hW) hw ?_
        refine ⟨rfl, ?_⟩
        refine g_iload_n dX7_ask_71 rfl rfl ?_
        refine g_iret dX7_ask_72 rfl ?_
        first
          | (obtain rfl : w = 0 := by
               rcases hwc with rfl | rfl | rfl | rfl
               all_goals first | rfl | (exfalso; revert c26 c38 c50; decide)
             exact h)
          | (obtain rfl : w = 1 := by
               rcases hwc with rfl | rfl | rfl | rfl
               all_goals first | rfl | (exfalso; revert c26 c38 c50; decide)
             exact h)
          | (obtain rfl : w = 2 := by
               rcases hwc with rfl | rfl | rfl | rfl
               all_goals first | rfl | (exfalso; revert c26 c38 c50; decide)
             exact h)
          | (obtain rfl : w = 3 := by
               rcases hwc with rfl | rfl | rfl | rfl
               all_goals first | rfl | (exfalso; revert c26 c38 c50; decide)
             exact h)
      · refine g_aloadR_n dX7_ask_53 rfl rfl ?_
        refine n_getI dX7_ask_54 fX7_13 rfl hW vld_x20 (Or.inl rfl) ?_
        refine g_goto (tgt := 64) dX7_ask_57 (by decide) ?_
        refine g_istore_3 dX7_ask_64 rfl ?_
        refine g_aloadR_n dX7_ask_65 rfl rfl ?_
        refine g_iload_n dX7_ask_66 rfl rfl ?_
        refine g_iload_n dX7_ask_67 rfl rfl ?_
        refine n_v2v (n' := 0) dX7_ask_68 mX7_asks lX7_137 rfl hW vld_x20 rfl rfl ⟨Nat.le_of_ble_eq_true rfl, Nat.le_of_ble_eq_true rfl⟩ ⟨Nat.zero_le _, Nat.zero_le _⟩ (Nat.le_of_ble_eq_true rfl) ?_
        refine wp_X7_asks (by exact hW) hw ?_
        refine ⟨rfl, ?_⟩
        refine g_iload_n dX7_ask_71 rfl rfl ?_
        refine g_iret dX7_ask_72 rfl ?_
        first
          | (obtain rfl : w = 0 := by
               rcases hwc with rfl | rfl | rfl | rfl
               all_goals first | rfl | (exfalso; revert c26 c38 c50; decide)
             exact h)
          | (obtain rfl : w = 1 := by
               rcases hwc with rfl | rfl | rfl | rfl
               all_goals first | rfl | (exfalso; revert c26 c38 c50; decide)
             exact h)
          | (obtain rfl : w = 2 := by
               rcases hwc with rfl | rfl | rfl | rfl
               all_goals first | rfl | (exfalso; revert c26 c38 c50; decide)
             exact h)
          | (obtain rfl : w = 3 := by
               rcases hwc with rfl | rfl | rfl | rfl
               all_goals first | rfl | (exfalso; revert c26 c38 c50; decide)
             exact h)
    · refine g_aloadR_n dX7_ask_41 rfl rfl ?_
      refine n_getI dX7_ask_42 fX7_131 rfl hW vld_x20 (Or.inl rfl) ?_
      refine g_goto (tgt := 64) dX7_ask_45 (by decide) ?_
      refine g_istore_3 dX7_ask_64 rfl ?_
      refine g_aloadR_n dX7_ask_65 rfl rfl ?_
      refine g_iload_n dX7_ask_66 rfl rfl ?_
      refine g_iload_n dX7_ask_67 rfl rfl ?_
      refine n_v2v (n' := 0) dX7_ask_68 mX7_asks lX7_137 rfl hW vld_x20 rfl rfl ⟨Nat.le_of_ble_eq_true rfl, Nat.le_of_ble_eq_true rfl⟩ ⟨Nat.zero_le _, Nat.zero_le _⟩ (Nat.le_of_ble_eq_true rfl) ?_
      refine wp_X7_asks (by exact hW) hw ?_
      refine ⟨rfl, ?_⟩
      refine g_iload_n dX7_ask_71 rfl rfl ?_
      refine g_iret dX7_ask_72 rfl ?_
      first
        | (obtain rfl : w = 0 := by
             rcases hwc with rfl | rfl | rfl | rfl
             all_goals first | rfl | (exfalso; revert c26 c38; decide)
           exact h)
        | (obtain rfl : w = 1 := by
             rcases hwc with rfl | rfl | rfl | rfl
             all_goals first | rfl | (exfalso; revert c26 c38; decide)
           exact h)
        | (obtain rfl : w = 2 := by
             rcases hwc with rfl | rfl | rfl | rfl
             all_goals first | rfl | (exfalso; revert c26 c38; decide)
           exact h)
        | (obtain rfl : w = 3 := by
             rcases hwc with rfl | rfl | rfl | rfl
             all_goals first | rfl | (exfalso; revert c26 c38; decide)
           exact h)
  · refine g_aloadR_n dX7_ask_29 rfl rfl ?_
    refine n_getI dX7_ask_30 fX7_7 rfl hW vld_x20 (Or.inl rfl) ?_
    refine g_goto (tgt := 64) dX7_ask_33 (by decide) ?_
    refine g_istore_3 dX7_ask_64 rfl ?_
    refine g_aloadR_n dX7_ask_65 rfl rfl ?_
    refine g_iload_n dX7_ask_66 rfl rfl ?_
    refine g_iload_n dX7_ask_67 rfl rfl ?_
    refine n_v2v (n' := 0) dX7_ask_68 mX7_asks lX7_137 rfl hW vld_x20 rfl rfl ⟨Nat.le_of_ble_eq_true rfl, Nat.le_of_ble_eq_true rfl⟩ ⟨Nat.zero_le _, Nat.zero_le _⟩ (Nat.le_of_ble_eq_true rfl) ?_
    refine wp_X7_asks (by exact hW) hw ?_
    refine ⟨rfl, ?_⟩
    refine g_iload_n dX7_ask_71 rfl rfl ?_
    refine g_iret dX7_ask_72 rfl ?_
    first
      | (obtain rfl : w = 0 := by
           rcases hwc with rfl | rfl | rfl | rfl
           all_goals first | rfl | (exfalso; revert c26; decide)
         exact h)
      | (obtain rfl : w = 1 := by
           rcases hwc with rfl | rfl | rfl | rfl
           all_goals first | rfl | (exfalso; revert c26; decide)
         exact h)
      | (obtain rfl : w = 2 := by
           rcases hwc with rfl | rfl | rfl | rfl
           all_goals first | rfl | (exfalso; revert c26; decide)
         exact h)
      | (obtain rfl : w = 3 := by
           rcases hwc with rfl | rfl | rfl | rfl
           all_goals first | rfl | (exfalso; revert c26; decide)
         exact h)
set_option maxHeartbeats 4000000 in
set_option maxRecDepth 100000 in
theorem wp_X7_ask {E : Ev} {M : Mem} {Q : QT} (hW : Wi M) {X : Sys} (hX : RepMo M X) (hO : OkX X) {w v : Int32} (h : ∀ M', FrM M M' → RepMo M' (opAsk X w v).2 → Q (some (vI (opAsk X w v).1)) M') : Mth E 2 0 0 kX7_ask [vR (20, 0, 0), vI w, vI v] M Q := by
  have hsz := hX.1.1
  have hs10 : (xS X).1 ≤ 10 := hO.1.1
  refine mth_of (by decide +kernel) [some (vR (20, 0, 0)), some (vI w), some (vI v), none] (Nat.le_of_ble_eq_true rfl) rfl ?_
  refine g_iload_n dX7_ask_0 rfl rfl ?_
  refine g_if_lt (tgt := 18) dX7_ask_1 (by decide) (fun c1 => ?_) (fun c1 => ?_)
  · refine g_aloadR_n dX7_ask_18 rfl rfl ?_
    refine g_bipush dX7_ask_19 (v := (-6)) (by decide) ?_
    refine n_v1i (n' := 0) dX7_ask_21 mX7_no lX7_109 rfl hW vld_x20 rfl rfl ⟨Nat.le_of_ble_eq_true rfl, Nat.le_of_ble_eq_true rfl⟩ ⟨Nat.zero_le _, Nat.zero_le _⟩ (Nat.le_of_ble_eq_true rfl) ?_
    refine wp_X7_no (j := 6) (by exact hW) (by decide) (by decide) ?_
    refine ⟨_, rfl, ?_⟩
    refine g_iret dX7_ask_24 rfl ?_
    have e : opAsk X w v = rfX X 6 := by
      unfold opAsk
      rw [if_pos c1]
    rw [e] at h
    exact h _ (frM_sI (by decide)) (repMo_rfm hX (by decide) (by decide))
  · refine g_iload_n dX7_ask_4 rfl rfl ?_
    refine g_iconst dX7_ask_5 (v := 3) (by decide) ?_
    refine g_icmp_gt (tgt := 18) dX7_ask_6 (by decide) (fun c6 => ?_) (fun c6 => ?_)
    · refine g_aloadR_n dX7_ask_18 rfl rfl ?_
      refine g_bipush dX7_ask_19 (v := (-6)) (by decide) ?_
      refine n_v1i (n' := 0) dX7_ask_21 mX7_no lX7_109 rfl hW vld_x20 rfl rfl ⟨Nat.le_of_ble_eq_true rfl, Nat.le_of_ble_eq_true rfl⟩ ⟨Nat.zero_le _, Nat.zero_le _⟩ (Nat.le_of_ble_eq_true rfl) ?_
      refine wp_X7_no (j := 6) (by exact hW) (by decide) (by decide) ?_
      refine ⟨_, rfl, ?_⟩
      refine g_iret dX7_ask_24 rfl ?_
      have e : opAsk X w v = rfX X 6 := by
        unfold opAsk
        rw [if_neg c1, if_pos c6]
      rw [e] at h
      exact h _ (frM_sI (by decide)) (repMo_rfm hX (by decide) (by decide))
    · have hw4 : IN w 4 := by simp only [IN, Int32.lt_iff_toInt_lt, zcs] at c1 c6 ⊢; omega
      obtain ⟨k, hke, hk⟩ : ∃ k, w = nI k ∧ k < 4 := ⟨_, (IN_nI hw4).1, (IN_nI hw4).2⟩
      subst hke
      refine g_aloadR_n dX7_ask_9 rfl rfl ?_
      refine g_iload_n dX7_ask_10 rfl rfl ?_
      refine g_iload_n dX7_ask_11 rfl rfl ?_
      refine n_v2i (n' := 1) dX7_ask_12 mX7_isAsked lX7_134 rfl hW vld_x20 rfl rfl ⟨Nat.le_of_ble_eq_true rfl, Nat.le_of_ble_eq_true rfl⟩ ⟨Nat.zero_le _, Nat.zero_le _⟩ (Nat.le_of_ble_eq_true rfl) ?_
      refine wp_X7_isAsked (by exact hW) hk ?_
      refine ⟨_, rfl, ?_⟩
      refine g_if_ne (tgt := 25) dX7_ask_15 (by decide) (fun c15 => ?_) (fun c15 => ?_)
      · simp only [b2_0, Decidable.not_not] at c15
        have e : opAsk X (nI k) v = ((xS X).2.1 (k + 1), setS X (gS (xS X) (k + 1) v)) := by
          unfold opAsk
          rw [if_neg c1, if_neg c6, if_neg (fun z => by simp only [fromP, Int32.lt_iff_toInt_lt] at *; omega), if_neg (fun z => z (by simp only [fromP, Int32.le_iff_toInt_le] at *; omega)), nI_clamp (by omega)]
        rw [e] at h
        refine lp_X7_ask hW hk ?_
        rw [show mI M (20, 0, 0) (k + 1) = (xS X).2.1 (k + 1) from hX.1.2.1 _ (by omega) (by omega)]
        exact h _ (frM_DM (frG (by omega))) (hX.gl (by omega) (by omega))
      · simp only [b2_0, Decidable.not_not] at c15
        refine g_aloadR_n dX7_ask_18 rfl rfl ?_
        refine g_bipush dX7_ask_19 (v := (-6)) (by decide) ?_
        refine n_v1i (n' := 0) dX7_ask_21 mX7_no lX7_109 rfl hW vld_x20 rfl rfl ⟨Nat.le_of_ble_eq_true rfl, Nat.le_of_ble_eq_true rfl⟩ ⟨Nat.zero_le _, Nat.zero_le _⟩ (Nat.le_of_ble_eq_true rfl) ?_
        refine wp_X7_no (j := 6) (by exact hW) (by decide) (by decide) ?_
        refine ⟨_, rfl, ?_⟩
        refine g_iret dX7_ask_24 rfl ?_
        have e : opAsk X (nI k) v = rfX X 6 := by
          unfold opAsk
          rw [if_neg c1, if_neg c6]
          by_cases z1 : v < lo_ (nI k)
          · rw [if_pos z1]
          · rw [if_neg z1, if_pos (fun z4 => c15 ?_)]
            simp only [fromP, Int32.lt_iff_toInt_lt, Int32.le_iff_toInt_le] at *
            omega
        rw [e] at h
        exact h _ (frM_sI (by decide)) (repMo_rfm hX (by decide) (by decide))
set_option maxHeartbeats 4000000 in
set_option maxRecDepth 100000 in
theorem wp_X7_go {E : Ev} {M : Mem} {Q : QT} (hW : Wi M) {X : Sys} (hX : RepMo M X) (hO : OkX X) {x is_ : Int32} (his : is_ = 0 ∨ is_ = 1) (h : ∀ M', FrM M M' → RepMo M' (opGo X x is_).2 → Q (some (vI (opGo X x is_).1)) M') : Mth E 1 0 0 kX7_go [vR (20, 0, 0), vI x, vI is_] M Q := by
  have hsz := hX.1.1
  have hs10 : (xS X).1 ≤ 10 := hO.1.1
  refine mth_of (by decide +kernel) [some (vR (20, 0, 0)), some (vI x), some (vI is_), none] (Nat.le_of_ble_eq_true rfl) rfl ?_
  refine g_aloadR_n dX7_go_0 rfl rfl ?_
  refine g_iload_n dX7_go_1 rfl rfl ?_
  refine n_v1i (n' := 0) dX7_go_2 mX7_isOne lX7_113 rfl hW vld_x20 rfl rfl ⟨Nat.le_of_ble_eq_true rfl, Nat.le_of_ble_eq_true rfl⟩ ⟨Nat.zero_le _, Nat.zero_le _⟩ (Nat.le_of_ble_eq_true rfl) ?_
  refine wp_X7_isOne (by exact hW) hsz hs10 ?_
  refine ⟨_, rfl, ?_⟩
  refine g_if_ne (tgt := 14) dX7_go_5 (by decide) (fun c5 => ?_) (fun c5 => ?_)
  · simp only [b2_0, Decidable.not_not] at c5
    obtain ⟨hx1, hx2⟩ := IN_nI c5
    have hx3 : x.toNatClampNeg < 10 := by omega
    refine g_aloadR_n dX7_go_14 rfl rfl ?_
    refine n_getR dX7_go_15 fX7_53 rfl hW vld_x20 rfl rfl ?_
    refine g_iload_n dX7_go_18 rfl rfl ?_
    refine n_iald (j := x.toNatClampNeg) dX7_go_19 rfl hW (vld_ma (by decide : 9 < 25)) (by decide) hx1 hx3 ?_
    rw [show mI M (21, 9, 0) x.toNatClampNeg = (xS X).2.2 x.toNatClampNeg 8 from hX.1.2.2 _ 8 hx2 (by decide)]
    refine g_istore_3 dX7_go_20 rfl ?_
    refine g_aloadR_n dX7_go_21 rfl rfl ?_
    refine n_getR dX7_go_22 fX7_53 rfl hW vld_x20 rfl rfl ?_
    refine g_iload_n dX7_go_25 rfl rfl ?_
    refine g_iload_n dX7_go_26 rfl rfl ?_
    refine g_if_eq (tgt := 34) dX7_go_27 (by decide) (fun c27 => ?_) (fun c27 => ?_)
    · refine g_iconst dX7_go_34 (v := 0) (by decide) ?_
      refine n_iast (j := x.toNatClampNeg) dX7_go_35 rfl hW (vld_ma (by decide : 9 < 25)) (by decide) hx1 hx3 ?_
      refine g_iload_n dX7_go_36 rfl rfl ?_
      refine g_if_ne (tgt := 47) dX7_go_37 (by decide) (fun c37 => ?_) (fun c37 => ?_)
      · refine g_iload_n dX7_go_47 rfl rfl ?_
        refine g_iret dX7_go_48 rfl ?_
        have c27 : is_ = 0 := by first | exact c27 | exact Decidable.not_not.mp c27
        have c37 : ¬ is_ = 0 := by first | exact c37 | exact Decidable.not_not.mp c37
        exact absurd c27 c37
      · refine g_aloadR_n dX7_go_40 rfl rfl ?_
        refine n_getR dX7_go_41 fX7_47 rfl hW vld_x20 rfl rfl ?_
        refine g_iload_n dX7_go_44 rfl rfl ?_
        refine g_iconst dX7_go_45 (v := 0) (by decide) ?_
        refine n_iast (j := x.toNatClampNeg) dX7_go_46 rfl hW (vld_ma (by decide : 7 < 25)) (by decide) hx1 hx3 ?_
        refine g_iload_n dX7_go_47 rfl rfl ?_
        refine g_iret dX7_go_48 rfl ?_
        have hz : is_ = 0 := c27
        subst hz
        have e : opGo X x 0 = ((xS X).2.2 x.toNatClampNeg 8, setS X (upS (upS (xS X) x.toNatClampNeg 8 0) x.toNatClampNeg 6 0)) := by
          unfold opGo
          rw [if_neg (not_not_intro c5), goS, if_pos rfl]
        rw [e] at h
        exact h _ (frM_DM ((frP (f := 8) (by decide)).tr (frP (f := 6) (by decide)))) (hX.sch ((frP (f := 8) (by decide)).tr (frP (f := 6) (by decide))) hX.1.up.up)
    · refine g_iconst dX7_go_30 (v := 1) (by decide) ?_
      refine g_goto (tgt := 35) dX7_go_31 (by decide) ?_
      refine n_iast (j := x.toNatClampNeg) dX7_go_35 rfl hW (vld_ma (by decide : 9 < 25)) (by decide) hx1 hx3 ?_
      refine g_iload_n dX7_go_36 rfl rfl ?_
      refine g_if_ne (tgt := 47) dX7_go_37 (by decide) (fun c37 => ?_) (fun c37 => ?_)
      · refine g_iload_n dX7_go_47 rfl rfl ?_
        refine g_iret dX7_go_48 rfl ?_
        have hz : is_ = 1 := his.resolve_left c27
        subst hz
        have e : opGo X x 1 = ((xS X).2.2 x.toNatClampNeg 8, setS X (upS (xS X) x.toNatClampNeg 8 1)) := by
          unfold opGo
          rw [if_neg (not_not_intro c5), goS, if_neg (by decide)]
        rw [e] at h
        exact h _ (frM_DM (frP (f := 8) (by decide))) (hX.sch (frP (f := 8) (by decide)) hX.1.up)
      · refine g_aloadR_n dX7_go_40 rfl rfl ?_
        refine n_getR dX7_go_41 fX7_47 rfl hW vld_x20 rfl rfl ?_
        refine g_iload_n dX7_go_44 rfl rfl ?_
        refine g_iconst dX7_go_45 (v := 0) (by decide) ?_
        refine n_iast (j := x.toNatClampNeg) dX7_go_46 rfl hW (vld_ma (by decide : 7 < 25)) (by decide) hx1 hx3 ?_
        refine g_iload_n dX7_go_47 rfl rfl ?_
        refine g_iret dX7_go_48 rfl ?_
        have c27 : ¬ is_ = 0 := by first | exact c27 | exact Decidable.not_not.mp c27
        have c37 : is_ = 0 := by first | exact c37 | exact Decidable.not_not.mp c37
        exact absurd c37 c27
  · simp only [b2_0, Decidable.not_not] at c5
    refine g_aloadR_n dX7_go_8 rfl rfl ?_
    refine g_iconst dX7_go_9 (v := (-1)) (by decide) ?_
    refine n_v1i (n' := 0) dX7_go_10 mX7_no lX7_109 rfl hW vld_x20 rfl rfl ⟨Nat.le_of_ble_eq_true rfl, Nat.le_of_ble_eq_true rfl⟩ ⟨Nat.zero_le _, Nat.zero_le _⟩ (Nat.le_of_ble_eq_true rfl) ?_
    refine wp_X7_no (j := 1) (by exact hW) (by decide) (by decide) ?_
    refine ⟨_, rfl, ?_⟩
    refine g_iret dX7_go_13 rfl ?_
    have e : opGo X x is_ = rfX X 1 := by
      unfold opGo
      rw [if_pos c5]
    rw [e] at h
    exact h _ (frM_sI (by decide)) (repMo_rfm hX (by decide) (by decide))
set_option maxHeartbeats 4000000 in
set_option maxRecDepth 100000 in
theorem wp_X7_personOf {E : Ev} {M : Mem} {Q : QT} (hW : Wi M) {X : Sys} (hX : RepMo M X) (hO : OkX X) {x w : Int32} (h : ∀ M', FrM M M' → RepMo M' (opPersonOf X x w).2 → Q (some (vI (opPersonOf X x w).1)) M') : Mth E 1 0 0 kX7_personOf [vR (20, 0, 0), vI x, vI w] M Q := by
  have hsz := hX.1.1
  have hs10 : (xS X).1 ≤ 10 := hO.1.1
  refine mth_of (by decide +kernel) [some (vR (20, 0, 0)), some (vI x), some (vI w)] (Nat.le_of_ble_eq_true rfl) rfl ?_
  refine g_aloadR_n dX7_personOf_0 rfl rfl ?_
  refine g_iload_n dX7_personOf_1 rfl rfl ?_
  refine n_v1i (n' := 0) dX7_personOf_2 mX7_isOne lX7_113 rfl hW vld_x20 rfl rfl ⟨Nat.le_of_ble_eq_true rfl, Nat.le_of_ble_eq_true rfl⟩ ⟨Nat.zero_le _, Nat.zero_le _⟩ (Nat.le_of_ble_eq_true rfl) ?_
  refine wp_X7_isOne (by exact hW) hsz hs10 ?_
  refine ⟨_, rfl, ?_⟩
  refine g_if_ne (tgt := 15) dX7_personOf_5 (by decide) (fun c5 => ?_) (fun c5 => ?_)
  · simp only [b2_0, Decidable.not_not] at c5
    obtain ⟨hx1, hx2⟩ := IN_nI c5
    have hx3 : x.toNatClampNeg < 10 := by omega
    refine g_iload_n dX7_personOf_15 rfl rfl ?_
    refine g_top (fun y16 e16 => ?_)
    by_cases s16_0 : y16 = 0
    · refine g_tableIn (tgt := 64) dX7_personOf_16 (by rw [s16_0]; decide) (by rw [s16_0]; decide) (o := 48) (by rw [s16_0]; decide) (by decide) ?_
      refine g_aloadR_n dX7_personOf_64 rfl rfl ?_
      refine n_getR dX7_personOf_65 fX7_29 rfl hW vld_x20 rfl rfl ?_
      refine g_iload_n dX7_personOf_68 rfl rfl ?_
      refine n_iald (j := x.toNatClampNeg) dX7_personOf_69 rfl hW (vld_ma (by decide : 1 < 25)) (by decide) hx1 hx3 ?_
      refine g_iret dX7_personOf_70 rfl ?_
      have hwj : w = 0 := by rw [← e16]; exact s16_0
      subst hwj
      have e : opPersonOf X x 0 = ((xS X).2.2 x.toNatClampNeg 0, X) := by
        unfold opPersonOf
        rw [if_neg (not_not_intro c5), if_neg (by decide), if_neg (by decide)]
        rfl
      rw [e] at h
      rw [show mI M (21, 1, 0) x.toNatClampNeg = (xS X).2.2 x.toNatClampNeg 0 from hX.1.2.2 _ 0 hx2 (by decide)]
      exact h M FrM.rf hX
    by_cases s16_1 : y16 = 1
    · refine g_tableIn (tgt := 71) dX7_personOf_16 (by rw [s16_1]; decide) (by rw [s16_1]; decide) (o := 55) (by rw [s16_1]; decide) (by decide) ?_
      refine g_aloadR_n dX7_personOf_71 rfl rfl ?_
      refine n_getR dX7_personOf_72 fX7_32 rfl hW vld_x20 rfl rfl ?_
      refine g_iload_n dX7_personOf_75 rfl rfl ?_
      refine n_iald (j := x.toNatClampNeg) dX7_personOf_76 rfl hW (vld_ma (by decide : 2 < 25)) (by decide) hx1 hx3 ?_
      refine g_iret dX7_personOf_77 rfl ?_
      have hwj : w = 1 := by rw [← e16]; exact s16_1
      subst hwj
      have e : opPersonOf X x 1 = ((xS X).2.2 x.toNatClampNeg 1, X) := by
        unfold opPersonOf
        rw [if_neg (not_not_intro c5), if_neg (by decide), if_neg (by decide)]
        rfl
      rw [e] at h
      rw [show mI M (21, 2, 0) x.toNatClampNeg = (xS X).2.2 x.toNatClampNeg 1 from hX.1.2.2 _ 1 hx2 (by decide)]
      exact h M FrM.rf hX
    by_cases s16_2 : y16 = 2
    · refine g_tableIn (tgt := 78) dX7_personOf_16 (by rw [s16_2]; decide) (by rw [s16_2]; decide) (o := 62) (by rw [s16_2]; decide) (by decide) ?_
      refine g_aloadR_n dX7_personOf_78 rfl rfl ?_
      refine n_getR dX7_personOf_79 fX7_35 rfl hW vld_x20 rfl rfl ?_
      refine g_iload_n dX7_personOf_82 rfl rfl ?_
      refine n_iald (j := x.toNatClampNeg) dX7_personOf_83 rfl hW (vld_ma (by decide : 3 < 25)) (by decide) hx1 hx3 ?_
      refine g_iret dX7_personOf_84 rfl ?_
      have hwj : w = 2 := by rw [← e16]; exact s16_2
      subst hwj
      have e : opPersonOf X x 2 = ((xS X).2.2 x.toNatClampNeg 2, X) := by
        unfold opPersonOf
        rw [if_neg (not_not_intro c5), if_neg (by decide), if_neg (by decide)]
        rfl
      rw [e] at h
      rw [show mI M (21, 3, 0) x.toNatClampNeg = (xS X).2.2 x.toNatClampNeg 2 from hX.1.2.2 _ 2 hx2 (by decide)]
      exact h M FrM.rf hX
    by_cases s16_3 : y16 = 3
    · refine g_tableIn (tgt := 85) dX7_personOf_16 (by rw [s16_3]; decide) (by rw [s16_3]; decide) (o := 69) (by rw [s16_3]; decide) (by decide) ?_
      refine g_aloadR_n dX7_personOf_85 rfl rfl ?_
      refine n_getR dX7_personOf_86 fX7_38 rfl hW vld_x20 rfl rfl ?_
      refine g_iload_n dX7_personOf_89 rfl rfl ?_
      refine n_iald (j := x.toNatClampNeg) dX7_personOf_90 rfl hW (vld_ma (by decide : 4 < 25)) (by decide) hx1 hx3 ?_
      refine g_iret dX7_personOf_91 rfl ?_
      have hwj : w = 3 := by rw [← e16]; exact s16_3
      subst hwj
      have e : opPersonOf X x 3 = ((xS X).2.2 x.toNatClampNeg 3, X) := by
        unfold opPersonOf
        rw [if_neg (not_not_intro c5), if_neg (by decide), if_neg (by decide)]
        rfl
      rw [e] at h
      rw [show mI M (21, 4, 0) x.toNatClampNeg = (xS X).2.2 x.toNatClampNeg 3 from hX.1.2.2 _ 3 hx2 (by decide)]
      exact h M FrM.rf hX
    by_cases s16_4 : y16 = 4
    · refine g_tableIn (tgt := 92) dX7_personOf_16 (by rw [s16_4]; decide) (by rw [s16_4]; decide) (o := 76) (by rw [s16_4]; decide) (by decide) ?_
      refine g_aloadR_n dX7_personOf_92 rfl rfl ?_
      refine n_getR dX7_personOf_93 fX7_44 rfl hW vld_x20 rfl rfl ?_
      refine g_iload_n dX7_personOf_96 rfl rfl ?_
      refine n_iald (j := x.toNatClampNeg) dX7_personOf_97 rfl hW (vld_ma (by decide : 6 < 25)) (by decide) hx1 hx3 ?_
      refine g_iret dX7_personOf_98 rfl ?_
      have hwj : w = 4 := by rw [← e16]; exact s16_4
      subst hwj
      have e : opPersonOf X x 4 = ((xS X).2.2 x.toNatClampNeg 5, X) := by
        unfold opPersonOf
        rw [if_neg (not_not_intro c5), if_neg (by decide), if_neg (by decide)]
        rfl
      rw [e] at h
      rw [show mI M (21, 6, 0) x.toNatClampNeg = (xS X).2.2 x.toNatClampNeg 5 from hX.1.2.2 _ 5 hx2 (by decide)]
      exact h M FrM.rf hX
    by_cases s16_5 : y16 = 5
    · refine g_tableIn (tgt := 99) dX7_personOf_16 (by rw [s16_5]; decide) (by rw [s16_5]; decide) (o := 83) (by rw [s16_5]; decide) (by decide) ?_
      refine g_aloadR_n dX7_personOf_99 rfl rfl ?_
      refine n_getR dX7_personOf_100 fX7_47 rfl hW vld_x20 rfl rfl ?_
      refine g_iload_n dX7_personOf_103 rfl rfl ?_
      refine n_iald (j := x.toNatClampNeg) dX7_personOf_104 rfl hW (vld_ma (by decide : 7 < 25)) (by decide) hx1 hx3 ?_
      refine g_iret dX7_personOf_105 rfl ?_
      have hwj : w = 5 := by rw [← e16]; exact s16_5
      subst hwj
      have e : opPersonOf X x 5 = ((xS X).2.2 x.toNatClampNeg 6, X) := by
        unfold opPersonOf
        rw [if_neg (not_not_intro c5), if_neg (by decide), if_neg (by decide)]
        rfl
      rw [e] at h
      rw [show mI M (21, 7, 0) x.toNatClampNeg = (xS X).2.2 x.toNatClampNeg 6 from hX.1.2.2 _ 6 hx2 (by decide)]
      exact h M FrM.rf hX
    by_cases s16_6 : y16 = 6
    · refine g_tableIn (tgt := 106) dX7_personOf_16 (by rw [s16_6]; decide) (by rw [s16_6]; decide) (o := 90) (by rw [s16_6]; decide) (by decide) ?_
      refine g_aloadR_n dX7_personOf_106 rfl rfl ?_
      refine n_getR dX7_personOf_107 fX7_50 rfl hW vld_x20 rfl rfl ?_
      refine g_iload_n dX7_personOf_110 rfl rfl ?_
      refine n_iald (j := x.toNatClampNeg) dX7_personOf_111 rfl hW (vld_ma (by decide : 8 < 25)) (by decide) hx1 hx3 ?_
      refine g_iret dX7_personOf_112 rfl ?_
      have hwj : w = 6 := by rw [← e16]; exact s16_6
      subst hwj
      have e : opPersonOf X x 6 = ((xS X).2.2 x.toNatClampNeg 7, X) := by
        unfold opPersonOf
        rw [if_neg (not_not_intro c5), if_neg (by decide), if_neg (by decide)]
        rfl
      rw [e] at h
      rw [show mI M (21, 8, 0) x.toNatClampNeg = (xS X).2.2 x.toNatClampNeg 7 from hX.1.2.2 _ 7 hx2 (by decide)]
      exact h M FrM.rf hX
    by_cases s16_7 : y16 = 7
    · refine g_tableIn (tgt := 113) dX7_personOf_16 (by rw [s16_7]; decide) (by rw [s16_7]; decide) (o := 97) (by rw [s16_7]; decide) (by decide) ?_
      refine g_aloadR_n dX7_personOf_113 rfl rfl ?_
      refine n_getR dX7_personOf_114 fX7_53 rfl hW vld_x20 rfl rfl ?_
      refine g_iload_n dX7_personOf_117 rfl rfl ?_
      refine n_iald (j := x.toNatClampNeg) dX7_personOf_118 rfl hW (vld_ma (by decide : 9 < 25)) (by decide) hx1 hx3 ?_
      refine g_iret dX7_personOf_119 rfl ?_
      have hwj : w = 7 := by rw [← e16]; exact s16_7
      subst hwj
      have e : opPersonOf X x 7 = ((xS X).2.2 x.toNatClampNeg 8, X) := by
        unfold opPersonOf
        rw [if_neg (not_not_intro c5), if_neg (by decide), if_neg (by decide)]
        rfl
      rw [e] at h
      rw [show mI M (21, 9, 0) x.toNatClampNeg = (xS X).2.2 x.toNatClampNeg 8 from hX.1.2.2 _ 8 hx2 (by decide)]
      exact h M FrM.rf hX
    refine g_tableOut (tgt := 120) dX7_personOf_16 (by have t0 : ¬ y16.toInt = 0 := sw_ne s16_0; have t1 : ¬ y16.toInt = 1 := sw_ne s16_1; have t2 : ¬ y16.toInt = 2 := sw_ne s16_2; have t3 : ¬ y16.toInt = 3 := sw_ne s16_3; have t4 : ¬ y16.toInt = 4 := sw_ne s16_4; have t5 : ¬ y16.toInt = 5 := sw_ne s16_5; have t6 : ¬ y16.toInt = 6 := sw_ne s16_6; have t7 : ¬ y16.toInt = 7 := sw_ne s16_7; omega) (by decide) ?_
    refine g_aloadR_n dX7_personOf_120 rfl rfl ?_
    refine g_bipush dX7_personOf_121 (v := (-5)) (by decide) ?_
    refine n_v1i (n' := 0) dX7_personOf_123 mX7_no lX7_109 rfl hW vld_x20 rfl rfl ⟨Nat.le_of_ble_eq_true rfl, Nat.le_of_ble_eq_true rfl⟩ ⟨Nat.zero_le _, Nat.zero_le _⟩ (Nat.le_of_ble_eq_true rfl) ?_
    refine wp_X7_no (j := 5) (by exact hW) (by decide) (by decide) ?_
    refine ⟨_, rfl, ?_⟩
    refine g_iret dX7_personOf_126 rfl ?_
    rw [e16] at s16_0 s16_1 s16_2 s16_3 s16_4 s16_5 s16_6 s16_7
    have e : opPersonOf X x w = rfX X 5 := by
      unfold opPersonOf
      rw [if_neg (not_not_intro c5)]
      by_cases z1 : w < 0
      · rw [if_pos z1]
      · rw [if_neg z1, if_pos (fun z2 => by simp only [Int32.lt_iff_toInt_lt, Int32.le_iff_toInt_le, ← Int32.toInt_inj, zcs] at *; omega)]
    rw [e] at h
    exact h _ (frM_sI (by decide)) (repMo_rfm hX (by decide) (by decide))
  · simp only [b2_0, Decidable.not_not] at c5
    refine g_aloadR_n dX7_personOf_8 rfl rfl ?_
    refine g_bipush dX7_personOf_9 (v := (-5)) (by decide) ?_
    refine n_v1i (n' := 0) dX7_personOf_11 mX7_no lX7_109 rfl hW vld_x20 rfl rfl ⟨Nat.le_of_ble_eq_true rfl, Nat.le_of_ble_eq_true rfl⟩ ⟨Nat.zero_le _, Nat.zero_le _⟩ (Nat.le_of_ble_eq_true rfl) ?_
    refine wp_X7_no (j := 5) (by exact hW) (by decide) (by decide) ?_
    refine ⟨_, rfl, ?_⟩
    refine g_iret dX7_personOf_14 rfl ?_
    have e : opPersonOf X x w = rfX X 5 := by
      unfold opPersonOf
      rw [if_pos c5]
    rw [e] at h
    exact h _ (frM_sI (by decide)) (repMo_rfm hX (by decide) (by decide))
set_option maxHeartbeats 4000000 in
set_option maxRecDepth 100000 in
theorem wp_X7_will {E : Ev} {M : Mem} {Q : QT} (hW : Wi M) {X : Sys} (hX : RepMo M X) (hO : OkX X) {x : Int32} (h : ∀ M', FrM M M' → RepMo M' (opWill X x).2 → Q (some (vI (opWill X x).1)) M') : Mth E 1 0 0 kX7_will [vR (20, 0, 0), vI x] M Q := by
  have hsz := hX.1.1
  have hs10 : (xS X).1 ≤ 10 := hO.1.1
  refine mth_of (by decide +kernel) [some (vR (20, 0, 0)), some (vI x)] (Nat.le_of_ble_eq_true rfl) rfl ?_
  refine g_aloadR_n dX7_will_0 rfl rfl ?_
  refine g_iload_n dX7_will_1 rfl rfl ?_
  refine n_v1i (n' := 0) dX7_will_2 mX7_isOne lX7_113 rfl hW vld_x20 rfl rfl ⟨Nat.le_of_ble_eq_true rfl, Nat.le_of_ble_eq_true rfl⟩ ⟨Nat.zero_le _, Nat.zero_le _⟩ (Nat.le_of_ble_eq_true rfl) ?_
  refine wp_X7_isOne (by exact hW) hsz hs10 ?_
  refine ⟨_, rfl, ?_⟩
  refine g_if_eq (tgt := 16) dX7_will_5 (by decide) (fun c5 => ?_) (fun c5 => ?_)
  · simp only [b2_0, Decidable.not_not] at c5
    refine g_aloadR_n dX7_will_16 rfl rfl ?_
    refine g_iconst dX7_will_17 (v := (-1)) (by decide) ?_
    refine n_v1i (n' := 0) dX7_will_18 mX7_no lX7_109 rfl hW vld_x20 rfl rfl ⟨Nat.le_of_ble_eq_true rfl, Nat.le_of_ble_eq_true rfl⟩ ⟨Nat.zero_le _, Nat.zero_le _⟩ (Nat.le_of_ble_eq_true rfl) ?_
    refine wp_X7_no (j := 1) (by exact hW) (by decide) (by decide) ?_
    refine ⟨_, rfl, ?_⟩
    refine g_sipush dX7_will_21 (v := 1000) (by decide) ?_
    refine g_isub dX7_will_24 ?_
    refine g_iret dX7_will_25 rfl ?_
    have e : opWill X x = ((rfX X 1).1 - 1000, (rfX X 1).2) := by
      unfold opWill
      rw [if_pos c5]
    rw [e] at h
    exact h _ (frM_sI (by decide)) (repMo_rfm hX (by decide) (by decide))
  · simp only [b2_0, Decidable.not_not] at c5
    obtain ⟨hx1, hx2⟩ := IN_nI c5
    have hx3 : x.toNatClampNeg < 10 := by omega
    refine g_aloadR_n dX7_will_8 rfl rfl ?_
    refine g_iload_n dX7_will_9 rfl rfl ?_
    refine n_v1i (n' := 0) dX7_will_10 mX7_wills lX7_196 rfl hW vld_x20 rfl rfl ⟨Nat.le_of_ble_eq_true rfl, Nat.le_of_ble_eq_true rfl⟩ ⟨Nat.zero_le _, Nat.zero_le _⟩ (Nat.le_of_ble_eq_true rfl) ?_
    refine wp_X7_wills (by exact hW) hX.1 hO.1 hx1 hx2 ?_
    refine ⟨_, rfl, ?_⟩
    refine g_goto (tgt := 25) dX7_will_13 (by decide) ?_
    refine g_iret dX7_will_25 rfl ?_
    have e : opWill X x = (willS (xS X) x.toNatClampNeg, X) := by
      unfold opWill
      rw [if_neg (not_not_intro c5)]
    rw [e] at h
    exact h M FrM.rf hX
set_option maxHeartbeats 4000000 in
set_option maxRecDepth 100000 in
theorem wp_X7_seed {E : Ev} {M : Mem} {Q : QT} (hW : Wi M) {X : Sys} (hX : RepMo M X) (hO : OkX X) {v : Int32} (h : ∀ M', FrM M M' → RepMo M' (opSeed X v).2 → Q (some (vI (opSeed X v).1)) M') : Mth E 0 0 0 kX7_seed [vR (20, 0, 0), vI v] M Q := by
  refine mth_of (by decide +kernel) [some (vR (20, 0, 0)), some (vI v), none] (Nat.le_of_ble_eq_true rfl) rfl ?_
  refine g_aloadR_n dX7_seed_0 rfl rfl ?_
  refine n_getI dX7_seed_1 fX7_19 rfl hW vld_x20 (Or.inl rfl) ?_
  refine g_istore_2 dX7_seed_4 rfl ?_
  rw [show mI M (20, 0, 0) 6 = (xS X).2.1 6 from hX.1.2.1 6 (by decide) (by decide)]
  refine g_aloadR_n dX7_seed_5 rfl rfl ?_
  refine g_iload_n dX7_seed_6 rfl rfl ?_
  refine n_putI dX7_seed_7 fX7_19 rfl hW vld_x20 rfl ?_
  refine g_iload_n dX7_seed_10 rfl rfl ?_
  refine g_iret dX7_seed_11 rfl ?_
  exact h _ (frM_DM (frG (by decide))) (hX.gl (by decide) (by decide))
