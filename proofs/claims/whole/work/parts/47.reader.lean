/-! THE READER -/
abbrev Tx : Type := Nat → Int32
abbrev dig (L : Tx) (p : Nat) : Prop := 48 ≤ (L p).toInt ∧ (L p).toInt ≤ 57
def rdFit (v lo hi : Int32) (f q : Nat) : Nat ⊕ (Int32 × Nat) := if v < lo then .inl f else if v ≤ hi then .inr (v, q) else .inl f
def rdNum (L : Tx) (p : Nat) (lo hi : Int32) : Nat ⊕ (Int32 × Nat) :=
  if L p = 32 then
    if dig L (p + 1) then
      if dig L (p + 2) then rdFit ((L (p + 1) - 48) * 10 + (L (p + 2) - 48)) lo hi (p + 1) (p + 3) else rdFit (L (p + 1) - 48) lo hi (p + 1) (p + 2)
    else .inl (p + 1)
  else .inl p
def mtI (L : Tx) (B : List Int32) (p : Nat) : Nat → Nat → Nat
  | 0, i => i
  | d + 1, i => if L (p + i) = B.getD i 0 then mtI L B p d (i + 1) else i
def mt (L : Tx) (B : List Int32) (p : Nat) : Nat := mtI L B p B.length 0
def wIx (L : Tx) (p : Nat) : Nat := if L p = 112 then 0 else if L p = 102 then 1 else if L p = 103 then 2 else if L p = 108 then 3 else if L p = 114 then 4 else if L p = 99 then 5 else if L p = 98 then 6 else 7
def rdWord (L : Tx) (p : Nat) : Nat ⊕ (Nat × Nat) := if wIx L p = 7 then .inl p else if mt L (jsB (wIx L p)) p = (jsB (wIx L p)).length then .inr (wIx L p, p + (jsB (wIx L p)).length) else .inl (p + mt L (jsB (wIx L p)) p)
def rdPer (L : Tx) (S : Sc) (q : Nat) : Nat ⊕ (Sc × Nat) := match rdNum L q 0 6 with
  | .inl f => .inl f
  | .inr (k, q1) => match rdNum L q1 0 9 with
    | .inl f => .inl f
    | .inr (a, q2) => match rdNum L q2 0 20 with
      | .inl f => .inl f
      | .inr (o, q3) => match rdNum L q3 0 1 with
        | .inl f => .inl f
        | .inr (z, q4) => .inr (enrS S k a o z, q4)
def rdFri (L : Tx) (S : Sc) (q : Nat) : Nat ⊕ (Sc × Nat) := match rdNum L q 0 (nI S.1 - 1) with
  | .inl f => .inl f
  | .inr (x, q1) => match rdNum L q1 0 (nI S.1 - 1) with
    | .inl f => .inl f
    | .inr (y, q2) => if y = x then .inl (q1 + 1) else .inr (upS S x.toNatClampNeg 4 y, q2)
def rdGon (L : Tx) (S : Sc) (q : Nat) : Nat ⊕ (Sc × Nat) := match rdNum L q 0 (nI S.1 - 1) with
  | .inl f => .inl f
  | .inr (x, q1) => .inr (upS S x.toNatClampNeg 8 1, q1)
def rdSet (L : Tx) (S : Sc) (w q : Nat) : Nat ⊕ (Sc × Nat) := match rdNum L q (lo_ (nI w)) (hi_ (nI w)) with
  | .inl f => .inl f
  | .inr (v, q1) => .inr (gS S (w + 1) v, q1)
def rdBody (L : Tx) (S : Sc) (p w q : Nat) : Nat ⊕ (Sc × Nat) := if w = 0 then (if S.1 = 10 then .inl p else rdPer L S q) else if w = 1 then rdFri L S q else if w = 2 then rdGon L S q else rdSet L S (w - 3) q
def rdItem (L : Tx) (S : Sc) (p : Nat) : Nat ⊕ (Sc × Nat) := match rdWord L p with
  | .inl f => .inl f
  | .inr (w, q) => rdBody L S p w q
def rdAll (L : Tx) (ll : Nat) : Nat → Sc → Nat → Nat → Nat ⊕ (Nat × Sc)
  | 0, _, _, _ => .inl 0
  | d + 1, S, p, it => match rdItem L S p with
    | .inl f => .inl f
    | .inr (S', q) => if ll ≤ q then .inr (it, S') else if L q = 59 then rdAll L ll d S' (q + 1) (it + 1) else .inl q
/-! what is read stands within the text -/
abbrev TxOk (L : Tx) (ll : Nat) : Prop := ll ≤ 160 ∧ ∀ i, ll ≤ i → L i = -1
theorem TxOk.lt {L : Tx} {ll p : Nat} (h : TxOk L ll) (hp : 0 ≤ (L p).toInt) : p < ll := by
  rcases Nat.lt_or_ge p ll with q | q
  · exact q
  · rw [h.2 p q] at hp; exact absurd hp (by decide)
theorem rdFit_r {v lo hi : Int32} {f q : Nat} {x : Int32} {q' : Nat} (h : rdFit v lo hi f q = .inr (x, q')) : x = v ∧ q' = q ∧ lo ≤ v ∧ v ≤ hi := by
  unfold rdFit at h
  split at h
  · cases h
  · split at h
    · injection h with h; injection h with h1 h2
      exact ⟨h1.symm, h2.symm, Int32.not_lt.mp (by assumption), by assumption⟩
    · cases h
theorem rdNum_r {L : Tx} {ll p : Nat} {lo hi x : Int32} {q : Nat} (ht : TxOk L ll) (h : rdNum L p lo hi = .inr (x, q)) : q ≤ ll ∧ p + 2 ≤ q ∧ lo ≤ x ∧ x ≤ hi := by
  unfold rdNum at h
  split at h
  · split at h
    · split at h
      · obtain ⟨h1, h2, h3, h4⟩ := rdFit_r h
        rename_i a b c
        have := ht.lt (p := p + 2) (by have := c.1; omega)
        exact ⟨by omega, by omega, by rw [h1]; exact h3, by rw [h1]; exact h4⟩
      · obtain ⟨h1, h2, h3, h4⟩ := rdFit_r h
        rename_i a b c
        have := ht.lt (p := p + 1) (by have := b.1; omega)
        exact ⟨by omega, by omega, by rw [h1]; exact h3, by rw [h1]; exact h4⟩
    · cases h
  · cases h
/-! the reader's state -/
def DR : Id → Nat → Prop := fun b _ => b.1 = 8 ∨ b.1 = 9 ∨ ((b.1 = 1 ∨ b.1 = 2) ∧ b.2.1 = 3)
theorem Dk3_DR : ∀ b j, Dk 3 b j → DR b j := fun b j h => Or.inr (Or.inr h)
theorem DR_DX : ∀ b j, DR b j → DX b j := fun b j h => by
  rcases h with h | h | ⟨h, h2⟩
  · exact Or.inr (Or.inl h)
  · exact Or.inr (Or.inr (Or.inl h))
  · exact Or.inr (Or.inr (Or.inr (Or.inl ⟨h, Or.inr h2⟩)))
def RdS (M : Mem) (L : Tx) (ll p : Nat) (wa : Int32) (S : Sc) : Prop := mI M (8, 0, 0) 4 = nI p ∧ mI M (8, 0, 0) 3 = nI ll ∧ (∀ i, i < ll → mI M (9, 0, 0) i = L i) ∧ mI M (8, 0, 0) 1 = wa ∧ RepC M 3 S
theorem RepC.r8 {M : Mem} {f : Nat} {S : Sc} {x : Int32} (h : RepC M 3 S) : RepC (sI M (8, 0, 0) f x) 3 S := h.fr (D := fun b _ => b.1 = 8) (fr_sI rfl) (fun j q => by cases q) (fun i f _ q => by cases q)
theorem RdS.at_ {M : Mem} {L : Tx} {ll p p' : Nat} {wa : Int32} {S : Sc} (h : RdS M L ll p wa S) : RdS (sI M (8, 0, 0) 4 (nI p')) L ll p' wa S :=
  ⟨by simp [mI, sI], by simpa [mI, sI] using h.2.1, fun i hi => by rw [(sI_hk _ (by intro q; cases q)).1]; exact h.2.2.1 i hi, by simpa [mI, sI] using h.2.2.2.1, h.2.2.2.2.r8⟩
theorem RdS.num {M : Mem} {L : Tx} {ll p : Nat} {wa x : Int32} {S : Sc} (h : RdS M L ll p wa S) : RdS (sI M (8, 0, 0) 5 x) L ll p wa S :=
  ⟨by simpa [mI, sI] using h.1, by simpa [mI, sI] using h.2.1, fun i hi => by rw [(sI_hk _ (by intro q; cases q)).1]; exact h.2.2.1 i hi, by simpa [mI, sI] using h.2.2.2.1, h.2.2.2.2.r8⟩
theorem fr8 {M : Mem} {f : Nat} {x : Int32} : FrI DR M (sI M (8, 0, 0) f x) := fr_sI (Or.inl rfl)
theorem RdS.sc {M M' : Mem} {L : Tx} {ll p : Nat} {wa : Int32} {S S' : Sc} (h : RdS M L ll p wa S) (hf : FrI (Dk 3) M M') (hS : RepC M' 3 S') : RdS M' L ll p wa S' := by
  have e : ∀ b : Id, b.1 = 8 ∨ b.1 = 9 → ∀ j, mI M' b j = mI M b j := fun b hb j => hf.2 b j (fun q => by have := q.1; omega)
  exact ⟨by rw [e _ (Or.inl rfl)]; exact h.1, by rw [e _ (Or.inl rfl)]; exact h.2.1, fun i hi => by rw [e _ (Or.inr rfl)]; exact h.2.2.1 i hi, by rw [e _ (Or.inl rfl)]; exact h.2.2.2.1, hS⟩
theorem RdS.five {M M' : Mem} (hf : FrI (Dk 3) M M') : mI M' (8, 0, 0) 5 = mI M (8, 0, 0) 5 := hf.2 _ _ (fun q => by have := q.1; revert this; decide)
set_option maxHeartbeats 4000000 in
set_option maxRecDepth 100000 in
theorem wp_X3_letter {E : Ev} {M : Mem} {Q : QT} (hW : Wi M) {L : Tx} {ll p : Nat} {wa : Int32} {S : Sc} (ht : TxOk L ll) (hr : RdS M L ll p wa S) (hp : p ≤ 160) (h : Q (some (vI (L p))) M) : Mth E 0 0 0 kX3_letter [vR (8, 0, 0)] M Q := by
  have ll2 := ht.1
  refine mth_of (by decide +kernel) [some (vR (8, 0, 0))] (Nat.le_of_ble_eq_true rfl) rfl ?_
  refine g_aloadR_n dX3_letter_0 rfl rfl ?_
  refine n_getI dX3_letter_1 fX3_40 rfl hW vld_x8 (Or.inl rfl) ?_
  rw [hr.1]
  refine g_if_lt (tgt := 42) dX3_letter_4 (by decide) (fun c4 => ?_) (fun c4 => ?_)
  · exact absurd c4 (nI_pos (by omega))
  · refine g_aloadR_n dX3_letter_7 rfl rfl ?_
    refine n_getI dX3_letter_8 fX3_40 rfl hW vld_x8 (Or.inl rfl) ?_
    refine g_aloadR_n dX3_letter_11 rfl rfl ?_
    refine n_getI dX3_letter_12 fX3_35 rfl hW vld_x8 (Or.inl rfl) ?_
    rw [hr.1, hr.2.1]
    refine g_icmp_ge (tgt := 42) dX3_letter_15 (by decide) (fun c15 => ?_) (fun c15 => ?_)
    · rw [nI_leI (by omega) (by omega)] at c15
      refine g_iconst dX3_letter_42 (v := (-1)) (by decide) ?_
      refine g_iret dX3_letter_43 rfl ?_
      first
        | exact qI h (ht.2 p c15).symm
        | exact qI h (hr.2.2.1 p (by omega))
    · rw [nI_leI (by omega) (by omega)] at c15
      refine g_aloadR_n dX3_letter_18 rfl rfl ?_
      refine n_getI dX3_letter_19 fX3_40 rfl hW vld_x8 (Or.inl rfl) ?_
      refine g_aloadR_n dX3_letter_22 rfl rfl ?_
      refine n_getR dX3_letter_23 fX3_22 rfl hW vld_x8 rfl rfl ?_
      refine n_alen dX3_letter_26 rfl (by decide) hW vld_x9 ?_
      rw [hr.1]
      refine g_icmp_ge (tgt := 42) dX3_letter_27 (by decide) (fun c27 => ?_) (fun c27 => ?_)
      · exact absurd ((nI_leI (by omega) (by omega)).mp c27) (by omega)
      · refine g_aloadR_n dX3_letter_30 rfl rfl ?_
        refine n_getR dX3_letter_31 fX3_22 rfl hW vld_x8 rfl rfl ?_
        refine g_aloadR_n dX3_letter_34 rfl rfl ?_
        refine n_getI dX3_letter_35 fX3_40 rfl hW vld_x8 (Or.inl rfl) ?_
        refine n_iald (j := p) dX3_letter_38 rfl hW vld_x9 (by decide) hr.1 (by omega) ?_
        refine g_goto (tgt := 43) dX3_letter_39 (by decide) ?_
        refine g_iret dX3_letter_43 rfl ?_
        first
          | exact qI h (ht.2 p c15).symm
          | exact qI h (hr.2.2.1 p (by omega))
theorem zd : ((48 : Int32)).toInt = 48 ∧ ((57 : Int32)).toInt = 57 ∧ ((59 : Int32)).toInt = 59 := by decide
set_option maxHeartbeats 4000000 in
set_option maxRecDepth 100000 in
theorem wp_X3_isDigit {E : Ev} {M : Mem} {Q : QT} (hW : Wi M) {L : Tx} {ll p : Nat} {wa : Int32} {S : Sc} (ht : TxOk L ll) (hr : RdS M L ll p wa S) (hp : p ≤ 160) (h : Q (some (vI (b2 (dig L p)))) M) : Mth E 1 0 0 kX3_isDigit [vR (8, 0, 0)] M Q := by
  refine mth_of (by decide +kernel) [some (vR (8, 0, 0))] (Nat.le_of_ble_eq_true rfl) rfl ?_
  refine g_aloadR_n dX3_isDigit_0 rfl rfl ?_
  refine n_v0i (n' := 0) dX3_isDigit_1 mX3_letter lX3_73 rfl hW vld_x8 rfl rfl ⟨Nat.le_of_ble_eq_true rfl, Nat.le_of_ble_eq_true rfl⟩ ⟨Nat.zero_le _, Nat.zero_le _⟩ (Nat.le_of_ble_eq_true rfl) ?_
  refine wp_X3_letter (by exact hW) ht hr hp ?_
  refine ⟨_, rfl, ?_⟩
  refine g_bipush dX3_isDigit_4 (v := 48) (by decide) ?_
  refine g_icmp_lt (tgt := 22) dX3_isDigit_6 (by decide) (fun c6 => ?_) (fun c6 => ?_)
  · refine g_iconst dX3_isDigit_22 (v := 0) (by decide) ?_
    refine g_zret dX3_isDigit_23 rfl (Or.inl rfl) ?_
    first
      | exact qI h (b2_f (by simp only [dig, Int32.lt_iff_toInt_lt, Int32.le_iff_toInt_le, zd] at *; omega))
      | exact qI h (b2_t (by simp only [dig, Int32.lt_iff_toInt_lt, Int32.le_iff_toInt_le, zd] at *; omega))
  · refine g_aloadR_n dX3_isDigit_9 rfl rfl ?_
    refine n_v0i (n' := 0) dX3_isDigit_10 mX3_letter lX3_73 rfl hW vld_x8 rfl rfl ⟨Nat.le_of_ble_eq_true rfl, Nat.le_of_ble_eq_true rfl⟩ ⟨Nat.zero_le _, Nat.zero_le _⟩ (Nat.le_of_ble_eq_true rfl) ?_
    refine wp_X3_letter (by exact hW) ht hr hp ?_
    refine ⟨_, rfl, ?_⟩
    refine g_bipush dX3_isDigit_13 (v := 57) (by decide) ?_
    refine g_icmp_gt (tgt := 22) dX3_isDigit_15 (by decide) (fun c15 => ?_) (fun c15 => ?_)
    · refine g_iconst dX3_isDigit_22 (v := 0) (by decide) ?_
      refine g_zret dX3_isDigit_23 rfl (Or.inl rfl) ?_
      first
        | exact qI h (b2_f (by simp only [dig, Int32.lt_iff_toInt_lt, Int32.le_iff_toInt_le, zd] at *; omega))
        | exact qI h (b2_t (by simp only [dig, Int32.lt_iff_toInt_lt, Int32.le_iff_toInt_le, zd] at *; omega))
    · refine g_iconst dX3_isDigit_18 (v := 1) (by decide) ?_
      refine g_goto (tgt := 23) dX3_isDigit_19 (by decide) ?_
      refine g_zret dX3_isDigit_23 rfl (Or.inr rfl) ?_
      first
        | exact qI h (b2_f (by simp only [dig, Int32.lt_iff_toInt_lt, Int32.le_iff_toInt_le, zd] at *; omega))
        | exact qI h (b2_t (by simp only [dig, Int32.lt_iff_toInt_lt, Int32.le_iff_toInt_le, zd] at *; omega))
set_option maxHeartbeats 4000000 in
set_option maxRecDepth 100000 in
theorem wp_X3_readDigit {E : Ev} {M : Mem} {Q : QT} (hW : Wi M) {L : Tx} {ll p : Nat} {wa : Int32} {S : Sc} (ht : TxOk L ll) (hr : RdS M L ll p wa S) (hp : p ≤ 160) (h : Q (some (vI (L p - 48))) (sI M (8, 0, 0) 4 (nI (p + 1)))) : Mth E 1 0 0 kX3_readDigit [vR (8, 0, 0)] M Q := by
  refine mth_of (by decide +kernel) [some (vR (8, 0, 0)), none] (Nat.le_of_ble_eq_true rfl) rfl ?_
  refine g_aloadR_n dX3_readDigit_0 rfl rfl ?_
  refine n_v0i (n' := 0) dX3_readDigit_1 mX3_letter lX3_73 rfl hW vld_x8 rfl rfl ⟨Nat.le_of_ble_eq_true rfl, Nat.le_of_ble_eq_true rfl⟩ ⟨Nat.zero_le _, Nat.zero_le _⟩ (Nat.le_of_ble_eq_true rfl) ?_
  refine wp_X3_letter (by exact hW) ht hr hp ?_
  refine ⟨_, rfl, ?_⟩
  refine g_bipush dX3_readDigit_4 (v := 48) (by decide) ?_
  refine g_isub dX3_readDigit_6 ?_
  refine g_istore_1 dX3_readDigit_7 rfl ?_
  refine g_aloadR_n dX3_readDigit_8 rfl rfl ?_
  refine g_dup dX3_readDigit_9 rfl ?_
  refine n_getI dX3_readDigit_10 fX3_40 rfl hW vld_x8 (Or.inl rfl) ?_
  refine g_iconst dX3_readDigit_13 (v := 1) (by decide) ?_
  refine g_iadd dX3_readDigit_14 ?_
  rw [hr.1]
  refine g_top (fun z ez => ?_)
  rw [← nI_succ] at ez
  subst ez
  refine n_putI dX3_readDigit_15 fX3_40 rfl hW vld_x8 rfl ?_
  refine g_iload_n dX3_readDigit_18 rfl rfl ?_
  refine g_iret dX3_readDigit_19 rfl ?_
  exact h
set_option maxHeartbeats 4000000 in
set_option maxRecDepth 100000 in
theorem wp_X3_fail {E : Ev} {M : Mem} {Q : QT} (hW : Wi M) {x : Int32} (h : Q (some (vI 0)) (sI M (8, 0, 0) 1 x)) : Mth E 0 0 0 kX3_fail [vR (8, 0, 0), vI x] M Q := by
  refine mth_of (by decide +kernel) [some (vR (8, 0, 0)), some (vI x)] (Nat.le_of_ble_eq_true rfl) rfl ?_
  refine g_aloadR_n dX3_fail_0 rfl rfl ?_
  refine g_iload_n dX3_fail_1 rfl rfl ?_
  refine n_putI dX3_fail_2 fX3_18 rfl hW vld_x8 rfl ?_
  refine g_iconst dX3_fail_5 (v := 0) (by decide) ?_
  refine g_zret dX3_fail_6 rfl (Or.inl rfl) ?_
  exact h
def SgO (L : Tx) (ll p : Nat) (c wa : Int32) (S : Sc) (M M' : Mem) : Prop := FrI DR M M' ∧ (L p = c → RdS M' L ll (p + 1) wa S ∧ mI M' (8, 0, 0) 5 = mI M (8, 0, 0) 5) ∧ (¬ L p = c → mI M' (8, 0, 0) 1 = nI p)
set_option maxHeartbeats 4000000 in
set_option maxRecDepth 100000 in
theorem wp_X3_readSign {E : Ev} {M : Mem} {Q : QT} (hW : Wi M) {L : Tx} {ll p : Nat} {wa : Int32} {S : Sc} (ht : TxOk L ll) (hr : RdS M L ll p wa S) (hp : p ≤ 160) {c : Int32} (h : ∀ M', SgO L ll p c wa S M M' → Q (some (vI (b2 (L p = c)))) M') : Mth E 1 0 0 kX3_readSign [vR (8, 0, 0), vI c] M Q := by
  refine mth_of (by decide +kernel) [some (vR (8, 0, 0)), some (vI c)] (Nat.le_of_ble_eq_true rfl) rfl ?_
  refine g_aloadR_n dX3_readSign_0 rfl rfl ?_
  refine n_v0i (n' := 0) dX3_readSign_1 mX3_letter lX3_73 rfl hW vld_x8 rfl rfl ⟨Nat.le_of_ble_eq_true rfl, Nat.le_of_ble_eq_true rfl⟩ ⟨Nat.zero_le _, Nat.zero_le _⟩ (Nat.le_of_ble_eq_true rfl) ?_
  refine wp_X3_letter (by exact hW) ht hr hp ?_
  refine ⟨_, rfl, ?_⟩
  refine g_iload_n dX3_readSign_4 rfl rfl ?_
  refine g_icmp_eq (tgt := 17) dX3_readSign_5 (by decide) (fun c5 => ?_) (fun c5 => ?_)
  · refine g_aloadR_n dX3_readSign_17 rfl rfl ?_
    refine g_dup dX3_readSign_18 rfl ?_
    refine n_getI dX3_readSign_19 fX3_40 rfl hW vld_x8 (Or.inl rfl) ?_
    refine g_iconst dX3_readSign_22 (v := 1) (by decide) ?_
    refine g_iadd dX3_readSign_23 ?_
    rw [hr.1]
    refine g_top (fun z ez => ?_)
    rw [← nI_succ] at ez
    subst ez
    refine n_putI dX3_readSign_24 fX3_40 rfl hW vld_x8 rfl ?_
    refine g_iconst dX3_readSign_27 (v := 1) (by decide) ?_
    refine g_zret dX3_readSign_28 rfl (Or.inr rfl) ?_
    have c5 : L p = c := by first | exact c5 | exact Decidable.not_not.mp c5
    exact qI (h _ ⟨fr8, fun _ => ⟨hr.at_, by simp [mI, sI]⟩, fun q => absurd c5 q⟩) (b2_t c5)
  · refine g_aloadR_n dX3_readSign_8 rfl rfl ?_
    refine g_aloadR_n dX3_readSign_9 rfl rfl ?_
    refine n_getI dX3_readSign_10 fX3_40 rfl hW vld_x8 (Or.inl rfl) ?_
    rw [hr.1]
    refine n_v1i (n' := 0) dX3_readSign_13 mX3_fail lX3_58 rfl hW vld_x8 rfl rfl ⟨Nat.le_of_ble_eq_true rfl, Nat.le_of_ble_eq_true rfl⟩ ⟨Nat.zero_le _, Nat.zero_le _⟩ (Nat.le_of_ble_eq_true rfl) ?_
    refine wp_X3_fail (by exact hW) ?_
    refine ⟨_, rfl, ?_⟩
    refine g_zret dX3_readSign_16 rfl (Or.inl rfl) ?_
    exact qI (h _ ⟨fr8, fun q => absurd q c5, fun _ => by simp [mI, sI]⟩) (b2_f c5)
def NmO (L : Tx) (ll p : Nat) (lo hi wa : Int32) (S : Sc) (M M' : Mem) (v : Int32) : Prop := FrI DR M M' ∧ match rdNum L p lo hi with
  | .inl f => v = -1 ∧ mI M' (8, 0, 0) 1 = nI f
  | .inr (x, q) => v = x ∧ RdS M' L ll q wa S ∧ mI M' (8, 0, 0) 5 = nI (p + 1)
theorem NmO.f {L : Tx} {ll p : Nat} {lo hi wa : Int32} {S : Sc} {M M' : Mem} {v : Int32} (h : NmO L ll p lo hi wa S M M' v) (ht : TxOk L ll) (hlo : 0 ≤ lo.toInt) (hv : v = -1) : ∃ f, rdNum L p lo hi = .inl f ∧ mI M' (8, 0, 0) 1 = nI f := by
  obtain ⟨-, h⟩ := h
  cases e : rdNum L p lo hi with
  | inl f => rw [e] at h; exact ⟨f, rfl, h.2⟩
  | inr z =>
    obtain ⟨x, q⟩ := z
    rw [e] at h
    have := (rdNum_r ht e).2.2.1
    rw [← h.1, hv, Int32.le_iff_toInt_le] at this
    exfalso
    have h1 : (-1 : Int32).toInt = -1 := by decide
    omega
theorem NmO.s {L : Tx} {ll p : Nat} {lo hi wa : Int32} {S : Sc} {M M' : Mem} {v : Int32} (h : NmO L ll p lo hi wa S M M' v) (ht : TxOk L ll) (hv : ¬ v = -1) : ∃ q, rdNum L p lo hi = .inr (v, q) ∧ RdS M' L ll q wa S ∧ mI M' (8, 0, 0) 5 = nI (p + 1) ∧ q ≤ 160 := by
  obtain ⟨-, h⟩ := h
  cases e : rdNum L p lo hi with
  | inl f => rw [e] at h; exact absurd h.1 hv
  | inr z =>
    obtain ⟨x, q⟩ := z
    rw [e] at h
    obtain ⟨h1, h2, h3⟩ := h
    subst h1
    exact ⟨q, rfl, h2, h3, by have := (rdNum_r ht e).1; have := ht.1; omega⟩
set_option maxHeartbeats 4000000 in
set_option maxRecDepth 100000 in
theorem wp_X3_readNumber {E : Ev} {M : Mem} {Q : QT} (hW : Wi M) {L : Tx} {ll p : Nat} {wa : Int32} {S : Sc} (ht : TxOk L ll) (hr : RdS M L ll p wa S) (hp : p ≤ 160) {lo hi : Int32} (h : ∀ M' v, NmO L ll p lo hi wa S M M' v → Q (some (vI v)) M') : Mth E 2 0 0 kX3_readNumber [vR (8, 0, 0), vI lo, vI hi] M Q := by
  refine mth_of (by decide +kernel) [some (vR (8, 0, 0)), some (vI lo), some (vI hi), none] (Nat.le_of_ble_eq_true rfl) rfl ?_
  refine g_aloadR_n dX3_readNumber_0 rfl rfl ?_
  refine g_bipush dX3_readNumber_1 (v := 32) (by decide) ?_
  refine n_v1i (n' := 1) dX3_readNumber_3 mX3_readSign lX3_47 rfl hW vld_x8 rfl rfl ⟨Nat.le_of_ble_eq_true rfl, Nat.le_of_ble_eq_true rfl⟩ ⟨Nat.zero_le _, Nat.zero_le _⟩ (Nat.le_of_ble_eq_true rfl) ?_
  refine wp_X3_readSign (by exact hW) ht hr hp (fun M1 ho1 => ?_)
  have hW1 := ho1.1.W (by exact hW)
  refine ⟨_, rfl, ?_⟩
  refine g_if_ne (tgt := 11) dX3_readNumber_6 (by decide) (fun c6 => ?_) (fun c6 => ?_)
  · simp only [b2_0, Decidable.not_not] at c6
    obtain ⟨hr1, -⟩ := ho1.2.1 c6
    have hp1 : p + 1 ≤ 160 := by have := ht.lt (p := p) (by rw [c6]; decide); have := ht.1; omega
    refine g_aloadR_n dX3_readNumber_11 rfl rfl ?_
    refine g_aloadR_n dX3_readNumber_12 rfl rfl ?_
    refine n_getI dX3_readNumber_13 fX3_40 rfl hW1 vld_x8 (Or.inl rfl) ?_
    rw [hr1.1]
    refine n_putI dX3_readNumber_16 fX3_116 rfl hW1 vld_x8 rfl ?_
    refine g_aloadR_n dX3_readNumber_19 rfl rfl ?_
    refine n_v0i (n' := 1) dX3_readNumber_20 mX3_isDigit lX3_141 rfl hW1 vld_x8 rfl rfl ⟨Nat.le_of_ble_eq_true rfl, Nat.le_of_ble_eq_true rfl⟩ ⟨Nat.zero_le _, Nat.zero_le _⟩ (Nat.le_of_ble_eq_true rfl) ?_
    refine wp_X3_isDigit (by exact hW1) ht hr1.num hp1 ?_
    refine ⟨_, rfl, ?_⟩
    refine g_if_ne (tgt := 37) dX3_readNumber_23 (by decide) (fun c23 => ?_) (fun c23 => ?_)
    · simp only [b2_0, Decidable.not_not] at c23
      refine g_aloadR_n dX3_readNumber_37 rfl rfl ?_
      refine n_v0i (n' := 1) dX3_readNumber_38 mX3_readDigit lX3_144 rfl hW1 vld_x8 rfl rfl ⟨Nat.le_of_ble_eq_true rfl, Nat.le_of_ble_eq_true rfl⟩ ⟨Nat.zero_le _, Nat.zero_le _⟩ (Nat.le_of_ble_eq_true rfl) ?_
      refine wp_X3_readDigit (by exact hW1) ht hr1.num hp1 ?_
      refine ⟨_, rfl, ?_⟩
      refine g_istore_3 dX3_readNumber_41 rfl ?_
      refine g_aloadR_n dX3_readNumber_42 rfl rfl ?_
      refine n_v0i (n' := 1) dX3_readNumber_43 mX3_isDigit lX3_141 rfl hW1 vld_x8 rfl rfl ⟨Nat.le_of_ble_eq_true rfl, Nat.le_of_ble_eq_true rfl⟩ ⟨Nat.zero_le _, Nat.zero_le _⟩ (Nat.le_of_ble_eq_true rfl) ?_
      have hp2 : p + 2 ≤ 160 := by have := ht.lt (p := p + 1) (by have := c23.1; omega); have := ht.1; omega
      refine wp_X3_isDigit (by exact hW1) ht hr1.num.at_ hp2 ?_
      refine ⟨_, rfl, ?_⟩
      refine g_if_eq (tgt := 59) dX3_readNumber_46 (by decide) (fun c46 => ?_) (fun c46 => ?_)
      · simp only [b2_0, Decidable.not_not] at c46
        refine g_iload_n dX3_readNumber_59 rfl rfl ?_
        refine g_iload_n dX3_readNumber_60 rfl rfl ?_
        refine g_icmp_lt (tgt := 69) dX3_readNumber_61 (by decide) (fun c61 => ?_) (fun c61 => ?_)
        · refine g_aloadR_n dX3_readNumber_69 rfl rfl ?_
          refine g_aloadR_n dX3_readNumber_70 rfl rfl ?_
          refine n_getI dX3_readNumber_71 fX3_116 rfl hW1 vld_x8 (Or.inl rfl) ?_
          refine g_top (fun z ez => ?_)
          have ez : z = nI (p + 1) := ez.trans (by simp [mI, sI])
          subst ez
          refine n_v1i (n' := 0) dX3_readNumber_74 mX3_fail lX3_58 rfl hW1 vld_x8 rfl rfl ⟨Nat.le_of_ble_eq_true rfl, Nat.le_of_ble_eq_true rfl⟩ ⟨Nat.zero_le _, Nat.zero_le _⟩ (Nat.le_of_ble_eq_true rfl) ?_
          refine wp_X3_fail (by exact hW1) ?_
          refine ⟨_, rfl, ?_⟩
          refine g_pop dX3_readNumber_77 rfl ?_
          refine g_iconst dX3_readNumber_78 (v := (-1)) (by decide) ?_
          refine g_iret dX3_readNumber_79 rfl ?_
          have e : rdNum L p lo hi = rdFit (L (p + 1) - 48) lo hi (p + 1) (p + 2) := by unfold rdNum; rw [if_pos c6, if_pos c23, if_neg c46]
          have e2 : rdFit (L (p + 1) - 48) lo hi (p + 1) (p + 2) = .inl (p + 1) := by unfold rdFit; rw [if_pos c61]
          exact h _ _ ⟨((ho1.1.tr fr8).tr fr8).tr fr8, by rw [e, e2]; exact ⟨rfl, by simp [mI, sI]⟩⟩
        · refine g_iload_n dX3_readNumber_64 rfl rfl ?_
          refine g_iload_n dX3_readNumber_65 rfl rfl ?_
          refine g_icmp_le (tgt := 80) dX3_readNumber_66 (by decide) (fun c66 => ?_) (fun c66 => ?_)
          · refine g_iload_n dX3_readNumber_80 rfl rfl ?_
            refine g_iret dX3_readNumber_81 rfl ?_
            have e : rdNum L p lo hi = rdFit (L (p + 1) - 48) lo hi (p + 1) (p + 2) := by unfold rdNum; rw [if_pos c6, if_pos c23, if_neg c46]
            have e2 : rdFit (L (p + 1) - 48) lo hi (p + 1) (p + 2) = .inr (L (p + 1) - 48, p + 2) := by unfold rdFit; rw [if_neg c61, if_pos c66]
            exact h _ _ ⟨(ho1.1.tr fr8).tr fr8, by rw [e, e2]; exact ⟨rfl, (hr1.num.at_), by simp [mI, sI]⟩⟩
          · refine g_aloadR_n dX3_readNumber_69 rfl rfl ?_
            refine g_aloadR_n dX3_readNumber_70 rfl rfl ?_
            refine n_getI dX3_readNumber_71 fX3_116 rfl hW1 vld_x8 (Or.inl rfl) ?_
            refine g_top (fun z ez => ?_)
            have ez : z = nI (p + 1) := ez.trans (by simp [mI, sI])
            subst ez
            refine n_v1i (n' := 0) dX3_readNumber_74 mX3_fail lX3_58 rfl hW1 vld_x8 rfl rfl ⟨Nat.le_of_ble_eq_true rfl, Nat.le_of_ble_eq_true rfl⟩ ⟨Nat.zero_le _, Nat.zero_le _⟩ (Nat.le_of_ble_eq_true rfl) ?_
            refine wp_X3_fail (by exact hW1) ?_
            refine ⟨_, rfl, ?_⟩
            refine g_pop dX3_readNumber_77 rfl ?_
            refine g_iconst dX3_readNumber_78 (v := (-1)) (by decide) ?_
            refine g_iret dX3_readNumber_79 rfl ?_
            have e : rdNum L p lo hi = rdFit (L (p + 1) - 48) lo hi (p + 1) (p + 2) := by unfold rdNum; rw [if_pos c6, if_pos c23, if_neg c46]
            have e2 : rdFit (L (p + 1) - 48) lo hi (p + 1) (p + 2) = .inl (p + 1) := by unfold rdFit; rw [if_neg c61, if_neg c66]
            exact h _ _ ⟨((ho1.1.tr fr8).tr fr8).tr fr8, by rw [e, e2]; exact ⟨rfl, by simp [mI, sI]⟩⟩
      · simp only [b2_0, Decidable.not_not] at c46
        refine g_iload_n dX3_readNumber_49 rfl rfl ?_
        refine g_bipush dX3_readNumber_50 (v := 10) (by decide) ?_
        refine g_imul dX3_readNumber_52 ?_
        refine g_aloadR_n dX3_readNumber_53 rfl rfl ?_
        refine n_v0i (n' := 1) dX3_readNumber_54 mX3_readDigit lX3_144 rfl hW1 vld_x8 rfl rfl ⟨Nat.le_of_ble_eq_true rfl, Nat.le_of_ble_eq_true rfl⟩ ⟨Nat.zero_le _, Nat.zero_le _⟩ (Nat.le_of_ble_eq_true rfl) ?_
        refine wp_X3_readDigit (by exact hW1) ht hr1.num.at_ hp2 ?_
        refine ⟨_, rfl, ?_⟩
        refine g_iadd dX3_readNumber_57 ?_
        refine g_istore_3 dX3_readNumber_58 rfl ?_
        refine g_iload_n dX3_readNumber_59 rfl rfl ?_
        refine g_iload_n dX3_readNumber_60 rfl rfl ?_
        refine g_icmp_lt (tgt := 69) dX3_readNumber_61 (by decide) (fun c61 => ?_) (fun c61 => ?_)
        · refine g_aloadR_n dX3_readNumber_69 rfl rfl ?_
          refine g_aloadR_n dX3_readNumber_70 rfl rfl ?_
          refine n_getI dX3_readNumber_71 fX3_116 rfl hW1 vld_x8 (Or.inl rfl) ?_
          refine g_top (fun z ez => ?_)
          have ez : z = nI (p + 1) := ez.trans (by simp [mI, sI])
          subst ez
          refine n_v1i (n' := 0) dX3_readNumber_74 mX3_fail lX3_58 rfl hW1 vld_x8 rfl rfl ⟨Nat.le_of_ble_eq_true rfl, Nat.le_of_ble_eq_true rfl⟩ ⟨Nat.zero_le _, Nat.zero_le _⟩ (Nat.le_of_ble_eq_true rfl) ?_
          refine wp_X3_fail (by exact hW1) ?_
          refine ⟨_, rfl, ?_⟩
          refine g_pop dX3_readNumber_77 rfl ?_
          refine g_iconst dX3_readNumber_78 (v := (-1)) (by decide) ?_
          refine g_iret dX3_readNumber_79 rfl ?_
          have e : rdNum L p lo hi = rdFit ((L (p + 1) - 48) * 10 + (L (p + 2) - 48)) lo hi (p + 1) (p + 3) := by unfold rdNum; rw [if_pos c6, if_pos c23, if_pos c46]
          have e2 : rdFit ((L (p + 1) - 48) * 10 + (L (p + 2) - 48)) lo hi (p + 1) (p + 3) = .inl (p + 1) := by unfold rdFit; rw [if_pos c61]
          exact h _ _ ⟨(((ho1.1.tr fr8).tr fr8).tr fr8).tr fr8, by rw [e, e2]; exact ⟨rfl, by simp [mI, sI]⟩⟩
        · refine g_iload_n dX3_readNumber_64 rfl rfl ?_
          refine g_iload_n dX3_readNumber_65 rfl rfl ?_
          refine g_icmp_le (tgt := 80) dX3_readNumber_66 (by decide) (fun c66 => ?_) (fun c66 => ?_)
          · refine g_iload_n dX3_readNumber_80 rfl rfl ?_
            refine g_iret dX3_readNumber_81 rfl ?_
            have e : rdNum L p lo hi = rdFit ((L (p + 1) - 48) * 10 + (L (p + 2) - 48)) lo hi (p + 1) (p + 3) := by unfold rdNum; rw [if_pos c6, if_pos c23, if_pos c46]
            have e2 : rdFit ((L (p + 1) - 48) * 10 + (L (p + 2) - 48)) lo hi (p + 1) (p + 3) = .inr ((L (p + 1) - 48) * 10 + (L (p + 2) - 48), p + 3) := by unfold rdFit; rw [if_neg c61, if_pos c66]
            exact h _ _ ⟨((ho1.1.tr fr8).tr fr8).tr fr8, by rw [e, e2]; exact ⟨rfl, ((hr1.num.at_).at_), by simp [mI, sI]⟩⟩
          · refine g_aloadR_n dX3_readNumber_69 rfl rfl ?_
            refine g_aloadR_n dX3_readNumber_70 rfl rfl ?_
            refine n_getI dX3_readNumber_71 fX3_116 rfl hW1 vld_x8 (Or.inl rfl) ?_
            refine g_top (fun z ez => ?_)
            have ez : z = nI (p + 1) := ez.trans (by simp [mI, sI])
            subst ez
            refine n_v1i (n' := 0) dX3_readNumber_74 mX3_fail lX3_58 rfl hW1 vld_x8 rfl rfl ⟨Nat.le_of_ble_eq_true rfl, Nat.le_of_ble_eq_true rfl⟩ ⟨Nat.zero_le _, Nat.zero_le _⟩ (Nat.le_of_ble_eq_true rfl) ?_
            refine wp_X3_fail (by exact hW1) ?_
            refine ⟨_, rfl, ?_⟩
            refine g_pop dX3_readNumber_77 rfl ?_
            refine g_iconst dX3_readNumber_78 (v := (-1)) (by decide) ?_
            refine g_iret dX3_readNumber_79 rfl ?_
            have e : rdNum L p lo hi = rdFit ((L (p + 1) - 48) * 10 + (L (p + 2) - 48)) lo hi (p + 1) (p + 3) := by unfold rdNum; rw [if_pos c6, if_pos c23, if_pos c46]
            have e2 : rdFit ((L (p + 1) - 48) * 10 + (L (p + 2) - 48)) lo hi (p + 1) (p + 3) = .inl (p + 1) := by unfold rdFit; rw [if_neg c61, if_neg c66]
            exact h _ _ ⟨(((ho1.1.tr fr8).tr fr8).tr fr8).tr fr8, by rw [e, e2]; exact ⟨rfl, by simp [mI, sI]⟩⟩
    · simp only [b2_0, Decidable.not_not] at c23
      refine g_aloadR_n dX3_readNumber_26 rfl rfl ?_
      refine g_aloadR_n dX3_readNumber_27 rfl rfl ?_
      refine n_getI dX3_readNumber_28 fX3_40 rfl hW1 vld_x8 (Or.inl rfl) ?_
      rw [show mI (sI M1 (8, 0, 0) 5 (nI (p + 1))) (8, 0, 0) 4 = nI (p + 1) from hr1.num.1]
      refine n_v1i (n' := 0) dX3_readNumber_31 mX3_fail lX3_58 rfl hW1 vld_x8 rfl rfl ⟨Nat.le_of_ble_eq_true rfl, Nat.le_of_ble_eq_true rfl⟩ ⟨Nat.zero_le _, Nat.zero_le _⟩ (Nat.le_of_ble_eq_true rfl) ?_
      refine wp_X3_fail (by exact hW1) ?_
      refine ⟨_, rfl, ?_⟩
      refine g_pop dX3_readNumber_34 rfl ?_
      refine g_iconst dX3_readNumber_35 (v := (-1)) (by decide) ?_
      refine g_iret dX3_readNumber_36 rfl ?_
      have e : rdNum L p lo hi = .inl (p + 1) := by unfold rdNum; rw [if_pos c6, if_neg c23]
      exact h _ _ ⟨(ho1.1.tr fr8).tr fr8, by rw [e]; exact ⟨rfl, by simp [mI, sI]⟩⟩
  · simp only [b2_0, Decidable.not_not] at c6
    refine g_iconst dX3_readNumber_9 (v := (-1)) (by decide) ?_
    refine g_iret dX3_readNumber_10 rfl ?_
    have e : rdNum L p lo hi = .inl p := by unfold rdNum; rw [if_neg c6]
    exact h _ _ ⟨ho1.1, by rw [e]; exact ⟨rfl, ho1.2.2 c6⟩⟩
set_option maxRecDepth 100000 in
theorem wp_X3_wordOf {E : Ev} {M : Mem} {Q : QT} {t : Nat} (ht : t < 7) (h : Q (some (vS (10 + t))) M) : Mth E 0 0 0 kX3_wordOf [vI (nI t)] M Q := by
  refine mth_of (by decide +kernel) [some (vI (nI t))] (Nat.le_of_ble_eq_true rfl) rfl ?_
  refine g_iload_n dX3_wordOf_0 rfl rfl ?_
  have q : t = 0 ∨ t = 1 ∨ t = 2 ∨ t = 3 ∨ t = 4 ∨ t = 5 ∨ t = 6 := by omega
  rcases q with rfl | rfl | rfl | rfl | rfl | rfl | rfl
  · refine g_tableIn (tgt := 40) dX3_wordOf_1 (by decide) (by decide) (o := 39) (by decide) (by decide) ?_
    refine g_ldcS (i := 0) dX3_wordOf_40 rfl (by decide) ?_
    exact g_aretS dX3_wordOf_42 rfl h
  · refine g_tableIn (tgt := 43) dX3_wordOf_1 (by decide) (by decide) (o := 42) (by decide) (by decide) ?_
    refine g_ldcS (i := 1) dX3_wordOf_43 rfl (by decide) ?_
    exact g_aretS dX3_wordOf_45 rfl h
  · refine g_tableIn (tgt := 46) dX3_wordOf_1 (by decide) (by decide) (o := 45) (by decide) (by decide) ?_
    refine g_ldcS (i := 2) dX3_wordOf_46 rfl (by decide) ?_
    exact g_aretS dX3_wordOf_48 rfl h
  · refine g_tableIn (tgt := 49) dX3_wordOf_1 (by decide) (by decide) (o := 48) (by decide) (by decide) ?_
    refine g_ldcS (i := 3) dX3_wordOf_49 rfl (by decide) ?_
    exact g_aretS dX3_wordOf_51 rfl h
  · refine g_tableIn (tgt := 52) dX3_wordOf_1 (by decide) (by decide) (o := 51) (by decide) (by decide) ?_
    refine g_ldcS (i := 4) dX3_wordOf_52 rfl (by decide) ?_
    exact g_aretS dX3_wordOf_54 rfl h
  · refine g_tableIn (tgt := 55) dX3_wordOf_1 (by decide) (by decide) (o := 54) (by decide) (by decide) ?_
    refine g_ldcS (i := 5) dX3_wordOf_55 rfl (by decide) ?_
    exact g_aretS dX3_wordOf_57 rfl h
  · refine g_tableOut (tgt := 58) dX3_wordOf_1 (by decide) (by decide) ?_
    refine g_ldcS (i := 6) dX3_wordOf_58 rfl (by decide) ?_
    exact g_aretS dX3_wordOf_60 rfl h
theorem wIx_le (L : Tx) (p : Nat) : wIx L p ≤ 7 := by unfold wIx; (repeat' split) <;> decide
def wdF (L : Tx) (p j : Nat) : Int32 := if wIx L p < j then nI (wIx L p) else -1
theorem wIx_at {L : Tx} {p j : Nat} (hj : j < 7) : L p = (jsB j).getD 0 0 ↔ wIx L p = j := by
  have e : ∀ a b : Int32, L p = a → L p = b → a = b := fun a b h1 h2 => h1.symm.trans h2
  have q : j = 0 ∨ j = 1 ∨ j = 2 ∨ j = 3 ∨ j = 4 ∨ j = 5 ∨ j = 6 := by omega
  unfold wIx
  rcases q with rfl | rfl | rfl | rfl | rfl | rfl | rfl <;> simp only [jsB, List.getD_cons_zero, List.getD_cons_succ] <;> (split <;> (try split) <;> (try split) <;> (try split) <;> (try split) <;> (try split) <;> (try split) <;> (first | (simp [*]; done) | (simp_all; done) | (constructor <;> intro z <;> (first | (exfalso; exact absurd (e _ _ z (by assumption)) (by decide)) | contradiction | omega | assumption))))
theorem wdF_s {L : Tx} {p j : Nat} (h : wIx L p = j) : wdF L p (j + 1) = nI j := by unfold wdF; rw [h, if_pos (by omega)]
theorem wdF_n {L : Tx} {p j : Nat} (h : ¬ wIx L p = j) : wdF L p (j + 1) = wdF L p j := by
  unfold wdF
  by_cases q : wIx L p < j
  · rw [if_pos q, if_pos (by omega)]
  · rw [if_neg q, if_neg (by omega)]
theorem js_pos : ∀ t, t < 7 → 0 < (jsB t).length ∧ (jsB t).length ≤ 6 ∧ ∀ j, j < (jsB t).length → 48 ≤ ((jsB t).getD j 0).toInt := by decide +kernel
set_option maxHeartbeats 4000000 in
set_option maxRecDepth 100000 in
theorem lp_X3_word1 {E : Ev} {M : Mem} {Q : QT} (hW : Wi M) {L : Tx} {ll p : Nat} {wa : Int32} {S : Sc} (ht : TxOk L ll) (hr : RdS M L ll p wa S) (hp : p ≤ 160) (h : G E (rm 4 0 0) kX3_readWord (ZQ E Q 0 0) 0 0 33 [some (vR (8, 0, 0)), some (vI (wdF L p 7)), some (vI (nI 7)), none] [] M) : ∀ j, j ≤ 7 → G E (rm 4 0 0) kX3_readWord (ZQ E Q 0 0) 0 0 4 [some (vR (8, 0, 0)), some (vI (wdF L p j)), some (vI (nI j)), none] [] M := by
  refine up_loop 7 (fun j hj ih => ?_)
  refine g_iload_n dX3_readWord_4 rfl rfl ?_
  refine g_bipush dX3_readWord_5 (v := 7) (by decide) ?_
  refine g_icmp_ge (tgt := 33) dX3_readWord_7 (by decide) (fun c7 => ?_) (fun c7 => ?_)
  · have hj2 : j = 7 := by rw [show (7 : Int32) = nI 7 from rfl, nI_leI (by omega) (by omega)] at c7; omega
    subst hj2
    exact h
  · have hjn : j < 7 := by rw [show (7 : Int32) = nI 7 from rfl, nI_leI (by omega) (by omega)] at c7; omega
    refine g_aloadR_n dX3_readWord_10 rfl rfl ?_
    refine n_v0i (n' := 0) dX3_readWord_11 mX3_letter lX3_73 rfl hW vld_x8 rfl rfl ⟨Nat.le_of_ble_eq_true rfl, Nat.le_of_ble_eq_true rfl⟩ ⟨Nat.zero_le _, Nat.zero_le _⟩ (Nat.le_of_ble_eq_true rfl) ?_
    refine wp_X3_letter (by exact hW) ht hr hp ?_
    refine ⟨_, rfl, ?_⟩
    refine g_iload_n dX3_readWord_14 rfl rfl ?_
    refine n_s1s (n' := 0) dX3_readWord_15 mX3_wordOf lX3_76 ⟨Nat.le_of_ble_eq_true rfl, Nat.le_of_ble_eq_true rfl⟩ ⟨Nat.zero_le _, Nat.zero_le _⟩ (Nat.le_of_ble_eq_true rfl) ?_
    refine wp_X3_wordOf hjn ?_
    refine ⟨_, rfl, ?_⟩
    refine g_iconst dX3_readWord_18 (v := 0) (by decide) ?_
    refine n_charAt (t := j) (j := 0) dX3_readWord_19 lX3_80 hjn rfl (js_pos _ hjn).1 ⟨Nat.le_of_ble_eq_true rfl, Nat.le_of_ble_eq_true rfl⟩ ⟨Nat.zero_le _, Nat.zero_le _⟩ (Nat.le_of_ble_eq_true rfl) ?_
    refine g_icmp_ne (tgt := 27) dX3_readWord_22 (by decide) (fun c22 => ?_) (fun c22 => ?_)
    · have q22 := fun q => c22 ((wIx_at hjn).mpr q)
      refine g_iinc_2 (v := nI (j + 1)) dX3_readWord_27 rfl (nI_inc j) ?_
      refine g_goto (tgt := 4) dX3_readWord_30 (by decide) ?_
      have hi := ih hjn
      first
        | (rw [wdF_s q22] at hi; exact hi)
        | (rw [wdF_n q22] at hi; exact hi)
    · have c22 : L p = (jsB j).getD 0 0 := by first | exact c22 | exact Decidable.not_not.mp c22
      have q22 := (wIx_at hjn).mp c22
      refine g_iload_n dX3_readWord_25 rfl rfl ?_
      refine g_istore_1 dX3_readWord_26 rfl ?_
      refine g_iinc_2 (v := nI (j + 1)) dX3_readWord_27 rfl (nI_inc j) ?_
      refine g_goto (tgt := 4) dX3_readWord_30 (by decide) ?_
      have hi := ih hjn
      first
        | (rw [wdF_s q22] at hi; exact hi)
        | (rw [wdF_n q22] at hi; exact hi)
def WdO (L : Tx) (ll p : Nat) (wa : Int32) (S : Sc) (M M' : Mem) (v : Int32) : Prop := FrI DR M M' ∧ match rdWord L p with
  | .inl f => v = -1 ∧ mI M' (8, 0, 0) 1 = nI f
  | .inr (w, q) => v = nI w ∧ w < 7 ∧ q ≤ 160 ∧ RdS M' L ll q wa S
theorem mtI_s {L : Tx} {B : List Int32} {p i : Nat} (hi : i < B.length) (h : L (p + i) = B.getD i 0) : mtI L B p (B.length - i) i = mtI L B p (B.length - (i + 1)) (i + 1) := by
  obtain ⟨d, hd⟩ : ∃ d, B.length - i = d + 1 := ⟨B.length - i - 1, by omega⟩
  rw [hd, show B.length - (i + 1) = d by omega, mtI, if_pos h]
theorem mtI_n {L : Tx} {B : List Int32} {p i : Nat} (hi : i < B.length) (h : ¬ L (p + i) = B.getD i 0) : mtI L B p (B.length - i) i = i := by
  obtain ⟨d, hd⟩ : ∃ d, B.length - i = d + 1 := ⟨B.length - i - 1, by omega⟩
  rw [hd, mtI, if_neg h]
set_option maxHeartbeats 4000000 in
set_option maxRecDepth 100000 in
theorem lp_X3_word2 {E : Ev} {M0 : Mem} {Q : QT} {L : Tx} {ll p : Nat} {wa : Int32} {S : Sc} (ht : TxOk L ll) (hp0 : p ≤ 160) {w : Nat} (hw : w < 7) (hwi : wIx L p = w) (h : ∀ M' v, WdO L ll p wa S M0 M' v → Q (some (vI v)) M') : ∀ i, i ≤ (jsB w).length → ∀ (M : Mem), Wi M → FrI DR M0 M → RdS M L ll (p + i) wa S → p + i ≤ 160 → mtI L (jsB w) p ((jsB w).length - i) i = mt L (jsB w) p → G E (rm 4 0 0) kX3_readWord (ZQ E Q 0 0) 0 0 56 [some (vR (8, 0, 0)), some (vI (nI w)), some (vS (10 + w)), some (vI (nI i))] [] M := by
  refine up_loop (jsB w).length (fun i hi ih M hW hf0 hr hp hm => ?_)
  obtain ⟨jp1, jp2, jp3⟩ := js_pos w hw
  refine g_iload_n dX3_readWord_56 rfl rfl ?_
  refine g_aloadS_n dX3_readWord_57 rfl rfl ?_
  refine n_len (t := w) dX3_readWord_58 lX3_86 hw ⟨Nat.le_of_ble_eq_true rfl, Nat.le_of_ble_eq_true rfl⟩ ⟨Nat.zero_le _, Nat.zero_le _⟩ (Nat.le_of_ble_eq_true rfl) ?_
  refine g_icmp_ge (tgt := 84) dX3_readWord_61 (by decide) (fun c61 => ?_) (fun c61 => ?_)
  · rw [nI_leI (by omega) (by omega)] at c61
    have hi2 : i = (jsB w).length := by omega
    refine g_iload_n dX3_readWord_84 rfl rfl ?_
    refine g_iret dX3_readWord_85 rfl ?_
    have e : rdWord L p = .inr (w, p + (jsB w).length) := by
      have hm2 : mt L (jsB w) p = (jsB w).length := by rw [← hm, hi2, Nat.sub_self, mtI]
      unfold rdWord; rw [hwi, if_neg (by omega), if_pos hm2]
    exact h _ _ ⟨hf0, by rw [e]; exact ⟨rfl, hw, by omega, by rw [← hi2]; exact hr⟩⟩
  · rw [nI_leI (by omega) (by omega)] at c61
    have hin : i < (jsB w).length := by omega
    refine g_aloadR_n dX3_readWord_64 rfl rfl ?_
    refine g_aloadS_n dX3_readWord_65 rfl rfl ?_
    refine g_iload_n dX3_readWord_66 rfl rfl ?_
    refine n_charAt (t := w) (j := i) dX3_readWord_67 lX3_80 hw rfl hin ⟨Nat.le_of_ble_eq_true rfl, Nat.le_of_ble_eq_true rfl⟩ ⟨Nat.zero_le _, Nat.zero_le _⟩ (Nat.le_of_ble_eq_true rfl) ?_
    refine n_v1i (n' := 1) dX3_readWord_70 mX3_readSign lX3_47 rfl hW vld_x8 rfl rfl ⟨Nat.le_of_ble_eq_true rfl, Nat.le_of_ble_eq_true rfl⟩ ⟨Nat.zero_le _, Nat.zero_le _⟩ (Nat.le_of_ble_eq_true rfl) ?_
    refine wp_X3_readSign (by exact hW) ht hr hp (fun M1 ho1 => ?_)
    have hW1 := ho1.1.W (by exact hW)
    refine ⟨_, rfl, ?_⟩
    refine g_if_ne (tgt := 78) dX3_readWord_73 (by decide) (fun c73 => ?_) (fun c73 => ?_)
    · simp only [b2_0, Decidable.not_not] at c73
      refine g_iinc_3 (v := nI (i + 1)) dX3_readWord_78 rfl (nI_inc i) ?_
      refine g_goto (tgt := 56) dX3_readWord_81 (by decide) ?_
      obtain ⟨hr1, -⟩ := ho1.2.1 c73
      have hlt := ht.lt (p := p + i) (by rw [c73]; have := jp3 i hin; omega)
      exact ih hin M1 hW1 (hf0.tr ho1.1) hr1 (by have := ht.1; omega) ((mtI_s hin c73).symm.trans hm)
    · simp only [b2_0, Decidable.not_not] at c73
      refine g_iconst dX3_readWord_76 (v := (-1)) (by decide) ?_
      refine g_iret dX3_readWord_77 rfl ?_
      have e : rdWord L p = .inl (p + i) := by
        unfold rdWord; rw [hwi, if_neg (by omega), ← hm, mtI_n hin c73, if_neg (by omega)]
      exact h _ _ ⟨hf0.tr ho1.1, by rw [e]; exact ⟨rfl, ho1.2.2 c73⟩⟩
set_option maxHeartbeats 4000000 in
set_option maxRecDepth 100000 in
theorem wp_X3_readWord {E : Ev} {M : Mem} {Q : QT} (hW : Wi M) {L : Tx} {ll p : Nat} {wa : Int32} {S : Sc} (ht : TxOk L ll) (hr : RdS M L ll p wa S) (hp : p ≤ 160) (h : ∀ M' v, WdO L ll p wa S M M' v → Q (some (vI v)) M') : Mth E 4 0 0 kX3_readWord [vR (8, 0, 0)] M Q := by
  refine mth_of (by decide +kernel) [some (vR (8, 0, 0)), none, none, none] (Nat.le_of_ble_eq_true rfl) rfl ?_
  refine g_iconst dX3_readWord_0 (v := (-1)) (by decide) ?_
  refine g_istore_1 dX3_readWord_1 rfl ?_
  refine g_iconst dX3_readWord_2 (v := 0) (by decide) ?_
  refine g_istore_2 dX3_readWord_3 rfl ?_
  have hwl := wIx_le L p
  refine lp_X3_word1 hW ht hr hp ?_ 0 (Nat.zero_le _)
  refine g_iload_n dX3_readWord_33 rfl rfl ?_
  refine g_iconst dX3_readWord_34 (v := (-1)) (by decide) ?_
  refine g_icmp_ne (tgt := 49) dX3_readWord_35 (by decide) (fun c35 => ?_) (fun c35 => ?_)
  · have hw : wIx L p < 7 := by
      by_cases q : wIx L p < 7
      · exact q
      · exact absurd (if_neg q) c35
    have ew : wdF L p 7 = nI (wIx L p) := if_pos hw
    rw [ew]
    refine g_iload_n dX3_readWord_49 rfl rfl ?_
    refine n_s1s (n' := 0) dX3_readWord_50 mX3_wordOf lX3_76 ⟨Nat.le_of_ble_eq_true rfl, Nat.le_of_ble_eq_true rfl⟩ ⟨Nat.zero_le _, Nat.zero_le _⟩ (Nat.le_of_ble_eq_true rfl) ?_
    refine wp_X3_wordOf hw ?_
    refine ⟨_, rfl, ?_⟩
    refine g_astoreS_2 dX3_readWord_53 rfl ?_
    refine g_iconst dX3_readWord_54 (v := 0) (by decide) ?_
    refine g_istore_3 dX3_readWord_55 rfl ?_
    exact lp_X3_word2 ht hp hw rfl h 0 (Nat.zero_le _) M hW FrI.rf hr hp rfl
  · have c35 : wdF L p 7 = -1 := by first | exact c35 | exact Decidable.not_not.mp c35
    have hw : wIx L p = 7 := by
      by_cases q : wIx L p < 7
      · unfold wdF at c35
        rw [if_pos q] at c35
        have := nI_toInt (n := wIx L p) (by omega)
        rw [c35] at this; simp only [zcs] at this; omega
      · omega
    refine g_aloadR_n dX3_readWord_38 rfl rfl ?_
    refine g_aloadR_n dX3_readWord_39 rfl rfl ?_
    refine n_getI dX3_readWord_40 fX3_40 rfl hW vld_x8 (Or.inl rfl) ?_
    rw [hr.1]
    refine n_v1i (n' := 0) dX3_readWord_43 mX3_fail lX3_58 rfl hW vld_x8 rfl rfl ⟨Nat.le_of_ble_eq_true rfl, Nat.le_of_ble_eq_true rfl⟩ ⟨Nat.zero_le _, Nat.zero_le _⟩ (Nat.le_of_ble_eq_true rfl) ?_
    refine wp_X3_fail hW ?_
    refine ⟨_, rfl, ?_⟩
    refine g_pop dX3_readWord_46 rfl ?_
    refine g_iconst dX3_readWord_47 (v := (-1)) (by decide) ?_
    refine g_iret dX3_readWord_48 rfl ?_
    have e : rdWord L p = .inl p := by unfold rdWord; rw [if_pos hw]
    exact h _ _ ⟨fr8, by rw [e]; exact ⟨rfl, by simp [mI, sI]⟩⟩
