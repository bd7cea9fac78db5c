/-! MOVES -/
set_option maxHeartbeats 4000000 in
set_option maxRecDepth 100000 in
theorem wp_X0_isMove {E : Ev} {M : Mem} {Q : QT} {x : Int32} (h : Q (some (vI (b2 (IN x 3)))) M) : Mth E 0 0 0 kX0_isMove [vI x] M Q := by
  refine mth_of (by decide +kernel) [some (vI x)] (Nat.le_of_ble_eq_true rfl) rfl ?_
  refine g_iload_n dX0_isMove_0 rfl rfl ?_
  refine g_if_lt (tgt := 13) dX0_isMove_1 (by decide) (fun c1 => ?_) (fun c1 => ?_)
  · refine g_iconst dX0_isMove_13 (v := 0) (by decide) ?_
    refine g_zret dX0_isMove_14 rfl (Or.inl rfl) ?_
    exact qI h (b2_f (by simp only [IN, Int32.lt_iff_toInt_lt, Int32.le_iff_toInt_le, ← Int32.toInt_inj, zcs, zn] at *; omega))
  · refine g_iload_n dX0_isMove_4 rfl rfl ?_
    refine g_iconst dX0_isMove_5 (v := 3) (by decide) ?_
    refine g_icmp_ge (tgt := 13) dX0_isMove_6 (by decide) (fun c6 => ?_) (fun c6 => ?_)
    · refine g_iconst dX0_isMove_13 (v := 0) (by decide) ?_
      refine g_zret dX0_isMove_14 rfl (Or.inl rfl) ?_
      exact qI h (b2_f (by simp only [IN, Int32.lt_iff_toInt_lt, Int32.le_iff_toInt_le, ← Int32.toInt_inj, zcs, zn] at *; omega))
    · refine g_iconst dX0_isMove_9 (v := 1) (by decide) ?_
      refine g_goto (tgt := 14) dX0_isMove_10 (by decide) ?_
      refine g_zret dX0_isMove_14 rfl (Or.inr rfl) ?_
      exact qI h (b2_t (by simp only [IN, Int32.lt_iff_toInt_lt, Int32.le_iff_toInt_le, ← Int32.toInt_inj, zcs, zn] at *; omega))
set_option maxHeartbeats 4000000 in
set_option maxRecDepth 100000 in
theorem wp_X0_forget {E : Ev} {M : Mem} {Q : QT} (hW : Wi M) (h : Q none (sI M (10, 0, 0) 0 0)) : Mth E 0 0 0 kX0_forget [vR (10, 0, 0)] M Q := by
  refine mth_of (by decide +kernel) [some (vR (10, 0, 0))] (Nat.le_of_ble_eq_true rfl) rfl ?_
  refine g_aloadR_n dX0_forget_0 rfl rfl ?_
  refine g_iconst dX0_forget_1 (v := 0) (by decide) ?_
  refine n_putI dX0_forget_2 fX0_15 rfl hW vld_x10 rfl ?_
  refine g_vret dX0_forget_5 rfl ?_
  exact h
def boF (f mv : Int32) : Int32 := if IN (f * 3 + mv) 21 then (roV 3).getD (f * 3 + mv).toNatClampNeg 0 else -1
def trV (M : Mem) (i : Int32) : Int32 := if 0 ≤ i.toInt ∧ i.toInt < (mI M (10, 0, 0) 0).toInt ∧ i.toInt < 20 then mI M (11, 0, 0) i.toNatClampNeg else -1
def noM (M : Mem) (b : Int32) : Mem := if 0 ≤ (mI M (10, 0, 0) 0).toInt ∧ (mI M (10, 0, 0) 0).toInt < 20 then sI (sI M (11, 0, 0) (mI M (10, 0, 0) 0).toNatClampNeg b) (10, 0, 0) 0 (mI M (10, 0, 0) 0 + 1) else sI M (10, 0, 0) 0 (mI M (10, 0, 0) 0 + 1)
theorem noM_2 {M : Mem} {b : Int32} : (noM M b).2 = M.2 := by unfold noM; split <;> rfl
theorem noM_W {M : Mem} {b : Int32} (h : Wi M) : Wi (noM M b) := by unfold Wi; rw [noM_2]; exact h
theorem noM_f {M : Mem} {b : Int32} {f : Nat} (hf : f ≠ 0) : mI (noM M b) (10, 0, 0) f = mI M (10, 0, 0) f := by
  unfold noM; split <;> simp [mI, sI, hf]
def atF (mv : Int32) : Nat → Int32 → Int32
  | 0, a => a
  | d + 1, a => if boF a mv = -1 then atF mv d (ka a) else a
def bodyF (f mv : Int32) : Int32 := boF (atF mv 7 f) mv
set_option maxHeartbeats 4000000 in
set_option maxRecDepth 100000 in
theorem wp_X0_bodyOf {E : Ev} {M : Mem} {Q : QT} {f mv : Int32} (h : Q (some (vI (boF f mv))) M) : Mth E 0 0 0 kX0_bodyOf [vI f, vI mv] M Q := by
  refine mth_of (by decide +kernel) [some (vI f), some (vI mv), none] (Nat.le_of_ble_eq_true rfl) rfl ?_
  refine g_iload_n dX0_bodyOf_0 rfl rfl ?_
  refine g_iconst dX0_bodyOf_1 (v := 3) (by decide) ?_
  refine g_imul dX0_bodyOf_2 ?_
  refine g_iload_n dX0_bodyOf_3 rfl rfl ?_
  refine g_iadd dX0_bodyOf_4 ?_
  refine g_istore_2 dX0_bodyOf_5 rfl ?_
  refine g_iload_n dX0_bodyOf_6 rfl rfl ?_
  refine g_if_lt (tgt := 26) dX0_bodyOf_7 (by decide) (fun c7 => ?_) (fun c7 => ?_)
  · refine g_iconst dX0_bodyOf_26 (v := (-1)) (by decide) ?_
    refine g_iret dX0_bodyOf_27 rfl ?_
    exact qI h (by unfold boF; first | (rw [if_pos (by simp only [IN, Int32.lt_iff_toInt_lt, Int32.le_iff_toInt_le, ← Int32.toInt_inj, zcs, zn] at *; omega)]; done) | rw [if_neg (by simp only [IN, Int32.lt_iff_toInt_lt, Int32.le_iff_toInt_le, ← Int32.toInt_inj, zcs, zn] at *; omega)])
  · refine g_iload_n dX0_bodyOf_10 rfl rfl ?_
    refine g_gets (t := 3) dX0_bodyOf_11 (by decide) sX0_36 ?_
    refine n_alenS (n := 21) dX0_bodyOf_14 (by decide) rfl ?_
    refine g_icmp_ge (tgt := 26) dX0_bodyOf_15 (by decide) (fun c15 => ?_) (fun c15 => ?_)
    · refine g_iconst dX0_bodyOf_26 (v := (-1)) (by decide) ?_
      refine g_iret dX0_bodyOf_27 rfl ?_
      exact qI h (by unfold boF; first | (rw [if_pos (by simp only [IN, Int32.lt_iff_toInt_lt, Int32.le_iff_toInt_le, ← Int32.toInt_inj, zcs, zn] at *; omega)]; done) | rw [if_neg (by simp only [IN, Int32.lt_iff_toInt_lt, Int32.le_iff_toInt_le, ← Int32.toInt_inj, zcs, zn] at *; omega)])
    · refine g_gets (t := 3) dX0_bodyOf_18 (by decide) sX0_36 ?_
      refine g_iload_n dX0_bodyOf_21 rfl rfl ?_
      refine g_ialdS (j := (f * 3 + mv).toNatClampNeg) dX0_bodyOf_22 (by decide) (clamp_eq c7) (clamp_lt (n := 21) c7 c15 (by decide)) ?_
      refine g_goto (tgt := 27) dX0_bodyOf_23 (by decide) ?_
      refine g_iret dX0_bodyOf_27 rfl ?_
      exact qI h (by unfold boF; first | (rw [if_pos (by simp only [IN, Int32.lt_iff_toInt_lt, Int32.le_iff_toInt_le, ← Int32.toInt_inj, zcs, zn] at *; omega)]; done) | rw [if_neg (by simp only [IN, Int32.lt_iff_toInt_lt, Int32.le_iff_toInt_le, ← Int32.toInt_inj, zcs, zn] at *; omega)])
set_option maxHeartbeats 4000000 in
set_option maxRecDepth 100000 in
theorem wp_X0_bodyAt {E : Ev} {M : Mem} {Q : QT} (hW : Wi M) {i : Int32} (h : Q (some (vI (trV M i))) M) : Mth E 0 0 0 kX0_bodyAt [vR (10, 0, 0), vI i] M Q := by
  refine mth_of (by decide +kernel) [some (vR (10, 0, 0)), some (vI i)] (Nat.le_of_ble_eq_true rfl) rfl ?_
  refine g_iload_n dX0_bodyAt_0 rfl rfl ?_
  refine g_if_lt (tgt := 30) dX0_bodyAt_1 (by decide) (fun c1 => ?_) (fun c1 => ?_)
  · refine g_iconst dX0_bodyAt_30 (v := (-1)) (by decide) ?_
    refine g_iret dX0_bodyAt_31 rfl ?_
    exact qI h (by unfold trV; first | (rw [if_pos (by simp only [IN, Int32.lt_iff_toInt_lt, Int32.le_iff_toInt_le, ← Int32.toInt_inj, zcs, zn] at *; omega)]; done) | rw [if_neg (by simp only [IN, Int32.lt_iff_toInt_lt, Int32.le_iff_toInt_le, ← Int32.toInt_inj, zcs, zn] at *; omega)])
  · refine g_iload_n dX0_bodyAt_4 rfl rfl ?_
    refine g_aloadR_n dX0_bodyAt_5 rfl rfl ?_
    refine n_getI dX0_bodyAt_6 fX0_15 rfl hW vld_x10 (Or.inl rfl) ?_
    refine g_icmp_ge (tgt := 30) dX0_bodyAt_9 (by decide) (fun c9 => ?_) (fun c9 => ?_)
    · refine g_iconst dX0_bodyAt_30 (v := (-1)) (by decide) ?_
      refine g_iret dX0_bodyAt_31 rfl ?_
      exact qI h (by unfold trV; first | (rw [if_pos (by simp only [IN, Int32.lt_iff_toInt_lt, Int32.le_iff_toInt_le, ← Int32.toInt_inj, zcs, zn] at *; omega)]; done) | rw [if_neg (by simp only [IN, Int32.lt_iff_toInt_lt, Int32.le_iff_toInt_le, ← Int32.toInt_inj, zcs, zn] at *; omega)])
    · refine g_iload_n dX0_bodyAt_12 rfl rfl ?_
      refine g_aloadR_n dX0_bodyAt_13 rfl rfl ?_
      refine n_getR dX0_bodyAt_14 fX0_9 rfl hW vld_x10 rfl rfl ?_
      refine n_alen dX0_bodyAt_17 rfl (by decide) hW vld_x11 ?_
      refine g_icmp_ge (tgt := 30) dX0_bodyAt_18 (by decide) (fun c18 => ?_) (fun c18 => ?_)
      · refine g_iconst dX0_bodyAt_30 (v := (-1)) (by decide) ?_
        refine g_iret dX0_bodyAt_31 rfl ?_
        exact qI h (by unfold trV; first | (rw [if_pos (by simp only [IN, Int32.lt_iff_toInt_lt, Int32.le_iff_toInt_le, ← Int32.toInt_inj, zcs, zn] at *; omega)]; done) | rw [if_neg (by simp only [IN, Int32.lt_iff_toInt_lt, Int32.le_iff_toInt_le, ← Int32.toInt_inj, zcs, zn] at *; omega)])
      · refine g_aloadR_n dX0_bodyAt_21 rfl rfl ?_
        refine n_getR dX0_bodyAt_22 fX0_9 rfl hW vld_x10 rfl rfl ?_
        refine g_iload_n dX0_bodyAt_25 rfl rfl ?_
        refine n_iald (j := i.toNatClampNeg) dX0_bodyAt_26 rfl hW vld_x11 (by decide) (clamp_eq c1) (clamp_lt (n := 20) c1 c18 (by decide)) ?_
        refine g_goto (tgt := 31) dX0_bodyAt_27 (by decide) ?_
        refine g_iret dX0_bodyAt_31 rfl ?_
        exact qI h (by unfold trV; first | (rw [if_pos (by simp only [IN, Int32.lt_iff_toInt_lt, Int32.le_iff_toInt_le, ← Int32.toInt_inj, zcs, zn] at *; omega)]; done) | rw [if_neg (by simp only [IN, Int32.lt_iff_toInt_lt, Int32.le_iff_toInt_le, ← Int32.toInt_inj, zcs, zn] at *; omega)])
set_option maxHeartbeats 4000000 in
set_option maxRecDepth 100000 in
theorem wp_X0_note {E : Ev} {M : Mem} {Q : QT} (hW : Wi M) {b : Int32} (h : Q none (noM M b)) : Mth E 0 0 0 kX0_note [vR (10, 0, 0), vI b] M Q := by
  refine mth_of (by decide +kernel) [some (vR (10, 0, 0)), some (vI b)] (Nat.le_of_ble_eq_true rfl) rfl ?_
  refine g_aloadR_n dX0_note_0 rfl rfl ?_
  refine n_getI dX0_note_1 fX0_15 rfl hW vld_x10 (Or.inl rfl) ?_
  refine g_if_lt (tgt := 29) dX0_note_4 (by decide) (fun c4 => ?_) (fun c4 => ?_)
  · refine g_aloadR_n dX0_note_29 rfl rfl ?_
    refine g_dup dX0_note_30 rfl ?_
    refine n_getI dX0_note_31 fX0_15 rfl hW vld_x10 (Or.inl rfl) ?_
    refine g_iconst dX0_note_34 (v := 1) (by decide) ?_
    refine g_iadd dX0_note_35 ?_
    refine n_putI dX0_note_36 fX0_15 rfl hW vld_x10 rfl ?_
    refine g_vret dX0_note_39 rfl ?_
    refine qM h ?_
    unfold noM
    first
      | (rw [if_pos (by simp only [IN, Int32.lt_iff_toInt_lt, Int32.le_iff_toInt_le, ← Int32.toInt_inj, zcs, zn] at *; omega)]; simp [mI, sI]; done)
      | (rw [if_neg (by simp only [IN, Int32.lt_iff_toInt_lt, Int32.le_iff_toInt_le, ← Int32.toInt_inj, zcs, zn] at *; omega)]; done)
      | (rw [if_pos (by simp only [IN, Int32.lt_iff_toInt_lt, Int32.le_iff_toInt_le, ← Int32.toInt_inj, zcs, zn] at *; omega)]; done)
  · refine g_aloadR_n dX0_note_7 rfl rfl ?_
    refine n_getI dX0_note_8 fX0_15 rfl hW vld_x10 (Or.inl rfl) ?_
    refine g_aloadR_n dX0_note_11 rfl rfl ?_
    refine n_getR dX0_note_12 fX0_9 rfl hW vld_x10 rfl rfl ?_
    refine n_alen dX0_note_15 rfl (by decide) hW vld_x11 ?_
    refine g_icmp_ge (tgt := 29) dX0_note_16 (by decide) (fun c16 => ?_) (fun c16 => ?_)
    · refine g_aloadR_n dX0_note_29 rfl rfl ?_
      refine g_dup dX0_note_30 rfl ?_
      refine n_getI dX0_note_31 fX0_15 rfl hW vld_x10 (Or.inl rfl) ?_
      refine g_iconst dX0_note_34 (v := 1) (by decide) ?_
      refine g_iadd dX0_note_35 ?_
      refine n_putI dX0_note_36 fX0_15 rfl hW vld_x10 rfl ?_
      refine g_vret dX0_note_39 rfl ?_
      refine qM h ?_
      unfold noM
      first
        | (rw [if_pos (by simp only [IN, Int32.lt_iff_toInt_lt, Int32.le_iff_toInt_le, ← Int32.toInt_inj, zcs, zn] at *; omega)]; simp [mI, sI]; done)
        | (rw [if_neg (by simp only [IN, Int32.lt_iff_toInt_lt, Int32.le_iff_toInt_le, ← Int32.toInt_inj, zcs, zn] at *; omega)]; done)
        | (rw [if_pos (by simp only [IN, Int32.lt_iff_toInt_lt, Int32.le_iff_toInt_le, ← Int32.toInt_inj, zcs, zn] at *; omega)]; done)
    · refine g_aloadR_n dX0_note_19 rfl rfl ?_
      refine n_getR dX0_note_20 fX0_9 rfl hW vld_x10 rfl rfl ?_
      refine g_aloadR_n dX0_note_23 rfl rfl ?_
      refine n_getI dX0_note_24 fX0_15 rfl hW vld_x10 (Or.inl rfl) ?_
      refine g_iload_n dX0_note_27 rfl rfl ?_
      refine n_iast (j := (mI M (10, 0, 0) 0).toNatClampNeg) dX0_note_28 rfl hW vld_x11 (by decide) (clamp_eq c4) (clamp_lt (n := 20) c4 c16 (by decide)) ?_
      refine g_aloadR_n dX0_note_29 rfl rfl ?_
      refine g_dup dX0_note_30 rfl ?_
      refine n_getI dX0_note_31 fX0_15 rfl hW vld_x10 (Or.inl rfl) ?_
      refine g_iconst dX0_note_34 (v := 1) (by decide) ?_
      refine g_iadd dX0_note_35 ?_
      refine n_putI dX0_note_36 fX0_15 rfl hW vld_x10 rfl ?_
      refine g_vret dX0_note_39 rfl ?_
      refine qM h ?_
      unfold noM
      first
        | (rw [if_pos (by simp only [IN, Int32.lt_iff_toInt_lt, Int32.le_iff_toInt_le, ← Int32.toInt_inj, zcs, zn] at *; omega)]; simp [mI, sI]; done)
        | (rw [if_neg (by simp only [IN, Int32.lt_iff_toInt_lt, Int32.le_iff_toInt_le, ← Int32.toInt_inj, zcs, zn] at *; omega)]; done)
        | (rw [if_pos (by simp only [IN, Int32.lt_iff_toInt_lt, Int32.le_iff_toInt_le, ← Int32.toInt_inj, zcs, zn] at *; omega)]; done)
/-- a call answers v and leaves Mf -/
def Prf (E : Ev) (n : Nat) (b x : Int32) (dp : Nat) (M : Mem) (v : Int32) (Mf : Mem) : Prop := ∀ Q : QT, Q (some (vI v)) Mf → Mth E n 0 0 kX0_perform [vR (10, 0, 0), vI b, vI x, vI (nI dp)] M Q
def Cal (E : Ev) (n : Nat) (f mv x : Int32) (dp : Nat) (M : Mem) (v : Int32) (Mf : Mem) : Prop := ∀ Q : QT, Q (some (vI v)) Mf → Mth E n 0 0 kX0_call [vR (10, 0, 0), vI f, vI mv, vI x, vI (nI dp)] M Q
set_option maxHeartbeats 4000000 in
set_option maxRecDepth 100000 in
theorem lp_X0_call {E : Ev} {M : Mem} {Q : QT} (hW : Wi M) {n : Nat} {f mv x v : Int32} {dp : Nat} {Mf : Mem} (hp : Prf E n (bodyF f mv) x (dp + 1) (noM M (bodyF f mv)) v Mf) (h : Q (some (vI v)) Mf) : ∀ j, j ≤ 7 → ∀ a, atF mv (7 - j) a = atF mv 7 f → G E (rm (n + 1) 0 0) kX0_call (ZQ E Q 0 0) 0 0 15 [some (vR (10, 0, 0)), some (vI f), some (vI mv), some (vI x), some (vI (nI dp)), some (vI a), some (vI (nI j))] [] M := by
  refine up_loop 7 (fun j hj ih a ha => ?_)
  have hW2 : Wi (noM M (bodyF f mv)) := noM_W hW
  refine g_iload dX0_call_15 rfl ?_
  refine g_getsN (t := 0) dX0_call_17 (by decide) sX0_39 ?_
  refine n_alenS (n := 7) dX0_call_20 (by decide) rfl ?_
  refine g_icmp_ge (tgt := 47) dX0_call_21 (by decide) (fun c21 => ?_) (fun c21 => ?_)
  · have hj7 : j = 7 := by rw [nI_leI (by omega) (by omega)] at c21; omega
    subst hj7
    have ha2 : a = atF mv 7 f := ha
    refine g_iload dX0_call_47 rfl ?_
    refine g_iload_n dX0_call_49 rfl rfl ?_
    refine n_s2i (n' := 0) dX0_call_50 mX0_bodyOf lX0_42 ⟨by show 0 + 1 ≤ n + 1; omega, by show 8 + (3 + 11) + 44 * 0 ≤ 44 * (n + 1); omega⟩ ⟨Nat.zero_le _, Nat.zero_le _⟩ (Nat.le_of_ble_eq_true rfl) ?_
    refine wp_X0_bodyOf ?_
    refine ⟨_, rfl, ?_⟩
    rw [ha2, show boF (atF mv 7 f) mv = bodyF f mv from rfl]
    refine g_istore_6 dX0_call_53 rfl ?_
    refine g_aloadR_n dX0_call_55 rfl rfl ?_
    refine g_iload dX0_call_56 rfl ?_
    refine n_v1v (n' := 0) dX0_call_58 mX0_note lX0_50 rfl hW vld_x10 rfl rfl ⟨by show 0 + 1 ≤ n + 1; omega, by show 8 + (2 + 11) + 44 * 0 ≤ 44 * (n + 1); omega⟩ ⟨Nat.zero_le _, Nat.zero_le _⟩ (Nat.le_of_ble_eq_true rfl) ?_
    refine wp_X0_note (by exact hW) ?_
    refine ⟨rfl, ?_⟩
    refine g_aloadR_n dX0_call_61 rfl rfl ?_
    refine g_iload dX0_call_62 rfl ?_
    refine g_iload_n dX0_call_64 rfl rfl ?_
    refine g_iload dX0_call_65 rfl ?_
    refine g_iconst dX0_call_67 (v := 1) (by decide) ?_
    refine g_iadd dX0_call_68 ?_
    rw [show nI dp + 1 = nI (dp + 1) from nI_1 dp]
    refine n_v3i (n' := n) dX0_call_69 mX0_perform lX0_54 rfl hW2 vld_x10 rfl rfl ⟨by show n + 1 ≤ n + 1; omega, by show 8 + (4 + 11) + 44 * n ≤ 44 * (n + 1); omega⟩ ⟨Nat.zero_le _, Nat.zero_le _⟩ (Nat.le_of_ble_eq_true rfl) ?_
    refine hp _ ?_
    refine ⟨_, rfl, ?_⟩
    refine g_iret dX0_call_72 rfl ?_
    exact h
  · have hj7 : j < 7 := by rw [nI_leI (by omega) (by omega)] at c21; omega
    obtain ⟨d, hd⟩ : ∃ d, 7 - j = d + 1 := ⟨6 - j, by omega⟩
    have hd2 : 7 - (j + 1) = d := by omega
    rw [hd, atF] at ha
    refine g_iload dX0_call_24 rfl ?_
    refine g_iload_n dX0_call_26 rfl rfl ?_
    refine n_s2i (n' := 0) dX0_call_27 mX0_bodyOf lX0_42 ⟨by show 0 + 1 ≤ n + 1; omega, by show 8 + (3 + 11) + 44 * 0 ≤ 44 * (n + 1); omega⟩ ⟨Nat.zero_le _, Nat.zero_le _⟩ (Nat.le_of_ble_eq_true rfl) ?_
    refine wp_X0_bodyOf ?_
    refine ⟨_, rfl, ?_⟩
    refine g_iconst dX0_call_30 (v := (-1)) (by decide) ?_
    refine g_icmp_ne (tgt := 47) dX0_call_31 (by decide) (fun c31 => ?_) (fun c31 => ?_)
    · have ha2 : a = atF mv 7 f := by rw [if_neg c31] at ha; exact ha
      refine g_iload dX0_call_47 rfl ?_
      refine g_iload_n dX0_call_49 rfl rfl ?_
      refine n_s2i (n' := 0) dX0_call_50 mX0_bodyOf lX0_42 ⟨by show 0 + 1 ≤ n + 1; omega, by show 8 + (3 + 11) + 44 * 0 ≤ 44 * (n + 1); omega⟩ ⟨Nat.zero_le _, Nat.zero_le _⟩ (Nat.le_of_ble_eq_true rfl) ?_
      refine wp_X0_bodyOf ?_
      refine ⟨_, rfl, ?_⟩
      rw [ha2, show boF (atF mv 7 f) mv = bodyF f mv from rfl]
      refine g_istore_6 dX0_call_53 rfl ?_
      refine g_aloadR_n dX0_call_55 rfl rfl ?_
      refine g_iload dX0_call_56 rfl ?_
      refine n_v1v (n' := 0) dX0_call_58 mX0_note lX0_50 rfl hW vld_x10 rfl rfl ⟨by show 0 + 1 ≤ n + 1; omega, by show 8 + (2 + 11) + 44 * 0 ≤ 44 * (n + 1); omega⟩ ⟨Nat.zero_le _, Nat.zero_le _⟩ (Nat.le_of_ble_eq_true rfl) ?_
      refine wp_X0_note (by exact hW) ?_
      refine ⟨rfl, ?_⟩
      refine g_aloadR_n dX0_call_61 rfl rfl ?_
      refine g_iload dX0_call_62 rfl ?_
      refine g_iload_n dX0_call_64 rfl rfl ?_
      refine g_iload dX0_call_65 rfl ?_
      refine g_iconst dX0_call_67 (v := 1) (by decide) ?_
      refine g_iadd dX0_call_68 ?_
      rw [show nI dp + 1 = nI (dp + 1) from nI_1 dp]
      refine n_v3i (n' := n) dX0_call_69 mX0_perform lX0_54 rfl hW2 vld_x10 rfl rfl ⟨by show n + 1 ≤ n + 1; omega, by show 8 + (4 + 11) + 44 * n ≤ 44 * (n + 1); omega⟩ ⟨Nat.zero_le _, Nat.zero_le _⟩ (Nat.le_of_ble_eq_true rfl) ?_
      refine hp _ ?_
      refine ⟨_, rfl, ?_⟩
      refine g_iret dX0_call_72 rfl ?_
      exact h
    · rw [if_pos c31] at ha
      refine g_iload dX0_call_34 rfl ?_
      refine n_n1i (n' := 0) dX0_call_36 mX6_kindAbove lX0_46 ⟨by show 0 + 1 ≤ n + 1; omega, by show 8 + (1 + 11) + 44 * 0 ≤ 44 * (n + 1); omega⟩ ⟨Nat.zero_le _, Nat.zero_le _⟩ (Nat.le_of_ble_eq_true rfl) ?_
      refine wp_X6_kindAbove ?_
      refine ⟨_, rfl, ?_⟩
      refine g_istore_5 dX0_call_39 rfl ?_
      refine g_iinc_6 (v := nI (j + 1)) dX0_call_41 rfl (nI_inc j) ?_
      refine g_goto (tgt := 15) dX0_call_44 (by decide) ?_
      exact ih hj7 _ (by rw [hd2]; exact ha)
set_option maxHeartbeats 4000000 in
set_option maxRecDepth 100000 in
theorem wp_X0_call {E : Ev} {M : Mem} {Q : QT} (hW : Wi M) {n : Nat} {f mv x v : Int32} {dp : Nat} {Mf : Mem} (hdp : dp ≤ 30) (hp : Prf E n (bodyF f mv) x (dp + 1) (noM M (bodyF f mv)) v Mf) (h : Q (some (vI v)) Mf) : Mth E (n + 1) 0 0 kX0_call [vR (10, 0, 0), vI f, vI mv, vI x, vI (nI dp)] M Q := by
  refine mth_of (by decide +kernel) [some (vR (10, 0, 0)), some (vI f), some (vI mv), some (vI x), some (vI (nI dp)), none, none] (Nat.le_of_ble_eq_true rfl) rfl ?_
  refine g_iload dX0_call_0 rfl ?_
  refine g_bipush dX0_call_2 (v := 30) (by decide) ?_
  refine g_icmp_le (tgt := 9) dX0_call_4 (by decide) (fun c4 => ?_) (fun c4 => ?_)
  · refine g_iload_n dX0_call_9 rfl rfl ?_
    refine g_istore_5 dX0_call_10 rfl ?_
    refine g_iconst dX0_call_12 (v := 0) (by decide) ?_
    refine g_istore_6 dX0_call_13 rfl ?_
    exact lp_X0_call hW hp h 0 (by decide) f rfl
  · exact absurd (nI_le (a := dp) (b := 30) hdp (by decide)) c4
theorem cal_of {E : Ev} {M : Mem} {n : Nat} {f mv x v : Int32} {dp : Nat} {Mf : Mem} (hW : Wi M) (hdp : dp ≤ 30) {b : Int32} (hb : bodyF f mv = b) (hp : Prf E n b x (dp + 1) (noM M b) v Mf) : Cal E (n + 1) f mv x dp M v Mf := fun Q h => wp_X0_call hW hdp (by rw [hb]; exact hp) h
set_option maxHeartbeats 4000000 in
set_option maxRecDepth 100000 in
theorem pf_10 {E : Ev} {M : Mem} {Q : QT} (hW : Wi M) {n : Nat} {x : Int32} {dp : Nat} (h : Q (some (vI (x + mI M (10, 0, 0) 2))) M) : Mth E n 0 0 kX0_perform [vR (10, 0, 0), vI 10, vI x, vI (nI dp)] M Q := by
  refine mth_of (by decide +kernel) [some (vR (10, 0, 0)), some (vI 10), some (vI x), some (vI (nI dp))] (Nat.le_of_ble_eq_true rfl) rfl ?_
  refine g_iload_n dX0_perform_0 rfl rfl ?_
  refine g_lookup (tgt := 100) (o := 99) dX0_perform_1 (by decide) (by decide +kernel) (by decide) ?_
  refine g_iload_n dX0_perform_100 rfl rfl ?_
  refine g_aloadR_n dX0_perform_101 rfl rfl ?_
  refine n_getI dX0_perform_102 fX0_19 rfl hW vld_x10 (Or.inl rfl) ?_
  refine g_iadd dX0_perform_105 ?_
  refine g_iret dX0_perform_106 rfl ?_
  exact h
set_option maxHeartbeats 4000000 in
set_option maxRecDepth 100000 in
theorem pf_11 {E : Ev} {M : Mem} {Q : QT} (hW : Wi M) {n : Nat} {x : Int32} {dp : Nat} {v : Int32} {Mf : Mem} (hC : Cal E n (mI M (10, 0, 0) 3) 0 (x) dp M v Mf) (h : Q (some (vI (v * 2))) Mf) : Mth E (n + 1) 0 0 kX0_perform [vR (10, 0, 0), vI 11, vI x, vI (nI dp)] M Q := by
  refine mth_of (by decide +kernel) [some (vR (10, 0, 0)), some (vI 11), some (vI x), some (vI (nI dp))] (Nat.le_of_ble_eq_true rfl) rfl ?_
  refine g_iload_n dX0_perform_0 rfl rfl ?_
  refine g_lookup (tgt := 107) (o := 106) dX0_perform_1 (by decide) (by decide +kernel) (by decide) ?_
  refine g_aloadR_n dX0_perform_107 rfl rfl ?_
  refine g_aloadR_n dX0_perform_108 rfl rfl ?_
  refine n_getI dX0_perform_109 fX0_27 rfl hW vld_x10 (Or.inl rfl) ?_
  refine g_iconst dX0_perform_112 (v := 0) (by decide) ?_
  refine g_iload_n dX0_perform_113 rfl rfl ?_
  refine g_iload_n dX0_perform_114 rfl rfl ?_
  refine n_v4i (n' := n) dX0_perform_115 mX0_call lX0_32 rfl hW vld_x10 rfl rfl ⟨by show n + 1 ≤ n + 1; omega, by show 8 + (7 + 11) + 44 * n ≤ 44 * (n + 1); omega⟩ ⟨Nat.zero_le _, Nat.zero_le _⟩ (Nat.le_of_ble_eq_true rfl) ?_
  refine hC _ ?_
  refine ⟨_, rfl, ?_⟩
  refine g_iconst dX0_perform_118 (v := 2) (by decide) ?_
  refine g_imul dX0_perform_119 ?_
  refine g_iret dX0_perform_120 rfl ?_
  exact h
set_option maxHeartbeats 4000000 in
set_option maxRecDepth 100000 in
theorem pf_20 {E : Ev} {M : Mem} {Q : QT} (hW : Wi M) {n : Nat} {x : Int32} {dp : Nat} {v : Int32} {Mf : Mem} (hC : Cal E n (ka 1) 0 (x) dp M v Mf) (hWf : Wi Mf) (h : Q (some (vI (v + mI Mf (10, 0, 0) 4))) Mf) : Mth E (n + 1) 0 0 kX0_perform [vR (10, 0, 0), vI 20, vI x, vI (nI dp)] M Q := by
  refine mth_of (by decide +kernel) [some (vR (10, 0, 0)), some (vI 20), some (vI x), some (vI (nI dp))] (Nat.le_of_ble_eq_true rfl) rfl ?_
  refine g_iload_n dX0_perform_0 rfl rfl ?_
  refine g_lookup (tgt := 150) (o := 149) dX0_perform_1 (by decide) (by decide +kernel) (by decide) ?_
  refine g_aloadR_n dX0_perform_150 rfl rfl ?_
  refine g_iconst dX0_perform_151 (v := 1) (by decide) ?_
  refine n_n1i (n' := 0) dX0_perform_152 mX6_kindAbove lX0_46 ⟨by show 0 + 1 ≤ n + 1; omega, by show 8 + (1 + 11) + 44 * 0 ≤ 44 * (n + 1); omega⟩ ⟨Nat.zero_le _, Nat.zero_le _⟩ (Nat.le_of_ble_eq_true rfl) ?_
  refine wp_X6_kindAbove ?_
  refine ⟨_, rfl, ?_⟩
  refine g_iconst dX0_perform_155 (v := 0) (by decide) ?_
  refine g_iload_n dX0_perform_156 rfl rfl ?_
  refine g_iload_n dX0_perform_157 rfl rfl ?_
  refine n_v4i (n' := n) dX0_perform_158 mX0_call lX0_32 rfl hW vld_x10 rfl rfl ⟨by show n + 1 ≤ n + 1; omega, by show 8 + (7 + 11) + 44 * n ≤ 44 * (n + 1); omega⟩ ⟨Nat.zero_le _, Nat.zero_le _⟩ (Nat.le_of_ble_eq_true rfl) ?_
  refine hC _ ?_
  refine ⟨_, rfl, ?_⟩
  refine g_aloadR_n dX0_perform_161 rfl rfl ?_
  have hW0 := hWf
  refine n_getI dX0_perform_162 fX0_31 rfl hWf vld_x10 (Or.inl rfl) ?_
  refine g_iadd dX0_perform_165 ?_
  refine g_iret dX0_perform_166 rfl ?_
  exact h
set_option maxHeartbeats 4000000 in
set_option maxRecDepth 100000 in
theorem pf_30 {E : Ev} {M : Mem} {Q : QT} (hW : Wi M) {n : Nat} {x : Int32} {dp : Nat} {v : Int32} {Mf : Mem} (hC : Cal E n (ka 2) 1 (x) dp M v Mf) (h : Q (some (vI (v * 3))) Mf) : Mth E (n + 1) 0 0 kX0_perform [vR (10, 0, 0), vI 30, vI x, vI (nI dp)] M Q := by
  refine mth_of (by decide +kernel) [some (vR (10, 0, 0)), some (vI 30), some (vI x), some (vI (nI dp))] (Nat.le_of_ble_eq_true rfl) rfl ?_
  refine g_iload_n dX0_perform_0 rfl rfl ?_
  refine g_lookup (tgt := 167) (o := 166) dX0_perform_1 (by decide) (by decide +kernel) (by decide) ?_
  refine g_aloadR_n dX0_perform_167 rfl rfl ?_
  refine g_iconst dX0_perform_168 (v := 2) (by decide) ?_
  refine n_n1i (n' := 0) dX0_perform_169 mX6_kindAbove lX0_46 ⟨by show 0 + 1 ≤ n + 1; omega, by show 8 + (1 + 11) + 44 * 0 ≤ 44 * (n + 1); omega⟩ ⟨Nat.zero_le _, Nat.zero_le _⟩ (Nat.le_of_ble_eq_true rfl) ?_
  refine wp_X6_kindAbove ?_
  refine ⟨_, rfl, ?_⟩
  refine g_iconst dX0_perform_172 (v := 1) (by decide) ?_
  refine g_iload_n dX0_perform_173 rfl rfl ?_
  refine g_iload_n dX0_perform_174 rfl rfl ?_
  refine n_v4i (n' := n) dX0_perform_175 mX0_call lX0_32 rfl hW vld_x10 rfl rfl ⟨by show n + 1 ≤ n + 1; omega, by show 8 + (7 + 11) + 44 * n ≤ 44 * (n + 1); omega⟩ ⟨Nat.zero_le _, Nat.zero_le _⟩ (Nat.le_of_ble_eq_true rfl) ?_
  refine hC _ ?_
  refine ⟨_, rfl, ?_⟩
  refine g_iconst dX0_perform_178 (v := 3) (by decide) ?_
  refine g_imul dX0_perform_179 ?_
  refine g_iret dX0_perform_180 rfl ?_
  exact h
set_option maxHeartbeats 4000000 in
set_option maxRecDepth 100000 in
theorem pf_40 {E : Ev} {M : Mem} {Q : QT} (hW : Wi M) {n : Nat} {x : Int32} {dp : Nat} {v : Int32} {Mf : Mem} (hC : Cal E n (ka 3) 0 (x + 1) dp M v Mf) (h : Q (some (vI (v))) Mf) : Mth E (n + 1) 0 0 kX0_perform [vR (10, 0, 0), vI 40, vI x, vI (nI dp)] M Q := by
  refine mth_of (by decide +kernel) [some (vR (10, 0, 0)), some (vI 40), some (vI x), some (vI (nI dp))] (Nat.le_of_ble_eq_true rfl) rfl ?_
  refine g_iload_n dX0_perform_0 rfl rfl ?_
  refine g_lookup (tgt := 181) (o := 180) dX0_perform_1 (by decide) (by decide +kernel) (by decide) ?_
  refine g_aloadR_n dX0_perform_181 rfl rfl ?_
  refine g_iconst dX0_perform_182 (v := 3) (by decide) ?_
  refine n_n1i (n' := 0) dX0_perform_183 mX6_kindAbove lX0_46 ⟨by show 0 + 1 ≤ n + 1; omega, by show 8 + (1 + 11) + 44 * 0 ≤ 44 * (n + 1); omega⟩ ⟨Nat.zero_le _, Nat.zero_le _⟩ (Nat.le_of_ble_eq_true rfl) ?_
  refine wp_X6_kindAbove ?_
  refine ⟨_, rfl, ?_⟩
  refine g_iconst dX0_perform_186 (v := 0) (by decide) ?_
  refine g_iload_n dX0_perform_187 rfl rfl ?_
  refine g_iconst dX0_perform_188 (v := 1) (by decide) ?_
  refine g_iadd dX0_perform_189 ?_
  refine g_iload_n dX0_perform_190 rfl rfl ?_
  refine n_v4i (n' := n) dX0_perform_191 mX0_call lX0_32 rfl hW vld_x10 rfl rfl ⟨by show n + 1 ≤ n + 1; omega, by show 8 + (7 + 11) + 44 * n ≤ 44 * (n + 1); omega⟩ ⟨Nat.zero_le _, Nat.zero_le _⟩ (Nat.le_of_ble_eq_true rfl) ?_
  refine hC _ ?_
  refine ⟨_, rfl, ?_⟩
  refine g_iret dX0_perform_194 rfl ?_
  exact h
set_option maxHeartbeats 4000000 in
set_option maxRecDepth 100000 in
theorem pf_50 {E : Ev} {M : Mem} {Q : QT} (hW : Wi M) {n : Nat} {x : Int32} {dp : Nat} {v : Int32} {Mf : Mem} (hC : Cal E n (ka 5) 2 (x) dp M v Mf) (h : Q (some (vI (-v))) Mf) : Mth E (n + 1) 0 0 kX0_perform [vR (10, 0, 0), vI 50, vI x, vI (nI dp)] M Q := by
  refine mth_of (by decide +kernel) [some (vR (10, 0, 0)), some (vI 50), some (vI x), some (vI (nI dp))] (Nat.le_of_ble_eq_true rfl) rfl ?_
  refine g_iload_n dX0_perform_0 rfl rfl ?_
  refine g_lookup (tgt := 195) (o := 194) dX0_perform_1 (by decide) (by decide +kernel) (by decide) ?_
  refine g_aloadR_n dX0_perform_195 rfl rfl ?_
  refine g_iconst dX0_perform_196 (v := 5) (by decide) ?_
  refine n_n1i (n' := 0) dX0_perform_197 mX6_kindAbove lX0_46 ⟨by show 0 + 1 ≤ n + 1; omega, by show 8 + (1 + 11) + 44 * 0 ≤ 44 * (n + 1); omega⟩ ⟨Nat.zero_le _, Nat.zero_le _⟩ (Nat.le_of_ble_eq_true rfl) ?_
  refine wp_X6_kindAbove ?_
  refine ⟨_, rfl, ?_⟩
  refine g_iconst dX0_perform_200 (v := 2) (by decide) ?_
  refine g_iload_n dX0_perform_201 rfl rfl ?_
  refine g_iload_n dX0_perform_202 rfl rfl ?_
  refine n_v4i (n' := n) dX0_perform_203 mX0_call lX0_32 rfl hW vld_x10 rfl rfl ⟨by show n + 1 ≤ n + 1; omega, by show 8 + (7 + 11) + 44 * n ≤ 44 * (n + 1); omega⟩ ⟨Nat.zero_le _, Nat.zero_le _⟩ (Nat.le_of_ble_eq_true rfl) ?_
  refine hC _ ?_
  refine ⟨_, rfl, ?_⟩
  refine g_ineg dX0_perform_206 ?_
  refine g_iret dX0_perform_207 rfl ?_
  exact h
set_option maxHeartbeats 4000000 in
set_option maxRecDepth 100000 in
theorem pf_51 {E : Ev} {M : Mem} {Q : QT} (hW : Wi M) {n : Nat} {x : Int32} {dp : Nat} {v : Int32} {Mf : Mem} (hC : Cal E n (ka 5) 0 (x) dp M v Mf) (hWf : Wi Mf) (h : Q (some (vI (v - mI Mf (10, 0, 0) 2))) Mf) : Mth E (n + 1) 0 0 kX0_perform [vR (10, 0, 0), vI 51, vI x, vI (nI dp)] M Q := by
  refine mth_of (by decide +kernel) [some (vR (10, 0, 0)), some (vI 51), some (vI x), some (vI (nI dp))] (Nat.le_of_ble_eq_true rfl) rfl ?_
  refine g_iload_n dX0_perform_0 rfl rfl ?_
  refine g_lookup (tgt := 208) (o := 207) dX0_perform_1 (by decide) (by decide +kernel) (by decide) ?_
  refine g_aloadR_n dX0_perform_208 rfl rfl ?_
  refine g_iconst dX0_perform_209 (v := 5) (by decide) ?_
  refine n_n1i (n' := 0) dX0_perform_210 mX6_kindAbove lX0_46 ⟨by show 0 + 1 ≤ n + 1; omega, by show 8 + (1 + 11) + 44 * 0 ≤ 44 * (n + 1); omega⟩ ⟨Nat.zero_le _, Nat.zero_le _⟩ (Nat.le_of_ble_eq_true rfl) ?_
  refine wp_X6_kindAbove ?_
  refine ⟨_, rfl, ?_⟩
  refine g_iconst dX0_perform_213 (v := 0) (by decide) ?_
  refine g_iload_n dX0_perform_214 rfl rfl ?_
  refine g_iload_n dX0_perform_215 rfl rfl ?_
  refine n_v4i (n' := n) dX0_perform_216 mX0_call lX0_32 rfl hW vld_x10 rfl rfl ⟨by show n + 1 ≤ n + 1; omega, by show 8 + (7 + 11) + 44 * n ≤ 44 * (n + 1); omega⟩ ⟨Nat.zero_le _, Nat.zero_le _⟩ (Nat.le_of_ble_eq_true rfl) ?_
  refine hC _ ?_
  refine ⟨_, rfl, ?_⟩
  refine g_aloadR_n dX0_perform_219 rfl rfl ?_
  refine n_getI dX0_perform_220 fX0_19 rfl hWf vld_x10 (Or.inl rfl) ?_
  refine g_isub dX0_perform_223 ?_
  refine g_iret dX0_perform_224 rfl ?_
  exact h
set_option maxHeartbeats 4000000 in
set_option maxRecDepth 100000 in
theorem pf_60 {E : Ev} {M : Mem} {Q : QT} (hW : Wi M) {n : Nat} {x : Int32} {dp : Nat} {v : Int32} {Mf : Mem} (hC : Cal E n (ka 4) 2 (x) dp M v Mf) (h : Q (some (vI (v ^^^ 5))) Mf) : Mth E (n + 1) 0 0 kX0_perform [vR (10, 0, 0), vI 60, vI x, vI (nI dp)] M Q := by
  refine mth_of (by decide +kernel) [some (vR (10, 0, 0)), some (vI 60), some (vI x), some (vI (nI dp))] (Nat.le_of_ble_eq_true rfl) rfl ?_
  refine g_iload_n dX0_perform_0 rfl rfl ?_
  refine g_lookup (tgt := 225) (o := 224) dX0_perform_1 (by decide) (by decide +kernel) (by decide) ?_
  refine g_aloadR_n dX0_perform_225 rfl rfl ?_
  refine g_iconst dX0_perform_226 (v := 4) (by decide) ?_
  refine n_n1i (n' := 0) dX0_perform_227 mX6_kindAbove lX0_46 ⟨by show 0 + 1 ≤ n + 1; omega, by show 8 + (1 + 11) + 44 * 0 ≤ 44 * (n + 1); omega⟩ ⟨Nat.zero_le _, Nat.zero_le _⟩ (Nat.le_of_ble_eq_true rfl) ?_
  refine wp_X6_kindAbove ?_
  refine ⟨_, rfl, ?_⟩
  refine g_iconst dX0_perform_230 (v := 2) (by decide) ?_
  refine g_iload_n dX0_perform_231 rfl rfl ?_
  refine g_iload_n dX0_perform_232 rfl rfl ?_
  refine n_v4i (n' := n) dX0_perform_233 mX0_call lX0_32 rfl hW vld_x10 rfl rfl ⟨by show n + 1 ≤ n + 1; omega, by show 8 + (7 + 11) + 44 * n ≤ 44 * (n + 1); omega⟩ ⟨Nat.zero_le _, Nat.zero_le _⟩ (Nat.le_of_ble_eq_true rfl) ?_
  refine hC _ ?_
  refine ⟨_, rfl, ?_⟩
  refine g_iconst dX0_perform_236 (v := 5) (by decide) ?_
  refine g_ixor dX0_perform_237 ?_
  refine g_iret dX0_perform_238 rfl ?_
  exact h
set_option maxHeartbeats 4000000 in
set_option maxRecDepth 100000 in
theorem pf_70 {E : Ev} {M : Mem} {Q : QT} (hW : Wi M) {n : Nat} {x : Int32} {dp : Nat} {v : Int32} {Mf : Mem} (hC : Cal E n (ka 6) 0 (x) dp M v Mf) (h : Q (some (vI (v * 2))) Mf) : Mth E (n + 1) 0 0 kX0_perform [vR (10, 0, 0), vI 70, vI x, vI (nI dp)] M Q := by
  refine mth_of (by decide +kernel) [some (vR (10, 0, 0)), some (vI 70), some (vI x), some (vI (nI dp))] (Nat.le_of_ble_eq_true rfl) rfl ?_
  refine g_iload_n dX0_perform_0 rfl rfl ?_
  refine g_lookup (tgt := 239) (o := 238) dX0_perform_1 (by decide) (by decide +kernel) (by decide) ?_
  refine g_aloadR_n dX0_perform_239 rfl rfl ?_
  refine g_bipush dX0_perform_240 (v := 6) (by decide) ?_
  refine n_n1i (n' := 0) dX0_perform_242 mX6_kindAbove lX0_46 ⟨by show 0 + 1 ≤ n + 1; omega, by show 8 + (1 + 11) + 44 * 0 ≤ 44 * (n + 1); omega⟩ ⟨Nat.zero_le _, Nat.zero_le _⟩ (Nat.le_of_ble_eq_true rfl) ?_
  refine wp_X6_kindAbove ?_
  refine ⟨_, rfl, ?_⟩
  refine g_iconst dX0_perform_245 (v := 0) (by decide) ?_
  refine g_iload_n dX0_perform_246 rfl rfl ?_
  refine g_iload_n dX0_perform_247 rfl rfl ?_
  refine n_v4i (n' := n) dX0_perform_248 mX0_call lX0_32 rfl hW vld_x10 rfl rfl ⟨by show n + 1 ≤ n + 1; omega, by show 8 + (7 + 11) + 44 * n ≤ 44 * (n + 1); omega⟩ ⟨Nat.zero_le _, Nat.zero_le _⟩ (Nat.le_of_ble_eq_true rfl) ?_
  refine hC _ ?_
  refine ⟨_, rfl, ?_⟩
  refine g_iconst dX0_perform_251 (v := 2) (by decide) ?_
  refine g_imul dX0_perform_252 ?_
  refine g_iret dX0_perform_253 rfl ?_
  exact h
set_option maxHeartbeats 4000000 in
set_option maxRecDepth 100000 in
theorem pf_71 {E : Ev} {M : Mem} {Q : QT} (hW : Wi M) {n : Nat} {x : Int32} {dp : Nat} {v : Int32} {Mf : Mem} (hC : Cal E n (ka 6) 1 (x - mI M (10, 0, 0) 4) dp M v Mf) (h : Q (some (vI (v))) Mf) : Mth E (n + 1) 0 0 kX0_perform [vR (10, 0, 0), vI 71, vI x, vI (nI dp)] M Q := by
  refine mth_of (by decide +kernel) [some (vR (10, 0, 0)), some (vI 71), some (vI x), some (vI (nI dp))] (Nat.le_of_ble_eq_true rfl) rfl ?_
  refine g_iload_n dX0_perform_0 rfl rfl ?_
  refine g_lookup (tgt := 254) (o := 253) dX0_perform_1 (by decide) (by decide +kernel) (by decide) ?_
  refine g_aloadR_n dX0_perform_254 rfl rfl ?_
  refine g_bipush dX0_perform_255 (v := 6) (by decide) ?_
  refine n_n1i (n' := 0) dX0_perform_257 mX6_kindAbove lX0_46 ⟨by show 0 + 1 ≤ n + 1; omega, by show 8 + (1 + 11) + 44 * 0 ≤ 44 * (n + 1); omega⟩ ⟨Nat.zero_le _, Nat.zero_le _⟩ (Nat.le_of_ble_eq_true rfl) ?_
  refine wp_X6_kindAbove ?_
  refine ⟨_, rfl, ?_⟩
  refine g_iconst dX0_perform_260 (v := 1) (by decide) ?_
  refine g_iload_n dX0_perform_261 rfl rfl ?_
  refine g_aloadR_n dX0_perform_262 rfl rfl ?_
  refine n_getI dX0_perform_263 fX0_31 rfl hW vld_x10 (Or.inl rfl) ?_
  refine g_isub dX0_perform_266 ?_
  refine g_iload_n dX0_perform_267 rfl rfl ?_
  refine n_v4i (n' := n) dX0_perform_268 mX0_call lX0_32 rfl hW vld_x10 rfl rfl ⟨by show n + 1 ≤ n + 1; omega, by show 8 + (7 + 11) + 44 * n ≤ 44 * (n + 1); omega⟩ ⟨Nat.zero_le _, Nat.zero_le _⟩ (Nat.le_of_ble_eq_true rfl) ?_
  refine hC _ ?_
  refine ⟨_, rfl, ?_⟩
  refine g_iret dX0_perform_271 rfl ?_
  exact h
set_option maxHeartbeats 4000000 in
set_option maxRecDepth 100000 in
theorem pf_12 {E : Ev} {M : Mem} {Q : QT} (hW : Wi M) {n : Nat} {x : Int32} {dp : Nat} {v : Int32} {Mf : Mem} (hC : Cal E n (mI M (10, 0, 0) 3) 1 (x) dp M v Mf) (hWf : Wi Mf) {v2 : Int32} {Mf2 : Mem} (hC2 : Cal E n (mI Mf (10, 0, 0) 3) 0 (x - mI Mf (10, 0, 0) 4) dp Mf v2 Mf2) (h : Q (some (vI (v ^^^ v2))) Mf2) : Mth E (n + 1) 0 0 kX0_perform [vR (10, 0, 0), vI 12, vI x, vI (nI dp)] M Q := by
  refine mth_of (by decide +kernel) [some (vR (10, 0, 0)), some (vI 12), some (vI x), some (vI (nI dp))] (Nat.le_of_ble_eq_true rfl) rfl ?_
  refine g_iload_n dX0_perform_0 rfl rfl ?_
  refine g_lookup (tgt := 121) (o := 120) dX0_perform_1 (by decide) (by decide +kernel) (by decide) ?_
  refine g_aloadR_n dX0_perform_121 rfl rfl ?_
  refine g_aloadR_n dX0_perform_122 rfl rfl ?_
  refine n_getI dX0_perform_123 fX0_27 rfl hW vld_x10 (Or.inl rfl) ?_
  refine g_iconst dX0_perform_126 (v := 1) (by decide) ?_
  refine g_iload_n dX0_perform_127 rfl rfl ?_
  refine g_iload_n dX0_perform_128 rfl rfl ?_
  refine n_v4i (n' := n) dX0_perform_129 mX0_call lX0_32 rfl hW vld_x10 rfl rfl ⟨by show n + 1 ≤ n + 1; omega, by show 8 + (7 + 11) + 44 * n ≤ 44 * (n + 1); omega⟩ ⟨Nat.zero_le _, Nat.zero_le _⟩ (Nat.le_of_ble_eq_true rfl) ?_
  refine hC _ ?_
  refine ⟨_, rfl, ?_⟩
  refine g_aloadR_n dX0_perform_132 rfl rfl ?_
  refine g_aloadR_n dX0_perform_133 rfl rfl ?_
  refine n_getI dX0_perform_134 fX0_27 rfl hWf vld_x10 (Or.inl rfl) ?_
  refine g_iconst dX0_perform_137 (v := 0) (by decide) ?_
  refine g_iload_n dX0_perform_138 rfl rfl ?_
  refine g_aloadR_n dX0_perform_139 rfl rfl ?_
  refine n_getI dX0_perform_140 fX0_31 rfl hWf vld_x10 (Or.inl rfl) ?_
  refine g_isub dX0_perform_143 ?_
  refine g_iload_n dX0_perform_144 rfl rfl ?_
  refine n_v4i (n' := n) dX0_perform_145 mX0_call lX0_32 rfl hWf vld_x10 rfl rfl ⟨by show n + 1 ≤ n + 1; omega, by show 8 + (7 + 11) + 44 * n ≤ 44 * (n + 1); omega⟩ ⟨Nat.zero_le _, Nat.zero_le _⟩ (Nat.le_of_ble_eq_true rfl) ?_
  refine hC2 _ ?_
  refine ⟨_, rfl, ?_⟩
  refine g_ixor dX0_perform_148 ?_
  refine g_iret dX0_perform_149 rfl ?_
  exact h
