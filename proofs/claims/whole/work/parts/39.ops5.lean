/-! THE CLASS'S OWN METHODS: WHAT WERE BEST -/
def bgF (S : Sc) (n : Nat) : Nat → Int32 × Int32
  | 0 => (0, -1)
  | l + 1 => if nI (seatSum (gS S 1 (nI l)) n) ≤ (bgF S n l).2 then bgF S n l else (nI l, nI (seatSum (gS S 1 (nI l)) n))
theorem lh_0 : lo_ 0 = 0 ∧ hi_ 0 = 20 ∧ lo_ 2 = 1 ∧ hi_ 2 = 12 := by decide +kernel
theorem wat {E : Ev} {M : Mem} {Q : QT} (hW : Wi M) {S : Sc} (hR : RepC M 1 S) (hO : OkS S) {n : Nat} (hn : n ≤ 24) (h : ∀ M', FrI DX M M' → RepC M' 1 (itS S n) → OutI M' S n → Q none M') : Mth E 6 0 0 kX1_watch [vR (4, 0, 0), vR (1, 1, 0), vI (nI n)] M Q := wp_X1_watch hW (by decide) hR hO hn (fun M' hf => h M' (hf.mono DW1_DX))
set_option maxHeartbeats 4000000 in
set_option maxRecDepth 100000 in
theorem lp_X6_begin {E : Ev} {M : Mem} {Q : QT} (hW : Wi M) {X : Sys} (hX : RepCl M X) (hO : OkX X) {n : Nat} (hn24 : n ≤ 24) (h : ∀ M', FrC M M' → RepCl M' X → Q (some (vI (bgF (xS X) n 21).1)) M') : ∀ j, j ≤ 21 → ∀ M1, FrI DX M M1 → G E (rm 7 0 0) kX6_begin (ZQ E Q 0 0) 0 0 24 [some (vR (0, 0, 0)), some (vI (nI n)), some (vI (bgF (xS X) n j).1), some (vI (bgF (xS X) n j).2), some (vI (nI j))] [] M1 := by
  refine up_loop 21 (fun j hj ih M1 hdl => ?_)
  have hW1 := hdl.W hW
  have hXl := hX.hd hdl
  have hs10 : (xS X).1 ≤ 10 := hO.1.1
  have hitn : ∀ j, (itS (xS X) j).1 ≤ 10 := fun j => (hO.1.it j).1
  refine g_iload dX6_begin_24 rfl ?_
  refine g_iconst dX6_begin_26 (v := 0) (by decide) ?_
  refine n_s1i (n' := 0) dX6_begin_27 mX6_mostOf lX6_157 ⟨Nat.le_of_ble_eq_true rfl, Nat.le_of_ble_eq_true rfl⟩ ⟨Nat.zero_le _, Nat.zero_le _⟩ (Nat.le_of_ble_eq_true rfl) ?_
  refine wp_X6_mostOf ?_
  refine ⟨_, rfl, ?_⟩
  rw [lh_0.2.1]
  refine g_icmp_gt (tgt := 94) dX6_begin_30 (by decide) (fun c30 => ?_) (fun c30 => ?_)
  · have hj2 : j = 21 := by
      have := nI_toInt (n := j) (by omega)
      simp only [Int32.lt_iff_toInt_lt, zcs] at c30; omega
    subst hj2
    refine g_iload_n dX6_begin_94 rfl rfl ?_
    refine g_iret dX6_begin_95 rfl ?_
    exact h M1 (frC_DX hdl) hXl
  · have hjn : j < 21 := by
      have := nI_toInt (n := j) (by omega)
      simp only [Int32.lt_iff_toInt_lt, zcs] at c30; omega
    refine g_aloadR_n dX6_begin_33 rfl rfl ?_
    refine n_getR dX6_begin_34 fX6_16 rfl hW1 vld_x0 rfl rfl ?_
    refine g_aloadR_n dX6_begin_37 rfl rfl ?_
    refine n_getR dX6_begin_38 fX6_10 rfl hW1 vld_x0 rfl rfl ?_
    refine n_v1v (n' := 1) dX6_begin_41 mX4_become lX6_186 rfl hW1 (vld_sc (by decide : 1 < 4)) rfl rfl ⟨Nat.le_of_ble_eq_true rfl, Nat.le_of_ble_eq_true rfl⟩ ⟨Nat.zero_le _, Nat.zero_le _⟩ (Nat.le_of_ble_eq_true rfl) ?_
    refine wp_X4_become (by exact hW1) (by decide : 1 < 4) (by decide : 0 < 4) (by decide) hXl.1 hO.1 (fun M2a hf2a hP2a => ?_)
    have hW2 := hf2a.W hW1
    have hd2 : FrI DX M M2a := hdl.tr (hf2a.mono Dk1_DX)
    have hP2 := hP2a
    refine ⟨rfl, ?_⟩
    refine g_aloadR_n dX6_begin_44 rfl rfl ?_
    refine n_getR dX6_begin_45 fX6_16 rfl hW2 vld_x0 rfl rfl ?_
    refine g_iconst dX6_begin_48 (v := 0) (by decide) ?_
    refine g_iload dX6_begin_49 rfl ?_
    refine n_v2v (n' := 0) dX6_begin_51 mX4_settle lX6_163 rfl hW2 (vld_sc (by decide : 1 < 4)) rfl rfl ⟨Nat.le_of_ble_eq_true rfl, Nat.le_of_ble_eq_true rfl⟩ ⟨Nat.zero_le _, Nat.zero_le _⟩ (Nat.le_of_ble_eq_true rfl) ?_
    refine wp_X4_settle (w := 0) (by exact hW2) (by decide : 1 < 4) (by decide) ?_
    have hW3 : Wi (sI M2a (1, 1, 0) (0 + 3) (nI j)) := hW2
    have hd3 : FrI DX M (sI M2a (1, 1, 0) (0 + 3) (nI j)) := hd2.tr (frDk1.mono Dk1_DX)
    have hP3 : RepC (sI M2a (1, 1, 0) (0 + 3) (nI j)) 1 (gS (xS X) 1 (nI j)) := hP2.upG (j := 1) (by decide)
    refine ⟨rfl, ?_⟩
    refine g_aloadR_n dX6_begin_54 rfl rfl ?_
    refine n_getR dX6_begin_55 fX6_25 rfl hW3 vld_x0 rfl rfl ?_
    refine g_aloadR_n dX6_begin_58 rfl rfl ?_
    refine n_getR dX6_begin_59 fX6_16 rfl hW3 vld_x0 rfl rfl ?_
    refine g_iload_n dX6_begin_62 rfl rfl ?_
    refine n_v2v (n' := 6) dX6_begin_63 mX1_watch lX6_202 rfl hW3 vld_x4 rfl rfl ⟨Nat.le_of_ble_eq_true rfl, Nat.le_of_ble_eq_true rfl⟩ ⟨Nat.zero_le _, Nat.zero_le _⟩ (Nat.le_of_ble_eq_true rfl) ?_
    refine wat (by exact hW3) (S := gS (xS X) 1 (nI j)) hP3 (hO.1.g1 (by omega)) hn24 (fun M4b hf4b hP4 ho4 => ?_)
    have hW4 := hf4b.W (by exact hW3)
    have hd4 : FrI DX M M4b := hd3.tr hf4b
    refine ⟨rfl, ?_⟩
    refine g_aloadR_n dX6_begin_66 rfl rfl ?_
    refine n_getR dX6_begin_67 fX6_25 rfl hW4 vld_x0 rfl rfl ?_
    refine n_getI dX6_begin_70 fX6_215 rfl hW4 vld_x4 (Or.inl rfl) ?_
    refine g_iload_n dX6_begin_73 rfl rfl ?_
    refine g_icmp_le (tgt := 88) dX6_begin_74 (by decide) (fun c74 => ?_) (fun c74 => ?_)
    · refine g_iinc_4 (v := nI (j + 1)) dX6_begin_88 rfl (nI_inc j) ?_
      refine g_goto (tgt := 24) dX6_begin_91 (by decide) ?_
      have hi := ih hjn _ hd4
      rw [bgF, ← ho4.1] at hi
      rw [ho4.1] at c74
      first
        | (rw [if_pos (by rw [ho4.1]; exact c74)] at hi; exact hi)
        | (rw [if_neg (by rw [ho4.1]; exact c74)] at hi; exact hi)
    · refine g_aloadR_n dX6_begin_77 rfl rfl ?_
      refine n_getR dX6_begin_78 fX6_25 rfl hW4 vld_x0 rfl rfl ?_
      refine n_getI dX6_begin_81 fX6_215 rfl hW4 vld_x4 (Or.inl rfl) ?_
      refine g_istore_3 dX6_begin_84 rfl ?_
      refine g_iload dX6_begin_85 rfl ?_
      refine g_istore_2 dX6_begin_87 rfl ?_
      refine g_iinc_4 (v := nI (j + 1)) dX6_begin_88 rfl (nI_inc j) ?_
      refine g_goto (tgt := 24) dX6_begin_91 (by decide) ?_
      have hi := ih hjn _ hd4
      rw [bgF, ← ho4.1] at hi
      rw [ho4.1] at c74
      first
        | (rw [if_pos (by rw [ho4.1]; exact c74)] at hi; exact hi)
        | (rw [if_neg (by rw [ho4.1]; exact c74)] at hi; exact hi)
def opBegin (X : Sys) (n : Int32) : Int32 × Sys := if ¬ IN n 25 then rfX X 6 else ((bgF (xS X) n.toNatClampNeg 21).1, X)
set_option maxHeartbeats 4000000 in
set_option maxRecDepth 100000 in
theorem wp_X6_begin {E : Ev} {M : Mem} {Q : QT} (hW : Wi M) {X : Sys} (hX : RepCl M X) (hO : OkX X) {n : Int32} (h : ∀ M', FrC M M' → RepCl M' (opBegin X n).2 → Q (some (vI (opBegin X n).1)) M') : Mth E 7 0 0 kX6_begin [vR (0, 0, 0), vI n] M Q := by
  have hR0 := hX.1
  have hsz := hX.1.1
  have hs10 : (xS X).1 ≤ 10 := hO.1.1
  refine mth_of (by decide +kernel) [some (vR (0, 0, 0)), some (vI n), none, none, none] (Nat.le_of_ble_eq_true rfl) rfl ?_
  refine g_iload_n dX6_begin_0 rfl rfl ?_
  refine n_s1i (n' := 0) dX6_begin_1 mX6_isStretch lX6_199 ⟨Nat.le_of_ble_eq_true rfl, Nat.le_of_ble_eq_true rfl⟩ ⟨Nat.zero_le _, Nat.zero_le _⟩ (Nat.le_of_ble_eq_true rfl) ?_
  refine wp_X6_isStretch ?_
  refine ⟨_, rfl, ?_⟩
  refine g_if_ne (tgt := 14) dX6_begin_4 (by decide) (fun c4 => ?_) (fun c4 => ?_)
  · simp only [b2_0, Decidable.not_not] at c4
    have hn1 := (IN_nI c4).1
    have hn24 : n.toNatClampNeg ≤ 24 := by have := (IN_nI c4).2; omega
    refine g_iconst dX6_begin_14 (v := 0) (by decide) ?_
    refine g_istore_2 dX6_begin_15 rfl ?_
    refine g_iconst dX6_begin_16 (v := (-1)) (by decide) ?_
    refine g_istore_3 dX6_begin_17 rfl ?_
    refine g_iconst dX6_begin_18 (v := 0) (by decide) ?_
    refine n_s1i (n' := 0) dX6_begin_19 mX6_leastOf lX6_154 ⟨Nat.le_of_ble_eq_true rfl, Nat.le_of_ble_eq_true rfl⟩ ⟨Nat.zero_le _, Nat.zero_le _⟩ (Nat.le_of_ble_eq_true rfl) ?_
    refine wp_X6_leastOf ?_
    refine ⟨_, rfl, ?_⟩
    refine g_istore_4 dX6_begin_22 rfl ?_
    have e : opBegin X n = ((bgF (xS X) n.toNatClampNeg 21).1, X) := by
      unfold opBegin
      try first | rw [if_pos c4] | rw [if_neg c4] | rw [if_neg (not_not_intro c4)]
      try rfl
    rw [e] at h
    dsimp only at h
    rw [lh_0.1, hn1]
    exact lp_X6_begin hW hX hO hn24 h 0 (by decide) M FrI.rf
  · simp only [b2_0, Decidable.not_not] at c4
    refine g_aloadR_n dX6_begin_7 rfl rfl ?_
    refine g_bipush dX6_begin_8 (v := (-6)) (by decide) ?_
    refine n_v1i (n' := 0) dX6_begin_10 mX6_refuse lX6_66 rfl hW vld_x0 rfl rfl ⟨Nat.le_of_ble_eq_true rfl, Nat.le_of_ble_eq_true rfl⟩ ⟨Nat.zero_le _, Nat.zero_le _⟩ (Nat.le_of_ble_eq_true rfl) ?_
    refine wp_X6_refuse (j := 6) (by exact hW) (by decide) (by decide) ?_
    refine ⟨_, rfl, ?_⟩
    refine g_iret dX6_begin_13 rfl ?_
    have e : opBegin X n = rfX X 6 := by
      unfold opBegin
      try first | rw [if_pos c4] | rw [if_neg c4] | rw [if_neg (not_not_intro c4)]
      try rfl
    rw [e] at h; exact h _ (frC_sI (by decide)) (repCl_rfz hX (by decide) (by decide))
def rmF (S : Sc) (n : Nat) : Nat → Nat → Int32
  | 0, _ => 12
  | d + 1, ch => if nI (turnSum (gS S 3 (nI ch)) n) = 0 then nI ch else rmF S n d (ch + 1)
set_option maxHeartbeats 4000000 in
set_option maxRecDepth 100000 in
theorem lp_X6_room {E : Ev} {M : Mem} {Q : QT} (hW : Wi M) {X : Sys} (hX : RepCl M X) (hO : OkX X) {n : Nat} (hn24 : n ≤ 24) : ∀ j, j ≤ 12 → 1 ≤ j → ∀ M1, FrI DX M M1 → (∀ M', FrC M M' → RepCl M' X → Q (some (vI (rmF (xS X) n (12 - j) j))) M') → G E (rm 7 0 0) kX6_room (ZQ E Q 0 0) 0 0 19 [some (vR (0, 0, 0)), some (vI (nI n)), some (vI (nI j))] [] M1 := by
  refine up_loop 12 (fun j hj ih hj1 M1 hdl h => ?_)
  have hW1 := hdl.W hW
  have hXl := hX.hd hdl
  have hs10 : (xS X).1 ≤ 10 := hO.1.1
  have hitn : ∀ j, (itS (xS X) j).1 ≤ 10 := fun j => (hO.1.it j).1
  refine g_iload_n dX6_room_19 rfl rfl ?_
  refine g_iconst dX6_room_20 (v := 2) (by decide) ?_
  refine n_s1i (n' := 0) dX6_room_21 mX6_mostOf lX6_157 ⟨Nat.le_of_ble_eq_true rfl, Nat.le_of_ble_eq_true rfl⟩ ⟨Nat.zero_le _, Nat.zero_le _⟩ (Nat.le_of_ble_eq_true rfl) ?_
  refine wp_X6_mostOf ?_
  refine ⟨_, rfl, ?_⟩
  rw [lh_0.2.2.2]
  refine g_icmp_ge (tgt := 77) dX6_room_24 (by decide) (fun c24 => ?_) (fun c24 => ?_)
  · have hj2 : j = 12 := by
      have := nI_toInt (n := j) (by omega)
      simp only [Int32.le_iff_toInt_le, zcs] at c24; omega
    subst hj2
    refine g_iconst dX6_room_77 (v := 2) (by decide) ?_
    refine n_s1i (n' := 0) dX6_room_78 mX6_mostOf lX6_157 ⟨Nat.le_of_ble_eq_true rfl, Nat.le_of_ble_eq_true rfl⟩ ⟨Nat.zero_le _, Nat.zero_le _⟩ (Nat.le_of_ble_eq_true rfl) ?_
    refine wp_X6_mostOf ?_
    refine ⟨_, rfl, ?_⟩
    rw [lh_0.2.2.2]
    refine g_iret dX6_room_81 rfl ?_
    exact h M1 (frC_DX hdl) hXl
  · have hjn : j < 12 := by
      have := nI_toInt (n := j) (by omega)
      simp only [Int32.le_iff_toInt_le, zcs] at c24; omega
    obtain ⟨d, hd0⟩ : ∃ d, 12 - j = d + 1 := ⟨11 - j, by omega⟩
    have hd2 : 12 - (j + 1) = d := by omega
    rw [hd0, rmF] at h
    refine g_aloadR_n dX6_room_27 rfl rfl ?_
    refine n_getR dX6_room_28 fX6_16 rfl hW1 vld_x0 rfl rfl ?_
    refine g_aloadR_n dX6_room_31 rfl rfl ?_
    refine n_getR dX6_room_32 fX6_10 rfl hW1 vld_x0 rfl rfl ?_
    refine n_v1v (n' := 1) dX6_room_35 mX4_become lX6_186 rfl hW1 (vld_sc (by decide : 1 < 4)) rfl rfl ⟨Nat.le_of_ble_eq_true rfl, Nat.le_of_ble_eq_true rfl⟩ ⟨Nat.zero_le _, Nat.zero_le _⟩ (Nat.le_of_ble_eq_true rfl) ?_
    refine wp_X4_become (by exact hW1) (by decide : 1 < 4) (by decide : 0 < 4) (by decide) hXl.1 hO.1 (fun M3a hf3a hP3a => ?_)
    have hW3 := hf3a.W hW1
    have hd3 : FrI DX M M3a := hdl.tr (hf3a.mono Dk1_DX)
    have hP3 := hP3a
    refine ⟨rfl, ?_⟩
    refine g_aloadR_n dX6_room_38 rfl rfl ?_
    refine n_getR dX6_room_39 fX6_16 rfl hW3 vld_x0 rfl rfl ?_
    refine g_iconst dX6_room_42 (v := 2) (by decide) ?_
    refine g_iload_n dX6_room_43 rfl rfl ?_
    refine n_v2v (n' := 0) dX6_room_44 mX4_settle lX6_163 rfl hW3 (vld_sc (by decide : 1 < 4)) rfl rfl ⟨Nat.le_of_ble_eq_true rfl, Nat.le_of_ble_eq_true rfl⟩ ⟨Nat.zero_le _, Nat.zero_le _⟩ (Nat.le_of_ble_eq_true rfl) ?_
    refine wp_X4_settle (w := 2) (by exact hW3) (by decide : 1 < 4) (by decide) ?_
    have hW4 : Wi (sI M3a (1, 1, 0) (2 + 3) (nI j)) := hW3
    have hd4 : FrI DX M (sI M3a (1, 1, 0) (2 + 3) (nI j)) := hd3.tr (frDk1.mono Dk1_DX)
    have hP4 : RepC (sI M3a (1, 1, 0) (2 + 3) (nI j)) 1 (gS (xS X) 3 (nI j)) := hP3.upG (j := 3) (by decide)
    refine ⟨rfl, ?_⟩
    refine g_aloadR_n dX6_room_47 rfl rfl ?_
    refine n_getR dX6_room_48 fX6_25 rfl hW4 vld_x0 rfl rfl ?_
    refine g_aloadR_n dX6_room_51 rfl rfl ?_
    refine n_getR dX6_room_52 fX6_16 rfl hW4 vld_x0 rfl rfl ?_
    refine g_iload_n dX6_room_55 rfl rfl ?_
    refine n_v2v (n' := 6) dX6_room_56 mX1_watch lX6_202 rfl hW4 vld_x4 rfl rfl ⟨Nat.le_of_ble_eq_true rfl, Nat.le_of_ble_eq_true rfl⟩ ⟨Nat.zero_le _, Nat.zero_le _⟩ (Nat.le_of_ble_eq_true rfl) ?_
    refine wat (by exact hW4) (S := gS (xS X) 3 (nI j)) hP4 (hO.1.g3 (by omega) hj1) hn24 (fun M5b hf5b hP5 ho5 => ?_)
    have hW5 := hf5b.W (by exact hW4)
    have hd5 : FrI DX M M5b := hd4.tr hf5b
    refine ⟨rfl, ?_⟩
    refine g_aloadR_n dX6_room_59 rfl rfl ?_
    refine n_getR dX6_room_60 fX6_25 rfl hW5 vld_x0 rfl rfl ?_
    refine n_getI dX6_room_63 fX6_218 rfl hW5 vld_x4 (Or.inl rfl) ?_
    refine g_if_ne (tgt := 71) dX6_room_66 (by decide) (fun c66 => ?_) (fun c66 => ?_)
    · refine g_iinc_2 (v := nI (j + 1)) dX6_room_71 rfl (nI_inc j) ?_
      refine g_goto (tgt := 19) dX6_room_74 (by decide) ?_
      rw [ho5.2.1] at c66
      rw [if_neg c66] at h
      exact ih hjn (by omega) _ hd5 (by rw [hd2]; exact h)
    · refine g_iload_n dX6_room_69 rfl rfl ?_
      refine g_iret dX6_room_70 rfl ?_
      have c66 : nI (turnSum (gS (xS X) 3 (nI j)) n) = 0 := by rw [← ho5.2.1]; first | exact c66 | exact Decidable.not_not.mp c66
      rw [if_pos c66] at h
      exact h _ (frC_DX hd5) (hX.hd hd5)
def opRoom (X : Sys) (n : Int32) : Int32 × Sys := if ¬ IN n 25 then rfX X 6 else (rmF (xS X) n.toNatClampNeg 11 1, X)
set_option maxHeartbeats 4000000 in
set_option maxRecDepth 100000 in
theorem wp_X6_room {E : Ev} {M : Mem} {Q : QT} (hW : Wi M) {X : Sys} (hX : RepCl M X) (hO : OkX X) {n : Int32} (h : ∀ M', FrC M M' → RepCl M' (opRoom X n).2 → Q (some (vI (opRoom X n).1)) M') : Mth E 7 0 0 kX6_room [vR (0, 0, 0), vI n] M Q := by
  have hR0 := hX.1
  have hsz := hX.1.1
  have hs10 : (xS X).1 ≤ 10 := hO.1.1
  refine mth_of (by decide +kernel) [some (vR (0, 0, 0)), some (vI n), none] (Nat.le_of_ble_eq_true rfl) rfl ?_
  refine g_iload_n dX6_room_0 rfl rfl ?_
  refine n_s1i (n' := 0) dX6_room_1 mX6_isStretch lX6_199 ⟨Nat.le_of_ble_eq_true rfl, Nat.le_of_ble_eq_true rfl⟩ ⟨Nat.zero_le _, Nat.zero_le _⟩ (Nat.le_of_ble_eq_true rfl) ?_
  refine wp_X6_isStretch ?_
  refine ⟨_, rfl, ?_⟩
  refine g_if_ne (tgt := 14) dX6_room_4 (by decide) (fun c4 => ?_) (fun c4 => ?_)
  · simp only [b2_0, Decidable.not_not] at c4
    have hn1 := (IN_nI c4).1
    have hn24 : n.toNatClampNeg ≤ 24 := by have := (IN_nI c4).2; omega
    refine g_iconst dX6_room_14 (v := 2) (by decide) ?_
    refine n_s1i (n' := 0) dX6_room_15 mX6_leastOf lX6_154 ⟨Nat.le_of_ble_eq_true rfl, Nat.le_of_ble_eq_true rfl⟩ ⟨Nat.zero_le _, Nat.zero_le _⟩ (Nat.le_of_ble_eq_true rfl) ?_
    refine wp_X6_leastOf ?_
    refine ⟨_, rfl, ?_⟩
    refine g_istore_2 dX6_room_18 rfl ?_
    have e : opRoom X n = (rmF (xS X) n.toNatClampNeg 11 1, X) := by
      unfold opRoom
      try first | rw [if_pos c4] | rw [if_neg c4] | rw [if_neg (not_not_intro c4)]
      try rfl
    rw [e] at h
    dsimp only at h
    rw [lh_0.2.2.1, hn1]
    exact lp_X6_room hW hX hO hn24 1 (by decide) (by decide) M FrI.rf h
  · simp only [b2_0, Decidable.not_not] at c4
    refine g_aloadR_n dX6_room_7 rfl rfl ?_
    refine g_bipush dX6_room_8 (v := (-6)) (by decide) ?_
    refine n_v1i (n' := 0) dX6_room_10 mX6_refuse lX6_66 rfl hW vld_x0 rfl rfl ⟨Nat.le_of_ble_eq_true rfl, Nat.le_of_ble_eq_true rfl⟩ ⟨Nat.zero_le _, Nat.zero_le _⟩ (Nat.le_of_ble_eq_true rfl) ?_
    refine wp_X6_refuse (j := 6) (by exact hW) (by decide) (by decide) ?_
    refine ⟨_, rfl, ?_⟩
    refine g_iret dX6_room_13 rfl ?_
    have e : opRoom X n = rfX X 6 := by
      unfold opRoom
      try first | rw [if_pos c4] | rw [if_neg c4] | rw [if_neg (not_not_intro c4)]
      try rfl
    rw [e] at h; exact h _ (frC_sI (by decide)) (repCl_rfz hX (by decide) (by decide))
def lfF (S : Sc) (n t : Nat) : Nat := cnt (presS (itS (disS S t) n)) 11
def tkF (S : Sc) (n : Nat) : Nat → Int32 × Int32
  | 0 => (0, -1)
  | l + 1 => if nI (lfF S n l) ≤ (tkF S n l).2 then tkF S n l else (nI l, nI (lfF S n l))
set_option maxHeartbeats 4000000 in
set_option maxRecDepth 100000 in
theorem lp_X6_take {E : Ev} {M : Mem} {Q : QT} (hW : Wi M) {X : Sys} (hX : RepCl M X) (hO : OkX X) {n : Nat} (hn24 : n ≤ 24) (h : ∀ M', FrC M M' → RepCl M' X → Q (some (vI (tkF (xS X) n ((xS X).1 + 1)).1)) M') : ∀ j, j ≤ (xS X).1 + 1 → ∀ (M1 : Mem) (a5 : Option AV), FrI DX M M1 → G E (rm 7 0 0) kX6_take (ZQ E Q 0 0) 0 0 21 [some (vR (0, 0, 0)), some (vI (nI n)), some (vI (tkF (xS X) n j).1), some (vI (tkF (xS X) n j).2), some (vI (nI j)), a5] [] M1 := by
  refine up_loop ((xS X).1 + 1) (fun j hj ih M1 a5 hdl => ?_)
  have hW1 := hdl.W hW
  have hXl := hX.hd hdl
  have hs10 : (xS X).1 ≤ 10 := hO.1.1
  have hitn : ∀ j, (itS (xS X) j).1 ≤ 10 := fun j => (hO.1.it j).1
  refine g_iload dX6_take_21 rfl ?_
  refine g_aloadR_n dX6_take_23 rfl rfl ?_
  refine n_getR dX6_take_24 fX6_10 rfl hW1 vld_x0 rfl rfl ?_
  refine n_getI dX6_take_27 fX6_233 rfl hW1 (vld_sc (by decide : 0 < 4)) (Or.inl rfl) ?_
  refine g_icmp_gt (tgt := 95) dX6_take_30 (by decide) (fun c30 => ?_) (fun c30 => ?_)
  · have hj2 : j = (xS X).1 + 1 := by
      have := nI_toInt (n := j) (by omega)
      have h2 := nI_toInt (n := (xS X).1) (by omega)
      rw [hXl.1.1] at c30
      simp only [Int32.lt_iff_toInt_lt, zcs] at c30; omega
    subst hj2
    refine g_iload_n dX6_take_95 rfl rfl ?_
    refine g_iret dX6_take_96 rfl ?_
    exact h M1 (frC_DX hdl) hXl
  · have hjn : j < (xS X).1 + 1 := by
      have := nI_toInt (n := j) (by omega)
      have h2 := nI_toInt (n := (xS X).1) (by omega)
      rw [hXl.1.1] at c30
      simp only [Int32.lt_iff_toInt_lt, zcs] at c30; omega
    refine g_aloadR_n dX6_take_33 rfl rfl ?_
    refine n_getR dX6_take_34 fX6_16 rfl hW1 vld_x0 rfl rfl ?_
    refine g_aloadR_n dX6_take_37 rfl rfl ?_
    refine n_getR dX6_take_38 fX6_10 rfl hW1 vld_x0 rfl rfl ?_
    refine n_v1v (n' := 1) dX6_take_41 mX4_become lX6_186 rfl hW1 (vld_sc (by decide : 1 < 4)) rfl rfl ⟨Nat.le_of_ble_eq_true rfl, Nat.le_of_ble_eq_true rfl⟩ ⟨Nat.zero_le _, Nat.zero_le _⟩ (Nat.le_of_ble_eq_true rfl) ?_
    refine wp_X4_become (by exact hW1) (by decide : 1 < 4) (by decide : 0 < 4) (by decide) hXl.1 hO.1 (fun M1a hf1a hP1a => ?_)
    have hW1 := hf1a.W hW1
    have hd1 : FrI DX M M1a := hdl.tr (hf1a.mono Dk1_DX)
    have hP1 := hP1a
    refine ⟨rfl, ?_⟩
    refine g_aloadR_n dX6_take_44 rfl rfl ?_
    refine n_getR dX6_take_45 fX6_16 rfl hW1 vld_x0 rfl rfl ?_
    refine g_iload dX6_take_48 rfl ?_
    refine n_v1v (n' := 1) dX6_take_50 mX4_dismissFrom lX6_236 rfl hW1 (vld_sc (by decide : 1 < 4)) rfl rfl ⟨Nat.le_of_ble_eq_true rfl, Nat.le_of_ble_eq_true rfl⟩ ⟨Nat.zero_le _, Nat.zero_le _⟩ (Nat.le_of_ble_eq_true rfl) ?_
    refine wp_X4_dismissFrom (by exact hW1) (by decide : 1 < 4) hP1 hs10 (t := j) (by omega) (fun M2b hf2b hP2 => ?_)
    have hW2 := hf2b.W (by exact hW1)
    have hd2 : FrI DX M M2b := hd1.tr (hf2b.mono Dk1_DX)
    refine ⟨rfl, ?_⟩
    refine g_aloadR_n dX6_take_53 rfl rfl ?_
    refine n_getR dX6_take_54 fX6_25 rfl hW2 vld_x0 rfl rfl ?_
    refine g_aloadR_n dX6_take_57 rfl rfl ?_
    refine n_getR dX6_take_58 fX6_16 rfl hW2 vld_x0 rfl rfl ?_
    refine g_iload_n dX6_take_61 rfl rfl ?_
    refine n_v2v (n' := 6) dX6_take_62 mX1_watch lX6_202 rfl hW2 vld_x4 rfl rfl ⟨Nat.le_of_ble_eq_true rfl, Nat.le_of_ble_eq_true rfl⟩ ⟨Nat.zero_le _, Nat.zero_le _⟩ (Nat.le_of_ble_eq_true rfl) ?_
    refine wat (by exact hW2) (S := disS (xS X) j) hP2 hO.1.dis hn24 (fun M3b hf3b hP3 ho3 => ?_)
    have hW3 := hf3b.W (by exact hW2)
    have hd3 : FrI DX M M3b := hd2.tr hf3b
    refine ⟨rfl, ?_⟩
    refine g_aloadR_n dX6_take_65 rfl rfl ?_
    refine n_getR dX6_take_66 fX6_16 rfl hW3 vld_x0 rfl rfl ?_
    refine n_v0i (n' := 1) dX6_take_69 mX4_present lX6_206 rfl hW3 (vld_sc (by decide : 1 < 4)) rfl rfl ⟨Nat.le_of_ble_eq_true rfl, Nat.le_of_ble_eq_true rfl⟩ ⟨Nat.zero_le _, Nat.zero_le _⟩ (Nat.le_of_ble_eq_true rfl) ?_
    have hitd : (itS (disS (xS X) j) n).1 ≤ 10 := (hO.1.dis.it n).1
    refine wp_X4_present (by exact hW3) (by decide : 1 < 4) hP3 hitd ?_
    refine ⟨_, rfl, ?_⟩
    refine n_s1i (n' := 0) dX6_take_72 mJ6_bitCount_0f7a4 lX6_210 ⟨Nat.le_of_ble_eq_true rfl, Nat.le_of_ble_eq_true rfl⟩ ⟨Nat.zero_le _, Nat.zero_le _⟩ (Nat.le_of_ble_eq_true rfl) ?_
    have hpl := presS_lt (itS (disS (xS X) j) n)
    refine wp_J6_bitCount (c_lt hpl hitd) ?_
    refine ⟨_, rfl, ?_⟩
    rw [show cnt (presS (itS (disS (xS X) j) n)) 11 = lfF (xS X) n j from rfl]
    refine g_istore_5 dX6_take_75 rfl ?_
    refine g_iload dX6_take_77 rfl ?_
    refine g_iload_n dX6_take_79 rfl rfl ?_
    refine g_icmp_le (tgt := 89) dX6_take_80 (by decide) (fun c80 => ?_) (fun c80 => ?_)
    · refine g_iinc_4 (v := nI (j + 1)) dX6_take_89 rfl (nI_inc j) ?_
      refine g_goto (tgt := 21) dX6_take_92 (by decide) ?_
      have hi := ih hjn _ (some (vI (nI (lfF (xS X) n j)))) hd3
      rw [tkF] at hi
      first
        | (rw [if_pos c80] at hi; exact hi)
        | (rw [if_neg c80] at hi; exact hi)
    · refine g_iload dX6_take_83 rfl ?_
      refine g_istore_3 dX6_take_85 rfl ?_
      refine g_iload dX6_take_86 rfl ?_
      refine g_istore_2 dX6_take_88 rfl ?_
      refine g_iinc_4 (v := nI (j + 1)) dX6_take_89 rfl (nI_inc j) ?_
      refine g_goto (tgt := 21) dX6_take_92 (by decide) ?_
      have hi := ih hjn _ (some (vI (nI (lfF (xS X) n j)))) hd3
      rw [tkF] at hi
      first
        | (rw [if_pos c80] at hi; exact hi)
        | (rw [if_neg c80] at hi; exact hi)
def opTake (X : Sys) (n : Int32) : Int32 × Sys := if ¬ IN n 25 then rfX X 6 else ((tkF (xS X) n.toNatClampNeg ((xS X).1 + 1)).1, X)
set_option maxHeartbeats 4000000 in
set_option maxRecDepth 100000 in
theorem wp_X6_take {E : Ev} {M : Mem} {Q : QT} (hW : Wi M) {X : Sys} (hX : RepCl M X) (hO : OkX X) {n : Int32} (h : ∀ M', FrC M M' → RepCl M' (opTake X n).2 → Q (some (vI (opTake X n).1)) M') : Mth E 7 0 0 kX6_take [vR (0, 0, 0), vI n] M Q := by
  have hR0 := hX.1
  have hsz := hX.1.1
  have hs10 : (xS X).1 ≤ 10 := hO.1.1
  refine mth_of (by decide +kernel) [some (vR (0, 0, 0)), some (vI n), none, none, none, none] (Nat.le_of_ble_eq_true rfl) rfl ?_
  refine g_iload_n dX6_take_0 rfl rfl ?_
  refine n_s1i (n' := 0) dX6_take_1 mX6_isStretch lX6_199 ⟨Nat.le_of_ble_eq_true rfl, Nat.le_of_ble_eq_true rfl⟩ ⟨Nat.zero_le _, Nat.zero_le _⟩ (Nat.le_of_ble_eq_true rfl) ?_
  refine wp_X6_isStretch ?_
  refine ⟨_, rfl, ?_⟩
  refine g_if_ne (tgt := 14) dX6_take_4 (by decide) (fun c4 => ?_) (fun c4 => ?_)
  · simp only [b2_0, Decidable.not_not] at c4
    have hn1 := (IN_nI c4).1
    have hn24 : n.toNatClampNeg ≤ 24 := by have := (IN_nI c4).2; omega
    refine g_iconst dX6_take_14 (v := 0) (by decide) ?_
    refine g_istore_2 dX6_take_15 rfl ?_
    refine g_iconst dX6_take_16 (v := (-1)) (by decide) ?_
    refine g_istore_3 dX6_take_17 rfl ?_
    refine g_iconst dX6_take_18 (v := 0) (by decide) ?_
    refine g_istore_4 dX6_take_19 rfl ?_
    have e : opTake X n = ((tkF (xS X) n.toNatClampNeg ((xS X).1 + 1)).1, X) := by
      unfold opTake
      try first | rw [if_pos c4] | rw [if_neg c4] | rw [if_neg (not_not_intro c4)]
      try rfl
    rw [e] at h
    dsimp only at h
    rw [hn1]
    exact lp_X6_take hW hX hO hn24 h 0 (Nat.zero_le _) M none FrI.rf
  · simp only [b2_0, Decidable.not_not] at c4
    refine g_aloadR_n dX6_take_7 rfl rfl ?_
    refine g_bipush dX6_take_8 (v := (-6)) (by decide) ?_
    refine n_v1i (n' := 0) dX6_take_10 mX6_refuse lX6_66 rfl hW vld_x0 rfl rfl ⟨Nat.le_of_ble_eq_true rfl, Nat.le_of_ble_eq_true rfl⟩ ⟨Nat.zero_le _, Nat.zero_le _⟩ (Nat.le_of_ble_eq_true rfl) ?_
    refine wp_X6_refuse (j := 6) (by exact hW) (by decide) (by decide) ?_
    refine ⟨_, rfl, ?_⟩
    refine g_iret dX6_take_13 rfl ?_
    have e : opTake X n = rfX X 6 := by
      unfold opTake
      try first | rw [if_pos c4] | rw [if_neg c4] | rw [if_neg (not_not_intro c4)]
      try rfl
    rw [e] at h; exact h _ (frC_sI (by decide)) (repCl_rfz hX (by decide) (by decide))
