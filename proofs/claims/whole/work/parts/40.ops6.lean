/-! THE CLASS'S OWN METHODS: FRIENDS -/
def clr (c p : Nat) : Nat := if c.testBit p = true then c - 2 ^ p else c
theorem bt_cl0 : (List.range 10).all (fun p => (List.range 1024).all fun c => nI c &&& (((1 : Int32) <<< (nI p &&& 31)) ^^^ (-1)) == nI (clr c p)) = true := by decide +kernel
theorem bt_cl {p c : Nat} (hp : p < 10) (hc : c < 1024) : nI c &&& (((1 : Int32) <<< (nI p &&& 31)) ^^^ (-1)) = nI (clr c p) := by
  have h := List.all_eq_true.mp (List.all_eq_true.mp bt_cl0 p (List.mem_range.mpr hp)) c (List.mem_range.mpr hc)
  simpa using h
theorem clr_le (c p : Nat) : clr c p ≤ c := by unfold clr; split; exact Nat.sub_le _ _; exact Nat.le_refl _
theorem bt_og0 : (List.range 11).all (fun a => (List.range 2048).all fun m => m.testBit a || (nI m ||| (1 <<< (nI a &&& 31)) == nI (m + 2 ^ a) && decide (m + 2 ^ a < 2048))) = true := by decide +kernel
theorem bt_og {a m : Nat} (ha : a < 11) (hm : m < 2048) (hb : ¬ m.testBit a = true) : nI m ||| (1 <<< (nI a &&& 31)) = nI (m + 2 ^ a) ∧ m + 2 ^ a < 2048 := by
  have h := List.all_eq_true.mp (List.all_eq_true.mp bt_og0 a (List.mem_range.mpr ha)) m (List.mem_range.mpr hm)
  simp only [Bool.or_eq_true, Bool.and_eq_true, beq_iff_eq, decide_eq_true_eq] at h
  exact h.resolve_left hb
/-- HOLDS -/
def heldF (S : Sc) (p : Nat) : Int32 := nI (cnt (clr (comersS S 0) p) 11) - nI (cnt (comersS (upS S p 8 1) 0) 11)
set_option maxHeartbeats 4000000 in
set_option maxRecDepth 100000 in
theorem wp_X6_heldBy {E : Ev} {M : Mem} {Q : QT} (hW : Wi M) {X : Sys} (hX : RepCl M X) (hO : OkX X) {p : Nat} (hp : p < (xS X).1) (h : ∀ M', FrI DX M M' → Q (some (vI (heldF (xS X) p))) M') : Mth E 5 0 0 kX6_heldBy [vR (0, 0, 0), vI (nI p)] M Q := by
  have hR0 := hX.1
  have hsz := hX.1.1
  have hs10 : (xS X).1 ≤ 10 := hO.1.1
  have hcl := comersS_lt (xS X) 0
  have hpw := pow_le10 hs10
  have hcl2 := comersS_lt (upS (xS X) p 8 1) 0
  have hcr := clr_le (comersS (xS X) 0) p
  refine mth_of (by decide +kernel) [some (vR (0, 0, 0)), some (vI (nI p)), none] (Nat.le_of_ble_eq_true rfl) rfl ?_
  refine g_aloadR_n dX6_heldBy_0 rfl rfl ?_
  refine n_getR dX6_heldBy_1 fX6_10 rfl hW vld_x0 rfl rfl ?_
  refine g_iconst dX6_heldBy_4 (v := 0) (by decide) ?_
  refine n_v1i (n' := 4) dX6_heldBy_5 mX4_comers lX6_193 rfl hW (vld_sc (by decide : 0 < 4)) rfl rfl ⟨Nat.le_of_ble_eq_true rfl, Nat.le_of_ble_eq_true rfl⟩ ⟨Nat.zero_le _, Nat.zero_le _⟩ (Nat.le_of_ble_eq_true rfl) ?_
  refine wp_X4_comers (r := 0) (by exact hW) (by decide : 0 < 4) hR0 hs10 (by decide) (fun M1 hf1 => ?_)
  have hW1 := hf1.W hW
  have hd1 : FrI DX M M1 := hf1.mono D9_DX
  have hX1 := hX.hd hd1
  refine ⟨_, rfl, ?_⟩
  refine g_iconst dX6_heldBy_8 (v := 1) (by decide) ?_
  refine g_iload_n dX6_heldBy_9 rfl rfl ?_
  refine g_ishl dX6_heldBy_10 ?_
  refine g_iconst dX6_heldBy_11 (v := (-1)) (by decide) ?_
  refine g_ixor dX6_heldBy_12 ?_
  refine g_iand dX6_heldBy_13 ?_
  rw [bt_cl (by omega) (by omega)]
  refine g_istore_2 dX6_heldBy_14 rfl ?_
  refine g_aloadR_n dX6_heldBy_15 rfl rfl ?_
  refine n_getR dX6_heldBy_16 fX6_16 rfl hW1 vld_x0 rfl rfl ?_
  refine g_aloadR_n dX6_heldBy_19 rfl rfl ?_
  refine n_getR dX6_heldBy_20 fX6_10 rfl hW1 vld_x0 rfl rfl ?_
  refine n_v1v (n' := 1) dX6_heldBy_23 mX4_become lX6_186 rfl hW1 (vld_sc (by decide : 1 < 4)) rfl rfl ⟨Nat.le_of_ble_eq_true rfl, Nat.le_of_ble_eq_true rfl⟩ ⟨Nat.zero_le _, Nat.zero_le _⟩ (Nat.le_of_ble_eq_true rfl) ?_
  refine wp_X4_become (by exact hW1) (by decide : 1 < 4) (by decide : 0 < 4) (by decide) hX1.1 hO.1 (fun M2 hf2 hP2 => ?_)
  have hW2 := hf2.W hW1
  have hd2 : FrI DX M M2 := hd1.tr (hf2.mono Dk1_DX)
  have hd2b : FrI DX M (sI M2 (2, 1, p) 8 1) := hd2.tr (frDk2.mono Dk1_DX)
  have hPb : RepC (sI M2 (2, 1, p) 8 1) 1 (upS (xS X) p 8 1) := hP2.upP
  refine ⟨rfl, ?_⟩
  refine g_aloadR_n dX6_heldBy_26 rfl rfl ?_
  refine n_getR dX6_heldBy_27 fX6_16 rfl hW2 vld_x0 rfl rfl ?_
  refine g_iload_n dX6_heldBy_30 rfl rfl ?_
  refine n_v1r (n' := 0) dX6_heldBy_31 mX4_one lX6_129 rfl hW2 (vld_sc (by decide : 1 < 4)) rfl rfl ⟨Nat.le_of_ble_eq_true rfl, Nat.le_of_ble_eq_true rfl⟩ ⟨Nat.zero_le _, Nat.zero_le _⟩ (Nat.le_of_ble_eq_true rfl) ?_
  refine wp_X4_oneN (by exact hW2) (by decide : 1 < 4) (by omega) ?_
  refine ⟨_, rfl, ?_⟩
  refine g_iconst dX6_heldBy_34 (v := 1) (by decide) ?_
  refine n_putZ dX6_heldBy_35 fX6_166 rfl hW2 (vld_pe (by decide : 1 < 4) (show p < 11 by omega)) rfl (Or.inr rfl) ?_
  refine g_iload_n dX6_heldBy_38 rfl rfl ?_
  refine n_s1i (n' := 0) dX6_heldBy_39 mJ6_bitCount_0f7a4 lX6_210 ⟨Nat.le_of_ble_eq_true rfl, Nat.le_of_ble_eq_true rfl⟩ ⟨Nat.zero_le _, Nat.zero_le _⟩ (Nat.le_of_ble_eq_true rfl) ?_
  refine wp_J6_bitCount (m := clr (comersS (xS X) 0) p) (by omega) ?_
  refine ⟨_, rfl, ?_⟩
  refine g_aloadR_n dX6_heldBy_42 rfl rfl ?_
  refine n_getR dX6_heldBy_43 fX6_16 rfl hW2 vld_x0 rfl rfl ?_
  refine g_iconst dX6_heldBy_46 (v := 0) (by decide) ?_
  refine n_v1i (n' := 4) dX6_heldBy_47 mX4_comers lX6_193 rfl hW2 (vld_sc (by decide : 1 < 4)) rfl rfl ⟨Nat.le_of_ble_eq_true rfl, Nat.le_of_ble_eq_true rfl⟩ ⟨Nat.zero_le _, Nat.zero_le _⟩ (Nat.le_of_ble_eq_true rfl) ?_
  refine wp_X4_comers (r := 0) (by exact hW2) (by decide : 1 < 4) hPb hs10 (by decide) (fun M5 hf5 => ?_)
  have hW5 := hf5.W (by exact hW2)
  have hd5 : FrI DX M M5 := hd2b.tr (hf5.mono D9_DX)
  refine ⟨_, rfl, ?_⟩
  refine n_s1i (n' := 0) dX6_heldBy_50 mJ6_bitCount_0f7a4 lX6_210 ⟨Nat.le_of_ble_eq_true rfl, Nat.le_of_ble_eq_true rfl⟩ ⟨Nat.zero_le _, Nat.zero_le _⟩ (Nat.le_of_ble_eq_true rfl) ?_
  refine wp_J6_bitCount (m := comersS (upS (xS X) p 8 1) 0) (by have : (upS (xS X) p 8 1).1 = (xS X).1 := rfl; rw [this] at hcl2; omega) ?_
  refine ⟨_, rfl, ?_⟩
  refine g_isub dX6_heldBy_53 ?_
  refine g_iret dX6_heldBy_54 rfl ?_
  exact h _ hd5
def opKeeps (X : Sys) (x : Int32) : Int32 × Sys := if ¬ IN x (xS X).1 then rfX X 1 else if ¬ (xS X).2.2 x.toNatClampNeg 8 = 0 then rfX X 6 else (heldF (xS X) x.toNatClampNeg, X)
set_option maxHeartbeats 4000000 in
set_option maxRecDepth 100000 in
theorem wp_X6_keeps {E : Ev} {M : Mem} {Q : QT} (hW : Wi M) {X : Sys} (hX : RepCl M X) (hO : OkX X) {x : Int32} (h : ∀ M', FrC M M' → RepCl M' (opKeeps X x).2 → Q (some (vI (opKeeps X x).1)) M') : Mth E 6 0 0 kX6_keeps [vR (0, 0, 0), vI x] M Q := by
  have hR0 := hX.1
  have hsz := hX.1.1
  have hs10 : (xS X).1 ≤ 10 := hO.1.1
  refine mth_of (by decide +kernel) [some (vR (0, 0, 0)), some (vI x)] (Nat.le_of_ble_eq_true rfl) rfl ?_
  refine g_aloadR_n dX6_keeps_0 rfl rfl ?_
  refine n_getR dX6_keeps_1 fX6_10 rfl hW vld_x0 rfl rfl ?_
  refine g_iload_n dX6_keeps_4 rfl rfl ?_
  refine n_v1i (n' := 0) dX6_keeps_5 mX4_has lX6_116 rfl hW (vld_sc (by decide : 0 < 4)) rfl rfl ⟨Nat.le_of_ble_eq_true rfl, Nat.le_of_ble_eq_true rfl⟩ ⟨Nat.zero_le _, Nat.zero_le _⟩ (Nat.le_of_ble_eq_true rfl) ?_
  refine wp_X4_has (by exact hW) (by decide : 0 < 4) hsz hs10 ?_
  refine ⟨_, rfl, ?_⟩
  refine g_if_ne (tgt := 17) dX6_keeps_8 (by decide) (fun c8 => ?_) (fun c8 => ?_)
  · simp only [b2_0, Decidable.not_not] at c8
    have hx := (IN_nI c8).2
    have px : pix x = x.toNatClampNeg := if_pos ⟨c8.1, by have := c8.2; omega⟩
    refine g_aloadR_n dX6_keeps_17 rfl rfl ?_
    refine n_getR dX6_keeps_18 fX6_10 rfl hW vld_x0 rfl rfl ?_
    refine g_iload_n dX6_keeps_21 rfl rfl ?_
    refine n_v1r (n' := 0) dX6_keeps_22 mX4_one lX6_129 rfl hW (vld_sc (by decide : 0 < 4)) rfl rfl ⟨Nat.le_of_ble_eq_true rfl, Nat.le_of_ble_eq_true rfl⟩ ⟨Nat.zero_le _, Nat.zero_le _⟩ (Nat.le_of_ble_eq_true rfl) ?_
    refine wp_X4_one (by exact hW) (by decide : 0 < 4) ?_
    refine ⟨_, rfl, ?_⟩
    refine n_getI dX6_keeps_25 fX6_166 rfl hW (vld_pe (by decide : 0 < 4) (pix_lt _)) (Or.inr rfl) ?_
    refine g_if_eq (tgt := 38) dX6_keeps_28 (by decide) (fun c28 => ?_) (fun c28 => ?_)
    · rw [px, hR0.2.2 _ 8 hx (by decide)] at c28
      refine g_aloadR_n dX6_keeps_38 rfl rfl ?_
      refine g_iload_n dX6_keeps_39 rfl rfl ?_
      refine n_v1i (n' := 5) dX6_keeps_40 mX6_heldBy lX6_246 rfl hW vld_x0 rfl rfl ⟨Nat.le_of_ble_eq_true rfl, Nat.le_of_ble_eq_true rfl⟩ ⟨Nat.zero_le _, Nat.zero_le _⟩ (Nat.le_of_ble_eq_true rfl) ?_
      rw [(IN_nI c8).1]
      refine wp_X6_heldBy (by exact hW) hX hO hx (fun M3 hd3 => ?_)
      have hW3 := hd3.W hW
      refine ⟨_, rfl, ?_⟩
      refine g_iret dX6_keeps_43 rfl ?_
      have e : opKeeps X x = (heldF (xS X) x.toNatClampNeg, X) := by
        unfold opKeeps
        try first | rw [if_pos c8] | rw [if_neg c8] | rw [if_neg (not_not_intro c8)]
        try first | rw [if_pos c28] | rw [if_neg c28] | rw [if_neg (not_not_intro c28)]
        try rfl
      rw [e] at h
      exact h _ (frC_DX hd3) (hX.hd hd3)
    · rw [px, hR0.2.2 _ 8 hx (by decide)] at c28
      refine g_aloadR_n dX6_keeps_31 rfl rfl ?_
      refine g_bipush dX6_keeps_32 (v := (-6)) (by decide) ?_
      refine n_v1i (n' := 0) dX6_keeps_34 mX6_refuse lX6_66 rfl hW vld_x0 rfl rfl ⟨Nat.le_of_ble_eq_true rfl, Nat.le_of_ble_eq_true rfl⟩ ⟨Nat.zero_le _, Nat.zero_le _⟩ (Nat.le_of_ble_eq_true rfl) ?_
      refine wp_X6_refuse (j := 6) (by exact hW) (by decide) (by decide) ?_
      refine ⟨_, rfl, ?_⟩
      refine g_iret dX6_keeps_37 rfl ?_
      have e : opKeeps X x = rfX X 6 := by
        unfold opKeeps
        try first | rw [if_pos c8] | rw [if_neg c8] | rw [if_neg (not_not_intro c8)]
        try first | rw [if_pos c28] | rw [if_neg c28] | rw [if_neg (not_not_intro c28)]
        try rfl
      rw [e] at h; exact h _ (frC_sI (by decide)) (repCl_rfz hX (by decide) (by decide))
  · simp only [b2_0, Decidable.not_not] at c8
    refine g_aloadR_n dX6_keeps_11 rfl rfl ?_
    refine g_iconst dX6_keeps_12 (v := (-1)) (by decide) ?_
    refine n_v1i (n' := 0) dX6_keeps_13 mX6_refuse lX6_66 rfl hW vld_x0 rfl rfl ⟨Nat.le_of_ble_eq_true rfl, Nat.le_of_ble_eq_true rfl⟩ ⟨Nat.zero_le _, Nat.zero_le _⟩ (Nat.le_of_ble_eq_true rfl) ?_
    refine wp_X6_refuse (j := 1) (by exact hW) (by decide) (by decide) ?_
    refine ⟨_, rfl, ?_⟩
    refine g_iret dX6_keeps_16 rfl ?_
    have e : opKeeps X x = rfX X 1 := by
      unfold opKeeps
      try first | rw [if_pos c8] | rw [if_neg c8] | rw [if_neg (not_not_intro c8)]
      try rfl
    rw [e] at h; exact h _ (frC_sI (by decide)) (repCl_rfz hX (by decide) (by decide))
def kpF (S : Sc) : Nat → Int32 × Int32
  | 0 => (-1, -1)
  | l + 1 => if (if ¬ S.2.2 l 8 = 0 then -1 else heldF S l) ≤ (kpF S l).2 then kpF S l else (nI l, if ¬ S.2.2 l 8 = 0 then -1 else heldF S l)
set_option maxHeartbeats 4000000 in
set_option maxRecDepth 100000 in
theorem lp_X6_keep {E : Ev} {M : Mem} {Q : QT} (hW : Wi M) {X : Sys} (hX : RepCl M X) (hO : OkX X) (h : ∀ M', FrC M M' → RepCl M' X → Q (some (vI (kpF (xS X) (xS X).1).1)) M') : ∀ j, j ≤ (xS X).1 → ∀ (M1 : Mem) (a4 : Option AV), FrI DX M M1 → G E (rm 6 0 0) kX6_keep (ZQ E Q 0 0) 0 0 6 [some (vR (0, 0, 0)), some (vI (kpF (xS X) j).1), some (vI (kpF (xS X) j).2), some (vI (nI j)), a4] [] M1 := by
  refine up_loop (xS X).1 (fun j hj ih M1 a4 hdl => ?_)
  have hW1 := hdl.W hW
  have hXl := hX.hd hdl
  have hs10 : (xS X).1 ≤ 10 := hO.1.1
  refine g_iload_n dX6_keep_6 rfl rfl ?_
  refine g_aloadR_n dX6_keep_7 rfl rfl ?_
  refine n_getR dX6_keep_8 fX6_10 rfl hW1 vld_x0 rfl rfl ?_
  refine n_getI dX6_keep_11 fX6_233 rfl hW1 (vld_sc (by decide : 0 < 4)) (Or.inl rfl) ?_
  refine g_icmp_ge (tgt := 59) dX6_keep_14 (by decide) (fun c14 => ?_) (fun c14 => ?_)
  · have hj2 := sz_ge hXl.1.1 (by omega) (by omega) c14
    have hj3 : j = (xS X).1 := by omega
    subst hj3
    refine g_iload_n dX6_keep_59 rfl rfl ?_
    refine g_iret dX6_keep_60 rfl ?_
    exact h M1 (frC_DX hdl) hXl
  · have hjn := sz_lt hXl.1.1 (by omega) (by omega) c14
    refine g_aloadR_n dX6_keep_17 rfl rfl ?_
    refine n_getR dX6_keep_18 fX6_10 rfl hW1 vld_x0 rfl rfl ?_
    refine g_iload_n dX6_keep_21 rfl rfl ?_
    refine n_v1r (n' := 0) dX6_keep_22 mX4_one lX6_129 rfl hW1 (vld_sc (by decide : 0 < 4)) rfl rfl ⟨Nat.le_of_ble_eq_true rfl, Nat.le_of_ble_eq_true rfl⟩ ⟨Nat.zero_le _, Nat.zero_le _⟩ (Nat.le_of_ble_eq_true rfl) ?_
    refine wp_X4_oneN (by exact hW1) (by decide : 0 < 4) (by omega) ?_
    refine ⟨_, rfl, ?_⟩
    refine n_getI dX6_keep_25 fX6_166 rfl hW1 (vld_pe (by decide : 0 < 4) (show j < 11 by omega)) (Or.inr rfl) ?_
    refine g_if_eq (tgt := 35) dX6_keep_28 (by decide) (fun c28 => ?_) (fun c28 => ?_)
    · rw [hXl.1.2.2 j 8 hjn (by decide)] at c28
      refine g_aloadR_n dX6_keep_35 rfl rfl ?_
      refine g_iload_n dX6_keep_36 rfl rfl ?_
      refine n_v1i (n' := 5) dX6_keep_37 mX6_heldBy lX6_246 rfl hW1 vld_x0 rfl rfl ⟨Nat.le_of_ble_eq_true rfl, Nat.le_of_ble_eq_true rfl⟩ ⟨Nat.zero_le _, Nat.zero_le _⟩ (Nat.le_of_ble_eq_true rfl) ?_
      refine wp_X6_heldBy (by exact hW1) hXl hO hjn (fun M2a hd2a => ?_)
      have hW2 := hd2a.W hW1
      have hd2 := hdl.tr hd2a
      refine ⟨_, rfl, ?_⟩
      refine g_istore_4 dX6_keep_40 rfl ?_
      refine g_iload dX6_keep_42 rfl ?_
      refine g_iload_n dX6_keep_44 rfl rfl ?_
      refine g_icmp_le (tgt := 53) dX6_keep_45 (by decide) (fun c45 => ?_) (fun c45 => ?_)
      · refine g_iinc_3 (v := nI (j + 1)) dX6_keep_53 rfl (nI_inc j) ?_
        refine g_goto (tgt := 6) dX6_keep_56 (by decide) ?_
        have hi := ih hjn _ (some (vI (heldF (xS X) j))) hd2
        rw [kpF, if_neg (not_not_intro c28)] at hi
        first
          | (rw [if_pos c45] at hi; exact hi)
          | (rw [if_neg c45] at hi; exact hi)
      · refine g_iload dX6_keep_48 rfl ?_
        refine g_istore_2 dX6_keep_50 rfl ?_
        refine g_iload_n dX6_keep_51 rfl rfl ?_
        refine g_istore_1 dX6_keep_52 rfl ?_
        refine g_iinc_3 (v := nI (j + 1)) dX6_keep_53 rfl (nI_inc j) ?_
        refine g_goto (tgt := 6) dX6_keep_56 (by decide) ?_
        have hi := ih hjn _ (some (vI (heldF (xS X) j))) hd2
        rw [kpF, if_neg (not_not_intro c28)] at hi
        first
          | (rw [if_pos c45] at hi; exact hi)
          | (rw [if_neg c45] at hi; exact hi)
    · rw [hXl.1.2.2 j 8 hjn (by decide)] at c28
      refine g_iconst dX6_keep_31 (v := (-1)) (by decide) ?_
      refine g_goto (tgt := 40) dX6_keep_32 (by decide) ?_
      refine g_istore_4 dX6_keep_40 rfl ?_
      refine g_iload dX6_keep_42 rfl ?_
      refine g_iload_n dX6_keep_44 rfl rfl ?_
      refine g_icmp_le (tgt := 53) dX6_keep_45 (by decide) (fun c45 => ?_) (fun c45 => ?_)
      · refine g_iinc_3 (v := nI (j + 1)) dX6_keep_53 rfl (nI_inc j) ?_
        refine g_goto (tgt := 6) dX6_keep_56 (by decide) ?_
        have hi := ih hjn _ (some (vI (-1))) hdl
        rw [kpF, if_pos c28] at hi
        first
          | (rw [if_pos c45] at hi; exact hi)
          | (rw [if_neg c45] at hi; exact hi)
      · refine g_iload dX6_keep_48 rfl ?_
        refine g_istore_2 dX6_keep_50 rfl ?_
        refine g_iload_n dX6_keep_51 rfl rfl ?_
        refine g_istore_1 dX6_keep_52 rfl ?_
        refine g_iinc_3 (v := nI (j + 1)) dX6_keep_53 rfl (nI_inc j) ?_
        refine g_goto (tgt := 6) dX6_keep_56 (by decide) ?_
        have hi := ih hjn _ (some (vI (-1))) hdl
        rw [kpF, if_pos c28] at hi
        first
          | (rw [if_pos c45] at hi; exact hi)
          | (rw [if_neg c45] at hi; exact hi)
def opKeep (X : Sys) : Int32 × Sys := ((kpF (xS X) (xS X).1).1, X)
set_option maxHeartbeats 4000000 in
set_option maxRecDepth 100000 in
theorem wp_X6_keep {E : Ev} {M : Mem} {Q : QT} (hW : Wi M) {X : Sys} (hX : RepCl M X) (hO : OkX X) (h : ∀ M', FrC M M' → RepCl M' (opKeep X).2 → Q (some (vI (opKeep X).1)) M') : Mth E 6 0 0 kX6_keep [vR (0, 0, 0)] M Q := by
  have hR0 := hX.1
  have hsz := hX.1.1
  have hs10 : (xS X).1 ≤ 10 := hO.1.1
  refine mth_of (by decide +kernel) [some (vR (0, 0, 0)), none, none, none, none] (Nat.le_of_ble_eq_true rfl) rfl ?_
  refine g_iconst dX6_keep_0 (v := (-1)) (by decide) ?_
  refine g_istore_1 dX6_keep_1 rfl ?_
  refine g_iconst dX6_keep_2 (v := (-1)) (by decide) ?_
  refine g_istore_2 dX6_keep_3 rfl ?_
  refine g_iconst dX6_keep_4 (v := 0) (by decide) ?_
  refine g_istore_3 dX6_keep_5 rfl ?_
  unfold opKeep at h
  dsimp only at h
  exact lp_X6_keep hW hX hO h 0 (Nat.zero_le _) M none FrI.rf
def prF (S : Sc) : Nat → Int32
  | 0 => 0
  | l + 1 => if S.2.2 l 4 ≤ nI l then prF S l else if ¬ S.2.2 (S.2.2 l 4).toNatClampNeg 4 = nI l then prF S l else prF S l + Int32.ofInt 1
set_option maxHeartbeats 4000000 in
set_option maxRecDepth 100000 in
theorem lp_X6_pairs {E : Ev} {M : Mem} {Q : QT} (hW : Wi M) {X : Sys} (hX : RepCl M X) (hO : OkX X) (h : Q (some (vI (prF (xS X) (xS X).1))) M) : ∀ j, j ≤ (xS X).1 → ∀ (a3 : Option AV), G E (rm 1 0 0) kX6_pairs (ZQ E Q 0 0) 0 0 4 [some (vR (0, 0, 0)), some (vI (prF (xS X) j)), some (vI (nI j)), a3] [] M := by
  refine up_loop (xS X).1 (fun j hj ih a3 => ?_)
  have hs10 : (xS X).1 ≤ 10 := hO.1.1
  have hR0 := hX.1
  refine g_iload_n dX6_pairs_4 rfl rfl ?_
  refine g_aloadR_n dX6_pairs_5 rfl rfl ?_
  refine n_getR dX6_pairs_6 fX6_10 rfl hW vld_x0 rfl rfl ?_
  refine n_getI dX6_pairs_9 fX6_233 rfl hW (vld_sc (by decide : 0 < 4)) (Or.inl rfl) ?_
  refine g_icmp_ge (tgt := 56) dX6_pairs_12 (by decide) (fun c12 => ?_) (fun c12 => ?_)
  · have hj2 := sz_ge hR0.1 (by omega) (by omega) c12
    have hj3 : j = (xS X).1 := by omega
    subst hj3
    refine g_iload_n dX6_pairs_56 rfl rfl ?_
    refine g_iret dX6_pairs_57 rfl ?_
    exact h
  · have hjn := sz_lt hR0.1 (by omega) (by omega) c12
    have hm := hR0.2.2 j 4 hjn (by decide)
    refine g_aloadR_n dX6_pairs_15 rfl rfl ?_
    refine n_getR dX6_pairs_16 fX6_10 rfl hW vld_x0 rfl rfl ?_
    refine g_iload_n dX6_pairs_19 rfl rfl ?_
    refine n_v1r (n' := 0) dX6_pairs_20 mX4_one lX6_129 rfl hW (vld_sc (by decide : 0 < 4)) rfl rfl ⟨Nat.le_of_ble_eq_true rfl, Nat.le_of_ble_eq_true rfl⟩ ⟨Nat.zero_le _, Nat.zero_le _⟩ (Nat.le_of_ble_eq_true rfl) ?_
    refine wp_X4_oneN (by exact hW) (by decide : 0 < 4) (by omega) ?_
    refine ⟨_, rfl, ?_⟩
    refine n_getI dX6_pairs_23 fX6_151 rfl hW (vld_pe (by decide : 0 < 4) (show j < 11 by omega)) (Or.inl rfl) ?_
    refine g_istore_3 dX6_pairs_26 rfl ?_
    refine g_iload_n dX6_pairs_27 rfl rfl ?_
    refine g_iload_n dX6_pairs_28 rfl rfl ?_
    refine g_icmp_le (tgt := 50) dX6_pairs_29 (by decide) (fun c29 => ?_) (fun c29 => ?_)
    · rw [hm] at c29
      refine g_iinc_2 (v := nI (j + 1)) dX6_pairs_50 rfl (nI_inc j) ?_
      refine g_goto (tgt := 4) dX6_pairs_53 (by decide) ?_
      have hi := ih hjn (some (vI (mI M (2, 0, j) 4)))
      rw [prF] at hi
      first
        | (rw [if_pos c29] at hi; exact hi)
        | (rw [if_neg c29, if_pos c44] at hi; exact hi)
        | (rw [if_neg c29, if_neg c44] at hi; exact hi)
        | (rw [if_neg c29, if_neg (not_not_intro c44)] at hi; exact hi)
    · rw [hm] at c29
      have hmI : IN ((xS X).2.2 j 4) (xS X).1 := by
        have hp := (hO.1.2.2.2.2.2 j hjn).2.2.2.2.1
        rcases hp with hp | hp
        · exfalso; rw [hp] at c29; have := nI_toInt (n := j) (by omega); simp only [Int32.le_iff_toInt_le, zcs] at c29; omega
        · exact hp
      have hmx := (IN_nI hmI).2
      have px : pix (mI M (2, 0, j) 4) = ((xS X).2.2 j 4).toNatClampNeg := by rw [hm]; exact if_pos ⟨hmI.1, by have := hmI.2; omega⟩
      refine g_aloadR_n dX6_pairs_32 rfl rfl ?_
      refine n_getR dX6_pairs_33 fX6_10 rfl hW vld_x0 rfl rfl ?_
      refine g_iload_n dX6_pairs_36 rfl rfl ?_
      refine n_v1r (n' := 0) dX6_pairs_37 mX4_one lX6_129 rfl hW (vld_sc (by decide : 0 < 4)) rfl rfl ⟨Nat.le_of_ble_eq_true rfl, Nat.le_of_ble_eq_true rfl⟩ ⟨Nat.zero_le _, Nat.zero_le _⟩ (Nat.le_of_ble_eq_true rfl) ?_
      refine wp_X4_one (by exact hW) (by decide : 0 < 4) ?_
      refine ⟨_, rfl, ?_⟩
      refine n_getI dX6_pairs_40 fX6_151 rfl hW (vld_pe (by decide : 0 < 4) (pix_lt _)) (Or.inl rfl) ?_
      refine g_iload_n dX6_pairs_43 rfl rfl ?_
      refine g_icmp_ne (tgt := 50) dX6_pairs_44 (by decide) (fun c44 => ?_) (fun c44 => ?_)
      · rw [px, hR0.2.2 _ 4 hmx (by decide)] at c44
        refine g_iinc_2 (v := nI (j + 1)) dX6_pairs_50 rfl (nI_inc j) ?_
        refine g_goto (tgt := 4) dX6_pairs_53 (by decide) ?_
        have hi := ih hjn (some (vI (mI M (2, 0, j) 4)))
        rw [prF] at hi
        first
          | (rw [if_pos c29] at hi; exact hi)
          | (rw [if_neg c29, if_pos c44] at hi; exact hi)
          | (rw [if_neg c29, if_neg c44] at hi; exact hi)
          | (rw [if_neg c29, if_neg (not_not_intro c44)] at hi; exact hi)
      · rw [px, hR0.2.2 _ 4 hmx (by decide)] at c44
        refine g_iinc_1 dX6_pairs_47 rfl rfl ?_
        refine g_iinc_2 (v := nI (j + 1)) dX6_pairs_50 rfl (nI_inc j) ?_
        refine g_goto (tgt := 4) dX6_pairs_53 (by decide) ?_
        have hi := ih hjn (some (vI (mI M (2, 0, j) 4)))
        rw [prF] at hi
        first
          | (rw [if_pos c29] at hi; exact hi)
          | (rw [if_neg c29, if_pos c44] at hi; exact hi)
          | (rw [if_neg c29, if_neg c44] at hi; exact hi)
          | (rw [if_neg c29, if_neg (not_not_intro c44)] at hi; exact hi)
set_option maxHeartbeats 4000000 in
set_option maxRecDepth 100000 in
theorem wp_X6_pairs {E : Ev} {M : Mem} {Q : QT} (hW : Wi M) {X : Sys} (hX : RepCl M X) (hO : OkX X) (h : Q (some (vI (prF (xS X) (xS X).1))) M) : Mth E 1 0 0 kX6_pairs [vR (0, 0, 0)] M Q := by
  refine mth_of (by decide +kernel) [some (vR (0, 0, 0)), none, none, none] (Nat.le_of_ble_eq_true rfl) rfl ?_
  refine g_iconst dX6_pairs_0 (v := 0) (by decide) ?_
  refine g_istore_1 dX6_pairs_1 rfl ?_
  refine g_iconst dX6_pairs_2 (v := 0) (by decide) ?_
  refine g_istore_2 dX6_pairs_3 rfl ?_
  exact lp_X6_pairs hW hX hO h 0 (Nat.zero_le _) none
def chF (S : Sc) : Nat → Nat → Int32 → Nat
  | 0, m, _ => m
  | d + 1, m, a => if ¬ IN a S.1 then m else if m.testBit a.toNatClampNeg = true then m else chF S d (m + 2 ^ a.toNatClampNeg) (S.2.2 a.toNatClampNeg 4)
set_option maxHeartbeats 4000000 in
set_option maxRecDepth 100000 in
theorem lp_X6_chain {E : Ev} {M : Mem} {Q : QT} (hW : Wi M) {X : Sys} (hX : RepCl M X) (hO : OkX X) {x1 : Int32} : ∀ j, j ≤ 10 → ∀ (m : Nat) (a : Int32), m < 2048 → Q (some (vI (nI (cnt (chF (xS X) (10 - j) m a) 11) - 1))) M → G E (rm 1 0 0) kX6_chain (ZQ E Q 0 0) 0 0 36 [some (vR (0, 0, 0)), some (vI x1), some (vI (nI m)), some (vI a), some (vI (nI j))] [] M := by
  refine up_loop 10 (fun j hj ih m a hm h => ?_)
  have hs10 : (xS X).1 ≤ 10 := hO.1.1
  have hR0 := hX.1
  have hsz := hX.1.1
  refine g_iload dX6_chain_36 rfl ?_
  refine g_bipush dX6_chain_38 (v := 10) (by decide) ?_
  refine g_icmp_ge (tgt := 86) dX6_chain_40 (by decide) (fun c40 => ?_) (fun c40 => ?_)
  · have hj2 : j = 10 := by
      have := nI_toInt (n := j) (by omega)
      simp only [Int32.le_iff_toInt_le, zcs] at c40; omega
    subst hj2
    rw [Nat.sub_self, chF] at h
    refine g_iload_n dX6_chain_86 rfl rfl ?_
    refine n_s1i (n' := 0) dX6_chain_87 mJ6_bitCount_0f7a4 lX6_210 ⟨Nat.le_of_ble_eq_true rfl, Nat.le_of_ble_eq_true rfl⟩ ⟨Nat.zero_le _, Nat.zero_le _⟩ (Nat.le_of_ble_eq_true rfl) ?_
    refine wp_J6_bitCount hm ?_
    refine ⟨_, rfl, ?_⟩
    refine g_iconst dX6_chain_90 (v := 1) (by decide) ?_
    refine g_isub dX6_chain_91 ?_
    refine g_iret dX6_chain_92 rfl ?_
    exact h
  · have hjn : j < 10 := by
      have := nI_toInt (n := j) (by omega)
      simp only [Int32.le_iff_toInt_le, zcs] at c40; omega
    obtain ⟨d, hd0⟩ : ∃ d, 10 - j = d + 1 := ⟨9 - j, by omega⟩
    have hd2 : 10 - (j + 1) = d := by omega
    rw [hd0, chF] at h
    refine g_aloadR_n dX6_chain_43 rfl rfl ?_
    refine n_getR dX6_chain_44 fX6_10 rfl hW vld_x0 rfl rfl ?_
    refine g_iload_n dX6_chain_47 rfl rfl ?_
    refine n_v1i (n' := 0) dX6_chain_48 mX4_has lX6_116 rfl hW (vld_sc (by decide : 0 < 4)) rfl rfl ⟨Nat.le_of_ble_eq_true rfl, Nat.le_of_ble_eq_true rfl⟩ ⟨Nat.zero_le _, Nat.zero_le _⟩ (Nat.le_of_ble_eq_true rfl) ?_
    refine wp_X4_has (by exact hW) (by decide : 0 < 4) hsz hs10 ?_
    refine ⟨_, rfl, ?_⟩
    refine g_if_eq (tgt := 86) dX6_chain_51 (by decide) (fun c51 => ?_) (fun c51 => ?_)
    · simp only [b2_0, Decidable.not_not] at c51
      rw [if_pos c51] at h
      refine g_iload_n dX6_chain_86 rfl rfl ?_
      refine n_s1i (n' := 0) dX6_chain_87 mJ6_bitCount_0f7a4 lX6_210 ⟨Nat.le_of_ble_eq_true rfl, Nat.le_of_ble_eq_true rfl⟩ ⟨Nat.zero_le _, Nat.zero_le _⟩ (Nat.le_of_ble_eq_true rfl) ?_
      refine wp_J6_bitCount hm ?_
      refine ⟨_, rfl, ?_⟩
      refine g_iconst dX6_chain_90 (v := 1) (by decide) ?_
      refine g_isub dX6_chain_91 ?_
      refine g_iret dX6_chain_92 rfl ?_
      exact h
    · simp only [b2_0, Decidable.not_not] at c51
      rw [if_neg (not_not_intro c51)] at h
      obtain ⟨ha1, ha2⟩ := IN_nI c51
      have px : pix a = a.toNatClampNeg := if_pos ⟨c51.1, by have := c51.2; omega⟩
      refine g_iload_n dX6_chain_54 rfl rfl ?_
      refine g_iload_n dX6_chain_55 rfl rfl ?_
      refine n_s2i (n' := 0) dX6_chain_56 mX6_isIn lX6_243 ⟨Nat.le_of_ble_eq_true rfl, Nat.le_of_ble_eq_true rfl⟩ ⟨Nat.zero_le _, Nat.zero_le _⟩ (Nat.le_of_ble_eq_true rfl) ?_
      refine wp_X6_isIn hm ?_
      refine ⟨_, rfl, ?_⟩
      refine g_if_ne (tgt := 86) dX6_chain_59 (by decide) (fun c59 => ?_) (fun c59 => ?_)
      · simp only [b2_0, Decidable.not_not] at c59
        rw [if_pos c59.2] at h
        refine g_iload_n dX6_chain_86 rfl rfl ?_
        refine n_s1i (n' := 0) dX6_chain_87 mJ6_bitCount_0f7a4 lX6_210 ⟨Nat.le_of_ble_eq_true rfl, Nat.le_of_ble_eq_true rfl⟩ ⟨Nat.zero_le _, Nat.zero_le _⟩ (Nat.le_of_ble_eq_true rfl) ?_
        refine wp_J6_bitCount hm ?_
        refine ⟨_, rfl, ?_⟩
        refine g_iconst dX6_chain_90 (v := 1) (by decide) ?_
        refine g_isub dX6_chain_91 ?_
        refine g_iret dX6_chain_92 rfl ?_
        exact h
      · simp only [b2_0, Decidable.not_not] at c59
        have hnb : ¬ m.testBit a.toNatClampNeg = true := fun q => c59 ⟨⟨c51.1, by have := c51.2; omega⟩, q⟩
        rw [if_neg hnb] at h
        obtain ⟨g1, g2⟩ := bt_og (by omega) hm hnb
        rw [← ha1] at g1
        refine g_iload_n dX6_chain_62 rfl rfl ?_
        refine g_iconst dX6_chain_63 (v := 1) (by decide) ?_
        refine g_iload_n dX6_chain_64 rfl rfl ?_
        refine g_ishl dX6_chain_65 ?_
        refine g_ior dX6_chain_66 ?_
        rw [g1]
        refine g_istore_2 dX6_chain_67 rfl ?_
        refine g_aloadR_n dX6_chain_68 rfl rfl ?_
        refine n_getR dX6_chain_69 fX6_10 rfl hW vld_x0 rfl rfl ?_
        refine g_iload_n dX6_chain_72 rfl rfl ?_
        refine n_v1r (n' := 0) dX6_chain_73 mX4_one lX6_129 rfl hW (vld_sc (by decide : 0 < 4)) rfl rfl ⟨Nat.le_of_ble_eq_true rfl, Nat.le_of_ble_eq_true rfl⟩ ⟨Nat.zero_le _, Nat.zero_le _⟩ (Nat.le_of_ble_eq_true rfl) ?_
        refine wp_X4_one (by exact hW) (by decide : 0 < 4) ?_
        refine ⟨_, rfl, ?_⟩
        refine n_getI dX6_chain_76 fX6_151 rfl hW (vld_pe (by decide : 0 < 4) (pix_lt _)) (Or.inl rfl) ?_
        refine g_istore_3 dX6_chain_79 rfl ?_
        refine g_iinc_4 (v := nI (j + 1)) dX6_chain_80 rfl (nI_inc j) ?_
        refine g_goto (tgt := 36) dX6_chain_83 (by decide) ?_
        rw [px, hR0.2.2 _ 4 ha2 (by decide)]
        exact ih hjn _ _ g2 (by rw [hd2]; exact h)
def opChain (X : Sys) (x : Int32) : Int32 × Sys := if ¬ IN x (xS X).1 then rfX X 1 else (nI (cnt (chF (xS X) 10 (2 ^ x.toNatClampNeg) ((xS X).2.2 x.toNatClampNeg 4)) 11) - 1, X)
set_option maxHeartbeats 4000000 in
set_option maxRecDepth 100000 in
theorem wp_X6_chain {E : Ev} {M : Mem} {Q : QT} (hW : Wi M) {X : Sys} (hX : RepCl M X) (hO : OkX X) {x : Int32} (h : ∀ M', FrC M M' → RepCl M' (opChain X x).2 → Q (some (vI (opChain X x).1)) M') : Mth E 1 0 0 kX6_chain [vR (0, 0, 0), vI x] M Q := by
  have hR0 := hX.1
  have hsz := hX.1.1
  have hs10 : (xS X).1 ≤ 10 := hO.1.1
  refine mth_of (by decide +kernel) [some (vR (0, 0, 0)), some (vI x), none, none, none] (Nat.le_of_ble_eq_true rfl) rfl ?_
  refine g_aloadR_n dX6_chain_0 rfl rfl ?_
  refine n_getR dX6_chain_1 fX6_10 rfl hW vld_x0 rfl rfl ?_
  refine g_iload_n dX6_chain_4 rfl rfl ?_
  refine n_v1i (n' := 0) dX6_chain_5 mX4_has lX6_116 rfl hW (vld_sc (by decide : 0 < 4)) rfl rfl ⟨Nat.le_of_ble_eq_true rfl, Nat.le_of_ble_eq_true rfl⟩ ⟨Nat.zero_le _, Nat.zero_le _⟩ (Nat.le_of_ble_eq_true rfl) ?_
  refine wp_X4_has (by exact hW) (by decide : 0 < 4) hsz hs10 ?_
  refine ⟨_, rfl, ?_⟩
  refine g_if_ne (tgt := 17) dX6_chain_8 (by decide) (fun c8 => ?_) (fun c8 => ?_)
  · simp only [b2_0, Decidable.not_not] at c8
    have hx := (IN_nI c8).2
    have px : pix x = x.toNatClampNeg := if_pos ⟨c8.1, by have := c8.2; omega⟩
    refine g_iconst dX6_chain_17 (v := 1) (by decide) ?_
    refine g_iload_n dX6_chain_18 rfl rfl ?_
    refine g_ishl dX6_chain_19 ?_
    refine g_istore_2 dX6_chain_20 rfl ?_
    refine g_aloadR_n dX6_chain_21 rfl rfl ?_
    refine n_getR dX6_chain_22 fX6_10 rfl hW vld_x0 rfl rfl ?_
    refine g_iload_n dX6_chain_25 rfl rfl ?_
    refine n_v1r (n' := 0) dX6_chain_26 mX4_one lX6_129 rfl hW (vld_sc (by decide : 0 < 4)) rfl rfl ⟨Nat.le_of_ble_eq_true rfl, Nat.le_of_ble_eq_true rfl⟩ ⟨Nat.zero_le _, Nat.zero_le _⟩ (Nat.le_of_ble_eq_true rfl) ?_
    refine wp_X4_one (by exact hW) (by decide : 0 < 4) ?_
    refine ⟨_, rfl, ?_⟩
    refine n_getI dX6_chain_29 fX6_151 rfl hW (vld_pe (by decide : 0 < 4) (pix_lt _)) (Or.inl rfl) ?_
    refine g_istore_3 dX6_chain_32 rfl ?_
    refine g_iconst dX6_chain_33 (v := 0) (by decide) ?_
    refine g_istore_4 dX6_chain_34 rfl ?_
    have e : opChain X x = (nI (cnt (chF (xS X) 10 (2 ^ x.toNatClampNeg) ((xS X).2.2 x.toNatClampNeg 4)) 11) - 1, X) := by
      unfold opChain
      try first | rw [if_pos c8] | rw [if_neg c8] | rw [if_neg (not_not_intro c8)]
      try rfl
    rw [e] at h
    dsimp only at h
    have hsh := bt_sh (j := x.toNatClampNeg) (by omega)
    rw [← (IN_nI c8).1] at hsh
    rw [hsh, px, hR0.2.2 _ 4 hx (by decide)]
    exact lp_X6_chain hW hX hO 0 (by decide) _ _ (by have : 2 ^ x.toNatClampNeg ≤ 2 ^ 10 := Nat.pow_le_pow_right (by decide) (by omega); omega) (h M FrC.rf hX)
  · simp only [b2_0, Decidable.not_not] at c8
    refine g_aloadR_n dX6_chain_11 rfl rfl ?_
    refine g_iconst dX6_chain_12 (v := (-1)) (by decide) ?_
    refine n_v1i (n' := 0) dX6_chain_13 mX6_refuse lX6_66 rfl hW vld_x0 rfl rfl ⟨Nat.le_of_ble_eq_true rfl, Nat.le_of_ble_eq_true rfl⟩ ⟨Nat.zero_le _, Nat.zero_le _⟩ (Nat.le_of_ble_eq_true rfl) ?_
    refine wp_X6_refuse (j := 1) (by exact hW) (by decide) (by decide) ?_
    refine ⟨_, rfl, ?_⟩
    refine g_iret dX6_chain_16 rfl ?_
    have e : opChain X x = rfX X 1 := by
      unfold opChain
      try first | rw [if_pos c8] | rw [if_neg c8] | rw [if_neg (not_not_intro c8)]
      try rfl
    rw [e] at h; exact h _ (frC_sI (by decide)) (repCl_rfz hX (by decide) (by decide))
