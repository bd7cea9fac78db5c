/-! THE CLASS'S OWN METHODS: DRAWS, THE IMAGE AGAIN, STATUS -/
theorem RepC.dw {M : Mem} {S : Sc} (h : RepC M 0 S) : RepC (sI (sI M (1, 0, 0) 8 (lkF (mI M (1, 0, 0) 8))) (1, 0, 0) (1 + 3) (drF (mI M (1, 0, 0) 8))) 0 (dwS S) := by
  have e : mI M (1, 0, 0) 8 = S.2.1 6 := h.2.1 6 (by decide) (by decide)
  rw [e]
  exact (h.upG (j := 6) (x := lkF (S.2.1 6)) (by decide)).upG (j := 2) (x := drF (S.2.1 6)) (by decide)
set_option maxHeartbeats 4000000 in
set_option maxRecDepth 100000 in
theorem lp_X6_drawn {E : Ev} {M : Mem} {Q : QT} (hW : Wi M) {X : Sys} (hX : RepCl M X) (hO : OkX X) {n : Nat} (hn24 : n ≤ 24) (h : ∀ M', FrC M M' → RepCl M' (setS X (dwI (xS X) n)) → Q (some (vI (dwT (xS X) n))) M') : ∀ j, j ≤ n → ∀ (M1 : Mem), FrI (DW 0) M M1 → RepC M1 0 (dwI (xS X) j) → G E (rm 7 0 0) kX6_drawn (ZQ E Q 0 0) 0 0 22 [some (vR (0, 0, 0)), some (vI (nI n)), some (vI (dwT (xS X) j)), some (vI (nI j))] [] M1 := by
  refine up_loop n (fun j hj ih M1 hdl hRj => ?_)
  have hW1 := hdl.W hW
  have hOj := (hO.1.dwi j).dw
  refine g_iload_n dX6_drawn_22 rfl rfl ?_
  refine g_iload_n dX6_drawn_23 rfl rfl ?_
  refine g_icmp_ge (tgt := 72) dX6_drawn_24 (by decide) (fun c24 => ?_) (fun c24 => ?_)
  · have hj2 : j = n := by rw [nI_leI (by omega) (by omega)] at c24; omega
    subst hj2
    refine g_iload_n dX6_drawn_72 rfl rfl ?_
    refine g_iret dX6_drawn_73 rfl ?_
    exact h M1 (FrC.of hdl D_lt.2.1) (hX.ev hdl hRj)
  · have hjn : j < n := by rw [nI_leI (by omega) (by omega)] at c24; omega
    refine g_aloadR_n dX6_drawn_27 rfl rfl ?_
    refine n_getR dX6_drawn_28 fX6_10 rfl hW1 vld_x0 rfl rfl ?_
    refine g_iconst dX6_drawn_31 (v := 1) (by decide) ?_
    refine g_aloadR_n dX6_drawn_32 rfl rfl ?_
    refine n_getR dX6_drawn_33 fX6_10 rfl hW1 vld_x0 rfl rfl ?_
    refine g_bipush dX6_drawn_36 (v := 10) (by decide) ?_
    refine n_v1i (n' := 0) dX6_drawn_38 mX4_draw lX6_257 rfl hW1 (vld_sc (by decide : 0 < 4)) rfl rfl ⟨Nat.le_of_ble_eq_true rfl, Nat.le_of_ble_eq_true rfl⟩ ⟨Nat.zero_le _, Nat.zero_le _⟩ (Nat.le_of_ble_eq_true rfl) ?_
    refine wp_X4_draw (by exact hW1) (by decide : 0 < 4) ?_
    refine ⟨_, rfl, ?_⟩
    refine n_v2v (n' := 0) dX6_drawn_41 mX4_settle lX6_163 rfl hW1 (vld_sc (by decide : 0 < 4)) rfl rfl ⟨Nat.le_of_ble_eq_true rfl, Nat.le_of_ble_eq_true rfl⟩ ⟨Nat.zero_le _, Nat.zero_le _⟩ (Nat.le_of_ble_eq_true rfl) ?_
    refine wp_X4_settle (w := 1) (by exact hW1) (by decide : 0 < 4) (by decide) ?_
    have hW2 : Wi M1 := hW1
    refine ⟨rfl, ?_⟩
    refine g_aloadR_n dX6_drawn_44 rfl rfl ?_
    refine n_getR dX6_drawn_45 fX6_25 rfl hW2 vld_x0 rfl rfl ?_
    refine g_aloadR_n dX6_drawn_48 rfl rfl ?_
    refine n_getR dX6_drawn_49 fX6_10 rfl hW2 vld_x0 rfl rfl ?_
    refine g_iconst dX6_drawn_52 (v := 1) (by decide) ?_
    refine n_v2v (n' := 6) dX6_drawn_53 mX1_watch lX6_202 rfl hW2 vld_x4 rfl rfl ⟨Nat.le_of_ble_eq_true rfl, Nat.le_of_ble_eq_true rfl⟩ ⟨Nat.zero_le _, Nat.zero_le _⟩ (Nat.le_of_ble_eq_true rfl) ?_
    refine wp_X1_watch (n := 1) (by exact hW2) (by decide : 0 < 4) hRj.dw hOj (by decide) (fun M4 hf4 hR4 ho4 => ?_)
    have hW3 := hf4.W (by exact hW1)
    refine ⟨rfl, ?_⟩
    refine g_iload_n dX6_drawn_56 rfl rfl ?_
    refine g_aloadR_n dX6_drawn_57 rfl rfl ?_
    refine n_getR dX6_drawn_58 fX6_25 rfl hW3 vld_x0 rfl rfl ?_
    refine n_getI dX6_drawn_61 fX6_215 rfl hW3 vld_x4 (Or.inl rfl) ?_
    refine g_iadd dX6_drawn_64 ?_
    refine g_istore_2 dX6_drawn_65 rfl ?_
    refine g_iinc_3 (v := nI (j + 1)) dX6_drawn_66 rfl (nI_inc j) ?_
    refine g_goto (tgt := 22) dX6_drawn_69 (by decide) ?_
    rw [ho4.1]
    exact ih hjn _ (((hdl.tr (frDk1.mono Dk_DW)).tr (frDk1.mono Dk_DW)).tr hf4) hR4
def opDrawn (X : Sys) (n : Int32) : Int32 × Sys := if n = 0 then rfX X 6 else if ¬ IN n 25 then rfX X 6 else (dwT (xS X) n.toNatClampNeg, setS X (dwI (xS X) n.toNatClampNeg))
set_option maxHeartbeats 4000000 in
set_option maxRecDepth 100000 in
theorem wp_X6_drawn {E : Ev} {M : Mem} {Q : QT} (hW : Wi M) {X : Sys} (hX : RepCl M X) (hO : OkX X) {n : Int32} (h : ∀ M', FrC M M' → RepCl M' (opDrawn X n).2 → Q (some (vI (opDrawn X n).1)) M') : Mth E 7 0 0 kX6_drawn [vR (0, 0, 0), vI n] M Q := by
  have hR0 := hX.1
  have hsz := hX.1.1
  have hs10 : (xS X).1 ≤ 10 := hO.1.1
  refine mth_of (by decide +kernel) [some (vR (0, 0, 0)), some (vI n), none, none] (Nat.le_of_ble_eq_true rfl) rfl ?_
  refine g_iload_n dX6_drawn_0 rfl rfl ?_
  refine g_if_eq (tgt := 11) dX6_drawn_1 (by decide) (fun c1 => ?_) (fun c1 => ?_)
  · refine g_aloadR_n dX6_drawn_11 rfl rfl ?_
    refine g_bipush dX6_drawn_12 (v := (-6)) (by decide) ?_
    refine n_v1i (n' := 0) dX6_drawn_14 mX6_refuse lX6_66 rfl hW vld_x0 rfl rfl ⟨Nat.le_of_ble_eq_true rfl, Nat.le_of_ble_eq_true rfl⟩ ⟨Nat.zero_le _, Nat.zero_le _⟩ (Nat.le_of_ble_eq_true rfl) ?_
    refine wp_X6_refuse (j := 6) (by exact hW) (by decide) (by decide) ?_
    refine ⟨_, rfl, ?_⟩
    refine g_iret dX6_drawn_17 rfl ?_
    have e : opDrawn X n = rfX X 6 := by
      unfold opDrawn
      try first | rw [if_pos c1] | rw [if_neg c1] | rw [if_neg (not_not_intro c1)]
      try rfl
    rw [e] at h; exact h _ (frC_sI (by decide)) (repCl_rfz hX (by decide) (by decide))
  · refine g_iload_n dX6_drawn_4 rfl rfl ?_
    refine n_s1i (n' := 0) dX6_drawn_5 mX6_isStretch lX6_199 ⟨Nat.le_of_ble_eq_true rfl, Nat.le_of_ble_eq_true rfl⟩ ⟨Nat.zero_le _, Nat.zero_le _⟩ (Nat.le_of_ble_eq_true rfl) ?_
    refine wp_X6_isStretch ?_
    refine ⟨_, rfl, ?_⟩
    refine g_if_ne (tgt := 18) dX6_drawn_8 (by decide) (fun c8 => ?_) (fun c8 => ?_)
    · simp only [b2_0, Decidable.not_not] at c8
      have hn1 := (IN_nI c8).1
      have hn24 : n.toNatClampNeg ≤ 24 := by have := (IN_nI c8).2; omega
      refine g_iconst dX6_drawn_18 (v := 0) (by decide) ?_
      refine g_istore_2 dX6_drawn_19 rfl ?_
      refine g_iconst dX6_drawn_20 (v := 0) (by decide) ?_
      refine g_istore_3 dX6_drawn_21 rfl ?_
      have e : opDrawn X n = (dwT (xS X) n.toNatClampNeg, setS X (dwI (xS X) n.toNatClampNeg)) := by
        unfold opDrawn
        try first | rw [if_pos c1] | rw [if_neg c1] | rw [if_neg (not_not_intro c1)]
        try first | rw [if_pos c8] | rw [if_neg c8] | rw [if_neg (not_not_intro c8)]
        try rfl
      rw [e] at h
      dsimp only at h
      rw [hn1]
      exact lp_X6_drawn hW hX hO hn24 h 0 (Nat.zero_le _) M FrI.rf hR0
    · simp only [b2_0, Decidable.not_not] at c8
      refine g_aloadR_n dX6_drawn_11 rfl rfl ?_
      refine g_bipush dX6_drawn_12 (v := (-6)) (by decide) ?_
      refine n_v1i (n' := 0) dX6_drawn_14 mX6_refuse lX6_66 rfl hW vld_x0 rfl rfl ⟨Nat.le_of_ble_eq_true rfl, Nat.le_of_ble_eq_true rfl⟩ ⟨Nat.zero_le _, Nat.zero_le _⟩ (Nat.le_of_ble_eq_true rfl) ?_
      refine wp_X6_refuse (j := 6) (by exact hW) (by decide) (by decide) ?_
      refine ⟨_, rfl, ?_⟩
      refine g_iret dX6_drawn_17 rfl ?_
      have e : opDrawn X n = rfX X 6 := by
        unfold opDrawn
        try first | rw [if_pos c1] | rw [if_neg c1] | rw [if_neg (not_not_intro c1)]
        try first | rw [if_pos c8] | rw [if_neg c8] | rw [if_neg (not_not_intro c8)]
        try rfl
      rw [e] at h; exact h _ (frC_sI (by decide)) (repCl_rfz hX (by decide) (by decide))
/-- shelves behind a restore: those below j are looked at -/
def rsH (n : Nat) (H : Nat → Sf) (j : Nat) : Nat → Sf := fun s => if s < j ∧ (H s).1 = 2 ∧ ¬ IN (H s).2.2.1 n then noSf else H s
def setHs (X : Sys) (H : Nat → Sf) : Sys := (X.1, X.2.1, H, X.2.2.2)
theorem RepCl.hs {M : Mem} {X : Sys} {H : Nat → Sf} (h : RepCl M X) (hH : ∀ s, s < 8 → H s = xH X s) : RepCl M (setHs X H) := by
  obtain ⟨h1, h2, h3, h4⟩ := h
  exact ⟨h1, h2, fun s hs => by show RepSf M s (H s); rw [hH s hs]; exact h3 s hs, h4⟩
theorem hp_shelf {M : Mem} {X : Sys} {t : Nat} (h : RepCl M X) (ht : t < 8) : RepCl (hpM M t (-1)) (setH X t noSf) := h.shelf ht (fun b h5 h6 => ⟨by funext j; simp [hpM, mI, sI, h5], rfl⟩) (Or.inl ⟨rfl, by simp [hpM, mI, sI], by simp [hpM, mI, sI], by simp [hpM, mI, sI]⟩)
theorem hp_frC {M : Mem} {t : Nat} {p : Int32} : FrC M (hpM M t p) := (FrC.tr (frC_sI (show 5 < 20 by decide)) (frC_sI (show 5 < 20 by decide))).tr (frC_sI (show 5 < 20 by decide))
def rsX (X : Sys) (S : Sc) (j : Nat) : Sys := setHs (setS X S) (rsH S.1 (xH X) j)
def opRestore (X : Sys) : Int32 × Sys := match xI X with
  | none => rfX X 6
  | some S => (nI S.1, rsX X S 8)
set_option maxHeartbeats 4000000 in
set_option maxRecDepth 100000 in
theorem lp_X6_restore {E : Ev} {M : Mem} {Q : QT} (hW : Wi M) {X : Sys} (hX : RepCl M X) (hO : OkX X) {S : Sc} (hOS : OkS S) (h : ∀ M', FrC M M' → RepCl M' (rsX X S 8) → Q (some (vI (nI S.1))) M') : ∀ j, j ≤ 8 → ∀ (M1 : Mem) (a2 : Option AV), FrC M M1 → RepCl M1 (rsX X S j) → G E (rm 2 0 0) kX6_restore (ZQ E Q 0 0) 0 0 27 [some (vR (0, 0, 0)), some (vI (nI j)), a2] [] M1 := by
  refine up_loop 8 (fun j hj ih M1 a2 hf hX1 => ?_)
  have hW1 := hf.W hW
  have hs10 : S.1 ≤ 10 := hOS.1
  have hsz : mI M1 (1, 0, 0) 2 = nI S.1 := hX1.1.1
  refine g_iload_n dX6_restore_27 rfl rfl ?_
  refine g_bipush dX6_restore_28 (v := 8) (by decide) ?_
  refine g_icmp_ge (tgt := 71) dX6_restore_30 (by decide) (fun c30 => ?_) (fun c30 => ?_)
  · have hj2 : j = 8 := by
      have := nI_toInt (n := j) (by omega)
      simp only [Int32.le_iff_toInt_le, zcs] at c30; omega
    subst hj2
    refine g_aloadR_n dX6_restore_71 rfl rfl ?_
    refine n_getR dX6_restore_72 fX6_10 rfl hW1 vld_x0 rfl rfl ?_
    refine n_getI dX6_restore_75 fX6_233 rfl hW1 (vld_sc (by decide : 0 < 4)) (Or.inl rfl) ?_
    refine g_iret dX6_restore_78 rfl ?_
    rw [hsz]
    exact h M1 hf hX1
  · have hjn : j < 8 := by
      have := nI_toInt (n := j) (by omega)
      simp only [Int32.le_iff_toInt_le, zcs] at c30; omega
    have hv : rsH S.1 (xH X) j j = xH X j := if_neg (fun y => by omega)
    have hrj : RepSf M1 j (xH X j) := by have := hX1.2.2.1 j hjn; rw [show xH (rsX X S j) j = xH X j from hv] at this; exact this
    have hoj := hO.2.2.1 j hjn
    have hsx : shx (nI j) = j := shx_nI hjn
    refine g_aloadR_n dX6_restore_33 rfl rfl ?_
    refine g_iload_n dX6_restore_34 rfl rfl ?_
    refine n_v1r (n' := 0) dX6_restore_35 mX6_shelfAt lX6_70 rfl hW1 vld_x0 rfl rfl ⟨Nat.le_of_ble_eq_true rfl, Nat.le_of_ble_eq_true rfl⟩ ⟨Nat.zero_le _, Nat.zero_le _⟩ (Nat.le_of_ble_eq_true rfl) ?_
    refine wp_X6_shelfAt (by exact hW1) ?_
    rw [hsx]
    refine ⟨_, rfl, ?_⟩
    refine g_astore_2 dX6_restore_38 rfl ?_
    refine g_aloadR_n dX6_restore_39 rfl rfl ?_
    refine n_v0i (n' := 0) dX6_restore_40 mX5_isPerson lX6_92 rfl hW1 (vld_sh (show j < 9 by omega)) rfl rfl ⟨Nat.le_of_ble_eq_true rfl, Nat.le_of_ble_eq_true rfl⟩ ⟨Nat.zero_le _, Nat.zero_le _⟩ (Nat.le_of_ble_eq_true rfl) ?_
    refine wp_isPerson (by exact hW1) (by omega : j < 9) hrj hoj ?_
    refine ⟨_, rfl, ?_⟩
    refine g_if_eq (tgt := 65) dX6_restore_43 (by decide) (fun c43 => ?_) (fun c43 => ?_)
    · simp only [b2_0, Decidable.not_not] at c43
      refine g_iinc_1 (v := nI (j + 1)) dX6_restore_65 rfl (nI_inc j) ?_
      refine g_goto (tgt := 27) dX6_restore_68 (by decide) ?_
      have hh : rsH S.1 (xH X) (j + 1) = rsH S.1 (xH X) j := by
        funext s
        unfold rsH
        by_cases y : s = j
        · subst y
          rw [if_neg (fun u => by omega)]
          rw [if_neg (fun u => by first | exact c43 u.2.1 | exact u.2.2 c57)]
        · by_cases z : s < j ∧ (xH X s).1 = 2 ∧ ¬ IN (xH X s).2.2.1 S.1
          · rw [if_pos z, if_pos ⟨by omega, z.2⟩]
          · rw [if_neg z, if_neg (fun u => z ⟨by omega, u.2⟩)]
      have hN : RepCl M1 (rsX X S (j + 1)) := by unfold rsX; rw [hh]; exact hX1
      exact ih hjn _ _ hf hN
    · simp only [b2_0, Decidable.not_not] at c43
      have hpj : mI M1 (5, j, 0) 1 = (xH X j).2.2.1 := (hrj.f.2.1).trans (if_pos c43)
      refine g_aloadR_n dX6_restore_46 rfl rfl ?_
      refine n_getR dX6_restore_47 fX6_10 rfl hW1 vld_x0 rfl rfl ?_
      refine g_aloadR_n dX6_restore_50 rfl rfl ?_
      refine n_getI dX6_restore_51 fX6_123 rfl hW1 (vld_sh (show j < 9 by omega)) (Or.inl rfl) ?_
      refine n_v1i (n' := 0) dX6_restore_54 mX4_has lX6_116 rfl hW1 (vld_sc (by decide : 0 < 4)) rfl rfl ⟨Nat.le_of_ble_eq_true rfl, Nat.le_of_ble_eq_true rfl⟩ ⟨Nat.zero_le _, Nat.zero_le _⟩ (Nat.le_of_ble_eq_true rfl) ?_
      rw [hpj]
      refine wp_X4_has (by exact hW1) (by decide : 0 < 4) hsz hs10 ?_
      refine ⟨_, rfl, ?_⟩
      refine g_if_ne (tgt := 65) dX6_restore_57 (by decide) (fun c57 => ?_) (fun c57 => ?_)
      · simp only [b2_0, Decidable.not_not] at c57
        refine g_iinc_1 (v := nI (j + 1)) dX6_restore_65 rfl (nI_inc j) ?_
        refine g_goto (tgt := 27) dX6_restore_68 (by decide) ?_
        have hh : rsH S.1 (xH X) (j + 1) = rsH S.1 (xH X) j := by
          funext s
          unfold rsH
          by_cases y : s = j
          · subst y
            rw [if_neg (fun u => by omega)]
            rw [if_neg (fun u => by first | exact c43 u.2.1 | exact u.2.2 c57)]
          · by_cases z : s < j ∧ (xH X s).1 = 2 ∧ ¬ IN (xH X s).2.2.1 S.1
            · rw [if_pos z, if_pos ⟨by omega, z.2⟩]
            · rw [if_neg z, if_neg (fun u => z ⟨by omega, u.2⟩)]
        have hN : RepCl M1 (rsX X S (j + 1)) := by unfold rsX; rw [hh]; exact hX1
        exact ih hjn _ _ hf hN
      · simp only [b2_0, Decidable.not_not] at c57
        refine g_aloadR_n dX6_restore_60 rfl rfl ?_
        refine g_iconst dX6_restore_61 (v := (-1)) (by decide) ?_
        refine n_v1v (n' := 0) dX6_restore_62 mX5_holdPerson lX6_119 rfl hW1 (vld_sh (show j < 9 by omega)) rfl rfl ⟨Nat.le_of_ble_eq_true rfl, Nat.le_of_ble_eq_true rfl⟩ ⟨Nat.zero_le _, Nat.zero_le _⟩ (Nat.le_of_ble_eq_true rfl) ?_
        refine wp_X5_holdPerson (by exact hW1) (by omega : j < 9) ?_
        refine ⟨rfl, ?_⟩
        refine g_iinc_1 (v := nI (j + 1)) dX6_restore_65 rfl (nI_inc j) ?_
        refine g_goto (tgt := 27) dX6_restore_68 (by decide) ?_
        have hh : rsH S.1 (xH X) (j + 1) = fun s => if s = j then noSf else rsH S.1 (xH X) j s := by
          funext s
          unfold rsH
          by_cases y : s = j
          · subst y; rw [if_pos rfl, if_pos ⟨by omega, c43, c57⟩]
          · rw [if_neg y]
            by_cases z : s < j ∧ (xH X s).1 = 2 ∧ ¬ IN (xH X s).2.2.1 S.1
            · rw [if_pos z, if_pos ⟨by omega, z.2⟩]
            · rw [if_neg z, if_neg (fun u => z ⟨by omega, u.2⟩)]
        have hN : RepCl (hpM M1 j (-1)) (rsX X S (j + 1)) := by
          have := hp_shelf hX1 hjn
          unfold rsX; rw [hh]; exact this
        exact ih hjn _ _ (hf.tr hp_frC) hN
set_option maxHeartbeats 4000000 in
set_option maxRecDepth 100000 in
theorem wp_X6_restore {E : Ev} {M : Mem} {Q : QT} (hW : Wi M) {X : Sys} (hX : RepCl M X) (hO : OkX X) (h : ∀ M', FrC M M' → RepCl M' (opRestore X).2 → Q (some (vI (opRestore X).1)) M') : Mth E 2 0 0 kX6_restore [vR (0, 0, 0)] M Q := by
  have hR0 := hX.1
  have hsz := hX.1.1
  have hs10 : (xS X).1 ≤ 10 := hO.1.1
  refine mth_of (by decide +kernel) [some (vR (0, 0, 0)), none, none] (Nat.le_of_ble_eq_true rfl) rfl ?_
  refine g_aloadR_n dX6_restore_0 rfl rfl ?_
  refine n_getI dX6_restore_1 fX6_276 rfl hW vld_x0 (Or.inr rfl) ?_
  refine g_if_ne (tgt := 14) dX6_restore_4 (by decide) (fun c4 => ?_) (fun c4 => ?_)
  · refine g_aloadR_n dX6_restore_14 rfl rfl ?_
    refine n_getR dX6_restore_15 fX6_10 rfl hW vld_x0 rfl rfl ?_
    refine g_aloadR_n dX6_restore_18 rfl rfl ?_
    refine n_getR dX6_restore_19 fX6_19 rfl hW vld_x0 rfl rfl ?_
    refine n_v1v (n' := 1) dX6_restore_22 mX4_become lX6_186 rfl hW (vld_sc (by decide : 0 < 4)) rfl rfl ⟨Nat.le_of_ble_eq_true rfl, Nat.le_of_ble_eq_true rfl⟩ ⟨Nat.zero_le _, Nat.zero_le _⟩ (Nat.le_of_ble_eq_true rfl) ?_
    obtain ⟨S, hS⟩ : ∃ S, xI X = some S := by
      cases hi : xI X with
      | none => exfalso; have := hX.2.1; rw [hi] at this; exact c4 this
      | some S => exact ⟨S, rfl⟩
    have hI := hX.2.1
    rw [hS] at hI
    have hOS := hO.2.1 S hS
    have e : opRestore X = (nI S.1, rsX X S 8) := by unfold opRestore; rw [hS]
    rw [e] at h
    dsimp only at h
    refine wp_X4_become (by exact hW) (by decide : 0 < 4) (by decide : 2 < 4) (by decide) hI.2 hOS (fun M2 hf2 hR2 => ?_)
    have hX2 := hX.now hf2 hR2
    have hW2 := hf2.W hW
    refine ⟨rfl, ?_⟩
    refine g_iconst dX6_restore_25 (v := 0) (by decide) ?_
    refine g_istore_1 dX6_restore_26 rfl ?_
    have hX3 : RepCl M2 (rsX X S 0) := hX2.hs (fun s hs => if_neg (fun u => by omega))
    exact lp_X6_restore hW hX hO hOS h 0 (by decide) M2 none (frC_Dk hf2) hX3
  · refine g_aloadR_n dX6_restore_7 rfl rfl ?_
    refine g_bipush dX6_restore_8 (v := (-6)) (by decide) ?_
    refine n_v1i (n' := 0) dX6_restore_10 mX6_refuse lX6_66 rfl hW vld_x0 rfl rfl ⟨Nat.le_of_ble_eq_true rfl, Nat.le_of_ble_eq_true rfl⟩ ⟨Nat.zero_le _, Nat.zero_le _⟩ (Nat.le_of_ble_eq_true rfl) ?_
    refine wp_X6_refuse (j := 6) (by exact hW) (by decide) (by decide) ?_
    refine ⟨_, rfl, ?_⟩
    refine g_iret dX6_restore_13 rfl ?_
    have e : opRestore X = rfX X 6 := by
      unfold opRestore
      cases hi : xI X with
      | none => rfl
      | some S => exfalso; have := hX.2.1; rw [hi] at this; have c4 : mI M (0, 0, 0) 3 = 0 := by first | exact c4 | exact Decidable.not_not.mp c4
                  rw [this.1] at c4; exact absurd c4 (by decide)
    rw [e] at h; exact h _ (frC_sI (by decide)) (repCl_rfz hX (by decide) (by decide))
