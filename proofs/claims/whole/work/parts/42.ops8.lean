/-! THE CLASS'S OWN METHODS: THE REST -/
def opFriends (X : Sys) (s n x : Int32) : Int32 × Sys := if ¬ IN x (xS X).1 then rfX X 1 else if ¬ wrg X s n = 0 then rfX X (wrg X s n) else (nI (frF X s n.toNatClampNeg x.toNatClampNeg ((xS X).1 + 1)), X)
set_option maxHeartbeats 4000000 in
set_option maxRecDepth 100000 in
theorem wp_X6_friends {E : Ev} {M : Mem} {Q : QT} (hW : Wi M) {X : Sys} (hX : RepCl M X) (hO : OkX X) {s n x : Int32} (h : ∀ M', FrC M M' → RepCl M' (opFriends X s n x).2 → Q (some (vI (opFriends X s n x).1)) M') : Mth E 7 0 0 kX6_friends [vR (0, 0, 0), vI s, vI n, vI x] M Q := by
  have hR0 := hX.1
  have hsz := hX.1.1
  have hs10 : (xS X).1 ≤ 10 := hO.1.1
  refine mth_of (by decide +kernel) [some (vR (0, 0, 0)), some (vI s), some (vI n), some (vI x), none, none, none] (Nat.le_of_ble_eq_true rfl) rfl ?_
  refine g_aloadR_n dX6_friends_0 rfl rfl ?_
  refine n_getR dX6_friends_1 fX6_10 rfl hW vld_x0 rfl rfl ?_
  refine g_iload_n dX6_friends_4 rfl rfl ?_
  refine n_v1i (n' := 0) dX6_friends_5 mX4_has lX6_116 rfl hW (vld_sc (by decide : 0 < 4)) rfl rfl ⟨Nat.le_of_ble_eq_true rfl, Nat.le_of_ble_eq_true rfl⟩ ⟨Nat.zero_le _, Nat.zero_le _⟩ (Nat.le_of_ble_eq_true rfl) ?_
  refine wp_X4_has (by exact hW) (by decide : 0 < 4) hsz hs10 ?_
  refine ⟨_, rfl, ?_⟩
  refine g_if_eq (tgt := 20) dX6_friends_8 (by decide) (fun c8 => ?_) (fun c8 => ?_)
  · simp only [b2_0, Decidable.not_not] at c8
    refine g_iconst dX6_friends_20 (v := (-1)) (by decide) ?_
    refine g_istore_4 dX6_friends_21 rfl ?_
    refine g_iload dX6_friends_23 rfl ?_
    refine g_if_eq (tgt := 35) dX6_friends_25 (by decide) (fun c25 => ?_) (fun c25 => ?_)
    · try rw [ng_0 (wrg_lt X s n)] at c25
      refine g_iconst dX6_friends_35 (v := 0) (by decide) ?_
      refine g_istore_5 dX6_friends_36 rfl ?_
      refine g_iconst dX6_friends_38 (v := (-1)) (by decide) ?_
      refine g_istore_6 dX6_friends_39 rfl ?_
      exact absurd c25 (by decide)
    · try rw [ng_0 (wrg_lt X s n)] at c25
      refine g_aloadR_n dX6_friends_28 rfl rfl ?_
      refine g_iload dX6_friends_29 rfl ?_
      refine n_v1i (n' := 0) dX6_friends_31 mX6_refuse lX6_66 rfl hW vld_x0 rfl rfl ⟨Nat.le_of_ble_eq_true rfl, Nat.le_of_ble_eq_true rfl⟩ ⟨Nat.zero_le _, Nat.zero_le _⟩ (Nat.le_of_ble_eq_true rfl) ?_
      refine wp_X6_refuse (j := 1) (by exact hW) (by decide) (by decide) ?_
      refine ⟨_, rfl, ?_⟩
      refine g_iret dX6_friends_34 rfl ?_
      have e : opFriends X s n x = rfX X 1 := by
        unfold opFriends
        try first | rw [if_pos c8] | rw [if_neg c8] | rw [if_neg (not_not_intro c8)]
        try first | rw [if_pos c25] | rw [if_neg c25] | rw [if_neg (not_not_intro c25)]
        try rfl
      rw [e] at h; exact h _ (frC_sI (by decide)) (repCl_rfz hX (by decide) (by decide))
  · simp only [b2_0, Decidable.not_not] at c8
    refine g_aloadR_n dX6_friends_11 rfl rfl ?_
    refine g_iload_n dX6_friends_12 rfl rfl ?_
    refine g_iload_n dX6_friends_13 rfl rfl ?_
    refine n_v2i (n' := 2) dX6_friends_14 mX6_whyNoRegister lX6_249 rfl hW vld_x0 rfl rfl ⟨Nat.le_of_ble_eq_true rfl, Nat.le_of_ble_eq_true rfl⟩ ⟨Nat.zero_le _, Nat.zero_le _⟩ (Nat.le_of_ble_eq_true rfl) ?_
    refine wp_X6_whyNoRegister (by exact hW) hX hO ?_
    refine ⟨_, rfl, ?_⟩
    refine g_goto (tgt := 21) dX6_friends_17 (by decide) ?_
    refine g_istore_4 dX6_friends_21 rfl ?_
    refine g_iload dX6_friends_23 rfl ?_
    refine g_if_eq (tgt := 35) dX6_friends_25 (by decide) (fun c25 => ?_) (fun c25 => ?_)
    · try rw [ng_0 (wrg_lt X s n)] at c25
      refine g_iconst dX6_friends_35 (v := 0) (by decide) ?_
      refine g_istore_5 dX6_friends_36 rfl ?_
      refine g_iconst dX6_friends_38 (v := (-1)) (by decide) ?_
      refine g_istore_6 dX6_friends_39 rfl ?_
      have hw2 := wrg_0 c25
      have hn1 : n = nI n.toNatClampNeg := clamp_eq (fun q => by simp only [Int32.lt_iff_toInt_lt, zcs] at q; omega)
      have hc0 : n.toNatClampNeg = n.toInt.toNat := rfl
      have hn24 : n.toNatClampNeg ≤ 24 := by omega
      obtain ⟨hx1, hx2⟩ := IN_nI c8
      have e : opFriends X s n x = (nI (frF X s n.toNatClampNeg x.toNatClampNeg ((xS X).1 + 1)), X) := by
        unfold opFriends
        try first | rw [if_pos c8] | rw [if_neg c8] | rw [if_neg (not_not_intro c8)]
        try first | rw [if_pos c25] | rw [if_neg c25] | rw [if_neg (not_not_intro c25)]
        try rfl
      rw [e] at h
      dsimp only at h
      rw [hn1, hx1]
      exact lp_X6_friends hW hX hO hn24 hx2 h 0 (Nat.zero_le _) M FrI.rf
    · try rw [ng_0 (wrg_lt X s n)] at c25
      refine g_aloadR_n dX6_friends_28 rfl rfl ?_
      refine g_iload dX6_friends_29 rfl ?_
      refine n_v1i (n' := 0) dX6_friends_31 mX6_refuse lX6_66 rfl hW vld_x0 rfl rfl ⟨Nat.le_of_ble_eq_true rfl, Nat.le_of_ble_eq_true rfl⟩ ⟨Nat.zero_le _, Nat.zero_le _⟩ (Nat.le_of_ble_eq_true rfl) ?_
      refine wp_X6_refuse (j := wrg X s n) (by exact hW) (wrg_lt X s n) (nn_nI _) ?_
      refine ⟨_, rfl, ?_⟩
      refine g_iret dX6_friends_34 rfl ?_
      have e : opFriends X s n x = rfX X (wrg X s n) := by
        unfold opFriends
        try first | rw [if_pos c8] | rw [if_neg c8] | rw [if_neg (not_not_intro c8)]
        try first | rw [if_pos c25] | rw [if_neg c25] | rw [if_neg (not_not_intro c25)]
        try rfl
      rw [e] at h; exact h _ (frC_sI (by decide)) (repCl_rfz hX (by omega) (wrg_lt X s n))
def rgN : Nat := 1024
def rgT (S : Sc) (l : Nat) : Nat := cnt (seatS S (comersS S l)) 11
def rgF (S : Sc) (k : Int32) : Nat → Int32 × Int32
  | 0 => (-1, -1)
  | l + 1 => if ¬ nI l &&& (nI (presS S) ^^^ (-1)) = 0 then rgF S k l else if ¬ nI (cnt l 11) = k then rgF S k l else if nI (rgT S l) ≤ (rgF S k l).2 then rgF S k l else (nI l, nI (rgT S l))
theorem rgN_eq : rgN = 1024 := rfl
set_option maxHeartbeats 4000000 in
set_option maxRecDepth 100000 in
theorem lp_X6_ring {E : Ev} {M : Mem} {Q : QT} (hW : Wi M) {X : Sys} (hX : RepCl M X) (hO : OkX X) {k w : Int32} (h : ∀ M', FrC M M' → RepCl M' X → Q (some (vI (if w = 0 then (rgF (xS X) k rgN).1 else (rgF (xS X) k rgN).2))) M') : ∀ j, j ≤ rgN → ∀ (M1 : Mem) (a7 : Option AV), FrI DX M M1 → G E (rm 5 0 0) kX6_ring (ZQ E Q 0 0) 0 0 55 [some (vR (0, 0, 0)), some (vI k), some (vI w), some (vI (nI (presS (xS X)))), some (vI (rgF (xS X) k j).1), some (vI (rgF (xS X) k j).2), some (vI (nI j)), a7] [] M1 := by
  refine up_loop rgN (fun j hj ih M1 a7 hdl => ?_)
  have hW1 := hdl.W hW
  have hXl := hX.hd hdl
  have hs10 : (xS X).1 ≤ 10 := hO.1.1
  have hcl := comersS_lt (xS X) j
  have hsl := seatS_lt (xS X) (comersS (xS X) j)
  have hpw := pow_le10 hs10
  have hN := rgN_eq
  refine g_iload dX6_ring_55 rfl ?_
  refine g_sipush dX6_ring_57 (v := 1024) (by decide) ?_
  refine g_icmp_ge (tgt := 126) dX6_ring_60 (by decide) (fun c60 => ?_) (fun c60 => ?_)
  · have hj2 : j = rgN := by
      have := nI_toInt (n := j) (by omega)
      simp only [Int32.le_iff_toInt_le, zcs] at c60; omega
    subst hj2
    refine g_iload_n dX6_ring_126 rfl rfl ?_
    refine g_if_ne (tgt := 135) dX6_ring_127 (by decide) (fun c127 => ?_) (fun c127 => ?_)
    · refine g_iload dX6_ring_135 rfl ?_
      refine g_iret dX6_ring_137 rfl ?_
      first
        | (rw [if_pos c127] at h; exact h M1 (frC_DX hdl) hXl)
        | (rw [if_neg c127] at h; exact h M1 (frC_DX hdl) hXl)
    · refine g_iload dX6_ring_130 rfl ?_
      refine g_goto (tgt := 137) dX6_ring_132 (by decide) ?_
      refine g_iret dX6_ring_137 rfl ?_
      first
        | (rw [if_pos c127] at h; exact h M1 (frC_DX hdl) hXl)
        | (rw [if_neg c127] at h; exact h M1 (frC_DX hdl) hXl)
  · have hjn : j < rgN := by
      have := nI_toInt (n := j) (by omega)
      simp only [Int32.le_iff_toInt_le, zcs] at c60; omega
    refine g_iload dX6_ring_63 rfl ?_
    refine g_iload_n dX6_ring_65 rfl rfl ?_
    refine g_iconst dX6_ring_66 (v := (-1)) (by decide) ?_
    refine g_ixor dX6_ring_67 ?_
    refine g_iand dX6_ring_68 ?_
    refine g_if_ne (tgt := 120) dX6_ring_69 (by decide) (fun c69 => ?_) (fun c69 => ?_)
    · refine g_iinc_6 (v := nI (j + 1)) dX6_ring_120 rfl (nI_inc j) ?_
      refine g_goto (tgt := 55) dX6_ring_123 (by decide) ?_
      have hi := ih hjn _ a7 hdl
      rw [rgF] at hi
      first
        | (rw [if_pos c69] at hi; exact hi)
        | (rw [if_neg c69] at hi; rw [if_pos c78] at hi; exact hi)
        | (rw [if_neg (not_not_intro c69)] at hi; rw [if_pos c78] at hi; exact hi)
        | (rw [if_neg (not_not_intro c69), if_neg (not_not_intro c78)] at hi; rw [if_pos c109] at hi; exact hi)
        | (rw [if_neg (not_not_intro c69), if_neg (not_not_intro c78)] at hi; rw [if_neg c109] at hi; exact hi)
    · refine g_iload dX6_ring_72 rfl ?_
      refine n_s1i (n' := 0) dX6_ring_74 mJ6_bitCount_0f7a4 lX6_210 ⟨Nat.le_of_ble_eq_true rfl, Nat.le_of_ble_eq_true rfl⟩ ⟨Nat.zero_le _, Nat.zero_le _⟩ (Nat.le_of_ble_eq_true rfl) ?_
      refine wp_J6_bitCount (by omega) ?_
      refine ⟨_, rfl, ?_⟩
      refine g_iload_n dX6_ring_77 rfl rfl ?_
      refine g_icmp_eq (tgt := 84) dX6_ring_78 (by decide) (fun c78 => ?_) (fun c78 => ?_)
      · refine g_aloadR_n dX6_ring_84 rfl rfl ?_
        refine n_getR dX6_ring_85 fX6_10 rfl hW1 vld_x0 rfl rfl ?_
        refine g_aloadR_n dX6_ring_88 rfl rfl ?_
        refine n_getR dX6_ring_89 fX6_10 rfl hW1 vld_x0 rfl rfl ?_
        refine g_iload dX6_ring_92 rfl ?_
        refine n_v1i (n' := 4) dX6_ring_94 mX4_comers lX6_193 rfl hW1 (vld_sc (by decide : 0 < 4)) rfl rfl ⟨Nat.le_of_ble_eq_true rfl, Nat.le_of_ble_eq_true rfl⟩ ⟨Nat.zero_le _, Nat.zero_le _⟩ (Nat.le_of_ble_eq_true rfl) ?_
        refine wp_X4_comers (r := j) (by exact hW1) (by decide : 0 < 4) hXl.1 hs10 (by omega) (fun M2 hf2 => ?_)
        have hW2 := hf2.W hW1
        have hd2 : FrI DX M M2 := hdl.tr (hf2.mono D9_DX)
        have hX2 := hX.hd hd2
        have hRc := hX2.1
        refine ⟨_, rfl, ?_⟩
        refine n_v1i (n' := 1) dX6_ring_97 mX4_seatedOf lX6_196 rfl hW2 (vld_sc (by decide : 0 < 4)) rfl rfl ⟨Nat.le_of_ble_eq_true rfl, Nat.le_of_ble_eq_true rfl⟩ ⟨Nat.zero_le _, Nat.zero_le _⟩ (Nat.le_of_ble_eq_true rfl) ?_
        refine wp_X4_seatedOf (by exact hW2) (by decide : 0 < 4) hRc hs10 hO.1 hcl ?_
        refine ⟨_, rfl, ?_⟩
        refine n_s1i (n' := 0) dX6_ring_100 mJ6_bitCount_0f7a4 lX6_210 ⟨Nat.le_of_ble_eq_true rfl, Nat.le_of_ble_eq_true rfl⟩ ⟨Nat.zero_le _, Nat.zero_le _⟩ (Nat.le_of_ble_eq_true rfl) ?_
        refine wp_J6_bitCount (by omega) ?_
        refine ⟨_, rfl, ?_⟩
        rw [show cnt (seatS (xS X) (comersS (xS X) j)) 11 = rgT (xS X) j from rfl]
        refine g_istore_7 dX6_ring_103 rfl ?_
        refine g_iload dX6_ring_105 rfl ?_
        refine g_iload dX6_ring_107 rfl ?_
        refine g_icmp_le (tgt := 120) dX6_ring_109 (by decide) (fun c109 => ?_) (fun c109 => ?_)
        · refine g_iinc_6 (v := nI (j + 1)) dX6_ring_120 rfl (nI_inc j) ?_
          refine g_goto (tgt := 55) dX6_ring_123 (by decide) ?_
          have hi := ih hjn _ (some (vI (nI (rgT (xS X) j)))) hd2
          rw [rgF] at hi
          first
            | (rw [if_pos c69] at hi; exact hi)
            | (rw [if_neg c69] at hi; rw [if_pos c78] at hi; exact hi)
            | (rw [if_neg (not_not_intro c69)] at hi; rw [if_pos c78] at hi; exact hi)
            | (rw [if_neg (not_not_intro c69), if_neg (not_not_intro c78)] at hi; rw [if_pos c109] at hi; exact hi)
            | (rw [if_neg (not_not_intro c69), if_neg (not_not_intro c78)] at hi; rw [if_neg c109] at hi; exact hi)
        · refine g_iload dX6_ring_112 rfl ?_
          refine g_istore_5 dX6_ring_114 rfl ?_
          refine g_iload dX6_ring_116 rfl ?_
          refine g_istore_4 dX6_ring_118 rfl ?_
          refine g_iinc_6 (v := nI (j + 1)) dX6_ring_120 rfl (nI_inc j) ?_
          refine g_goto (tgt := 55) dX6_ring_123 (by decide) ?_
          have hi := ih hjn _ (some (vI (nI (rgT (xS X) j)))) hd2
          rw [rgF] at hi
          first
            | (rw [if_pos c69] at hi; exact hi)
            | (rw [if_neg c69] at hi; rw [if_pos c78] at hi; exact hi)
            | (rw [if_neg (not_not_intro c69)] at hi; rw [if_pos c78] at hi; exact hi)
            | (rw [if_neg (not_not_intro c69), if_neg (not_not_intro c78)] at hi; rw [if_pos c109] at hi; exact hi)
            | (rw [if_neg (not_not_intro c69), if_neg (not_not_intro c78)] at hi; rw [if_neg c109] at hi; exact hi)
      · refine g_goto (tgt := 120) dX6_ring_81 (by decide) ?_
        refine g_iinc_6 (v := nI (j + 1)) dX6_ring_120 rfl (nI_inc j) ?_
        refine g_goto (tgt := 55) dX6_ring_123 (by decide) ?_
        have hi := ih hjn _ a7 hdl
        rw [rgF] at hi
        first
          | (rw [if_pos c69] at hi; exact hi)
          | (rw [if_neg c69] at hi; rw [if_pos c78] at hi; exact hi)
          | (rw [if_neg (not_not_intro c69)] at hi; rw [if_pos c78] at hi; exact hi)
          | (rw [if_neg (not_not_intro c69), if_neg (not_not_intro c78)] at hi; rw [if_pos c109] at hi; exact hi)
          | (rw [if_neg (not_not_intro c69), if_neg (not_not_intro c78)] at hi; rw [if_neg c109] at hi; exact hi)
def opRing (X : Sys) (k w : Int32) : Int32 × Sys := if w < 0 then ((rfX X 5).1 - 10, (rfX X 5).2) else if ¬ w ≤ 1 then ((rfX X 5).1 - 10, (rfX X 5).2) else if k < 0 then ((rfX X 6).1 - 10, (rfX X 6).2) else if ¬ k ≤ 3 then ((rfX X 6).1 - 10, (rfX X 6).2) else (if w = 0 then (rgF (xS X) k rgN).1 else (rgF (xS X) k rgN).2, X)
set_option maxHeartbeats 4000000 in
set_option maxRecDepth 100000 in
theorem wp_X6_ring {E : Ev} {M : Mem} {Q : QT} (hW : Wi M) {X : Sys} (hX : RepCl M X) (hO : OkX X) {k w : Int32} (h : ∀ M', FrC M M' → RepCl M' (opRing X k w).2 → Q (some (vI (opRing X k w).1)) M') : Mth E 5 0 0 kX6_ring [vR (0, 0, 0), vI k, vI w] M Q := by
  have hR0 := hX.1
  have hsz := hX.1.1
  have hs10 : (xS X).1 ≤ 10 := hO.1.1
  refine mth_of (by decide +kernel) [some (vR (0, 0, 0)), some (vI k), some (vI w), none, none, none, none, none] (Nat.le_of_ble_eq_true rfl) rfl ?_
  refine g_iload_n dX6_ring_0 rfl rfl ?_
  refine g_if_lt (tgt := 9) dX6_ring_1 (by decide) (fun c1 => ?_) (fun c1 => ?_)
  · refine g_aloadR_n dX6_ring_9 rfl rfl ?_
    refine g_bipush dX6_ring_10 (v := (-5)) (by decide) ?_
    refine n_v1i (n' := 0) dX6_ring_12 mX6_refuse lX6_66 rfl hW vld_x0 rfl rfl ⟨Nat.le_of_ble_eq_true rfl, Nat.le_of_ble_eq_true rfl⟩ ⟨Nat.zero_le _, Nat.zero_le _⟩ (Nat.le_of_ble_eq_true rfl) ?_
    refine wp_X6_refuse (j := 5) (by exact hW) (by decide) (by decide) ?_
    refine ⟨_, rfl, ?_⟩
    refine g_bipush dX6_ring_15 (v := 10) (by decide) ?_
    refine g_isub dX6_ring_17 ?_
    refine g_iret dX6_ring_18 rfl ?_
    have e : opRing X k w = ((rfX X 5).1 - 10, (rfX X 5).2) := by
      unfold opRing
      try first | rw [if_pos c1] | rw [if_neg c1] | rw [if_neg (not_not_intro c1)]
      try rfl
    rw [e] at h; exact h _ (frC_sI (by decide)) (repCl_rfz hX (by decide) (by decide))
  · refine g_iload_n dX6_ring_4 rfl rfl ?_
    refine g_iconst dX6_ring_5 (v := 1) (by decide) ?_
    refine g_icmp_le (tgt := 19) dX6_ring_6 (by decide) (fun c6 => ?_) (fun c6 => ?_)
    · refine g_iload_n dX6_ring_19 rfl rfl ?_
      refine g_if_lt (tgt := 28) dX6_ring_20 (by decide) (fun c20 => ?_) (fun c20 => ?_)
      · refine g_aloadR_n dX6_ring_28 rfl rfl ?_
        refine g_bipush dX6_ring_29 (v := (-6)) (by decide) ?_
        refine n_v1i (n' := 0) dX6_ring_31 mX6_refuse lX6_66 rfl hW vld_x0 rfl rfl ⟨Nat.le_of_ble_eq_true rfl, Nat.le_of_ble_eq_true rfl⟩ ⟨Nat.zero_le _, Nat.zero_le _⟩ (Nat.le_of_ble_eq_true rfl) ?_
        refine wp_X6_refuse (j := 6) (by exact hW) (by decide) (by decide) ?_
        refine ⟨_, rfl, ?_⟩
        refine g_bipush dX6_ring_34 (v := 10) (by decide) ?_
        refine g_isub dX6_ring_36 ?_
        refine g_iret dX6_ring_37 rfl ?_
        have e : opRing X k w = ((rfX X 6).1 - 10, (rfX X 6).2) := by
          unfold opRing
          try first | rw [if_pos c1] | rw [if_neg c1] | rw [if_neg (not_not_intro c1)]
          try first | rw [if_pos c6] | rw [if_neg c6] | rw [if_neg (not_not_intro c6)]
          try first | rw [if_pos c20] | rw [if_neg c20] | rw [if_neg (not_not_intro c20)]
          try rfl
        rw [e] at h; exact h _ (frC_sI (by decide)) (repCl_rfz hX (by decide) (by decide))
      · refine g_iload_n dX6_ring_23 rfl rfl ?_
        refine g_iconst dX6_ring_24 (v := 3) (by decide) ?_
        refine g_icmp_le (tgt := 38) dX6_ring_25 (by decide) (fun c25 => ?_) (fun c25 => ?_)
        · refine g_aloadR_n dX6_ring_38 rfl rfl ?_
          refine n_getR dX6_ring_39 fX6_10 rfl hW vld_x0 rfl rfl ?_
          refine n_v0i (n' := 1) dX6_ring_42 mX4_present lX6_206 rfl hW (vld_sc (by decide : 0 < 4)) rfl rfl ⟨Nat.le_of_ble_eq_true rfl, Nat.le_of_ble_eq_true rfl⟩ ⟨Nat.zero_le _, Nat.zero_le _⟩ (Nat.le_of_ble_eq_true rfl) ?_
          refine wp_X4_present (by exact hW) (by decide : 0 < 4) hR0 hs10 ?_
          refine ⟨_, rfl, ?_⟩
          refine g_istore_3 dX6_ring_45 rfl ?_
          refine g_iconst dX6_ring_46 (v := (-1)) (by decide) ?_
          refine g_istore_4 dX6_ring_47 rfl ?_
          refine g_iconst dX6_ring_49 (v := (-1)) (by decide) ?_
          refine g_istore_5 dX6_ring_50 rfl ?_
          refine g_iconst dX6_ring_52 (v := 0) (by decide) ?_
          refine g_istore_6 dX6_ring_53 rfl ?_
          have e : opRing X k w = (if w = 0 then (rgF (xS X) k rgN).1 else (rgF (xS X) k rgN).2, X) := by
            unfold opRing
            try first | rw [if_pos c1] | rw [if_neg c1] | rw [if_neg (not_not_intro c1)]
            try first | rw [if_pos c6] | rw [if_neg c6] | rw [if_neg (not_not_intro c6)]
            try first | rw [if_pos c20] | rw [if_neg c20] | rw [if_neg (not_not_intro c20)]
            try first | rw [if_pos c25] | rw [if_neg c25] | rw [if_neg (not_not_intro c25)]
            try rfl
          rw [e] at h
          dsimp only at h
          exact lp_X6_ring hW hX hO h 0 (Nat.zero_le _) M none FrI.rf
        · refine g_aloadR_n dX6_ring_28 rfl rfl ?_
          refine g_bipush dX6_ring_29 (v := (-6)) (by decide) ?_
          refine n_v1i (n' := 0) dX6_ring_31 mX6_refuse lX6_66 rfl hW vld_x0 rfl rfl ⟨Nat.le_of_ble_eq_true rfl, Nat.le_of_ble_eq_true rfl⟩ ⟨Nat.zero_le _, Nat.zero_le _⟩ (Nat.le_of_ble_eq_true rfl) ?_
          refine wp_X6_refuse (j := 6) (by exact hW) (by decide) (by decide) ?_
          refine ⟨_, rfl, ?_⟩
          refine g_bipush dX6_ring_34 (v := 10) (by decide) ?_
          refine g_isub dX6_ring_36 ?_
          refine g_iret dX6_ring_37 rfl ?_
          have e : opRing X k w = ((rfX X 6).1 - 10, (rfX X 6).2) := by
            unfold opRing
            try first | rw [if_pos c1] | rw [if_neg c1] | rw [if_neg (not_not_intro c1)]
            try first | rw [if_pos c6] | rw [if_neg c6] | rw [if_neg (not_not_intro c6)]
            try first | rw [if_pos c20] | rw [if_neg c20] | rw [if_neg (not_not_intro c20)]
            try first | rw [if_pos c25] | rw [if_neg c25] | rw [if_neg (not_not_intro c25)]
            try rfl
          rw [e] at h; exact h _ (frC_sI (by decide)) (repCl_rfz hX (by decide) (by decide))
    · refine g_aloadR_n dX6_ring_9 rfl rfl ?_
      refine g_bipush dX6_ring_10 (v := (-5)) (by decide) ?_
      refine n_v1i (n' := 0) dX6_ring_12 mX6_refuse lX6_66 rfl hW vld_x0 rfl rfl ⟨Nat.le_of_ble_eq_true rfl, Nat.le_of_ble_eq_true rfl⟩ ⟨Nat.zero_le _, Nat.zero_le _⟩ (Nat.le_of_ble_eq_true rfl) ?_
      refine wp_X6_refuse (j := 5) (by exact hW) (by decide) (by decide) ?_
      refine ⟨_, rfl, ?_⟩
      refine g_bipush dX6_ring_15 (v := 10) (by decide) ?_
      refine g_isub dX6_ring_17 ?_
      refine g_iret dX6_ring_18 rfl ?_
      have e : opRing X k w = ((rfX X 5).1 - 10, (rfX X 5).2) := by
        unfold opRing
        try first | rw [if_pos c1] | rw [if_neg c1] | rw [if_neg (not_not_intro c1)]
        try first | rw [if_pos c6] | rw [if_neg c6] | rw [if_neg (not_not_intro c6)]
        try rfl
      rw [e] at h; exact h _ (frC_sI (by decide)) (repCl_rfz hX (by decide) (by decide))
theorem RepCl.ev {M M' : Mem} {X : Sys} {S' : Sc} (h : RepCl M X) (hf : FrI (DW 0) M M') (hn : RepC M' 0 S') : RepCl M' (setS X S') := by
  obtain ⟨h1, h2, h3, h4, h5, h6, h7⟩ := h
  have hI : ∀ b : Id, b.1 ≠ 1 → b.1 ≠ 2 → b.1 ≠ 4 → mI M' b = mI M b := fun b a c d => funext fun j => hf.2 b j (fun q => by rcases q with q | q; rcases q.1 with q | q <;> contradiction; contradiction)
  have hJ : ∀ b, mJ M' b = mJ M b := fun b => by unfold mJ; rw [hf.1]
  exact ⟨hn, h2.same (by rw [hI _ (by simp) (by simp) (by simp)]) (fun S hS => hS.fr hf (fun j q => by rcases q with q | q; exact absurd (show (2 : Nat) = 0 from q.2) (by decide); cases q) (fun i f _ q => by rcases q with q | q; exact absurd (show (2 : Nat) = 0 from q.2) (by decide); cases q)), fun s hs => (h3 s hs).same (hI _ (by simp) (by simp) (by simp)) (hJ _), h4.same (hI _ (by simp) (by simp) (by simp)) (hJ _), fun j a b => by rw [hI _ (by simp) (by simp) (by simp)]; exact h5 j a b, by rw [hI _ (by simp) (by simp) (by simp)]; exact h6, h7.same (by rw [hI _ (by simp) (by simp) (by simp)]) (hI _ (by simp) (by simp) (by simp))⟩
def opEvenings (X : Sys) (n : Int32) : Int32 × Sys := if n = 0 then rfX X 6 else if ¬ IN n 25 then rfX X 6 else (nI (seatSum (xS X) n.toNatClampNeg), setS X (itS (xS X) n.toNatClampNeg))
set_option maxHeartbeats 4000000 in
set_option maxRecDepth 100000 in
theorem wp_X6_evenings {E : Ev} {M : Mem} {Q : QT} (hW : Wi M) {X : Sys} (hX : RepCl M X) (hO : OkX X) {n : Int32} (h : ∀ M', FrC M M' → RepCl M' (opEvenings X n).2 → Q (some (vI (opEvenings X n).1)) M') : Mth E 7 0 0 kX6_evenings [vR (0, 0, 0), vI n] M Q := by
  have hR0 := hX.1
  have hsz := hX.1.1
  have hs10 : (xS X).1 ≤ 10 := hO.1.1
  refine mth_of (by decide +kernel) [some (vR (0, 0, 0)), some (vI n)] (Nat.le_of_ble_eq_true rfl) rfl ?_
  refine g_iload_n dX6_evenings_0 rfl rfl ?_
  refine g_if_eq (tgt := 11) dX6_evenings_1 (by decide) (fun c1 => ?_) (fun c1 => ?_)
  · refine g_aloadR_n dX6_evenings_11 rfl rfl ?_
    refine g_bipush dX6_evenings_12 (v := (-6)) (by decide) ?_
    refine n_v1i (n' := 0) dX6_evenings_14 mX6_refuse lX6_66 rfl hW vld_x0 rfl rfl ⟨Nat.le_of_ble_eq_true rfl, Nat.le_of_ble_eq_true rfl⟩ ⟨Nat.zero_le _, Nat.zero_le _⟩ (Nat.le_of_ble_eq_true rfl) ?_
    refine wp_X6_refuse (j := 6) (by exact hW) (by decide) (by decide) ?_
    refine ⟨_, rfl, ?_⟩
    refine g_iret dX6_evenings_17 rfl ?_
    have e : opEvenings X n = rfX X 6 := by
      unfold opEvenings
      try first | rw [if_pos c1] | rw [if_neg c1] | rw [if_neg (not_not_intro c1)]
      try rfl
    rw [e] at h; exact h _ (frC_sI (by decide)) (repCl_rfz hX (by decide) (by decide))
  · refine g_iload_n dX6_evenings_4 rfl rfl ?_
    refine n_s1i (n' := 0) dX6_evenings_5 mX6_isStretch lX6_199 ⟨Nat.le_of_ble_eq_true rfl, Nat.le_of_ble_eq_true rfl⟩ ⟨Nat.zero_le _, Nat.zero_le _⟩ (Nat.le_of_ble_eq_true rfl) ?_
    refine wp_X6_isStretch ?_
    refine ⟨_, rfl, ?_⟩
    refine g_if_ne (tgt := 18) dX6_evenings_8 (by decide) (fun c8 => ?_) (fun c8 => ?_)
    · simp only [b2_0, Decidable.not_not] at c8
      have hn1 := (IN_nI c8).1
      have hn24 : n.toNatClampNeg ≤ 24 := by have := (IN_nI c8).2; omega
      refine g_aloadR_n dX6_evenings_18 rfl rfl ?_
      refine n_getR dX6_evenings_19 fX6_25 rfl hW vld_x0 rfl rfl ?_
      refine g_aloadR_n dX6_evenings_22 rfl rfl ?_
      refine n_getR dX6_evenings_23 fX6_10 rfl hW vld_x0 rfl rfl ?_
      refine g_iload_n dX6_evenings_26 rfl rfl ?_
      refine n_v2v (n' := 6) dX6_evenings_27 mX1_watch lX6_202 rfl hW vld_x4 rfl rfl ⟨Nat.le_of_ble_eq_true rfl, Nat.le_of_ble_eq_true rfl⟩ ⟨Nat.zero_le _, Nat.zero_le _⟩ (Nat.le_of_ble_eq_true rfl) ?_
      rw [hn1]
      refine wp_X1_watch (by exact hW) (by decide : 0 < 4) hR0 hO.1 (n := n.toNatClampNeg) hn24 (fun M3 hf3 hP3 ho3 => ?_)
      have hW3 := hf3.W hW
      refine ⟨rfl, ?_⟩
      refine g_aloadR_n dX6_evenings_30 rfl rfl ?_
      refine n_getR dX6_evenings_31 fX6_25 rfl hW3 vld_x0 rfl rfl ?_
      refine n_getI dX6_evenings_34 fX6_215 rfl hW3 vld_x4 (Or.inl rfl) ?_
      refine g_iret dX6_evenings_37 rfl ?_
      have e : opEvenings X n = (nI (seatSum (xS X) n.toNatClampNeg), setS X (itS (xS X) n.toNatClampNeg)) := by
        unfold opEvenings
        try first | rw [if_pos c1] | rw [if_neg c1] | rw [if_neg (not_not_intro c1)]
        try first | rw [if_pos c8] | rw [if_neg c8] | rw [if_neg (not_not_intro c8)]
        try rfl
      rw [e] at h
      rw [ho3.1]
      exact h _ (FrC.of hf3 D_lt.2.1) (hX.ev hf3 hP3)
    · simp only [b2_0, Decidable.not_not] at c8
      refine g_aloadR_n dX6_evenings_11 rfl rfl ?_
      refine g_bipush dX6_evenings_12 (v := (-6)) (by decide) ?_
      refine n_v1i (n' := 0) dX6_evenings_14 mX6_refuse lX6_66 rfl hW vld_x0 rfl rfl ⟨Nat.le_of_ble_eq_true rfl, Nat.le_of_ble_eq_true rfl⟩ ⟨Nat.zero_le _, Nat.zero_le _⟩ (Nat.le_of_ble_eq_true rfl) ?_
      refine wp_X6_refuse (j := 6) (by exact hW) (by decide) (by decide) ?_
      refine ⟨_, rfl, ?_⟩
      refine g_iret dX6_evenings_17 rfl ?_
      have e : opEvenings X n = rfX X 6 := by
        unfold opEvenings
        try first | rw [if_pos c1] | rw [if_neg c1] | rw [if_neg (not_not_intro c1)]
        try first | rw [if_pos c8] | rw [if_neg c8] | rw [if_neg (not_not_intro c8)]
        try rfl
      rw [e] at h; exact h _ (frC_sI (by decide)) (repCl_rfz hX (by decide) (by decide))
theorem noL_tr : ∀ (L : List Int32) (M : Mem) (L0 : List Int32), RepTr M L0 → L0.length + L.length ≤ 100 → RepTr (noL M L) (L0 ++ L) := by
  intro L
  induction L with
  | nil => intro M L0 h _; rw [List.append_nil]; exact h
  | cons b r ih =>
    intro M L0 h hl
    have e : L0 ++ b :: r = (L0 ++ [b]) ++ r := by simp
    rw [e]
    refine ih _ _ ?_ (by simp at hl ⊢; omega)
    obtain ⟨h1, h2⟩ := h
    simp at hl
    have ht := nI_toInt (n := L0.length) (by omega)
    unfold noM RepTr
    rw [h1, ht]
    by_cases q : (0 : Int) ≤ (L0.length : Int) ∧ (L0.length : Int) < 20
    · rw [if_pos q, nI_clamp (by omega)]
      refine ⟨by simp only [mI, sI]; rw [if_pos ⟨trivial, trivial⟩, List.length_append]; exact nI_1 _, fun i hi hil => ?_⟩
      have hc : mI (sI (sI M (11, 0, 0) L0.length b) (10, 0, 0) 0 (nI L0.length + 1)) (11, 0, 0) i = if i = L0.length then b else mI M (11, 0, 0) i := by simp [mI, sI]
      rw [hc]
      by_cases hq : i = L0.length
      · subst hq; simp
      · rw [if_neg hq, h2 i hi (by simp at hil; omega)]
        simp at hil
        rw [List.getD_eq_getElem?_getD, List.getD_eq_getElem?_getD, List.getElem?_append_left (by omega)]
    · rw [if_neg q]
      refine ⟨by simp only [mI, sI]; rw [if_pos ⟨trivial, trivial⟩, List.length_append]; exact nI_1 _, fun i hi hil => ?_⟩
      have hc : mI (sI M (10, 0, 0) 0 (nI L0.length + 1)) (11, 0, 0) i = mI M (11, 0, 0) i := by simp [mI, sI]
      rw [hc, h2 i hi (by omega), List.getD_eq_getElem?_getD, List.getD_eq_getElem?_getD, List.getElem?_append_left (by omega)]
def D11 : Id → Nat → Prop := fun b _ => b.1 = 10 ∨ b.1 = 11
theorem noM_fr {M : Mem} {b : Int32} : FrI D11 M (noM M b) := by
  unfold noM; split
  · exact (fr_sI (Or.inr rfl)).tr (fr_sI (Or.inl rfl))
  · exact fr_sI (Or.inl rfl)
theorem noL_fr : ∀ (L : List Int32) (M : Mem), FrI D11 M (noL M L)
  | [], M => FrI.rf
  | b :: r, M => noM_fr.tr (noL_fr r (noM M b))
theorem RepCl.trc {M M' : Mem} {X : Sys} {L : List Int32} (h : RepCl M X) (hf : FrI D11 M M') (hn : RepTr M' L) : RepCl M' (setL X L) := by
  obtain ⟨h1, h2, h3, h4, h5, h6, h7⟩ := h
  have hI : ∀ b : Id, b.1 ≠ 10 → b.1 ≠ 11 → mI M' b = mI M b := fun b a c => funext fun j => hf.2 b j (fun q => by rcases q with q | q <;> contradiction)
  have hJ : ∀ b, mJ M' b = mJ M b := fun b => by unfold mJ; rw [hf.1]
  have hk : ∀ k S, RepC M k S → RepC M' k S := fun k S hS => hS.same (hI _ (by simp) (by simp)) (fun i f _ => by rw [hI _ (by simp) (by simp)])
  exact ⟨hk 0 _ h1, h2.same (by rw [hI _ (by simp) (by simp)]) (hk 2), fun s hs => (h3 s hs).same (hI _ (by simp) (by simp)) (hJ _), h4.same (hI _ (by simp) (by simp)) (hJ _), fun j a b => by rw [hI _ (by simp) (by simp)]; exact h5 j a b, by rw [hI _ (by simp) (by simp)]; exact h6, hn⟩
theorem D11_lt : ∀ b j, 20 ≤ b.1 → ¬ D11 b j := fun b j h q => by unfold D11 at q; omega
theorem actL_le {kd mv : Nat} (hk : kd < 7) (hm : mv < 3) : (actL kd mv).length ≤ 100 := by
  have : ∀ kd, kd < 7 → ∀ mv, mv < 3 → (actL kd mv).length ≤ 100 := by decide +kernel
  exact this kd hk mv hm
theorem nI_zero_len : (0 : Int32) = nI ([] : List Int32).length := by decide
def opAct (X : Sys) (p mv x : Int32) : Int32 × Sys := if ¬ IN p (xS X).1 then (0, setL X []) else if ¬ IN mv 3 then (0, setL X []) else (actV ((xS X).2.2 p.toNatClampNeg 0).toNatClampNeg mv.toNatClampNeg p ((xS X).2.2 p.toNatClampNeg 1) x, setL X (actL ((xS X).2.2 p.toNatClampNeg 0).toNatClampNeg mv.toNatClampNeg))
set_option maxHeartbeats 4000000 in
set_option maxRecDepth 100000 in
theorem wp_X6_act {E : Ev} {M : Mem} {Q : QT} (hW : Wi M) {X : Sys} (hX : RepCl M X) (hO : OkX X) {p mv x : Int32} (h : ∀ M', FrC M M' → RepCl M' (opAct X p mv x).2 → Q (some (vI (opAct X p mv x).1)) M') : Mth E 17 0 0 kX6_act [vR (0, 0, 0), vI p, vI mv, vI x] M Q := by
  have hR0 := hX.1
  have hsz := hX.1.1
  have hs10 : (xS X).1 ≤ 10 := hO.1.1
  have fr0 : FrI D11 M (sI M (10, 0, 0) 0 0) := fr_sI (Or.inl rfl)
  have tr0 : RepTr (sI M (10, 0, 0) 0 0) [] := ⟨by simp [mI, sI, nI_0], fun i _ hi => by simp at hi⟩
  have hsz0 : mI (sI M (10, 0, 0) 0 0) (1, 0, 0) 2 = nI (xS X).1 := (congrFun (sI_hk _ (by intro q; cases q)).1 2).trans hsz
  refine mth_of (by decide +kernel) [some (vR (0, 0, 0)), some (vI p), some (vI mv), some (vI x)] (Nat.le_of_ble_eq_true rfl) rfl ?_
  refine g_aloadR_n dX6_act_0 rfl rfl ?_
  refine n_getR dX6_act_1 fX6_50 rfl hW vld_x0 rfl rfl ?_
  refine n_v0v (n' := 0) dX6_act_4 mX0_forget lX6_263 rfl hW vld_x10 rfl rfl ⟨Nat.le_of_ble_eq_true rfl, Nat.le_of_ble_eq_true rfl⟩ ⟨Nat.zero_le _, Nat.zero_le _⟩ (Nat.le_of_ble_eq_true rfl) ?_
  refine wp_X0_forget (by exact hW) ?_
  refine ⟨rfl, ?_⟩
  refine g_aloadR_n dX6_act_7 rfl rfl ?_
  refine n_getR dX6_act_8 fX6_10 rfl hW vld_x0 rfl rfl ?_
  refine g_iload_n dX6_act_11 rfl rfl ?_
  refine n_v1i (n' := 0) dX6_act_12 mX4_has lX6_116 rfl hW (vld_sc (by decide : 0 < 4)) rfl rfl ⟨Nat.le_of_ble_eq_true rfl, Nat.le_of_ble_eq_true rfl⟩ ⟨Nat.zero_le _, Nat.zero_le _⟩ (Nat.le_of_ble_eq_true rfl) ?_
  refine wp_X4_has (by exact hW) (by decide : 0 < 4) hsz0 hs10 ?_
  refine ⟨_, rfl, ?_⟩
  refine g_if_eq (tgt := 25) dX6_act_15 (by decide) (fun c15 => ?_) (fun c15 => ?_)
  · simp only [b2_0, Decidable.not_not] at c15
    refine g_iconst dX6_act_25 (v := 0) (by decide) ?_
    refine g_iret dX6_act_26 rfl ?_
    have e : opAct X p mv x = (0, setL X []) := by
      unfold opAct
      try first | rw [if_pos c15] | rw [if_neg c15] | rw [if_neg (not_not_intro c15)]
      try rfl
    rw [e] at h
    exact h _ (FrC.of fr0 D11_lt) (hX.trc fr0 tr0)
  · simp only [b2_0, Decidable.not_not] at c15
    have hx := (IN_nI c15).2
    have px : pix p = p.toNatClampNeg := if_pos ⟨c15.1, by have := c15.2; omega⟩
    have hkI : IN ((xS X).2.2 p.toNatClampNeg 0) 7 := (hO.1.2.2.2.2.2 _ hx).1
    have hk7 := (IN_nI hkI).2
    have m0 : mI (sI M (10, 0, 0) 0 0) (2, 0, pix p) 0 = nI ((xS X).2.2 p.toNatClampNeg 0).toNatClampNeg := by rw [px, (sI_hk _ (by intro q; cases q)).1, hR0.2.2 _ 0 hx (by decide)]; exact (IN_nI hkI).1
    have m1 : mI (sI M (10, 0, 0) 0 0) (2, 0, pix p) 1 = (xS X).2.2 p.toNatClampNeg 1 := by rw [px, (sI_hk _ (by intro q; cases q)).1, hR0.2.2 _ 1 hx (by decide)]
    refine g_iload_n dX6_act_18 rfl rfl ?_
    refine n_s1i (n' := 0) dX6_act_19 mX0_isMove lX6_266 ⟨Nat.le_of_ble_eq_true rfl, Nat.le_of_ble_eq_true rfl⟩ ⟨Nat.zero_le _, Nat.zero_le _⟩ (Nat.le_of_ble_eq_true rfl) ?_
    refine wp_X0_isMove ?_
    refine ⟨_, rfl, ?_⟩
    refine g_if_ne (tgt := 27) dX6_act_22 (by decide) (fun c22 => ?_) (fun c22 => ?_)
    · simp only [b2_0, Decidable.not_not] at c22
      refine g_aloadR_n dX6_act_27 rfl rfl ?_
      refine n_getR dX6_act_28 fX6_50 rfl hW vld_x0 rfl rfl ?_
      refine g_iload_n dX6_act_31 rfl rfl ?_
      refine g_aloadR_n dX6_act_32 rfl rfl ?_
      refine n_getR dX6_act_33 fX6_10 rfl hW vld_x0 rfl rfl ?_
      refine g_iload_n dX6_act_36 rfl rfl ?_
      refine n_v1r (n' := 0) dX6_act_37 mX4_one lX6_129 rfl hW (vld_sc (by decide : 0 < 4)) rfl rfl ⟨Nat.le_of_ble_eq_true rfl, Nat.le_of_ble_eq_true rfl⟩ ⟨Nat.zero_le _, Nat.zero_le _⟩ (Nat.le_of_ble_eq_true rfl) ?_
      refine wp_X4_one (by exact hW) (by decide : 0 < 4) ?_
      refine ⟨_, rfl, ?_⟩
      refine g_iload_n dX6_act_40 rfl rfl ?_
      refine g_iload_n dX6_act_41 rfl rfl ?_
      refine n_v4i (n' := 16) dX6_act_42 mX0_run lX6_269 rfl hW vld_x10 rfl rfl ⟨Nat.le_of_ble_eq_true rfl, Nat.le_of_ble_eq_true rfl⟩ ⟨Nat.zero_le _, Nat.zero_le _⟩ (Nat.le_of_ble_eq_true rfl) ?_
      rw [(IN_nI c22).1]
      refine wp_X0_run (by exact hW) (by decide : 0 < 4) (pix_lt _) m0 hk7 (IN_nI c22).2 ?_
      refine ⟨_, rfl, ?_⟩
      refine g_iret dX6_act_45 rfl ?_
      have e : opAct X p mv x = (actV ((xS X).2.2 p.toNatClampNeg 0).toNatClampNeg mv.toNatClampNeg p ((xS X).2.2 p.toNatClampNeg 1) x, setL X (actL ((xS X).2.2 p.toNatClampNeg 0).toNatClampNeg mv.toNatClampNeg)) := by
        unfold opAct
        try first | rw [if_pos c15] | rw [if_neg c15] | rw [if_neg (not_not_intro c15)]
        try first | rw [if_pos c22] | rw [if_neg c22] | rw [if_neg (not_not_intro c22)]
        try rfl
      rw [e] at h
      have frr : FrI D11 M (ruM (sI M (10, 0, 0) 0 0) p (nI ((xS X).2.2 p.toNatClampNeg 0).toNatClampNeg) ((xS X).2.2 p.toNatClampNeg 1)) := ((fr0.tr (fr_sI (Or.inl rfl))).tr (fr_sI (Or.inl rfl))).tr (fr_sI (Or.inl rfl))
      have frl := frr.tr (noL_fr (actL ((xS X).2.2 p.toNatClampNeg 0).toNatClampNeg mv.toNatClampNeg) _)
      rw [m1]
      refine h _ (FrC.of frl D11_lt) (hX.trc frl ?_)
      exact noL_tr _ _ [] ⟨by simp [ruM, mI, sI, nI_0], fun i _ hi => by simp at hi⟩ (by have := actL_le hk7 (IN_nI c22).2; simp; omega)
    · simp only [b2_0, Decidable.not_not] at c22
      refine g_iconst dX6_act_25 (v := 0) (by decide) ?_
      refine g_iret dX6_act_26 rfl ?_
      have e : opAct X p mv x = (0, setL X []) := by
        unfold opAct
        try first | rw [if_pos c15] | rw [if_neg c15] | rw [if_neg (not_not_intro c15)]
        try first | rw [if_pos c22] | rw [if_neg c22] | rw [if_neg (not_not_intro c22)]
        try rfl
      rw [e] at h
      exact h _ (FrC.of fr0 D11_lt) (hX.trc fr0 tr0)
