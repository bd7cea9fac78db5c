/-! THE CLASS'S OWN METHODS: EVENINGS TO COME -/
theorem D9_DX {k : Nat} : ∀ b j, D9 k b j → DX b j := fun b j h => Or.inr (Or.inr (Or.inr (Or.inr ⟨h.1, h.2.2⟩)))
theorem Dk1_DX : ∀ b j, Dk 1 b j → DX b j := fun b j h => Or.inr (Or.inr (Or.inr (Or.inl ⟨h.1, Or.inl h.2⟩)))
theorem DW1_DX : ∀ b j, DW 1 b j → DX b j := fun b j h => h.elim (Dk1_DX b j) (fun q => Or.inl q)
theorem DX_lt : ∀ b j, 20 ≤ b.1 → ¬ DX b j := fun b j h q => by unfold DX at q; omega
theorem frC_DX {M M' : Mem} (h : FrI DX M M') : FrC M M' := FrC.of h DX_lt
theorem RepCl.hd {M M' : Mem} {X : Sys} (h : RepCl M X) (hf : FrI DX M M') : RepCl M' X := h.hid hf (fun _ _ q => q)
theorem OkS.pay {S : Sc} (h : OkS S) {v : Int32} (hv : v = 0 ∨ v = 1) : OkS (payS S v) := by
  obtain ⟨h1, h2, h3, h4, h5, h6⟩ := h
  exact ⟨h1, h2, h3, h4, h5, fun i hi => ⟨(h6 i hi).1, (h6 i hi).2.1, (h6 i hi).2.2.1, hv, (h6 i hi).2.2.2.2⟩⟩
theorem OkS.dis {S : Sc} (h : OkS S) {t : Nat} : OkS (disS S t) := by
  obtain ⟨h1, h2, h3, h4, h5, h6⟩ := h
  refine ⟨h1, h2, h3, h4, h5, fun i hi => ?_⟩
  obtain ⟨p0, p1, p2, p3, p4, p5, p8⟩ := h6 i hi
  have e : ∀ f, f ≠ 8 → (disS S t).2.2 i f = S.2.2 i f := fun f hf => if_neg (fun q => hf q.1)
  refine ⟨p0, p1, p2, p3, p4, p5, ?_⟩
  show (if 8 = 8 ∧ t ≤ i then (1 : Int32) else S.2.2 i 8) = 0 ∨ (if 8 = 8 ∧ t ≤ i then (1 : Int32) else S.2.2 i 8) = 1
  by_cases q : 8 = 8 ∧ t ≤ i
  · rw [if_pos q]; exact Or.inr rfl
  · rw [if_neg q]; exact p8
theorem OkS.g1 {S : Sc} (h : OkS S) {l : Nat} (hl : l ≤ 20) : OkS (gS S 1 (nI l)) := by
  obtain ⟨h1, h2, h3, h4, h5, h6⟩ := h
  exact ⟨h1, IN_of (n := 21) (by omega) (by decide), h3, h4, h5, h6⟩
theorem OkS.g3 {S : Sc} (h : OkS S) {l : Nat} (hl : l ≤ 12) (hl1 : 1 ≤ l) : OkS (gS S 3 (nI l)) := by
  obtain ⟨h1, h2, h3, h4, h5, h6⟩ := h
  have e : (gS S 3 (nI l)).2.1 3 = nI l := rfl
  exact ⟨h1, h2, h3, ⟨by rw [e]; exact IN_of (n := 13) (by omega) (by decide), by rw [e, nI_toInt (by omega)]; omega⟩, h5, h6⟩
def opTonight (X : Sys) (w : Int32) : Int32 × Sys := if w < 0 then rfX X 5 else if ¬ w ≤ 2 then rfX X 5 else if w = 0 then (nI (comersS (xS X) 0), X) else if w = 1 then (nI (eveM (xS X)), X) else (nI (comersS (xS X) 0) &&& (nI (eveM (xS X)) ^^^ (-1)), X)
set_option maxHeartbeats 4000000 in
set_option maxRecDepth 100000 in
theorem wp_X6_tonight {E : Ev} {M : Mem} {Q : QT} (hW : Wi M) {X : Sys} (hX : RepCl M X) (hO : OkX X) {w : Int32} (h : ∀ M', FrC M M' → RepCl M' (opTonight X w).2 → Q (some (vI (opTonight X w).1)) M') : Mth E 5 0 0 kX6_tonight [vR (0, 0, 0), vI w] M Q := by
  have hR0 := hX.1
  have hsz := hX.1.1
  have hs10 : (xS X).1 ≤ 10 := hO.1.1
  have hcl := comersS_lt (xS X) 0
  have hpw := pow_le10 hs10
  refine mth_of (by decide +kernel) [some (vR (0, 0, 0)), some (vI w), none, none] (Nat.le_of_ble_eq_true rfl) rfl ?_
  refine g_iload_n dX6_tonight_0 rfl rfl ?_
  refine g_if_lt (tgt := 9) dX6_tonight_1 (by decide) (fun c1 => ?_) (fun c1 => ?_)
  · refine g_aloadR_n dX6_tonight_9 rfl rfl ?_
    refine g_bipush dX6_tonight_10 (v := (-5)) (by decide) ?_
    refine n_v1i (n' := 0) dX6_tonight_12 mX6_refuse lX6_66 rfl hW vld_x0 rfl rfl ⟨Nat.le_of_ble_eq_true rfl, Nat.le_of_ble_eq_true rfl⟩ ⟨Nat.zero_le _, Nat.zero_le _⟩ (Nat.le_of_ble_eq_true rfl) ?_
    refine wp_X6_refuse (j := 5) (by exact hW) (by decide) (by decide) ?_
    refine ⟨_, rfl, ?_⟩
    refine g_iret dX6_tonight_15 rfl ?_
    have e : opTonight X w = rfX X 5 := by
      unfold opTonight
      try first | rw [if_pos c1] | rw [if_neg c1] | rw [if_neg (not_not_intro c1)]
      try rfl
    rw [e] at h; exact h _ (frC_sI (by decide)) (repCl_rfz hX (by decide) (by decide))
  · refine g_iload_n dX6_tonight_4 rfl rfl ?_
    refine g_iconst dX6_tonight_5 (v := 2) (by decide) ?_
    refine g_icmp_le (tgt := 16) dX6_tonight_6 (by decide) (fun c6 => ?_) (fun c6 => ?_)
    · refine g_aloadR_n dX6_tonight_16 rfl rfl ?_
      refine n_getR dX6_tonight_17 fX6_10 rfl hW vld_x0 rfl rfl ?_
      refine g_iconst dX6_tonight_20 (v := 0) (by decide) ?_
      refine n_v1i (n' := 4) dX6_tonight_21 mX4_comers lX6_193 rfl hW (vld_sc (by decide : 0 < 4)) rfl rfl ⟨Nat.le_of_ble_eq_true rfl, Nat.le_of_ble_eq_true rfl⟩ ⟨Nat.zero_le _, Nat.zero_le _⟩ (Nat.le_of_ble_eq_true rfl) ?_
      refine wp_X4_comers (r := 0) (by exact hW) (by decide : 0 < 4) hR0 hs10 (by decide) (fun M2 hf2 => ?_)
      have hW2 := hf2.W hW
      have hd2 : FrI DX M M2 := hf2.mono D9_DX
      have hX2 := hX.hd hd2
      have hRc := hX2.1
      refine ⟨_, rfl, ?_⟩
      refine g_istore_2 dX6_tonight_24 rfl ?_
      refine g_aloadR_n dX6_tonight_25 rfl rfl ?_
      refine n_getR dX6_tonight_26 fX6_10 rfl hW2 vld_x0 rfl rfl ?_
      refine g_iload_n dX6_tonight_29 rfl rfl ?_
      refine n_v1i (n' := 1) dX6_tonight_30 mX4_seatedOf lX6_196 rfl hW2 (vld_sc (by decide : 0 < 4)) rfl rfl ⟨Nat.le_of_ble_eq_true rfl, Nat.le_of_ble_eq_true rfl⟩ ⟨Nat.zero_le _, Nat.zero_le _⟩ (Nat.le_of_ble_eq_true rfl) ?_
      refine wp_X4_seatedOf (by exact hW2) (by decide : 0 < 4) hRc hs10 hO.1 hcl ?_
      refine ⟨_, rfl, ?_⟩
      refine g_istore_3 dX6_tonight_33 rfl ?_
      refine g_iload_n dX6_tonight_34 rfl rfl ?_
      refine g_if_ne (tgt := 42) dX6_tonight_35 (by decide) (fun c35 => ?_) (fun c35 => ?_)
      · refine g_iload_n dX6_tonight_42 rfl rfl ?_
        refine g_iconst dX6_tonight_43 (v := 1) (by decide) ?_
        refine g_icmp_ne (tgt := 51) dX6_tonight_44 (by decide) (fun c44 => ?_) (fun c44 => ?_)
        · refine g_iload_n dX6_tonight_51 rfl rfl ?_
          refine g_iload_n dX6_tonight_52 rfl rfl ?_
          refine g_iconst dX6_tonight_53 (v := (-1)) (by decide) ?_
          refine g_ixor dX6_tonight_54 ?_
          refine g_iand dX6_tonight_55 ?_
          refine g_iret dX6_tonight_56 rfl ?_
          have e : opTonight X w = (nI (comersS (xS X) 0) &&& (nI (eveM (xS X)) ^^^ (-1)), X) := by
            unfold opTonight
            try first | rw [if_pos c1] | rw [if_neg c1] | rw [if_neg (not_not_intro c1)]
            try first | rw [if_pos c6] | rw [if_neg c6] | rw [if_neg (not_not_intro c6)]
            try first | rw [if_pos c35] | rw [if_neg c35] | rw [if_neg (not_not_intro c35)]
            try first | rw [if_pos c44] | rw [if_neg c44] | rw [if_neg (not_not_intro c44)]
            try rfl
          rw [e] at h
          exact h _ (frC_DX hd2) hX2
        · refine g_iload_n dX6_tonight_47 rfl rfl ?_
          refine g_goto (tgt := 56) dX6_tonight_48 (by decide) ?_
          refine g_iret dX6_tonight_56 rfl ?_
          have e : opTonight X w = (nI (eveM (xS X)), X) := by
            unfold opTonight
            try first | rw [if_pos c1] | rw [if_neg c1] | rw [if_neg (not_not_intro c1)]
            try first | rw [if_pos c6] | rw [if_neg c6] | rw [if_neg (not_not_intro c6)]
            try first | rw [if_pos c35] | rw [if_neg c35] | rw [if_neg (not_not_intro c35)]
            try first | rw [if_pos c44] | rw [if_neg c44] | rw [if_neg (not_not_intro c44)]
            try rfl
          rw [e] at h
          exact h _ (frC_DX hd2) hX2
      · refine g_iload_n dX6_tonight_38 rfl rfl ?_
        refine g_goto (tgt := 56) dX6_tonight_39 (by decide) ?_
        refine g_iret dX6_tonight_56 rfl ?_
        have e : opTonight X w = (nI (comersS (xS X) 0), X) := by
          unfold opTonight
          try first | rw [if_pos c1] | rw [if_neg c1] | rw [if_neg (not_not_intro c1)]
          try first | rw [if_pos c6] | rw [if_neg c6] | rw [if_neg (not_not_intro c6)]
          try first | rw [if_pos c35] | rw [if_neg c35] | rw [if_neg (not_not_intro c35)]
          try rfl
        rw [e] at h
        exact h _ (frC_DX hd2) hX2
    · refine g_aloadR_n dX6_tonight_9 rfl rfl ?_
      refine g_bipush dX6_tonight_10 (v := (-5)) (by decide) ?_
      refine n_v1i (n' := 0) dX6_tonight_12 mX6_refuse lX6_66 rfl hW vld_x0 rfl rfl ⟨Nat.le_of_ble_eq_true rfl, Nat.le_of_ble_eq_true rfl⟩ ⟨Nat.zero_le _, Nat.zero_le _⟩ (Nat.le_of_ble_eq_true rfl) ?_
      refine wp_X6_refuse (j := 5) (by exact hW) (by decide) (by decide) ?_
      refine ⟨_, rfl, ?_⟩
      refine g_iret dX6_tonight_15 rfl ?_
      have e : opTonight X w = rfX X 5 := by
        unfold opTonight
        try first | rw [if_pos c1] | rw [if_neg c1] | rw [if_neg (not_not_intro c1)]
        try first | rw [if_pos c6] | rw [if_neg c6] | rw [if_neg (not_not_intro c6)]
        try rfl
      rw [e] at h; exact h _ (frC_sI (by decide)) (repCl_rfz hX (by decide) (by decide))
def opAhead (X : Sys) (n w : Int32) : Int32 × Sys := if w < 0 then rfX X 5 else if ¬ w ≤ 2 then rfX X 5 else if ¬ IN n 25 then rfX X 6 else if w = 0 then (nI (cnt (presS (itS (xS X) n.toNatClampNeg)) 11), X) else if w = 1 then (nI (seatSum (xS X) n.toNatClampNeg), X) else (nI (turnSum (xS X) n.toNatClampNeg), X)
set_option maxHeartbeats 4000000 in
set_option maxRecDepth 100000 in
theorem wp_X6_ahead {E : Ev} {M : Mem} {Q : QT} (hW : Wi M) {X : Sys} (hX : RepCl M X) (hO : OkX X) {n w : Int32} (h : ∀ M', FrC M M' → RepCl M' (opAhead X n w).2 → Q (some (vI (opAhead X n w).1)) M') : Mth E 7 0 0 kX6_ahead [vR (0, 0, 0), vI n, vI w] M Q := by
  have hR0 := hX.1
  have hsz := hX.1.1
  have hs10 : (xS X).1 ≤ 10 := hO.1.1
  have hitn : ∀ j, (itS (xS X) j).1 ≤ 10 := fun j => (hO.1.it j).1
  refine mth_of (by decide +kernel) [some (vR (0, 0, 0)), some (vI n), some (vI w)] (Nat.le_of_ble_eq_true rfl) rfl ?_
  refine g_iload_n dX6_ahead_0 rfl rfl ?_
  refine g_if_lt (tgt := 9) dX6_ahead_1 (by decide) (fun c1 => ?_) (fun c1 => ?_)
  · refine g_aloadR_n dX6_ahead_9 rfl rfl ?_
    refine g_bipush dX6_ahead_10 (v := (-5)) (by decide) ?_
    refine n_v1i (n' := 0) dX6_ahead_12 mX6_refuse lX6_66 rfl hW vld_x0 rfl rfl ⟨Nat.le_of_ble_eq_true rfl, Nat.le_of_ble_eq_true rfl⟩ ⟨Nat.zero_le _, Nat.zero_le _⟩ (Nat.le_of_ble_eq_true rfl) ?_
    refine wp_X6_refuse (j := 5) (by exact hW) (by decide) (by decide) ?_
    refine ⟨_, rfl, ?_⟩
    refine g_iret dX6_ahead_15 rfl ?_
    have e : opAhead X n w = rfX X 5 := by
      unfold opAhead
      try first | rw [if_pos c1] | rw [if_neg c1] | rw [if_neg (not_not_intro c1)]
      try rfl
    rw [e] at h; exact h _ (frC_sI (by decide)) (repCl_rfz hX (by decide) (by decide))
  · refine g_iload_n dX6_ahead_4 rfl rfl ?_
    refine g_iconst dX6_ahead_5 (v := 2) (by decide) ?_
    refine g_icmp_le (tgt := 16) dX6_ahead_6 (by decide) (fun c6 => ?_) (fun c6 => ?_)
    · refine g_iload_n dX6_ahead_16 rfl rfl ?_
      refine n_s1i (n' := 0) dX6_ahead_17 mX6_isStretch lX6_199 ⟨Nat.le_of_ble_eq_true rfl, Nat.le_of_ble_eq_true rfl⟩ ⟨Nat.zero_le _, Nat.zero_le _⟩ (Nat.le_of_ble_eq_true rfl) ?_
      refine wp_X6_isStretch ?_
      refine ⟨_, rfl, ?_⟩
      refine g_if_ne (tgt := 30) dX6_ahead_20 (by decide) (fun c20 => ?_) (fun c20 => ?_)
      · simp only [b2_0, Decidable.not_not] at c20
        have hn1 := (IN_nI c20).1
        have hn24 : n.toNatClampNeg ≤ 24 := by have := (IN_nI c20).2; omega
        refine g_aloadR_n dX6_ahead_30 rfl rfl ?_
        refine n_getR dX6_ahead_31 fX6_16 rfl hW vld_x0 rfl rfl ?_
        refine g_aloadR_n dX6_ahead_34 rfl rfl ?_
        refine n_getR dX6_ahead_35 fX6_10 rfl hW vld_x0 rfl rfl ?_
        refine n_v1v (n' := 1) dX6_ahead_38 mX4_become lX6_186 rfl hW (vld_sc (by decide : 1 < 4)) rfl rfl ⟨Nat.le_of_ble_eq_true rfl, Nat.le_of_ble_eq_true rfl⟩ ⟨Nat.zero_le _, Nat.zero_le _⟩ (Nat.le_of_ble_eq_true rfl) ?_
        refine wp_X4_become (by exact hW) (by decide : 1 < 4) (by decide : 0 < 4) (by decide) hR0 hO.1 (fun M3 hf3 hP3 => ?_)
        have hW3 := hf3.W hW
        have hd3 : FrI DX M M3 := hf3.mono Dk1_DX
        refine ⟨rfl, ?_⟩
        refine g_aloadR_n dX6_ahead_41 rfl rfl ?_
        refine n_getR dX6_ahead_42 fX6_25 rfl hW3 vld_x0 rfl rfl ?_
        refine g_aloadR_n dX6_ahead_45 rfl rfl ?_
        refine n_getR dX6_ahead_46 fX6_16 rfl hW3 vld_x0 rfl rfl ?_
        refine g_iload_n dX6_ahead_49 rfl rfl ?_
        refine n_v2v (n' := 6) dX6_ahead_50 mX1_watch lX6_202 rfl hW3 vld_x4 rfl rfl ⟨Nat.le_of_ble_eq_true rfl, Nat.le_of_ble_eq_true rfl⟩ ⟨Nat.zero_le _, Nat.zero_le _⟩ (Nat.le_of_ble_eq_true rfl) ?_
        rw [hn1]
        refine wp_X1_watch (by exact hW3) (by decide : 1 < 4) hP3 hO.1 (n := n.toNatClampNeg) hn24 (fun M4 hf4 hP4 ho4 => ?_)
        have hW4 := hf4.W (by exact hW3)
        have hd4 : FrI DX M M4 := hd3.tr (hf4.mono DW1_DX)
        refine ⟨rfl, ?_⟩
        refine g_iload_n dX6_ahead_53 rfl rfl ?_
        refine g_if_ne (tgt := 70) dX6_ahead_54 (by decide) (fun c54 => ?_) (fun c54 => ?_)
        · refine g_iload_n dX6_ahead_70 rfl rfl ?_
          refine g_iconst dX6_ahead_71 (v := 1) (by decide) ?_
          refine g_icmp_ne (tgt := 85) dX6_ahead_72 (by decide) (fun c72 => ?_) (fun c72 => ?_)
          · refine g_aloadR_n dX6_ahead_85 rfl rfl ?_
            refine n_getR dX6_ahead_86 fX6_25 rfl hW4 vld_x0 rfl rfl ?_
            refine n_getI dX6_ahead_89 fX6_218 rfl hW4 vld_x4 (Or.inl rfl) ?_
            refine g_iret dX6_ahead_92 rfl ?_
            have e : opAhead X n w = (nI (turnSum (xS X) n.toNatClampNeg), X) := by
              unfold opAhead
              try first | rw [if_pos c1] | rw [if_neg c1] | rw [if_neg (not_not_intro c1)]
              try first | rw [if_pos c6] | rw [if_neg c6] | rw [if_neg (not_not_intro c6)]
              try first | rw [if_pos c20] | rw [if_neg c20] | rw [if_neg (not_not_intro c20)]
              try first | rw [if_pos c54] | rw [if_neg c54] | rw [if_neg (not_not_intro c54)]
              try first | rw [if_pos c72] | rw [if_neg c72] | rw [if_neg (not_not_intro c72)]
              try rfl
            rw [e] at h
            rw [ho4.2.1]
            exact h _ (frC_DX hd4) (hX.hd hd4)
          · refine g_aloadR_n dX6_ahead_75 rfl rfl ?_
            refine n_getR dX6_ahead_76 fX6_25 rfl hW4 vld_x0 rfl rfl ?_
            refine n_getI dX6_ahead_79 fX6_215 rfl hW4 vld_x4 (Or.inl rfl) ?_
            refine g_goto (tgt := 92) dX6_ahead_82 (by decide) ?_
            refine g_iret dX6_ahead_92 rfl ?_
            have e : opAhead X n w = (nI (seatSum (xS X) n.toNatClampNeg), X) := by
              unfold opAhead
              try first | rw [if_pos c1] | rw [if_neg c1] | rw [if_neg (not_not_intro c1)]
              try first | rw [if_pos c6] | rw [if_neg c6] | rw [if_neg (not_not_intro c6)]
              try first | rw [if_pos c20] | rw [if_neg c20] | rw [if_neg (not_not_intro c20)]
              try first | rw [if_pos c54] | rw [if_neg c54] | rw [if_neg (not_not_intro c54)]
              try first | rw [if_pos c72] | rw [if_neg c72] | rw [if_neg (not_not_intro c72)]
              try rfl
            rw [e] at h
            rw [ho4.1]
            exact h _ (frC_DX hd4) (hX.hd hd4)
        · refine g_aloadR_n dX6_ahead_57 rfl rfl ?_
          refine n_getR dX6_ahead_58 fX6_16 rfl hW4 vld_x0 rfl rfl ?_
          refine n_v0i (n' := 1) dX6_ahead_61 mX4_present lX6_206 rfl hW4 (vld_sc (by decide : 1 < 4)) rfl rfl ⟨Nat.le_of_ble_eq_true rfl, Nat.le_of_ble_eq_true rfl⟩ ⟨Nat.zero_le _, Nat.zero_le _⟩ (Nat.le_of_ble_eq_true rfl) ?_
          refine wp_X4_present (by exact hW4) (by decide : 1 < 4) hP4 (hitn _) ?_
          refine ⟨_, rfl, ?_⟩
          refine n_s1i (n' := 0) dX6_ahead_64 mJ6_bitCount_0f7a4 lX6_210 ⟨Nat.le_of_ble_eq_true rfl, Nat.le_of_ble_eq_true rfl⟩ ⟨Nat.zero_le _, Nat.zero_le _⟩ (Nat.le_of_ble_eq_true rfl) ?_
          have hpl := presS_lt (itS (xS X) n.toNatClampNeg)
          refine wp_J6_bitCount (c_lt hpl (hitn _)) ?_
          refine ⟨_, rfl, ?_⟩
          refine g_goto (tgt := 92) dX6_ahead_67 (by decide) ?_
          refine g_iret dX6_ahead_92 rfl ?_
          have e : opAhead X n w = (nI (cnt (presS (itS (xS X) n.toNatClampNeg)) 11), X) := by
            unfold opAhead
            try first | rw [if_pos c1] | rw [if_neg c1] | rw [if_neg (not_not_intro c1)]
            try first | rw [if_pos c6] | rw [if_neg c6] | rw [if_neg (not_not_intro c6)]
            try first | rw [if_pos c20] | rw [if_neg c20] | rw [if_neg (not_not_intro c20)]
            try first | rw [if_pos c54] | rw [if_neg c54] | rw [if_neg (not_not_intro c54)]
            try rfl
          rw [e] at h
          exact h _ (frC_DX hd4) (hX.hd hd4)
      · simp only [b2_0, Decidable.not_not] at c20
        refine g_aloadR_n dX6_ahead_23 rfl rfl ?_
        refine g_bipush dX6_ahead_24 (v := (-6)) (by decide) ?_
        refine n_v1i (n' := 0) dX6_ahead_26 mX6_refuse lX6_66 rfl hW vld_x0 rfl rfl ⟨Nat.le_of_ble_eq_true rfl, Nat.le_of_ble_eq_true rfl⟩ ⟨Nat.zero_le _, Nat.zero_le _⟩ (Nat.le_of_ble_eq_true rfl) ?_
        refine wp_X6_refuse (j := 6) (by exact hW) (by decide) (by decide) ?_
        refine ⟨_, rfl, ?_⟩
        refine g_iret dX6_ahead_29 rfl ?_
        have e : opAhead X n w = rfX X 6 := by
          unfold opAhead
          try first | rw [if_pos c1] | rw [if_neg c1] | rw [if_neg (not_not_intro c1)]
          try first | rw [if_pos c6] | rw [if_neg c6] | rw [if_neg (not_not_intro c6)]
          try first | rw [if_pos c20] | rw [if_neg c20] | rw [if_neg (not_not_intro c20)]
          try rfl
        rw [e] at h; exact h _ (frC_sI (by decide)) (repCl_rfz hX (by decide) (by decide))
    · refine g_aloadR_n dX6_ahead_9 rfl rfl ?_
      refine g_bipush dX6_ahead_10 (v := (-5)) (by decide) ?_
      refine n_v1i (n' := 0) dX6_ahead_12 mX6_refuse lX6_66 rfl hW vld_x0 rfl rfl ⟨Nat.le_of_ble_eq_true rfl, Nat.le_of_ble_eq_true rfl⟩ ⟨Nat.zero_le _, Nat.zero_le _⟩ (Nat.le_of_ble_eq_true rfl) ?_
      refine wp_X6_refuse (j := 5) (by exact hW) (by decide) (by decide) ?_
      refine ⟨_, rfl, ?_⟩
      refine g_iret dX6_ahead_15 rfl ?_
      have e : opAhead X n w = rfX X 5 := by
        unfold opAhead
        try first | rw [if_pos c1] | rw [if_neg c1] | rw [if_neg (not_not_intro c1)]
        try first | rw [if_pos c6] | rw [if_neg c6] | rw [if_neg (not_not_intro c6)]
        try rfl
      rw [e] at h; exact h _ (frC_sI (by decide)) (repCl_rfz hX (by decide) (by decide))
def opWorst (X : Sys) (n w : Int32) : Int32 × Sys := if w < 0 then ((rfX X 5).1 - 10, (rfX X 5).2) else if ¬ w ≤ 1 then ((rfX X 5).1 - 10, (rfX X 5).2) else if n = 0 then ((rfX X 6).1 - 10, (rfX X 6).2) else if ¬ IN n 25 then ((rfX X 6).1 - 10, (rfX X 6).2) else if w = 0 then ((woF (xS X) n.toNatClampNeg).1, X) else (shF (xS X) n.toNatClampNeg, X)
set_option maxHeartbeats 4000000 in
set_option maxRecDepth 100000 in
theorem wp_X6_worst {E : Ev} {M : Mem} {Q : QT} (hW : Wi M) {X : Sys} (hX : RepCl M X) (hO : OkX X) {n w : Int32} (h : ∀ M', FrC M M' → RepCl M' (opWorst X n w).2 → Q (some (vI (opWorst X n w).1)) M') : Mth E 7 0 0 kX6_worst [vR (0, 0, 0), vI n, vI w] M Q := by
  have hR0 := hX.1
  have hsz := hX.1.1
  have hs10 : (xS X).1 ≤ 10 := hO.1.1
  have hitn : ∀ j, (itS (xS X) j).1 ≤ 10 := fun j => (hO.1.it j).1
  refine mth_of (by decide +kernel) [some (vR (0, 0, 0)), some (vI n), some (vI w)] (Nat.le_of_ble_eq_true rfl) rfl ?_
  refine g_iload_n dX6_worst_0 rfl rfl ?_
  refine g_if_lt (tgt := 9) dX6_worst_1 (by decide) (fun c1 => ?_) (fun c1 => ?_)
  · refine g_aloadR_n dX6_worst_9 rfl rfl ?_
    refine g_bipush dX6_worst_10 (v := (-5)) (by decide) ?_
    refine n_v1i (n' := 0) dX6_worst_12 mX6_refuse lX6_66 rfl hW vld_x0 rfl rfl ⟨Nat.le_of_ble_eq_true rfl, Nat.le_of_ble_eq_true rfl⟩ ⟨Nat.zero_le _, Nat.zero_le _⟩ (Nat.le_of_ble_eq_true rfl) ?_
    refine wp_X6_refuse (j := 5) (by exact hW) (by decide) (by decide) ?_
    refine ⟨_, rfl, ?_⟩
    refine g_bipush dX6_worst_15 (v := 10) (by decide) ?_
    refine g_isub dX6_worst_17 ?_
    refine g_iret dX6_worst_18 rfl ?_
    have e : opWorst X n w = ((rfX X 5).1 - 10, (rfX X 5).2) := by
      unfold opWorst
      try first | rw [if_pos c1] | rw [if_neg c1] | rw [if_neg (not_not_intro c1)]
      try rfl
    rw [e] at h; exact h _ (frC_sI (by decide)) (repCl_rfz hX (by decide) (by decide))
  · refine g_iload_n dX6_worst_4 rfl rfl ?_
    refine g_iconst dX6_worst_5 (v := 1) (by decide) ?_
    refine g_icmp_le (tgt := 19) dX6_worst_6 (by decide) (fun c6 => ?_) (fun c6 => ?_)
    · refine g_iload_n dX6_worst_19 rfl rfl ?_
      refine g_if_eq (tgt := 30) dX6_worst_20 (by decide) (fun c20 => ?_) (fun c20 => ?_)
      · refine g_aloadR_n dX6_worst_30 rfl rfl ?_
        refine g_bipush dX6_worst_31 (v := (-6)) (by decide) ?_
        refine n_v1i (n' := 0) dX6_worst_33 mX6_refuse lX6_66 rfl hW vld_x0 rfl rfl ⟨Nat.le_of_ble_eq_true rfl, Nat.le_of_ble_eq_true rfl⟩ ⟨Nat.zero_le _, Nat.zero_le _⟩ (Nat.le_of_ble_eq_true rfl) ?_
        refine wp_X6_refuse (j := 6) (by exact hW) (by decide) (by decide) ?_
        refine ⟨_, rfl, ?_⟩
        refine g_bipush dX6_worst_36 (v := 10) (by decide) ?_
        refine g_isub dX6_worst_38 ?_
        refine g_iret dX6_worst_39 rfl ?_
        have e : opWorst X n w = ((rfX X 6).1 - 10, (rfX X 6).2) := by
          unfold opWorst
          try first | rw [if_pos c1] | rw [if_neg c1] | rw [if_neg (not_not_intro c1)]
          try first | rw [if_pos c6] | rw [if_neg c6] | rw [if_neg (not_not_intro c6)]
          try first | rw [if_pos c20] | rw [if_neg c20] | rw [if_neg (not_not_intro c20)]
          try rfl
        rw [e] at h; exact h _ (frC_sI (by decide)) (repCl_rfz hX (by decide) (by decide))
      · refine g_iload_n dX6_worst_23 rfl rfl ?_
        refine n_s1i (n' := 0) dX6_worst_24 mX6_isStretch lX6_199 ⟨Nat.le_of_ble_eq_true rfl, Nat.le_of_ble_eq_true rfl⟩ ⟨Nat.zero_le _, Nat.zero_le _⟩ (Nat.le_of_ble_eq_true rfl) ?_
        refine wp_X6_isStretch ?_
        refine ⟨_, rfl, ?_⟩
        refine g_if_ne (tgt := 40) dX6_worst_27 (by decide) (fun c27 => ?_) (fun c27 => ?_)
        · simp only [b2_0, Decidable.not_not] at c27
          have hn1 := (IN_nI c27).1
          have hn24 : n.toNatClampNeg ≤ 24 := by have := (IN_nI c27).2; omega
          refine g_aloadR_n dX6_worst_40 rfl rfl ?_
          refine n_getR dX6_worst_41 fX6_16 rfl hW vld_x0 rfl rfl ?_
          refine g_aloadR_n dX6_worst_44 rfl rfl ?_
          refine n_getR dX6_worst_45 fX6_10 rfl hW vld_x0 rfl rfl ?_
          refine n_v1v (n' := 1) dX6_worst_48 mX4_become lX6_186 rfl hW (vld_sc (by decide : 1 < 4)) rfl rfl ⟨Nat.le_of_ble_eq_true rfl, Nat.le_of_ble_eq_true rfl⟩ ⟨Nat.zero_le _, Nat.zero_le _⟩ (Nat.le_of_ble_eq_true rfl) ?_
          refine wp_X4_become (by exact hW) (by decide : 1 < 4) (by decide : 0 < 4) (by decide) hR0 hO.1 (fun M4 hf4 hP4 => ?_)
          have hW4 := hf4.W hW
          have hd4 : FrI DX M M4 := hf4.mono Dk1_DX
          refine ⟨rfl, ?_⟩
          refine g_aloadR_n dX6_worst_51 rfl rfl ?_
          refine n_getR dX6_worst_52 fX6_25 rfl hW4 vld_x0 rfl rfl ?_
          refine g_aloadR_n dX6_worst_55 rfl rfl ?_
          refine n_getR dX6_worst_56 fX6_16 rfl hW4 vld_x0 rfl rfl ?_
          refine g_iload_n dX6_worst_59 rfl rfl ?_
          refine n_v2v (n' := 6) dX6_worst_60 mX1_watch lX6_202 rfl hW4 vld_x4 rfl rfl ⟨Nat.le_of_ble_eq_true rfl, Nat.le_of_ble_eq_true rfl⟩ ⟨Nat.zero_le _, Nat.zero_le _⟩ (Nat.le_of_ble_eq_true rfl) ?_
          rw [hn1]
          refine wp_X1_watch (by exact hW4) (by decide : 1 < 4) hP4 hO.1 (n := n.toNatClampNeg) hn24 (fun M5 hf5 hP5 ho5 => ?_)
          have hW5 := hf5.W (by exact hW4)
          have hd5 : FrI DX M M5 := hd4.tr (hf5.mono DW1_DX)
          refine ⟨rfl, ?_⟩
          refine g_iload_n dX6_worst_63 rfl rfl ?_
          refine g_if_ne (tgt := 77) dX6_worst_64 (by decide) (fun c64 => ?_) (fun c64 => ?_)
          · refine g_aloadR_n dX6_worst_77 rfl rfl ?_
            refine n_getR dX6_worst_78 fX6_25 rfl hW5 vld_x0 rfl rfl ?_
            refine n_getI dX6_worst_81 fX6_224 rfl hW5 vld_x4 (Or.inl rfl) ?_
            refine g_iret dX6_worst_84 rfl ?_
            have e : opWorst X n w = (shF (xS X) n.toNatClampNeg, X) := by
              unfold opWorst
              try first | rw [if_pos c1] | rw [if_neg c1] | rw [if_neg (not_not_intro c1)]
              try first | rw [if_pos c6] | rw [if_neg c6] | rw [if_neg (not_not_intro c6)]
              try first | rw [if_pos c20] | rw [if_neg c20] | rw [if_neg (not_not_intro c20)]
              try first | rw [if_pos c27] | rw [if_neg c27] | rw [if_neg (not_not_intro c27)]
              try first | rw [if_pos c64] | rw [if_neg c64] | rw [if_neg (not_not_intro c64)]
              try rfl
            rw [e] at h
            rw [ho5.2.2.2]
            exact h _ (frC_DX hd5) (hX.hd hd5)
          · refine g_aloadR_n dX6_worst_67 rfl rfl ?_
            refine n_getR dX6_worst_68 fX6_25 rfl hW5 vld_x0 rfl rfl ?_
            refine n_getI dX6_worst_71 fX6_221 rfl hW5 vld_x4 (Or.inl rfl) ?_
            refine g_goto (tgt := 84) dX6_worst_74 (by decide) ?_
            refine g_iret dX6_worst_84 rfl ?_
            have e : opWorst X n w = ((woF (xS X) n.toNatClampNeg).1, X) := by
              unfold opWorst
              try first | rw [if_pos c1] | rw [if_neg c1] | rw [if_neg (not_not_intro c1)]
              try first | rw [if_pos c6] | rw [if_neg c6] | rw [if_neg (not_not_intro c6)]
              try first | rw [if_pos c20] | rw [if_neg c20] | rw [if_neg (not_not_intro c20)]
              try first | rw [if_pos c27] | rw [if_neg c27] | rw [if_neg (not_not_intro c27)]
              try first | rw [if_pos c64] | rw [if_neg c64] | rw [if_neg (not_not_intro c64)]
              try rfl
            rw [e] at h
            rw [ho5.2.2.1]
            exact h _ (frC_DX hd5) (hX.hd hd5)
        · simp only [b2_0, Decidable.not_not] at c27
          refine g_aloadR_n dX6_worst_30 rfl rfl ?_
          refine g_bipush dX6_worst_31 (v := (-6)) (by decide) ?_
          refine n_v1i (n' := 0) dX6_worst_33 mX6_refuse lX6_66 rfl hW vld_x0 rfl rfl ⟨Nat.le_of_ble_eq_true rfl, Nat.le_of_ble_eq_true rfl⟩ ⟨Nat.zero_le _, Nat.zero_le _⟩ (Nat.le_of_ble_eq_true rfl) ?_
          refine wp_X6_refuse (j := 6) (by exact hW) (by decide) (by decide) ?_
          refine ⟨_, rfl, ?_⟩
          refine g_bipush dX6_worst_36 (v := 10) (by decide) ?_
          refine g_isub dX6_worst_38 ?_
          refine g_iret dX6_worst_39 rfl ?_
          have e : opWorst X n w = ((rfX X 6).1 - 10, (rfX X 6).2) := by
            unfold opWorst
            try first | rw [if_pos c1] | rw [if_neg c1] | rw [if_neg (not_not_intro c1)]
            try first | rw [if_pos c6] | rw [if_neg c6] | rw [if_neg (not_not_intro c6)]
            try first | rw [if_pos c20] | rw [if_neg c20] | rw [if_neg (not_not_intro c20)]
            try first | rw [if_pos c27] | rw [if_neg c27] | rw [if_neg (not_not_intro c27)]
            try rfl
          rw [e] at h; exact h _ (frC_sI (by decide)) (repCl_rfz hX (by decide) (by decide))
    · refine g_aloadR_n dX6_worst_9 rfl rfl ?_
      refine g_bipush dX6_worst_10 (v := (-5)) (by decide) ?_
      refine n_v1i (n' := 0) dX6_worst_12 mX6_refuse lX6_66 rfl hW vld_x0 rfl rfl ⟨Nat.le_of_ble_eq_true rfl, Nat.le_of_ble_eq_true rfl⟩ ⟨Nat.zero_le _, Nat.zero_le _⟩ (Nat.le_of_ble_eq_true rfl) ?_
      refine wp_X6_refuse (j := 5) (by exact hW) (by decide) (by decide) ?_
      refine ⟨_, rfl, ?_⟩
      refine g_bipush dX6_worst_15 (v := 10) (by decide) ?_
      refine g_isub dX6_worst_17 ?_
      refine g_iret dX6_worst_18 rfl ?_
      have e : opWorst X n w = ((rfX X 5).1 - 10, (rfX X 5).2) := by
        unfold opWorst
        try first | rw [if_pos c1] | rw [if_neg c1] | rw [if_neg (not_not_intro c1)]
        try first | rw [if_pos c6] | rw [if_neg c6] | rw [if_neg (not_not_intro c6)]
        try rfl
      rw [e] at h; exact h _ (frC_sI (by decide)) (repCl_rfz hX (by decide) (by decide))
def opOnes (X : Sys) (x n w : Int32) : Int32 × Sys := if ¬ IN x (xS X).1 then rfX X 1 else if w < 0 then rfX X 5 else if ¬ w ≤ 1 then rfX X 5 else if ¬ IN n 25 then rfX X 6 else if w = 0 then ((itS (xS X) n.toNatClampNeg).2.2 x.toNatClampNeg 7, X) else ((itS (xS X) n.toNatClampNeg).2.2 x.toNatClampNeg 2, X)
set_option maxHeartbeats 4000000 in
set_option maxRecDepth 100000 in
theorem wp_X6_ones {E : Ev} {M : Mem} {Q : QT} (hW : Wi M) {X : Sys} (hX : RepCl M X) (hO : OkX X) {x n w : Int32} (h : ∀ M', FrC M M' → RepCl M' (opOnes X x n w).2 → Q (some (vI (opOnes X x n w).1)) M') : Mth E 7 0 0 kX6_ones [vR (0, 0, 0), vI x, vI n, vI w] M Q := by
  have hR0 := hX.1
  have hsz := hX.1.1
  have hs10 : (xS X).1 ≤ 10 := hO.1.1
  have hitn : ∀ j, (itS (xS X) j).1 ≤ 10 := fun j => (hO.1.it j).1
  refine mth_of (by decide +kernel) [some (vR (0, 0, 0)), some (vI x), some (vI n), some (vI w)] (Nat.le_of_ble_eq_true rfl) rfl ?_
  refine g_aloadR_n dX6_ones_0 rfl rfl ?_
  refine n_getR dX6_ones_1 fX6_10 rfl hW vld_x0 rfl rfl ?_
  refine g_iload_n dX6_ones_4 rfl rfl ?_
  refine n_v1i (n' := 0) dX6_ones_5 mX4_has lX6_116 rfl hW (vld_sc (by decide : 0 < 4)) rfl rfl ⟨Nat.le_of_ble_eq_true rfl, Nat.le_of_ble_eq_true rfl⟩ ⟨Nat.zero_le _, Nat.zero_le _⟩ (Nat.le_of_ble_eq_true rfl) ?_
  refine wp_X4_has (by exact hW) (by decide : 0 < 4) hsz hs10 ?_
  refine ⟨_, rfl, ?_⟩
  refine g_if_ne (tgt := 17) dX6_ones_8 (by decide) (fun c8 => ?_) (fun c8 => ?_)
  · simp only [b2_0, Decidable.not_not] at c8
    have hx := (IN_nI c8).2
    have px : pix x = x.toNatClampNeg := if_pos ⟨c8.1, by have := c8.2; omega⟩
    refine g_iload_n dX6_ones_17 rfl rfl ?_
    refine g_if_lt (tgt := 26) dX6_ones_18 (by decide) (fun c18 => ?_) (fun c18 => ?_)
    · refine g_aloadR_n dX6_ones_26 rfl rfl ?_
      refine g_bipush dX6_ones_27 (v := (-5)) (by decide) ?_
      refine n_v1i (n' := 0) dX6_ones_29 mX6_refuse lX6_66 rfl hW vld_x0 rfl rfl ⟨Nat.le_of_ble_eq_true rfl, Nat.le_of_ble_eq_true rfl⟩ ⟨Nat.zero_le _, Nat.zero_le _⟩ (Nat.le_of_ble_eq_true rfl) ?_
      refine wp_X6_refuse (j := 5) (by exact hW) (by decide) (by decide) ?_
      refine ⟨_, rfl, ?_⟩
      refine g_iret dX6_ones_32 rfl ?_
      have e : opOnes X x n w = rfX X 5 := by
        unfold opOnes
        try first | rw [if_pos c8] | rw [if_neg c8] | rw [if_neg (not_not_intro c8)]
        try first | rw [if_pos c18] | rw [if_neg c18] | rw [if_neg (not_not_intro c18)]
        try rfl
      rw [e] at h; exact h _ (frC_sI (by decide)) (repCl_rfz hX (by decide) (by decide))
    · refine g_iload_n dX6_ones_21 rfl rfl ?_
      refine g_iconst dX6_ones_22 (v := 1) (by decide) ?_
      refine g_icmp_le (tgt := 33) dX6_ones_23 (by decide) (fun c23 => ?_) (fun c23 => ?_)
      · refine g_iload_n dX6_ones_33 rfl rfl ?_
        refine n_s1i (n' := 0) dX6_ones_34 mX6_isStretch lX6_199 ⟨Nat.le_of_ble_eq_true rfl, Nat.le_of_ble_eq_true rfl⟩ ⟨Nat.zero_le _, Nat.zero_le _⟩ (Nat.le_of_ble_eq_true rfl) ?_
        refine wp_X6_isStretch ?_
        refine ⟨_, rfl, ?_⟩
        refine g_if_ne (tgt := 47) dX6_ones_37 (by decide) (fun c37 => ?_) (fun c37 => ?_)
        · simp only [b2_0, Decidable.not_not] at c37
          have hn1 := (IN_nI c37).1
          have hn24 : n.toNatClampNeg ≤ 24 := by have := (IN_nI c37).2; omega
          refine g_aloadR_n dX6_ones_47 rfl rfl ?_
          refine n_getR dX6_ones_48 fX6_16 rfl hW vld_x0 rfl rfl ?_
          refine g_aloadR_n dX6_ones_51 rfl rfl ?_
          refine n_getR dX6_ones_52 fX6_10 rfl hW vld_x0 rfl rfl ?_
          refine n_v1v (n' := 1) dX6_ones_55 mX4_become lX6_186 rfl hW (vld_sc (by decide : 1 < 4)) rfl rfl ⟨Nat.le_of_ble_eq_true rfl, Nat.le_of_ble_eq_true rfl⟩ ⟨Nat.zero_le _, Nat.zero_le _⟩ (Nat.le_of_ble_eq_true rfl) ?_
          refine wp_X4_become (by exact hW) (by decide : 1 < 4) (by decide : 0 < 4) (by decide) hR0 hO.1 (fun M4 hf4 hP4 => ?_)
          have hW4 := hf4.W hW
          have hd4 : FrI DX M M4 := hf4.mono Dk1_DX
          refine ⟨rfl, ?_⟩
          refine g_aloadR_n dX6_ones_58 rfl rfl ?_
          refine n_getR dX6_ones_59 fX6_25 rfl hW4 vld_x0 rfl rfl ?_
          refine g_aloadR_n dX6_ones_62 rfl rfl ?_
          refine n_getR dX6_ones_63 fX6_16 rfl hW4 vld_x0 rfl rfl ?_
          refine g_iload_n dX6_ones_66 rfl rfl ?_
          refine n_v2v (n' := 6) dX6_ones_67 mX1_watch lX6_202 rfl hW4 vld_x4 rfl rfl ⟨Nat.le_of_ble_eq_true rfl, Nat.le_of_ble_eq_true rfl⟩ ⟨Nat.zero_le _, Nat.zero_le _⟩ (Nat.le_of_ble_eq_true rfl) ?_
          rw [hn1]
          refine wp_X1_watch (by exact hW4) (by decide : 1 < 4) hP4 hO.1 (n := n.toNatClampNeg) hn24 (fun M5 hf5 hP5 ho5 => ?_)
          have hW5 := hf5.W (by exact hW4)
          have hd5 : FrI DX M M5 := hd4.tr (hf5.mono DW1_DX)
          refine ⟨rfl, ?_⟩
          refine g_iload_n dX6_ones_70 rfl rfl ?_
          refine g_if_ne (tgt := 88) dX6_ones_71 (by decide) (fun c71 => ?_) (fun c71 => ?_)
          · refine g_aloadR_n dX6_ones_88 rfl rfl ?_
            refine n_getR dX6_ones_89 fX6_16 rfl hW5 vld_x0 rfl rfl ?_
            refine g_iload_n dX6_ones_92 rfl rfl ?_
            refine n_v1r (n' := 0) dX6_ones_93 mX4_one lX6_129 rfl hW5 (vld_sc (by decide : 1 < 4)) rfl rfl ⟨Nat.le_of_ble_eq_true rfl, Nat.le_of_ble_eq_true rfl⟩ ⟨Nat.zero_le _, Nat.zero_le _⟩ (Nat.le_of_ble_eq_true rfl) ?_
            refine wp_X4_one (by exact hW5) (by decide : 1 < 4) ?_
            refine ⟨_, rfl, ?_⟩
            refine n_getI dX6_ones_96 fX6_230 rfl hW5 (vld_pe (by decide : 1 < 4) (pix_lt _)) (Or.inl rfl) ?_
            refine g_iret dX6_ones_99 rfl ?_
            have e : opOnes X x n w = ((itS (xS X) n.toNatClampNeg).2.2 x.toNatClampNeg 2, X) := by
              unfold opOnes
              try first | rw [if_pos c8] | rw [if_neg c8] | rw [if_neg (not_not_intro c8)]
              try first | rw [if_pos c18] | rw [if_neg c18] | rw [if_neg (not_not_intro c18)]
              try first | rw [if_pos c23] | rw [if_neg c23] | rw [if_neg (not_not_intro c23)]
              try first | rw [if_pos c37] | rw [if_neg c37] | rw [if_neg (not_not_intro c37)]
              try first | rw [if_pos c71] | rw [if_neg c71] | rw [if_neg (not_not_intro c71)]
              try rfl
            rw [e] at h
            rw [px, hP5.2.2 _ 2 (by rw [itS_n]; exact hx) (by decide)]
            exact h _ (frC_DX hd5) (hX.hd hd5)
          · refine g_aloadR_n dX6_ones_74 rfl rfl ?_
            refine n_getR dX6_ones_75 fX6_16 rfl hW5 vld_x0 rfl rfl ?_
            refine g_iload_n dX6_ones_78 rfl rfl ?_
            refine n_v1r (n' := 0) dX6_ones_79 mX4_one lX6_129 rfl hW5 (vld_sc (by decide : 1 < 4)) rfl rfl ⟨Nat.le_of_ble_eq_true rfl, Nat.le_of_ble_eq_true rfl⟩ ⟨Nat.zero_le _, Nat.zero_le _⟩ (Nat.le_of_ble_eq_true rfl) ?_
            refine wp_X4_one (by exact hW5) (by decide : 1 < 4) ?_
            refine ⟨_, rfl, ?_⟩
            refine n_getI dX6_ones_82 fX6_227 rfl hW5 (vld_pe (by decide : 1 < 4) (pix_lt _)) (Or.inl rfl) ?_
            refine g_goto (tgt := 99) dX6_ones_85 (by decide) ?_
            refine g_iret dX6_ones_99 rfl ?_
            have e : opOnes X x n w = ((itS (xS X) n.toNatClampNeg).2.2 x.toNatClampNeg 7, X) := by
              unfold opOnes
              try first | rw [if_pos c8] | rw [if_neg c8] | rw [if_neg (not_not_intro c8)]
              try first | rw [if_pos c18] | rw [if_neg c18] | rw [if_neg (not_not_intro c18)]
              try first | rw [if_pos c23] | rw [if_neg c23] | rw [if_neg (not_not_intro c23)]
              try first | rw [if_pos c37] | rw [if_neg c37] | rw [if_neg (not_not_intro c37)]
              try first | rw [if_pos c71] | rw [if_neg c71] | rw [if_neg (not_not_intro c71)]
              try rfl
            rw [e] at h
            rw [px, hP5.2.2 _ 7 (by rw [itS_n]; exact hx) (by decide)]
            exact h _ (frC_DX hd5) (hX.hd hd5)
        · simp only [b2_0, Decidable.not_not] at c37
          refine g_aloadR_n dX6_ones_40 rfl rfl ?_
          refine g_bipush dX6_ones_41 (v := (-6)) (by decide) ?_
          refine n_v1i (n' := 0) dX6_ones_43 mX6_refuse lX6_66 rfl hW vld_x0 rfl rfl ⟨Nat.le_of_ble_eq_true rfl, Nat.le_of_ble_eq_true rfl⟩ ⟨Nat.zero_le _, Nat.zero_le _⟩ (Nat.le_of_ble_eq_true rfl) ?_
          refine wp_X6_refuse (j := 6) (by exact hW) (by decide) (by decide) ?_
          refine ⟨_, rfl, ?_⟩
          refine g_iret dX6_ones_46 rfl ?_
          have e : opOnes X x n w = rfX X 6 := by
            unfold opOnes
            try first | rw [if_pos c8] | rw [if_neg c8] | rw [if_neg (not_not_intro c8)]
            try first | rw [if_pos c18] | rw [if_neg c18] | rw [if_neg (not_not_intro c18)]
            try first | rw [if_pos c23] | rw [if_neg c23] | rw [if_neg (not_not_intro c23)]
            try first | rw [if_pos c37] | rw [if_neg c37] | rw [if_neg (not_not_intro c37)]
            try rfl
          rw [e] at h; exact h _ (frC_sI (by decide)) (repCl_rfz hX (by decide) (by decide))
      · refine g_aloadR_n dX6_ones_26 rfl rfl ?_
        refine g_bipush dX6_ones_27 (v := (-5)) (by decide) ?_
        refine n_v1i (n' := 0) dX6_ones_29 mX6_refuse lX6_66 rfl hW vld_x0 rfl rfl ⟨Nat.le_of_ble_eq_true rfl, Nat.le_of_ble_eq_true rfl⟩ ⟨Nat.zero_le _, Nat.zero_le _⟩ (Nat.le_of_ble_eq_true rfl) ?_
        refine wp_X6_refuse (j := 5) (by exact hW) (by decide) (by decide) ?_
        refine ⟨_, rfl, ?_⟩
        refine g_iret dX6_ones_32 rfl ?_
        have e : opOnes X x n w = rfX X 5 := by
          unfold opOnes
          try first | rw [if_pos c8] | rw [if_neg c8] | rw [if_neg (not_not_intro c8)]
          try first | rw [if_pos c18] | rw [if_neg c18] | rw [if_neg (not_not_intro c18)]
          try first | rw [if_pos c23] | rw [if_neg c23] | rw [if_neg (not_not_intro c23)]
          try rfl
        rw [e] at h; exact h _ (frC_sI (by decide)) (repCl_rfz hX (by decide) (by decide))
  · simp only [b2_0, Decidable.not_not] at c8
    refine g_aloadR_n dX6_ones_11 rfl rfl ?_
    refine g_iconst dX6_ones_12 (v := (-1)) (by decide) ?_
    refine n_v1i (n' := 0) dX6_ones_13 mX6_refuse lX6_66 rfl hW vld_x0 rfl rfl ⟨Nat.le_of_ble_eq_true rfl, Nat.le_of_ble_eq_true rfl⟩ ⟨Nat.zero_le _, Nat.zero_le _⟩ (Nat.le_of_ble_eq_true rfl) ?_
    refine wp_X6_refuse (j := 1) (by exact hW) (by decide) (by decide) ?_
    refine ⟨_, rfl, ?_⟩
    refine g_iret dX6_ones_16 rfl ?_
    have e : opOnes X x n w = rfX X 1 := by
      unfold opOnes
      try first | rw [if_pos c8] | rw [if_neg c8] | rw [if_neg (not_not_intro c8)]
      try rfl
    rw [e] at h; exact h _ (frC_sI (by decide)) (repCl_rfz hX (by decide) (by decide))
def opLost (X : Sys) (n : Int32) : Int32 × Sys := if ¬ IN n 25 then rfX X 6 else (nI (presS (xS X)) &&& (nI (presS (itS (xS X) n.toNatClampNeg)) ^^^ (-1)), X)
set_option maxHeartbeats 4000000 in
set_option maxRecDepth 100000 in
theorem wp_X6_lost {E : Ev} {M : Mem} {Q : QT} (hW : Wi M) {X : Sys} (hX : RepCl M X) (hO : OkX X) {n : Int32} (h : ∀ M', FrC M M' → RepCl M' (opLost X n).2 → Q (some (vI (opLost X n).1)) M') : Mth E 7 0 0 kX6_lost [vR (0, 0, 0), vI n] M Q := by
  have hR0 := hX.1
  have hsz := hX.1.1
  have hs10 : (xS X).1 ≤ 10 := hO.1.1
  have hitn : ∀ j, (itS (xS X) j).1 ≤ 10 := fun j => (hO.1.it j).1
  refine mth_of (by decide +kernel) [some (vR (0, 0, 0)), some (vI n)] (Nat.le_of_ble_eq_true rfl) rfl ?_
  refine g_iload_n dX6_lost_0 rfl rfl ?_
  refine n_s1i (n' := 0) dX6_lost_1 mX6_isStretch lX6_199 ⟨Nat.le_of_ble_eq_true rfl, Nat.le_of_ble_eq_true rfl⟩ ⟨Nat.zero_le _, Nat.zero_le _⟩ (Nat.le_of_ble_eq_true rfl) ?_
  refine wp_X6_isStretch ?_
  refine ⟨_, rfl, ?_⟩
  refine g_if_ne (tgt := 14) dX6_lost_4 (by decide) (fun c4 => ?_) (fun c4 => ?_)
  · simp only [b2_0, Decidable.not_not] at c4
    have hn1 := (IN_nI c4).1
    have hn24 : n.toNatClampNeg ≤ 24 := by have := (IN_nI c4).2; omega
    refine g_aloadR_n dX6_lost_14 rfl rfl ?_
    refine n_getR dX6_lost_15 fX6_16 rfl hW vld_x0 rfl rfl ?_
    refine g_aloadR_n dX6_lost_18 rfl rfl ?_
    refine n_getR dX6_lost_19 fX6_10 rfl hW vld_x0 rfl rfl ?_
    refine n_v1v (n' := 1) dX6_lost_22 mX4_become lX6_186 rfl hW (vld_sc (by decide : 1 < 4)) rfl rfl ⟨Nat.le_of_ble_eq_true rfl, Nat.le_of_ble_eq_true rfl⟩ ⟨Nat.zero_le _, Nat.zero_le _⟩ (Nat.le_of_ble_eq_true rfl) ?_
    refine wp_X4_become (by exact hW) (by decide : 1 < 4) (by decide : 0 < 4) (by decide) hR0 hO.1 (fun M2 hf2 hP2 => ?_)
    have hW2 := hf2.W hW
    have hd2 : FrI DX M M2 := hf2.mono Dk1_DX
    refine ⟨rfl, ?_⟩
    refine g_aloadR_n dX6_lost_25 rfl rfl ?_
    refine n_getR dX6_lost_26 fX6_25 rfl hW2 vld_x0 rfl rfl ?_
    refine g_aloadR_n dX6_lost_29 rfl rfl ?_
    refine n_getR dX6_lost_30 fX6_16 rfl hW2 vld_x0 rfl rfl ?_
    refine g_iload_n dX6_lost_33 rfl rfl ?_
    refine n_v2v (n' := 6) dX6_lost_34 mX1_watch lX6_202 rfl hW2 vld_x4 rfl rfl ⟨Nat.le_of_ble_eq_true rfl, Nat.le_of_ble_eq_true rfl⟩ ⟨Nat.zero_le _, Nat.zero_le _⟩ (Nat.le_of_ble_eq_true rfl) ?_
    rw [hn1]
    refine wp_X1_watch (by exact hW2) (by decide : 1 < 4) hP2 hO.1 (n := n.toNatClampNeg) hn24 (fun M3 hf3 hP3 ho3 => ?_)
    have hW3 := hf3.W (by exact hW2)
    have hd3 : FrI DX M M3 := hd2.tr (hf3.mono DW1_DX)
    refine ⟨rfl, ?_⟩
    refine g_aloadR_n dX6_lost_37 rfl rfl ?_
    refine n_getR dX6_lost_38 fX6_10 rfl hW3 vld_x0 rfl rfl ?_
    refine n_v0i (n' := 1) dX6_lost_41 mX4_present lX6_206 rfl hW3 (vld_sc (by decide : 0 < 4)) rfl rfl ⟨Nat.le_of_ble_eq_true rfl, Nat.le_of_ble_eq_true rfl⟩ ⟨Nat.zero_le _, Nat.zero_le _⟩ (Nat.le_of_ble_eq_true rfl) ?_
    have hXl := hX.hd hd3
    refine wp_X4_present (by exact hW3) (by decide : 0 < 4) hXl.1 hs10 ?_
    refine ⟨_, rfl, ?_⟩
    refine g_aloadR_n dX6_lost_44 rfl rfl ?_
    refine n_getR dX6_lost_45 fX6_16 rfl hW3 vld_x0 rfl rfl ?_
    refine n_v0i (n' := 1) dX6_lost_48 mX4_present lX6_206 rfl hW3 (vld_sc (by decide : 1 < 4)) rfl rfl ⟨Nat.le_of_ble_eq_true rfl, Nat.le_of_ble_eq_true rfl⟩ ⟨Nat.zero_le _, Nat.zero_le _⟩ (Nat.le_of_ble_eq_true rfl) ?_
    refine wp_X4_present (by exact hW3) (by decide : 1 < 4) hP3 (hitn _) ?_
    refine ⟨_, rfl, ?_⟩
    refine g_iconst dX6_lost_51 (v := (-1)) (by decide) ?_
    refine g_ixor dX6_lost_52 ?_
    refine g_iand dX6_lost_53 ?_
    refine g_iret dX6_lost_54 rfl ?_
    have e : opLost X n = (nI (presS (xS X)) &&& (nI (presS (itS (xS X) n.toNatClampNeg)) ^^^ (-1)), X) := by
      unfold opLost
      try first | rw [if_pos c4] | rw [if_neg c4] | rw [if_neg (not_not_intro c4)]
      try rfl
    rw [e] at h
    exact h _ (frC_DX hd3) (hX.hd hd3)
  · simp only [b2_0, Decidable.not_not] at c4
    refine g_aloadR_n dX6_lost_7 rfl rfl ?_
    refine g_bipush dX6_lost_8 (v := (-6)) (by decide) ?_
    refine n_v1i (n' := 0) dX6_lost_10 mX6_refuse lX6_66 rfl hW vld_x0 rfl rfl ⟨Nat.le_of_ble_eq_true rfl, Nat.le_of_ble_eq_true rfl⟩ ⟨Nat.zero_le _, Nat.zero_le _⟩ (Nat.le_of_ble_eq_true rfl) ?_
    refine wp_X6_refuse (j := 6) (by exact hW) (by decide) (by decide) ?_
    refine ⟨_, rfl, ?_⟩
    refine g_iret dX6_lost_13 rfl ?_
    have e : opLost X n = rfX X 6 := by
      unfold opLost
      try first | rw [if_pos c4] | rw [if_neg c4] | rw [if_neg (not_not_intro c4)]
      try rfl
    rw [e] at h; exact h _ (frC_sI (by decide)) (repCl_rfz hX (by decide) (by decide))
def opPrice (X : Sys) (n : Int32) : Int32 × Sys := if ¬ IN n 25 then ((rfX X 6).1 - 1000, (rfX X 6).2) else (nI (seatSum (payS (xS X) 1) n.toNatClampNeg) - nI (seatSum (payS (xS X) 0) n.toNatClampNeg), X)
set_option maxHeartbeats 4000000 in
set_option maxRecDepth 100000 in
theorem wp_X6_price {E : Ev} {M : Mem} {Q : QT} (hW : Wi M) {X : Sys} (hX : RepCl M X) (hO : OkX X) {n : Int32} (h : ∀ M', FrC M M' → RepCl M' (opPrice X n).2 → Q (some (vI (opPrice X n).1)) M') : Mth E 7 0 0 kX6_price [vR (0, 0, 0), vI n] M Q := by
  have hR0 := hX.1
  have hsz := hX.1.1
  have hs10 : (xS X).1 ≤ 10 := hO.1.1
  have hitn : ∀ j, (itS (xS X) j).1 ≤ 10 := fun j => (hO.1.it j).1
  refine mth_of (by decide +kernel) [some (vR (0, 0, 0)), some (vI n), none] (Nat.le_of_ble_eq_true rfl) rfl ?_
  refine g_iload_n dX6_price_0 rfl rfl ?_
  refine n_s1i (n' := 0) dX6_price_1 mX6_isStretch lX6_199 ⟨Nat.le_of_ble_eq_true rfl, Nat.le_of_ble_eq_true rfl⟩ ⟨Nat.zero_le _, Nat.zero_le _⟩ (Nat.le_of_ble_eq_true rfl) ?_
  refine wp_X6_isStretch ?_
  refine ⟨_, rfl, ?_⟩
  refine g_if_ne (tgt := 18) dX6_price_4 (by decide) (fun c4 => ?_) (fun c4 => ?_)
  · simp only [b2_0, Decidable.not_not] at c4
    have hn1 := (IN_nI c4).1
    have hn24 : n.toNatClampNeg ≤ 24 := by have := (IN_nI c4).2; omega
    refine g_aloadR_n dX6_price_18 rfl rfl ?_
    refine n_getR dX6_price_19 fX6_16 rfl hW vld_x0 rfl rfl ?_
    refine g_aloadR_n dX6_price_22 rfl rfl ?_
    refine n_getR dX6_price_23 fX6_10 rfl hW vld_x0 rfl rfl ?_
    refine n_v1v (n' := 1) dX6_price_26 mX4_become lX6_186 rfl hW (vld_sc (by decide : 1 < 4)) rfl rfl ⟨Nat.le_of_ble_eq_true rfl, Nat.le_of_ble_eq_true rfl⟩ ⟨Nat.zero_le _, Nat.zero_le _⟩ (Nat.le_of_ble_eq_true rfl) ?_
    refine wp_X4_become (by exact hW) (by decide : 1 < 4) (by decide : 0 < 4) (by decide) hR0 hO.1 (fun M2 hf2 hP2 => ?_)
    have hW2 := hf2.W hW
    have hd2 : FrI DX M M2 := hf2.mono Dk1_DX
    refine ⟨rfl, ?_⟩
    refine g_aloadR_n dX6_price_29 rfl rfl ?_
    refine n_getR dX6_price_30 fX6_16 rfl hW2 vld_x0 rfl rfl ?_
    refine g_iconst dX6_price_33 (v := 1) (by decide) ?_
    refine n_v1v (n' := 1) dX6_price_34 mX4_payForAll lX6_239 rfl hW2 (vld_sc (by decide : 1 < 4)) rfl rfl ⟨Nat.le_of_ble_eq_true rfl, Nat.le_of_ble_eq_true rfl⟩ ⟨Nat.zero_le _, Nat.zero_le _⟩ (Nat.le_of_ble_eq_true rfl) ?_
    refine wp_X4_payForAll (by exact hW2) (by decide : 1 < 4) hP2 hs10 (Or.inr rfl) (fun M3 hf3 hP3 => ?_)
    have hW3 := hf3.W (by exact hW2)
    have hd3 : FrI DX M M3 := hd2.tr (hf3.mono Dk1_DX)
    refine ⟨rfl, ?_⟩
    refine g_aloadR_n dX6_price_37 rfl rfl ?_
    refine n_getR dX6_price_38 fX6_25 rfl hW3 vld_x0 rfl rfl ?_
    refine g_aloadR_n dX6_price_41 rfl rfl ?_
    refine n_getR dX6_price_42 fX6_16 rfl hW3 vld_x0 rfl rfl ?_
    refine g_iload_n dX6_price_45 rfl rfl ?_
    refine n_v2v (n' := 6) dX6_price_46 mX1_watch lX6_202 rfl hW3 vld_x4 rfl rfl ⟨Nat.le_of_ble_eq_true rfl, Nat.le_of_ble_eq_true rfl⟩ ⟨Nat.zero_le _, Nat.zero_le _⟩ (Nat.le_of_ble_eq_true rfl) ?_
    rw [hn1]
    refine wp_X1_watch (by exact hW3) (by decide : 1 < 4) hP3 (hO.1.pay (Or.inr rfl)) (n := n.toNatClampNeg) hn24 (fun M4 hf4 hP4 ho4 => ?_)
    have hW4 := hf4.W (by exact hW3)
    have hd4 : FrI DX M M4 := hd3.tr (hf4.mono DW1_DX)
    refine ⟨rfl, ?_⟩
    refine g_aloadR_n dX6_price_49 rfl rfl ?_
    refine n_getR dX6_price_50 fX6_25 rfl hW4 vld_x0 rfl rfl ?_
    refine n_getI dX6_price_53 fX6_215 rfl hW4 vld_x4 (Or.inl rfl) ?_
    refine g_istore_2 dX6_price_56 rfl ?_
    refine g_aloadR_n dX6_price_57 rfl rfl ?_
    refine n_getR dX6_price_58 fX6_16 rfl hW4 vld_x0 rfl rfl ?_
    refine g_aloadR_n dX6_price_61 rfl rfl ?_
    refine n_getR dX6_price_62 fX6_10 rfl hW4 vld_x0 rfl rfl ?_
    refine n_v1v (n' := 1) dX6_price_65 mX4_become lX6_186 rfl hW4 (vld_sc (by decide : 1 < 4)) rfl rfl ⟨Nat.le_of_ble_eq_true rfl, Nat.le_of_ble_eq_true rfl⟩ ⟨Nat.zero_le _, Nat.zero_le _⟩ (Nat.le_of_ble_eq_true rfl) ?_
    have hXm := hX.hd hd4
    refine wp_X4_become (by exact hW4) (by decide : 1 < 4) (by decide : 0 < 4) (by decide) hXm.1 hO.1 (fun M5 hf5 hP5 => ?_)
    have hW5 := hf5.W (by exact hW4)
    have hd5 : FrI DX M M5 := hd4.tr (hf5.mono Dk1_DX)
    refine ⟨rfl, ?_⟩
    refine g_aloadR_n dX6_price_68 rfl rfl ?_
    refine n_getR dX6_price_69 fX6_16 rfl hW5 vld_x0 rfl rfl ?_
    refine g_iconst dX6_price_72 (v := 0) (by decide) ?_
    refine n_v1v (n' := 1) dX6_price_73 mX4_payForAll lX6_239 rfl hW5 (vld_sc (by decide : 1 < 4)) rfl rfl ⟨Nat.le_of_ble_eq_true rfl, Nat.le_of_ble_eq_true rfl⟩ ⟨Nat.zero_le _, Nat.zero_le _⟩ (Nat.le_of_ble_eq_true rfl) ?_
    refine wp_X4_payForAll (by exact hW5) (by decide : 1 < 4) hP5 hs10 (Or.inl rfl) (fun M6 hf6 hP6 => ?_)
    have hW6 := hf6.W (by exact hW5)
    have hd6 : FrI DX M M6 := hd5.tr (hf6.mono Dk1_DX)
    refine ⟨rfl, ?_⟩
    refine g_aloadR_n dX6_price_76 rfl rfl ?_
    refine n_getR dX6_price_77 fX6_25 rfl hW6 vld_x0 rfl rfl ?_
    refine g_aloadR_n dX6_price_80 rfl rfl ?_
    refine n_getR dX6_price_81 fX6_16 rfl hW6 vld_x0 rfl rfl ?_
    refine g_iload_n dX6_price_84 rfl rfl ?_
    refine n_v2v (n' := 6) dX6_price_85 mX1_watch lX6_202 rfl hW6 vld_x4 rfl rfl ⟨Nat.le_of_ble_eq_true rfl, Nat.le_of_ble_eq_true rfl⟩ ⟨Nat.zero_le _, Nat.zero_le _⟩ (Nat.le_of_ble_eq_true rfl) ?_
    refine wp_X1_watch (by exact hW6) (by decide : 1 < 4) hP6 (hO.1.pay (Or.inl rfl)) (n := n.toNatClampNeg) hn24 (fun M7 hf7 hP7 ho7 => ?_)
    have hW7 := hf7.W (by exact hW6)
    have hd7 : FrI DX M M7 := hd6.tr (hf7.mono DW1_DX)
    refine ⟨rfl, ?_⟩
    refine g_iload_n dX6_price_88 rfl rfl ?_
    refine g_aloadR_n dX6_price_89 rfl rfl ?_
    refine n_getR dX6_price_90 fX6_25 rfl hW7 vld_x0 rfl rfl ?_
    refine n_getI dX6_price_93 fX6_215 rfl hW7 vld_x4 (Or.inl rfl) ?_
    refine g_isub dX6_price_96 ?_
    refine g_iret dX6_price_97 rfl ?_
    have e : opPrice X n = (nI (seatSum (payS (xS X) 1) n.toNatClampNeg) - nI (seatSum (payS (xS X) 0) n.toNatClampNeg), X) := by
      unfold opPrice
      try first | rw [if_pos c4] | rw [if_neg c4] | rw [if_neg (not_not_intro c4)]
      try rfl
    rw [e] at h
    rw [ho4.1, ho7.1]
    exact h _ (frC_DX hd7) (hX.hd hd7)
  · simp only [b2_0, Decidable.not_not] at c4
    refine g_aloadR_n dX6_price_7 rfl rfl ?_
    refine g_bipush dX6_price_8 (v := (-6)) (by decide) ?_
    refine n_v1i (n' := 0) dX6_price_10 mX6_refuse lX6_66 rfl hW vld_x0 rfl rfl ⟨Nat.le_of_ble_eq_true rfl, Nat.le_of_ble_eq_true rfl⟩ ⟨Nat.zero_le _, Nat.zero_le _⟩ (Nat.le_of_ble_eq_true rfl) ?_
    refine wp_X6_refuse (j := 6) (by exact hW) (by decide) (by decide) ?_
    refine ⟨_, rfl, ?_⟩
    refine g_sipush dX6_price_13 (v := 1000) (by decide) ?_
    refine g_isub dX6_price_16 ?_
    refine g_iret dX6_price_17 rfl ?_
    have e : opPrice X n = ((rfX X 6).1 - 1000, (rfX X 6).2) := by
      unfold opPrice
      try first | rw [if_pos c4] | rw [if_neg c4] | rw [if_neg (not_not_intro c4)]
      try rfl
    rw [e] at h; exact h _ (frC_sI (by decide)) (repCl_rfz hX (by decide) (by decide))
theorem D2_lt : ∀ b j, 20 ≤ b.1 → ¬ Dk 2 b j := D_lt.1
theorem RepCl.img {M M' : Mem} {X : Sys} (h : RepCl M X) (hf : FrI (Dk 2) M M') (hP : RepC M' 2 (xS X)) : RepCl (sI M' (0, 0, 0) 3 1) (setI X (some (xS X))) := by
  obtain ⟨h1, h2, h3, h4, h5, h6, h7⟩ := h
  have hI : ∀ b : Id, b.1 ≠ 1 → b.1 ≠ 2 → b ≠ (0, 0, 0) → mI (sI M' (0, 0, 0) 3 1) b = mI M b := fun b a c d => ((sI_hk b d).1).trans (funext fun j => hf.2 b j (fun q => by rcases q.1 with q | q <;> contradiction))
  have hJ : ∀ b, mJ (sI M' (0, 0, 0) 3 1) b = mJ M b := fun b => by show mJ M' b = mJ M b; unfold mJ; rw [hf.1]
  have h0 : mI (sI M' (0, 0, 0) 3 1) (0, 0, 0) 10 = mI M (0, 0, 0) 10 := by simp only [mI, sI]; rw [if_neg (by simp)]; exact hf.2 _ _ (fun q => by rcases q.1 with q | q <;> cases q)
  have hk : ∀ k S, RepC M' k S → RepC (sI M' (0, 0, 0) 3 1) k S := fun k S hS => hS.same (sI_hk _ (by intro q; cases q)).1 (fun i f _ => congrFun (sI_hk _ (by intro q; cases q)).1 f)
  exact ⟨hk 0 _ (h1.fr hf (Dk_ne (by decide)).1 (Dk_ne (by decide)).2), ⟨by simp [mI, sI], hk 2 _ hP⟩, fun s hs => (h3 s hs).same (hI _ (by simp) (by simp) (by intro q; cases q)) (hJ _), h4.same (hI _ (by simp) (by simp) (by intro q; cases q)) (hJ _), fun j a b => by rw [hI _ (by simp) (by simp) (by intro q; cases q)]; exact h5 j a b, h0.trans h6, h7.same (by rw [hI _ (by simp) (by simp) (by intro q; cases q)]) (hI _ (by simp) (by simp) (by intro q; cases q))⟩
def opImage (X : Sys) : Int32 × Sys := (nI (xS X).1, setI X (some (xS X)))
set_option maxHeartbeats 4000000 in
set_option maxRecDepth 100000 in
theorem wp_X6_image {E : Ev} {M : Mem} {Q : QT} (hW : Wi M) {X : Sys} (hX : RepCl M X) (hO : OkX X) (h : ∀ M', FrC M M' → RepCl M' (opImage X).2 → Q (some (vI (opImage X).1)) M') : Mth E 2 0 0 kX6_image [vR (0, 0, 0)] M Q := by
  have hR0 := hX.1
  have hsz := hX.1.1
  have hs10 : (xS X).1 ≤ 10 := hO.1.1
  refine mth_of (by decide +kernel) [some (vR (0, 0, 0))] (Nat.le_of_ble_eq_true rfl) rfl ?_
  refine g_aloadR_n dX6_image_0 rfl rfl ?_
  refine n_getR dX6_image_1 fX6_19 rfl hW vld_x0 rfl rfl ?_
  refine g_aloadR_n dX6_image_4 rfl rfl ?_
  refine n_getR dX6_image_5 fX6_10 rfl hW vld_x0 rfl rfl ?_
  refine n_v1v (n' := 1) dX6_image_8 mX4_become lX6_186 rfl hW (vld_sc (by decide : 2 < 4)) rfl rfl ⟨Nat.le_of_ble_eq_true rfl, Nat.le_of_ble_eq_true rfl⟩ ⟨Nat.zero_le _, Nat.zero_le _⟩ (Nat.le_of_ble_eq_true rfl) ?_
  refine wp_X4_become (by exact hW) (by decide : 2 < 4) (by decide : 0 < 4) (by decide) hR0 hO.1 (fun M1 hf1 hP1 => ?_)
  have hW1 := hf1.W hW
  refine ⟨rfl, ?_⟩
  refine g_aloadR_n dX6_image_11 rfl rfl ?_
  refine g_iconst dX6_image_12 (v := 1) (by decide) ?_
  refine n_putZ dX6_image_13 fX6_276 rfl hW1 vld_x0 rfl (Or.inr rfl) ?_
  refine g_aloadR_n dX6_image_16 rfl rfl ?_
  refine n_getR dX6_image_17 fX6_10 rfl hW1 vld_x0 rfl rfl ?_
  refine n_getI dX6_image_20 fX6_233 rfl hW1 (vld_sc (by decide : 0 < 4)) (Or.inl rfl) ?_
  refine g_iret dX6_image_23 rfl ?_
  have hi := hX.img hf1 hP1
  rw [hi.1.1]
  exact h _ ((FrC.of hf1 D_lt.1).tr (frC_sI (show 0 < 20 by decide))) hi
