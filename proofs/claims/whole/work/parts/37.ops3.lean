/-! THE CLASS'S OWN METHODS: THE SCHOOL -/
def opPerson (X : Sys) (kd a ow pd : Int32) : Int32 × Sys := if ¬ IN kd 7 then rfX X 1 else if a < 0 then rfX X 6 else if 9 < a then rfX X 6 else if ow < 0 then rfX X 6 else if ¬ ow ≤ 20 then rfX X 6 else if (xS X).1 = 10 then rfX X 7 else (nI (xS X).1, setS X (enrS (xS X) kd a ow pd))
set_option maxHeartbeats 4000000 in
set_option maxRecDepth 100000 in
theorem wp_X6_person {E : Ev} {M : Mem} {Q : QT} (hW : Wi M) {X : Sys} (hX : RepCl M X) (hO : OkX X) {kd a ow pd : Int32} (hpd : pd = 0 ∨ pd = 1) (h : ∀ M', FrC M M' → RepCl M' (opPerson X kd a ow pd).2 → Q (some (vI (opPerson X kd a ow pd).1)) M') : Mth E 2 0 0 kX6_person [vR (0, 0, 0), vI kd, vI a, vI ow, vI pd] M Q := by
  have hR0 := hX.1
  have hsz := hX.1.1
  have hs10 : (xS X).1 ≤ 10 := hO.1.1
  refine mth_of (by decide +kernel) [some (vR (0, 0, 0)), some (vI kd), some (vI a), some (vI ow), some (vI pd)] (Nat.le_of_ble_eq_true rfl) rfl ?_
  refine g_iload_n dX6_person_0 rfl rfl ?_
  refine n_s1i (n' := 0) dX6_person_1 mX6_isKind lX6_126 ⟨Nat.le_of_ble_eq_true rfl, Nat.le_of_ble_eq_true rfl⟩ ⟨Nat.zero_le _, Nat.zero_le _⟩ (Nat.le_of_ble_eq_true rfl) ?_
  refine wp_X6_isKind ?_
  refine ⟨_, rfl, ?_⟩
  refine g_if_ne (tgt := 13) dX6_person_4 (by decide) (fun c4 => ?_) (fun c4 => ?_)
  · simp only [b2_0, Decidable.not_not] at c4
    refine g_iload_n dX6_person_13 rfl rfl ?_
    refine g_if_lt (tgt := 33) dX6_person_14 (by decide) (fun c14 => ?_) (fun c14 => ?_)
    · refine g_aloadR_n dX6_person_33 rfl rfl ?_
      refine g_bipush dX6_person_34 (v := (-6)) (by decide) ?_
      refine n_v1i (n' := 0) dX6_person_36 mX6_refuse lX6_66 rfl hW vld_x0 rfl rfl ⟨Nat.le_of_ble_eq_true rfl, Nat.le_of_ble_eq_true rfl⟩ ⟨Nat.zero_le _, Nat.zero_le _⟩ (Nat.le_of_ble_eq_true rfl) ?_
      refine wp_X6_refuse (j := 6) (by exact hW) (by decide) (by decide) ?_
      refine ⟨_, rfl, ?_⟩
      refine g_iret dX6_person_39 rfl ?_
      have e : opPerson X kd a ow pd = rfX X 6 := by
        unfold opPerson
        try first | rw [if_pos c4] | rw [if_neg c4] | rw [if_neg (not_not_intro c4)]
        try first | rw [if_pos c14] | rw [if_neg c14] | rw [if_neg (not_not_intro c14)]
        try rfl
      rw [e] at h; exact h _ (frC_sI (by decide)) (repCl_rfz hX (by decide) (by decide))
    · refine g_iload_n dX6_person_17 rfl rfl ?_
      refine g_bipush dX6_person_18 (v := 9) (by decide) ?_
      refine g_icmp_gt (tgt := 33) dX6_person_20 (by decide) (fun c20 => ?_) (fun c20 => ?_)
      · refine g_aloadR_n dX6_person_33 rfl rfl ?_
        refine g_bipush dX6_person_34 (v := (-6)) (by decide) ?_
        refine n_v1i (n' := 0) dX6_person_36 mX6_refuse lX6_66 rfl hW vld_x0 rfl rfl ⟨Nat.le_of_ble_eq_true rfl, Nat.le_of_ble_eq_true rfl⟩ ⟨Nat.zero_le _, Nat.zero_le _⟩ (Nat.le_of_ble_eq_true rfl) ?_
        refine wp_X6_refuse (j := 6) (by exact hW) (by decide) (by decide) ?_
        refine ⟨_, rfl, ?_⟩
        refine g_iret dX6_person_39 rfl ?_
        have e : opPerson X kd a ow pd = rfX X 6 := by
          unfold opPerson
          try first | rw [if_pos c4] | rw [if_neg c4] | rw [if_neg (not_not_intro c4)]
          try first | rw [if_pos c14] | rw [if_neg c14] | rw [if_neg (not_not_intro c14)]
          try first | rw [if_pos c20] | rw [if_neg c20] | rw [if_neg (not_not_intro c20)]
          try rfl
        rw [e] at h; exact h _ (frC_sI (by decide)) (repCl_rfz hX (by decide) (by decide))
      · refine g_iload_n dX6_person_23 rfl rfl ?_
        refine g_if_lt (tgt := 33) dX6_person_24 (by decide) (fun c24 => ?_) (fun c24 => ?_)
        · refine g_aloadR_n dX6_person_33 rfl rfl ?_
          refine g_bipush dX6_person_34 (v := (-6)) (by decide) ?_
          refine n_v1i (n' := 0) dX6_person_36 mX6_refuse lX6_66 rfl hW vld_x0 rfl rfl ⟨Nat.le_of_ble_eq_true rfl, Nat.le_of_ble_eq_true rfl⟩ ⟨Nat.zero_le _, Nat.zero_le _⟩ (Nat.le_of_ble_eq_true rfl) ?_
          refine wp_X6_refuse (j := 6) (by exact hW) (by decide) (by decide) ?_
          refine ⟨_, rfl, ?_⟩
          refine g_iret dX6_person_39 rfl ?_
          have e : opPerson X kd a ow pd = rfX X 6 := by
            unfold opPerson
            try first | rw [if_pos c4] | rw [if_neg c4] | rw [if_neg (not_not_intro c4)]
            try first | rw [if_pos c14] | rw [if_neg c14] | rw [if_neg (not_not_intro c14)]
            try first | rw [if_pos c20] | rw [if_neg c20] | rw [if_neg (not_not_intro c20)]
            try first | rw [if_pos c24] | rw [if_neg c24] | rw [if_neg (not_not_intro c24)]
            try rfl
          rw [e] at h; exact h _ (frC_sI (by decide)) (repCl_rfz hX (by decide) (by decide))
        · refine g_iload_n dX6_person_27 rfl rfl ?_
          refine g_bipush dX6_person_28 (v := 20) (by decide) ?_
          refine g_icmp_le (tgt := 40) dX6_person_30 (by decide) (fun c30 => ?_) (fun c30 => ?_)
          · refine g_aloadR_n dX6_person_40 rfl rfl ?_
            refine n_getR dX6_person_41 fX6_10 rfl hW vld_x0 rfl rfl ?_
            refine n_v0i (n' := 0) dX6_person_44 mX4_isFull lX6_144 rfl hW (vld_sc (by decide : 0 < 4)) rfl rfl ⟨Nat.le_of_ble_eq_true rfl, Nat.le_of_ble_eq_true rfl⟩ ⟨Nat.zero_le _, Nat.zero_le _⟩ (Nat.le_of_ble_eq_true rfl) ?_
            refine wp_X4_isFull (by exact hW) (by decide : 0 < 4) hsz hs10 ?_
            refine ⟨_, rfl, ?_⟩
            refine g_if_eq (tgt := 57) dX6_person_47 (by decide) (fun c47 => ?_) (fun c47 => ?_)
            · simp only [b2_0, Decidable.not_not] at c47
              refine g_aloadR_n dX6_person_57 rfl rfl ?_
              refine n_getR dX6_person_58 fX6_10 rfl hW vld_x0 rfl rfl ?_
              refine g_iload_n dX6_person_61 rfl rfl ?_
              refine g_iload_n dX6_person_62 rfl rfl ?_
              refine g_iload_n dX6_person_63 rfl rfl ?_
              refine g_iload dX6_person_64 rfl ?_
              refine n_v4i (n' := 1) dX6_person_66 mX4_enrol lX6_147 rfl hW (vld_sc (by decide : 0 < 4)) rfl rfl ⟨Nat.le_of_ble_eq_true rfl, Nat.le_of_ble_eq_true rfl⟩ ⟨Nat.zero_le _, Nat.zero_le _⟩ (Nat.le_of_ble_eq_true rfl) ?_
              refine wp_X4_enrol (by exact hW) (by decide : 0 < 4) (kd := kd) (a := a) (ow := ow) (pd := pd) hR0 (by omega) hpd (fun M' hf' hR' => ?_)
              refine ⟨_, rfl, ?_⟩
              refine g_iret dX6_person_69 rfl ?_
              have e : opPerson X kd a ow pd = (nI (xS X).1, setS X (enrS (xS X) kd a ow pd)) := by
                unfold opPerson
                try first | rw [if_pos c4] | rw [if_neg c4] | rw [if_neg (not_not_intro c4)]
                try first | rw [if_pos c14] | rw [if_neg c14] | rw [if_neg (not_not_intro c14)]
                try first | rw [if_pos c20] | rw [if_neg c20] | rw [if_neg (not_not_intro c20)]
                try first | rw [if_pos c24] | rw [if_neg c24] | rw [if_neg (not_not_intro c24)]
                try first | rw [if_pos c30] | rw [if_neg c30] | rw [if_neg (not_not_intro c30)]
                try first | rw [if_pos c47] | rw [if_neg c47] | rw [if_neg (not_not_intro c47)]
                try rfl
              rw [e] at h
              exact h M' (frC_Dk hf') (hX.now hf' hR')
            · simp only [b2_0, Decidable.not_not] at c47
              refine g_aloadR_n dX6_person_50 rfl rfl ?_
              refine g_bipush dX6_person_51 (v := (-7)) (by decide) ?_
              refine n_v1i (n' := 0) dX6_person_53 mX6_refuse lX6_66 rfl hW vld_x0 rfl rfl ⟨Nat.le_of_ble_eq_true rfl, Nat.le_of_ble_eq_true rfl⟩ ⟨Nat.zero_le _, Nat.zero_le _⟩ (Nat.le_of_ble_eq_true rfl) ?_
              refine wp_X6_refuse (j := 7) (by exact hW) (by decide) (by decide) ?_
              refine ⟨_, rfl, ?_⟩
              refine g_iret dX6_person_56 rfl ?_
              have e : opPerson X kd a ow pd = rfX X 7 := by
                unfold opPerson
                try first | rw [if_pos c4] | rw [if_neg c4] | rw [if_neg (not_not_intro c4)]
                try first | rw [if_pos c14] | rw [if_neg c14] | rw [if_neg (not_not_intro c14)]
                try first | rw [if_pos c20] | rw [if_neg c20] | rw [if_neg (not_not_intro c20)]
                try first | rw [if_pos c24] | rw [if_neg c24] | rw [if_neg (not_not_intro c24)]
                try first | rw [if_pos c30] | rw [if_neg c30] | rw [if_neg (not_not_intro c30)]
                try first | rw [if_pos c47] | rw [if_neg c47] | rw [if_neg (not_not_intro c47)]
                try rfl
              rw [e] at h; exact h _ (frC_sI (by decide)) (repCl_rfz hX (by decide) (by decide))
          · refine g_aloadR_n dX6_person_33 rfl rfl ?_
            refine g_bipush dX6_person_34 (v := (-6)) (by decide) ?_
            refine n_v1i (n' := 0) dX6_person_36 mX6_refuse lX6_66 rfl hW vld_x0 rfl rfl ⟨Nat.le_of_ble_eq_true rfl, Nat.le_of_ble_eq_true rfl⟩ ⟨Nat.zero_le _, Nat.zero_le _⟩ (Nat.le_of_ble_eq_true rfl) ?_
            refine wp_X6_refuse (j := 6) (by exact hW) (by decide) (by decide) ?_
            refine ⟨_, rfl, ?_⟩
            refine g_iret dX6_person_39 rfl ?_
            have e : opPerson X kd a ow pd = rfX X 6 := by
              unfold opPerson
              try first | rw [if_pos c4] | rw [if_neg c4] | rw [if_neg (not_not_intro c4)]
              try first | rw [if_pos c14] | rw [if_neg c14] | rw [if_neg (not_not_intro c14)]
              try first | rw [if_pos c20] | rw [if_neg c20] | rw [if_neg (not_not_intro c20)]
              try first | rw [if_pos c24] | rw [if_neg c24] | rw [if_neg (not_not_intro c24)]
              try first | rw [if_pos c30] | rw [if_neg c30] | rw [if_neg (not_not_intro c30)]
              try rfl
            rw [e] at h; exact h _ (frC_sI (by decide)) (repCl_rfz hX (by decide) (by decide))
  · simp only [b2_0, Decidable.not_not] at c4
    refine g_aloadR_n dX6_person_7 rfl rfl ?_
    refine g_iconst dX6_person_8 (v := (-1)) (by decide) ?_
    refine n_v1i (n' := 0) dX6_person_9 mX6_refuse lX6_66 rfl hW vld_x0 rfl rfl ⟨Nat.le_of_ble_eq_true rfl, Nat.le_of_ble_eq_true rfl⟩ ⟨Nat.zero_le _, Nat.zero_le _⟩ (Nat.le_of_ble_eq_true rfl) ?_
    refine wp_X6_refuse (j := 1) (by exact hW) (by decide) (by decide) ?_
    refine ⟨_, rfl, ?_⟩
    refine g_iret dX6_person_12 rfl ?_
    have e : opPerson X kd a ow pd = rfX X 1 := by
      unfold opPerson
      try first | rw [if_pos c4] | rw [if_neg c4] | rw [if_neg (not_not_intro c4)]
      try rfl
    rw [e] at h; exact h _ (frC_sI (by decide)) (repCl_rfz hX (by decide) (by decide))
def mateI (X : Sys) (x : Int32) : Int32 := (xS X).2.2 x.toNatClampNeg 4
def opFriend (X : Sys) (x y : Int32) : Int32 × Sys := if ¬ IN x (xS X).1 then ((rfX X 1).1 - 10, (rfX X 1).2) else if ¬ (y = -1 ∨ IN y (xS X).1) then ((rfX X 1).1 - 10, (rfX X 1).2) else if x = y then ((rfX X 6).1 - 10, (rfX X 6).2) else (mateI X x, setS X (upS (xS X) x.toNatClampNeg 4 y))
set_option maxHeartbeats 4000000 in
set_option maxRecDepth 100000 in
theorem wp_X6_friend {E : Ev} {M : Mem} {Q : QT} (hW : Wi M) {X : Sys} (hX : RepCl M X) (hO : OkX X) {x y : Int32} (h : ∀ M', FrC M M' → RepCl M' (opFriend X x y).2 → Q (some (vI (opFriend X x y).1)) M') : Mth E 2 0 0 kX6_friend [vR (0, 0, 0), vI x, vI y] M Q := by
  have hR0 := hX.1
  have hsz := hX.1.1
  have hs10 : (xS X).1 ≤ 10 := hO.1.1
  refine mth_of (by decide +kernel) [some (vR (0, 0, 0)), some (vI x), some (vI y), none] (Nat.le_of_ble_eq_true rfl) rfl ?_
  refine g_aloadR_n dX6_friend_0 rfl rfl ?_
  refine n_getR dX6_friend_1 fX6_10 rfl hW vld_x0 rfl rfl ?_
  refine g_iload_n dX6_friend_4 rfl rfl ?_
  refine n_v1i (n' := 0) dX6_friend_5 mX4_has lX6_116 rfl hW (vld_sc (by decide : 0 < 4)) rfl rfl ⟨Nat.le_of_ble_eq_true rfl, Nat.le_of_ble_eq_true rfl⟩ ⟨Nat.zero_le _, Nat.zero_le _⟩ (Nat.le_of_ble_eq_true rfl) ?_
  refine wp_X4_has (by exact hW) (by decide : 0 < 4) hsz hs10 ?_
  refine ⟨_, rfl, ?_⟩
  refine g_if_eq (tgt := 27) dX6_friend_8 (by decide) (fun c8 => ?_) (fun c8 => ?_)
  · simp only [b2_0, Decidable.not_not] at c8
    refine g_aloadR_n dX6_friend_27 rfl rfl ?_
    refine g_iconst dX6_friend_28 (v := (-1)) (by decide) ?_
    refine n_v1i (n' := 0) dX6_friend_29 mX6_refuse lX6_66 rfl hW vld_x0 rfl rfl ⟨Nat.le_of_ble_eq_true rfl, Nat.le_of_ble_eq_true rfl⟩ ⟨Nat.zero_le _, Nat.zero_le _⟩ (Nat.le_of_ble_eq_true rfl) ?_
    refine wp_X6_refuse (j := 1) (by exact hW) (by decide) (by decide) ?_
    refine ⟨_, rfl, ?_⟩
    refine g_bipush dX6_friend_32 (v := 10) (by decide) ?_
    refine g_isub dX6_friend_34 ?_
    refine g_iret dX6_friend_35 rfl ?_
    have e : opFriend X x y = ((rfX X 1).1 - 10, (rfX X 1).2) := by
      unfold opFriend
      try first | rw [if_pos c8] | rw [if_neg c8] | rw [if_neg (not_not_intro c8)]
      try rfl
    rw [e] at h; exact h _ (frC_sI (by decide)) (repCl_rfz hX (by decide) (by decide))
  · simp only [b2_0, Decidable.not_not] at c8
    have hx := (IN_nI c8).2
    have px : pix x = x.toNatClampNeg := if_pos ⟨c8.1, by have := c8.2; omega⟩
    refine g_iload_n dX6_friend_11 rfl rfl ?_
    refine g_iconst dX6_friend_12 (v := (-1)) (by decide) ?_
    refine g_icmp_eq (tgt := 36) dX6_friend_13 (by decide) (fun c13 => ?_) (fun c13 => ?_)
    · have c13 : y = -1 ∨ IN y (xS X).1 := Or.inl c13
      refine g_iload_n dX6_friend_36 rfl rfl ?_
      refine g_iload_n dX6_friend_37 rfl rfl ?_
      refine g_icmp_ne (tgt := 51) dX6_friend_38 (by decide) (fun c38 => ?_) (fun c38 => ?_)
      · refine g_aloadR_n dX6_friend_51 rfl rfl ?_
        refine n_getR dX6_friend_52 fX6_10 rfl hW vld_x0 rfl rfl ?_
        refine g_iload_n dX6_friend_55 rfl rfl ?_
        refine n_v1r (n' := 0) dX6_friend_56 mX4_one lX6_129 rfl hW (vld_sc (by decide : 0 < 4)) rfl rfl ⟨Nat.le_of_ble_eq_true rfl, Nat.le_of_ble_eq_true rfl⟩ ⟨Nat.zero_le _, Nat.zero_le _⟩ (Nat.le_of_ble_eq_true rfl) ?_
        refine wp_X4_one (by exact hW) (by decide : 0 < 4) ?_
        refine ⟨_, rfl, ?_⟩
        refine n_getI dX6_friend_59 fX6_151 rfl hW (vld_pe (by decide : 0 < 4) (pix_lt _)) (Or.inl rfl) ?_
        refine g_istore_3 dX6_friend_62 rfl ?_
        refine g_aloadR_n dX6_friend_63 rfl rfl ?_
        refine n_getR dX6_friend_64 fX6_10 rfl hW vld_x0 rfl rfl ?_
        refine g_iload_n dX6_friend_67 rfl rfl ?_
        refine n_v1r (n' := 0) dX6_friend_68 mX4_one lX6_129 rfl hW (vld_sc (by decide : 0 < 4)) rfl rfl ⟨Nat.le_of_ble_eq_true rfl, Nat.le_of_ble_eq_true rfl⟩ ⟨Nat.zero_le _, Nat.zero_le _⟩ (Nat.le_of_ble_eq_true rfl) ?_
        refine wp_X4_one (by exact hW) (by decide : 0 < 4) ?_
        refine ⟨_, rfl, ?_⟩
        refine g_iload_n dX6_friend_71 rfl rfl ?_
        refine n_putI dX6_friend_72 fX6_151 rfl hW (vld_pe (by decide : 0 < 4) (pix_lt _)) rfl ?_
        refine g_iload_n dX6_friend_75 rfl rfl ?_
        refine g_iret dX6_friend_76 rfl ?_
        have e : opFriend X x y = (mateI X x, setS X (upS (xS X) x.toNatClampNeg 4 y)) := by
          unfold opFriend
          try first | rw [if_pos c8] | rw [if_neg c8] | rw [if_neg (not_not_intro c8)]
          try first | rw [if_pos c13] | rw [if_neg c13] | rw [if_neg (not_not_intro c13)]
          try first | rw [if_pos c38] | rw [if_neg c38] | rw [if_neg (not_not_intro c38)]
          try rfl
        rw [e] at h
        unfold mateI at h
        rw [px, hR0.2.2 _ 4 hx (by decide)]
        exact h _ (frC_Dk frDk2) (hX.now frDk2 hR0.upP)
      · refine g_aloadR_n dX6_friend_41 rfl rfl ?_
        refine g_bipush dX6_friend_42 (v := (-6)) (by decide) ?_
        refine n_v1i (n' := 0) dX6_friend_44 mX6_refuse lX6_66 rfl hW vld_x0 rfl rfl ⟨Nat.le_of_ble_eq_true rfl, Nat.le_of_ble_eq_true rfl⟩ ⟨Nat.zero_le _, Nat.zero_le _⟩ (Nat.le_of_ble_eq_true rfl) ?_
        refine wp_X6_refuse (j := 6) (by exact hW) (by decide) (by decide) ?_
        refine ⟨_, rfl, ?_⟩
        refine g_bipush dX6_friend_47 (v := 10) (by decide) ?_
        refine g_isub dX6_friend_49 ?_
        refine g_iret dX6_friend_50 rfl ?_
        have e : opFriend X x y = ((rfX X 6).1 - 10, (rfX X 6).2) := by
          unfold opFriend
          try first | rw [if_pos c8] | rw [if_neg c8] | rw [if_neg (not_not_intro c8)]
          try first | rw [if_pos c13] | rw [if_neg c13] | rw [if_neg (not_not_intro c13)]
          try first | rw [if_pos c38] | rw [if_neg c38] | rw [if_neg (not_not_intro c38)]
          try rfl
        rw [e] at h; exact h _ (frC_sI (by decide)) (repCl_rfz hX (by decide) (by decide))
    · refine g_aloadR_n dX6_friend_16 rfl rfl ?_
      refine n_getR dX6_friend_17 fX6_10 rfl hW vld_x0 rfl rfl ?_
      refine g_iload_n dX6_friend_20 rfl rfl ?_
      refine n_v1i (n' := 0) dX6_friend_21 mX4_has lX6_116 rfl hW (vld_sc (by decide : 0 < 4)) rfl rfl ⟨Nat.le_of_ble_eq_true rfl, Nat.le_of_ble_eq_true rfl⟩ ⟨Nat.zero_le _, Nat.zero_le _⟩ (Nat.le_of_ble_eq_true rfl) ?_
      refine wp_X4_has (by exact hW) (by decide : 0 < 4) hsz hs10 ?_
      refine ⟨_, rfl, ?_⟩
      refine g_if_ne (tgt := 36) dX6_friend_24 (by decide) (fun c24 => ?_) (fun c24 => ?_)
      · simp only [b2_0, Decidable.not_not] at c24
        have c13 : y = -1 ∨ IN y (xS X).1 := Or.inr c24
        refine g_iload_n dX6_friend_36 rfl rfl ?_
        refine g_iload_n dX6_friend_37 rfl rfl ?_
        refine g_icmp_ne (tgt := 51) dX6_friend_38 (by decide) (fun c38 => ?_) (fun c38 => ?_)
        · refine g_aloadR_n dX6_friend_51 rfl rfl ?_
          refine n_getR dX6_friend_52 fX6_10 rfl hW vld_x0 rfl rfl ?_
          refine g_iload_n dX6_friend_55 rfl rfl ?_
          refine n_v1r (n' := 0) dX6_friend_56 mX4_one lX6_129 rfl hW (vld_sc (by decide : 0 < 4)) rfl rfl ⟨Nat.le_of_ble_eq_true rfl, Nat.le_of_ble_eq_true rfl⟩ ⟨Nat.zero_le _, Nat.zero_le _⟩ (Nat.le_of_ble_eq_true rfl) ?_
          refine wp_X4_one (by exact hW) (by decide : 0 < 4) ?_
          refine ⟨_, rfl, ?_⟩
          refine n_getI dX6_friend_59 fX6_151 rfl hW (vld_pe (by decide : 0 < 4) (pix_lt _)) (Or.inl rfl) ?_
          refine g_istore_3 dX6_friend_62 rfl ?_
          refine g_aloadR_n dX6_friend_63 rfl rfl ?_
          refine n_getR dX6_friend_64 fX6_10 rfl hW vld_x0 rfl rfl ?_
          refine g_iload_n dX6_friend_67 rfl rfl ?_
          refine n_v1r (n' := 0) dX6_friend_68 mX4_one lX6_129 rfl hW (vld_sc (by decide : 0 < 4)) rfl rfl ⟨Nat.le_of_ble_eq_true rfl, Nat.le_of_ble_eq_true rfl⟩ ⟨Nat.zero_le _, Nat.zero_le _⟩ (Nat.le_of_ble_eq_true rfl) ?_
          refine wp_X4_one (by exact hW) (by decide : 0 < 4) ?_
          refine ⟨_, rfl, ?_⟩
          refine g_iload_n dX6_friend_71 rfl rfl ?_
          refine n_putI dX6_friend_72 fX6_151 rfl hW (vld_pe (by decide : 0 < 4) (pix_lt _)) rfl ?_
          refine g_iload_n dX6_friend_75 rfl rfl ?_
          refine g_iret dX6_friend_76 rfl ?_
          have e : opFriend X x y = (mateI X x, setS X (upS (xS X) x.toNatClampNeg 4 y)) := by
            unfold opFriend
            try first | rw [if_pos c8] | rw [if_neg c8] | rw [if_neg (not_not_intro c8)]
            try first | rw [if_pos c13] | rw [if_neg c13] | rw [if_neg (not_not_intro c13)]
            try first | rw [if_pos c24] | rw [if_neg c24] | rw [if_neg (not_not_intro c24)]
            try first | rw [if_pos c38] | rw [if_neg c38] | rw [if_neg (not_not_intro c38)]
            try rfl
          rw [e] at h
          unfold mateI at h
          rw [px, hR0.2.2 _ 4 hx (by decide)]
          exact h _ (frC_Dk frDk2) (hX.now frDk2 hR0.upP)
        · refine g_aloadR_n dX6_friend_41 rfl rfl ?_
          refine g_bipush dX6_friend_42 (v := (-6)) (by decide) ?_
          refine n_v1i (n' := 0) dX6_friend_44 mX6_refuse lX6_66 rfl hW vld_x0 rfl rfl ⟨Nat.le_of_ble_eq_true rfl, Nat.le_of_ble_eq_true rfl⟩ ⟨Nat.zero_le _, Nat.zero_le _⟩ (Nat.le_of_ble_eq_true rfl) ?_
          refine wp_X6_refuse (j := 6) (by exact hW) (by decide) (by decide) ?_
          refine ⟨_, rfl, ?_⟩
          refine g_bipush dX6_friend_47 (v := 10) (by decide) ?_
          refine g_isub dX6_friend_49 ?_
          refine g_iret dX6_friend_50 rfl ?_
          have e : opFriend X x y = ((rfX X 6).1 - 10, (rfX X 6).2) := by
            unfold opFriend
            try first | rw [if_pos c8] | rw [if_neg c8] | rw [if_neg (not_not_intro c8)]
            try first | rw [if_pos c13] | rw [if_neg c13] | rw [if_neg (not_not_intro c13)]
            try first | rw [if_pos c24] | rw [if_neg c24] | rw [if_neg (not_not_intro c24)]
            try first | rw [if_pos c38] | rw [if_neg c38] | rw [if_neg (not_not_intro c38)]
            try rfl
          rw [e] at h; exact h _ (frC_sI (by decide)) (repCl_rfz hX (by decide) (by decide))
      · simp only [b2_0, Decidable.not_not] at c24
        have c13 : ¬ (y = -1 ∨ IN y (xS X).1) := fun q => q.elim c13 c24
        refine g_aloadR_n dX6_friend_27 rfl rfl ?_
        refine g_iconst dX6_friend_28 (v := (-1)) (by decide) ?_
        refine n_v1i (n' := 0) dX6_friend_29 mX6_refuse lX6_66 rfl hW vld_x0 rfl rfl ⟨Nat.le_of_ble_eq_true rfl, Nat.le_of_ble_eq_true rfl⟩ ⟨Nat.zero_le _, Nat.zero_le _⟩ (Nat.le_of_ble_eq_true rfl) ?_
        refine wp_X6_refuse (j := 1) (by exact hW) (by decide) (by decide) ?_
        refine ⟨_, rfl, ?_⟩
        refine g_bipush dX6_friend_32 (v := 10) (by decide) ?_
        refine g_isub dX6_friend_34 ?_
        refine g_iret dX6_friend_35 rfl ?_
        have e : opFriend X x y = ((rfX X 1).1 - 10, (rfX X 1).2) := by
          unfold opFriend
          try first | rw [if_pos c8] | rw [if_neg c8] | rw [if_neg (not_not_intro c8)]
          try first | rw [if_pos c13] | rw [if_neg c13] | rw [if_neg (not_not_intro c13)]
          try first | rw [if_pos c24] | rw [if_neg c24] | rw [if_neg (not_not_intro c24)]
          try rfl
        rw [e] at h; exact h _ (frC_sI (by decide)) (repCl_rfz hX (by decide) (by decide))
def stI (w : Int32) : Nat := w.toNatClampNeg + 1
def opAsk (X : Sys) (w v : Int32) : Int32 × Sys := if w < 0 then rfX X 6 else if 3 < w then rfX X 6 else if v < lo_ w then rfX X 6 else if ¬ v ≤ hi_ w then rfX X 6 else ((xS X).2.1 (w.toNatClampNeg + 1), setS X (gS (xS X) (w.toNatClampNeg + 1) v))
set_option maxHeartbeats 4000000 in
set_option maxRecDepth 100000 in
theorem wp_X6_ask {E : Ev} {M : Mem} {Q : QT} (hW : Wi M) {X : Sys} (hX : RepCl M X) (hO : OkX X) {w v : Int32} (h : ∀ M', FrC M M' → RepCl M' (opAsk X w v).2 → Q (some (vI (opAsk X w v).1)) M') : Mth E 2 0 0 kX6_ask [vR (0, 0, 0), vI w, vI v] M Q := by
  have hR0 := hX.1
  have hsz := hX.1.1
  have hs10 : (xS X).1 ≤ 10 := hO.1.1
  refine mth_of (by decide +kernel) [some (vR (0, 0, 0)), some (vI w), some (vI v), none] (Nat.le_of_ble_eq_true rfl) rfl ?_
  refine g_iload_n dX6_ask_0 rfl rfl ?_
  refine g_if_lt (tgt := 25) dX6_ask_1 (by decide) (fun c1 => ?_) (fun c1 => ?_)
  · refine g_aloadR_n dX6_ask_25 rfl rfl ?_
    refine g_bipush dX6_ask_26 (v := (-6)) (by decide) ?_
    refine n_v1i (n' := 0) dX6_ask_28 mX6_refuse lX6_66 rfl hW vld_x0 rfl rfl ⟨Nat.le_of_ble_eq_true rfl, Nat.le_of_ble_eq_true rfl⟩ ⟨Nat.zero_le _, Nat.zero_le _⟩ (Nat.le_of_ble_eq_true rfl) ?_
    refine wp_X6_refuse (j := 6) (by exact hW) (by decide) (by decide) ?_
    refine ⟨_, rfl, ?_⟩
    refine g_iret dX6_ask_31 rfl ?_
    have e : opAsk X w v = rfX X 6 := by
      unfold opAsk
      try first | rw [if_pos c1] | rw [if_neg c1] | rw [if_neg (not_not_intro c1)]
      try rfl
    rw [e] at h; exact h _ (frC_sI (by decide)) (repCl_rfz hX (by decide) (by decide))
  · refine g_iload_n dX6_ask_4 rfl rfl ?_
    refine g_iconst dX6_ask_5 (v := 3) (by decide) ?_
    refine g_icmp_gt (tgt := 25) dX6_ask_6 (by decide) (fun c6 => ?_) (fun c6 => ?_)
    · refine g_aloadR_n dX6_ask_25 rfl rfl ?_
      refine g_bipush dX6_ask_26 (v := (-6)) (by decide) ?_
      refine n_v1i (n' := 0) dX6_ask_28 mX6_refuse lX6_66 rfl hW vld_x0 rfl rfl ⟨Nat.le_of_ble_eq_true rfl, Nat.le_of_ble_eq_true rfl⟩ ⟨Nat.zero_le _, Nat.zero_le _⟩ (Nat.le_of_ble_eq_true rfl) ?_
      refine wp_X6_refuse (j := 6) (by exact hW) (by decide) (by decide) ?_
      refine ⟨_, rfl, ?_⟩
      refine g_iret dX6_ask_31 rfl ?_
      have e : opAsk X w v = rfX X 6 := by
        unfold opAsk
        try first | rw [if_pos c1] | rw [if_neg c1] | rw [if_neg (not_not_intro c1)]
        try first | rw [if_pos c6] | rw [if_neg c6] | rw [if_neg (not_not_intro c6)]
        try rfl
      rw [e] at h; exact h _ (frC_sI (by decide)) (repCl_rfz hX (by decide) (by decide))
    · refine g_iload_n dX6_ask_9 rfl rfl ?_
      refine g_iload_n dX6_ask_10 rfl rfl ?_
      refine n_s1i (n' := 0) dX6_ask_11 mX6_leastOf lX6_154 ⟨Nat.le_of_ble_eq_true rfl, Nat.le_of_ble_eq_true rfl⟩ ⟨Nat.zero_le _, Nat.zero_le _⟩ (Nat.le_of_ble_eq_true rfl) ?_
      refine wp_X6_leastOf ?_
      refine ⟨_, rfl, ?_⟩
      refine g_icmp_lt (tgt := 25) dX6_ask_14 (by decide) (fun c14 => ?_) (fun c14 => ?_)
      · refine g_aloadR_n dX6_ask_25 rfl rfl ?_
        refine g_bipush dX6_ask_26 (v := (-6)) (by decide) ?_
        refine n_v1i (n' := 0) dX6_ask_28 mX6_refuse lX6_66 rfl hW vld_x0 rfl rfl ⟨Nat.le_of_ble_eq_true rfl, Nat.le_of_ble_eq_true rfl⟩ ⟨Nat.zero_le _, Nat.zero_le _⟩ (Nat.le_of_ble_eq_true rfl) ?_
        refine wp_X6_refuse (j := 6) (by exact hW) (by decide) (by decide) ?_
        refine ⟨_, rfl, ?_⟩
        refine g_iret dX6_ask_31 rfl ?_
        have e : opAsk X w v = rfX X 6 := by
          unfold opAsk
          try first | rw [if_pos c1] | rw [if_neg c1] | rw [if_neg (not_not_intro c1)]
          try first | rw [if_pos c6] | rw [if_neg c6] | rw [if_neg (not_not_intro c6)]
          try first | rw [if_pos c14] | rw [if_neg c14] | rw [if_neg (not_not_intro c14)]
          try rfl
        rw [e] at h; exact h _ (frC_sI (by decide)) (repCl_rfz hX (by decide) (by decide))
      · refine g_iload_n dX6_ask_17 rfl rfl ?_
        refine g_iload_n dX6_ask_18 rfl rfl ?_
        refine n_s1i (n' := 0) dX6_ask_19 mX6_mostOf lX6_157 ⟨Nat.le_of_ble_eq_true rfl, Nat.le_of_ble_eq_true rfl⟩ ⟨Nat.zero_le _, Nat.zero_le _⟩ (Nat.le_of_ble_eq_true rfl) ?_
        refine wp_X6_mostOf ?_
        refine ⟨_, rfl, ?_⟩
        refine g_icmp_le (tgt := 32) dX6_ask_22 (by decide) (fun c22 => ?_) (fun c22 => ?_)
        · refine g_aloadR_n dX6_ask_32 rfl rfl ?_
          refine n_getR dX6_ask_33 fX6_10 rfl hW vld_x0 rfl rfl ?_
          refine g_iload_n dX6_ask_36 rfl rfl ?_
          refine n_v1i (n' := 0) dX6_ask_37 mX4_setting lX6_160 rfl hW (vld_sc (by decide : 0 < 4)) rfl rfl ⟨Nat.le_of_ble_eq_true rfl, Nat.le_of_ble_eq_true rfl⟩ ⟨Nat.zero_le _, Nat.zero_le _⟩ (Nat.le_of_ble_eq_true rfl) ?_
          have hw : w = nI w.toNatClampNeg := clamp_eq c1
          have hw4 : w.toNatClampNeg < 4 := clamp_lt c1 (fun q => by have : nI 4 = 4 := rfl; rw [this] at q; simp only [Int32.lt_iff_toInt_lt, Int32.le_iff_toInt_le, zcs] at *; omega) (by decide)
          rw [hw]
          refine wp_X4_setting (by exact hW) (by decide) hw4 ?_
          rw [← hw]
          refine ⟨_, rfl, ?_⟩
          refine g_istore_3 dX6_ask_40 rfl ?_
          refine g_aloadR_n dX6_ask_41 rfl rfl ?_
          refine n_getR dX6_ask_42 fX6_10 rfl hW vld_x0 rfl rfl ?_
          refine g_iload_n dX6_ask_45 rfl rfl ?_
          refine g_iload_n dX6_ask_46 rfl rfl ?_
          refine n_v2v (n' := 0) dX6_ask_47 mX4_settle lX6_163 rfl hW (vld_sc (by decide : 0 < 4)) rfl rfl ⟨Nat.le_of_ble_eq_true rfl, Nat.le_of_ble_eq_true rfl⟩ ⟨Nat.zero_le _, Nat.zero_le _⟩ (Nat.le_of_ble_eq_true rfl) ?_
          rw [hw]
          refine wp_X4_settle (by exact hW) (by decide) hw4 ?_
          rw [← hw]
          refine ⟨rfl, ?_⟩
          refine g_iload_n dX6_ask_50 rfl rfl ?_
          refine g_iret dX6_ask_51 rfl ?_
          have e : opAsk X w v = ((xS X).2.1 (w.toNatClampNeg + 1), setS X (gS (xS X) (w.toNatClampNeg + 1) v)) := by
            unfold opAsk
            try first | rw [if_pos c1] | rw [if_neg c1] | rw [if_neg (not_not_intro c1)]
            try first | rw [if_pos c6] | rw [if_neg c6] | rw [if_neg (not_not_intro c6)]
            try first | rw [if_pos c14] | rw [if_neg c14] | rw [if_neg (not_not_intro c14)]
            try first | rw [if_pos c22] | rw [if_neg c22] | rw [if_neg (not_not_intro c22)]
            try rfl
          rw [e] at h
          rw [show mI M (1, 0, 0) (w.toNatClampNeg + 3) = (xS X).2.1 (w.toNatClampNeg + 1) from hR0.2.1 (w.toNatClampNeg + 1) (by omega) (by omega)]
          exact h _ (frC_Dk frDk1) (hX.now frDk1 (hR0.upG (j := w.toNatClampNeg + 1) (by omega)))
        · refine g_aloadR_n dX6_ask_25 rfl rfl ?_
          refine g_bipush dX6_ask_26 (v := (-6)) (by decide) ?_
          refine n_v1i (n' := 0) dX6_ask_28 mX6_refuse lX6_66 rfl hW vld_x0 rfl rfl ⟨Nat.le_of_ble_eq_true rfl, Nat.le_of_ble_eq_true rfl⟩ ⟨Nat.zero_le _, Nat.zero_le _⟩ (Nat.le_of_ble_eq_true rfl) ?_
          refine wp_X6_refuse (j := 6) (by exact hW) (by decide) (by decide) ?_
          refine ⟨_, rfl, ?_⟩
          refine g_iret dX6_ask_31 rfl ?_
          have e : opAsk X w v = rfX X 6 := by
            unfold opAsk
            try first | rw [if_pos c1] | rw [if_neg c1] | rw [if_neg (not_not_intro c1)]
            try first | rw [if_pos c6] | rw [if_neg c6] | rw [if_neg (not_not_intro c6)]
            try first | rw [if_pos c14] | rw [if_neg c14] | rw [if_neg (not_not_intro c14)]
            try first | rw [if_pos c22] | rw [if_neg c22] | rw [if_neg (not_not_intro c22)]
            try rfl
          rw [e] at h; exact h _ (frC_sI (by decide)) (repCl_rfz hX (by decide) (by decide))
def goS (S : Sc) (i : Nat) (is_ : Int32) : Sc := if is_ = 0 then upS (upS S i 8 is_) i 6 0 else upS S i 8 is_
def opGo (X : Sys) (x is_ : Int32) : Int32 × Sys := if ¬ IN x (xS X).1 then rfX X 1 else ((xS X).2.2 x.toNatClampNeg 8, setS X (goS (xS X) x.toNatClampNeg is_))
set_option maxHeartbeats 4000000 in
set_option maxRecDepth 100000 in
theorem wp_X6_go {E : Ev} {M : Mem} {Q : QT} (hW : Wi M) {X : Sys} (hX : RepCl M X) (hO : OkX X) {x is_ : Int32} (his : is_ = 0 ∨ is_ = 1) (h : ∀ M', FrC M M' → RepCl M' (opGo X x is_).2 → Q (some (vI (opGo X x is_).1)) M') : Mth E 2 0 0 kX6_go [vR (0, 0, 0), vI x, vI is_] M Q := by
  have hR0 := hX.1
  have hsz := hX.1.1
  have hs10 : (xS X).1 ≤ 10 := hO.1.1
  refine mth_of (by decide +kernel) [some (vR (0, 0, 0)), some (vI x), some (vI is_), none, none] (Nat.le_of_ble_eq_true rfl) rfl ?_
  refine g_aloadR_n dX6_go_0 rfl rfl ?_
  refine n_getR dX6_go_1 fX6_10 rfl hW vld_x0 rfl rfl ?_
  refine g_iload_n dX6_go_4 rfl rfl ?_
  refine n_v1i (n' := 0) dX6_go_5 mX4_has lX6_116 rfl hW (vld_sc (by decide : 0 < 4)) rfl rfl ⟨Nat.le_of_ble_eq_true rfl, Nat.le_of_ble_eq_true rfl⟩ ⟨Nat.zero_le _, Nat.zero_le _⟩ (Nat.le_of_ble_eq_true rfl) ?_
  refine wp_X4_has (by exact hW) (by decide : 0 < 4) hsz hs10 ?_
  refine ⟨_, rfl, ?_⟩
  refine g_if_ne (tgt := 17) dX6_go_8 (by decide) (fun c8 => ?_) (fun c8 => ?_)
  · simp only [b2_0, Decidable.not_not] at c8
    have hx := (IN_nI c8).2
    have px : pix x = x.toNatClampNeg := if_pos ⟨c8.1, by have := c8.2; omega⟩
    refine g_aloadR_n dX6_go_17 rfl rfl ?_
    refine n_getR dX6_go_18 fX6_10 rfl hW vld_x0 rfl rfl ?_
    refine g_iload_n dX6_go_21 rfl rfl ?_
    refine n_v1r (n' := 0) dX6_go_22 mX4_one lX6_129 rfl hW (vld_sc (by decide : 0 < 4)) rfl rfl ⟨Nat.le_of_ble_eq_true rfl, Nat.le_of_ble_eq_true rfl⟩ ⟨Nat.zero_le _, Nat.zero_le _⟩ (Nat.le_of_ble_eq_true rfl) ?_
    refine wp_X4_one (by exact hW) (by decide : 0 < 4) ?_
    refine ⟨_, rfl, ?_⟩
    refine g_astore_3 dX6_go_25 rfl ?_
    refine g_aloadR_n dX6_go_26 rfl rfl ?_
    refine n_getI dX6_go_27 fX6_166 rfl hW (vld_pe (by decide : 0 < 4) (pix_lt _)) (Or.inr rfl) ?_
    refine g_if_eq (tgt := 37) dX6_go_30 (by decide) (fun c30 => ?_) (fun c30 => ?_)
    · refine g_iconst dX6_go_37 (v := 0) (by decide) ?_
      refine g_istore_4 dX6_go_38 rfl ?_
      refine g_aloadR_n dX6_go_40 rfl rfl ?_
      refine g_iload_n dX6_go_41 rfl rfl ?_
      refine n_putZ dX6_go_42 fX6_166 rfl hW (vld_pe (by decide : 0 < 4) (pix_lt _)) rfl his ?_
      refine g_iload_n dX6_go_45 rfl rfl ?_
      refine g_if_ne (tgt := 54) dX6_go_46 (by decide) (fun c46 => ?_) (fun c46 => ?_)
      · refine g_iload dX6_go_54 rfl ?_
        refine g_iret dX6_go_56 rfl ?_
        have e : opGo X x is_ = ((xS X).2.2 x.toNatClampNeg 8, setS X (goS (xS X) x.toNatClampNeg is_)) := by
          unfold opGo
          try first | rw [if_pos c8] | rw [if_neg c8] | rw [if_neg (not_not_intro c8)]
          try first | rw [if_pos c30] | rw [if_neg c30] | rw [if_neg (not_not_intro c30)]
          try first | rw [if_pos c46] | rw [if_neg c46] | rw [if_neg (not_not_intro c46)]
          try rfl
        rw [e] at h
        rw [px] at c30
        rw [hR0.2.2 _ 8 hx (by decide)] at c30
        have hg := (hO.1.z hx).2
        refine qI (x := (xS X).2.2 x.toNatClampNeg 8) ?_ c30.symm
        rw [px]
        unfold goS at h
        rw [if_neg c46] at h
        exact h _ (frC_Dk frDk2) (hX.now frDk2 hR0.upP)
      · have c46 : is_ = 0 := by first | exact c46 | exact Decidable.not_not.mp c46
        refine g_aloadR_n dX6_go_49 rfl rfl ?_
        refine g_iconst dX6_go_50 (v := 0) (by decide) ?_
        refine n_putI dX6_go_51 fX6_170 rfl hW (vld_pe (by decide : 0 < 4) (pix_lt _)) rfl ?_
        refine g_iload dX6_go_54 rfl ?_
        refine g_iret dX6_go_56 rfl ?_
        have e : opGo X x is_ = ((xS X).2.2 x.toNatClampNeg 8, setS X (goS (xS X) x.toNatClampNeg is_)) := by
          unfold opGo
          try first | rw [if_pos c8] | rw [if_neg c8] | rw [if_neg (not_not_intro c8)]
          try first | rw [if_pos c30] | rw [if_neg c30] | rw [if_neg (not_not_intro c30)]
          try first | rw [if_pos c46] | rw [if_neg c46] | rw [if_neg (not_not_intro c46)]
          try rfl
        rw [e] at h
        rw [px] at c30
        rw [hR0.2.2 _ 8 hx (by decide)] at c30
        have hg := (hO.1.z hx).2
        refine qI (x := (xS X).2.2 x.toNatClampNeg 8) ?_ c30.symm
        rw [px]
        unfold goS at h
        rw [if_pos c46] at h
        exact h _ (frC_Dk (frDk2.tr frDk2)) (hX.now (frDk2.tr frDk2) hR0.upP.upP)
    · refine g_iconst dX6_go_33 (v := 1) (by decide) ?_
      refine g_goto (tgt := 38) dX6_go_34 (by decide) ?_
      refine g_istore_4 dX6_go_38 rfl ?_
      refine g_aloadR_n dX6_go_40 rfl rfl ?_
      refine g_iload_n dX6_go_41 rfl rfl ?_
      refine n_putZ dX6_go_42 fX6_166 rfl hW (vld_pe (by decide : 0 < 4) (pix_lt _)) rfl his ?_
      refine g_iload_n dX6_go_45 rfl rfl ?_
      refine g_if_ne (tgt := 54) dX6_go_46 (by decide) (fun c46 => ?_) (fun c46 => ?_)
      · refine g_iload dX6_go_54 rfl ?_
        refine g_iret dX6_go_56 rfl ?_
        have e : opGo X x is_ = ((xS X).2.2 x.toNatClampNeg 8, setS X (goS (xS X) x.toNatClampNeg is_)) := by
          unfold opGo
          try first | rw [if_pos c8] | rw [if_neg c8] | rw [if_neg (not_not_intro c8)]
          try first | rw [if_pos c30] | rw [if_neg c30] | rw [if_neg (not_not_intro c30)]
          try first | rw [if_pos c46] | rw [if_neg c46] | rw [if_neg (not_not_intro c46)]
          try rfl
        rw [e] at h
        rw [px] at c30
        rw [hR0.2.2 _ 8 hx (by decide)] at c30
        have hg := (hO.1.z hx).2
        refine qI (x := (xS X).2.2 x.toNatClampNeg 8) ?_ (hg.resolve_left c30).symm
        rw [px]
        unfold goS at h
        rw [if_neg c46] at h
        exact h _ (frC_Dk frDk2) (hX.now frDk2 hR0.upP)
      · have c46 : is_ = 0 := by first | exact c46 | exact Decidable.not_not.mp c46
        refine g_aloadR_n dX6_go_49 rfl rfl ?_
        refine g_iconst dX6_go_50 (v := 0) (by decide) ?_
        refine n_putI dX6_go_51 fX6_170 rfl hW (vld_pe (by decide : 0 < 4) (pix_lt _)) rfl ?_
        refine g_iload dX6_go_54 rfl ?_
        refine g_iret dX6_go_56 rfl ?_
        have e : opGo X x is_ = ((xS X).2.2 x.toNatClampNeg 8, setS X (goS (xS X) x.toNatClampNeg is_)) := by
          unfold opGo
          try first | rw [if_pos c8] | rw [if_neg c8] | rw [if_neg (not_not_intro c8)]
          try first | rw [if_pos c30] | rw [if_neg c30] | rw [if_neg (not_not_intro c30)]
          try first | rw [if_pos c46] | rw [if_neg c46] | rw [if_neg (not_not_intro c46)]
          try rfl
        rw [e] at h
        rw [px] at c30
        rw [hR0.2.2 _ 8 hx (by decide)] at c30
        have hg := (hO.1.z hx).2
        refine qI (x := (xS X).2.2 x.toNatClampNeg 8) ?_ (hg.resolve_left c30).symm
        rw [px]
        unfold goS at h
        rw [if_pos c46] at h
        exact h _ (frC_Dk (frDk2.tr frDk2)) (hX.now (frDk2.tr frDk2) hR0.upP.upP)
  · simp only [b2_0, Decidable.not_not] at c8
    refine g_aloadR_n dX6_go_11 rfl rfl ?_
    refine g_iconst dX6_go_12 (v := (-1)) (by decide) ?_
    refine n_v1i (n' := 0) dX6_go_13 mX6_refuse lX6_66 rfl hW vld_x0 rfl rfl ⟨Nat.le_of_ble_eq_true rfl, Nat.le_of_ble_eq_true rfl⟩ ⟨Nat.zero_le _, Nat.zero_le _⟩ (Nat.le_of_ble_eq_true rfl) ?_
    refine wp_X6_refuse (j := 1) (by exact hW) (by decide) (by decide) ?_
    refine ⟨_, rfl, ?_⟩
    refine g_iret dX6_go_16 rfl ?_
    have e : opGo X x is_ = rfX X 1 := by
      unfold opGo
      try first | rw [if_pos c8] | rw [if_neg c8] | rw [if_neg (not_not_intro c8)]
      try rfl
    rw [e] at h; exact h _ (frC_sI (by decide)) (repCl_rfz hX (by decide) (by decide))
def opPersonOf (X : Sys) (x w : Int32) : Int32 × Sys := if ¬ IN x (xS X).1 then rfX X 5 else if w < 0 then rfX X 5 else if ¬ w ≤ 7 then rfX X 5 else ((xS X).2.2 x.toNatClampNeg (markI w.toNatClampNeg), X)
set_option maxHeartbeats 4000000 in
set_option maxRecDepth 100000 in
theorem wp_X6_personOf {E : Ev} {M : Mem} {Q : QT} (hW : Wi M) {X : Sys} (hX : RepCl M X) (hO : OkX X) {x w : Int32} (h : ∀ M', FrC M M' → RepCl M' (opPersonOf X x w).2 → Q (some (vI (opPersonOf X x w).1)) M') : Mth E 2 0 0 kX6_personOf [vR (0, 0, 0), vI x, vI w] M Q := by
  have hR0 := hX.1
  have hsz := hX.1.1
  have hs10 : (xS X).1 ≤ 10 := hO.1.1
  refine mth_of (by decide +kernel) [some (vR (0, 0, 0)), some (vI x), some (vI w)] (Nat.le_of_ble_eq_true rfl) rfl ?_
  refine g_aloadR_n dX6_personOf_0 rfl rfl ?_
  refine n_getR dX6_personOf_1 fX6_10 rfl hW vld_x0 rfl rfl ?_
  refine g_iload_n dX6_personOf_4 rfl rfl ?_
  refine n_v1i (n' := 0) dX6_personOf_5 mX4_has lX6_116 rfl hW (vld_sc (by decide : 0 < 4)) rfl rfl ⟨Nat.le_of_ble_eq_true rfl, Nat.le_of_ble_eq_true rfl⟩ ⟨Nat.zero_le _, Nat.zero_le _⟩ (Nat.le_of_ble_eq_true rfl) ?_
  refine wp_X4_has (by exact hW) (by decide : 0 < 4) hsz hs10 ?_
  refine ⟨_, rfl, ?_⟩
  refine g_if_eq (tgt := 21) dX6_personOf_8 (by decide) (fun c8 => ?_) (fun c8 => ?_)
  · simp only [b2_0, Decidable.not_not] at c8
    refine g_aloadR_n dX6_personOf_21 rfl rfl ?_
    refine g_bipush dX6_personOf_22 (v := (-5)) (by decide) ?_
    refine n_v1i (n' := 0) dX6_personOf_24 mX6_refuse lX6_66 rfl hW vld_x0 rfl rfl ⟨Nat.le_of_ble_eq_true rfl, Nat.le_of_ble_eq_true rfl⟩ ⟨Nat.zero_le _, Nat.zero_le _⟩ (Nat.le_of_ble_eq_true rfl) ?_
    refine wp_X6_refuse (j := 5) (by exact hW) (by decide) (by decide) ?_
    refine ⟨_, rfl, ?_⟩
    refine g_iret dX6_personOf_27 rfl ?_
    have e : opPersonOf X x w = rfX X 5 := by
      unfold opPersonOf
      try first | rw [if_pos c8] | rw [if_neg c8] | rw [if_neg (not_not_intro c8)]
      try rfl
    rw [e] at h; exact h _ (frC_sI (by decide)) (repCl_rfz hX (by decide) (by decide))
  · simp only [b2_0, Decidable.not_not] at c8
    have hx := (IN_nI c8).2
    have px : pix x = x.toNatClampNeg := if_pos ⟨c8.1, by have := c8.2; omega⟩
    refine g_iload_n dX6_personOf_11 rfl rfl ?_
    refine g_if_lt (tgt := 21) dX6_personOf_12 (by decide) (fun c12 => ?_) (fun c12 => ?_)
    · refine g_aloadR_n dX6_personOf_21 rfl rfl ?_
      refine g_bipush dX6_personOf_22 (v := (-5)) (by decide) ?_
      refine n_v1i (n' := 0) dX6_personOf_24 mX6_refuse lX6_66 rfl hW vld_x0 rfl rfl ⟨Nat.le_of_ble_eq_true rfl, Nat.le_of_ble_eq_true rfl⟩ ⟨Nat.zero_le _, Nat.zero_le _⟩ (Nat.le_of_ble_eq_true rfl) ?_
      refine wp_X6_refuse (j := 5) (by exact hW) (by decide) (by decide) ?_
      refine ⟨_, rfl, ?_⟩
      refine g_iret dX6_personOf_27 rfl ?_
      have e : opPersonOf X x w = rfX X 5 := by
        unfold opPersonOf
        try first | rw [if_pos c8] | rw [if_neg c8] | rw [if_neg (not_not_intro c8)]
        try first | rw [if_pos c12] | rw [if_neg c12] | rw [if_neg (not_not_intro c12)]
        try rfl
      rw [e] at h; exact h _ (frC_sI (by decide)) (repCl_rfz hX (by decide) (by decide))
    · refine g_iload_n dX6_personOf_15 rfl rfl ?_
      refine g_bipush dX6_personOf_16 (v := 7) (by decide) ?_
      refine g_icmp_le (tgt := 28) dX6_personOf_18 (by decide) (fun c18 => ?_) (fun c18 => ?_)
      · refine g_aloadR_n dX6_personOf_28 rfl rfl ?_
        refine n_getR dX6_personOf_29 fX6_10 rfl hW vld_x0 rfl rfl ?_
        refine g_iload_n dX6_personOf_32 rfl rfl ?_
        refine n_v1r (n' := 0) dX6_personOf_33 mX4_one lX6_129 rfl hW (vld_sc (by decide : 0 < 4)) rfl rfl ⟨Nat.le_of_ble_eq_true rfl, Nat.le_of_ble_eq_true rfl⟩ ⟨Nat.zero_le _, Nat.zero_le _⟩ (Nat.le_of_ble_eq_true rfl) ?_
        refine wp_X4_one (by exact hW) (by decide : 0 < 4) ?_
        refine ⟨_, rfl, ?_⟩
        refine g_iload_n dX6_personOf_36 rfl rfl ?_
        refine n_v1i (n' := 0) dX6_personOf_37 mX2_mark lX6_173 rfl hW (vld_pe (by decide : 0 < 4) (pix_lt _)) rfl rfl ⟨Nat.le_of_ble_eq_true rfl, Nat.le_of_ble_eq_true rfl⟩ ⟨Nat.zero_le _, Nat.zero_le _⟩ (Nat.le_of_ble_eq_true rfl) ?_
        have hw8 : IN w 8 := by simp only [IN, Int32.lt_iff_toInt_lt, Int32.le_iff_toInt_le, zcs] at *; omega
        refine wp_X2_mark (by exact hW) (by decide : 0 < 4) (pix_lt _) hw8 (by rw [px, hR0.2.2 _ 3 hx (by decide)]; exact (hO.1.z hx).1) (by rw [px, hR0.2.2 _ 8 hx (by decide)]; exact (hO.1.z hx).2) ?_
        refine ⟨_, rfl, ?_⟩
        refine g_iret dX6_personOf_40 rfl ?_
        have e : opPersonOf X x w = ((xS X).2.2 x.toNatClampNeg (markI w.toNatClampNeg), X) := by
          unfold opPersonOf
          try first | rw [if_pos c8] | rw [if_neg c8] | rw [if_neg (not_not_intro c8)]
          try first | rw [if_pos c12] | rw [if_neg c12] | rw [if_neg (not_not_intro c12)]
          try first | rw [if_pos c18] | rw [if_neg c18] | rw [if_neg (not_not_intro c18)]
          try rfl
        rw [e] at h
        rw [px, hR0.2.2 _ _ hx (by unfold markI; have := (IN_nI hw8).2; revert this; generalize w.toNatClampNeg = z; intro this; rcases (by omega : z = 0 ∨ z = 1 ∨ z = 2 ∨ z = 3 ∨ z = 4 ∨ z = 5 ∨ z = 6 ∨ z = 7) with rfl | rfl | rfl | rfl | rfl | rfl | rfl | rfl <;> decide)]
        exact h M FrC.rf hX
      · refine g_aloadR_n dX6_personOf_21 rfl rfl ?_
        refine g_bipush dX6_personOf_22 (v := (-5)) (by decide) ?_
        refine n_v1i (n' := 0) dX6_personOf_24 mX6_refuse lX6_66 rfl hW vld_x0 rfl rfl ⟨Nat.le_of_ble_eq_true rfl, Nat.le_of_ble_eq_true rfl⟩ ⟨Nat.zero_le _, Nat.zero_le _⟩ (Nat.le_of_ble_eq_true rfl) ?_
        refine wp_X6_refuse (j := 5) (by exact hW) (by decide) (by decide) ?_
        refine ⟨_, rfl, ?_⟩
        refine g_iret dX6_personOf_27 rfl ?_
        have e : opPersonOf X x w = rfX X 5 := by
          unfold opPersonOf
          try first | rw [if_pos c8] | rw [if_neg c8] | rw [if_neg (not_not_intro c8)]
          try first | rw [if_pos c12] | rw [if_neg c12] | rw [if_neg (not_not_intro c12)]
          try first | rw [if_pos c18] | rw [if_neg c18] | rw [if_neg (not_not_intro c18)]
          try rfl
        rw [e] at h; exact h _ (frC_sI (by decide)) (repCl_rfz hX (by decide) (by decide))
set_option maxHeartbeats 4000000 in
set_option maxRecDepth 100000 in
theorem wp_X6_fault {E : Ev} {M : Mem} {Q : QT} (hW : Wi M) {X : Sys} (hX : RepCl M X) (hO : OkX X) (h : Q (some (vI (xF X))) M) : Mth E 0 0 0 kX6_fault [vR (0, 0, 0)] M Q := by
  refine mth_of (by decide +kernel) [some (vR (0, 0, 0))] (Nat.le_of_ble_eq_true rfl) rfl ?_
  refine g_aloadR_n dX6_fault_0 rfl rfl ?_
  refine n_getI dX6_fault_1 fX6_58 rfl hW vld_x0 (Or.inl rfl) ?_
  refine g_iret dX6_fault_4 rfl ?_
  rw [hX.2.2.2.2.2.1]; exact h
def opWill (X : Sys) (x : Int32) : Int32 × Sys := if ¬ IN x (xS X).1 then ((rfX X 1).1 - 1000, (rfX X 1).2) else (willS (xS X) x.toNatClampNeg, X)
set_option maxHeartbeats 4000000 in
set_option maxRecDepth 100000 in
theorem wp_X6_will {E : Ev} {M : Mem} {Q : QT} (hW : Wi M) {X : Sys} (hX : RepCl M X) (hO : OkX X) {x : Int32} (h : ∀ M', FrC M M' → RepCl M' (opWill X x).2 → Q (some (vI (opWill X x).1)) M') : Mth E 3 0 0 kX6_will [vR (0, 0, 0), vI x] M Q := by
  have hR0 := hX.1
  have hsz := hX.1.1
  have hs10 : (xS X).1 ≤ 10 := hO.1.1
  refine mth_of (by decide +kernel) [some (vR (0, 0, 0)), some (vI x)] (Nat.le_of_ble_eq_true rfl) rfl ?_
  refine g_aloadR_n dX6_will_0 rfl rfl ?_
  refine n_getR dX6_will_1 fX6_10 rfl hW vld_x0 rfl rfl ?_
  refine g_iload_n dX6_will_4 rfl rfl ?_
  refine n_v1i (n' := 0) dX6_will_5 mX4_has lX6_116 rfl hW (vld_sc (by decide : 0 < 4)) rfl rfl ⟨Nat.le_of_ble_eq_true rfl, Nat.le_of_ble_eq_true rfl⟩ ⟨Nat.zero_le _, Nat.zero_le _⟩ (Nat.le_of_ble_eq_true rfl) ?_
  refine wp_X4_has (by exact hW) (by decide : 0 < 4) hsz hs10 ?_
  refine ⟨_, rfl, ?_⟩
  refine g_if_ne (tgt := 21) dX6_will_8 (by decide) (fun c8 => ?_) (fun c8 => ?_)
  · simp only [b2_0, Decidable.not_not] at c8
    refine g_aloadR_n dX6_will_21 rfl rfl ?_
    refine n_getR dX6_will_22 fX6_10 rfl hW vld_x0 rfl rfl ?_
    refine g_iload_n dX6_will_25 rfl rfl ?_
    refine n_v1i (n' := 2) dX6_will_26 mX4_pullOn lX6_190 rfl hW (vld_sc (by decide : 0 < 4)) rfl rfl ⟨Nat.le_of_ble_eq_true rfl, Nat.le_of_ble_eq_true rfl⟩ ⟨Nat.zero_le _, Nat.zero_le _⟩ (Nat.le_of_ble_eq_true rfl) ?_
    obtain ⟨hx1, hx2⟩ := IN_nI c8
    rw [hx1]
    refine wp_X4_pullOn (by exact hW) (by decide : 0 < 4) hR0 hs10 hx2 ?_
    rw [← hx1]
    refine ⟨_, rfl, ?_⟩
    refine g_iret dX6_will_29 rfl ?_
    have e : opWill X x = (willS (xS X) x.toNatClampNeg, X) := by
      unfold opWill
      try first | rw [if_pos c8] | rw [if_neg c8] | rw [if_neg (not_not_intro c8)]
      try rfl
    rw [e] at h
    exact h M FrC.rf hX
  · simp only [b2_0, Decidable.not_not] at c8
    refine g_aloadR_n dX6_will_11 rfl rfl ?_
    refine g_iconst dX6_will_12 (v := (-1)) (by decide) ?_
    refine n_v1i (n' := 0) dX6_will_13 mX6_refuse lX6_66 rfl hW vld_x0 rfl rfl ⟨Nat.le_of_ble_eq_true rfl, Nat.le_of_ble_eq_true rfl⟩ ⟨Nat.zero_le _, Nat.zero_le _⟩ (Nat.le_of_ble_eq_true rfl) ?_
    refine wp_X6_refuse (j := 1) (by exact hW) (by decide) (by decide) ?_
    refine ⟨_, rfl, ?_⟩
    refine g_sipush dX6_will_16 (v := 1000) (by decide) ?_
    refine g_isub dX6_will_19 ?_
    refine g_iret dX6_will_20 rfl ?_
    have e : opWill X x = ((rfX X 1).1 - 1000, (rfX X 1).2) := by
      unfold opWill
      try first | rw [if_pos c8] | rw [if_neg c8] | rw [if_neg (not_not_intro c8)]
      try rfl
    rw [e] at h; exact h _ (frC_sI (by decide)) (repCl_rfz hX (by decide) (by decide))
def opSeed (X : Sys) (v : Int32) : Int32 × Sys := ((xS X).2.1 6, setS X (gS (xS X) 6 v))
set_option maxHeartbeats 4000000 in
set_option maxRecDepth 100000 in
theorem wp_X6_seed {E : Ev} {M : Mem} {Q : QT} (hW : Wi M) {X : Sys} (hX : RepCl M X) (hO : OkX X) {v : Int32} (h : ∀ M', FrC M M' → RepCl M' (opSeed X v).2 → Q (some (vI (opSeed X v).1)) M') : Mth E 0 0 0 kX6_seed [vR (0, 0, 0), vI v] M Q := by
  have hR0 := hX.1
  have hsz := hX.1.1
  have hs10 : (xS X).1 ≤ 10 := hO.1.1
  refine mth_of (by decide +kernel) [some (vR (0, 0, 0)), some (vI v), none] (Nat.le_of_ble_eq_true rfl) rfl ?_
  refine g_aloadR_n dX6_seed_0 rfl rfl ?_
  refine n_getR dX6_seed_1 fX6_10 rfl hW vld_x0 rfl rfl ?_
  refine n_getI dX6_seed_4 fX6_260 rfl hW (vld_sc (by decide : 0 < 4)) (Or.inl rfl) ?_
  refine g_istore_2 dX6_seed_7 rfl ?_
  refine g_aloadR_n dX6_seed_8 rfl rfl ?_
  refine n_getR dX6_seed_9 fX6_10 rfl hW vld_x0 rfl rfl ?_
  refine g_iload_n dX6_seed_12 rfl rfl ?_
  refine n_putI dX6_seed_13 fX6_260 rfl hW (vld_sc (by decide : 0 < 4)) rfl ?_
  refine g_iload_n dX6_seed_16 rfl rfl ?_
  refine g_iret dX6_seed_17 rfl ?_
  rw [show mI M (1, 0, 0) 8 = (xS X).2.1 6 from hR0.2.1 6 (by decide) (by decide)]
  exact h _ (frC_Dk frDk1) (hX.now frDk1 (hR0.upG (j := 6) (by decide)))
def trF (L : List Int32) (i : Int32) : Int32 := if 0 ≤ i.toInt ∧ i.toInt < L.length ∧ i.toInt < 20 then L.getD i.toNatClampNeg 0 else -1
set_option maxHeartbeats 4000000 in
set_option maxRecDepth 100000 in
theorem wp_X6_trace {E : Ev} {M : Mem} {Q : QT} (hW : Wi M) {X : Sys} (hX : RepCl M X) (hO : OkX X) {i : Int32} (h : Q (some (vI (trF (xL X) i))) M) : Mth E 1 0 0 kX6_trace [vR (0, 0, 0), vI i] M Q := by
  refine mth_of (by decide +kernel) [some (vR (0, 0, 0)), some (vI i)] (Nat.le_of_ble_eq_true rfl) rfl ?_
  refine g_aloadR_n dX6_trace_0 rfl rfl ?_
  refine n_getR dX6_trace_1 fX6_50 rfl hW vld_x0 rfl rfl ?_
  refine g_iload_n dX6_trace_4 rfl rfl ?_
  refine n_v1i (n' := 0) dX6_trace_5 mX0_bodyAt lX6_273 rfl hW vld_x10 rfl rfl ⟨Nat.le_of_ble_eq_true rfl, Nat.le_of_ble_eq_true rfl⟩ ⟨Nat.zero_le _, Nat.zero_le _⟩ (Nat.le_of_ble_eq_true rfl) ?_
  refine wp_X0_bodyAt (by exact hW) ?_
  refine ⟨_, rfl, ?_⟩
  refine g_iret dX6_trace_8 rfl ?_
  refine qI h ?_
  obtain ⟨t1, t2⟩ := hX.2.2.2.2.2.2
  have hl := hO.2.2.2
  unfold trV trF
  rw [t1, nI_toInt (by omega)]
  by_cases q : 0 ≤ i.toInt ∧ i.toInt < (xL X).length ∧ i.toInt < 20
  · rw [if_pos q, if_pos q]
    have hc : i.toNatClampNeg = i.toInt.toNat := rfl
    exact t2 _ (by omega) (by omega)
  · rw [if_neg q, if_neg q]
