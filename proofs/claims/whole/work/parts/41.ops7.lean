/-! THE CLASS'S OWN METHODS: REGISTERS, IN TRUTH -/
def wrg (X : Sys) (s n : Int32) : Nat := if ¬ wnr X s = 0 then wnr X s else if ¬ 0 ≤ n then 4 else if ¬ n ≤ nI (lenF (shV X s)) then 5 else if ¬ n ≤ 24 then 6 else 0
theorem wrg_lt (X : Sys) (s n : Int32) : wrg X s n < 8 := by unfold wrg; split; exact wnr_lt X s; split; decide; split; decide; split <;> decide
theorem wrg_0 {X : Sys} {s n : Int32} (h : wrg X s n = 0) : wnr X s = 0 ∧ 0 ≤ n.toInt ∧ n.toInt ≤ 24 := by
  unfold wrg at h
  by_cases q : wnr X s = 0
  · rw [if_neg (not_not_intro q)] at h
    by_cases q1 : 0 ≤ n
    · rw [if_neg (not_not_intro q1)] at h
      by_cases q2 : n ≤ nI (lenF (shV X s))
      · rw [if_neg (not_not_intro q2)] at h
        by_cases q3 : n ≤ 24
        · simp only [Int32.le_iff_toInt_le, zcs] at q1 q3; exact ⟨q, q1, q3⟩
        · rw [if_pos q3] at h; cases h
      · rw [if_pos q2] at h; cases h
    · rw [if_pos q1] at h; cases h
  · rw [if_pos q] at h; exact absurd h q
set_option maxHeartbeats 4000000 in
set_option maxRecDepth 100000 in
theorem wp_X6_whyNoRegister {E : Ev} {M : Mem} {Q : QT} (hW : Wi M) {X : Sys} (hX : RepCl M X) (hO : OkX X) {s n : Int32} (h : Q (some (vI (-(nI (wrg X s n))))) M) : Mth E 2 0 0 kX6_whyNoRegister [vR (0, 0, 0), vI s, vI n] M Q := by
  have hr := hX.sh s
  have ho := hO.sh s
  have ll := ho.len
  obtain ⟨f0, f1, f2⟩ := hr.f
  refine mth_of (by decide +kernel) [some (vR (0, 0, 0)), some (vI s), some (vI n), none] (Nat.le_of_ble_eq_true rfl) rfl ?_
  refine g_aloadR_n dX6_whyNoRegister_0 rfl rfl ?_
  refine g_iload_n dX6_whyNoRegister_1 rfl rfl ?_
  refine n_v1i (n' := 1) dX6_whyNoRegister_2 mX6_whyNoRow lX6_78 rfl hW vld_x0 rfl rfl ⟨Nat.le_of_ble_eq_true rfl, Nat.le_of_ble_eq_true rfl⟩ ⟨Nat.zero_le _, Nat.zero_le _⟩ (Nat.le_of_ble_eq_true rfl) ?_
  refine wp_X6_whyNoRow (by exact hW) hX hO ?_
  refine ⟨_, rfl, ?_⟩
  refine g_istore_3 dX6_whyNoRegister_5 rfl ?_
  refine g_iload_n dX6_whyNoRegister_6 rfl rfl ?_
  refine g_if_eq (tgt := 12) dX6_whyNoRegister_7 (by decide) (fun c7 => ?_) (fun c7 => ?_)
  · rw [ng_0 (wnr_lt X s)] at c7
    refine g_iload_n dX6_whyNoRegister_12 rfl rfl ?_
    refine g_if_ge (tgt := 19) dX6_whyNoRegister_13 (by decide) (fun c13 => ?_) (fun c13 => ?_)
    · refine g_iload_n dX6_whyNoRegister_19 rfl rfl ?_
      refine g_aloadR_n dX6_whyNoRegister_20 rfl rfl ?_
      refine g_iload_n dX6_whyNoRegister_21 rfl rfl ?_
      refine n_v1r (n' := 0) dX6_whyNoRegister_22 mX6_shelfAt lX6_70 rfl hW vld_x0 rfl rfl ⟨Nat.le_of_ble_eq_true rfl, Nat.le_of_ble_eq_true rfl⟩ ⟨Nat.zero_le _, Nat.zero_le _⟩ (Nat.le_of_ble_eq_true rfl) ?_
      refine wp_X6_shelfAt (by exact hW) ?_
      refine ⟨_, rfl, ?_⟩
      refine n_getI dX6_whyNoRegister_25 fX6_288 rfl hW (vld_sh (shx_lt _)) (Or.inl rfl) ?_
      refine g_icmp_le (tgt := 36) dX6_whyNoRegister_28 (by decide) (fun c28 => ?_) (fun c28 => ?_)
      · rw [f2] at c28
        refine g_iload_n dX6_whyNoRegister_36 rfl rfl ?_
        refine g_bipush dX6_whyNoRegister_37 (v := 24) (by decide) ?_
        refine g_icmp_le (tgt := 47) dX6_whyNoRegister_39 (by decide) (fun c39 => ?_) (fun c39 => ?_)
        · refine g_iconst dX6_whyNoRegister_47 (v := 0) (by decide) ?_
          refine g_iret dX6_whyNoRegister_48 rfl ?_
          have e : wrg X s n = 0 := by
            unfold wrg
            try first | rw [if_pos c7] | rw [if_neg c7] | rw [if_neg (not_not_intro c7)]
            try first | rw [if_pos c13] | rw [if_neg c13] | rw [if_neg (not_not_intro c13)]
            try first | rw [if_pos c28] | rw [if_neg c28] | rw [if_neg (not_not_intro c28)]
            try first | rw [if_pos c39] | rw [if_neg c39] | rw [if_neg (not_not_intro c39)]
            try rfl
          rw [e] at h; exact h
        · refine g_bipush dX6_whyNoRegister_42 (v := (-6)) (by decide) ?_
          refine g_goto (tgt := 48) dX6_whyNoRegister_44 (by decide) ?_
          refine g_iret dX6_whyNoRegister_48 rfl ?_
          have e : wrg X s n = 6 := by
            unfold wrg
            try first | rw [if_pos c7] | rw [if_neg c7] | rw [if_neg (not_not_intro c7)]
            try first | rw [if_pos c13] | rw [if_neg c13] | rw [if_neg (not_not_intro c13)]
            try first | rw [if_pos c28] | rw [if_neg c28] | rw [if_neg (not_not_intro c28)]
            try first | rw [if_pos c39] | rw [if_neg c39] | rw [if_neg (not_not_intro c39)]
            try rfl
          rw [e] at h; exact h
      · rw [f2] at c28
        refine g_bipush dX6_whyNoRegister_31 (v := (-5)) (by decide) ?_
        refine g_goto (tgt := 48) dX6_whyNoRegister_33 (by decide) ?_
        refine g_iret dX6_whyNoRegister_48 rfl ?_
        have e : wrg X s n = 5 := by
          unfold wrg
          try first | rw [if_pos c7] | rw [if_neg c7] | rw [if_neg (not_not_intro c7)]
          try first | rw [if_pos c13] | rw [if_neg c13] | rw [if_neg (not_not_intro c13)]
          try first | rw [if_pos c28] | rw [if_neg c28] | rw [if_neg (not_not_intro c28)]
          try rfl
        rw [e] at h; exact h
    · refine g_bipush dX6_whyNoRegister_16 (v := (-4)) (by decide) ?_
      refine g_iret dX6_whyNoRegister_18 rfl ?_
      have e : wrg X s n = 4 := by
        unfold wrg
        try first | rw [if_pos c7] | rw [if_neg c7] | rw [if_neg (not_not_intro c7)]
        try first | rw [if_pos c13] | rw [if_neg c13] | rw [if_neg (not_not_intro c13)]
        try rfl
      rw [e] at h; exact h
  · rw [ng_0 (wnr_lt X s)] at c7
    refine g_iload_n dX6_whyNoRegister_10 rfl rfl ?_
    refine g_iret dX6_whyNoRegister_11 rfl ?_
    have e : wrg X s n = wnr X s := by
      unfold wrg
      try first | rw [if_pos c7] | rw [if_neg c7] | rw [if_neg (not_not_intro c7)]
      try rfl
    rw [e] at h; exact h
def regX (X : Sys) (s : Int32) (j : Nat) : Int32 := (elF (shV X s) (nI j)).toInt32
def opJudge (X : Sys) (s n : Int32) : Int32 × Sys := if ¬ wrg X s n = 0 then ((rfX X (wrg X s n)).1 - 10, (rfX X (wrg X s n)).2) else (fwR (regX X s) (xS X) n.toNatClampNeg 0, X)
set_option maxHeartbeats 4000000 in
set_option maxRecDepth 100000 in
theorem wp_X6_judge {E : Ev} {M : Mem} {Q : QT} (hW : Wi M) {X : Sys} (hX : RepCl M X) (hO : OkX X) {s n : Int32} (h : ∀ M', FrC M M' → RepCl M' (opJudge X s n).2 → Q (some (vI (opJudge X s n).1)) M') : Mth E 7 0 0 kX6_judge [vR (0, 0, 0), vI s, vI n] M Q := by
  have hR0 := hX.1
  have hsz := hX.1.1
  have hs10 : (xS X).1 ≤ 10 := hO.1.1
  have hr := hX.sh s
  have ho := hO.sh s
  have ll := ho.len
  refine mth_of (by decide +kernel) [some (vR (0, 0, 0)), some (vI s), some (vI n), none] (Nat.le_of_ble_eq_true rfl) rfl ?_
  refine g_aloadR_n dX6_judge_0 rfl rfl ?_
  refine g_iload_n dX6_judge_1 rfl rfl ?_
  refine g_iload_n dX6_judge_2 rfl rfl ?_
  refine n_v2i (n' := 2) dX6_judge_3 mX6_whyNoRegister lX6_249 rfl hW vld_x0 rfl rfl ⟨Nat.le_of_ble_eq_true rfl, Nat.le_of_ble_eq_true rfl⟩ ⟨Nat.zero_le _, Nat.zero_le _⟩ (Nat.le_of_ble_eq_true rfl) ?_
  refine wp_X6_whyNoRegister (by exact hW) hX hO ?_
  refine ⟨_, rfl, ?_⟩
  refine g_istore_3 dX6_judge_6 rfl ?_
  refine g_iload_n dX6_judge_7 rfl rfl ?_
  refine g_if_eq (tgt := 20) dX6_judge_8 (by decide) (fun c8 => ?_) (fun c8 => ?_)
  · rw [ng_0 (wrg_lt X s n)] at c8
    have hw2 := wrg_0 c8
    have hn1 : n = nI n.toNatClampNeg := clamp_eq (fun q => by simp only [Int32.lt_iff_toInt_lt, zcs] at q; omega)
    have hc0 : n.toNatClampNeg = n.toInt.toNat := rfl
    have hn24 : n.toNatClampNeg ≤ 24 := by omega
    refine g_aloadR_n dX6_judge_20 rfl rfl ?_
    refine n_getR dX6_judge_21 fX6_16 rfl hW vld_x0 rfl rfl ?_
    refine g_aloadR_n dX6_judge_24 rfl rfl ?_
    refine n_getR dX6_judge_25 fX6_10 rfl hW vld_x0 rfl rfl ?_
    refine n_v1v (n' := 1) dX6_judge_28 mX4_become lX6_186 rfl hW (vld_sc (by decide : 1 < 4)) rfl rfl ⟨Nat.le_of_ble_eq_true rfl, Nat.le_of_ble_eq_true rfl⟩ ⟨Nat.zero_le _, Nat.zero_le _⟩ (Nat.le_of_ble_eq_true rfl) ?_
    refine wp_X4_become (by exact hW) (by decide : 1 < 4) (by decide : 0 < 4) (by decide) hR0 hO.1 (fun M2 hf2 hP2 => ?_)
    have hW2 := hf2.W hW
    have hd2 : FrI DX M M2 := hf2.mono Dk1_DX
    refine ⟨rfl, ?_⟩
    refine g_aloadR_n dX6_judge_31 rfl rfl ?_
    refine n_getR dX6_judge_32 fX6_25 rfl hW2 vld_x0 rfl rfl ?_
    refine g_aloadR_n dX6_judge_35 rfl rfl ?_
    refine n_getR dX6_judge_36 fX6_16 rfl hW2 vld_x0 rfl rfl ?_
    refine g_aloadR_n dX6_judge_39 rfl rfl ?_
    refine g_iload_n dX6_judge_40 rfl rfl ?_
    refine n_v1r (n' := 0) dX6_judge_41 mX6_shelfAt lX6_70 rfl hW2 vld_x0 rfl rfl ⟨Nat.le_of_ble_eq_true rfl, Nat.le_of_ble_eq_true rfl⟩ ⟨Nat.zero_le _, Nat.zero_le _⟩ (Nat.le_of_ble_eq_true rfl) ?_
    refine wp_X6_shelfAt (by exact hW2) ?_
    refine ⟨_, rfl, ?_⟩
    refine g_iload_n dX6_judge_44 rfl rfl ?_
    refine n_v3i (n' := 6) dX6_judge_45 mX1_firstWrong lX6_253 rfl hW2 vld_x4 rfl rfl ⟨Nat.le_of_ble_eq_true rfl, Nat.le_of_ble_eq_true rfl⟩ ⟨Nat.zero_le _, Nat.zero_le _⟩ (Nat.le_of_ble_eq_true rfl) ?_
    rw [hn1]
    refine wp_X1_firstWrong (by exact hW2) (by decide : 1 < 4) hP2 hO.1 (shx_lt _) ((hX.hd hd2).sh s).f.2.2 ll hn24 (fun M4 hf4 => ?_)
    have hW4 := hf4.W (by exact hW2)
    have hd4 : FrI DX M M4 := hd2.tr (hf4.mono Dk1_DX)
    have hrg4 : regV M2 (shx s) (lenF (shV X s)) = regX X s := funext fun j => by unfold regV regX; rw [el_eq ((hX.hd hd2).sh s) ho]
    rw [hrg4]
    refine ⟨_, rfl, ?_⟩
    refine g_iret dX6_judge_48 rfl ?_
    have e : opJudge X s n = (fwR (regX X s) (xS X) n.toNatClampNeg 0, X) := by
      unfold opJudge
      try first | rw [if_pos c8] | rw [if_neg c8] | rw [if_neg (not_not_intro c8)]
      try rfl
    rw [e] at h
    exact h _ (frC_DX hd4) (hX.hd hd4)
  · rw [ng_0 (wrg_lt X s n)] at c8
    refine g_aloadR_n dX6_judge_11 rfl rfl ?_
    refine g_iload_n dX6_judge_12 rfl rfl ?_
    refine n_v1i (n' := 0) dX6_judge_13 mX6_refuse lX6_66 rfl hW vld_x0 rfl rfl ⟨Nat.le_of_ble_eq_true rfl, Nat.le_of_ble_eq_true rfl⟩ ⟨Nat.zero_le _, Nat.zero_le _⟩ (Nat.le_of_ble_eq_true rfl) ?_
    refine wp_X6_refuse (j := wrg X s n) (by exact hW) (wrg_lt X s n) (nn_nI _) ?_
    refine ⟨_, rfl, ?_⟩
    refine g_bipush dX6_judge_16 (v := 10) (by decide) ?_
    refine g_isub dX6_judge_18 ?_
    refine g_iret dX6_judge_19 rfl ?_
    have e : opJudge X s n = ((rfX X (wrg X s n)).1 - 10, (rfX X (wrg X s n)).2) := by
      unfold opJudge
      try first | rw [if_pos c8] | rw [if_neg c8] | rw [if_neg (not_not_intro c8)]
      try rfl
    rw [e] at h
    exact h _ (frC_sI (by decide)) (repCl_rfz hX (by omega) (wrg_lt X s n))
theorem bt_om0 : (List.range 11).all (fun a => (List.range 2048).all fun m => m.testBit a || (m + 2 ^ a == m ||| 2 ^ a)) = true := by decide +kernel
theorem bt_om {a m : Nat} (ha : a < 11) (hm : m < 2048) (hb : ¬ m.testBit a = true) : m + 2 ^ a = m ||| 2 ^ a := by
  have h := List.all_eq_true.mp (List.all_eq_true.mp bt_om0 a (List.mem_range.mpr ha)) m (List.mem_range.mpr hm)
  simp only [Bool.or_eq_true, beq_iff_eq] at h
  exact h.resolve_left hb
def frO (S : Sc) (l : Nat) : Int32 := if l = 0 then -1 else nI (l - 1)
def frB (S : Sc) (l : Nat) : Nat := if l = 0 then S.1 else l - 1
def frW (X : Sys) (s : Int32) (n x : Nat) (l : Nat) : Bool := !(frO (xS X) l == nI x) && fwR (regX X s) (upS (xS X) x 4 (frO (xS X) l)) n 0 == -1
def frF (X : Sys) (s : Int32) (n x : Nat) : Nat → Nat
  | 0 => 0
  | l + 1 => frF X s n x l + (if frW X s n x l = true then 2 ^ frB (xS X) l else 0)
/-- only bits that were asked -/
theorem frF_bit (X : Sys) (s : Int32) (n x : Nat) (hs : (xS X).1 ≤ 10) : ∀ l, l ≤ (xS X).1 + 1 → frF X s n x l < 2048 ∧ ∀ b, (frF X s n x l).testBit b = true → ∃ l', l' < l ∧ b = frB (xS X) l' := by
  intro l
  induction l with
  | zero => intro _; exact ⟨by simp [frF], fun b hb => by simp [frF] at hb⟩
  | succ l ih =>
    intro hl
    obtain ⟨i1, i2⟩ := ih (by omega)
    simp only [frF]
    have hb11 : frB (xS X) l < 11 := by unfold frB; split <;> omega
    have hnb : ¬ (frF X s n x l).testBit (frB (xS X) l) = true := fun q => by
      obtain ⟨l', h1, h2⟩ := i2 _ q
      unfold frB at h2
      by_cases a : l = 0
      · omega
      · rw [if_neg a] at h2
        by_cases b : l' = 0
        · rw [if_pos b] at h2; omega
        · rw [if_neg b] at h2; omega
    by_cases q : frW X s n x l = true
    · rw [if_pos q]
      obtain ⟨g1, g2⟩ := bt_og hb11 i1 hnb
      refine ⟨g2, fun b hb => ?_⟩
      by_cases hbb : b = frB (xS X) l
      · exact ⟨l, by omega, hbb⟩
      · have hor : (frF X s n x l + 2 ^ frB (xS X) l).testBit b = (frF X s n x l).testBit b := by
          rw [bt_om hb11 i1 hnb, Nat.testBit_or, Nat.testBit_two_pow_of_ne (fun z => hbb z.symm)]; simp
        rw [hor] at hb
        obtain ⟨l', h1, h2⟩ := i2 b hb
        exact ⟨l', by omega, h2⟩
    · rw [if_neg q, Nat.add_zero]
      exact ⟨i1, fun b hb => by obtain ⟨l', h1, h2⟩ := i2 b hb; exact ⟨l', by omega, h2⟩⟩
theorem OkS.up4 {S : Sc} (h : OkS S) {x : Nat} {v : Int32} (hv : v = -1 ∨ IN v S.1) : OkS (upS S x 4 v) := by
  obtain ⟨h1, h2, h3, h4, h5, h6⟩ := h
  refine ⟨h1, h2, h3, h4, h5, fun i hi => ?_⟩
  obtain ⟨p0, p1, p2, p3, p4, p5, p8⟩ := h6 i hi
  refine ⟨?_, ?_, ?_, ?_, ?_, ?_, ?_⟩ <;> simp only [upS]
  · rw [if_neg (by omega)]; exact p0
  · rw [if_neg (by omega)]; exact p1
  · rw [if_neg (by omega)]; exact p2
  · rw [if_neg (by omega)]; exact p3
  · by_cases q : i = x
    · rw [if_pos ⟨q, trivial⟩]; exact hv
    · rw [if_neg (fun z => q z.1)]; exact p4
  · rw [if_neg (by omega)]; exact p5
  · rw [if_neg (by omega)]; exact p8
theorem frO_inc (S : Sc) (j : Nat) : frO S j + Int32.ofInt 1 = frO S (j + 1) := by
  unfold frO
  by_cases q : j = 0
  · subst q; rw [if_pos rfl, if_neg (by omega)]; decide
  · rw [if_neg q, if_neg (by omega)]; obtain ⟨z, rfl⟩ : ∃ z, j = z + 1 := ⟨j - 1, by omega⟩
    exact nI_inc z
theorem frO_ge {S : Sc} {j n : Nat} (hj : j ≤ 11) (hn : n ≤ 10) : nI n ≤ frO S j ↔ n + 1 ≤ j := by
  unfold frO
  by_cases q : j = 0
  · subst q; rw [if_pos rfl]
    have h1 := nI_toInt (n := n) (by omega)
    simp only [Int32.le_iff_toInt_le, zcs]; omega
  · rw [if_neg q, nI_leI (by omega) (by omega)]; omega
set_option maxHeartbeats 4000000 in
set_option maxRecDepth 100000 in
theorem lp_X6_friends {E : Ev} {M : Mem} {Q : QT} (hW : Wi M) {X : Sys} (hX : RepCl M X) (hO : OkX X) {s : Int32} {n x : Nat} {x4 : Int32} (hn24 : n ≤ 24) (hx : x < (xS X).1) (h : ∀ M', FrC M M' → RepCl M' X → Q (some (vI (nI (frF X s n x ((xS X).1 + 1))))) M') : ∀ j, j ≤ (xS X).1 + 1 → ∀ (M1 : Mem), FrI DX M M1 → G E (rm 7 0 0) kX6_friends (ZQ E Q 0 0) 0 0 41 [some (vR (0, 0, 0)), some (vI s), some (vI (nI n)), some (vI (nI x)), some (vI x4), some (vI (nI (frF X s n x j))), some (vI (frO (xS X) j))] [] M1 := by
  refine up_loop ((xS X).1 + 1) (fun j hj ih M1 hdl => ?_)
  have hW1 := hdl.W hW
  have hXl := hX.hd hdl
  have hs10 : (xS X).1 ≤ 10 := hO.1.1
  have ho := hO.sh s
  have ll := ho.len
  obtain ⟨fb1, fb2⟩ := frF_bit X s n x hs10 j hj
  have hfo : frO (xS X) j = -1 ∨ j < (xS X).1 + 1 → frO (xS X) j = -1 ∨ IN (frO (xS X) j) (xS X).1 := fun hq => by
    unfold frO
    by_cases q : j = 0
    · rw [if_pos q]; exact Or.inl rfl
    · rw [if_neg q]
      refine Or.inr (IN_of ?_ (by omega))
      rcases hq with hq | hq
      · exfalso; unfold frO at hq; rw [if_neg q] at hq
        have := nI_toInt (n := j - 1) (by omega)
        rw [hq] at this; simp only [zcs] at this; omega
      · omega
  refine g_iload dX6_friends_41 rfl ?_
  refine g_aloadR_n dX6_friends_43 rfl rfl ?_
  refine n_getR dX6_friends_44 fX6_10 rfl hW1 vld_x0 rfl rfl ?_
  refine n_getI dX6_friends_47 fX6_233 rfl hW1 (vld_sc (by decide : 0 < 4)) (Or.inl rfl) ?_
  refine g_icmp_ge (tgt := 138) dX6_friends_50 (by decide) (fun c50 => ?_) (fun c50 => ?_)
  · rw [hXl.1.1, frO_ge (by omega) hs10] at c50
    have hj2 : j = (xS X).1 + 1 := by omega
    subst hj2
    refine g_iload dX6_friends_138 rfl ?_
    refine g_iret dX6_friends_140 rfl ?_
    exact h M1 (frC_DX hdl) hXl
  · rw [hXl.1.1, frO_ge (by omega) hs10] at c50
    have hjn : j < (xS X).1 + 1 := by omega
    have hfo := hfo (Or.inr hjn)
    refine g_iload dX6_friends_53 rfl ?_
    refine g_iload_n dX6_friends_55 rfl rfl ?_
    refine g_icmp_ne (tgt := 62) dX6_friends_56 (by decide) (fun c56 => ?_) (fun c56 => ?_)
    · refine g_aloadR_n dX6_friends_62 rfl rfl ?_
      refine n_getR dX6_friends_63 fX6_16 rfl hW1 vld_x0 rfl rfl ?_
      refine g_aloadR_n dX6_friends_66 rfl rfl ?_
      refine n_getR dX6_friends_67 fX6_10 rfl hW1 vld_x0 rfl rfl ?_
      refine n_v1v (n' := 1) dX6_friends_70 mX4_become lX6_186 rfl hW1 (vld_sc (by decide : 1 < 4)) rfl rfl ⟨Nat.le_of_ble_eq_true rfl, Nat.le_of_ble_eq_true rfl⟩ ⟨Nat.zero_le _, Nat.zero_le _⟩ (Nat.le_of_ble_eq_true rfl) ?_
      refine wp_X4_become (by exact hW1) (by decide : 1 < 4) (by decide : 0 < 4) (by decide) hXl.1 hO.1 (fun M1a hf1a hP1a => ?_)
      have hW1 := hf1a.W hW1
      have hd1 : FrI DX M M1a := hdl.tr (hf1a.mono Dk1_DX)
      have hd1c : FrI DX M (sI M1a (2, 1, x) 4 (frO (xS X) j)) := hd1.tr (frDk2.mono Dk1_DX)
      have hP1c : RepC (sI M1a (2, 1, x) 4 (frO (xS X) j)) 1 (upS (xS X) x 4 (frO (xS X) j)) := hP1a.upP
      refine ⟨rfl, ?_⟩
      refine g_aloadR_n dX6_friends_73 rfl rfl ?_
      refine n_getR dX6_friends_74 fX6_16 rfl hW1 vld_x0 rfl rfl ?_
      refine g_iload_n dX6_friends_77 rfl rfl ?_
      refine n_v1r (n' := 0) dX6_friends_78 mX4_one lX6_129 rfl hW1 (vld_sc (by decide : 1 < 4)) rfl rfl ⟨Nat.le_of_ble_eq_true rfl, Nat.le_of_ble_eq_true rfl⟩ ⟨Nat.zero_le _, Nat.zero_le _⟩ (Nat.le_of_ble_eq_true rfl) ?_
      refine wp_X4_oneN (by exact hW1) (by decide : 1 < 4) (by omega) ?_
      refine ⟨_, rfl, ?_⟩
      refine g_iload dX6_friends_81 rfl ?_
      refine n_putI dX6_friends_83 fX6_151 rfl hW1 (vld_pe (by decide : 1 < 4) (show x < 11 by omega)) rfl ?_
      refine g_aloadR_n dX6_friends_86 rfl rfl ?_
      refine n_getR dX6_friends_87 fX6_25 rfl hW1 vld_x0 rfl rfl ?_
      refine g_aloadR_n dX6_friends_90 rfl rfl ?_
      refine n_getR dX6_friends_91 fX6_16 rfl hW1 vld_x0 rfl rfl ?_
      refine g_aloadR_n dX6_friends_94 rfl rfl ?_
      refine g_iload_n dX6_friends_95 rfl rfl ?_
      refine n_v1r (n' := 0) dX6_friends_96 mX6_shelfAt lX6_70 rfl hW1 vld_x0 rfl rfl ⟨Nat.le_of_ble_eq_true rfl, Nat.le_of_ble_eq_true rfl⟩ ⟨Nat.zero_le _, Nat.zero_le _⟩ (Nat.le_of_ble_eq_true rfl) ?_
      refine wp_X6_shelfAt (by exact hW1) ?_
      refine ⟨_, rfl, ?_⟩
      refine g_iload_n dX6_friends_99 rfl rfl ?_
      refine n_v3i (n' := 6) dX6_friends_100 mX1_firstWrong lX6_253 rfl hW1 vld_x4 rfl rfl ⟨Nat.le_of_ble_eq_true rfl, Nat.le_of_ble_eq_true rfl⟩ ⟨Nat.zero_le _, Nat.zero_le _⟩ (Nat.le_of_ble_eq_true rfl) ?_
      have hXc := hX.hd hd1c
      refine wp_X1_firstWrong (by exact hW1) (by decide : 1 < 4) hP1c (OkS.up4 hO.1 hfo) (shx_lt _) (hXc.sh s).f.2.2 ll hn24 (fun M4b hf4b => ?_)
      have hW4 : Wi M4b := hf4b.W (by exact hW1)
      have hd4 : FrI DX M M4b := hd1c.tr (hf4b.mono Dk1_DX)
      have hrg4 : regV (sI M1a (2, 1, x) 4 (frO (xS X) j)) (shx s) (lenF (shV X s)) = regX X s := funext fun i => by unfold regV regX; rw [el_eq (hXc.sh s) ho]
      rw [hrg4]
      have hXn := hX.hd hd4
      refine ⟨_, rfl, ?_⟩
      refine g_iconst dX6_friends_103 (v := (-1)) (by decide) ?_
      refine g_icmp_ne (tgt := 132) dX6_friends_104 (by decide) (fun c104 => ?_) (fun c104 => ?_)
      · have hq : ¬ frW X s n x j = true := fun q => by
          unfold frW at q; simp only [Bool.and_eq_true, beq_iff_eq] at q; exact c104 q.2
        refine g_iinc_6 (v := frO (xS X) (j + 1)) dX6_friends_132 rfl (frO_inc _ _) ?_
        refine g_goto (tgt := 41) dX6_friends_135 (by decide) ?_
        have hi := ih hjn _ hd4
        rw [frF] at hi
        first
          | (rw [if_pos hq] at hi; exact hi)
          | (rw [if_neg hq, Nat.add_zero] at hi; exact hi)
      · have c104 : fwR (regX X s) (upS (xS X) x 4 (frO (xS X) j)) n 0 = -1 := by first | exact c104 | exact Decidable.not_not.mp c104
        have hq : frW X s n x j = true := by
          unfold frW; simp only [Bool.and_eq_true, beq_iff_eq, Bool.not_eq_true', beq_eq_false_iff_ne]; exact ⟨by first | exact c56 | exact fun z => c56 z, c104⟩
        have hb11 : frB (xS X) j < 11 := by unfold frB; split <;> omega
        have hnb : ¬ (frF X s n x j).testBit (frB (xS X) j) = true := fun q => by
          obtain ⟨l', h1, h2⟩ := fb2 _ q
          unfold frB at h2
          by_cases a : j = 0
          · omega
          · rw [if_neg a] at h2
            by_cases b : l' = 0
            · rw [if_pos b] at h2; omega
            · rw [if_neg b] at h2; omega
        obtain ⟨g1, g2⟩ := bt_og hb11 fb1 hnb
        refine g_iload dX6_friends_107 rfl ?_
        refine g_iconst dX6_friends_109 (v := 1) (by decide) ?_
        refine g_iload dX6_friends_110 rfl ?_
        refine g_iconst dX6_friends_112 (v := (-1)) (by decide) ?_
        refine g_icmp_ne (tgt := 126) dX6_friends_113 (by decide) (fun c113 => ?_) (fun c113 => ?_)
        · have hbe : frO (xS X) j = nI (frB (xS X) j) := by
            unfold frO at c113 ⊢; unfold frB
            by_cases q : j = 0
            · rw [if_pos q] at c113; exact absurd rfl c113
            · rw [if_neg q, if_neg q]
          refine g_iload dX6_friends_126 rfl ?_
          refine g_ishl dX6_friends_128 ?_
          refine g_ior dX6_friends_129 ?_
          refine g_top (fun z ez => ?_)
          rw [hbe, g1] at ez
          subst ez
          refine g_istore_5 dX6_friends_130 rfl ?_
          refine g_iinc_6 (v := frO (xS X) (j + 1)) dX6_friends_132 rfl (frO_inc _ _) ?_
          refine g_goto (tgt := 41) dX6_friends_135 (by decide) ?_
          have hi := ih hjn _ hd4
          rw [frF] at hi
          first
            | (rw [if_pos hq] at hi; exact hi)
            | (rw [if_neg hq, Nat.add_zero] at hi; exact hi)
        · have c113 : frO (xS X) j = -1 := by first | exact c113 | exact Decidable.not_not.mp c113
          have hbe : mI M4b (1, 0, 0) 2 = nI (frB (xS X) j) := by
            have hj0 : j = 0 := by
              unfold frO at c113
              by_cases q : j = 0
              · exact q
              · rw [if_neg q] at c113
                have := nI_toInt (n := j - 1) (by omega)
                rw [c113] at this; simp only [zcs] at this; omega
            unfold frB; rw [if_pos hj0]; exact hXn.1.1
          refine g_aloadR_n dX6_friends_116 rfl rfl ?_
          refine n_getR dX6_friends_117 fX6_10 rfl hW4 vld_x0 rfl rfl ?_
          refine n_getI dX6_friends_120 fX6_233 rfl hW4 (vld_sc (by decide : 0 < 4)) (Or.inl rfl) ?_
          refine g_goto (tgt := 128) dX6_friends_123 (by decide) ?_
          refine g_ishl dX6_friends_128 ?_
          refine g_ior dX6_friends_129 ?_
          refine g_top (fun z ez => ?_)
          rw [hbe, g1] at ez
          subst ez
          refine g_istore_5 dX6_friends_130 rfl ?_
          refine g_iinc_6 (v := frO (xS X) (j + 1)) dX6_friends_132 rfl (frO_inc _ _) ?_
          refine g_goto (tgt := 41) dX6_friends_135 (by decide) ?_
          have hi := ih hjn _ hd4
          rw [frF] at hi
          first
            | (rw [if_pos hq] at hi; exact hi)
            | (rw [if_neg hq, Nat.add_zero] at hi; exact hi)
    · have hq : ¬ frW X s n x j = true := by
        have c56 : frO (xS X) j = nI x := by first | exact c56 | exact Decidable.not_not.mp c56
        unfold frW; rw [c56]; simp
      refine g_goto (tgt := 132) dX6_friends_59 (by decide) ?_
      refine g_iinc_6 (v := frO (xS X) (j + 1)) dX6_friends_132 rfl (frO_inc _ _) ?_
      refine g_goto (tgt := 41) dX6_friends_135 (by decide) ?_
      have hi := ih hjn _ hdl
      rw [frF] at hi
      first
        | (rw [if_pos hq] at hi; exact hi)
        | (rw [if_neg hq, Nat.add_zero] at hi; exact hi)
