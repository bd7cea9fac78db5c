/-! THE CLASS'S OWN METHODS: SHELVES AND THE SCHOOL -/
def elF (v : Sf) (i : Int32) : Int64 := if IN i (lenF v) then v.2.2.2.2 i.toNatClampNeg else 0
theorem el_eq {M : Mem} {s : Nat} {v : Sf} {n : Nat} (hr : RepSf M s v) (ho : OkSf n v) (i : Int32) : elV M s (lenF v) i = elF v i := by
  unfold elV elF
  by_cases q : IN i (lenF v)
  · rw [if_pos q, if_pos q]
    have hl := IN_nI q
    have h1 : v.1 = 1 := by by_cases h1 : v.1 = 1; exact h1; exfalso; have := hl.2; unfold lenF at this; rw [if_neg h1] at this; omega
    exact hr.j h1 (by have := ho.len; omega)
  · rw [if_neg q, if_neg q]
def upS (S : Sc) (i f : Nat) (v : Int32) : Sc := (S.1, S.2.1, fun i' f' => if i' = i ∧ f' = f then v else S.2.2 i' f')
def gS (S : Sc) (j : Nat) (v : Int32) : Sc := (S.1, fun i => if i = j then v else S.2.1 i, S.2.2)
theorem RepC.upP {M : Mem} {k i f : Nat} {S : Sc} {x : Int32} (h : RepC M k S) : RepC (sI M (2, k, i) f x) k (upS S i f x) := by
  refine ⟨(congrFun (sI_hk _ (by intro q; cases q)).1 2).trans h.1, fun j a b => (congrFun (sI_hk _ (by intro q; cases q)).1 _).trans (h.2.1 j a b), fun i' f' hi hf => ?_⟩
  simp only [mI, sI, upS]
  by_cases q : i' = i ∧ f' = f
  · rw [if_pos ⟨by rw [q.1], q.2⟩, if_pos q]
  · rw [if_neg (fun z => q ⟨by have := z.1; injection this with _ z2; injection z2, z.2⟩), if_neg q]; exact h.2.2 i' f' hi hf
theorem RepC.upG {M : Mem} {k j : Nat} {S : Sc} {x : Int32} (h : RepC M k S) (hj : 1 ≤ j) : RepC (sI M (1, k, 0) (j + 2) x) k (gS S j x) := by
  refine ⟨?_, fun j' a b => ?_, fun i' f' hi hf => (congrFun (sI_hk _ (by intro q; cases q)).1 _).trans (h.2.2 i' f' hi hf)⟩
  · simp only [mI, sI]; rw [if_neg (by intro q; have := q.2; omega)]; exact h.1
  · simp only [mI, sI, gS]
    by_cases q : j' = j
    · rw [if_pos ⟨trivial, by omega⟩, if_pos q]
    · rw [if_neg (by intro z; have := z.2; omega), if_neg q]; exact h.2.1 j' a b
theorem frDk1 {M : Mem} {k f : Nat} {x : Int32} : FrI (Dk k) M (sI M (1, k, 0) f x) := fr_sI ⟨Or.inl rfl, rfl⟩
theorem frDk2 {M : Mem} {k i f : Nat} {x : Int32} : FrI (Dk k) M (sI M (2, k, i) f x) := fr_sI ⟨Or.inr rfl, rfl⟩
theorem frC_Dk {M M' : Mem} {k : Nat} (h : FrI (Dk k) M M') : FrC M M' := FrC.of h D_lt.1
set_option maxHeartbeats 4000000 in
set_option maxRecDepth 100000 in
theorem wp_X6_element {E : Ev} {M : Mem} {Q : QT} (hW : Wi M) {X : Sys} (hX : RepCl M X) (hO : OkX X) {s i : Int32} (h : Q (some (vL (elF (shV X s) i))) M) : Mth E 1 0 0 kX6_element [vR (0, 0, 0), vI s, vI i] M Q := by
  have hr := hX.sh s
  have ho := hO.sh s
  have ll := ho.len
  obtain ⟨f0, f1, f2⟩ := hr.f
  refine mth_of (by decide +kernel) [some (vR (0, 0, 0)), some (vI s), some (vI i)] (Nat.le_of_ble_eq_true rfl) rfl ?_
  refine g_aloadR_n dX6_element_0 rfl rfl ?_
  refine g_iload_n dX6_element_1 rfl rfl ?_
  refine n_v1r (n' := 0) dX6_element_2 mX6_shelfAt lX6_70 rfl hW vld_x0 rfl rfl ⟨Nat.le_of_ble_eq_true rfl, Nat.le_of_ble_eq_true rfl⟩ ⟨Nat.zero_le _, Nat.zero_le _⟩ (Nat.le_of_ble_eq_true rfl) ?_
  refine wp_X6_shelfAt (by exact hW) ?_
  refine ⟨_, rfl, ?_⟩
  refine g_iload_n dX6_element_5 rfl rfl ?_
  refine n_v1l (n' := 0) dX6_element_6 mX5_elementAt lX6_112 rfl hW (vld_sh (shx_lt _)) rfl rfl ⟨Nat.le_of_ble_eq_true rfl, Nat.le_of_ble_eq_true rfl⟩ ⟨Nat.zero_le _, Nat.zero_le _⟩ (Nat.le_of_ble_eq_true rfl) ?_
  refine wp_X5_elementAt (by exact hW) (shx_lt _) f2 ll ?_
  rw [el_eq hr ho]
  refine ⟨_, rfl, ?_⟩
  refine g_lret dX6_element_9 rfl ?_
  exact h
def opHolds (X : Sys) (s : Int32) : Int32 := if (shV X s).1 = 1 then 100 + (shV X s).2.1 else persF (shV X s)
set_option maxHeartbeats 4000000 in
set_option maxRecDepth 100000 in
theorem wp_X6_holds {E : Ev} {M : Mem} {Q : QT} (hW : Wi M) {X : Sys} (hX : RepCl M X) (hO : OkX X) {s : Int32} (h : Q (some (vI (opHolds X s))) M) : Mth E 1 0 0 kX6_holds [vR (0, 0, 0), vI s] M Q := by
  have hr := hX.sh s
  have ho := hO.sh s
  have ll := ho.len
  obtain ⟨f0, f1, f2⟩ := hr.f
  refine mth_of (by decide +kernel) [some (vR (0, 0, 0)), some (vI s), none] (Nat.le_of_ble_eq_true rfl) rfl ?_
  refine g_aloadR_n dX6_holds_0 rfl rfl ?_
  refine g_iload_n dX6_holds_1 rfl rfl ?_
  refine n_v1r (n' := 0) dX6_holds_2 mX6_shelfAt lX6_70 rfl hW vld_x0 rfl rfl ⟨Nat.le_of_ble_eq_true rfl, Nat.le_of_ble_eq_true rfl⟩ ⟨Nat.zero_le _, Nat.zero_le _⟩ (Nat.le_of_ble_eq_true rfl) ?_
  refine wp_X6_shelfAt (by exact hW) ?_
  refine ⟨_, rfl, ?_⟩
  refine g_astore_2 dX6_holds_5 rfl ?_
  refine g_aloadR_n dX6_holds_6 rfl rfl ?_
  refine n_v0i (n' := 0) dX6_holds_7 mX5_isRow lX6_88 rfl hW (vld_sh (shx_lt _)) rfl rfl ⟨Nat.le_of_ble_eq_true rfl, Nat.le_of_ble_eq_true rfl⟩ ⟨Nat.zero_le _, Nat.zero_le _⟩ (Nat.le_of_ble_eq_true rfl) ?_
  refine wp_isRow (by exact hW) (shx_lt _) hr ho ?_
  refine ⟨_, rfl, ?_⟩
  refine g_if_eq (tgt := 23) dX6_holds_10 (by decide) (fun c10 => ?_) (fun c10 => ?_)
  · simp only [b2_0, Decidable.not_not] at c10
    refine g_aloadR_n dX6_holds_23 rfl rfl ?_
    refine n_getI dX6_holds_24 fX6_123 rfl hW (vld_sh (shx_lt _)) (Or.inl rfl) ?_
    refine g_iret dX6_holds_27 rfl ?_
    refine qI h ?_
    unfold opHolds
    first
      | (rw [if_pos c10, f0]; exact congrArg (fun z => (100 : Int32) + z) (if_pos c10))
      | (rw [if_neg c10, f1])
  · simp only [b2_0, Decidable.not_not] at c10
    refine g_bipush dX6_holds_13 (v := 100) (by decide) ?_
    refine g_aloadR_n dX6_holds_15 rfl rfl ?_
    refine n_getI dX6_holds_16 fX6_95 rfl hW (vld_sh (shx_lt _)) (Or.inl rfl) ?_
    refine g_iadd dX6_holds_19 ?_
    refine g_goto (tgt := 27) dX6_holds_20 (by decide) ?_
    refine g_iret dX6_holds_27 rfl ?_
    refine qI h ?_
    unfold opHolds
    first
      | (rw [if_pos c10, f0]; exact congrArg (fun z => (100 : Int32) + z) (if_pos c10))
      | (rw [if_neg c10, f1])
def opShow (X : Sys) (s p : Int32) : Int32 × Sys := if ¬ IN s 8 then rfX X 1 else if p = -1 then (0, setH X s.toNatClampNeg noSf) else if ¬ IN p (xS X).1 then rfX X 1 else (1, setH X s.toNatClampNeg (2, 0, p, 0, fun _ => 0))
set_option maxHeartbeats 4000000 in
set_option maxRecDepth 100000 in
theorem wp_X6_show {E : Ev} {M : Mem} {Q : QT} (hW : Wi M) {X : Sys} (hX : RepCl M X) (hO : OkX X) {s p : Int32} (h : ∀ M', FrC M M' → RepCl M' (opShow X s p).2 → Q (some (vI (opShow X s p).1)) M') : Mth E 2 0 0 kX6_show [vR (0, 0, 0), vI s, vI p] M Q := by
  have hR0 := hX.1
  have hsz := hX.1.1
  have hs10 : (xS X).1 ≤ 10 := hO.1.1
  refine mth_of (by decide +kernel) [some (vR (0, 0, 0)), some (vI s), some (vI p)] (Nat.le_of_ble_eq_true rfl) rfl ?_
  refine g_aloadR_n dX6_show_0 rfl rfl ?_
  refine g_iload_n dX6_show_1 rfl rfl ?_
  refine n_v1i (n' := 0) dX6_show_2 mX6_isShelf lX6_62 rfl hW vld_x0 rfl rfl ⟨Nat.le_of_ble_eq_true rfl, Nat.le_of_ble_eq_true rfl⟩ ⟨Nat.zero_le _, Nat.zero_le _⟩ (Nat.le_of_ble_eq_true rfl) ?_
  refine wp_X6_isShelf (by exact hW) ?_
  refine ⟨_, rfl, ?_⟩
  refine g_if_eq (tgt := 24) dX6_show_5 (by decide) (fun c5 => ?_) (fun c5 => ?_)
  · simp only [b2_0, Decidable.not_not] at c5
    refine g_aloadR_n dX6_show_24 rfl rfl ?_
    refine g_iconst dX6_show_25 (v := (-1)) (by decide) ?_
    refine n_v1i (n' := 0) dX6_show_26 mX6_refuse lX6_66 rfl hW vld_x0 rfl rfl ⟨Nat.le_of_ble_eq_true rfl, Nat.le_of_ble_eq_true rfl⟩ ⟨Nat.zero_le _, Nat.zero_le _⟩ (Nat.le_of_ble_eq_true rfl) ?_
    refine wp_X6_refuse (j := 1) (by exact hW) (by decide) (by decide) ?_
    refine ⟨_, rfl, ?_⟩
    refine g_iret dX6_show_29 rfl ?_
    have e : opShow X s p = rfX X 1 := by
      unfold opShow
      try first | rw [if_pos c5] | rw [if_neg c5] | rw [if_neg (not_not_intro c5)]
      try rfl
    rw [e] at h; exact h _ (frC_sI (by decide)) (repCl_rfz hX (by decide) (by decide))
  · simp only [b2_0, Decidable.not_not] at c5
    refine g_iload_n dX6_show_8 rfl rfl ?_
    refine g_iconst dX6_show_9 (v := (-1)) (by decide) ?_
    refine g_icmp_eq (tgt := 30) dX6_show_10 (by decide) (fun c10 => ?_) (fun c10 => ?_)
    · refine g_aloadR_n dX6_show_30 rfl rfl ?_
      refine g_iload_n dX6_show_31 rfl rfl ?_
      refine n_v1r (n' := 0) dX6_show_32 mX6_shelfAt lX6_70 rfl hW vld_x0 rfl rfl ⟨Nat.le_of_ble_eq_true rfl, Nat.le_of_ble_eq_true rfl⟩ ⟨Nat.zero_le _, Nat.zero_le _⟩ (Nat.le_of_ble_eq_true rfl) ?_
      refine wp_X6_shelfAt (by exact hW) ?_
      refine ⟨_, rfl, ?_⟩
      refine g_iload_n dX6_show_35 rfl rfl ?_
      refine n_v1v (n' := 0) dX6_show_36 mX5_holdPerson lX6_119 rfl hW (vld_sh (shx_lt _)) rfl rfl ⟨Nat.le_of_ble_eq_true rfl, Nat.le_of_ble_eq_true rfl⟩ ⟨Nat.zero_le _, Nat.zero_le _⟩ (Nat.le_of_ble_eq_true rfl) ?_
      refine wp_X5_holdPerson (by exact hW) (shx_lt _) ?_
      refine ⟨rfl, ?_⟩
      refine g_iload_n dX6_show_39 rfl rfl ?_
      refine g_iconst dX6_show_40 (v := (-1)) (by decide) ?_
      refine g_icmp_ne (tgt := 48) dX6_show_41 (by decide) (fun c41 => ?_) (fun c41 => ?_)
      · refine g_iconst dX6_show_48 (v := 1) (by decide) ?_
        refine g_iret dX6_show_49 rfl ?_
        exact absurd c10 c41
      · refine g_iconst dX6_show_44 (v := 0) (by decide) ?_
        refine g_goto (tgt := 49) dX6_show_45 (by decide) ?_
        refine g_iret dX6_show_49 rfl ?_
        have e : opShow X s p = (0, setH X s.toNatClampNeg noSf) := by
          unfold opShow
          try first | rw [if_pos c5] | rw [if_neg c5] | rw [if_neg (not_not_intro c5)]
          try first | rw [if_pos c10] | rw [if_neg c10] | rw [if_neg (not_not_intro c10)]
          try first | rw [if_pos c41] | rw [if_neg c41] | rw [if_neg (not_not_intro c41)]
          try rfl
        rw [e] at h
        obtain ⟨hs1, hs2⟩ := IN_nI c5
        rw [show shx s = s.toNatClampNeg from if_pos c5]
        refine h _ ((FrC.tr (frC_sI (show 5 < 20 by decide)) (frC_sI (show 5 < 20 by decide))).tr (frC_sI (show 5 < 20 by decide))) (hX.shelf hs2 (fun b h5 h6 => ⟨by funext j; simp [hpM, mI, sI, h5], rfl⟩) ?_)
        exact Or.inl ⟨rfl, by simp [hpM, mI, sI], by simp [hpM, mI, sI, c10], by simp [hpM, mI, sI]⟩
    · refine g_aloadR_n dX6_show_13 rfl rfl ?_
      refine n_getR dX6_show_14 fX6_10 rfl hW vld_x0 rfl rfl ?_
      refine g_iload_n dX6_show_17 rfl rfl ?_
      refine n_v1i (n' := 0) dX6_show_18 mX4_has lX6_116 rfl hW (vld_sc (by decide : 0 < 4)) rfl rfl ⟨Nat.le_of_ble_eq_true rfl, Nat.le_of_ble_eq_true rfl⟩ ⟨Nat.zero_le _, Nat.zero_le _⟩ (Nat.le_of_ble_eq_true rfl) ?_
      refine wp_X4_has (by exact hW) (by decide : 0 < 4) hsz hs10 ?_
      refine ⟨_, rfl, ?_⟩
      refine g_if_ne (tgt := 30) dX6_show_21 (by decide) (fun c21 => ?_) (fun c21 => ?_)
      · simp only [b2_0, Decidable.not_not] at c21
        refine g_aloadR_n dX6_show_30 rfl rfl ?_
        refine g_iload_n dX6_show_31 rfl rfl ?_
        refine n_v1r (n' := 0) dX6_show_32 mX6_shelfAt lX6_70 rfl hW vld_x0 rfl rfl ⟨Nat.le_of_ble_eq_true rfl, Nat.le_of_ble_eq_true rfl⟩ ⟨Nat.zero_le _, Nat.zero_le _⟩ (Nat.le_of_ble_eq_true rfl) ?_
        refine wp_X6_shelfAt (by exact hW) ?_
        refine ⟨_, rfl, ?_⟩
        refine g_iload_n dX6_show_35 rfl rfl ?_
        refine n_v1v (n' := 0) dX6_show_36 mX5_holdPerson lX6_119 rfl hW (vld_sh (shx_lt _)) rfl rfl ⟨Nat.le_of_ble_eq_true rfl, Nat.le_of_ble_eq_true rfl⟩ ⟨Nat.zero_le _, Nat.zero_le _⟩ (Nat.le_of_ble_eq_true rfl) ?_
        refine wp_X5_holdPerson (by exact hW) (shx_lt _) ?_
        refine ⟨rfl, ?_⟩
        refine g_iload_n dX6_show_39 rfl rfl ?_
        refine g_iconst dX6_show_40 (v := (-1)) (by decide) ?_
        refine g_icmp_ne (tgt := 48) dX6_show_41 (by decide) (fun c41 => ?_) (fun c41 => ?_)
        · refine g_iconst dX6_show_48 (v := 1) (by decide) ?_
          refine g_iret dX6_show_49 rfl ?_
          have e : opShow X s p = (1, setH X s.toNatClampNeg (2, 0, p, 0, fun _ => 0)) := by
            unfold opShow
            try first | rw [if_pos c5] | rw [if_neg c5] | rw [if_neg (not_not_intro c5)]
            try first | rw [if_pos c10] | rw [if_neg c10] | rw [if_neg (not_not_intro c10)]
            try first | rw [if_pos c21] | rw [if_neg c21] | rw [if_neg (not_not_intro c21)]
            try first | rw [if_pos c41] | rw [if_neg c41] | rw [if_neg (not_not_intro c41)]
            try rfl
          rw [e] at h
          obtain ⟨hs1, hs2⟩ := IN_nI c5
          rw [show shx s = s.toNatClampNeg from if_pos c5]
          refine h _ ((FrC.tr (frC_sI (show 5 < 20 by decide)) (frC_sI (show 5 < 20 by decide))).tr (frC_sI (show 5 < 20 by decide))) (hX.shelf hs2 (fun b h5 h6 => ⟨by funext j; simp [hpM, mI, sI, h5], rfl⟩) ?_)
          exact Or.inr (Or.inr ⟨rfl, by simp [hpM, mI, sI], by simp [hpM, mI, sI], by simp [hpM, mI, sI]⟩)
        · refine g_iconst dX6_show_44 (v := 0) (by decide) ?_
          refine g_goto (tgt := 49) dX6_show_45 (by decide) ?_
          refine g_iret dX6_show_49 rfl ?_
          exact absurd c41 c10
      · simp only [b2_0, Decidable.not_not] at c21
        refine g_aloadR_n dX6_show_24 rfl rfl ?_
        refine g_iconst dX6_show_25 (v := (-1)) (by decide) ?_
        refine n_v1i (n' := 0) dX6_show_26 mX6_refuse lX6_66 rfl hW vld_x0 rfl rfl ⟨Nat.le_of_ble_eq_true rfl, Nat.le_of_ble_eq_true rfl⟩ ⟨Nat.zero_le _, Nat.zero_le _⟩ (Nat.le_of_ble_eq_true rfl) ?_
        refine wp_X6_refuse (j := 1) (by exact hW) (by decide) (by decide) ?_
        refine ⟨_, rfl, ?_⟩
        refine g_iret dX6_show_29 rfl ?_
        have e : opShow X s p = rfX X 1 := by
          unfold opShow
          try first | rw [if_pos c5] | rw [if_neg c5] | rw [if_neg (not_not_intro c5)]
          try first | rw [if_pos c10] | rw [if_neg c10] | rw [if_neg (not_not_intro c10)]
          try first | rw [if_pos c21] | rw [if_neg c21] | rw [if_neg (not_not_intro c21)]
          try rfl
        rw [e] at h; exact h _ (frC_sI (by decide)) (repCl_rfz hX (by decide) (by decide))
def sayI (k : Int32) : Nat := if k = 1 ∨ k = 3 ∨ k = 6 then 7 else if k = 2 ∨ k = 4 then 5 else if k = 5 then 1 else 2
def opSays (X : Sys) (s k : Int32) : Int32 × Sys := if ¬ IN s 8 then rfX X 1 else if ¬ IN k 7 then rfX X 1 else if (shV X s).1 = 1 then rfX X 2 else if (shV X s).1 = 2 then (if undr 7 ((xS X).2.2 (shV X s).2.2.1.toNatClampNeg 0) k = 0 then rfX X 2 else ((xS X).2.2 (shV X s).2.2.1.toNatClampNeg (sayI k), X)) else rfX X 3
set_option maxHeartbeats 4000000 in
set_option maxRecDepth 100000 in
theorem wp_X6_says {E : Ev} {M : Mem} {Q : QT} (hW : Wi M) {X : Sys} (hX : RepCl M X) (hO : OkX X) {s k : Int32} (h : ∀ M', FrC M M' → RepCl M' (opSays X s k).2 → Q (some (vI (opSays X s k).1)) M') : Mth E 2 0 0 kX6_says [vR (0, 0, 0), vI s, vI k] M Q := by
  have hR0 := hX.1
  have hsz := hX.1.1
  have hs10 : (xS X).1 ≤ 10 := hO.1.1
  have hr := hX.sh s
  have ho := hO.sh s
  have ll := ho.len
  obtain ⟨f0, f1, f2⟩ := hr.f
  refine mth_of (by decide +kernel) [some (vR (0, 0, 0)), some (vI s), some (vI k), none, none] (Nat.le_of_ble_eq_true rfl) rfl ?_
  refine g_aloadR_n dX6_says_0 rfl rfl ?_
  refine g_iload_n dX6_says_1 rfl rfl ?_
  refine n_v1i (n' := 0) dX6_says_2 mX6_isShelf lX6_62 rfl hW vld_x0 rfl rfl ⟨Nat.le_of_ble_eq_true rfl, Nat.le_of_ble_eq_true rfl⟩ ⟨Nat.zero_le _, Nat.zero_le _⟩ (Nat.le_of_ble_eq_true rfl) ?_
  refine wp_X6_isShelf (by exact hW) ?_
  refine ⟨_, rfl, ?_⟩
  refine g_if_eq (tgt := 15) dX6_says_5 (by decide) (fun c5 => ?_) (fun c5 => ?_)
  · simp only [b2_0, Decidable.not_not] at c5
    refine g_aloadR_n dX6_says_15 rfl rfl ?_
    refine g_iconst dX6_says_16 (v := (-1)) (by decide) ?_
    refine n_v1i (n' := 0) dX6_says_17 mX6_refuse lX6_66 rfl hW vld_x0 rfl rfl ⟨Nat.le_of_ble_eq_true rfl, Nat.le_of_ble_eq_true rfl⟩ ⟨Nat.zero_le _, Nat.zero_le _⟩ (Nat.le_of_ble_eq_true rfl) ?_
    refine wp_X6_refuse (j := 1) (by exact hW) (by decide) (by decide) ?_
    refine ⟨_, rfl, ?_⟩
    refine g_iret dX6_says_20 rfl ?_
    have e : opSays X s k = rfX X 1 := by
      unfold opSays
      try first | rw [if_pos c5] | rw [if_neg c5] | rw [if_neg (not_not_intro c5)]
      try rfl
    rw [e] at h; exact h _ (frC_sI (by decide)) (repCl_rfz hX (by decide) (by decide))
  · simp only [b2_0, Decidable.not_not] at c5
    refine g_iload_n dX6_says_8 rfl rfl ?_
    refine n_s1i (n' := 0) dX6_says_9 mX6_isKind lX6_126 ⟨Nat.le_of_ble_eq_true rfl, Nat.le_of_ble_eq_true rfl⟩ ⟨Nat.zero_le _, Nat.zero_le _⟩ (Nat.le_of_ble_eq_true rfl) ?_
    refine wp_X6_isKind ?_
    refine ⟨_, rfl, ?_⟩
    refine g_if_ne (tgt := 21) dX6_says_12 (by decide) (fun c12 => ?_) (fun c12 => ?_)
    · simp only [b2_0, Decidable.not_not] at c12
      refine g_aloadR_n dX6_says_21 rfl rfl ?_
      refine g_iload_n dX6_says_22 rfl rfl ?_
      refine n_v1r (n' := 0) dX6_says_23 mX6_shelfAt lX6_70 rfl hW vld_x0 rfl rfl ⟨Nat.le_of_ble_eq_true rfl, Nat.le_of_ble_eq_true rfl⟩ ⟨Nat.zero_le _, Nat.zero_le _⟩ (Nat.le_of_ble_eq_true rfl) ?_
      refine wp_X6_shelfAt (by exact hW) ?_
      refine ⟨_, rfl, ?_⟩
      refine g_astore_3 dX6_says_26 rfl ?_
      refine g_aloadR_n dX6_says_27 rfl rfl ?_
      refine n_getR dX6_says_28 fX6_10 rfl hW vld_x0 rfl rfl ?_
      refine g_aloadR_n dX6_says_31 rfl rfl ?_
      refine n_getI dX6_says_32 fX6_123 rfl hW (vld_sh (shx_lt _)) (Or.inl rfl) ?_
      refine n_v1r (n' := 0) dX6_says_35 mX4_one lX6_129 rfl hW (vld_sc (by decide : 0 < 4)) rfl rfl ⟨Nat.le_of_ble_eq_true rfl, Nat.le_of_ble_eq_true rfl⟩ ⟨Nat.zero_le _, Nat.zero_le _⟩ (Nat.le_of_ble_eq_true rfl) ?_
      refine wp_X4_one (by exact hW) (by decide : 0 < 4) ?_
      refine ⟨_, rfl, ?_⟩
      refine g_astore_4 dX6_says_38 rfl ?_
      refine g_aloadR_n dX6_says_40 rfl rfl ?_
      refine n_v0i (n' := 0) dX6_says_41 mX5_isRow lX6_88 rfl hW (vld_sh (shx_lt _)) rfl rfl ⟨Nat.le_of_ble_eq_true rfl, Nat.le_of_ble_eq_true rfl⟩ ⟨Nat.zero_le _, Nat.zero_le _⟩ (Nat.le_of_ble_eq_true rfl) ?_
      refine wp_isRow (by exact hW) (shx_lt _) hr ho ?_
      refine ⟨_, rfl, ?_⟩
      refine g_if_ne (tgt := 66) dX6_says_44 (by decide) (fun c44 => ?_) (fun c44 => ?_)
      · simp only [b2_0, Decidable.not_not] at c44
        refine g_aloadR_n dX6_says_66 rfl rfl ?_
        refine g_bipush dX6_says_67 (v := (-2)) (by decide) ?_
        refine n_v1i (n' := 0) dX6_says_69 mX6_refuse lX6_66 rfl hW vld_x0 rfl rfl ⟨Nat.le_of_ble_eq_true rfl, Nat.le_of_ble_eq_true rfl⟩ ⟨Nat.zero_le _, Nat.zero_le _⟩ (Nat.le_of_ble_eq_true rfl) ?_
        refine wp_X6_refuse (j := 2) (by exact hW) (by decide) (by decide) ?_
        refine ⟨_, rfl, ?_⟩
        refine g_iret dX6_says_72 rfl ?_
        have e : opSays X s k = rfX X 2 := by
          unfold opSays
          try first | rw [if_pos c5] | rw [if_neg c5] | rw [if_neg (not_not_intro c5)]
          try first | rw [if_pos c12] | rw [if_neg c12] | rw [if_neg (not_not_intro c12)]
          try first | rw [if_pos c44] | rw [if_neg c44] | rw [if_neg (not_not_intro c44)]
          try rfl
        rw [e] at h; exact h _ (frC_sI (by decide)) (repCl_rfz hX (by decide) (by decide))
      · simp only [b2_0, Decidable.not_not] at c44
        refine g_aloadR_n dX6_says_47 rfl rfl ?_
        refine n_v0i (n' := 0) dX6_says_48 mX5_isPerson lX6_92 rfl hW (vld_sh (shx_lt _)) rfl rfl ⟨Nat.le_of_ble_eq_true rfl, Nat.le_of_ble_eq_true rfl⟩ ⟨Nat.zero_le _, Nat.zero_le _⟩ (Nat.le_of_ble_eq_true rfl) ?_
        refine wp_isPerson (by exact hW) (shx_lt _) hr ho ?_
        refine ⟨_, rfl, ?_⟩
        refine g_if_eq (tgt := 73) dX6_says_51 (by decide) (fun c51 => ?_) (fun c51 => ?_)
        · simp only [b2_0] at c51
          refine g_aloadR_n dX6_says_73 rfl rfl ?_
          refine n_v0i (n' := 0) dX6_says_74 mX5_isPerson lX6_92 rfl hW (vld_sh (shx_lt _)) rfl rfl ⟨Nat.le_of_ble_eq_true rfl, Nat.le_of_ble_eq_true rfl⟩ ⟨Nat.zero_le _, Nat.zero_le _⟩ (Nat.le_of_ble_eq_true rfl) ?_
          refine wp_isPerson (by exact hW) (shx_lt _) hr ho ?_
          refine ⟨_, rfl, ?_⟩
          refine g_if_eq (tgt := 89) dX6_says_77 (by decide) (fun c77 => ?_) (fun c77 => ?_)
          · simp only [b2_0, Decidable.not_not] at c77
            refine g_aloadR_n dX6_says_89 rfl rfl ?_
            refine g_bipush dX6_says_90 (v := (-3)) (by decide) ?_
            refine n_v1i (n' := 0) dX6_says_92 mX6_refuse lX6_66 rfl hW vld_x0 rfl rfl ⟨Nat.le_of_ble_eq_true rfl, Nat.le_of_ble_eq_true rfl⟩ ⟨Nat.zero_le _, Nat.zero_le _⟩ (Nat.le_of_ble_eq_true rfl) ?_
            refine wp_X6_refuse (j := 3) (by exact hW) (by decide) (by decide) ?_
            refine ⟨_, rfl, ?_⟩
            refine g_iret dX6_says_95 rfl ?_
            have e : opSays X s k = rfX X 3 := by
              unfold opSays
              try first | rw [if_pos c5] | rw [if_neg c5] | rw [if_neg (not_not_intro c5)]
              try first | rw [if_pos c12] | rw [if_neg c12] | rw [if_neg (not_not_intro c12)]
              try first | rw [if_pos c44] | rw [if_neg c44] | rw [if_neg (not_not_intro c44)]
              try first | rw [if_pos c51] | rw [if_neg c51] | rw [if_neg (not_not_intro c51)]
              try first | rw [if_pos c77] | rw [if_neg c77] | rw [if_neg (not_not_intro c77)]
              try rfl
            rw [e] at h; exact h _ (frC_sI (by decide)) (repCl_rfz hX (by decide) (by decide))
          · simp only [b2_0, Decidable.not_not] at c77
            refine g_aloadR dX6_says_80 rfl ?_
            refine g_iload_n dX6_says_82 rfl rfl ?_
            refine n_v1i (n' := 0) dX6_says_83 mX2_sayingAs lX6_141 rfl hW (vld_pe (by decide : 0 < 4) (pix_lt _)) rfl rfl ⟨Nat.le_of_ble_eq_true rfl, Nat.le_of_ble_eq_true rfl⟩ ⟨Nat.zero_le _, Nat.zero_le _⟩ (Nat.le_of_ble_eq_true rfl) ?_
            refine wp_X2_sayingAs (by exact hW) (by decide : 0 < 4) (pix_lt _) ?_
            refine ⟨_, rfl, ?_⟩
            refine g_goto (tgt := 95) dX6_says_86 (by decide) ?_
            refine g_iret dX6_says_95 rfl ?_
            exact absurd c77 c51
        · simp only [b2_0, Decidable.not_not] at c51
          have hpi : persF (shV X s) = (shV X s).2.2.1 := if_pos c51
          have hpp : IN (shV X s).2.2.1 (xS X).1 := ho.2.2 c51
          have hpn := (IN_nI hpp).2
          have px : pix (mI M (5, shx s, 0) 1) = (shV X s).2.2.1.toNatClampNeg := by rw [f1, hpi]; exact if_pos ⟨hpp.1, by have := hpp.2; omega⟩
          refine g_aloadR dX6_says_54 rfl ?_
          refine n_getI dX6_says_56 fX6_133 rfl hW (vld_pe (by decide : 0 < 4) (pix_lt _)) (Or.inl rfl) ?_
          refine g_iload_n dX6_says_59 rfl rfl ?_
          refine n_s2i (n' := 1) dX6_says_60 mX6_isUnder lX6_138 ⟨Nat.le_of_ble_eq_true rfl, Nat.le_of_ble_eq_true rfl⟩ ⟨Nat.zero_le _, Nat.zero_le _⟩ (Nat.le_of_ble_eq_true rfl) ?_
          refine wp_X6_isUnder ?_
          refine ⟨_, rfl, ?_⟩
          refine g_if_ne (tgt := 73) dX6_says_63 (by decide) (fun c63 => ?_) (fun c63 => ?_)
          · rw [px, hR0.2.2 _ 0 hpn (by decide)] at c63
            refine g_aloadR_n dX6_says_73 rfl rfl ?_
            refine n_v0i (n' := 0) dX6_says_74 mX5_isPerson lX6_92 rfl hW (vld_sh (shx_lt _)) rfl rfl ⟨Nat.le_of_ble_eq_true rfl, Nat.le_of_ble_eq_true rfl⟩ ⟨Nat.zero_le _, Nat.zero_le _⟩ (Nat.le_of_ble_eq_true rfl) ?_
            refine wp_isPerson (by exact hW) (shx_lt _) hr ho ?_
            refine ⟨_, rfl, ?_⟩
            refine g_if_eq (tgt := 89) dX6_says_77 (by decide) (fun c77 => ?_) (fun c77 => ?_)
            · simp only [b2_0, Decidable.not_not] at c77
              refine g_aloadR_n dX6_says_89 rfl rfl ?_
              refine g_bipush dX6_says_90 (v := (-3)) (by decide) ?_
              refine n_v1i (n' := 0) dX6_says_92 mX6_refuse lX6_66 rfl hW vld_x0 rfl rfl ⟨Nat.le_of_ble_eq_true rfl, Nat.le_of_ble_eq_true rfl⟩ ⟨Nat.zero_le _, Nat.zero_le _⟩ (Nat.le_of_ble_eq_true rfl) ?_
              refine wp_X6_refuse (j := 3) (by exact hW) (by decide) (by decide) ?_
              refine ⟨_, rfl, ?_⟩
              refine g_iret dX6_says_95 rfl ?_
              exact absurd c51 c77
            · simp only [b2_0, Decidable.not_not] at c77
              refine g_aloadR dX6_says_80 rfl ?_
              refine g_iload_n dX6_says_82 rfl rfl ?_
              refine n_v1i (n' := 0) dX6_says_83 mX2_sayingAs lX6_141 rfl hW (vld_pe (by decide : 0 < 4) (pix_lt _)) rfl rfl ⟨Nat.le_of_ble_eq_true rfl, Nat.le_of_ble_eq_true rfl⟩ ⟨Nat.zero_le _, Nat.zero_le _⟩ (Nat.le_of_ble_eq_true rfl) ?_
              refine wp_X2_sayingAs (by exact hW) (by decide : 0 < 4) (pix_lt _) ?_
              refine ⟨_, rfl, ?_⟩
              refine g_goto (tgt := 95) dX6_says_86 (by decide) ?_
              refine g_iret dX6_says_95 rfl ?_
              have e : opSays X s k = ((xS X).2.2 (shV X s).2.2.1.toNatClampNeg (sayI k), X) := by
                unfold opSays
                try first | rw [if_pos c5] | rw [if_neg c5] | rw [if_neg (not_not_intro c5)]
                try first | rw [if_pos c12] | rw [if_neg c12] | rw [if_neg (not_not_intro c12)]
                try first | rw [if_pos c44] | rw [if_neg c44] | rw [if_neg (not_not_intro c44)]
                try first | rw [if_pos c51] | rw [if_neg c51] | rw [if_neg (not_not_intro c51)]
                try first | rw [if_pos c63] | rw [if_neg c63] | rw [if_neg (not_not_intro c63)]
                try first | rw [if_pos c77] | rw [if_neg c77] | rw [if_neg (not_not_intro c77)]
                try rfl
              rw [e] at h
              rw [px, hR0.2.2 _ _ hpn (by split; decide; split; decide; split <;> decide)]
              exact h M FrC.rf hX
          · rw [px, hR0.2.2 _ 0 hpn (by decide)] at c63
            refine g_aloadR_n dX6_says_66 rfl rfl ?_
            refine g_bipush dX6_says_67 (v := (-2)) (by decide) ?_
            refine n_v1i (n' := 0) dX6_says_69 mX6_refuse lX6_66 rfl hW vld_x0 rfl rfl ⟨Nat.le_of_ble_eq_true rfl, Nat.le_of_ble_eq_true rfl⟩ ⟨Nat.zero_le _, Nat.zero_le _⟩ (Nat.le_of_ble_eq_true rfl) ?_
            refine wp_X6_refuse (j := 2) (by exact hW) (by decide) (by decide) ?_
            refine ⟨_, rfl, ?_⟩
            refine g_iret dX6_says_72 rfl ?_
            have e : opSays X s k = rfX X 2 := by
              unfold opSays
              try first | rw [if_pos c5] | rw [if_neg c5] | rw [if_neg (not_not_intro c5)]
              try first | rw [if_pos c12] | rw [if_neg c12] | rw [if_neg (not_not_intro c12)]
              try first | rw [if_pos c44] | rw [if_neg c44] | rw [if_neg (not_not_intro c44)]
              try first | rw [if_pos c51] | rw [if_neg c51] | rw [if_neg (not_not_intro c51)]
              try first | rw [if_pos c63] | rw [if_neg c63] | rw [if_neg (not_not_intro c63)]
              try rfl
            rw [e] at h; exact h _ (frC_sI (by decide)) (repCl_rfz hX (by decide) (by decide))
    · simp only [b2_0, Decidable.not_not] at c12
      refine g_aloadR_n dX6_says_15 rfl rfl ?_
      refine g_iconst dX6_says_16 (v := (-1)) (by decide) ?_
      refine n_v1i (n' := 0) dX6_says_17 mX6_refuse lX6_66 rfl hW vld_x0 rfl rfl ⟨Nat.le_of_ble_eq_true rfl, Nat.le_of_ble_eq_true rfl⟩ ⟨Nat.zero_le _, Nat.zero_le _⟩ (Nat.le_of_ble_eq_true rfl) ?_
      refine wp_X6_refuse (j := 1) (by exact hW) (by decide) (by decide) ?_
      refine ⟨_, rfl, ?_⟩
      refine g_iret dX6_says_20 rfl ?_
      have e : opSays X s k = rfX X 1 := by
        unfold opSays
        try first | rw [if_pos c5] | rw [if_neg c5] | rw [if_neg (not_not_intro c5)]
        try first | rw [if_pos c12] | rw [if_neg c12] | rw [if_neg (not_not_intro c12)]
        try rfl
      rw [e] at h; exact h _ (frC_sI (by decide)) (repCl_rfz hX (by decide) (by decide))
