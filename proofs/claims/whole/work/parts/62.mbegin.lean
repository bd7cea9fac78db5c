/-! THE REFERENCE: HOW TO BEGIN, CHAIRS, HOW MANY TO TAKE, PAYING -/
theorem RepR.cg {M : Mem} {S S' : Sc} (h : RepR M S) (h0 : S'.1 = S.1) (h1 : ∀ j, 1 ≤ j → j < 7 → S'.2.1 j = S.2.1 j) (h2 : ∀ i f, i < S.1 → f < 9 → S'.2.2 i f = S.2.2 i f) : RepR M S' :=
  ⟨by rw [h0]; exact h.1, fun j a b => (h.2.1 j a b).trans (h1 j a b).symm, fun i f hi hf => (h.2.2 i f (by omega) hf).trans (h2 i f (by omega) hf).symm⟩
theorem RepR.gs {M : Mem} {S : Sc} {j : Nat} {x y : Int32} (h : RepR M (gS S j y)) (hj : 1 ≤ j) : RepR (sI M (20, 0, 0) j x) (gS S j x) :=
  (h.gl hj).cg rfl (fun i a b => by simp only [gS]; split <;> simp [*]) (fun i f _ _ => rfl)
theorem RepR.g0 {M : Mem} {S : Sc} {j : Nat} (h : RepR M S) : RepR M (gS S j (S.2.1 j)) := h.cg rfl (fun i a b => by simp only [gS]; split; (rename_i q; rw [q]); rfl) (fun i f _ _ => rfl)
theorem RepR.gb {M : Mem} {S : Sc} {j : Nat} {y : Int32} (h : RepR M (gS S j y)) (hj : 1 ≤ j) : RepR (sI M (20, 0, 0) j (S.2.1 j)) S := (h.gs hj).cg rfl (fun i a b => by simp only [gS]; split; (rename_i q; rw [q]); rfl) (fun i f _ _ => rfl)
set_option maxHeartbeats 4000000 in
set_option maxRecDepth 100000 in
theorem lp_X7_begin {E : Ev} {M0 : Mem} {Q : QT} (hW0 : Wi M0) {S : Sc} (hO : OkS S) {n : Nat} (hn : n ≤ 24) (h : ∀ M', FrI DM M0 M' → RepR M' S → Q (some (vI (bgF S n 21).1)) M') : ∀ j, j ≤ 21 → ∀ (M : Mem), (FrI DM M0 M ∧ (∃ y, RepR M (gS S 1 y))) → G E (rm 5 0 0) kX7_begin (ZQ E Q 0 0) 0 0 28 [some (vR (20, 0, 0)), some (vI (nI n)), some (vI (S.2.1 1)), some (vI (bgF S n j).1), some (vI (bgF S n j).2), some (vI (nI j))] [] M := by
  refine up_loop 21 (fun j hj ih M hst => ?_)
  obtain ⟨hf, y, hR⟩ := hst
  have hW := hf.W hW0
  refine g_iload dX7_begin_28 rfl ?_
  refine g_bipush dX7_begin_30 (v := 20) (by decide) ?_
  refine g_icmp_gt (tgt := 73) dX7_begin_32 (by decide) (fun c32 => ?_) (fun c32 => ?_)
  · rw [show (20 : Int32) = nI 20 from rfl] at c32
    have hjn2 : j = 21 := by rw [nI_ltI (by omega) (by omega)] at c32; omega
    refine g_aloadR_n dX7_begin_73 rfl rfl ?_
    refine g_iload_n dX7_begin_74 rfl rfl ?_
    refine n_putI dX7_begin_75 fX7_7 rfl hW vld_x20 rfl ?_
    refine g_iload_n dX7_begin_78 rfl rfl ?_
    refine g_iret dX7_begin_79 rfl ?_
    subst hjn2
    exact h _ (hf.tr (frG (f := 1) (by decide))) (hR.gb (by decide))
  · rw [show (20 : Int32) = nI 20 from rfl] at c32
    have hjn : j < 21 := by rw [nI_ltI (by omega) (by omega)] at c32; omega
    refine g_aloadR_n dX7_begin_35 rfl rfl ?_
    refine g_iload dX7_begin_36 rfl ?_
    refine n_putI dX7_begin_38 fX7_7 rfl hW vld_x20 rfl ?_
    refine g_aloadR_n dX7_begin_41 rfl rfl ?_
    refine g_iload_n dX7_begin_42 rfl rfl ?_
    refine n_v1v (n' := 4) dX7_begin_43 mX7_runs lX7_245 rfl hW vld_x20 rfl rfl ⟨Nat.le_of_ble_eq_true rfl, Nat.le_of_ble_eq_true rfl⟩ ⟨Nat.zero_le _, Nat.zero_le _⟩ (Nat.le_of_ble_eq_true rfl) ?_
    refine wp_X7_runs (n := n) (by exact hW) (hR.gs (x := nI j) (by decide)) (hO.g1 (by omega)) hn (fun M1 hf1 hR1 ho1 => ?_)
    have hW1 := hf1.W (by exact hW)
    refine ⟨rfl, ?_⟩
    refine g_aloadR_n dX7_begin_46 rfl rfl ?_
    refine n_getI dX7_begin_47 fX7_218 rfl hW1 vld_x20 (Or.inl rfl) ?_
    rw [show mI M1 (20, 0, 0) 41 = nI (seatSum (gS S 1 (nI j)) n) from ho1.2.1]
    refine g_iload dX7_begin_50 rfl ?_
    refine g_icmp_gt (tgt := 58) dX7_begin_52 (by decide) (fun c52 => ?_) (fun c52 => ?_)
    · refine g_iload dX7_begin_58 rfl ?_
      refine g_istore_3 dX7_begin_60 rfl ?_
      refine g_aloadR_n dX7_begin_61 rfl rfl ?_
      refine n_getI dX7_begin_62 fX7_218 rfl hW1 vld_x20 (Or.inl rfl) ?_
      rw [show mI M1 (20, 0, 0) 41 = nI (seatSum (gS S 1 (nI j)) n) from ho1.2.1]
      refine g_istore_4 dX7_begin_65 rfl ?_
      refine g_iinc_5 (v := nI (j + 1)) dX7_begin_67 rfl (nI_inc j) ?_
      refine g_goto (tgt := 28) dX7_begin_70 (by decide) ?_
      have hst1 : FrI DM M0 M1 ∧ (∃ y, RepR M1 (gS S 1 y)) := ⟨(hf.tr (frG (f := 1) (by decide))).tr (hf1.mono DQ_DM), _, hR1⟩
      have eb : bgF S n (j + 1) = (nI j, nI (seatSum (gS S 1 (nI j)) n)) := if_neg (Int32.not_le.mpr c52)
      have key := ih hjn M1 hst1
      rw [eb] at key
      exact key
    · refine g_goto (tgt := 67) dX7_begin_55 (by decide) ?_
      refine g_iinc_5 (v := nI (j + 1)) dX7_begin_67 rfl (nI_inc j) ?_
      refine g_goto (tgt := 28) dX7_begin_70 (by decide) ?_
      have hst1 : FrI DM M0 M1 ∧ (∃ y, RepR M1 (gS S 1 y)) := ⟨(hf.tr (frG (f := 1) (by decide))).tr (hf1.mono DQ_DM), _, hR1⟩
      have eb : bgF S n (j + 1) = bgF S n j := if_pos (Int32.not_lt.mp c52)
      have key := ih hjn M1 hst1
      rw [eb] at key
      exact key
set_option maxHeartbeats 4000000 in
set_option maxRecDepth 100000 in
theorem wp_X7_begin {E : Ev} {M : Mem} {Q : QT} (hW : Wi M) {X : Sys} (hX : RepMo M X) (hO : OkX X) {n : Int32} (h : ∀ M', FrM M M' → RepMo M' (opBegin X n).2 → Q (some (vI (opBegin X n).1)) M') : Mth E 5 0 0 kX7_begin [vR (20, 0, 0), vI n] M Q := by
  refine mth_of (by decide +kernel) [some (vR (20, 0, 0)), some (vI n), none, none, none, none] (Nat.le_of_ble_eq_true rfl) rfl ?_
  refine g_aloadR_n dX7_begin_0 rfl rfl ?_
  refine g_iload_n dX7_begin_1 rfl rfl ?_
  refine n_v1i (n' := 1) dX7_begin_2 mX7_isMany lX7_242 rfl hW vld_x20 rfl rfl ⟨Nat.le_of_ble_eq_true rfl, Nat.le_of_ble_eq_true rfl⟩ ⟨Nat.zero_le _, Nat.zero_le _⟩ (Nat.le_of_ble_eq_true rfl) ?_
  refine wp_X7_isMany (by exact hW) ?_
  refine ⟨_, rfl, ?_⟩
  refine g_if_ne (tgt := 15) dX7_begin_5 (by decide) (fun c5 => ?_) (fun c5 => ?_)
  · simp only [b2_0, Decidable.not_not] at c5
    obtain ⟨k, hke, hk⟩ : ∃ k, n = nI k ∧ k < 25 := ⟨_, (IN_nI c5).1, (IN_nI c5).2⟩
    subst hke
    have hkc : (nI k).toNatClampNeg = k := nI_clamp (by omega)
    refine g_aloadR_n dX7_begin_15 rfl rfl ?_
    refine n_getI dX7_begin_16 fX7_7 rfl hW vld_x20 (Or.inl rfl) ?_
    rw [show mI M (20, 0, 0) 1 = (xS X).2.1 1 from hX.1.2.1 1 (by decide) (by decide)]
    refine g_istore_2 dX7_begin_19 rfl ?_
    refine g_iconst dX7_begin_20 (v := 0) (by decide) ?_
    refine g_istore_3 dX7_begin_21 rfl ?_
    refine g_iconst dX7_begin_22 (v := (-1)) (by decide) ?_
    refine g_istore_4 dX7_begin_23 rfl ?_
    refine g_iconst dX7_begin_25 (v := 0) (by decide) ?_
    refine g_istore_5 dX7_begin_26 rfl ?_
    have e : opBegin X (nI k) = ((bgF (xS X) k 21).1, X) := by
      unfold opBegin
      rw [if_neg (not_not_intro c5), hkc]
    rw [e] at h
    dsimp only at h
    exact lp_X7_begin hW hO.1 (by omega) (fun M' hf hR => h _ (frM_DM hf) (hX.dm hf hR)) 0 (Nat.zero_le _) M ⟨FrI.rf, _, hX.1.g0⟩
  · simp only [b2_0, Decidable.not_not] at c5
    refine g_aloadR_n dX7_begin_8 rfl rfl ?_
    refine g_bipush dX7_begin_9 (v := (-6)) (by decide) ?_
    refine n_v1i (n' := 0) dX7_begin_11 mX7_no lX7_109 rfl hW vld_x20 rfl rfl ⟨Nat.le_of_ble_eq_true rfl, Nat.le_of_ble_eq_true rfl⟩ ⟨Nat.zero_le _, Nat.zero_le _⟩ (Nat.le_of_ble_eq_true rfl) ?_
    refine wp_X7_no (j := 6) (by exact hW) (by decide) (by decide) ?_
    refine ⟨_, rfl, ?_⟩
    refine g_iret dX7_begin_14 rfl ?_
    have e : opBegin X n = rfX X 6 := by
      unfold opBegin
      rw [if_pos c5]
    rw [e] at h
    exact h _ (frM_sI (by decide)) (repMo_rfm hX (by decide) (by decide))
theorem seat_all {S : Sc} (h : chN S = 12) (hs : S.1 ≤ 10) {c : Nat} (hc : c < 2 ^ S.1) : seatS S c = c := by
  refine bit_ext (seatS_lt S c) hc (fun i hi => ?_)
  have h1 := cnt_le c i
  unfold seatS
  rw [mk_bit]
  simp only [hi, decide_true, Bool.true_and, sdP, h]
  rw [show decide (cnt c i < 12) = true from decide_eq_true (by omega), Bool.and_true]
theorem turn12 {S : Sc} (hs : S.1 ≤ 10) : ∀ n, turnSum (gS S 3 (nI 12)) n = 0
  | 0 => rfl
  | n + 1 => by
    rw [turnSum, turn12 hs n, Nat.zero_add]
    have e : eveM (itS (gS S 3 (nI 12)) n) = comersS (itS (gS S 3 (nI 12)) n) 0 := seat_all (by
      unfold chN
      rw [itS_g _ (by decide)]
      rfl) (by rw [itS_n]; exact hs) (comersS_lt _ _)
    unfold tS cS
    rw [e, Nat.sub_self]
theorem turn_b (S : Sc) : ∀ n, turnSum S n ≤ 11 * n
  | 0 => Nat.le_refl _
  | n + 1 => by rw [turnSum]; have := turn_b S n; have := cS_le S n; omega
set_option maxHeartbeats 4000000 in
set_option maxRecDepth 100000 in
theorem lp_X7_room {E : Ev} {M0 : Mem} {Q : QT} (hW0 : Wi M0) {S : Sc} (hO : OkS S) {n : Nat} (hn : n ≤ 24) : ∀ j, j ≤ 11 → ∀ (M : Mem), FrI DM M0 M → (∃ y, RepR M (gS S 3 y)) → (∀ M', FrI DM M0 M' → RepR M' S → Q (some (vI (rmF S n (11 - j) (j + 1)))) M') → G E (rm 5 0 0) kX7_room (ZQ E Q 0 0) 0 0 22 [some (vR (20, 0, 0)), some (vI (nI n)), some (vI (S.2.1 3)), some (vI (nI j))] [] M := by
  refine up_loop 11 (fun j hj ih M hf hR h => ?_)
  obtain ⟨y, hR⟩ := hR
  have hW := hf.W hW0
  refine g_iinc_3 (v := nI (j + 1)) dX7_room_22 rfl (nI_inc j) ?_
  refine g_aloadR_n dX7_room_25 rfl rfl ?_
  refine g_iload_n dX7_room_26 rfl rfl ?_
  refine n_putI dX7_room_27 fX7_13 rfl hW vld_x20 rfl ?_
  refine g_aloadR_n dX7_room_30 rfl rfl ?_
  refine g_iload_n dX7_room_31 rfl rfl ?_
  refine n_v1v (n' := 4) dX7_room_32 mX7_runs lX7_245 rfl hW vld_x20 rfl rfl ⟨Nat.le_of_ble_eq_true rfl, Nat.le_of_ble_eq_true rfl⟩ ⟨Nat.zero_le _, Nat.zero_le _⟩ (Nat.le_of_ble_eq_true rfl) ?_
  refine wp_X7_runs (n := n) (by exact hW) (hR.gs (x := nI (j + 1)) (by decide)) (hO.g3 (by omega) (by omega)) hn (fun M1 hf1 hR1 ho1 => ?_)
  have hW1 := hf1.W (by exact hW)
  refine ⟨rfl, ?_⟩
  refine g_aloadR_n dX7_room_35 rfl rfl ?_
  refine n_getI dX7_room_36 fX7_221 rfl hW1 vld_x20 (Or.inl rfl) ?_
  rw [show mI M1 (20, 0, 0) 42 = nI (turnSum (gS S 3 (nI (j + 1))) n) from ho1.2.2.1]
  refine g_if_gt (tgt := 22) dX7_room_39 (by decide) (fun c39 => ?_) (fun c39 => ?_)
  · have htb := turn_b (gS S 3 (nI (j + 1))) n
    rw [show (0 : Int32) = nI 0 from rfl, nI_ltI (by omega) (by omega)] at c39
    have hf2 := (hf.tr (frG (f := 3) (by decide))).tr (hf1.mono DQ_DM)
    have hj11 : j < 11 := by
      rcases Nat.lt_or_ge j 11 with q | q
      · exact q
      · obtain rfl : j = 11 := by omega
        rw [turn12 hO.1] at c39
        exact absurd c39 (by decide)
    refine ih hj11 M1 hf2 ⟨_, hR1⟩ (fun M' h1 h2 => ?_)
    have key := h M' h1 h2
    obtain ⟨d, hd⟩ : ∃ d, 11 - j = d + 1 := ⟨11 - j - 1, by omega⟩
    rw [hd] at key
    rw [show 11 - (j + 1) = d by omega]
    have ne : ¬ nI (turnSum (gS S 3 (nI (j + 1))) n) = 0 := fun q => by
      rw [show (0 : Int32) = nI 0 from rfl, nI_eq (by omega) (by omega)] at q; omega
    simp only [rmF] at key
    rw [if_neg ne] at key
    exact key
  · have htb := turn_b (gS S 3 (nI (j + 1))) n
    rw [show (0 : Int32) = nI 0 from rfl, nI_ltI (by omega) (by omega)] at c39
    refine g_aloadR_n dX7_room_42 rfl rfl ?_
    refine g_iload_n dX7_room_43 rfl rfl ?_
    refine n_putI dX7_room_44 fX7_13 rfl hW1 vld_x20 rfl ?_
    refine g_iload_n dX7_room_47 rfl rfl ?_
    refine g_iret dX7_room_48 rfl ?_
    have hf2 := ((hf.tr (frG (f := 3) (by decide))).tr (hf1.mono DQ_DM)).tr (frG (M := M1) (f := 3) (x := S.2.1 3) (by decide))
    have key := h _ hf2 (hR1.gb (by decide))
    have ee : rmF S n (11 - j) (j + 1) = nI (j + 1) := by
      rcases Nat.lt_or_ge j 11 with q | q
      · obtain ⟨d, hd⟩ : ∃ d, 11 - j = d + 1 := ⟨11 - j - 1, by omega⟩
        rw [hd]
        simp only [rmF]
        rw [if_pos (by rw [show turnSum (gS S 3 (nI (j + 1))) n = 0 by omega]; rfl)]
      · obtain rfl : j = 11 := by omega
        rfl
    rw [ee] at key
    exact key
set_option maxHeartbeats 4000000 in
set_option maxRecDepth 100000 in
theorem wp_X7_room {E : Ev} {M : Mem} {Q : QT} (hW : Wi M) {X : Sys} (hX : RepMo M X) (hO : OkX X) {n : Int32} (h : ∀ M', FrM M M' → RepMo M' (opRoom X n).2 → Q (some (vI (opRoom X n).1)) M') : Mth E 5 0 0 kX7_room [vR (20, 0, 0), vI n] M Q := by
  refine mth_of (by decide +kernel) [some (vR (20, 0, 0)), some (vI n), none, none] (Nat.le_of_ble_eq_true rfl) rfl ?_
  refine g_aloadR_n dX7_room_0 rfl rfl ?_
  refine g_iload_n dX7_room_1 rfl rfl ?_
  refine n_v1i (n' := 1) dX7_room_2 mX7_isMany lX7_242 rfl hW vld_x20 rfl rfl ⟨Nat.le_of_ble_eq_true rfl, Nat.le_of_ble_eq_true rfl⟩ ⟨Nat.zero_le _, Nat.zero_le _⟩ (Nat.le_of_ble_eq_true rfl) ?_
  refine wp_X7_isMany (by exact hW) ?_
  refine ⟨_, rfl, ?_⟩
  refine g_if_ne (tgt := 15) dX7_room_5 (by decide) (fun c5 => ?_) (fun c5 => ?_)
  · simp only [b2_0, Decidable.not_not] at c5
    obtain ⟨k, hke, hk⟩ : ∃ k, n = nI k ∧ k < 25 := ⟨_, (IN_nI c5).1, (IN_nI c5).2⟩
    subst hke
    have hkc : (nI k).toNatClampNeg = k := nI_clamp (by omega)
    refine g_aloadR_n dX7_room_15 rfl rfl ?_
    refine n_getI dX7_room_16 fX7_13 rfl hW vld_x20 (Or.inl rfl) ?_
    rw [show mI M (20, 0, 0) 3 = (xS X).2.1 3 from hX.1.2.1 3 (by decide) (by decide)]
    refine g_istore_2 dX7_room_19 rfl ?_
    refine g_iconst dX7_room_20 (v := 0) (by decide) ?_
    refine g_istore_3 dX7_room_21 rfl ?_
    have e : opRoom X (nI k) = (rmF (xS X) k 11 1, X) := by
      unfold opRoom
      rw [if_neg (not_not_intro c5), hkc]
    rw [e] at h
    dsimp only at h
    exact lp_X7_room hW hO.1 (by omega) 0 (Nat.zero_le _) M FrI.rf ⟨_, hX.1.g0⟩ (fun M' hf hR => h _ (frM_DM hf) (hX.dm hf hR))
  · simp only [b2_0, Decidable.not_not] at c5
    refine g_aloadR_n dX7_room_8 rfl rfl ?_
    refine g_bipush dX7_room_9 (v := (-6)) (by decide) ?_
    refine n_v1i (n' := 0) dX7_room_11 mX7_no lX7_109 rfl hW vld_x20 rfl rfl ⟨Nat.le_of_ble_eq_true rfl, Nat.le_of_ble_eq_true rfl⟩ ⟨Nat.zero_le _, Nat.zero_le _⟩ (Nat.le_of_ble_eq_true rfl) ?_
    refine wp_X7_no (j := 6) (by exact hW) (by decide) (by decide) ?_
    refine ⟨_, rfl, ?_⟩
    refine g_iret dX7_room_14 rfl ?_
    have e : opRoom X n = rfX X 6 := by
      unfold opRoom
      rw [if_pos c5]
    rw [e] at h
    exact h _ (frM_sI (by decide)) (repMo_rfm hX (by decide) (by decide))
def colS (S : Sc) (f0 : Nat) (g : Nat → Int32) : Sc := (S.1, S.2.1, fun i f => if f = f0 then g i else S.2.2 i f)
def Wso (M : Mem) (S : Sc) (f0 j : Nat) : Prop := ∀ i, i < j → mI M (21, 23, 0) i = S.2.2 i f0
theorem RepR.c0 {M : Mem} {S : Sc} {f0 : Nat} (h : RepR M S) : RepR M (colS S f0 (fun i => S.2.2 i f0)) := h.cg rfl (fun _ _ _ => rfl) (fun i f _ _ => by simp only [colS]; split; (rename_i q; rw [q]); rfl)
theorem RepR.cs {M : Mem} {S : Sc} {f0 j : Nat} {g : Nat → Int32} {x : Int32} (h : RepR M (colS S f0 g)) : RepR (sI M (21, f0 + 1, 0) j x) (colS S f0 (fun i => if i = j then x else g i)) :=
  h.up.cg rfl (fun _ _ _ => rfl) (fun i f _ _ => by
    simp only [colS, upS]
    by_cases q : f = f0
    · subst q
      by_cases q2 : i = j
      · subst q2; simp
      · simp [q2]
    · simp [q])
theorem RepR.ce {M : Mem} {S S' : Sc} {f0 : Nat} {g : Nat → Int32} (h : RepR M (colS S f0 g)) (h0 : S'.1 = S.1) (h1 : S'.2.1 = S.2.1) (h2 : ∀ i f, i < S.1 → f < 9 → S'.2.2 i f = if f = f0 then g i else S.2.2 i f) : RepR M S' := h.cg h0 (fun j _ _ => congrFun h1 j) h2
theorem RepR.w23 {M : Mem} {S : Sc} {j : Nat} {x : Int32} (h : RepR M S) : RepR (sI M (21, 23, 0) j x) S := h.fr (D := fun b g => b = (21, 23, 0)) (fr_sI rfl) (fun j hj q => by cases q) (fun i f hf q => by injection q with _ q; injection q with q _; omega)
theorem Wso.fr {D : Id → Nat → Prop} {M M' : Mem} {S : Sc} {f0 j : Nat} (h : Wso M S f0 j) (hf : FrI D M M') (hD : ∀ i, ¬ D (21, 23, 0) i) : Wso M' S f0 j := fun i hi => (hf.2 _ _ (hD i)).trans (h i hi)
theorem Wso.st {M : Mem} {S : Sc} {f0 j : Nat} (h : Wso M S f0 j) : Wso (sI M (21, 23, 0) j (S.2.2 j f0)) S f0 (j + 1) := fun i hi => by
  by_cases q : i = j
  · subst q; simp [mI, sI]
  · simp only [mI, sI]; rw [if_neg (fun z => q z.2)]; exact h i (by omega)
theorem DQ_23 : ∀ i, ¬ DQ (21, 23, 0) i := fun i q => by
  rcases q with q | q | q
  · exact DP_h (Or.inr ⟨rfl, by decide⟩) q
  · cases q.1
  · have := q.2; simp only at this; omega
theorem fr23 {M : Mem} {j : Nat} {x : Int32} : FrI DM M (sI M (21, 23, 0) j x) := fr_sI (Or.inr ⟨rfl, by simp⟩)
set_option maxHeartbeats 4000000 in
set_option maxRecDepth 100000 in
theorem lp_X7_takeS {E : Ev} {M0 : Mem} {Q : QT} (hW0 : Wi M0) {S : Sc} (hO : OkS S) {n : Nat} {a2 a5 : Option AV} {w3 : Int32} (h : ∀ M, FrI DM M0 M → RepR M S → Wso M S 8 S.1 → G E (rm 5 0 0) kX7_take (ZQ E Q 0 0) 0 0 51 [some (vR (20, 0, 0)), some (vI (nI n)), a2, some (vI w3), some (vI (nI S.1)), a5] [] M) : ∀ j, j ≤ S.1 → ∀ (M : Mem), FrI DM M0 M → RepR M S → Wso M S 8 j → G E (rm 5 0 0) kX7_take (ZQ E Q 0 0) 0 0 22 [some (vR (20, 0, 0)), some (vI (nI n)), a2, some (vI w3), some (vI (nI j)), a5] [] M := by
  refine up_loop S.1 (fun j hj ih M hf hR hs => ?_)
  have hW := hf.W hW0
  have hsz := hR.1
  have hs10 := hO.1
  refine g_iload dX7_take_22 rfl ?_
  refine g_aloadR_n dX7_take_24 rfl rfl ?_
  refine n_getI dX7_take_25 fX7_102 rfl hW vld_x20 (Or.inl rfl) ?_
  refine g_icmp_ge (tgt := 51) dX7_take_28 (by decide) (fun c28 => ?_) (fun c28 => ?_)
  · rw [hsz] at c28
    have hjn2 : j = S.1 := by rw [nI_leI (by omega) (by omega)] at c28; omega
    subst hjn2
    exact h M hf hR hs
  · rw [hsz] at c28
    have hjn : j < S.1 := by rw [nI_leI (by omega) (by omega)] at c28; omega
    refine g_aloadR_n dX7_take_31 rfl rfl ?_
    refine n_getR dX7_take_32 fX7_96 rfl hW vld_x20 rfl rfl ?_
    refine g_iload dX7_take_35 rfl ?_
    refine g_aloadR_n dX7_take_37 rfl rfl ?_
    refine n_getR dX7_take_38 fX7_53 rfl hW vld_x20 rfl rfl ?_
    refine g_iload dX7_take_41 rfl ?_
    refine n_iald (j := j) dX7_take_43 rfl hW (vld_ma (by decide : 9 < 25)) (by decide) rfl (show j < 10 by omega) ?_
    rw [show mI M (21, 9, 0) j = S.2.2 j 8 from hR.2.2 j 8 hjn (by decide)]
    refine n_iast (j := j) dX7_take_44 rfl hW (vld_ma (by decide : 23 < 25)) (by decide) rfl (show j < 10 by omega) ?_
    refine g_iinc_4 (v := nI (j + 1)) dX7_take_45 rfl (nI_inc j) ?_
    refine g_goto (tgt := 22) dX7_take_48 (by decide) ?_
    exact ih hjn _ (hf.tr fr23) hR.w23 hs.st
set_option maxHeartbeats 4000000 in
set_option maxRecDepth 100000 in
theorem lp_X7_priceS {E : Ev} {M0 : Mem} {Q : QT} (hW0 : Wi M0) {S : Sc} (hO : OkS S) {n : Nat} {a3 : Option AV} (h : ∀ M, FrI DM M0 M → RepR M S → Wso M S 3 S.1 → G E (rm 6 0 0) kX7_price (ZQ E Q 0 0) 0 0 47 [some (vR (20, 0, 0)), some (vI (nI n)), some (vI (nI S.1)), a3] [] M) : ∀ j, j ≤ S.1 → ∀ (M : Mem), FrI DM M0 M → RepR M S → Wso M S 3 j → G E (rm 6 0 0) kX7_price (ZQ E Q 0 0) 0 0 21 [some (vR (20, 0, 0)), some (vI (nI n)), some (vI (nI j)), a3] [] M := by
  refine up_loop S.1 (fun j hj ih M hf hR hs => ?_)
  have hW := hf.W hW0
  have hsz := hR.1
  have hs10 := hO.1
  refine g_iload_n dX7_price_21 rfl rfl ?_
  refine g_aloadR_n dX7_price_22 rfl rfl ?_
  refine n_getI dX7_price_23 fX7_102 rfl hW vld_x20 (Or.inl rfl) ?_
  refine g_icmp_ge (tgt := 47) dX7_price_26 (by decide) (fun c26 => ?_) (fun c26 => ?_)
  · rw [hsz] at c26
    have hjn2 : j = S.1 := by rw [nI_leI (by omega) (by omega)] at c26; omega
    subst hjn2
    exact h M hf hR hs
  · rw [hsz] at c26
    have hjn : j < S.1 := by rw [nI_leI (by omega) (by omega)] at c26; omega
    refine g_aloadR_n dX7_price_29 rfl rfl ?_
    refine n_getR dX7_price_30 fX7_96 rfl hW vld_x20 rfl rfl ?_
    refine g_iload_n dX7_price_33 rfl rfl ?_
    refine g_aloadR_n dX7_price_34 rfl rfl ?_
    refine n_getR dX7_price_35 fX7_38 rfl hW vld_x20 rfl rfl ?_
    refine g_iload_n dX7_price_38 rfl rfl ?_
    refine n_iald (j := j) dX7_price_39 rfl hW (vld_ma (by decide : 4 < 25)) (by decide) rfl (show j < 10 by omega) ?_
    rw [show mI M (21, 4, 0) j = S.2.2 j 3 from hR.2.2 j 3 hjn (by decide)]
    refine n_iast (j := j) dX7_price_40 rfl hW (vld_ma (by decide : 23 < 25)) (by decide) rfl (show j < 10 by omega) ?_
    refine g_iinc_2 (v := nI (j + 1)) dX7_price_41 rfl (nI_inc j) ?_
    refine g_goto (tgt := 21) dX7_price_44 (by decide) ?_
    exact ih hjn _ (hf.tr fr23) hR.w23 hs.st
set_option maxHeartbeats 4000000 in
set_option maxRecDepth 100000 in
theorem lp_X7_takeB {E : Ev} {M0 : Mem} {Q : QT} (hW0 : Wi M0) {S : Sc} (hO : OkS S) {n : Nat} {r : Int32} {a5 : Option AV} {w3 : Int32} (h : ∀ M, FrI DM M0 M → RepR M S → Q (some (vI r)) M) : ∀ j, j ≤ S.1 → ∀ (M : Mem) (g : Nat → Int32), FrI DM M0 M → RepR M (colS S 8 g) → Wso M S 8 S.1 → (∀ i, i < j → g i = S.2.2 i 8) → G E (rm 5 0 0) kX7_take (ZQ E Q 0 0) 0 0 139 [some (vR (20, 0, 0)), some (vI (nI n)), some (vI r), some (vI w3), some (vI (nI j)), a5] [] M := by
  refine up_loop S.1 (fun j hj ih M g hf hR hs hg => ?_)
  have hW := hf.W hW0
  have hsz : mI M (20, 0, 0) 0 = nI S.1 := hR.1
  have hs10 := hO.1
  refine g_iload dX7_take_139 rfl ?_
  refine g_aloadR_n dX7_take_141 rfl rfl ?_
  refine n_getI dX7_take_142 fX7_102 rfl hW vld_x20 (Or.inl rfl) ?_
  refine g_icmp_ge (tgt := 168) dX7_take_145 (by decide) (fun c145 => ?_) (fun c145 => ?_)
  · rw [hsz] at c145
    have hjn2 : j = S.1 := by rw [nI_leI (by omega) (by omega)] at c145; omega
    refine g_iload_n dX7_take_168 rfl rfl ?_
    refine g_iret dX7_take_169 rfl ?_
    subst hjn2
    exact h M hf (hR.ce rfl rfl (fun i f hi _ => by
      by_cases q : f = 8
      · rw [if_pos q, hg i hi, q]
      · rw [if_neg q]))
  · rw [hsz] at c145
    have hjn : j < S.1 := by rw [nI_leI (by omega) (by omega)] at c145; omega
    refine g_aloadR_n dX7_take_148 rfl rfl ?_
    refine n_getR dX7_take_149 fX7_53 rfl hW vld_x20 rfl rfl ?_
    refine g_iload dX7_take_152 rfl ?_
    refine g_aloadR_n dX7_take_154 rfl rfl ?_
    refine n_getR dX7_take_155 fX7_96 rfl hW vld_x20 rfl rfl ?_
    refine g_iload dX7_take_158 rfl ?_
    refine n_iald (j := j) dX7_take_160 rfl hW (vld_ma (by decide : 23 < 25)) (by decide) rfl (show j < 10 by omega) ?_
    rw [hs j hjn]
    refine n_iast (j := j) dX7_take_161 rfl hW (vld_ma (by decide : 9 < 25)) (by decide) rfl (show j < 10 by omega) ?_
    refine g_iinc_4 (v := nI (j + 1)) dX7_take_162 rfl (nI_inc j) ?_
    refine g_goto (tgt := 139) dX7_take_165 (by decide) ?_
    refine ih hjn _ _ (hf.tr (frP (f := 8) (by decide))) (hR.cs (f0 := 8)) (hs.fr (D := fun b _ => b = (21, 9, 0)) (fr_sI rfl) (fun i q => by cases q)) (fun i hi => ?_)
    by_cases q : i = j
    · rw [if_pos q, q]
    · rw [if_neg q]; exact hg i (by omega)
set_option maxHeartbeats 4000000 in
set_option maxRecDepth 100000 in
theorem lp_X7_priceB {E : Ev} {M0 : Mem} {Q : QT} (hW0 : Wi M0) {S : Sc} (hO : OkS S) {n : Nat} {r : Int32} (h : ∀ M, FrI DM M0 M → RepR M S → Q (some (vI r)) M) : ∀ j, j ≤ S.1 → ∀ (M : Mem) (g : Nat → Int32), FrI DM M0 M → RepR M (colS S 3 g) → Wso M S 3 S.1 → (∀ i, i < j → g i = S.2.2 i 3) → G E (rm 6 0 0) kX7_price (ZQ E Q 0 0) 0 0 63 [some (vR (20, 0, 0)), some (vI (nI n)), some (vI r), some (vI (nI j))] [] M := by
  refine up_loop S.1 (fun j hj ih M g hf hR hs hg => ?_)
  have hW := hf.W hW0
  have hsz : mI M (20, 0, 0) 0 = nI S.1 := hR.1
  have hs10 := hO.1
  refine g_iload_n dX7_price_63 rfl rfl ?_
  refine g_aloadR_n dX7_price_64 rfl rfl ?_
  refine n_getI dX7_price_65 fX7_102 rfl hW vld_x20 (Or.inl rfl) ?_
  refine g_icmp_ge (tgt := 89) dX7_price_68 (by decide) (fun c68 => ?_) (fun c68 => ?_)
  · rw [hsz] at c68
    have hjn2 : j = S.1 := by rw [nI_leI (by omega) (by omega)] at c68; omega
    refine g_iload_n dX7_price_89 rfl rfl ?_
    refine g_iret dX7_price_90 rfl ?_
    subst hjn2
    exact h M hf (hR.ce rfl rfl (fun i f hi _ => by
      by_cases q : f = 3
      · rw [if_pos q, hg i hi, q]
      · rw [if_neg q]))
  · rw [hsz] at c68
    have hjn : j < S.1 := by rw [nI_leI (by omega) (by omega)] at c68; omega
    refine g_aloadR_n dX7_price_71 rfl rfl ?_
    refine n_getR dX7_price_72 fX7_38 rfl hW vld_x20 rfl rfl ?_
    refine g_iload_n dX7_price_75 rfl rfl ?_
    refine g_aloadR_n dX7_price_76 rfl rfl ?_
    refine n_getR dX7_price_77 fX7_96 rfl hW vld_x20 rfl rfl ?_
    refine g_iload_n dX7_price_80 rfl rfl ?_
    refine n_iald (j := j) dX7_price_81 rfl hW (vld_ma (by decide : 23 < 25)) (by decide) rfl (show j < 10 by omega) ?_
    rw [hs j hjn]
    refine n_iast (j := j) dX7_price_82 rfl hW (vld_ma (by decide : 4 < 25)) (by decide) rfl (show j < 10 by omega) ?_
    refine g_iinc_3 (v := nI (j + 1)) dX7_price_83 rfl (nI_inc j) ?_
    refine g_goto (tgt := 63) dX7_price_86 (by decide) ?_
    refine ih hjn _ _ (hf.tr (frP (f := 3) (by decide))) (hR.cs (f0 := 3)) (hs.fr (D := fun b _ => b = (21, 4, 0)) (fr_sI rfl) (fun i q => by cases q)) (fun i hi => ?_)
    by_cases q : i = j
    · rw [if_pos q, q]
    · rw [if_neg q]; exact hg i (by omega)
set_option maxHeartbeats 4000000 in
set_option maxRecDepth 100000 in
theorem lp_X7_takeI {E : Ev} {M0 : Mem} {Q : QT} (hW0 : Wi M0) {S : Sc} (hO : OkS S) {n : Nat} {m : Nat} (hm : m ≤ S.1) {a2 a3 : Option AV} (h : ∀ M, FrI DM M0 M → RepR M (disS S m) → Wso M S 8 S.1 → G E (rm 5 0 0) kX7_take (ZQ E Q 0 0) 0 0 106 [some (vR (20, 0, 0)), some (vI (nI n)), a2, a3, some (vI (nI m)), some (vI (nI S.1))] [] M) : ∀ j, j ≤ S.1 → ∀ (M : Mem) (g : Nat → Int32), FrI DM M0 M → RepR M (colS S 8 g) → Wso M S 8 S.1 → (∀ i, i < j → g i = if m ≤ i then 1 else S.2.2 i 8) → G E (rm 5 0 0) kX7_take (ZQ E Q 0 0) 0 0 66 [some (vR (20, 0, 0)), some (vI (nI n)), a2, a3, some (vI (nI m)), some (vI (nI j))] [] M := by
  refine up_loop S.1 (fun j hj ih M g hf hR hs hg => ?_)
  have hW := hf.W hW0
  have hsz : mI M (20, 0, 0) 0 = nI S.1 := hR.1
  have hs10 := hO.1
  refine g_iload dX7_take_66 rfl ?_
  refine g_aloadR_n dX7_take_68 rfl rfl ?_
  refine n_getI dX7_take_69 fX7_102 rfl hW vld_x20 (Or.inl rfl) ?_
  refine g_icmp_ge (tgt := 106) dX7_take_72 (by decide) (fun c72 => ?_) (fun c72 => ?_)
  · rw [hsz] at c72
    have hjn2 : j = S.1 := by rw [nI_leI (by omega) (by omega)] at c72; omega
    subst hjn2
    exact h M hf (hR.ce rfl rfl (fun i f hi _ => by
      simp only [disS]
      by_cases q : f = 8
      · subst q; rw [if_pos rfl, hg i hi]
        by_cases q2 : m ≤ i
        · rw [if_pos ⟨rfl, q2⟩, if_pos q2]
        · rw [if_neg (fun z => q2 z.2), if_neg q2]
      · rw [if_neg q, if_neg (fun z => q z.1)])) hs
  · rw [hsz] at c72
    have hjn : j < S.1 := by rw [nI_leI (by omega) (by omega)] at c72; omega
    refine g_aloadR_n dX7_take_75 rfl rfl ?_
    refine n_getR dX7_take_76 fX7_53 rfl hW vld_x20 rfl rfl ?_
    refine g_iload dX7_take_79 rfl ?_
    refine g_iload dX7_take_81 rfl ?_
    refine g_iload dX7_take_83 rfl ?_
    refine g_icmp_ge (tgt := 98) dX7_take_85 (by decide) (fun c85 => ?_) (fun c85 => ?_)
    · rw [nI_leI (by omega) (by omega)] at c85
      refine g_iconst dX7_take_98 (v := 1) (by decide) ?_
      refine n_iast (j := j) dX7_take_99 rfl hW (vld_ma (by decide : 9 < 25)) (by decide) rfl (show j < 10 by omega) ?_
      refine g_iinc_5 (v := nI (j + 1)) dX7_take_100 rfl (nI_inc j) ?_
      refine g_goto (tgt := 66) dX7_take_103 (by decide) ?_
      refine ih hjn _ _ (hf.tr (frP (f := 8) (by decide))) (hR.cs (f0 := 8)) (hs.fr (D := fun b _ => b = (21, 9, 0)) (fr_sI rfl) (fun i q => by cases q)) (fun i hi => ?_)
      by_cases q : i = j
      · rw [if_pos q, q, if_pos (by omega)]
      · rw [if_neg q]; exact hg i (by omega)
    · rw [nI_leI (by omega) (by omega)] at c85
      refine g_aloadR_n dX7_take_88 rfl rfl ?_
      refine n_getR dX7_take_89 fX7_96 rfl hW vld_x20 rfl rfl ?_
      refine g_iload dX7_take_92 rfl ?_
      refine n_iald (j := j) dX7_take_94 rfl hW (vld_ma (by decide : 23 < 25)) (by decide) rfl (show j < 10 by omega) ?_
      rw [hs j hjn]
      refine g_goto (tgt := 99) dX7_take_95 (by decide) ?_
      refine n_iast (j := j) dX7_take_99 rfl hW (vld_ma (by decide : 9 < 25)) (by decide) rfl (show j < 10 by omega) ?_
      refine g_iinc_5 (v := nI (j + 1)) dX7_take_100 rfl (nI_inc j) ?_
      refine g_goto (tgt := 66) dX7_take_103 (by decide) ?_
      refine ih hjn _ _ (hf.tr (frP (f := 8) (by decide))) (hR.cs (f0 := 8)) (hs.fr (D := fun b _ => b = (21, 9, 0)) (fr_sI rfl) (fun i q => by cases q)) (fun i hi => ?_)
      by_cases q : i = j
      · rw [if_pos q, q, if_neg (by omega)]
      · rw [if_neg q]; exact hg i (by omega)
set_option maxHeartbeats 4000000 in
set_option maxRecDepth 100000 in
theorem lp_X7_take {E : Ev} {M0 : Mem} {Q : QT} (hW0 : Wi M0) {S : Sc} (hO : OkS S) {n : Nat} (hn : n ≤ 24) (h : ∀ M', FrI DM M0 M' → RepR M' S → Q (some (vI (tkF S n (S.1 + 1)).1)) M') : ∀ j, j ≤ S.1 + 1 → ∀ (M : Mem) (g : Nat → Int32) (a5 : Option AV), FrI DM M0 M → RepR M (colS S 8 g) → Wso M S 8 S.1 → G E (rm 5 0 0) kX7_take (ZQ E Q 0 0) 0 0 54 [some (vR (20, 0, 0)), some (vI (nI n)), some (vI (tkF S n j).1), some (vI (tkF S n j).2), some (vI (nI j)), a5] [] M := by
  refine up_loop (S.1 + 1) (fun j hj ih M g a5 hf hR hs => ?_)
  have hW := hf.W hW0
  have hsz : mI M (20, 0, 0) 0 = nI S.1 := hR.1
  have hs10 := hO.1
  refine g_iload dX7_take_54 rfl ?_
  refine g_aloadR_n dX7_take_56 rfl rfl ?_
  refine n_getI dX7_take_57 fX7_102 rfl hW vld_x20 (Or.inl rfl) ?_
  refine g_icmp_gt (tgt := 136) dX7_take_60 (by decide) (fun c60 => ?_) (fun c60 => ?_)
  · rw [hsz] at c60
    have hjn2 : j = S.1 + 1 := by rw [nI_ltI (by omega) (by omega)] at c60; omega
    refine g_iconst dX7_take_136 (v := 0) (by decide) ?_
    refine g_istore_4 dX7_take_137 rfl ?_
    subst hjn2
    exact lp_X7_takeB hW0 hO h 0 (Nat.zero_le _) M g hf hR hs (fun i hi => absurd hi (by omega))
  · rw [hsz] at c60
    have hjn : j < S.1 + 1 := by rw [nI_ltI (by omega) (by omega)] at c60; omega
    refine g_iconst dX7_take_63 (v := 0) (by decide) ?_
    refine g_istore_5 dX7_take_64 rfl ?_
    refine lp_X7_takeI hW0 hO (m := j) (by omega) (fun M1 hf1 hR1 hs1 => ?_) 0 (Nat.zero_le _) M _ hf hR hs (fun i hi => absurd hi (by omega))
    have hW1 := hf1.W hW0
    refine g_aloadR_n dX7_take_106 rfl rfl ?_
    refine g_iload_n dX7_take_107 rfl rfl ?_
    refine n_v1v (n' := 4) dX7_take_108 mX7_runs lX7_245 rfl hW1 vld_x20 rfl rfl ⟨Nat.le_of_ble_eq_true rfl, Nat.le_of_ble_eq_true rfl⟩ ⟨Nat.zero_le _, Nat.zero_le _⟩ (Nat.le_of_ble_eq_true rfl) ?_
    refine wp_X7_runs (n := n) (by exact hW1) hR1 hO.dis hn (fun M2 hf2 hR2 ho2 => ?_)
    have hW1 := hf2.W (by exact hW1)
    refine ⟨rfl, ?_⟩
    refine g_aloadR_n dX7_take_111 rfl rfl ?_
    refine n_getI dX7_take_112 fX7_236 rfl hW1 vld_x20 (Or.inl rfl) ?_
    rw [show mI M2 (20, 0, 0) 40 = nI (lfF S n j) from ho2.1]
    refine g_iload_n dX7_take_115 rfl rfl ?_
    refine g_icmp_gt (tgt := 122) dX7_take_116 (by decide) (fun c116 => ?_) (fun c116 => ?_)
    · refine g_iload dX7_take_122 rfl ?_
      refine g_istore_2 dX7_take_124 rfl ?_
      refine g_aloadR_n dX7_take_125 rfl rfl ?_
      refine n_getI dX7_take_126 fX7_236 rfl hW1 vld_x20 (Or.inl rfl) ?_
      rw [show mI M2 (20, 0, 0) 40 = nI (lfF S n j) from ho2.1]
      refine g_istore_3 dX7_take_129 rfl ?_
      refine g_iinc_4 (v := nI (j + 1)) dX7_take_130 rfl (nI_inc j) ?_
      refine g_goto (tgt := 54) dX7_take_133 (by decide) ?_
      have eb : tkF S n (j + 1) = (nI j, nI (lfF S n j)) := if_neg (Int32.not_le.mpr c116)
      have key := ih hjn M2 (fun i => if j ≤ i then 1 else S.2.2 i 8) (some (vI (nI S.1))) (hf1.tr (hf2.mono DQ_DM)) (hR2.cg rfl (fun _ _ _ => rfl) (fun i f _ _ => by
        simp only [colS, disS]
        by_cases q : f = 8
        · subst q
          by_cases q2 : j ≤ i
          · rw [if_pos rfl, if_pos q2, if_pos ⟨rfl, q2⟩]
          · rw [if_pos rfl, if_neg q2, if_neg (fun z => q2 z.2)]
        · rw [if_neg q, if_neg (fun z => q z.1)])) (hs1.fr hf2 DQ_23)
      rw [eb] at key
      exact key
    · refine g_goto (tgt := 130) dX7_take_119 (by decide) ?_
      refine g_iinc_4 (v := nI (j + 1)) dX7_take_130 rfl (nI_inc j) ?_
      refine g_goto (tgt := 54) dX7_take_133 (by decide) ?_
      have eb : tkF S n (j + 1) = tkF S n j := if_pos (Int32.not_lt.mp c116)
      have key := ih hjn M2 (fun i => if j ≤ i then 1 else S.2.2 i 8) (some (vI (nI S.1))) (hf1.tr (hf2.mono DQ_DM)) (hR2.cg rfl (fun _ _ _ => rfl) (fun i f _ _ => by
        simp only [colS, disS]
        by_cases q : f = 8
        · subst q
          by_cases q2 : j ≤ i
          · rw [if_pos rfl, if_pos q2, if_pos ⟨rfl, q2⟩]
          · rw [if_pos rfl, if_neg q2, if_neg (fun z => q2 z.2)]
        · rw [if_neg q, if_neg (fun z => q z.1)])) (hs1.fr hf2 DQ_23)
      rw [eb] at key
      exact key
set_option maxHeartbeats 4000000 in
set_option maxRecDepth 100000 in
theorem wp_X7_take {E : Ev} {M : Mem} {Q : QT} (hW : Wi M) {X : Sys} (hX : RepMo M X) (hO : OkX X) {n : Int32} (h : ∀ M', FrM M M' → RepMo M' (opTake X n).2 → Q (some (vI (opTake X n).1)) M') : Mth E 5 0 0 kX7_take [vR (20, 0, 0), vI n] M Q := by
  refine mth_of (by decide +kernel) [some (vR (20, 0, 0)), some (vI n), none, none, none, none] (Nat.le_of_ble_eq_true rfl) rfl ?_
  refine g_aloadR_n dX7_take_0 rfl rfl ?_
  refine g_iload_n dX7_take_1 rfl rfl ?_
  refine n_v1i (n' := 1) dX7_take_2 mX7_isMany lX7_242 rfl hW vld_x20 rfl rfl ⟨Nat.le_of_ble_eq_true rfl, Nat.le_of_ble_eq_true rfl⟩ ⟨Nat.zero_le _, Nat.zero_le _⟩ (Nat.le_of_ble_eq_true rfl) ?_
  refine wp_X7_isMany (by exact hW) ?_
  refine ⟨_, rfl, ?_⟩
  refine g_if_ne (tgt := 15) dX7_take_5 (by decide) (fun c5 => ?_) (fun c5 => ?_)
  · simp only [b2_0, Decidable.not_not] at c5
    obtain ⟨k, hke, hk⟩ : ∃ k, n = nI k ∧ k < 25 := ⟨_, (IN_nI c5).1, (IN_nI c5).2⟩
    subst hke
    have hkc : (nI k).toNatClampNeg = k := nI_clamp (by omega)
    refine g_iconst dX7_take_15 (v := 0) (by decide) ?_
    refine g_istore_2 dX7_take_16 rfl ?_
    refine g_iconst dX7_take_17 (v := (-1)) (by decide) ?_
    refine g_istore_3 dX7_take_18 rfl ?_
    refine g_iconst dX7_take_19 (v := 0) (by decide) ?_
    refine g_istore_4 dX7_take_20 rfl ?_
    have e : opTake X (nI k) = ((tkF (xS X) k ((xS X).1 + 1)).1, X) := by
      unfold opTake
      rw [if_neg (not_not_intro c5), hkc]
    rw [e] at h
    dsimp only at h
    refine lp_X7_takeS hW hO.1 (fun M2 hf2 hR2 hs2 => ?_) 0 (Nat.zero_le _) M FrI.rf hX.1 (fun i hi => absurd hi (by omega))
    refine g_iconst dX7_take_51 (v := 0) (by decide) ?_
    refine g_istore_4 dX7_take_52 rfl ?_
    exact lp_X7_take hW hO.1 (by omega) (fun M' hf hR => h _ (frM_DM hf) (hX.dm hf hR)) 0 (Nat.zero_le _) M2 _ _ hf2 hR2.c0 hs2
  · simp only [b2_0, Decidable.not_not] at c5
    refine g_aloadR_n dX7_take_8 rfl rfl ?_
    refine g_bipush dX7_take_9 (v := (-6)) (by decide) ?_
    refine n_v1i (n' := 0) dX7_take_11 mX7_no lX7_109 rfl hW vld_x20 rfl rfl ⟨Nat.le_of_ble_eq_true rfl, Nat.le_of_ble_eq_true rfl⟩ ⟨Nat.zero_le _, Nat.zero_le _⟩ (Nat.le_of_ble_eq_true rfl) ?_
    refine wp_X7_no (j := 6) (by exact hW) (by decide) (by decide) ?_
    refine ⟨_, rfl, ?_⟩
    refine g_iret dX7_take_14 rfl ?_
    have e : opTake X n = rfX X 6 := by
      unfold opTake
      rw [if_pos c5]
    rw [e] at h
    exact h _ (frM_sI (by decide)) (repMo_rfm hX (by decide) (by decide))
set_option maxHeartbeats 4000000 in
set_option maxRecDepth 100000 in
theorem lp_X7_satIfPaid {E : Ev} {M0 : Mem} {Q : QT} (hW0 : Wi M0) {S : Sc} (hO : OkS S) {n : Nat} (hn : n ≤ 24) {v : Int32} (hv : v = 0 ∨ v = 1) (h : ∀ M', FrI DQ M0 M' → RepR M' (payS S v) → Q (some (vI (nI (seatSum (payS S v) n)))) M') : ∀ j, j ≤ S.1 → ∀ (M : Mem) (g : Nat → Int32), FrI DQ M0 M → RepR M (colS S 3 g) → (∀ i, i < j → g i = v) → G E (rm 5 0 0) kX7_satIfPaid (ZQ E Q 0 0) 0 0 2 [some (vR (20, 0, 0)), some (vI (nI n)), some (vI v), some (vI (nI j))] [] M := by
  refine up_loop S.1 (fun j hj ih M g hf hR hg => ?_)
  have hW := hf.W hW0
  have hsz : mI M (20, 0, 0) 0 = nI S.1 := hR.1
  have hs10 := hO.1
  refine g_iload_n dX7_satIfPaid_2 rfl rfl ?_
  refine g_aloadR_n dX7_satIfPaid_3 rfl rfl ?_
  refine n_getI dX7_satIfPaid_4 fX7_102 rfl hW vld_x20 (Or.inl rfl) ?_
  refine g_icmp_ge (tgt := 23) dX7_satIfPaid_7 (by decide) (fun c7 => ?_) (fun c7 => ?_)
  · rw [hsz] at c7
    have hjn2 : j = S.1 := by rw [nI_leI (by omega) (by omega)] at c7; omega
    subst hjn2
    have hRp : RepR M (payS S v) := hR.cg rfl (fun _ _ _ => rfl) (fun i f hi _ => by
      simp only [colS, payS]
      by_cases q : f = 3
      · rw [if_pos q, if_pos q, hg i hi]
      · rw [if_neg q, if_neg q])
    refine g_aloadR_n dX7_satIfPaid_23 rfl rfl ?_
    refine g_iload_n dX7_satIfPaid_24 rfl rfl ?_
    refine n_v1v (n' := 4) dX7_satIfPaid_25 mX7_runs lX7_245 rfl hW vld_x20 rfl rfl ⟨Nat.le_of_ble_eq_true rfl, Nat.le_of_ble_eq_true rfl⟩ ⟨Nat.zero_le _, Nat.zero_le _⟩ (Nat.le_of_ble_eq_true rfl) ?_
    refine wp_X7_runs (n := n) (by exact hW) hRp (hO.pay hv) hn (fun M1 hf1 hR1 ho1 => ?_)
    have hW1 := hf1.W (by exact hW)
    refine ⟨rfl, ?_⟩
    refine g_aloadR_n dX7_satIfPaid_28 rfl rfl ?_
    refine n_getI dX7_satIfPaid_29 fX7_218 rfl hW1 vld_x20 (Or.inl rfl) ?_
    rw [show mI M1 (20, 0, 0) 41 = nI (seatSum (payS S v) n) from ho1.2.1]
    refine g_iret dX7_satIfPaid_32 rfl ?_
    exact h M1 (hf.tr hf1) hR1
  · rw [hsz] at c7
    have hjn : j < S.1 := by rw [nI_leI (by omega) (by omega)] at c7; omega
    refine g_aloadR_n dX7_satIfPaid_10 rfl rfl ?_
    refine n_getR dX7_satIfPaid_11 fX7_38 rfl hW vld_x20 rfl rfl ?_
    refine g_iload_n dX7_satIfPaid_14 rfl rfl ?_
    refine g_iload_n dX7_satIfPaid_15 rfl rfl ?_
    refine n_iast (j := j) dX7_satIfPaid_16 rfl hW (vld_ma (by decide : 4 < 25)) (by decide) rfl (show j < 10 by omega) ?_
    refine g_iinc_3 (v := nI (j + 1)) dX7_satIfPaid_17 rfl (nI_inc j) ?_
    refine g_goto (tgt := 2) dX7_satIfPaid_20 (by decide) ?_
    refine ih hjn _ _ (hf.tr (fr_sI (Or.inl (Or.inr (Or.inr ⟨rfl, by decide, by decide⟩))))) (hR.cs (f0 := 3)) (fun i hi => ?_)
    by_cases q : i = j
    · rw [if_pos q]
    · rw [if_neg q]; exact hg i (by omega)
set_option maxHeartbeats 4000000 in
set_option maxRecDepth 100000 in
theorem wp_X7_satIfPaid {E : Ev} {M : Mem} {Q : QT} (hW : Wi M) {S : Sc} {g : Nat → Int32} (hR : RepR M (colS S 3 g)) (hO : OkS S) {n : Nat} (hn : n ≤ 24) {v : Int32} (hv : v = 0 ∨ v = 1) (h : ∀ M', FrI DQ M M' → RepR M' (payS S v) → Q (some (vI (nI (seatSum (payS S v) n)))) M') : Mth E 5 0 0 kX7_satIfPaid [vR (20, 0, 0), vI (nI n), vI v] M Q := by
  refine mth_of (by decide +kernel) [some (vR (20, 0, 0)), some (vI (nI n)), some (vI v), none] (Nat.le_of_ble_eq_true rfl) rfl ?_
  refine g_iconst dX7_satIfPaid_0 (v := 0) (by decide) ?_
  refine g_istore_3 dX7_satIfPaid_1 rfl ?_
  exact lp_X7_satIfPaid hW hO hn hv h 0 (Nat.zero_le _) M g FrI.rf hR (fun i hi => absurd hi (by omega))
set_option maxHeartbeats 4000000 in
set_option maxRecDepth 100000 in
theorem wp_X7_price {E : Ev} {M : Mem} {Q : QT} (hW : Wi M) {X : Sys} (hX : RepMo M X) (hO : OkX X) {n : Int32} (h : ∀ M', FrM M M' → RepMo M' (opPrice X n).2 → Q (some (vI (opPrice X n).1)) M') : Mth E 6 0 0 kX7_price [vR (20, 0, 0), vI n] M Q := by
  refine mth_of (by decide +kernel) [some (vR (20, 0, 0)), some (vI n), none, none] (Nat.le_of_ble_eq_true rfl) rfl ?_
  refine g_aloadR_n dX7_price_0 rfl rfl ?_
  refine g_iload_n dX7_price_1 rfl rfl ?_
  refine n_v1i (n' := 1) dX7_price_2 mX7_isMany lX7_242 rfl hW vld_x20 rfl rfl ⟨Nat.le_of_ble_eq_true rfl, Nat.le_of_ble_eq_true rfl⟩ ⟨Nat.zero_le _, Nat.zero_le _⟩ (Nat.le_of_ble_eq_true rfl) ?_
  refine wp_X7_isMany (by exact hW) ?_
  refine ⟨_, rfl, ?_⟩
  refine g_if_ne (tgt := 19) dX7_price_5 (by decide) (fun c5 => ?_) (fun c5 => ?_)
  · simp only [b2_0, Decidable.not_not] at c5
    obtain ⟨k, hke, hk⟩ : ∃ k, n = nI k ∧ k < 25 := ⟨_, (IN_nI c5).1, (IN_nI c5).2⟩
    subst hke
    have hkc : (nI k).toNatClampNeg = k := nI_clamp (by omega)
    refine g_iconst dX7_price_19 (v := 0) (by decide) ?_
    refine g_istore_2 dX7_price_20 rfl ?_
    refine lp_X7_priceS hW hO.1 (fun M2 hf2 hR2 hs2 => ?_) 0 (Nat.zero_le _) M FrI.rf hX.1 (fun i hi => absurd hi (by omega))
    have hW2 := hf2.W hW
    refine g_aloadR_n dX7_price_47 rfl rfl ?_
    refine g_iload_n dX7_price_48 rfl rfl ?_
    refine g_iconst dX7_price_49 (v := 1) (by decide) ?_
    refine n_v2i (n' := 5) dX7_price_50 mX7_satIfPaid lX7_251 rfl hW2 vld_x20 rfl rfl ⟨Nat.le_of_ble_eq_true rfl, Nat.le_of_ble_eq_true rfl⟩ ⟨Nat.zero_le _, Nat.zero_le _⟩ (Nat.le_of_ble_eq_true rfl) ?_
    refine wp_X7_satIfPaid (S := xS X) (by exact hW2) hR2.c0 hO.1 (show k ≤ 24 by omega) (Or.inr rfl) (fun M3 hf3 hR3 => ?_)
    have hW2 := hf3.W (by exact hW2)
    refine ⟨_, rfl, ?_⟩
    refine g_aloadR_n dX7_price_53 rfl rfl ?_
    refine g_iload_n dX7_price_54 rfl rfl ?_
    refine g_iconst dX7_price_55 (v := 0) (by decide) ?_
    refine n_v2i (n' := 5) dX7_price_56 mX7_satIfPaid lX7_251 rfl hW2 vld_x20 rfl rfl ⟨Nat.le_of_ble_eq_true rfl, Nat.le_of_ble_eq_true rfl⟩ ⟨Nat.zero_le _, Nat.zero_le _⟩ (Nat.le_of_ble_eq_true rfl) ?_
    refine wp_X7_satIfPaid (S := xS X) (by exact hW2) (g := fun _ => 1) hR3 hO.1 (show k ≤ 24 by omega) (Or.inl rfl) (fun M4 hf4 hR4 => ?_)
    have hW3 := hf4.W (by exact hW2)
    refine ⟨_, rfl, ?_⟩
    refine g_isub dX7_price_59 ?_
    refine g_istore_2 dX7_price_60 rfl ?_
    refine g_iconst dX7_price_61 (v := 0) (by decide) ?_
    refine g_istore_3 dX7_price_62 rfl ?_
    have e : opPrice X (nI k) = (nI (seatSum (payS (xS X) 1) k) - nI (seatSum (payS (xS X) 0) k), X) := by
      unfold opPrice
      rw [if_neg (not_not_intro c5), hkc]
    rw [e] at h
    exact lp_X7_priceB hW hO.1 (fun M' hf hR => h _ (frM_DM hf) (hX.dm hf hR)) 0 (Nat.zero_le _) M4 (fun _ => 0) ((hf2.tr (hf3.mono DQ_DM)).tr (hf4.mono DQ_DM)) hR4 ((hs2.fr hf3 DQ_23).fr hf4 DQ_23) (fun i hi => absurd hi (by omega))
  · simp only [b2_0, Decidable.not_not] at c5
    refine g_aloadR_n dX7_price_8 rfl rfl ?_
    refine g_bipush dX7_price_9 (v := (-6)) (by decide) ?_
    refine n_v1i (n' := 0) dX7_price_11 mX7_no lX7_109 rfl hW vld_x20 rfl rfl ⟨Nat.le_of_ble_eq_true rfl, Nat.le_of_ble_eq_true rfl⟩ ⟨Nat.zero_le _, Nat.zero_le _⟩ (Nat.le_of_ble_eq_true rfl) ?_
    refine wp_X7_no (j := 6) (by exact hW) (by decide) (by decide) ?_
    refine ⟨_, rfl, ?_⟩
    refine g_sipush dX7_price_14 (v := 1000) (by decide) ?_
    refine g_isub dX7_price_17 ?_
    refine g_iret dX7_price_18 rfl ?_
    have e : opPrice X n = ((rfX X 6).1 - 1000, (rfX X 6).2) := by
      unfold opPrice
      rw [if_pos c5]
    rw [e] at h
    exact h _ (frM_sI (by decide)) (repMo_rfm hX (by decide) (by decide))
