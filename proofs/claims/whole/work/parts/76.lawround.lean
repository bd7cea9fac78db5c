/-! THE LAW: THE ROUND -/
set_option maxHeartbeats 4000000 in
set_option maxRecDepth 100000 in
theorem st_law {E : Ev} {nm : String} {M : Mem} {X : Sys} {i : Nat} (hL : eL E ≤ 3072) (hi3 : 6 * i ≤ 3072) (hW : Wi M) (hC : RepCl M X) (hR : RepMo M X) (hO : OkX X) (hN0 : 6 * i + 6 ≤ eL E → ∀ M1 X1, Wi M1 → RepCl M1 X1 → RepMo M1 X1 → OkX X1 → G E room_1 (kL nm) (ZL E) 104 4227 18 [some (vS 4), some (vR (0, 0, 0)), some (vR (20, 0, 0)), some (vI (nI (6 * (i + 1))))] [] M1) : G E room_1 (kL nm) (ZL E) 104 4227 18 [some (vS 4), some (vR (0, 0, 0)), some (vR (20, 0, 0)), some (vI (nI (6 * i)))] [] M := by
  refine g_iload_n dXL_law_18 rfl rfl ?_
  refine g_aloadS_n dXL_law_19 rfl rfl ?_
  refine g_alenX dXL_law_20 ?_
  refine g_bipush dXL_law_21 (v := 6) (by decide) ?_
  refine g_isub dXL_law_23 ?_
  have hA : (nI (eL E)).toInt = (eL E : Int) := nI_toInt (by omega)
  have hB : (nI (6 * i)).toInt = ((6 * i : Nat) : Int) := nI_toInt (by omega)
  have hS : (nI (eL E) - 6).toInt = (eL E : Int) - 6 := by
    rw [show (6 : Int32) = nI 6 from rfl, pk_sub_toInt (by omega) (by omega)]; rfl
  refine g_icmp_gt (tgt := 1400) dXL_law_24 (by decide) (fun c24 => ?_) (fun c24 => ?_)
  · refine g_iconst dXL_law_1400 (v := 1) (by decide) ?_
    exact g_law dXL_law_1401 (Nat.le_of_ble_eq_true rfl) (Nat.le_of_ble_eq_true rfl)
  · rw [Int32.lt_iff_toInt_lt, hS, hB] at c24
    have hi : 6 * i + 6 ≤ eL E := by omega
    have hN : ∀ M1 X1, Wi M1 → RepCl M1 X1 → RepMo M1 X1 → OkX X1 → G E room_1 (kL nm) (ZL E) 104 4227 1394 [some (vS 4), some (vR (0, 0, 0)), some (vR (20, 0, 0)), some (vI (nI (6 * i)))] [] M1 := fun M1 X1 a b c d => by
      refine g_iinc_3 (v := nI (6 * (i + 1))) dXL_law_1394 rfl (nI_add (6 * i) 6) ?_
      refine g_goto (tgt := 18) dXL_law_1397 (by decide) ?_
      exact hN0 hi M1 X1 a b c d
    refine g_aloadS_n dXL_law_27 rfl rfl ?_
    refine g_iload_n dXL_law_28 rfl rfl ?_
    refine g_ialdX (j := 6 * i) dXL_law_29 rfl (by omega) (by omega) ?_
    refine g_bipush dXL_law_30 (v := 63) (by decide) ?_
    refine g_iand dXL_law_32 ?_
    refine g_top (fun y33 e33 => ?_)
    clear e33
    by_cases hb : IN y33 39
    · obtain ⟨e1, e2⟩ := IN_nI hb
      generalize y33.toNatClampNeg = q at e1 e2
      subst e1
      match q, e2 with
    | 0, _ =>
      refine g_tableIn (tgt := 204) dXL_law_33 (by decide) (by decide) (o := 171) (by decide) (by decide) ?_
      exact cs_0 hL hi hW hC hR hO hN
    | 1, _ =>
      refine g_tableIn (tgt := 247) dXL_law_33 (by decide) (by decide) (o := 214) (by decide) (by decide) ?_
      exact cs_1 hL hi hW hC hR hO hN
    | 2, _ =>
      refine g_tableIn (tgt := 320) dXL_law_33 (by decide) (by decide) (o := 287) (by decide) (by decide) ?_
      exact cs_2 hL hi hW hC hR hO hN
    | 3, _ =>
      refine g_tableIn (tgt := 383) dXL_law_33 (by decide) (by decide) (o := 350) (by decide) (by decide) ?_
      exact cs_3 hL hi hW hC hR hO hN
    | 4, _ =>
      refine g_tableIn (tgt := 417) dXL_law_33 (by decide) (by decide) (o := 384) (by decide) (by decide) ?_
      exact cs_4 hL hi hW hC hR hO hN
    | 5, _ =>
      refine g_tableIn (tgt := 450) dXL_law_33 (by decide) (by decide) (o := 417) (by decide) (by decide) ?_
      exact cs_5 hL hi hW hC hR hO hN
    | 6, _ =>
      refine g_tableIn (tgt := 473) dXL_law_33 (by decide) (by decide) (o := 440) (by decide) (by decide) ?_
      exact cs_6 hL hi hW hC hR hO hN
    | 7, _ =>
      refine g_tableIn (tgt := 506) dXL_law_33 (by decide) (by decide) (o := 473) (by decide) (by decide) ?_
      by_cases hz : eX E (6 * i + 4) = 0
      · exact cs_7a hL hi hz hW hC hR hO hN
      · exact cs_7b hL hi hz hW hC hR hO hN
    | 8, _ =>
      refine g_tableIn (tgt := 575) dXL_law_33 (by decide) (by decide) (o := 542) (by decide) (by decide) ?_
      exact cs_8 hL hi hW hC hR hO hN
    | 9, _ =>
      refine g_tableIn (tgt := 608) dXL_law_33 (by decide) (by decide) (o := 575) (by decide) (by decide) ?_
      exact cs_9 hL hi hW hC hR hO hN
    | 10, _ =>
      refine g_tableIn (tgt := 641) dXL_law_33 (by decide) (by decide) (o := 608) (by decide) (by decide) ?_
      by_cases hz : eX E (6 * i + 2) = 0
      · exact cs_10a hL hi hz hW hC hR hO hN
      · exact cs_10b hL hi hz hW hC hR hO hN
    | 11, _ =>
      refine g_tableIn (tgt := 690) dXL_law_33 (by decide) (by decide) (o := 657) (by decide) (by decide) ?_
      exact cs_11 hL hi hW hC hR hO hN
    | 12, _ =>
      refine g_tableIn (tgt := 723) dXL_law_33 (by decide) (by decide) (o := 690) (by decide) (by decide) ?_
      exact cs_12 hL hi hW hC hR hO hN
    | 13, _ =>
      refine g_tableIn (tgt := 746) dXL_law_33 (by decide) (by decide) (o := 713) (by decide) (by decide) ?_
      exact cs_13 hL hi hW hC hR hO hN
    | 14, _ =>
      refine g_tableIn (tgt := 759) dXL_law_33 (by decide) (by decide) (o := 726) (by decide) (by decide) ?_
      exact cs_14 hL hi hW hC hR hO hN
    | 15, _ =>
      refine g_tableIn (tgt := 782) dXL_law_33 (by decide) (by decide) (o := 749) (by decide) (by decide) ?_
      exact cs_15 hL hi hW hC hR hO hN
    | 16, _ =>
      refine g_tableIn (tgt := 805) dXL_law_33 (by decide) (by decide) (o := 772) (by decide) (by decide) ?_
      exact cs_16 hL hi hW hC hR hO hN
    | 17, _ =>
      refine g_tableIn (tgt := 838) dXL_law_33 (by decide) (by decide) (o := 805) (by decide) (by decide) ?_
      exact cs_17 hL hi hW hC hR hO hN
    | 18, _ =>
      refine g_tableIn (tgt := 871) dXL_law_33 (by decide) (by decide) (o := 838) (by decide) (by decide) ?_
      exact cs_18 hL hi hW hC hR hO hN
    | 19, _ =>
      refine g_tableIn (tgt := 914) dXL_law_33 (by decide) (by decide) (o := 881) (by decide) (by decide) ?_
      exact cs_19 hL hi hW hC hR hO hN
    | 20, _ =>
      refine g_tableIn (tgt := 947) dXL_law_33 (by decide) (by decide) (o := 914) (by decide) (by decide) ?_
      exact cs_20 hL hi hW hC hR hO hN
    | 21, _ =>
      refine g_tableIn (tgt := 970) dXL_law_33 (by decide) (by decide) (o := 937) (by decide) (by decide) ?_
      exact cs_21 hL hi hW hC hR hO hN
    | 22, _ =>
      refine g_tableIn (tgt := 993) dXL_law_33 (by decide) (by decide) (o := 960) (by decide) (by decide) ?_
      exact cs_22 hL hi hW hC hR hO hN
    | 23, _ =>
      refine g_tableIn (tgt := 1016) dXL_law_33 (by decide) (by decide) (o := 983) (by decide) (by decide) ?_
      exact cs_23 hL hi hW hC hR hO hN
    | 24, _ =>
      refine g_tableIn (tgt := 1039) dXL_law_33 (by decide) (by decide) (o := 1006) (by decide) (by decide) ?_
      exact cs_24 hL hi hW hC hR hO hN
    | 25, _ =>
      refine g_tableIn (tgt := 1062) dXL_law_33 (by decide) (by decide) (o := 1029) (by decide) (by decide) ?_
      exact cs_25 hL hi hW hC hR hO hN
    | 26, _ =>
      refine g_tableIn (tgt := 1075) dXL_law_33 (by decide) (by decide) (o := 1042) (by decide) (by decide) ?_
      exact cs_26 hL hi hW hC hR hO hN
    | 27, _ =>
      refine g_tableIn (tgt := 1098) dXL_law_33 (by decide) (by decide) (o := 1065) (by decide) (by decide) ?_
      exact cs_27 hL hi hW hC hR hO hN
    | 28, _ =>
      refine g_tableIn (tgt := 1121) dXL_law_33 (by decide) (by decide) (o := 1088) (by decide) (by decide) ?_
      exact cs_28 hL hi hW hC hR hO hN
    | 29, _ =>
      refine g_tableIn (tgt := 1134) dXL_law_33 (by decide) (by decide) (o := 1101) (by decide) (by decide) ?_
      exact cs_29 hL hi hW hC hR hO hN
    | 30, _ =>
      refine g_tableIn (tgt := 1177) dXL_law_33 (by decide) (by decide) (o := 1144) (by decide) (by decide) ?_
      exact cs_30 hL hi hW hC hR hO hN
    | 31, _ =>
      refine g_tableIn (tgt := 1210) dXL_law_33 (by decide) (by decide) (o := 1177) (by decide) (by decide) ?_
      exact cs_31 hL hi hW hC hR hO hN
    | 32, _ =>
      refine g_tableIn (tgt := 1233) dXL_law_33 (by decide) (by decide) (o := 1200) (by decide) (by decide) ?_
      exact cs_32 hL hi hW hC hR hO hN
    | 33, _ =>
      refine g_tableIn (tgt := 1256) dXL_law_33 (by decide) (by decide) (o := 1223) (by decide) (by decide) ?_
      exact cs_33 hL hi hW hC hR hO hN
    | 34, _ =>
      refine g_tableIn (tgt := 1279) dXL_law_33 (by decide) (by decide) (o := 1246) (by decide) (by decide) ?_
      exact cs_34 hL hi hW hC hR hO hN
    | 35, _ =>
      refine g_tableIn (tgt := 1322) dXL_law_33 (by decide) (by decide) (o := 1289) (by decide) (by decide) ?_
      exact cs_35 hL hi hW hC hR hO hN
    | 36, _ =>
      refine g_tableIn (tgt := 1345) dXL_law_33 (by decide) (by decide) (o := 1312) (by decide) (by decide) ?_
      exact cs_36 hL hi hW hC hR hO hN
    | 37, _ =>
      refine g_tableIn (tgt := 1358) dXL_law_33 (by decide) (by decide) (o := 1325) (by decide) (by decide) ?_
      exact cs_37 hL hi hW hC hR hO hN
    | 38, _ =>
      refine g_tableIn (tgt := 1371) dXL_law_33 (by decide) (by decide) (o := 1338) (by decide) (by decide) ?_
      exact cs_38 hL hi hW hC hR hO hN
      | n + 39, h => exact absurd h (by omega)
    · refine g_tableOut (tgt := 1394) dXL_law_33 (by unfold IN at hb; omega) (by decide) ?_
      exact hN M X hW hC hR hO
theorem lp_law {E : Ev} {nm : String} (hL : eL E ≤ 3072) : ∀ d i : Nat, eL E ≤ 6 * i + 5 + 6 * d → 6 * i + 6 * d ≤ 3072 → ∀ (M : Mem) (X : Sys), Wi M → RepCl M X → RepMo M X → OkX X → G E room_1 (kL nm) (ZL E) 104 4227 18 [some (vS 4), some (vR (0, 0, 0)), some (vR (20, 0, 0)), some (vI (nI (6 * i)))] [] M := by
  intro d
  induction d with
  | zero => intro i h1 h2 M X hW hC hR hO; exact st_law hL (by omega) hW hC hR hO (fun h => by omega)
  | succ d ih => intro i h1 h2 M X hW hC hR hO; exact st_law hL (by omega) hW hC hR hO (fun h M1 X1 a b c d1 => ih (i + 1) (by omega) (by omega) M1 X1 a b c d1)
