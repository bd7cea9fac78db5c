/-! TWO METHODS OF THE JDK; SHELVES -/
theorem dJ6_bitCount_0f7a4_0 : decode cJ6_bitCount_0f7a4 0 = .ok (.iload_n 0, 1) := by decide +kernel
theorem dJ6_bitCount_0f7a4_1 : decode cJ6_bitCount_0f7a4 1 = .ok (.iload_n 0, 1) := by decide +kernel
theorem dJ6_bitCount_0f7a4_2 : decode cJ6_bitCount_0f7a4 2 = .ok (.iconst 1, 1) := by decide +kernel
theorem dJ6_bitCount_0f7a4_3 : decode cJ6_bitCount_0f7a4 3 = .ok (.iushr, 1) := by decide +kernel
theorem dJ6_bitCount_0f7a4_4 : decode cJ6_bitCount_0f7a4 4 = .ok (.ldc_w 265, 3) := by decide +kernel
theorem dJ6_bitCount_0f7a4_7 : decode cJ6_bitCount_0f7a4 7 = .ok (.iand, 1) := by decide +kernel
theorem dJ6_bitCount_0f7a4_8 : decode cJ6_bitCount_0f7a4 8 = .ok (.isub, 1) := by decide +kernel
theorem dJ6_bitCount_0f7a4_9 : decode cJ6_bitCount_0f7a4 9 = .ok (.istore_n 0, 1) := by decide +kernel
theorem dJ6_bitCount_0f7a4_10 : decode cJ6_bitCount_0f7a4 10 = .ok (.iload_n 0, 1) := by decide +kernel
theorem dJ6_bitCount_0f7a4_11 : decode cJ6_bitCount_0f7a4 11 = .ok (.ldc_w 266, 3) := by decide +kernel
theorem dJ6_bitCount_0f7a4_14 : decode cJ6_bitCount_0f7a4 14 = .ok (.iand, 1) := by decide +kernel
theorem dJ6_bitCount_0f7a4_15 : decode cJ6_bitCount_0f7a4 15 = .ok (.iload_n 0, 1) := by decide +kernel
theorem dJ6_bitCount_0f7a4_16 : decode cJ6_bitCount_0f7a4 16 = .ok (.iconst 2, 1) := by decide +kernel
theorem dJ6_bitCount_0f7a4_17 : decode cJ6_bitCount_0f7a4 17 = .ok (.iushr, 1) := by decide +kernel
theorem dJ6_bitCount_0f7a4_18 : decode cJ6_bitCount_0f7a4 18 = .ok (.ldc_w 266, 3) := by decide +kernel
theorem dJ6_bitCount_0f7a4_21 : decode cJ6_bitCount_0f7a4 21 = .ok (.iand, 1) := by decide +kernel
theorem dJ6_bitCount_0f7a4_22 : decode cJ6_bitCount_0f7a4 22 = .ok (.iadd, 1) := by decide +kernel
theorem dJ6_bitCount_0f7a4_23 : decode cJ6_bitCount_0f7a4 23 = .ok (.istore_n 0, 1) := by decide +kernel
theorem dJ6_bitCount_0f7a4_24 : decode cJ6_bitCount_0f7a4 24 = .ok (.iload_n 0, 1) := by decide +kernel
theorem dJ6_bitCount_0f7a4_25 : decode cJ6_bitCount_0f7a4 25 = .ok (.iload_n 0, 1) := by decide +kernel
theorem dJ6_bitCount_0f7a4_26 : decode cJ6_bitCount_0f7a4 26 = .ok (.iconst 4, 1) := by decide +kernel
theorem dJ6_bitCount_0f7a4_27 : decode cJ6_bitCount_0f7a4 27 = .ok (.iushr, 1) := by decide +kernel
theorem dJ6_bitCount_0f7a4_28 : decode cJ6_bitCount_0f7a4 28 = .ok (.iadd, 1) := by decide +kernel
theorem dJ6_bitCount_0f7a4_29 : decode cJ6_bitCount_0f7a4 29 = .ok (.ldc_w 267, 3) := by decide +kernel
theorem dJ6_bitCount_0f7a4_32 : decode cJ6_bitCount_0f7a4 32 = .ok (.iand, 1) := by decide +kernel
theorem dJ6_bitCount_0f7a4_33 : decode cJ6_bitCount_0f7a4 33 = .ok (.istore_n 0, 1) := by decide +kernel
theorem dJ6_bitCount_0f7a4_34 : decode cJ6_bitCount_0f7a4 34 = .ok (.iload_n 0, 1) := by decide +kernel
theorem dJ6_bitCount_0f7a4_35 : decode cJ6_bitCount_0f7a4 35 = .ok (.iload_n 0, 1) := by decide +kernel
theorem dJ6_bitCount_0f7a4_36 : decode cJ6_bitCount_0f7a4 36 = .ok (.bipush 8, 2) := by decide +kernel
theorem dJ6_bitCount_0f7a4_38 : decode cJ6_bitCount_0f7a4 38 = .ok (.iushr, 1) := by decide +kernel
theorem dJ6_bitCount_0f7a4_39 : decode cJ6_bitCount_0f7a4 39 = .ok (.iadd, 1) := by decide +kernel
theorem dJ6_bitCount_0f7a4_40 : decode cJ6_bitCount_0f7a4 40 = .ok (.istore_n 0, 1) := by decide +kernel
theorem dJ6_bitCount_0f7a4_41 : decode cJ6_bitCount_0f7a4 41 = .ok (.iload_n 0, 1) := by decide +kernel
theorem dJ6_bitCount_0f7a4_42 : decode cJ6_bitCount_0f7a4 42 = .ok (.iload_n 0, 1) := by decide +kernel
theorem dJ6_bitCount_0f7a4_43 : decode cJ6_bitCount_0f7a4 43 = .ok (.bipush 16, 2) := by decide +kernel
theorem dJ6_bitCount_0f7a4_45 : decode cJ6_bitCount_0f7a4 45 = .ok (.iushr, 1) := by decide +kernel
theorem dJ6_bitCount_0f7a4_46 : decode cJ6_bitCount_0f7a4 46 = .ok (.iadd, 1) := by decide +kernel
theorem dJ6_bitCount_0f7a4_47 : decode cJ6_bitCount_0f7a4 47 = .ok (.istore_n 0, 1) := by decide +kernel
theorem dJ6_bitCount_0f7a4_48 : decode cJ6_bitCount_0f7a4 48 = .ok (.iload_n 0, 1) := by decide +kernel
theorem dJ6_bitCount_0f7a4_49 : decode cJ6_bitCount_0f7a4 49 = .ok (.bipush 63, 2) := by decide +kernel
theorem dJ6_bitCount_0f7a4_51 : decode cJ6_bitCount_0f7a4 51 = .ok (.iand, 1) := by decide +kernel
theorem dJ6_bitCount_0f7a4_52 : decode cJ6_bitCount_0f7a4 52 = .ok (.ireturn, 1) := by decide +kernel
theorem dJ7_fill_d0a16_0 : decode cJ7_fill_d0a16 0 = .ok (.iconst 0, 1) := by decide +kernel
theorem dJ7_fill_d0a16_1 : decode cJ7_fill_d0a16 1 = .ok (.istore_n 3, 1) := by decide +kernel
theorem dJ7_fill_d0a16_2 : decode cJ7_fill_d0a16 2 = .ok (.aload_n 0, 1) := by decide +kernel
theorem dJ7_fill_d0a16_3 : decode cJ7_fill_d0a16 3 = .ok (.arraylength, 1) := by decide +kernel
theorem dJ7_fill_d0a16_4 : decode cJ7_fill_d0a16 4 = .ok (.istore 4, 2) := by decide +kernel
theorem dJ7_fill_d0a16_6 : decode cJ7_fill_d0a16 6 = .ok (.iload_n 3, 1) := by decide +kernel
theorem dJ7_fill_d0a16_7 : decode cJ7_fill_d0a16 7 = .ok (.iload 4, 2) := by decide +kernel
theorem dJ7_fill_d0a16_9 : decode cJ7_fill_d0a16 9 = .ok (.if_icmp .ge 13, 3) := by decide +kernel
theorem dJ7_fill_d0a16_12 : decode cJ7_fill_d0a16 12 = .ok (.aload_n 0, 1) := by decide +kernel
theorem dJ7_fill_d0a16_13 : decode cJ7_fill_d0a16 13 = .ok (.iload_n 3, 1) := by decide +kernel
theorem dJ7_fill_d0a16_14 : decode cJ7_fill_d0a16 14 = .ok (.lload_n 1, 1) := by decide +kernel
theorem dJ7_fill_d0a16_15 : decode cJ7_fill_d0a16 15 = .ok (.lastore, 1) := by decide +kernel
theorem dJ7_fill_d0a16_16 : decode cJ7_fill_d0a16 16 = .ok (.iinc 3 1, 3) := by decide +kernel
theorem dJ7_fill_d0a16_19 : decode cJ7_fill_d0a16 19 = .ok (.goto (-13), 3) := by decide +kernel
theorem dJ7_fill_d0a16_22 : decode cJ7_fill_d0a16 22 = .ok (.return_, 1) := by decide +kernel
def ush (x y : Int32) : Int32 := (x.toUInt32 >>> (y.toUInt32 &&& Int32.toUInt32 31)).toInt32
def bcF (x : Int32) : Int32 :=
  let a := x - (ush x 1 &&& 1431655765)
  let b := (a &&& 858993459) + (ush a 2 &&& 858993459)
  let c := (b + ush b 4) &&& 252645135
  let d := c + ush c 8
  let e := d + ush d 16
  e &&& 63
theorem bc_0 : (List.range 2048).all (fun m => bcF (nI m) == nI (cnt m 11)) = true := by decide +kernel
theorem bc_eq {m : Nat} (hm : m < 2048) : bcF (nI m) = nI (cnt m 11) := by
  have h := List.all_eq_true.mp bc_0 m (List.mem_range.mpr hm)
  simpa using h
set_option maxHeartbeats 4000000 in
set_option maxRecDepth 100000 in
theorem wp_J6_bitCount {E : Ev} {M : Mem} {Q : QT} {m : Nat} (hm : m < 2048) (h : Q (some (vI (nI (cnt m 11)))) M) : Mth E 0 0 0 kJ6_bitCount_0f7a4 [vI (nI m)] M Q := by
  refine mth_of (by decide +kernel) [some (vI (nI m))] (Nat.le_of_ble_eq_true rfl) rfl ?_
  refine g_iload_n dJ6_bitCount_0f7a4_0 rfl rfl ?_
  refine g_iload_n dJ6_bitCount_0f7a4_1 rfl rfl ?_
  refine g_iconst dJ6_bitCount_0f7a4_2 (v := 1) (by decide) ?_
  refine g_iushr dJ6_bitCount_0f7a4_3 ?_
  refine g_ldcw dJ6_bitCount_0f7a4_4 qJ6_265 ?_
  refine g_iand dJ6_bitCount_0f7a4_7 ?_
  refine g_isub dJ6_bitCount_0f7a4_8 ?_
  refine g_istore_0 dJ6_bitCount_0f7a4_9 ?_
  refine g_iload_n dJ6_bitCount_0f7a4_10 rfl rfl ?_
  refine g_ldcw dJ6_bitCount_0f7a4_11 qJ6_266 ?_
  refine g_iand dJ6_bitCount_0f7a4_14 ?_
  refine g_iload_n dJ6_bitCount_0f7a4_15 rfl rfl ?_
  refine g_iconst dJ6_bitCount_0f7a4_16 (v := 2) (by decide) ?_
  refine g_iushr dJ6_bitCount_0f7a4_17 ?_
  refine g_ldcw dJ6_bitCount_0f7a4_18 qJ6_266 ?_
  refine g_iand dJ6_bitCount_0f7a4_21 ?_
  refine g_iadd dJ6_bitCount_0f7a4_22 ?_
  refine g_istore_0 dJ6_bitCount_0f7a4_23 ?_
  refine g_iload_n dJ6_bitCount_0f7a4_24 rfl rfl ?_
  refine g_iload_n dJ6_bitCount_0f7a4_25 rfl rfl ?_
  refine g_iconst dJ6_bitCount_0f7a4_26 (v := 4) (by decide) ?_
  refine g_iushr dJ6_bitCount_0f7a4_27 ?_
  refine g_iadd dJ6_bitCount_0f7a4_28 ?_
  refine g_ldcw dJ6_bitCount_0f7a4_29 qJ6_267 ?_
  refine g_iand dJ6_bitCount_0f7a4_32 ?_
  refine g_istore_0 dJ6_bitCount_0f7a4_33 ?_
  refine g_iload_n dJ6_bitCount_0f7a4_34 rfl rfl ?_
  refine g_iload_n dJ6_bitCount_0f7a4_35 rfl rfl ?_
  refine g_bipush dJ6_bitCount_0f7a4_36 (v := 8) (by decide) ?_
  refine g_iushr dJ6_bitCount_0f7a4_38 ?_
  refine g_iadd dJ6_bitCount_0f7a4_39 ?_
  refine g_istore_0 dJ6_bitCount_0f7a4_40 ?_
  refine g_iload_n dJ6_bitCount_0f7a4_41 rfl rfl ?_
  refine g_iload_n dJ6_bitCount_0f7a4_42 rfl rfl ?_
  refine g_bipush dJ6_bitCount_0f7a4_43 (v := 16) (by decide) ?_
  refine g_iushr dJ6_bitCount_0f7a4_45 ?_
  refine g_iadd dJ6_bitCount_0f7a4_46 ?_
  refine g_istore_0 dJ6_bitCount_0f7a4_47 ?_
  refine g_iload_n dJ6_bitCount_0f7a4_48 rfl rfl ?_
  refine g_bipush dJ6_bitCount_0f7a4_49 (v := 63) (by decide) ?_
  refine g_iand dJ6_bitCount_0f7a4_51 ?_
  refine g_iret dJ6_bitCount_0f7a4_52 rfl ?_
  exact qI h (bc_eq hm)
def flJ (M : Mem) (a : Id) (n : Nat) (v : Int64) : Mem := (M.1, fun b j => if b = a ∧ j < n then v else M.2.1 b j, M.2.2)
theorem flJ_0 {M : Mem} {a : Id} {v : Int64} : flJ M a 0 v = M := by
  refine Prod.ext rfl (Prod.ext (funext fun b => funext fun j => ?_) rfl)
  simp [flJ]
theorem flJ_s {M : Mem} {a : Id} {n : Nat} {v : Int64} : sJ (flJ M a n v) a n v = flJ M a (n + 1) v := by
  refine Prod.ext rfl (Prod.ext (funext fun b => funext fun j => ?_) rfl)
  by_cases hb : b = a
  · subst hb
    by_cases hj : j = n
    · subst hj; simp [flJ, sJ]
    · simp only [flJ, sJ, true_and, hj, if_false]
      by_cases h2 : j < n
      · rw [if_pos h2, if_pos (by omega)]
      · rw [if_neg h2, if_neg (by omega)]
  · simp [flJ, sJ, hb]
set_option maxHeartbeats 4000000 in
set_option maxRecDepth 100000 in
theorem lp_J7_fill {E : Ev} {M : Mem} {Q : QT} (hW : Wi M) {s : Nat} (hs : s < 9) {v : Int64} (h : Q none (flJ M (6, s, 0) 160 v)) : ∀ j, j ≤ 160 → G E (rm 0 0 0) kJ7_fill_d0a16 (ZQ E Q 0 0) 0 0 6 [some (vR (6, s, 0)), some (vL v), none, some (vI (nI j)), some (vI (nI 160))] [] (flJ M (6, s, 0) j v) := by
  refine up_loop 160 (fun j hj ih => ?_)
  have hW1 : Wi (flJ M (6, s, 0) j v) := hW
  refine g_iload_n dJ7_fill_d0a16_6 rfl rfl ?_
  refine g_iload dJ7_fill_d0a16_7 rfl ?_
  refine g_icmp_ge (tgt := 22) dJ7_fill_d0a16_9 (by decide) (fun c9 => ?_) (fun c9 => ?_)
  · have hj2 : j = 160 := by rw [nI_leI (by omega) (by omega)] at c9; omega
    subst hj2
    refine g_vret dJ7_fill_d0a16_22 rfl ?_
    exact h
  · have hjn : j < 160 := by rw [nI_leI (by omega) (by omega)] at c9; omega
    refine g_aloadR_n dJ7_fill_d0a16_12 rfl rfl ?_
    refine g_iload_n dJ7_fill_d0a16_13 rfl rfl ?_
    refine g_lload_n dJ7_fill_d0a16_14 rfl rfl ?_
    refine n_last (j := j) dJ7_fill_d0a16_15 rfl hW1 (vld_el hs) (by decide) rfl hjn ?_
    rw [flJ_s]
    refine g_iinc_3 (v := nI (j + 1)) dJ7_fill_d0a16_16 rfl (nI_inc j) ?_
    refine g_goto (tgt := 6) dJ7_fill_d0a16_19 (by decide) ?_
    exact ih hjn
set_option maxHeartbeats 4000000 in
set_option maxRecDepth 100000 in
theorem wp_J7_fill {E : Ev} {M : Mem} {Q : QT} (hW : Wi M) {s : Nat} (hs : s < 9) {v : Int64} (h : Q none (flJ M (6, s, 0) 160 v)) : Mth E 0 0 0 kJ7_fill_d0a16 [vR (6, s, 0), vL v] M Q := by
  refine mth_of (by decide +kernel) [some (vR (6, s, 0)), some (vL v), none, none, none] (Nat.le_of_ble_eq_true rfl) rfl ?_
  refine g_iconst dJ7_fill_d0a16_0 (v := 0) (by decide) ?_
  refine g_istore_3 dJ7_fill_d0a16_1 rfl ?_
  refine g_aloadR_n dJ7_fill_d0a16_2 rfl rfl ?_
  refine n_alen dJ7_fill_d0a16_3 rfl (by decide) hW (vld_el hs) ?_
  refine g_istore_4 dJ7_fill_d0a16_4 rfl ?_
  have hi := lp_J7_fill (E := E) hW hs h 0 (Nat.zero_le _)
  rw [flJ_0] at hi; exact hi
