/-! STRING CONSTANTS: rules; the JDK's methods over them -/
abbrev cJ0_isLatin1_aae02 : ByteArray := prog_12_method_154_code
def yJ0_isLatin1_aae02 : MethodName := ⟨RJ0, "isLatin1", "()Z"⟩
def kJ0_isLatin1_aae02 : MK := (yJ0_isLatin1_aae02, cJ0_isLatin1_aae02, 1, (some .boolean))
set_option maxRecDepth 20000 in
theorem mJ0_isLatin1_aae02 : MV kJ0_isLatin1_aae02 0 := ⟨⟨TB_of 526 (by decide +kernel) rfl, TB_of 74 (by decide +kernel) (by decide +kernel), by decide +kernel, by decide +kernel, by decide +kernel, by decide +kernel⟩, TB_of 524 (by decide +kernel) (by decide +kernel), TB_of 525 (by decide +kernel) (by decide +kernel)⟩
theorem dJ0_isLatin1_aae02_0 : decode cJ0_isLatin1_aae02 0 = .ok (.getstatic 38, 3) := by decide +kernel
theorem dJ0_isLatin1_aae02_3 : decode cJ0_isLatin1_aae02 3 = .ok (.ifCond .eq 14, 3) := by decide +kernel
theorem dJ0_isLatin1_aae02_6 : decode cJ0_isLatin1_aae02 6 = .ok (.aload_n 0, 1) := by decide +kernel
theorem dJ0_isLatin1_aae02_7 : decode cJ0_isLatin1_aae02 7 = .ok (.getfield 15, 3) := by decide +kernel
theorem dJ0_isLatin1_aae02_10 : decode cJ0_isLatin1_aae02 10 = .ok (.ifCond .ne 7, 3) := by decide +kernel
theorem dJ0_isLatin1_aae02_13 : decode cJ0_isLatin1_aae02 13 = .ok (.iconst 1, 1) := by decide +kernel
theorem dJ0_isLatin1_aae02_14 : decode cJ0_isLatin1_aae02 14 = .ok (.goto (4), 3) := by decide +kernel
theorem dJ0_isLatin1_aae02_17 : decode cJ0_isLatin1_aae02 17 = .ok (.iconst 0, 1) := by decide +kernel
theorem dJ0_isLatin1_aae02_18 : decode cJ0_isLatin1_aae02 18 = .ok (.ireturn, 1) := by decide +kernel
abbrev cJ0_coder_7d493 : ByteArray := prog_12_method_152_code
def yJ0_coder_7d493 : MethodName := ⟨RJ0, "coder", "()B"⟩
def kJ0_coder_7d493 : MK := (yJ0_coder_7d493, cJ0_coder_7d493, 1, (some .byte))
set_option maxRecDepth 20000 in
theorem mJ0_coder_7d493 : MV kJ0_coder_7d493 0 := ⟨⟨TB_of 570 (by decide +kernel) rfl, TB_of 74 (by decide +kernel) (by decide +kernel), by decide +kernel, by decide +kernel, by decide +kernel, by decide +kernel⟩, TB_of 568 (by decide +kernel) (by decide +kernel), TB_of 569 (by decide +kernel) (by decide +kernel)⟩
theorem dJ0_coder_7d493_0 : decode cJ0_coder_7d493 0 = .ok (.getstatic 38, 3) := by decide +kernel
theorem dJ0_coder_7d493_3 : decode cJ0_coder_7d493 3 = .ok (.ifCond .eq 10, 3) := by decide +kernel
theorem dJ0_coder_7d493_6 : decode cJ0_coder_7d493 6 = .ok (.aload_n 0, 1) := by decide +kernel
theorem dJ0_coder_7d493_7 : decode cJ0_coder_7d493 7 = .ok (.getfield 15, 3) := by decide +kernel
theorem dJ0_coder_7d493_10 : decode cJ0_coder_7d493 10 = .ok (.goto (4), 3) := by decide +kernel
theorem dJ0_coder_7d493_13 : decode cJ0_coder_7d493 13 = .ok (.iconst 1, 1) := by decide +kernel
theorem dJ0_coder_7d493_14 : decode cJ0_coder_7d493 14 = .ok (.ireturn, 1) := by decide +kernel
abbrev cJ0_length_8abf5 : ByteArray := prog_12_method_54_code
def yJ0_length_8abf5 : MethodName := ⟨RJ0, "length", "()I"⟩
def kJ0_length_8abf5 : MK := (yJ0_length_8abf5, cJ0_length_8abf5, 1, (some .int))
set_option maxRecDepth 20000 in
theorem mJ0_length_8abf5 : MV kJ0_length_8abf5 0 := ⟨⟨TB_of 566 (by decide +kernel) rfl, TB_of 74 (by decide +kernel) (by decide +kernel), by decide +kernel, by decide +kernel, by decide +kernel, by decide +kernel⟩, TB_of 564 (by decide +kernel) (by decide +kernel), TB_of 565 (by decide +kernel) (by decide +kernel)⟩
theorem dJ0_length_8abf5_0 : decode cJ0_length_8abf5 0 = .ok (.aload_n 0, 1) := by decide +kernel
theorem dJ0_length_8abf5_1 : decode cJ0_length_8abf5 1 = .ok (.getfield 9, 3) := by decide +kernel
theorem dJ0_length_8abf5_4 : decode cJ0_length_8abf5 4 = .ok (.arraylength, 1) := by decide +kernel
theorem dJ0_length_8abf5_5 : decode cJ0_length_8abf5 5 = .ok (.aload_n 0, 1) := by decide +kernel
theorem dJ0_length_8abf5_6 : decode cJ0_length_8abf5 6 = .ok (.invokevirtual 335, 3) := by decide +kernel
theorem dJ0_length_8abf5_9 : decode cJ0_length_8abf5 9 = .ok (.ishr, 1) := by decide +kernel
theorem dJ0_length_8abf5_10 : decode cJ0_length_8abf5 10 = .ok (.ireturn, 1) := by decide +kernel
abbrev cJ3_checkIndex_8e157 : ByteArray := prog_17_method_11_code
def yJ3_checkIndex_8e157 : MethodName := ⟨RJ3, "checkIndex", "(IILjava/util/function/BiFunction;)I"⟩
def kJ3_checkIndex_8e157 : MK := (yJ3_checkIndex_8e157, cJ3_checkIndex_8e157, 3, (some .int))
set_option maxRecDepth 20000 in
theorem mJ3_checkIndex_8e157 : MS kJ3_checkIndex_8e157 3 := ⟨⟨TB_of 539 (by decide +kernel) rfl, TB_of 76 (by decide +kernel) (by decide +kernel), by decide +kernel, by decide +kernel, by decide +kernel, by decide +kernel⟩, TB_of 538 (by decide +kernel) (by decide +kernel)⟩
theorem dJ3_checkIndex_8e157_0 : decode cJ3_checkIndex_8e157 0 = .ok (.iload_n 0, 1) := by decide +kernel
theorem dJ3_checkIndex_8e157_1 : decode cJ3_checkIndex_8e157 1 = .ok (.ifCond .lt 8, 3) := by decide +kernel
theorem dJ3_checkIndex_8e157_4 : decode cJ3_checkIndex_8e157 4 = .ok (.iload_n 0, 1) := by decide +kernel
theorem dJ3_checkIndex_8e157_5 : decode cJ3_checkIndex_8e157 5 = .ok (.iload_n 1, 1) := by decide +kernel
theorem dJ3_checkIndex_8e157_6 : decode cJ3_checkIndex_8e157 6 = .ok (.if_icmp .lt 10, 3) := by decide +kernel
theorem dJ3_checkIndex_8e157_9 : decode cJ3_checkIndex_8e157 9 = .ok (.aload_n 2, 1) := by decide +kernel
theorem dJ3_checkIndex_8e157_10 : decode cJ3_checkIndex_8e157 10 = .ok (.iload_n 0, 1) := by decide +kernel
theorem dJ3_checkIndex_8e157_11 : decode cJ3_checkIndex_8e157 11 = .ok (.iload_n 1, 1) := by decide +kernel
theorem dJ3_checkIndex_8e157_12 : decode cJ3_checkIndex_8e157 12 = .ok (.invokestatic 95, 3) := by decide +kernel
theorem dJ3_checkIndex_8e157_16 : decode cJ3_checkIndex_8e157 16 = .ok (.iload_n 0, 1) := by decide +kernel
theorem dJ3_checkIndex_8e157_17 : decode cJ3_checkIndex_8e157 17 = .ok (.ireturn, 1) := by decide +kernel
abbrev cJ0_checkIndex_df160 : ByteArray := prog_12_method_155_code
def yJ0_checkIndex_df160 : MethodName := ⟨RJ0, "checkIndex", "(II)V"⟩
def kJ0_checkIndex_df160 : MK := (yJ0_checkIndex_df160, cJ0_checkIndex_df160, 2, (Option.none : Option Jvm.ClassFile.FieldType))
set_option maxRecDepth 20000 in
theorem mJ0_checkIndex_df160 : MS kJ0_checkIndex_df160 2 := ⟨⟨TB_of 534 (by decide +kernel) rfl, TB_of 74 (by decide +kernel) (by decide +kernel), by decide +kernel, by decide +kernel, by decide +kernel, by decide +kernel⟩, TB_of 533 (by decide +kernel) (by decide +kernel)⟩
theorem dJ0_checkIndex_df160_0 : decode cJ0_checkIndex_df160 0 = .ok (.iload_n 0, 1) := by decide +kernel
theorem dJ0_checkIndex_df160_1 : decode cJ0_checkIndex_df160 1 = .ok (.iload_n 1, 1) := by decide +kernel
theorem dJ0_checkIndex_df160_2 : decode cJ0_checkIndex_df160 2 = .ok (.getstatic 1053, 3) := by decide +kernel
theorem dJ0_checkIndex_df160_5 : decode cJ0_checkIndex_df160 5 = .ok (.invokestatic 1059, 3) := by decide +kernel
theorem dJ0_checkIndex_df160_8 : decode cJ0_checkIndex_df160 8 = .ok (.pop, 1) := by decide +kernel
theorem dJ0_checkIndex_df160_9 : decode cJ0_checkIndex_df160 9 = .ok (.return_, 1) := by decide +kernel
abbrev cJ1_charAt_3b067 : ByteArray := prog_13_method_2_code
def yJ1_charAt_3b067 : MethodName := ⟨RJ1, "charAt", "([BI)C"⟩
def kJ1_charAt_3b067 : MK := (yJ1_charAt_3b067, cJ1_charAt_3b067, 2, (some .char))
set_option maxRecDepth 20000 in
theorem mJ1_charAt_3b067 : MS kJ1_charAt_3b067 2 := ⟨⟨TB_of 531 (by decide +kernel) rfl, TB_of 75 (by decide +kernel) (by decide +kernel), by decide +kernel, by decide +kernel, by decide +kernel, by decide +kernel⟩, TB_of 530 (by decide +kernel) (by decide +kernel)⟩
theorem dJ1_charAt_3b067_0 : decode cJ1_charAt_3b067 0 = .ok (.iload_n 1, 1) := by decide +kernel
theorem dJ1_charAt_3b067_1 : decode cJ1_charAt_3b067 1 = .ok (.aload_n 0, 1) := by decide +kernel
theorem dJ1_charAt_3b067_2 : decode cJ1_charAt_3b067 2 = .ok (.arraylength, 1) := by decide +kernel
theorem dJ1_charAt_3b067_3 : decode cJ1_charAt_3b067 3 = .ok (.invokestatic 9, 3) := by decide +kernel
theorem dJ1_charAt_3b067_6 : decode cJ1_charAt_3b067 6 = .ok (.aload_n 0, 1) := by decide +kernel
theorem dJ1_charAt_3b067_7 : decode cJ1_charAt_3b067 7 = .ok (.iload_n 1, 1) := by decide +kernel
theorem dJ1_charAt_3b067_8 : decode cJ1_charAt_3b067 8 = .ok (.baload, 1) := by decide +kernel
theorem dJ1_charAt_3b067_9 : decode cJ1_charAt_3b067 9 = .ok (.sipush 255, 3) := by decide +kernel
theorem dJ1_charAt_3b067_12 : decode cJ1_charAt_3b067 12 = .ok (.iand, 1) := by decide +kernel
theorem dJ1_charAt_3b067_13 : decode cJ1_charAt_3b067 13 = .ok (.i2c, 1) := by decide +kernel
theorem dJ1_charAt_3b067_14 : decode cJ1_charAt_3b067 14 = .ok (.ireturn, 1) := by decide +kernel
abbrev cJ0_charAt_5068e : ByteArray := prog_12_method_56_code
def yJ0_charAt_5068e : MethodName := ⟨RJ0, "charAt", "(I)C"⟩
def kJ0_charAt_5068e : MK := (yJ0_charAt_5068e, cJ0_charAt_5068e, 2, (some .char))
set_option maxRecDepth 20000 in
theorem mJ0_charAt_5068e : MV kJ0_charAt_5068e 1 := ⟨⟨TB_of 522 (by decide +kernel) rfl, TB_of 74 (by decide +kernel) (by decide +kernel), by decide +kernel, by decide +kernel, by decide +kernel, by decide +kernel⟩, TB_of 520 (by decide +kernel) (by decide +kernel), TB_of 521 (by decide +kernel) (by decide +kernel)⟩
theorem dJ0_charAt_5068e_0 : decode cJ0_charAt_5068e 0 = .ok (.aload_n 0, 1) := by decide +kernel
theorem dJ0_charAt_5068e_1 : decode cJ0_charAt_5068e 1 = .ok (.invokevirtual 492, 3) := by decide +kernel
theorem dJ0_charAt_5068e_4 : decode cJ0_charAt_5068e 4 = .ok (.ifCond .eq 12, 3) := by decide +kernel
theorem dJ0_charAt_5068e_7 : decode cJ0_charAt_5068e 7 = .ok (.aload_n 0, 1) := by decide +kernel
theorem dJ0_charAt_5068e_8 : decode cJ0_charAt_5068e 8 = .ok (.getfield 9, 3) := by decide +kernel
theorem dJ0_charAt_5068e_11 : decode cJ0_charAt_5068e 11 = .ok (.iload_n 1, 1) := by decide +kernel
theorem dJ0_charAt_5068e_12 : decode cJ0_charAt_5068e 12 = .ok (.invokestatic 495, 3) := by decide +kernel
theorem dJ0_charAt_5068e_15 : decode cJ0_charAt_5068e 15 = .ok (.ireturn, 1) := by decide +kernel
theorem dJ0_charAt_5068e_16 : decode cJ0_charAt_5068e 16 = .ok (.aload_n 0, 1) := by decide +kernel
theorem dJ0_charAt_5068e_17 : decode cJ0_charAt_5068e 17 = .ok (.getfield 9, 3) := by decide +kernel
theorem dJ0_charAt_5068e_20 : decode cJ0_charAt_5068e 20 = .ok (.iload_n 1, 1) := by decide +kernel
theorem dJ0_charAt_5068e_21 : decode cJ0_charAt_5068e 21 = .ok (.invokestatic 498, 3) := by decide +kernel
theorem dJ0_charAt_5068e_24 : decode cJ0_charAt_5068e 24 = .ok (.ireturn, 1) := by decide +kernel
theorem lJ0_492 : Cond.methodLink RJ0 492 yJ0_isLatin1_aae02 ∈ TB := TB_of 523 (by decide +kernel) (by decide +kernel)
theorem lJ0_495 : Cond.methodLink RJ0 495 yJ1_charAt_3b067 ∈ TB := TB_of 529 (by decide +kernel) (by decide +kernel)
theorem lJ1_9 : Cond.methodLink RJ1 9 yJ0_checkIndex_df160 ∈ TB := TB_of 532 (by decide +kernel) (by decide +kernel)
theorem lJ0_1059 : Cond.methodLink RJ0 1059 yJ3_checkIndex_8e157 ∈ TB := TB_of 537 (by decide +kernel) (by decide +kernel)
theorem lJ0_335 : Cond.methodLink RJ0 335 yJ0_coder_7d493 ∈ TB := TB_of 567 (by decide +kernel) (by decide +kernel)
theorem lX3_80 : Cond.methodLink RX3 80 yJ0_charAt_5068e ∈ TB := TB_of 519 (by decide +kernel) (by decide +kernel)
theorem lX3_86 : Cond.methodLink RX3 86 yJ0_length_8abf5 ∈ TB := TB_of 563 (by decide +kernel) (by decide +kernel)
theorem fJ0_38 : Cond.fieldLink RJ0 38 "java/lang/String" "COMPACT_STRINGS" "Z" ∈ TB := TB_of 527 (by decide +kernel) (by decide +kernel)
theorem fJ0_15 : Cond.fieldLink RJ0 15 "java/lang/String" "coder" "B" ∈ TB := TB_of 1328 (by decide +kernel) (by decide +kernel)
theorem fJ0_9 : Cond.fieldLink RJ0 9 "java/lang/String" "value" "[B" ∈ TB := TB_of 1329 (by decide +kernel) (by decide +kernel)
theorem fJ0_1053 : Cond.fieldLink RJ0 1053 "jdk/internal/util/Preconditions" "SIOOBE_FORMATTER" "Ljava/util/function/BiFunction;" ∈ TB := TB_of 535 (by decide +kernel) (by decide +kernel)
section SR
variable {E : Ev} {R : Room} {k : MK} {Z : ZT} {ca sl pc : Nat} {lv : List (Option AV)} {st : List AV} {M : Mem}
theorem Wst.sr {U : State} {H : Heap} (h : Wst E U H) : Wsr E U H := h.2.2.2.2.2.2.2
theorem g_ldcS {i : Nat} (hd : decode k.2.1 pc = .ok (.ldc (jsX i), 2)) (hk : k.1.cls = RX3) (hi : i < 7) (h : G E R k Z ca sl (pc + 2) lv (vS (10 + i) :: st) M) : G E R k Z ca sl pc lv st M :=
  fun p l e s m args below meth c H locs ls C hw hy hS hl => va_ldcS C.1 C.2.1 (own := RX3) (by rw [← hk]; exact C.2.2.2.2.2.1) (hw.sr.2.1 i hi) hd (h p l e s m args below meth c H locs ls C hw hy hS hl)
theorem g_astoreS_n_g {f : Fin 4} {i : Nat} {x : Nat} (hd : decode k.2.1 pc = .ok (.astore_n f, 1)) (hi0 : (f : Nat) = i) (hi : i < lv.length) (hn : ∀ j, j + 1 = i → nl (lg lv j) = true) (h : G E R k Z ca sl (pc + 1) (lst lv i (some (vS x))) st M) : G E R k Z ca sl pc lv (vS x :: st) M :=
  fun p l e s m args below meth c H locs ls C hw hy hS hl => lv_astore_n C.1 C.2.1 hd hi0 hl.2 (by rw [← hl.1]; exact hi) rfl (fun ls' hl' => h p l e s m args below meth c H locs ls' C hw hy hS (hl.st1 hi hn hl'))
theorem g_astoreS_2 {a0 a1 b : Option AV} {r : List (Option AV)} {x : Nat} (hd : decode k.2.1 pc = .ok (.astore_n 2, 1)) (hn : nl a1 = true) (h : G E R k Z ca sl (pc + 1) (a0 :: a1 :: some (vS x) :: r) st M) : G E R k Z ca sl pc (a0 :: a1 :: b :: r) (vS x :: st) M :=
  g_astoreS_n_g (i := 2) hd rfl (by simp) (fun j e => by cases e; exact hn) h
theorem g_invVS {kk : MK} {n n' idx t : Nat} (as : List AV) (hd : decode k.2.1 pc = .ok (.invokevirtual idx, 3)) (mf : MV kk n) (hl0 : Cond.methodLink k.1.cls idx kk.1 ∈ TB) (ht : t < 7) (hq : kk.1.cls = "java/lang/String") (hlen : as.length = n)
    (hR : n' + 1 ≤ R.frames ∧ 8 + (kk.2.2.1 + 11) + 44 * n' ≤ R.locals) (hf : ca ≤ R.cells ∧ sl ≤ R.slots) (hW : (st.map vcat).sum ≤ 8)
    (hM : Mth E n' 0 0 kk (vS (10 + t) :: as) M (fun r M' => G E R k Z ca sl (pc + 3) lv (psh r st) M')) : G E R k Z ca sl pc lv (as.reverse ++ vS (10 + t) :: st) M := by
  intro p l e s m args below meth c0 H locs ls C hw hy hS hl
  have hts := C.2.2.2.2.2.2.1
  obtain ⟨⟨mf1, mf2, mf3, mf4⟩, mi, msl⟩ := mf
  obtain ⟨cell, q1, q2, q3, -⟩ := (hw.sr.1 t ht).1.kept hS.2.1
  have hB : CallB R s args k.1.cls idx kk.1 kk.2.1 kk.2.2.1 kk.2.2.2 (ws_ kk) (rm n' 0 0) 0 0 n := callB_of n hts (ws_good ⟨mf1, mf2, mf3, mf4⟩) rfl rfl rfl (hts _ mf2) (hts _ hl0) mf4 hR
  exact g_back (va_runV (C := kk.1.cls) (As := as.map (cv E)) (b := eR E (10 + t)) (rest := st.map (cv E)) (nL := k.2.2.1) (g := F0 m pc ls ((as.reverse ++ vS (10 + t) :: st).map (cv E))) ⟨C.1, C.2.1, C.2.2.1, C.2.2.2.2.2.1, hts⟩ (hM l) ⟨hB, hts _ mi, hts _ msl⟩ ⟨blind, ⟨cell, q1, q2, by rw [hq]; exact q3⟩, fun U hU hWU => ⟨rfl, pre_at hw hy hS hU hWU⟩⟩ rfl (by simpa using hlen) (hl.2.1) (by simp [cv]) (cat_sum hW) hd hf) C hw hS hl
theorem g_getfV {idx t : Nat} (hd : decode k.2.1 pc = .ok (.getfield idx, 3)) (ht : t < 7) (hl0 : Cond.fieldLink k.1.cls idx "java/lang/String" "value" "[B" ∈ TB) (h : G E R k Z ca sl (pc + 3) lv (vS (20 + t) :: st) M) : G E R k Z ca sl pc lv (vS (10 + t) :: st) M :=
  fun p l e s m args below meth c H locs ls C hw hy hS hl => vk_getf C.1 C.2.1 (hw.sr.1 t ht).2.2.1 hS C.2.2.2.2.2.1 (C.2.2.2.2.2.2.1 _ hl0) (fun _ q => q) hd (h p l e s m args below meth c H locs ls C hw hy hS hl)
theorem g_getfC {idx t : Nat} (hd : decode k.2.1 pc = .ok (.getfield idx, 3)) (ht : t < 7) (hl0 : Cond.fieldLink k.1.cls idx "java/lang/String" "coder" "B" ∈ TB) (h : G E R k Z ca sl (pc + 3) lv (vI 0 :: st) M) : G E R k Z ca sl pc lv (vS (10 + t) :: st) M :=
  fun p l e s m args below meth c H locs ls C hw hy hS hl => vk_getf C.1 C.2.1 (hw.sr.1 t ht).2.1 hS C.2.2.2.2.2.1 (C.2.2.2.2.2.2.1 _ hl0) (fun _ q => q) hd (h p l e s m args below meth c H locs ls C hw hy hS hl)
theorem g_getsC {idx : Nat} (hd : decode k.2.1 pc = .ok (.getstatic idx, 3)) (hl0 : Cond.fieldLink k.1.cls idx "java/lang/String" "COMPACT_STRINGS" "Z" ∈ TB) (h : G E R k Z ca sl (pc + 3) lv (vI 1 :: st) M) : G E R k Z ca sl pc lv st M :=
  fun p l e s m args below meth c H locs ls C hw hy hS hl => va_gets C.1 C.2.1 hw.sr.2.2.1 hS C.2.2.2.2.2.1 (C.2.2.2.2.2.2.1 _ hl0) (fun _ q => q) hd (h p l e s m args below meth c H locs ls C hw hy hS hl)
theorem g_getsF {idx : Nat} (hd : decode k.2.1 pc = .ok (.getstatic idx, 3)) (hl0 : Cond.fieldLink k.1.cls idx "jdk/internal/util/Preconditions" "SIOOBE_FORMATTER" "Ljava/util/function/BiFunction;" ∈ TB) (h : G E R k Z ca sl (pc + 3) lv (vS 30 :: st) M) (h2 : G E R k Z ca sl (pc + 3) lv (vN :: st) M) : G E R k Z ca sl pc lv st M := by
  intro p l e s m args below meth c H locs ls C hw hy hS hl
  have hz := hw.sr.2.2.2
  by_cases q : eR E 31 = 0
  · rw [show vF E = .ref (eR E 30) from if_pos q] at hz
    exact va_gets C.1 C.2.1 hz hS C.2.2.2.2.2.1 (C.2.2.2.2.2.2.1 _ hl0) (fun _ q => q) hd (h p l e s m args below meth c H locs ls C hw hy hS hl)
  · rw [show vF E = .null from if_neg q] at hz
    exact va_gets C.1 C.2.1 hz hS C.2.2.2.2.2.1 (C.2.2.2.2.2.2.1 _ hl0) (fun _ q => q) hd (h2 p l e s m args below meth c H locs ls C hw hy hS hl)
theorem js_len : ∀ t, t < 7 → (jsB t).length < 2 ^ 31 := by decide +kernel
theorem g_baldS {t j : Nat} {i : Int32} (hd : decode k.2.1 pc = .ok (.baload, 1)) (ht : t < 7) (hi : i = nI j) (hj : j < (jsB t).length) (h : G E R k Z ca sl (pc + 1) lv (vI ((jsB t).getD j 0) :: st) M) : G E R k Z ca sl pc lv (vI i :: vS (20 + t) :: st) M := by
  intro p l e s m args below meth c H locs ls C hw hy hS hl
  obtain ⟨h1, h2⟩ := ix_in hi hj (js_len t ht)
  exact va_tb C.1 C.2.1 (hw.sr.1 t ht).2.2.2 hS h1 (v := .int ((jsB t).getD j 0)) (by rw [h2]) hd (h p l e s m args below meth c H locs ls C hw hy hS hl)
theorem g_alenB {t : Nat} (hd : decode k.2.1 pc = .ok (.arraylength, 1)) (ht : t < 7) (h : G E R k Z ca sl (pc + 1) lv (vI (nI (jsB t).length) :: st) M) : G E R k Z ca sl pc lv (vS (20 + t) :: st) M := by
  intro p l e s m args below meth c H locs ls C hw hy hS hl
  obtain ⟨cell, z1, z2, z3, z4, z5, z6, z7⟩ := (hw.sr.1 t ht).2.2.2
  exact W.alen C.1 C.2.1 (by rw [hS.2.1 _ (Array.getElem?_eq_some_iff.mp z1).1 z7]; exact z1) z2 z5 rfl rfl hd (h p l e s m args below meth c H locs ls C hw hy hS hl)
theorem g_i2c {x : Int32} (hd : decode k.2.1 pc = .ok (.i2c, 1)) (h : G E R k Z ca sl (pc + 1) lv (vI (x.toUInt32 % 65536).toInt32 :: st) M) : G E R k Z ca sl pc lv (vI x :: st) M :=
  fun p l e s m args below meth c H locs ls C hw hy hS hl => lv_i2c C.1 C.2.1 hd rfl (h p l e s m args below meth c H locs ls C hw hy hS hl)
variable {Q : QT}
theorem g_nret {x : Int32} {ty : FieldType} (hd : decode k.2.1 pc = .ok (.ireturn, 1)) (hr : k.2.2.2 = some ty) (hx : narrow ty (.int x) = .int x) (h : Q (some (vI x)) M) : G E R k (ZQ E Q ca sl) ca sl pc lv [vI x] M :=
  fun p l e s m args below meth c H locs ls C hw hy hS hl => W.zret (v := x) C.1 C.2.1 (C.2.2.2.1.trans hr) hx (fun t ht hW => qc_ret (r := some (vI x)) h hy hS ht) hS.2.2 hd C.2.2.2.2.1
end SR
theorem js_ch : ∀ t, t < 7 → ∀ j, j < (jsB t).length → (jsB t).getD j 0 &&& 255 = (jsB t).getD j 0 := by decide +kernel
theorem js_nar {t j : Nat} (ht : t < 7) (hj : j < (jsB t).length) : narrow .char (.int ((jsB t).getD j 0)) = .int ((jsB t).getD j 0) := by
  have h := sc_nar ((jsB t).getD j 0)
  rw [js_ch t ht j hj] at h
  exact h
section SM
variable {E : Ev} {M : Mem} {Q : QT} {t j n : Nat}
theorem wp_J0_isLatin1 (ht : t < 7) (h : Q (some (vI 1)) M) : Mth E 0 0 0 kJ0_isLatin1_aae02 [vS (10 + t)] M Q := by
  refine mth_of (by decide +kernel) [some (vS (10 + t))] (Nat.le_of_ble_eq_true rfl) rfl ?_
  refine g_getsC dJ0_isLatin1_aae02_0 fJ0_38 ?_
  refine g_if_eq (tgt := 17) dJ0_isLatin1_aae02_3 (by decide) (fun q => absurd q (by decide)) (fun _ => ?_)
  refine g_aloadS_n dJ0_isLatin1_aae02_6 rfl rfl ?_
  refine g_getfC dJ0_isLatin1_aae02_7 ht fJ0_15 ?_
  refine g_if_ne (tgt := 17) dJ0_isLatin1_aae02_10 (by decide) (fun q => absurd rfl q) (fun _ => ?_)
  refine g_iconst dJ0_isLatin1_aae02_13 (v := 1) (by decide) ?_
  refine g_goto (tgt := 18) dJ0_isLatin1_aae02_14 (by decide) ?_
  exact g_zret dJ0_isLatin1_aae02_18 rfl (Or.inr rfl) h
theorem wp_J0_coder (ht : t < 7) (h : Q (some (vI 0)) M) : Mth E 0 0 0 kJ0_coder_7d493 [vS (10 + t)] M Q := by
  refine mth_of (by decide +kernel) [some (vS (10 + t))] (Nat.le_of_ble_eq_true rfl) rfl ?_
  refine g_getsC dJ0_coder_7d493_0 fJ0_38 ?_
  refine g_if_eq (tgt := 13) dJ0_coder_7d493_3 (by decide) (fun q => absurd q (by decide)) (fun _ => ?_)
  refine g_aloadS_n dJ0_coder_7d493_6 rfl rfl ?_
  refine g_getfC dJ0_coder_7d493_7 ht fJ0_15 ?_
  refine g_goto (tgt := 14) dJ0_coder_7d493_10 (by decide) ?_
  exact g_nret dJ0_coder_7d493_14 rfl (by decide) h
theorem wp_J0_length (ht : t < 7) (h : Q (some (vI (nI (jsB t).length))) M) : Mth E 1 0 0 kJ0_length_8abf5 [vS (10 + t)] M Q := by
  refine mth_of (by decide +kernel) [some (vS (10 + t))] (Nat.le_of_ble_eq_true rfl) rfl ?_
  refine g_aloadS_n dJ0_length_8abf5_0 rfl rfl ?_
  refine g_getfV dJ0_length_8abf5_1 ht fJ0_9 ?_
  refine g_alenB dJ0_length_8abf5_4 ht ?_
  refine g_aloadS_n dJ0_length_8abf5_5 rfl rfl ?_
  refine g_invVS (n' := 0) [] dJ0_length_8abf5_6 mJ0_coder_7d493 lJ0_335 ht rfl rfl ⟨Nat.le_of_ble_eq_true rfl, Nat.le_of_ble_eq_true rfl⟩ ⟨Nat.zero_le _, Nat.zero_le _⟩ (Nat.le_of_ble_eq_true rfl) ?_
  refine wp_J0_coder ht ?_
  refine g_ishr dJ0_length_8abf5_9 ?_
  refine g_iret dJ0_length_8abf5_10 rfl ?_
  have e := sc_shr0 (js_len t ht)
  exact qI h (by exact e)
theorem wp_J3_checkIndex (hj : j < n) (hn : n < 2 ^ 31) (h : Q (some (vI (nI j))) M) : Mth E 0 0 0 kJ3_checkIndex_8e157 [vI (nI j), vI (nI n), vS 30] M Q := by
  refine mth_of (by decide +kernel) [some (vI (nI j)), some (vI (nI n)), some (vS 30)] (Nat.le_of_ble_eq_true rfl) rfl ?_
  refine g_iload_n dJ3_checkIndex_8e157_0 rfl rfl ?_
  refine g_if_lt (tgt := 9) dJ3_checkIndex_8e157_1 (by decide) (fun q => absurd q (nI_pos (by omega))) (fun _ => ?_)
  refine g_iload_n dJ3_checkIndex_8e157_4 rfl rfl ?_
  refine g_iload_n dJ3_checkIndex_8e157_5 rfl rfl ?_
  refine g_icmp_lt (tgt := 16) dJ3_checkIndex_8e157_6 (by decide) (fun _ => ?_) (fun q => absurd (nI_lt hj hn) q)
  refine g_iload_n dJ3_checkIndex_8e157_16 rfl rfl ?_
  exact g_iret dJ3_checkIndex_8e157_17 rfl h
theorem wp_J3_checkIndexN (hj : j < n) (hn : n < 2 ^ 31) (h : Q (some (vI (nI j))) M) : Mth E 0 0 0 kJ3_checkIndex_8e157 [vI (nI j), vI (nI n), vN] M Q := by
  refine mth_of (by decide +kernel) [some (vI (nI j)), some (vI (nI n)), some (vN)] (Nat.le_of_ble_eq_true rfl) rfl ?_
  refine g_iload_n dJ3_checkIndex_8e157_0 rfl rfl ?_
  refine g_if_lt (tgt := 9) dJ3_checkIndex_8e157_1 (by decide) (fun q => absurd q (nI_pos (by omega))) (fun _ => ?_)
  refine g_iload_n dJ3_checkIndex_8e157_4 rfl rfl ?_
  refine g_iload_n dJ3_checkIndex_8e157_5 rfl rfl ?_
  refine g_icmp_lt (tgt := 16) dJ3_checkIndex_8e157_6 (by decide) (fun _ => ?_) (fun q => absurd (nI_lt hj hn) q)
  refine g_iload_n dJ3_checkIndex_8e157_16 rfl rfl ?_
  exact g_iret dJ3_checkIndex_8e157_17 rfl h
theorem wp_J0_checkIndex (hj : j < n) (hn : n < 2 ^ 31) (h : Q none M) : Mth E 1 0 0 kJ0_checkIndex_df160 [vI (nI j), vI (nI n)] M Q := by
  refine mth_of (by decide +kernel) [some (vI (nI j)), some (vI (nI n))] (Nat.le_of_ble_eq_true rfl) rfl ?_
  refine g_iload_n dJ0_checkIndex_df160_0 rfl rfl ?_
  refine g_iload_n dJ0_checkIndex_df160_1 rfl rfl ?_
  refine g_getsF dJ0_checkIndex_df160_2 fJ0_1053 ?_ ?_
  · refine g_invS (n' := 0) (mc := 0) (ms := 0) [vI (nI j), vI (nI n), vS 30] dJ0_checkIndex_df160_5 mJ3_checkIndex_8e157 lJ0_1059 rfl ⟨Nat.le_of_ble_eq_true rfl, Nat.le_of_ble_eq_true rfl⟩ ⟨Nat.zero_le _, Nat.zero_le _⟩ (Nat.le_of_ble_eq_true rfl) ?_
    refine wp_J3_checkIndex hj hn ?_
    refine g_pop dJ0_checkIndex_df160_8 rfl ?_
    exact g_vret dJ0_checkIndex_df160_9 rfl h
  · refine g_invS (n' := 0) (mc := 0) (ms := 0) [vI (nI j), vI (nI n), vN] dJ0_checkIndex_df160_5 mJ3_checkIndex_8e157 lJ0_1059 rfl ⟨Nat.le_of_ble_eq_true rfl, Nat.le_of_ble_eq_true rfl⟩ ⟨Nat.zero_le _, Nat.zero_le _⟩ (Nat.le_of_ble_eq_true rfl) ?_
    refine wp_J3_checkIndexN hj hn ?_
    refine g_pop dJ0_checkIndex_df160_8 rfl ?_
    exact g_vret dJ0_checkIndex_df160_9 rfl h
theorem wp_J1_charAt (ht : t < 7) (hj : j < (jsB t).length) (h : Q (some (vI ((jsB t).getD j 0))) M) : Mth E 2 0 0 kJ1_charAt_3b067 [vS (20 + t), vI (nI j)] M Q := by
  refine mth_of (by decide +kernel) [some (vS (20 + t)), some (vI (nI j))] (Nat.le_of_ble_eq_true rfl) rfl ?_
  refine g_iload_n dJ1_charAt_3b067_0 rfl rfl ?_
  refine g_aloadS_n dJ1_charAt_3b067_1 rfl rfl ?_
  refine g_alenB dJ1_charAt_3b067_2 ht ?_
  refine g_invS (n' := 1) (mc := 0) (ms := 0) [vI (nI j), vI (nI (jsB t).length)] dJ1_charAt_3b067_3 mJ0_checkIndex_df160 lJ1_9 rfl ⟨Nat.le_of_ble_eq_true rfl, Nat.le_of_ble_eq_true rfl⟩ ⟨Nat.zero_le _, Nat.zero_le _⟩ (Nat.le_of_ble_eq_true rfl) ?_
  refine wp_J0_checkIndex hj (js_len t ht) ?_
  refine g_aloadS_n dJ1_charAt_3b067_6 rfl rfl ?_
  refine g_iload_n dJ1_charAt_3b067_7 rfl rfl ?_
  refine g_baldS dJ1_charAt_3b067_8 ht rfl hj ?_
  refine g_sipush dJ1_charAt_3b067_9 (v := 255) (by decide) ?_
  refine g_iand dJ1_charAt_3b067_12 ?_
  refine g_i2c dJ1_charAt_3b067_13 ?_
  refine g_top (fun z ez => ?_)
  rw [sc_c2, js_ch t ht j hj] at ez
  subst ez
  exact g_nret dJ1_charAt_3b067_14 rfl (js_nar ht hj) h
theorem wp_J0_charAt (ht : t < 7) (hj : j < (jsB t).length) (h : Q (some (vI ((jsB t).getD j 0))) M) : Mth E 3 0 0 kJ0_charAt_5068e [vS (10 + t), vI (nI j)] M Q := by
  refine mth_of (by decide +kernel) [some (vS (10 + t)), some (vI (nI j))] (Nat.le_of_ble_eq_true rfl) rfl ?_
  refine g_aloadS_n dJ0_charAt_5068e_0 rfl rfl ?_
  refine g_invVS (n' := 0) [] dJ0_charAt_5068e_1 mJ0_isLatin1_aae02 lJ0_492 ht rfl rfl ⟨Nat.le_of_ble_eq_true rfl, Nat.le_of_ble_eq_true rfl⟩ ⟨Nat.zero_le _, Nat.zero_le _⟩ (Nat.le_of_ble_eq_true rfl) ?_
  refine wp_J0_isLatin1 ht ?_
  refine g_if_eq (tgt := 16) dJ0_charAt_5068e_4 (by decide) (fun q => absurd q (by decide)) (fun _ => ?_)
  refine g_aloadS_n dJ0_charAt_5068e_7 rfl rfl ?_
  refine g_getfV dJ0_charAt_5068e_8 ht fJ0_9 ?_
  refine g_iload_n dJ0_charAt_5068e_11 rfl rfl ?_
  refine g_invS (n' := 2) (mc := 0) (ms := 0) [vS (20 + t), vI (nI j)] dJ0_charAt_5068e_12 mJ1_charAt_3b067 lJ0_495 rfl ⟨Nat.le_of_ble_eq_true rfl, Nat.le_of_ble_eq_true rfl⟩ ⟨Nat.zero_le _, Nat.zero_le _⟩ (Nat.le_of_ble_eq_true rfl) ?_
  refine wp_J1_charAt ht hj ?_
  exact g_nret dJ0_charAt_5068e_15 rfl (js_nar ht hj) h
section SN
variable {R : Room} {k : MK} {Z : ZT} {ca sl pc : Nat} {lv : List (Option AV)} {st : List AV}
theorem n_len {idx : Nat} (hd : decode k.2.1 pc = .ok (.invokevirtual idx, 3)) (hl0 : Cond.methodLink k.1.cls idx yJ0_length_8abf5 ∈ TB) (ht : t < 7) (hR : 2 ≤ R.frames ∧ 64 ≤ R.locals) (hf : ca ≤ R.cells ∧ sl ≤ R.slots) (hC : (st.map vcat).sum ≤ 8) (h : G E R k Z ca sl (pc + 3) lv (vI (nI (jsB t).length) :: st) M) : G E R k Z ca sl pc lv (vS (10 + t) :: st) M :=
  g_invVS (n' := 1) [] hd mJ0_length_8abf5 hl0 ht rfl rfl ⟨hR.1, hR.2⟩ hf hC (wp_J0_length ht h)
theorem n_charAt {idx : Nat} (hd : decode k.2.1 pc = .ok (.invokevirtual idx, 3)) (hl0 : Cond.methodLink k.1.cls idx yJ0_charAt_5068e ∈ TB) (ht : t < 7) {i : Int32} (hi : i = nI j) (hj : j < (jsB t).length) (hR : 4 ≤ R.frames ∧ 153 ≤ R.locals) (hf : ca ≤ R.cells ∧ sl ≤ R.slots) (hC : (st.map vcat).sum ≤ 8) (h : G E R k Z ca sl (pc + 3) lv (vI ((jsB t).getD j 0) :: st) M) : G E R k Z ca sl pc lv (vI i :: vS (10 + t) :: st) M := by
  subst hi
  exact g_invVS (n' := 3) [vI (nI j)] hd mJ0_charAt_5068e hl0 ht rfl rfl ⟨hR.1, hR.2⟩ hf hC (wp_J0_charAt ht hj h)
end SN
end SM
