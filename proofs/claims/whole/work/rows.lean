section
-- ===== PART A: goes FIRST, ahead of the names: the tables' words, and 'selects' of the private methods out of them =====
/-- a private method of a class that the tables say can be made, by its rows of tables_1 -/
def lw_okq (q : MethodName × Nat) : Prop := (q.1.cls ≠ "java/lang/invoke/MethodHandle" ∧ q.1.cls ≠ "java/lang/invoke/VarHandle") ∧ Cond.instantiable q.1.cls q.2 ∈ tables_1 ∧ Cond.privateMethod q.1 ∈ tables_1 ∧ Cond.instanceMethod q.1 ∈ tables_1
theorem lw_p0 : lw_okq (⟨"ThirdEvening", "isShelf", "(I)Z"⟩, 11) := ⟨⟨by decide +kernel, by decide +kernel⟩, List.mem_of_getElem? (i := 18) (by decide +kernel), List.mem_of_getElem? (i := 258) (by decide +kernel), List.mem_of_getElem? (i := 259) (by decide +kernel)⟩
theorem lw_p1 : lw_okq (⟨"ThirdEvening", "refuse", "(I)I"⟩, 11) := ⟨⟨by decide +kernel, by decide +kernel⟩, List.mem_of_getElem? (i := 18) (by decide +kernel), List.mem_of_getElem? (i := 262) (by decide +kernel), List.mem_of_getElem? (i := 263) (by decide +kernel)⟩
theorem lw_p2 : lw_okq (⟨"ThirdEvening", "shelfAt", "(I)LThirdEvening$Shelf;"⟩, 11) := ⟨⟨by decide +kernel, by decide +kernel⟩, List.mem_of_getElem? (i := 18) (by decide +kernel), List.mem_of_getElem? (i := 266) (by decide +kernel), List.mem_of_getElem? (i := 267) (by decide +kernel)⟩
theorem lw_p3 : lw_okq (⟨"ThirdEvening", "whyNoRow", "(I)I"⟩, 11) := ⟨⟨by decide +kernel, by decide +kernel⟩, List.mem_of_getElem? (i := 18) (by decide +kernel), List.mem_of_getElem? (i := 281) (by decide +kernel), List.mem_of_getElem? (i := 282) (by decide +kernel)⟩
theorem lw_p4 : lw_okq (⟨"ThirdEvening$Reader", "readItem", "()Z"⟩, 6) := ⟨⟨by decide +kernel, by decide +kernel⟩, List.mem_of_getElem? (i := 167) (by decide +kernel), List.mem_of_getElem? (i := 435) (by decide +kernel), List.mem_of_getElem? (i := 436) (by decide +kernel)⟩
theorem lw_p5 : lw_okq (⟨"ThirdEvening$Reader", "readWord", "()I"⟩, 6) := ⟨⟨by decide +kernel, by decide +kernel⟩, List.mem_of_getElem? (i := 167) (by decide +kernel), List.mem_of_getElem? (i := 439) (by decide +kernel), List.mem_of_getElem? (i := 440) (by decide +kernel)⟩
theorem lw_p6 : lw_okq (⟨"ThirdEvening$Reader", "letter", "()I"⟩, 6) := ⟨⟨by decide +kernel, by decide +kernel⟩, List.mem_of_getElem? (i := 167) (by decide +kernel), List.mem_of_getElem? (i := 443) (by decide +kernel), List.mem_of_getElem? (i := 444) (by decide +kernel)⟩
theorem lw_p7 : lw_okq (⟨"ThirdEvening$Reader", "fail", "(I)Z"⟩, 6) := ⟨⟨by decide +kernel, by decide +kernel⟩, List.mem_of_getElem? (i := 167) (by decide +kernel), List.mem_of_getElem? (i := 497) (by decide +kernel), List.mem_of_getElem? (i := 498) (by decide +kernel)⟩
theorem lw_p8 : lw_okq (⟨"ThirdEvening$Reader", "readSign", "(I)Z"⟩, 6) := ⟨⟨by decide +kernel, by decide +kernel⟩, List.mem_of_getElem? (i := 167) (by decide +kernel), List.mem_of_getElem? (i := 509) (by decide +kernel), List.mem_of_getElem? (i := 510) (by decide +kernel)⟩
theorem lw_p9 : lw_okq (⟨"ThirdEvening$Reader", "readPerson", "()Z"⟩, 6) := ⟨⟨by decide +kernel, by decide +kernel⟩, List.mem_of_getElem? (i := 167) (by decide +kernel), List.mem_of_getElem? (i := 514) (by decide +kernel), List.mem_of_getElem? (i := 515) (by decide +kernel)⟩
theorem lw_p10 : lw_okq (⟨"ThirdEvening$Reader", "readNumber", "(II)I"⟩, 6) := ⟨⟨by decide +kernel, by decide +kernel⟩, List.mem_of_getElem? (i := 167) (by decide +kernel), List.mem_of_getElem? (i := 519) (by decide +kernel), List.mem_of_getElem? (i := 520) (by decide +kernel)⟩
theorem lw_p11 : lw_okq (⟨"ThirdEvening$Reader", "isDigit", "()Z"⟩, 6) := ⟨⟨by decide +kernel, by decide +kernel⟩, List.mem_of_getElem? (i := 167) (by decide +kernel), List.mem_of_getElem? (i := 523) (by decide +kernel), List.mem_of_getElem? (i := 524) (by decide +kernel)⟩
theorem lw_p12 : lw_okq (⟨"ThirdEvening$Reader", "readDigit", "()I"⟩, 6) := ⟨⟨by decide +kernel, by decide +kernel⟩, List.mem_of_getElem? (i := 167) (by decide +kernel), List.mem_of_getElem? (i := 527) (by decide +kernel), List.mem_of_getElem? (i := 528) (by decide +kernel)⟩
theorem lw_p13 : lw_okq (⟨"ThirdEvening$Reader", "readFriend", "()Z"⟩, 6) := ⟨⟨by decide +kernel, by decide +kernel⟩, List.mem_of_getElem? (i := 167) (by decide +kernel), List.mem_of_getElem? (i := 532) (by decide +kernel), List.mem_of_getElem? (i := 533) (by decide +kernel)⟩
theorem lw_p14 : lw_okq (⟨"ThirdEvening$Reader", "readGone", "()Z"⟩, 6) := ⟨⟨by decide +kernel, by decide +kernel⟩, List.mem_of_getElem? (i := 167) (by decide +kernel), List.mem_of_getElem? (i := 537) (by decide +kernel), List.mem_of_getElem? (i := 538) (by decide +kernel)⟩
theorem lw_p15 : lw_okq (⟨"ThirdEvening$Reader", "readSetting", "(I)Z"⟩, 6) := ⟨⟨by decide +kernel, by decide +kernel⟩, List.mem_of_getElem? (i := 167) (by decide +kernel), List.mem_of_getElem? (i := 541) (by decide +kernel), List.mem_of_getElem? (i := 542) (by decide +kernel)⟩
def lw_privs_1 : List (MethodName × Nat) := [(⟨"ThirdEvening", "isShelf", "(I)Z"⟩, 11), (⟨"ThirdEvening", "refuse", "(I)I"⟩, 11), (⟨"ThirdEvening", "shelfAt", "(I)LThirdEvening$Shelf;"⟩, 11), (⟨"ThirdEvening", "whyNoRow", "(I)I"⟩, 11), (⟨"ThirdEvening$Reader", "readItem", "()Z"⟩, 6), (⟨"ThirdEvening$Reader", "readWord", "()I"⟩, 6), (⟨"ThirdEvening$Reader", "letter", "()I"⟩, 6), (⟨"ThirdEvening$Reader", "fail", "(I)Z"⟩, 6), (⟨"ThirdEvening$Reader", "readSign", "(I)Z"⟩, 6), (⟨"ThirdEvening$Reader", "readPerson", "()Z"⟩, 6), (⟨"ThirdEvening$Reader", "readNumber", "(II)I"⟩, 6), (⟨"ThirdEvening$Reader", "isDigit", "()Z"⟩, 6), (⟨"ThirdEvening$Reader", "readDigit", "()I"⟩, 6), (⟨"ThirdEvening$Reader", "readFriend", "()Z"⟩, 6), (⟨"ThirdEvening$Reader", "readGone", "()Z"⟩, 6), (⟨"ThirdEvening$Reader", "readSetting", "(I)Z"⟩, 6)]
theorem lw_r1 : ∀ q ∈ lw_privs_1, lw_okq q := List.forall_mem_cons.mpr ⟨lw_p0, List.forall_mem_cons.mpr ⟨lw_p1, List.forall_mem_cons.mpr ⟨lw_p2, List.forall_mem_cons.mpr ⟨lw_p3, List.forall_mem_cons.mpr ⟨lw_p4, List.forall_mem_cons.mpr ⟨lw_p5, List.forall_mem_cons.mpr ⟨lw_p6, List.forall_mem_cons.mpr ⟨lw_p7, List.forall_mem_cons.mpr ⟨lw_p8, List.forall_mem_cons.mpr ⟨lw_p9, List.forall_mem_cons.mpr ⟨lw_p10, List.forall_mem_cons.mpr ⟨lw_p11, List.forall_mem_cons.mpr ⟨lw_p12, List.forall_mem_cons.mpr ⟨lw_p13, List.forall_mem_cons.mpr ⟨lw_p14, List.forall_mem_cons.mpr ⟨lw_p15, fun _ h => absurd h List.not_mem_nil⟩⟩⟩⟩⟩⟩⟩⟩⟩⟩⟩⟩⟩⟩⟩⟩
theorem lw_p16 : lw_okq (⟨"ThirdEvening$Person", "isMatchDay", "(I)Z"⟩, 10) := ⟨⟨by decide +kernel, by decide +kernel⟩, List.mem_of_getElem? (i := 33) (by decide +kernel), List.mem_of_getElem? (i := 572) (by decide +kernel), List.mem_of_getElem? (i := 573) (by decide +kernel)⟩
theorem lw_p17 : lw_okq (⟨"ThirdEvening$School", "stillComing", "(I)I"⟩, 9) := ⟨⟨by decide +kernel, by decide +kernel⟩, List.mem_of_getElem? (i := 26) (by decide +kernel), List.mem_of_getElem? (i := 592) (by decide +kernel), List.mem_of_getElem? (i := 593) (by decide +kernel)⟩
theorem lw_p18 : lw_okq (⟨"ThirdEvening$School", "comesWith", "(LThirdEvening$Person;I)Z"⟩, 9) := ⟨⟨by decide +kernel, by decide +kernel⟩, List.mem_of_getElem? (i := 26) (by decide +kernel), List.mem_of_getElem? (i := 596) (by decide +kernel), List.mem_of_getElem? (i := 597) (by decide +kernel)⟩
theorem lw_p19 : lw_okq (⟨"ThirdEvening", "heldBy", "(I)I"⟩, 11) := ⟨⟨by decide +kernel, by decide +kernel⟩, List.mem_of_getElem? (i := 18) (by decide +kernel), List.mem_of_getElem? (i := 695) (by decide +kernel), List.mem_of_getElem? (i := 696) (by decide +kernel)⟩
theorem lw_p20 : lw_okq (⟨"ThirdEvening", "whyNoRegister", "(II)I"⟩, 11) := ⟨⟨by decide +kernel, by decide +kernel⟩, List.mem_of_getElem? (i := 18) (by decide +kernel), List.mem_of_getElem? (i := 707) (by decide +kernel), List.mem_of_getElem? (i := 708) (by decide +kernel)⟩
theorem lw_p21 : lw_okq (⟨"ThirdEvening$Moves", "call", "(IIII)I"⟩, 5) := ⟨⟨by decide +kernel, by decide +kernel⟩, List.mem_of_getElem? (i := 197) (by decide +kernel), List.mem_of_getElem? (i := 752) (by decide +kernel), List.mem_of_getElem? (i := 753) (by decide +kernel)⟩
theorem lw_p22 : lw_okq (⟨"ThirdEvening$Moves", "note", "(I)V"⟩, 5) := ⟨⟨by decide +kernel, by decide +kernel⟩, List.mem_of_getElem? (i := 197) (by decide +kernel), List.mem_of_getElem? (i := 763) (by decide +kernel), List.mem_of_getElem? (i := 764) (by decide +kernel)⟩
theorem lw_p23 : lw_okq (⟨"ThirdEvening$Moves", "perform", "(III)I"⟩, 5) := ⟨⟨by decide +kernel, by decide +kernel⟩, List.mem_of_getElem? (i := 197) (by decide +kernel), List.mem_of_getElem? (i := 767) (by decide +kernel), List.mem_of_getElem? (i := 768) (by decide +kernel)⟩
theorem lw_p24 : lw_okq (⟨"ThirdEveningModel", "isShelf", "(I)Z"⟩, 50) := ⟨⟨by decide +kernel, by decide +kernel⟩, List.mem_of_getElem? (i := 795) (by decide +kernel), List.mem_of_getElem? (i := 956) (by decide +kernel), List.mem_of_getElem? (i := 957) (by decide +kernel)⟩
theorem lw_p25 : lw_okq (⟨"ThirdEveningModel", "no", "(I)I"⟩, 50) := ⟨⟨by decide +kernel, by decide +kernel⟩, List.mem_of_getElem? (i := 795) (by decide +kernel), List.mem_of_getElem? (i := 960) (by decide +kernel), List.mem_of_getElem? (i := 961) (by decide +kernel)⟩
theorem lw_p26 : lw_okq (⟨"ThirdEveningModel", "isOne", "(I)Z"⟩, 50) := ⟨⟨by decide +kernel, by decide +kernel⟩, List.mem_of_getElem? (i := 795) (by decide +kernel), List.mem_of_getElem? (i := 980) (by decide +kernel), List.mem_of_getElem? (i := 981) (by decide +kernel)⟩
theorem lw_p27 : lw_okq (⟨"ThirdEveningModel", "isUnder", "(II)Z"⟩, 50) := ⟨⟨by decide +kernel, by decide +kernel⟩, List.mem_of_getElem? (i := 795) (by decide +kernel), List.mem_of_getElem? (i := 992) (by decide +kernel), List.mem_of_getElem? (i := 993) (by decide +kernel)⟩
theorem lw_p28 : lw_okq (⟨"ThirdEveningModel", "isFrom", "(III)Z"⟩, 50) := ⟨⟨by decide +kernel, by decide +kernel⟩, List.mem_of_getElem? (i := 795) (by decide +kernel), List.mem_of_getElem? (i := 1000) (by decide +kernel), List.mem_of_getElem? (i := 1001) (by decide +kernel)⟩
theorem lw_p29 : lw_okq (⟨"ThirdEveningModel", "adds", "(IIII)I"⟩, 50) := ⟨⟨by decide +kernel, by decide +kernel⟩, List.mem_of_getElem? (i := 795) (by decide +kernel), List.mem_of_getElem? (i := 1004) (by decide +kernel), List.mem_of_getElem? (i := 1005) (by decide +kernel)⟩
theorem lw_p30 : lw_okq (⟨"ThirdEveningModel", "noTen", "(I)I"⟩, 50) := ⟨⟨by decide +kernel, by decide +kernel⟩, List.mem_of_getElem? (i := 795) (by decide +kernel), List.mem_of_getElem? (i := 1012) (by decide +kernel), List.mem_of_getElem? (i := 1013) (by decide +kernel)⟩
theorem lw_p31 : lw_okq (⟨"ThirdEveningModel", "isAsked", "(II)Z"⟩, 50) := ⟨⟨by decide +kernel, by decide +kernel⟩, List.mem_of_getElem? (i := 795) (by decide +kernel), List.mem_of_getElem? (i := 1020) (by decide +kernel), List.mem_of_getElem? (i := 1021) (by decide +kernel)⟩
def lw_privs_2 : List (MethodName × Nat) := [(⟨"ThirdEvening$Person", "isMatchDay", "(I)Z"⟩, 10), (⟨"ThirdEvening$School", "stillComing", "(I)I"⟩, 9), (⟨"ThirdEvening$School", "comesWith", "(LThirdEvening$Person;I)Z"⟩, 9), (⟨"ThirdEvening", "heldBy", "(I)I"⟩, 11), (⟨"ThirdEvening", "whyNoRegister", "(II)I"⟩, 11), (⟨"ThirdEvening$Moves", "call", "(IIII)I"⟩, 5), (⟨"ThirdEvening$Moves", "note", "(I)V"⟩, 5), (⟨"ThirdEvening$Moves", "perform", "(III)I"⟩, 5), (⟨"ThirdEveningModel", "isShelf", "(I)Z"⟩, 50), (⟨"ThirdEveningModel", "no", "(I)I"⟩, 50), (⟨"ThirdEveningModel", "isOne", "(I)Z"⟩, 50), (⟨"ThirdEveningModel", "isUnder", "(II)Z"⟩, 50), (⟨"ThirdEveningModel", "isFrom", "(III)Z"⟩, 50), (⟨"ThirdEveningModel", "adds", "(IIII)I"⟩, 50), (⟨"ThirdEveningModel", "noTen", "(I)I"⟩, 50), (⟨"ThirdEveningModel", "isAsked", "(II)Z"⟩, 50)]
theorem lw_r2 : ∀ q ∈ lw_privs_2, lw_okq q := List.forall_mem_cons.mpr ⟨lw_p16, List.forall_mem_cons.mpr ⟨lw_p17, List.forall_mem_cons.mpr ⟨lw_p18, List.forall_mem_cons.mpr ⟨lw_p19, List.forall_mem_cons.mpr ⟨lw_p20, List.forall_mem_cons.mpr ⟨lw_p21, List.forall_mem_cons.mpr ⟨lw_p22, List.forall_mem_cons.mpr ⟨lw_p23, List.forall_mem_cons.mpr ⟨lw_p24, List.forall_mem_cons.mpr ⟨lw_p25, List.forall_mem_cons.mpr ⟨lw_p26, List.forall_mem_cons.mpr ⟨lw_p27, List.forall_mem_cons.mpr ⟨lw_p28, List.forall_mem_cons.mpr ⟨lw_p29, List.forall_mem_cons.mpr ⟨lw_p30, List.forall_mem_cons.mpr ⟨lw_p31, fun _ h => absurd h List.not_mem_nil⟩⟩⟩⟩⟩⟩⟩⟩⟩⟩⟩⟩⟩⟩⟩⟩
theorem lw_p32 : lw_okq (⟨"ThirdEveningModel", "asks", "(II)V"⟩, 50) := ⟨⟨by decide +kernel, by decide +kernel⟩, List.mem_of_getElem? (i := 795) (by decide +kernel), List.mem_of_getElem? (i := 1024) (by decide +kernel), List.mem_of_getElem? (i := 1025) (by decide +kernel)⟩
theorem lw_p33 : lw_okq (⟨"ThirdEveningModel", "wanted", "(I)I"⟩, 50) := ⟨⟨by decide +kernel, by decide +kernel⟩, List.mem_of_getElem? (i := 795) (by decide +kernel), List.mem_of_getElem? (i := 1040) (by decide +kernel), List.mem_of_getElem? (i := 1041) (by decide +kernel)⟩
theorem lw_p34 : lw_okq (⟨"ThirdEveningModel", "all", "([IZ)V"⟩, 50) := ⟨⟨by decide +kernel, by decide +kernel⟩, List.mem_of_getElem? (i := 795) (by decide +kernel), List.mem_of_getElem? (i := 1044) (by decide +kernel), List.mem_of_getElem? (i := 1045) (by decide +kernel)⟩
theorem lw_p35 : lw_okq (⟨"ThirdEveningModel", "carries", "([I[IIZ)I"⟩, 50) := ⟨⟨by decide +kernel, by decide +kernel⟩, List.mem_of_getElem? (i := 795) (by decide +kernel), List.mem_of_getElem? (i := 1048) (by decide +kernel), List.mem_of_getElem? (i := 1049) (by decide +kernel)⟩
theorem lw_p36 : lw_okq (⟨"ThirdEveningModel", "item", "()Z"⟩, 50) := ⟨⟨by decide +kernel, by decide +kernel⟩, List.mem_of_getElem? (i := 795) (by decide +kernel), List.mem_of_getElem? (i := 1052) (by decide +kernel), List.mem_of_getElem? (i := 1053) (by decide +kernel)⟩
theorem lw_p37 : lw_okq (⟨"ThirdEveningModel", "isPerson", "()Z"⟩, 50) := ⟨⟨by decide +kernel, by decide +kernel⟩, List.mem_of_getElem? (i := 795) (by decide +kernel), List.mem_of_getElem? (i := 1056) (by decide +kernel), List.mem_of_getElem? (i := 1057) (by decide +kernel)⟩
theorem lw_p38 : lw_okq (⟨"ThirdEveningModel", "sign", "(I)I"⟩, 50) := ⟨⟨by decide +kernel, by decide +kernel⟩, List.mem_of_getElem? (i := 795) (by decide +kernel), List.mem_of_getElem? (i := 1060) (by decide +kernel), List.mem_of_getElem? (i := 1061) (by decide +kernel)⟩
theorem lw_p39 : lw_okq (⟨"ThirdEveningModel", "wrong", "(I)Z"⟩, 50) := ⟨⟨by decide +kernel, by decide +kernel⟩, List.mem_of_getElem? (i := 795) (by decide +kernel), List.mem_of_getElem? (i := 1064) (by decide +kernel), List.mem_of_getElem? (i := 1065) (by decide +kernel)⟩
theorem lw_p40 : lw_okq (⟨"ThirdEveningModel", "word", "()I"⟩, 50) := ⟨⟨by decide +kernel, by decide +kernel⟩, List.mem_of_getElem? (i := 795) (by decide +kernel), List.mem_of_getElem? (i := 1068) (by decide +kernel), List.mem_of_getElem? (i := 1069) (by decide +kernel)⟩
theorem lw_p41 : lw_okq (⟨"ThirdEveningModel", "reads", "()Z"⟩, 50) := ⟨⟨by decide +kernel, by decide +kernel⟩, List.mem_of_getElem? (i := 795) (by decide +kernel), List.mem_of_getElem? (i := 1072) (by decide +kernel), List.mem_of_getElem? (i := 1073) (by decide +kernel)⟩
theorem lw_p42 : lw_okq (⟨"ThirdEveningModel", "isDigit", "()Z"⟩, 50) := ⟨⟨by decide +kernel, by decide +kernel⟩, List.mem_of_getElem? (i := 795) (by decide +kernel), List.mem_of_getElem? (i := 1076) (by decide +kernel), List.mem_of_getElem? (i := 1077) (by decide +kernel)⟩
theorem lw_p43 : lw_okq (⟨"ThirdEveningModel", "isSo", "(II)Z"⟩, 50) := ⟨⟨by decide +kernel, by decide +kernel⟩, List.mem_of_getElem? (i := 795) (by decide +kernel), List.mem_of_getElem? (i := 1080) (by decide +kernel), List.mem_of_getElem? (i := 1081) (by decide +kernel)⟩
theorem lw_p44 : lw_okq (⟨"ThirdEveningModel", "wills", "(I)I"⟩, 50) := ⟨⟨by decide +kernel, by decide +kernel⟩, List.mem_of_getElem? (i := 795) (by decide +kernel), List.mem_of_getElem? (i := 1092) (by decide +kernel), List.mem_of_getElem? (i := 1093) (by decide +kernel)⟩
theorem lw_p45 : lw_okq (⟨"ThirdEveningModel", "comes", "(I)V"⟩, 50) := ⟨⟨by decide +kernel, by decide +kernel⟩, List.mem_of_getElem? (i := 795) (by decide +kernel), List.mem_of_getElem? (i := 1100) (by decide +kernel), List.mem_of_getElem? (i := 1101) (by decide +kernel)⟩
theorem lw_p46 : lw_okq (⟨"ThirdEveningModel", "stillComes", "(II)Z"⟩, 50) := ⟨⟨by decide +kernel, by decide +kernel⟩, List.mem_of_getElem? (i := 795) (by decide +kernel), List.mem_of_getElem? (i := 1104) (by decide +kernel), List.mem_of_getElem? (i := 1105) (by decide +kernel)⟩
theorem lw_p47 : lw_okq (⟨"ThirdEveningModel", "isMany", "(I)Z"⟩, 50) := ⟨⟨by decide +kernel, by decide +kernel⟩, List.mem_of_getElem? (i := 795) (by decide +kernel), List.mem_of_getElem? (i := 1112) (by decide +kernel), List.mem_of_getElem? (i := 1113) (by decide +kernel)⟩
def lw_privs_3 : List (MethodName × Nat) := [(⟨"ThirdEveningModel", "asks", "(II)V"⟩, 50), (⟨"ThirdEveningModel", "wanted", "(I)I"⟩, 50), (⟨"ThirdEveningModel", "all", "([IZ)V"⟩, 50), (⟨"ThirdEveningModel", "carries", "([I[IIZ)I"⟩, 50), (⟨"ThirdEveningModel", "item", "()Z"⟩, 50), (⟨"ThirdEveningModel", "isPerson", "()Z"⟩, 50), (⟨"ThirdEveningModel", "sign", "(I)I"⟩, 50), (⟨"ThirdEveningModel", "wrong", "(I)Z"⟩, 50), (⟨"ThirdEveningModel", "word", "()I"⟩, 50), (⟨"ThirdEveningModel", "reads", "()Z"⟩, 50), (⟨"ThirdEveningModel", "isDigit", "()Z"⟩, 50), (⟨"ThirdEveningModel", "isSo", "(II)Z"⟩, 50), (⟨"ThirdEveningModel", "wills", "(I)I"⟩, 50), (⟨"ThirdEveningModel", "comes", "(I)V"⟩, 50), (⟨"ThirdEveningModel", "stillComes", "(II)Z"⟩, 50), (⟨"ThirdEveningModel", "isMany", "(I)Z"⟩, 50)]
theorem lw_r3 : ∀ q ∈ lw_privs_3, lw_okq q := List.forall_mem_cons.mpr ⟨lw_p32, List.forall_mem_cons.mpr ⟨lw_p33, List.forall_mem_cons.mpr ⟨lw_p34, List.forall_mem_cons.mpr ⟨lw_p35, List.forall_mem_cons.mpr ⟨lw_p36, List.forall_mem_cons.mpr ⟨lw_p37, List.forall_mem_cons.mpr ⟨lw_p38, List.forall_mem_cons.mpr ⟨lw_p39, List.forall_mem_cons.mpr ⟨lw_p40, List.forall_mem_cons.mpr ⟨lw_p41, List.forall_mem_cons.mpr ⟨lw_p42, List.forall_mem_cons.mpr ⟨lw_p43, List.forall_mem_cons.mpr ⟨lw_p44, List.forall_mem_cons.mpr ⟨lw_p45, List.forall_mem_cons.mpr ⟨lw_p46, List.forall_mem_cons.mpr ⟨lw_p47, fun _ h => absurd h List.not_mem_nil⟩⟩⟩⟩⟩⟩⟩⟩⟩⟩⟩⟩⟩⟩⟩⟩
theorem lw_p48 : lw_okq (⟨"ThirdEveningModel", "runs", "(I)V"⟩, 50) := ⟨⟨by decide +kernel, by decide +kernel⟩, List.mem_of_getElem? (i := 795) (by decide +kernel), List.mem_of_getElem? (i := 1116) (by decide +kernel), List.mem_of_getElem? (i := 1117) (by decide +kernel)⟩
theorem lw_p49 : lw_okq (⟨"ThirdEveningModel", "passes", "()V"⟩, 50) := ⟨⟨by decide +kernel, by decide +kernel⟩, List.mem_of_getElem? (i := 795) (by decide +kernel), List.mem_of_getElem? (i := 1120) (by decide +kernel), List.mem_of_getElem? (i := 1121) (by decide +kernel)⟩
theorem lw_p50 : lw_okq (⟨"ThirdEveningModel", "here", "()I"⟩, 50) := ⟨⟨by decide +kernel, by decide +kernel⟩, List.mem_of_getElem? (i := 795) (by decide +kernel), List.mem_of_getElem? (i := 1124) (by decide +kernel), List.mem_of_getElem? (i := 1125) (by decide +kernel)⟩
theorem lw_p51 : lw_okq (⟨"ThirdEveningModel", "bits", "(I)I"⟩, 50) := ⟨⟨by decide +kernel, by decide +kernel⟩, List.mem_of_getElem? (i := 795) (by decide +kernel), List.mem_of_getElem? (i := 1144) (by decide +kernel), List.mem_of_getElem? (i := 1145) (by decide +kernel)⟩
theorem lw_p52 : lw_okq (⟨"ThirdEveningModel", "satIfPaid", "(II)I"⟩, 50) := ⟨⟨by decide +kernel, by decide +kernel⟩, List.mem_of_getElem? (i := 795) (by decide +kernel), List.mem_of_getElem? (i := 1164) (by decide +kernel), List.mem_of_getElem? (i := 1165) (by decide +kernel)⟩
theorem lw_p53 : lw_okq (⟨"ThirdEveningModel", "holdsBack", "(I)I"⟩, 50) := ⟨⟨by decide +kernel, by decide +kernel⟩, List.mem_of_getElem? (i := 795) (by decide +kernel), List.mem_of_getElem? (i := 1172) (by decide +kernel), List.mem_of_getElem? (i := 1173) (by decide +kernel)⟩
theorem lw_p54 : lw_okq (⟨"ThirdEveningModel", "barsOf", "(II)I"⟩, 50) := ⟨⟨by decide +kernel, by decide +kernel⟩, List.mem_of_getElem? (i := 795) (by decide +kernel), List.mem_of_getElem? (i := 1192) (by decide +kernel), List.mem_of_getElem? (i := 1193) (by decide +kernel)⟩
theorem lw_p55 : lw_okq (⟨"ThirdEveningModel", "wrongIn", "(II)I"⟩, 50) := ⟨⟨by decide +kernel, by decide +kernel⟩, List.mem_of_getElem? (i := 795) (by decide +kernel), List.mem_of_getElem? (i := 1196) (by decide +kernel), List.mem_of_getElem? (i := 1197) (by decide +kernel)⟩
theorem lw_p56 : lw_okq (⟨"ThirdEveningModel", "intAt", "(II)I"⟩, 50) := ⟨⟨by decide +kernel, by decide +kernel⟩, List.mem_of_getElem? (i := 795) (by decide +kernel), List.mem_of_getElem? (i := 1200) (by decide +kernel), List.mem_of_getElem? (i := 1201) (by decide +kernel)⟩
theorem lw_p57 : lw_okq (⟨"ThirdEveningModel", "draw", "(I)I"⟩, 50) := ⟨⟨by decide +kernel, by decide +kernel⟩, List.mem_of_getElem? (i := 795) (by decide +kernel), List.mem_of_getElem? (i := 1216) (by decide +kernel), List.mem_of_getElem? (i := 1217) (by decide +kernel)⟩
theorem lw_p58 : lw_okq (⟨"ThirdEveningModel", "coming", "(II)I"⟩, 50) := ⟨⟨by decide +kernel, by decide +kernel⟩, List.mem_of_getElem? (i := 795) (by decide +kernel), List.mem_of_getElem? (i := 1229) (by decide +kernel), List.mem_of_getElem? (i := 1230) (by decide +kernel)⟩
theorem lw_p59 : lw_okq (⟨"ThirdEveningModel", "body", "(I)V"⟩, 50) := ⟨⟨by decide +kernel, by decide +kernel⟩, List.mem_of_getElem? (i := 795) (by decide +kernel), List.mem_of_getElem? (i := 1233) (by decide +kernel), List.mem_of_getElem? (i := 1234) (by decide +kernel)⟩
theorem lw_p60 : lw_okq (⟨"ThirdEveningModel", "sitting", "(II)I"⟩, 50) := ⟨⟨by decide +kernel, by decide +kernel⟩, List.mem_of_getElem? (i := 795) (by decide +kernel), List.mem_of_getElem? (i := 1237) (by decide +kernel), List.mem_of_getElem? (i := 1238) (by decide +kernel)⟩
theorem lw_p61 : lw_okq (⟨"ThirdEveningModel", "asking", "(II)I"⟩, 50) := ⟨⟨by decide +kernel, by decide +kernel⟩, List.mem_of_getElem? (i := 795) (by decide +kernel), List.mem_of_getElem? (i := 1241) (by decide +kernel), List.mem_of_getElem? (i := 1242) (by decide +kernel)⟩
theorem lw_p62 : lw_okq (⟨"ThirdEveningModel", "together", "([I)I"⟩, 50) := ⟨⟨by decide +kernel, by decide +kernel⟩, List.mem_of_getElem? (i := 795) (by decide +kernel), List.mem_of_getElem? (i := 1261) (by decide +kernel), List.mem_of_getElem? (i := 1262) (by decide +kernel)⟩
def lw_privs_4 : List (MethodName × Nat) := [(⟨"ThirdEveningModel", "runs", "(I)V"⟩, 50), (⟨"ThirdEveningModel", "passes", "()V"⟩, 50), (⟨"ThirdEveningModel", "here", "()I"⟩, 50), (⟨"ThirdEveningModel", "bits", "(I)I"⟩, 50), (⟨"ThirdEveningModel", "satIfPaid", "(II)I"⟩, 50), (⟨"ThirdEveningModel", "holdsBack", "(I)I"⟩, 50), (⟨"ThirdEveningModel", "barsOf", "(II)I"⟩, 50), (⟨"ThirdEveningModel", "wrongIn", "(II)I"⟩, 50), (⟨"ThirdEveningModel", "intAt", "(II)I"⟩, 50), (⟨"ThirdEveningModel", "draw", "(I)I"⟩, 50), (⟨"ThirdEveningModel", "coming", "(II)I"⟩, 50), (⟨"ThirdEveningModel", "body", "(I)V"⟩, 50), (⟨"ThirdEveningModel", "sitting", "(II)I"⟩, 50), (⟨"ThirdEveningModel", "asking", "(II)I"⟩, 50), (⟨"ThirdEveningModel", "together", "([I)I"⟩, 50)]
theorem lw_r4 : ∀ q ∈ lw_privs_4, lw_okq q := List.forall_mem_cons.mpr ⟨lw_p48, List.forall_mem_cons.mpr ⟨lw_p49, List.forall_mem_cons.mpr ⟨lw_p50, List.forall_mem_cons.mpr ⟨lw_p51, List.forall_mem_cons.mpr ⟨lw_p52, List.forall_mem_cons.mpr ⟨lw_p53, List.forall_mem_cons.mpr ⟨lw_p54, List.forall_mem_cons.mpr ⟨lw_p55, List.forall_mem_cons.mpr ⟨lw_p56, List.forall_mem_cons.mpr ⟨lw_p57, List.forall_mem_cons.mpr ⟨lw_p58, List.forall_mem_cons.mpr ⟨lw_p59, List.forall_mem_cons.mpr ⟨lw_p60, List.forall_mem_cons.mpr ⟨lw_p61, List.forall_mem_cons.mpr ⟨lw_p62, fun _ h => absurd h List.not_mem_nil⟩⟩⟩⟩⟩⟩⟩⟩⟩⟩⟩⟩⟩⟩⟩
def lw_privs : List (MethodName × Nat) := lw_privs_1 ++ (lw_privs_2 ++ (lw_privs_3 ++ (lw_privs_4)))
def lw_tbl : List Cond := k2_sels lw_privs ++ tables_1
theorem lw_privs_ok : ∀ q ∈ lw_privs, lw_okq q := by
  show ∀ q ∈ lw_privs_1 ++ (lw_privs_2 ++ (lw_privs_3 ++ (lw_privs_4))), lw_okq q
  exact List.forall_mem_append.mpr ⟨lw_r1, List.forall_mem_append.mpr ⟨lw_r2, List.forall_mem_append.mpr ⟨lw_r3, lw_r4⟩⟩⟩
-- ===== end of PART A; then your names; then what follows =====
end
section
def RX0 : String := "ThirdEvening$Moves"
def TX0 : u_T := fun k => match k with
  | 0 => ("ThirdEvening$Moves", "ran", "I", false)
  | 1 => ("ThirdEvening$Moves", "begun", "[I", true)
  | 2 => ("ThirdEvening$Moves", "number", "I", false)
  | 3 => ("ThirdEvening$Moves", "kind", "I", false)
  | _ => ("ThirdEvening$Moves", "a", "I", false)
def tyX0 : Nat → FieldType := fun k => match k with
  | 0 => .int
  | 1 => .array .int
  | 2 => .int
  | 3 => .int
  | _ => .int
abbrev wsX00 : List Cond := u_ws RX0 TX0 5
theorem nmX0 : ∀ a, a < 5 → ∀ b, b < 5 → a ≠ b → (TX0 a).2.1 ≠ (TX0 b).2.1 := by decide +kernel
theorem tyX0_ok : ∀ k, k < 5 → parseFieldDescriptor (TX0 k).2.2.1 = some (tyX0 k) := by decide +kernel
abbrev cX0_init : ByteArray := prog_2_method_1_code
def yX0_init : MethodName := ⟨RX0, "<init>", "()V"⟩
abbrev cX0_isMove : ByteArray := prog_2_method_2_code
def yX0_isMove : MethodName := ⟨RX0, "isMove", "(I)Z"⟩
abbrev cX0_forget : ByteArray := prog_2_method_3_code
def yX0_forget : MethodName := ⟨RX0, "forget", "()V"⟩
abbrev cX0_run : ByteArray := prog_2_method_4_code
def yX0_run : MethodName := ⟨RX0, "run", "(ILThirdEvening$Person;II)I"⟩
abbrev cX0_bodyAt : ByteArray := prog_2_method_5_code
def yX0_bodyAt : MethodName := ⟨RX0, "bodyAt", "(I)I"⟩
abbrev cX0_bodyOf : ByteArray := prog_2_method_6_code
def yX0_bodyOf : MethodName := ⟨RX0, "bodyOf", "(II)I"⟩
abbrev cX0_call : ByteArray := prog_2_method_7_code
def yX0_call : MethodName := ⟨RX0, "call", "(IIII)I"⟩
abbrev cX0_note : ByteArray := prog_2_method_8_code
def yX0_note : MethodName := ⟨RX0, "note", "(I)V"⟩
abbrev cX0_perform : ByteArray := prog_2_method_9_code
def yX0_perform : MethodName := ⟨RX0, "perform", "(III)I"⟩
def RX1 : String := "ThirdEvening$Outlook"
def TX1 : u_T := fun k => match k with
  | 0 => ("ThirdEvening$Outlook", "seated", "I", false)
  | 1 => ("ThirdEvening$Outlook", "turned", "I", false)
  | 2 => ("ThirdEvening$Outlook", "emptiest", "I", false)
  | _ => ("ThirdEvening$Outlook", "shut", "I", false)
def tyX1 : Nat → FieldType := fun k => match k with
  | 0 => .int
  | 1 => .int
  | 2 => .int
  | _ => .int
abbrev wsX10 : List Cond := u_ws RX1 TX1 4
theorem nmX1 : ∀ a, a < 4 → ∀ b, b < 4 → a ≠ b → (TX1 a).2.1 ≠ (TX1 b).2.1 := by decide +kernel
theorem tyX1_ok : ∀ k, k < 4 → parseFieldDescriptor (TX1 k).2.2.1 = some (tyX1 k) := by decide +kernel
abbrev cX1_init : ByteArray := prog_3_method_1_code
def yX1_init : MethodName := ⟨RX1, "<init>", "()V"⟩
abbrev cX1_watch : ByteArray := prog_3_method_2_code
def yX1_watch : MethodName := ⟨RX1, "watch", "(LThirdEvening$School;I)V"⟩
abbrev cX1_firstWrong : ByteArray := prog_3_method_3_code
def yX1_firstWrong : MethodName := ⟨RX1, "firstWrong", "(LThirdEvening$School;LThirdEvening$Shelf;I)I"⟩
def RX2 : String := "ThirdEvening$Person"
def TX2 : u_T := fun k => match k with
  | 0 => ("ThirdEvening$Person", "kind", "I", false)
  | 1 => ("ThirdEvening$Person", "a", "I", false)
  | 2 => ("ThirdEvening$Person", "own", "I", false)
  | 3 => ("ThirdEvening$Person", "paid", "Z", false)
  | 4 => ("ThirdEvening$Person", "mate", "I", false)
  | 5 => ("ThirdEvening$Person", "behind", "I", false)
  | 6 => ("ThirdEvening$Person", "missed", "I", false)
  | 7 => ("ThirdEvening$Person", "comings", "I", false)
  | 8 => ("ThirdEvening$Person", "gone", "Z", false)
  | _ => ("ThirdEvening$Person", "pull", "I", false)
def tyX2 : Nat → FieldType := fun k => match k with
  | 0 => .int
  | 1 => .int
  | 2 => .int
  | 3 => .boolean
  | 4 => .int
  | 5 => .int
  | 6 => .int
  | 7 => .int
  | 8 => .boolean
  | _ => .int
abbrev wsX20 : List Cond := u_ws RX2 TX2 10
theorem nmX2 : ∀ a, a < 10 → ∀ b, b < 10 → a ≠ b → (TX2 a).2.1 ≠ (TX2 b).2.1 := by decide +kernel
theorem tyX2_ok : ∀ k, k < 10 → parseFieldDescriptor (TX2 k).2.2.1 = some (tyX2 k) := by decide +kernel
abbrev cX2_init : ByteArray := prog_4_method_1_code
def yX2_init : MethodName := ⟨RX2, "<init>", "()V"⟩
abbrev cX2_enter : ByteArray := prog_4_method_2_code
def yX2_enter : MethodName := ⟨RX2, "enter", "(IIIZ)V"⟩
abbrev cX2_become : ByteArray := prog_4_method_3_code
def yX2_become : MethodName := ⟨RX2, "become", "(LThirdEvening$Person;)V"⟩
abbrev cX2_pullOn : ByteArray := prog_4_method_4_code
def yX2_pullOn : MethodName := ⟨RX2, "pullOn", "(III)I"⟩
abbrev cX2_isMatchDay : ByteArray := prog_4_method_5_code
def yX2_isMatchDay : MethodName := ⟨RX2, "isMatchDay", "(I)Z"⟩
abbrev cX2_sat : ByteArray := prog_4_method_6_code
def yX2_sat : MethodName := ⟨RX2, "sat", "()V"⟩
abbrev cX2_stayedAway : ByteArray := prog_4_method_7_code
def yX2_stayedAway : MethodName := ⟨RX2, "stayedAway", "()V"⟩
abbrev cX2_mark : ByteArray := prog_4_method_8_code
def yX2_mark : MethodName := ⟨RX2, "mark", "(I)I"⟩
abbrev cX2_sayingAs : ByteArray := prog_4_method_9_code
def yX2_sayingAs : MethodName := ⟨RX2, "sayingAs", "(I)I"⟩
def RX3 : String := "ThirdEvening$Reader"
def TX3 : u_T := fun k => match k with
  | 0 => ("ThirdEvening$Reader", "told", "LThirdEvening$School;", true)
  | 1 => ("ThirdEvening$Reader", "wrongAt", "I", false)
  | 2 => ("ThirdEvening$Reader", "letters", "[I", true)
  | 3 => ("ThirdEvening$Reader", "length", "I", false)
  | 4 => ("ThirdEvening$Reader", "at", "I", false)
  | _ => ("ThirdEvening$Reader", "numberAt", "I", false)
def tyX3 : Nat → FieldType := fun k => match k with
  | 0 => .object "ThirdEvening$School"
  | 1 => .int
  | 2 => .array .int
  | 3 => .int
  | 4 => .int
  | _ => .int
abbrev wsX30 : List Cond := u_ws RX3 TX3 6
theorem nmX3 : ∀ a, a < 6 → ∀ b, b < 6 → a ≠ b → (TX3 a).2.1 ≠ (TX3 b).2.1 := by decide +kernel
theorem tyX3_ok : ∀ k, k < 6 → parseFieldDescriptor (TX3 k).2.2.1 = some (tyX3 k) := by decide +kernel
abbrev cX3_init : ByteArray := prog_5_method_1_code
def yX3_init : MethodName := ⟨RX3, "<init>", "()V"⟩
abbrev cX3_read : ByteArray := prog_5_method_2_code
def yX3_read : MethodName := ⟨RX3, "read", "(LThirdEvening$Shelf;LThirdEvening$School;)I"⟩
abbrev cX3_readItem : ByteArray := prog_5_method_3_code
def yX3_readItem : MethodName := ⟨RX3, "readItem", "()Z"⟩
abbrev cX3_readWord : ByteArray := prog_5_method_4_code
def yX3_readWord : MethodName := ⟨RX3, "readWord", "()I"⟩
abbrev cX3_wordOf : ByteArray := prog_5_method_5_code
def yX3_wordOf : MethodName := ⟨RX3, "wordOf", "(I)Ljava/lang/String;"⟩
abbrev cX3_readPerson : ByteArray := prog_5_method_6_code
def yX3_readPerson : MethodName := ⟨RX3, "readPerson", "()Z"⟩
abbrev cX3_readFriend : ByteArray := prog_5_method_7_code
def yX3_readFriend : MethodName := ⟨RX3, "readFriend", "()Z"⟩
abbrev cX3_readGone : ByteArray := prog_5_method_8_code
def yX3_readGone : MethodName := ⟨RX3, "readGone", "()Z"⟩
abbrev cX3_readSetting : ByteArray := prog_5_method_9_code
def yX3_readSetting : MethodName := ⟨RX3, "readSetting", "(I)Z"⟩
abbrev cX3_readNumber : ByteArray := prog_5_method_10_code
def yX3_readNumber : MethodName := ⟨RX3, "readNumber", "(II)I"⟩
abbrev cX3_isDigit : ByteArray := prog_5_method_11_code
def yX3_isDigit : MethodName := ⟨RX3, "isDigit", "()Z"⟩
abbrev cX3_readDigit : ByteArray := prog_5_method_12_code
def yX3_readDigit : MethodName := ⟨RX3, "readDigit", "()I"⟩
abbrev cX3_readSign : ByteArray := prog_5_method_13_code
def yX3_readSign : MethodName := ⟨RX3, "readSign", "(I)Z"⟩
abbrev cX3_letter : ByteArray := prog_5_method_14_code
def yX3_letter : MethodName := ⟨RX3, "letter", "()I"⟩
abbrev cX3_fail : ByteArray := prog_5_method_15_code
def yX3_fail : MethodName := ⟨RX3, "fail", "(I)Z"⟩
def RX4 : String := "ThirdEvening$School"
def TX4 : u_T := fun k => match k with
  | 0 => ("ThirdEvening$School", "people", "[LThirdEvening$Person;", true)
  | 1 => ("ThirdEvening$School", "nobody", "LThirdEvening$Person;", true)
  | 2 => ("ThirdEvening$School", "size", "I", false)
  | 3 => ("ThirdEvening$School", "level", "I", false)
  | 4 => ("ThirdEvening$School", "rain", "I", false)
  | 5 => ("ThirdEvening$School", "chairs", "I", false)
  | 6 => ("ThirdEvening$School", "bar", "I", false)
  | 7 => ("ThirdEvening$School", "evening", "I", false)
  | _ => ("ThirdEvening$School", "luck", "I", false)
def tyX4 : Nat → FieldType := fun k => match k with
  | 0 => .array (.object "ThirdEvening$Person")
  | 1 => .object "ThirdEvening$Person"
  | 2 => .int
  | 3 => .int
  | 4 => .int
  | 5 => .int
  | 6 => .int
  | 7 => .int
  | _ => .int
abbrev wsX40 : List Cond := u_ws RX4 TX4 9
theorem nmX4 : ∀ a, a < 9 → ∀ b, b < 9 → a ≠ b → (TX4 a).2.1 ≠ (TX4 b).2.1 := by decide +kernel
theorem tyX4_ok : ∀ k, k < 9 → parseFieldDescriptor (TX4 k).2.2.1 = some (tyX4 k) := by decide +kernel
abbrev cX4_init : ByteArray := prog_6_method_1_code
def yX4_init : MethodName := ⟨RX4, "<init>", "()V"⟩
abbrev cX4_become : ByteArray := prog_6_method_2_code
def yX4_become : MethodName := ⟨RX4, "become", "(LThirdEvening$School;)V"⟩
abbrev cX4_has : ByteArray := prog_6_method_3_code
def yX4_has : MethodName := ⟨RX4, "has", "(I)Z"⟩
abbrev cX4_isFull : ByteArray := prog_6_method_4_code
def yX4_isFull : MethodName := ⟨RX4, "isFull", "()Z"⟩
abbrev cX4_one : ByteArray := prog_6_method_5_code
def yX4_one : MethodName := ⟨RX4, "one", "(I)LThirdEvening$Person;"⟩
abbrev cX4_enrol : ByteArray := prog_6_method_6_code
def yX4_enrol : MethodName := ⟨RX4, "enrol", "(IIIZ)I"⟩
abbrev cX4_setting : ByteArray := prog_6_method_7_code
def yX4_setting : MethodName := ⟨RX4, "setting", "(I)I"⟩
abbrev cX4_settle : ByteArray := prog_6_method_8_code
def yX4_settle : MethodName := ⟨RX4, "settle", "(II)V"⟩
abbrev cX4_dismissFrom : ByteArray := prog_6_method_9_code
def yX4_dismissFrom : MethodName := ⟨RX4, "dismissFrom", "(I)V"⟩
abbrev cX4_payForAll : ByteArray := prog_6_method_10_code
def yX4_payForAll : MethodName := ⟨RX4, "payForAll", "(Z)V"⟩
abbrev cX4_present : ByteArray := prog_6_method_11_code
def yX4_present : MethodName := ⟨RX4, "present", "()I"⟩
abbrev cX4_comingsTogether : ByteArray := prog_6_method_12_code
def yX4_comingsTogether : MethodName := ⟨RX4, "comingsTogether", "()I"⟩
abbrev cX4_pullOn : ByteArray := prog_6_method_13_code
def yX4_pullOn : MethodName := ⟨RX4, "pullOn", "(I)I"⟩
abbrev cX4_comers : ByteArray := prog_6_method_14_code
def yX4_comers : MethodName := ⟨RX4, "comers", "(I)I"⟩
abbrev cX4_stillComing : ByteArray := prog_6_method_15_code
def yX4_stillComing : MethodName := ⟨RX4, "stillComing", "(I)I"⟩
abbrev cX4_comesWith : ByteArray := prog_6_method_16_code
def yX4_comesWith : MethodName := ⟨RX4, "comesWith", "(LThirdEvening$Person;I)Z"⟩
abbrev cX4_seatedOf : ByteArray := prog_6_method_17_code
def yX4_seatedOf : MethodName := ⟨RX4, "seatedOf", "(I)I"⟩
abbrev cX4_endEvening : ByteArray := prog_6_method_18_code
def yX4_endEvening : MethodName := ⟨RX4, "endEvening", "(I)V"⟩
abbrev cX4_draw : ByteArray := prog_6_method_19_code
def yX4_draw : MethodName := ⟨RX4, "draw", "(I)I"⟩
def RX5 : String := "ThirdEvening$Shelf"
def TX5 : u_T := fun k => match k with
  | 0 => ("ThirdEvening$Shelf", "sort", "I", false)
  | 1 => ("ThirdEvening$Shelf", "person", "I", false)
  | 2 => ("ThirdEvening$Shelf", "length", "I", false)
  | _ => ("ThirdEvening$Shelf", "elements", "[J", true)
def tyX5 : Nat → FieldType := fun k => match k with
  | 0 => .int
  | 1 => .int
  | 2 => .int
  | _ => .array .long
abbrev wsX50 : List Cond := u_ws RX5 TX5 4
theorem nmX5 : ∀ a, a < 4 → ∀ b, b < 4 → a ≠ b → (TX5 a).2.1 ≠ (TX5 b).2.1 := by decide +kernel
theorem tyX5_ok : ∀ k, k < 4 → parseFieldDescriptor (TX5 k).2.2.1 = some (tyX5 k) := by decide +kernel
abbrev cX5_init : ByteArray := prog_7_method_1_code
def yX5_init : MethodName := ⟨RX5, "<init>", "()V"⟩
abbrev cX5_isRow : ByteArray := prog_7_method_2_code
def yX5_isRow : MethodName := ⟨RX5, "isRow", "()Z"⟩
abbrev cX5_isPerson : ByteArray := prog_7_method_3_code
def yX5_isPerson : MethodName := ⟨RX5, "isPerson", "()Z"⟩
abbrev cX5_holdRow : ByteArray := prog_7_method_4_code
def yX5_holdRow : MethodName := ⟨RX5, "holdRow", "(II)V"⟩
abbrev cX5_holdPerson : ByteArray := prog_7_method_5_code
def yX5_holdPerson : MethodName := ⟨RX5, "holdPerson", "(I)V"⟩
abbrev cX5_hasElement : ByteArray := prog_7_method_6_code
def yX5_hasElement : MethodName := ⟨RX5, "hasElement", "(I)Z"⟩
abbrev cX5_hasStretch : ByteArray := prog_7_method_7_code
def yX5_hasStretch : MethodName := ⟨RX5, "hasStretch", "(II)Z"⟩
abbrev cX5_put : ByteArray := prog_7_method_8_code
def yX5_put : MethodName := ⟨RX5, "put", "(IJ)V"⟩
abbrev cX5_elementAt : ByteArray := prog_7_method_9_code
def yX5_elementAt : MethodName := ⟨RX5, "elementAt", "(I)J"⟩
abbrev cX5_intAt : ByteArray := prog_7_method_10_code
def yX5_intAt : MethodName := ⟨RX5, "intAt", "(I)I"⟩
def RX6 : String := "ThirdEvening"
def TX6 : u_T := fun k => match k with
  | 0 => ("ThirdEvening", "now", "LThirdEvening$School;", true)
  | 1 => ("ThirdEvening", "plan", "LThirdEvening$School;", true)
  | 2 => ("ThirdEvening", "picture", "LThirdEvening$School;", true)
  | 3 => ("ThirdEvening", "pictured", "Z", false)
  | 4 => ("ThirdEvening", "outlook", "LThirdEvening$Outlook;", true)
  | 5 => ("ThirdEvening", "shelves", "[LThirdEvening$Shelf;", true)
  | 6 => ("ThirdEvening", "noShelf", "LThirdEvening$Shelf;", true)
  | 7 => ("ThirdEvening", "reader", "LThirdEvening$Reader;", true)
  | 8 => ("ThirdEvening", "moves", "LThirdEvening$Moves;", true)
  | 9 => ("ThirdEvening", "refusals", "[I", true)
  | _ => ("ThirdEvening", "latestFault", "I", false)
def tyX6 : Nat → FieldType := fun k => match k with
  | 0 => .object "ThirdEvening$School"
  | 1 => .object "ThirdEvening$School"
  | 2 => .object "ThirdEvening$School"
  | 3 => .boolean
  | 4 => .object "ThirdEvening$Outlook"
  | 5 => .array (.object "ThirdEvening$Shelf")
  | 6 => .object "ThirdEvening$Shelf"
  | 7 => .object "ThirdEvening$Reader"
  | 8 => .object "ThirdEvening$Moves"
  | 9 => .array .int
  | _ => .int
abbrev wsX60 : List Cond := u_ws RX6 TX6 11
theorem nmX6 : ∀ a, a < 11 → ∀ b, b < 11 → a ≠ b → (TX6 a).2.1 ≠ (TX6 b).2.1 := by decide +kernel
theorem tyX6_ok : ∀ k, k < 11 → parseFieldDescriptor (TX6 k).2.2.1 = some (tyX6 k) := by decide +kernel
abbrev cX6_init : ByteArray := prog_1_method_1_code
def yX6_init : MethodName := ⟨RX6, "<init>", "()V"⟩
abbrev cX6_row : ByteArray := prog_1_method_2_code
def yX6_row : MethodName := ⟨RX6, "row", "(III)I"⟩
abbrev cX6_set : ByteArray := prog_1_method_3_code
def yX6_set : MethodName := ⟨RX6, "set", "(IIJ)I"⟩
abbrev cX6_copy : ByteArray := prog_1_method_4_code
def yX6_copy : MethodName := ⟨RX6, "copy", "(IIIII)I"⟩
abbrev cX6_element : ByteArray := prog_1_method_5_code
def yX6_element : MethodName := ⟨RX6, "element", "(II)J"⟩
abbrev cX6_show : ByteArray := prog_1_method_6_code
def yX6_show : MethodName := ⟨RX6, "show", "(II)I"⟩
abbrev cX6_holds : ByteArray := prog_1_method_7_code
def yX6_holds : MethodName := ⟨RX6, "holds", "(I)I"⟩
abbrev cX6_says : ByteArray := prog_1_method_8_code
def yX6_says : MethodName := ⟨RX6, "says", "(II)I"⟩
abbrev cX6_person : ByteArray := prog_1_method_9_code
def yX6_person : MethodName := ⟨RX6, "person", "(IIIZ)I"⟩
abbrev cX6_friend : ByteArray := prog_1_method_10_code
def yX6_friend : MethodName := ⟨RX6, "friend", "(II)I"⟩
abbrev cX6_ask : ByteArray := prog_1_method_11_code
def yX6_ask : MethodName := ⟨RX6, "ask", "(II)I"⟩
abbrev cX6_go : ByteArray := prog_1_method_12_code
def yX6_go : MethodName := ⟨RX6, "go", "(IZ)I"⟩
abbrev cX6_personOf : ByteArray := prog_1_method_13_code
def yX6_personOf : MethodName := ⟨RX6, "personOf", "(II)I"⟩
abbrev cX6_school : ByteArray := prog_1_method_14_code
def yX6_school : MethodName := ⟨RX6, "school", "(I)I"⟩
abbrev cX6_fault : ByteArray := prog_1_method_15_code
def yX6_fault : MethodName := ⟨RX6, "fault", "()I"⟩
abbrev cX6_will : ByteArray := prog_1_method_16_code
def yX6_will : MethodName := ⟨RX6, "will", "(I)I"⟩
abbrev cX6_tonight : ByteArray := prog_1_method_17_code
def yX6_tonight : MethodName := ⟨RX6, "tonight", "(I)I"⟩
abbrev cX6_ahead : ByteArray := prog_1_method_18_code
def yX6_ahead : MethodName := ⟨RX6, "ahead", "(II)I"⟩
abbrev cX6_worst : ByteArray := prog_1_method_19_code
def yX6_worst : MethodName := ⟨RX6, "worst", "(II)I"⟩
abbrev cX6_ones : ByteArray := prog_1_method_20_code
def yX6_ones : MethodName := ⟨RX6, "ones", "(III)I"⟩
abbrev cX6_ring : ByteArray := prog_1_method_21_code
def yX6_ring : MethodName := ⟨RX6, "ring", "(II)I"⟩
abbrev cX6_begin : ByteArray := prog_1_method_22_code
def yX6_begin : MethodName := ⟨RX6, "begin", "(I)I"⟩
abbrev cX6_room : ByteArray := prog_1_method_23_code
def yX6_room : MethodName := ⟨RX6, "room", "(I)I"⟩
abbrev cX6_take : ByteArray := prog_1_method_24_code
def yX6_take : MethodName := ⟨RX6, "take", "(I)I"⟩
abbrev cX6_price : ByteArray := prog_1_method_25_code
def yX6_price : MethodName := ⟨RX6, "price", "(I)I"⟩
abbrev cX6_lost : ByteArray := prog_1_method_26_code
def yX6_lost : MethodName := ⟨RX6, "lost", "(I)I"⟩
abbrev cX6_pairs : ByteArray := prog_1_method_27_code
def yX6_pairs : MethodName := ⟨RX6, "pairs", "()I"⟩
abbrev cX6_chain : ByteArray := prog_1_method_28_code
def yX6_chain : MethodName := ⟨RX6, "chain", "(I)I"⟩
abbrev cX6_keeps : ByteArray := prog_1_method_29_code
def yX6_keeps : MethodName := ⟨RX6, "keeps", "(I)I"⟩
abbrev cX6_keep : ByteArray := prog_1_method_30_code
def yX6_keep : MethodName := ⟨RX6, "keep", "()I"⟩
abbrev cX6_friends : ByteArray := prog_1_method_31_code
def yX6_friends : MethodName := ⟨RX6, "friends", "(III)I"⟩
abbrev cX6_judge : ByteArray := prog_1_method_32_code
def yX6_judge : MethodName := ⟨RX6, "judge", "(II)I"⟩
abbrev cX6_evenings : ByteArray := prog_1_method_33_code
def yX6_evenings : MethodName := ⟨RX6, "evenings", "(I)I"⟩
abbrev cX6_drawn : ByteArray := prog_1_method_34_code
def yX6_drawn : MethodName := ⟨RX6, "drawn", "(I)I"⟩
abbrev cX6_seed : ByteArray := prog_1_method_35_code
def yX6_seed : MethodName := ⟨RX6, "seed", "(I)I"⟩
abbrev cX6_act : ByteArray := prog_1_method_36_code
def yX6_act : MethodName := ⟨RX6, "act", "(III)I"⟩
abbrev cX6_trace : ByteArray := prog_1_method_37_code
def yX6_trace : MethodName := ⟨RX6, "trace", "(I)I"⟩
abbrev cX6_image : ByteArray := prog_1_method_38_code
def yX6_image : MethodName := ⟨RX6, "image", "()I"⟩
abbrev cX6_restore : ByteArray := prog_1_method_39_code
def yX6_restore : MethodName := ⟨RX6, "restore", "()I"⟩
abbrev cX6_status : ByteArray := prog_1_method_40_code
def yX6_status : MethodName := ⟨RX6, "status", "(I)I"⟩
abbrev cX6_refuse : ByteArray := prog_1_method_41_code
def yX6_refuse : MethodName := ⟨RX6, "refuse", "(I)I"⟩
abbrev cX6_isShelf : ByteArray := prog_1_method_42_code
def yX6_isShelf : MethodName := ⟨RX6, "isShelf", "(I)Z"⟩
abbrev cX6_shelfAt : ByteArray := prog_1_method_43_code
def yX6_shelfAt : MethodName := ⟨RX6, "shelfAt", "(I)LThirdEvening$Shelf;"⟩
abbrev cX6_whyNoRow : ByteArray := prog_1_method_44_code
def yX6_whyNoRow : MethodName := ⟨RX6, "whyNoRow", "(I)I"⟩
abbrev cX6_whyNoRegister : ByteArray := prog_1_method_45_code
def yX6_whyNoRegister : MethodName := ⟨RX6, "whyNoRegister", "(II)I"⟩
abbrev cX6_heldBy : ByteArray := prog_1_method_46_code
def yX6_heldBy : MethodName := ⟨RX6, "heldBy", "(I)I"⟩
abbrev cX6_isStretch : ByteArray := prog_1_method_47_code
def yX6_isStretch : MethodName := ⟨RX6, "isStretch", "(I)Z"⟩
abbrev cX6_isIn : ByteArray := prog_1_method_48_code
def yX6_isIn : MethodName := ⟨RX6, "isIn", "(II)Z"⟩
abbrev cX6_isKind : ByteArray := prog_1_method_49_code
def yX6_isKind : MethodName := ⟨RX6, "isKind", "(I)Z"⟩
abbrev cX6_kindAbove : ByteArray := prog_1_method_50_code
def yX6_kindAbove : MethodName := ⟨RX6, "kindAbove", "(I)I"⟩
abbrev cX6_isUnder : ByteArray := prog_1_method_51_code
def yX6_isUnder : MethodName := ⟨RX6, "isUnder", "(II)Z"⟩
abbrev cX6_leastOf : ByteArray := prog_1_method_52_code
def yX6_leastOf : MethodName := ⟨RX6, "leastOf", "(I)I"⟩
abbrev cX6_mostOf : ByteArray := prog_1_method_53_code
def yX6_mostOf : MethodName := ⟨RX6, "mostOf", "(I)I"⟩
def RX7 : String := "ThirdEveningModel"
def TX7 : u_T := fun k => match k with
  | 0 => ("ThirdEveningModel", "people", "I", false)
  | 1 => ("ThirdEveningModel", "level", "I", false)
  | 2 => ("ThirdEveningModel", "rain", "I", false)
  | 3 => ("ThirdEveningModel", "chairs", "I", false)
  | 4 => ("ThirdEveningModel", "bar", "I", false)
  | 5 => ("ThirdEveningModel", "evening", "I", false)
  | 6 => ("ThirdEveningModel", "seed", "I", false)
  | 7 => ("ThirdEveningModel", "fault", "I", false)
  | 8 => ("ThirdEveningModel", "refused", "[I", true)
  | 9 => ("ThirdEveningModel", "kind", "[I", true)
  | 10 => ("ThirdEveningModel", "part", "[I", true)
  | 11 => ("ThirdEveningModel", "own", "[I", true)
  | 12 => ("ThirdEveningModel", "paid", "[I", true)
  | 13 => ("ThirdEveningModel", "friend", "[I", true)
  | 14 => ("ThirdEveningModel", "behind", "[I", true)
  | 15 => ("ThirdEveningModel", "missed", "[I", true)
  | 16 => ("ThirdEveningModel", "comings", "[I", true)
  | 17 => ("ThirdEveningModel", "gone", "[I", true)
  | 18 => ("ThirdEveningModel", "held", "[I", true)
  | 19 => ("ThirdEveningModel", "sort", "[I", true)
  | 20 => ("ThirdEveningModel", "size", "[I", true)
  | 21 => ("ThirdEveningModel", "shown", "[I", true)
  | 22 => ("ThirdEveningModel", "cells", "[J", true)
  | 23 => ("ThirdEveningModel", "carried", "[J", true)
  | 24 => ("ThirdEveningModel", "words", "[I", true)
  | 25 => ("ThirdEveningModel", "numbers", "[I", true)
  | 26 => ("ThirdEveningModel", "mosts", "[I", true)
  | 27 => ("ThirdEveningModel", "told", "[I", true)
  | 28 => ("ThirdEveningModel", "base", "I", false)
  | 29 => ("ThirdEveningModel", "place", "I", false)
  | 30 => ("ThirdEveningModel", "end", "I", false)
  | 31 => ("ThirdEveningModel", "number", "I", false)
  | 32 => ("ThirdEveningModel", "wrongAt", "I", false)
  | 33 => ("ThirdEveningModel", "was", "[I", true)
  | 34 => ("ThirdEveningModel", "kept", "[I", true)
  | 35 => ("ThirdEveningModel", "later", "[I", true)
  | 36 => ("ThirdEveningModel", "coming", "I", false)
  | 37 => ("ThirdEveningModel", "seated", "I", false)
  | 38 => ("ThirdEveningModel", "many", "I", false)
  | 39 => ("ThirdEveningModel", "sat", "I", false)
  | 40 => ("ThirdEveningModel", "left", "I", false)
  | 41 => ("ThirdEveningModel", "allSat", "I", false)
  | 42 => ("ThirdEveningModel", "allTurned", "I", false)
  | 43 => ("ThirdEveningModel", "worstOf", "I", false)
  | 44 => ("ThirdEveningModel", "shutOf", "I", false)
  | 45 => ("ThirdEveningModel", "goneSet", "I", false)
  | 46 => ("ThirdEveningModel", "wasSo", "[I", true)
  | 47 => ("ThirdEveningModel", "trace", "[I", true)
  | 48 => ("ThirdEveningModel", "ran", "I", false)
  | _ => ("ThirdEveningModel", "isThere", "Z", false)
def tyX7 : Nat → FieldType := fun k => match k with
  | 0 => .int
  | 1 => .int
  | 2 => .int
  | 3 => .int
  | 4 => .int
  | 5 => .int
  | 6 => .int
  | 7 => .int
  | 8 => .array .int
  | 9 => .array .int
  | 10 => .array .int
  | 11 => .array .int
  | 12 => .array .int
  | 13 => .array .int
  | 14 => .array .int
  | 15 => .array .int
  | 16 => .array .int
  | 17 => .array .int
  | 18 => .array .int
  | 19 => .array .int
  | 20 => .array .int
  | 21 => .array .int
  | 22 => .array .long
  | 23 => .array .long
  | 24 => .array .int
  | 25 => .array .int
  | 26 => .array .int
  | 27 => .array .int
  | 28 => .int
  | 29 => .int
  | 30 => .int
  | 31 => .int
  | 32 => .int
  | 33 => .array .int
  | 34 => .array .int
  | 35 => .array .int
  | 36 => .int
  | 37 => .int
  | 38 => .int
  | 39 => .int
  | 40 => .int
  | 41 => .int
  | 42 => .int
  | 43 => .int
  | 44 => .int
  | 45 => .int
  | 46 => .array .int
  | 47 => .array .int
  | 48 => .int
  | _ => .boolean
abbrev wsX70 : List Cond := u_ws RX7 TX7 50
theorem nmX7 : ∀ a, a < 50 → ∀ b, b < 50 → a ≠ b → (TX7 a).2.1 ≠ (TX7 b).2.1 := by decide +kernel
theorem tyX7_ok : ∀ k, k < 50 → parseFieldDescriptor (TX7 k).2.2.1 = some (tyX7 k) := by decide +kernel
abbrev cX7_init : ByteArray := prog_9_method_1_code
def yX7_init : MethodName := ⟨RX7, "<init>", "()V"⟩
abbrev cX7_no : ByteArray := prog_9_method_2_code
def yX7_no : MethodName := ⟨RX7, "no", "(I)I"⟩
abbrev cX7_noTen : ByteArray := prog_9_method_3_code
def yX7_noTen : MethodName := ⟨RX7, "noTen", "(I)I"⟩
abbrev cX7_isShelf : ByteArray := prog_9_method_4_code
def yX7_isShelf : MethodName := ⟨RX7, "isShelf", "(I)Z"⟩
abbrev cX7_isOne : ByteArray := prog_9_method_5_code
def yX7_isOne : MethodName := ⟨RX7, "isOne", "(I)Z"⟩
abbrev cX7_isFrom : ByteArray := prog_9_method_6_code
def yX7_isFrom : MethodName := ⟨RX7, "isFrom", "(III)Z"⟩
abbrev cX7_row : ByteArray := prog_9_method_7_code
def yX7_row : MethodName := ⟨RX7, "row", "(III)I"⟩
abbrev cX7_set : ByteArray := prog_9_method_8_code
def yX7_set : MethodName := ⟨RX7, "set", "(IIJ)I"⟩
abbrev cX7_copy : ByteArray := prog_9_method_9_code
def yX7_copy : MethodName := ⟨RX7, "copy", "(IIIII)I"⟩
abbrev cX7_element : ByteArray := prog_9_method_10_code
def yX7_element : MethodName := ⟨RX7, "element", "(II)J"⟩
abbrev cX7_show : ByteArray := prog_9_method_11_code
def yX7_show : MethodName := ⟨RX7, "show", "(II)I"⟩
abbrev cX7_holds : ByteArray := prog_9_method_12_code
def yX7_holds : MethodName := ⟨RX7, "holds", "(I)I"⟩
abbrev cX7_isUnder : ByteArray := prog_9_method_13_code
def yX7_isUnder : MethodName := ⟨RX7, "isUnder", "(II)Z"⟩
abbrev cX7_says : ByteArray := prog_9_method_14_code
def yX7_says : MethodName := ⟨RX7, "says", "(II)I"⟩
abbrev cX7_wanted : ByteArray := prog_9_method_15_code
def yX7_wanted : MethodName := ⟨RX7, "wanted", "(I)I"⟩
abbrev cX7_intAt : ByteArray := prog_9_method_16_code
def yX7_intAt : MethodName := ⟨RX7, "intAt", "(II)I"⟩
abbrev cX7_adds : ByteArray := prog_9_method_17_code
def yX7_adds : MethodName := ⟨RX7, "adds", "(IIII)I"⟩
abbrev cX7_person : ByteArray := prog_9_method_18_code
def yX7_person : MethodName := ⟨RX7, "person", "(IIIZ)I"⟩
abbrev cX7_friend : ByteArray := prog_9_method_19_code
def yX7_friend : MethodName := ⟨RX7, "friend", "(II)I"⟩
abbrev cX7_isAsked : ByteArray := prog_9_method_20_code
def yX7_isAsked : MethodName := ⟨RX7, "isAsked", "(II)Z"⟩
abbrev cX7_asks : ByteArray := prog_9_method_21_code
def yX7_asks : MethodName := ⟨RX7, "asks", "(II)V"⟩
abbrev cX7_ask : ByteArray := prog_9_method_22_code
def yX7_ask : MethodName := ⟨RX7, "ask", "(II)I"⟩
abbrev cX7_go : ByteArray := prog_9_method_23_code
def yX7_go : MethodName := ⟨RX7, "go", "(IZ)I"⟩
abbrev cX7_personOf : ByteArray := prog_9_method_24_code
def yX7_personOf : MethodName := ⟨RX7, "personOf", "(II)I"⟩
abbrev cX7_wrong : ByteArray := prog_9_method_25_code
def yX7_wrong : MethodName := ⟨RX7, "wrong", "(I)Z"⟩
abbrev cX7_sign : ByteArray := prog_9_method_26_code
def yX7_sign : MethodName := ⟨RX7, "sign", "(I)I"⟩
abbrev cX7_isPerson : ByteArray := prog_9_method_27_code
def yX7_isPerson : MethodName := ⟨RX7, "isPerson", "()Z"⟩
abbrev cX7_word : ByteArray := prog_9_method_28_code
def yX7_word : MethodName := ⟨RX7, "word", "()I"⟩
abbrev cX7_isDigit : ByteArray := prog_9_method_29_code
def yX7_isDigit : MethodName := ⟨RX7, "isDigit", "()Z"⟩
abbrev cX7_reads : ByteArray := prog_9_method_30_code
def yX7_reads : MethodName := ⟨RX7, "reads", "()Z"⟩
abbrev cX7_isSo : ByteArray := prog_9_method_31_code
def yX7_isSo : MethodName := ⟨RX7, "isSo", "(II)Z"⟩
abbrev cX7_item : ByteArray := prog_9_method_32_code
def yX7_item : MethodName := ⟨RX7, "item", "()Z"⟩
abbrev cX7_carries : ByteArray := prog_9_method_33_code
def yX7_carries : MethodName := ⟨RX7, "carries", "([I[IIZ)I"⟩
abbrev cX7_all : ByteArray := prog_9_method_34_code
def yX7_all : MethodName := ⟨RX7, "all", "([IZ)V"⟩
abbrev cX7_school : ByteArray := prog_9_method_35_code
def yX7_school : MethodName := ⟨RX7, "school", "(I)I"⟩
abbrev cX7_fault : ByteArray := prog_9_method_36_code
def yX7_fault : MethodName := ⟨RX7, "fault", "()I"⟩
abbrev cX7_wills : ByteArray := prog_9_method_37_code
def yX7_wills : MethodName := ⟨RX7, "wills", "(I)I"⟩
abbrev cX7_stillComes : ByteArray := prog_9_method_38_code
def yX7_stillComes : MethodName := ⟨RX7, "stillComes", "(II)Z"⟩
abbrev cX7_comes : ByteArray := prog_9_method_39_code
def yX7_comes : MethodName := ⟨RX7, "comes", "(I)V"⟩
abbrev cX7_passes : ByteArray := prog_9_method_40_code
def yX7_passes : MethodName := ⟨RX7, "passes", "()V"⟩
abbrev cX7_will : ByteArray := prog_9_method_41_code
def yX7_will : MethodName := ⟨RX7, "will", "(I)I"⟩
abbrev cX7_tonight : ByteArray := prog_9_method_42_code
def yX7_tonight : MethodName := ⟨RX7, "tonight", "(I)I"⟩
abbrev cX7_here : ByteArray := prog_9_method_43_code
def yX7_here : MethodName := ⟨RX7, "here", "()I"⟩
abbrev cX7_runs : ByteArray := prog_9_method_44_code
def yX7_runs : MethodName := ⟨RX7, "runs", "(I)V"⟩
abbrev cX7_isMany : ByteArray := prog_9_method_45_code
def yX7_isMany : MethodName := ⟨RX7, "isMany", "(I)Z"⟩
abbrev cX7_ahead : ByteArray := prog_9_method_46_code
def yX7_ahead : MethodName := ⟨RX7, "ahead", "(II)I"⟩
abbrev cX7_worst : ByteArray := prog_9_method_47_code
def yX7_worst : MethodName := ⟨RX7, "worst", "(II)I"⟩
abbrev cX7_ones : ByteArray := prog_9_method_48_code
def yX7_ones : MethodName := ⟨RX7, "ones", "(III)I"⟩
abbrev cX7_lost : ByteArray := prog_9_method_49_code
def yX7_lost : MethodName := ⟨RX7, "lost", "(I)I"⟩
abbrev cX7_bits : ByteArray := prog_9_method_50_code
def yX7_bits : MethodName := ⟨RX7, "bits", "(I)I"⟩
abbrev cX7_ring : ByteArray := prog_9_method_51_code
def yX7_ring : MethodName := ⟨RX7, "ring", "(II)I"⟩
abbrev cX7_begin : ByteArray := prog_9_method_52_code
def yX7_begin : MethodName := ⟨RX7, "begin", "(I)I"⟩
abbrev cX7_room : ByteArray := prog_9_method_53_code
def yX7_room : MethodName := ⟨RX7, "room", "(I)I"⟩
abbrev cX7_take : ByteArray := prog_9_method_54_code
def yX7_take : MethodName := ⟨RX7, "take", "(I)I"⟩
abbrev cX7_satIfPaid : ByteArray := prog_9_method_55_code
def yX7_satIfPaid : MethodName := ⟨RX7, "satIfPaid", "(II)I"⟩
abbrev cX7_price : ByteArray := prog_9_method_56_code
def yX7_price : MethodName := ⟨RX7, "price", "(I)I"⟩
abbrev cX7_holdsBack : ByteArray := prog_9_method_57_code
def yX7_holdsBack : MethodName := ⟨RX7, "holdsBack", "(I)I"⟩
abbrev cX7_keeps : ByteArray := prog_9_method_58_code
def yX7_keeps : MethodName := ⟨RX7, "keeps", "(I)I"⟩
abbrev cX7_keep : ByteArray := prog_9_method_59_code
def yX7_keep : MethodName := ⟨RX7, "keep", "()I"⟩
abbrev cX7_pairs : ByteArray := prog_9_method_60_code
def yX7_pairs : MethodName := ⟨RX7, "pairs", "()I"⟩
abbrev cX7_chain : ByteArray := prog_9_method_61_code
def yX7_chain : MethodName := ⟨RX7, "chain", "(I)I"⟩
abbrev cX7_wrongIn : ByteArray := prog_9_method_62_code
def yX7_wrongIn : MethodName := ⟨RX7, "wrongIn", "(II)I"⟩
abbrev cX7_barsOf : ByteArray := prog_9_method_63_code
def yX7_barsOf : MethodName := ⟨RX7, "barsOf", "(II)I"⟩
abbrev cX7_friends : ByteArray := prog_9_method_64_code
def yX7_friends : MethodName := ⟨RX7, "friends", "(III)I"⟩
abbrev cX7_judge : ByteArray := prog_9_method_65_code
def yX7_judge : MethodName := ⟨RX7, "judge", "(II)I"⟩
abbrev cX7_evenings : ByteArray := prog_9_method_66_code
def yX7_evenings : MethodName := ⟨RX7, "evenings", "(I)I"⟩
abbrev cX7_draw : ByteArray := prog_9_method_67_code
def yX7_draw : MethodName := ⟨RX7, "draw", "(I)I"⟩
abbrev cX7_drawn : ByteArray := prog_9_method_68_code
def yX7_drawn : MethodName := ⟨RX7, "drawn", "(I)I"⟩
abbrev cX7_seed : ByteArray := prog_9_method_69_code
def yX7_seed : MethodName := ⟨RX7, "seed", "(I)I"⟩
abbrev cX7_body : ByteArray := prog_9_method_70_code
def yX7_body : MethodName := ⟨RX7, "body", "(I)V"⟩
abbrev cX7_coming : ByteArray := prog_9_method_71_code
def yX7_coming : MethodName := ⟨RX7, "coming", "(II)I"⟩
abbrev cX7_sitting : ByteArray := prog_9_method_72_code
def yX7_sitting : MethodName := ⟨RX7, "sitting", "(II)I"⟩
abbrev cX7_asking : ByteArray := prog_9_method_73_code
def yX7_asking : MethodName := ⟨RX7, "asking", "(II)I"⟩
abbrev cX7_act : ByteArray := prog_9_method_74_code
def yX7_act : MethodName := ⟨RX7, "act", "(III)I"⟩
abbrev cX7_trace : ByteArray := prog_9_method_75_code
def yX7_trace : MethodName := ⟨RX7, "trace", "(I)I"⟩
abbrev cX7_image : ByteArray := prog_9_method_76_code
def yX7_image : MethodName := ⟨RX7, "image", "()I"⟩
abbrev cX7_restore : ByteArray := prog_9_method_77_code
def yX7_restore : MethodName := ⟨RX7, "restore", "()I"⟩
abbrev cX7_together : ByteArray := prog_9_method_78_code
def yX7_together : MethodName := ⟨RX7, "together", "([I)I"⟩
abbrev cX7_status : ByteArray := prog_9_method_79_code
def yX7_status : MethodName := ⟨RX7, "status", "(I)I"⟩
def RJx145de : String := "java/io/Serializable"
def RJx9f9b0 : String := "java/lang/CharSequence"
def RJxb160c : String := "java/lang/Comparable"
def RJ6 : String := "java/lang/Integer"
abbrev cJ6_bitCount_0f7a4 : ByteArray := prog_10_method_49_code
def yJ6_bitCount_0f7a4 : MethodName := ⟨RJ6, "bitCount", "(I)I"⟩
def RJ9 : String := "java/lang/Math"
abbrev cJ9_abs_0f7a4 : ByteArray := prog_11_method_59_code
def yJ9_abs_0f7a4 : MethodName := ⟨RJ9, "abs", "(I)I"⟩
abbrev cJ9_max_7cf53 : ByteArray := prog_11_method_65_code
def yJ9_max_7cf53 : MethodName := ⟨RJ9, "max", "(II)I"⟩
abbrev cJ9_min_7cf53 : ByteArray := prog_11_method_69_code
def yJ9_min_7cf53 : MethodName := ⟨RJ9, "min", "(II)I"⟩
def RJ0 : String := "java/lang/String"
def RJ1 : String := "java/lang/StringLatin1"
def RJ2 : String := "java/lang/StringUTF16"
def RJ10 : String := "java/lang/System"
def RJxfd54e : String := "java/lang/constant/Constable"
def RJx3cf43 : String := "java/lang/constant/ConstantDesc"
def RJ7 : String := "java/util/Arrays"
abbrev cJ7_fill_d0a16 : ByteArray := prog_16_method_101_code
def yJ7_fill_d0a16 : MethodName := ⟨RJ7, "fill", "([JJ)V"⟩
def RJ3 : String := "jdk/internal/util/Preconditions"
end
section
/-! THE BASE: one memory of abstract objects for the class and the reference, and a judgement G over the machine -/
def TB : List Cond := lw_tbl.filter goodWord
theorem TB_of (i : Nat) {w : Cond} (h1 : lw_tbl[i]? = some w) (h2 : goodWord w = true) : w ∈ TB := List.mem_filter.mpr ⟨List.mem_of_getElem? h1, h2⟩
theorem TB_good {w : Cond} (h : w ∈ TB) : (w.onTables && w.keeps) = true ∨ ∃ ty, w = .arrayClass ty := good_of_word (List.mem_filter.mp h).2
theorem TB_hts {args : Array Value} {s : State} (h : ∀ w ∈ lw_tbl, w.before args s = true) : ∀ w ∈ TB, w.before args s = true := fun w hw => h w (List.mem_filter.mp hw).1
/-- the words on private members of nest mates -/
def NBf : List (String × Nat × String × String × String × String) := [(RX3, 102, "ThirdEvening", "KIND_ABOVE", "[I", "ThirdEvening"), (RX0, 39, "ThirdEvening", "KIND_ABOVE", "[I", "ThirdEvening")]
def NBm : List (String × Nat × MethodName × String) := [(RX4, 17, yX2_init, RX6), (RX6, 24, yX1_init, RX6), (RX6, 35, yX5_init, RX6), (RX6, 42, yX3_init, RX6), (RX6, 49, yX0_init, RX6), (RX3, 131, yX6_leastOf, RX6), (RX3, 134, yX6_mostOf, RX6), (RX4, 79, yX6_isIn, RX6), (RX4, 103, yX6_isUnder, RX6), (RX0, 46, yX6_kindAbove, RX6)]
def NBW (U : State) : Prop := ((∀ q ∈ NBf, va_Nw (.fieldLinkNest q.1 q.2.1 q.2.2.1 q.2.2.2.1 q.2.2.2.2.1 q.2.2.2.2.2) U) ∧ ∀ q ∈ NBm, va_Nw (.methodLinkNest q.1 q.2.1 q.2.2.1 q.2.2.2) U) ∧ va_AO RX2 U ∧ va_AO RX5 U
theorem NBW.warm {s U : State} (hW : s.WarmedH U.vm) (h : NBW s) : NBW U := ⟨⟨fun q hq => va_Nw.warmF hW (h.1.1 q hq), fun q hq => va_Nw.warmM hW (h.1.2 q hq)⟩, va_AO.moved hW.alike h.2.1, va_AO.moved hW.alike h.2.2⟩
theorem NBW.same {u U : State} (hv : u.vm = U.vm) (h : NBW u) : NBW U := ⟨⟨fun q hq => va_Nw.same rfl hv (h.1.1 q hq), fun q hq => va_Nw.same rfl hv (h.1.2 q hq)⟩, va_AO.moved (by rw [hv]; exact Vm.Alike.refl _) h.2.1, va_AO.moved (by rw [hv]; exact Vm.Alike.refl _) h.2.2⟩
/-! objects: by a sort of thing and two numbers -/
abbrev Id : Type := Nat × Nat × Nat
def sb (k : Nat) : Nat := if k = 3 then 45 else 1 + 13 * k
def off : Id → Nat
  | (0, _, _) => 0
  | (1, k, _) => sb k
  | (2, k, i) => if i = 10 then sb k + 2 else sb k + 3 + i
  | (3, k, _) => sb k + 1
  | (4, _, _) => 40
  | (5, s, _) => if s = 8 then 42 else 62 + 2 * s
  | (6, s, _) => if s = 8 then 43 else 63 + 2 * s
  | (7, _, _) => 41
  | (8, _, _) => 44
  | (9, _, _) => 58
  | (10, _, _) => 59
  | (11, _, _) => 60
  | (12, _, _) => 61
  | (20, _, _) => 78
  | (21, j, _) => 79 + j
  | _ => 0
def scIds (k : Nat) : List Id := (1, k, 0) :: (3, k, 0) :: (2, k, 10) :: (List.range 10).map fun i => (2, k, i)
def idTable : List Id := (0, 0, 0) :: (scIds 0 ++ scIds 1 ++ scIds 2 ++ [(4, 0, 0), (7, 0, 0), (5, 8, 0), (6, 8, 0), (8, 0, 0)] ++ scIds 3 ++ [(9, 0, 0), (10, 0, 0), (11, 0, 0), (12, 0, 0)] ++ (List.range 8).flatMap (fun s => [(5, s, 0), (6, s, 0)]) ++ [(20, 0, 0)] ++ (List.range 25).map (fun j => (21, j, 0)))
def vld (a : Id) : Bool := idTable[off a]? == some a
theorem idTable_length : idTable.length = 104 := by decide +kernel
theorem vld_inj {a b : Id} (ha : vld a = true) (hb : vld b = true) (h : off a = off b) : a = b := by
  simp only [vld, beq_iff_eq] at ha hb
  rw [h, hb] at ha
  exact (Option.some.inj ha).symm
theorem vld_sc {k : Nat} (hk : k < 4) : vld (1, k, 0) = true := by
  have : ∀ k, k < 4 → vld (1, k, 0) = true := by decide +kernel
  exact this k hk
theorem vld_pe {k i : Nat} (hk : k < 4) (hi : i < 11) : vld (2, k, i) = true := by
  have : ∀ k, k < 4 → ∀ i, i < 11 → vld (2, k, i) = true := by decide +kernel
  exact this k hk i hi
theorem vld_pp {k : Nat} (hk : k < 4) : vld (3, k, 0) = true := by
  have : ∀ k, k < 4 → vld (3, k, 0) = true := by decide +kernel
  exact this k hk
theorem vld_sh {k : Nat} (hk : k < 9) : vld (5, k, 0) = true := by
  have : ∀ k, k < 9 → vld (5, k, 0) = true := by decide +kernel
  exact this k hk
theorem vld_el {k : Nat} (hk : k < 9) : vld (6, k, 0) = true := by
  have : ∀ k, k < 9 → vld (6, k, 0) = true := by decide +kernel
  exact this k hk
/-- (0, c) an object of the c-th class, (1, n) ints, (2, n) longs, (3, n) Persons, (4, n) Shelves -/
def shp : Id → Nat × Nat
  | (0, _, _) => (0, 6)
  | (1, _, _) => (0, 4)
  | (2, _, _) => (0, 2)
  | (3, _, _) => (3, 10)
  | (4, _, _) => (0, 1)
  | (5, _, _) => (0, 5)
  | (6, _, _) => (2, 160)
  | (7, _, _) => (4, 8)
  | (8, _, _) => (0, 3)
  | (9, _, _) => (1, 160)
  | (10, _, _) => (0, 0)
  | (11, _, _) => (1, 20)
  | (12, _, _) => (1, 8)
  | (20, _, _) => (0, 7)
  | (21, 14, _) => (2, 1280)
  | (21, 15, _) => (2, 160)
  | (21, j, _) => (1, [8, 10, 10, 10, 10, 10, 10, 10, 10, 10, 8, 8, 8, 8, 0, 0, 48, 7, 4, 4, 100, 100, 100, 10, 20].getD j 0)
  | _ => (9, 0)
abbrev classes : List vw_C := [(RX0, TX0, 5), (RX1, TX1, 4), (RX2, TX2, 10), (RX3, TX3, 6), (RX4, TX4, 9), (RX5, TX5, 4), (RX6, TX6, 11), (RX7, TX7, 50)]
def tyOf (c : Nat) : Nat → FieldType := match c with
  | 0 => tyX0
  | 1 => tyX1
  | 2 => tyX2
  | 3 => tyX3
  | 4 => tyX4
  | 5 => tyX5
  | 6 => tyX6
  | _ => tyX7
/-- the memory: ints, longs, references (static once made), how many cells are made -/
abbrev Mem : Type := (Id → Nat → Int32) × (Id → Nat → Int64) × (Id → Nat → Option Id) × Nat
abbrev mI (M : Mem) : Id → Nat → Int32 := M.1
abbrev mJ (M : Mem) : Id → Nat → Int64 := M.2.1
abbrev mR (M : Mem) : Id → Nat → Option Id := M.2.2.1
abbrev mN (M : Mem) : Nat := M.2.2.2
/-- base, classes, array classes, places of what is only read, the script -/
abbrev Ev : Type := Nat × va_G × (Nat → ClassId) × (Nat → Nat) × Nat × (Nat → Int32)
abbrev eB (E : Ev) : Nat := E.1
abbrev eD (E : Ev) : va_G := E.2.1
abbrev eA (E : Ev) : Nat → ClassId := E.2.2.1
abbrev eR (E : Ev) : Nat → Nat := E.2.2.2.1
abbrev eL (E : Ev) : Nat := E.2.2.2.2.1
abbrev eX (E : Ev) : Nat → Int32 := E.2.2.2.2.2
def eZ (E : Ev) : Nat → Prop := fun q => eB E ≤ q
def ad (E : Ev) (a : Id) : Nat := eB E + off a
/-- values: int, long, object, something only read, null -/
abbrev AV : Type := Int32 ⊕ Int64 ⊕ Id ⊕ Nat ⊕ Unit
abbrev vI (x : Int32) : AV := .inl x
abbrev vL (x : Int64) : AV := .inr (.inl x)
abbrev vR (a : Id) : AV := .inr (.inr (.inl a))
abbrev vS (t : Nat) : AV := .inr (.inr (.inr (.inl t)))
abbrev vN : AV := .inr (.inr (.inr (.inr ())))
def cv (E : Ev) : AV → Value
  | .inl x => .int x
  | .inr (.inl x) => .long x
  | .inr (.inr (.inl a)) => .ref (ad E a)
  | .inr (.inr (.inr (.inl t))) => .ref (eR E t)
  | .inr (.inr (.inr (.inr _))) => .null
def orf (E : Ev) (r : Option Id) : Value := match r with
  | none => .null
  | some a => .ref (ad E a)
def fval (E : Ev) (M : Mem) (c : Nat) (a : Id) (k : Nat) : Value := match tyOf c k with
  | .int => .int (mI M a k)
  | .boolean => .int (mI M a k)
  | _ => orf E (mR M a k)
def nfl (c : Nat) : Nat := [5, 4, 10, 6, 9, 4, 11, 50].getD c 0
def cellAt (E : Ev) (M : Mem) (H : Heap) (a : Id) : Prop := match shp a with
  | (0, c) => t_OB (ad E a) ((eD E).1 c) (nfl c) ((eD E).2 c) H (fval E M c a)
  | (1, n) => H[ad E a]? = some (arrV (eA E 0) n fun j => .int (mI M a j))
  | (2, n) => H[ad E a]? = some (arrV (eA E 1) n fun j => .long (mJ M a j))
  | (3, n) => H[ad E a]? = some (arrV (eA E 2) n fun j => orf E (mR M a j))
  | (4, n) => H[ad E a]? = some (arrV (eA E 3) n fun j => orf E (mR M a j))
  | _ => True
/-- the static arrays -/
def roF (t : Nat) : String := ["KIND_ABOVE", "LEAST_SETTING", "MOST_SETTING", "BODIES"].getD t ""
def roC (t : Nat) : String := [RX6, RX6, RX6, RX0].getD t ""
def roV (t : Nat) : List Int32 := [[-1, 0, 0, 1, 2, 0, 3], [0, 0, 1, 0], [20, 9, 12, 10], [10, 11, 12, 20, -1, -1, -1, 30, -1, 40, -1, -1, -1, -1, 60, 51, -1, 50, 70, 71, -1]].getD t []
/-- the words of the Reader: seven String constants; eR E 10 on: the Strings, eR E 20 on: their bytes -/
def jsX (i : Nat) : Nat := [88, 90, 92, 94, 96, 98, 100].getD i 0
def jsT (i : Nat) : String := ["person", "friend", "gone", "level", "rain", "chairs", "bar"].getD i ""
def jsB (i : Nat) : List Int32 := [[112, 101, 114, 115, 111, 110], [102, 114, 105, 101, 110, 100], [103, 111, 110, 101], [108, 101, 118, 101, 108], [114, 97, 105, 110], [99, 104, 97, 105, 114, 115], [98, 97, 114]].getD i []
/-- a static of which only 'a reference or null' is told -/
def vF (E : Ev) : Value := if eR E 31 = 0 then .ref (eR E 30) else .null
def Wsr (E : Ev) (U : State) (H : Heap) : Prop :=
  (∀ i, i < 7 → va_O "java/lang/String" (eR E (10 + i)) (eZ E) U H ∧ va_OF "java/lang/String" "coder" "B" (.int 0) (eR E (10 + i)) (eZ E) U H ∧ va_OF "java/lang/String" "value" "[B" (.ref (eR E (20 + i))) (eR E (10 + i)) (eZ E) U H ∧ va_T .byte (eR E (20 + i)) (jsB i).length (fun j => .int ((jsB i).getD j 0)) (eZ E) U H) ∧
  (∀ i, i < 7 → vk_R RX3 (jsX i) (jsT i) (eR E (10 + i)) U) ∧
  va_Z "java/lang/String" "COMPACT_STRINGS" "Z" (.int 1) (eZ E) U H ∧
  va_Z "jdk/internal/util/Preconditions" "SIOOBE_FORMATTER" "Ljava/util/function/BiFunction;" (vF E) (eZ E) U H
theorem Wsr.mv {E : Ev} {u U : State} {H : Heap} (hvm : u.vm.Alike U.vm) (hR : ∀ i, i < 7 → vk_R RX3 (jsX i) (jsT i) (eR E (10 + i)) U) (h : Wsr E u H) : Wsr E U H :=
  ⟨fun i hi => ⟨va_O.moved hvm (h.1 i hi).1, va_OF.moved hvm (h.1 i hi).2.1, va_OF.moved hvm (h.1 i hi).2.2.1, va_T.moved hvm (h.1 i hi).2.2.2⟩, hR, va_Z.moved hvm h.2.2.1, va_Z.moved hvm h.2.2.2⟩
theorem Wsr.kept {E : Ev} {U : State} {H H1 : Heap} (h : Wsr E U H) (hq : ∀ a : Nat, a < H.size → ¬ eZ E a → H1[a]? = H[a]?) : Wsr E U H1 :=
  ⟨fun i hi => ⟨(h.1 i hi).1.kept hq, (h.1 i hi).2.1.kept hq, (h.1 i hi).2.2.1.kept hq, (h.1 i hi).2.2.2.kept hq⟩, h.2.1, va_Z.kept h.2.2.1 hq, va_Z.kept h.2.2.2 hq⟩
def Wst (E : Ev) (U : State) (H : Heap) : Prop :=
  (∀ (c : Nat) (q : vw_C), classes[c]? = some q → u_Kn U q.1 q.2.1 q.2.2 ((eD E).1 c) ((eD E).2 c)) ∧
  ((ArrOfT U (eA E 0) .int ∧ va_RA U (eA E 0) .int) ∧ (ArrOfT U (eA E 1) .long ∧ va_RA U (eA E 1) .long) ∧ (ArrOfT U (eA E 2) (.object RX2) ∧ va_RA U (eA E 2) (.object RX2)) ∧ (ArrOfT U (eA E 3) (.object RX5) ∧ va_RA U (eA E 3) (.object RX5))) ∧
  NBW U ∧
  (∀ t, t < 4 → va_Z (roC t) (roF t) "[I" (.ref (eR E t)) (eZ E) U H ∧ va_T .int (eR E t) (roV t).length (fun j => .int ((roV t).getD j 0)) (eZ E) U H) ∧
  (va_X (eR E 4) (eL E) (eX E) U H ∧ eR E 4 < H.size ∧ ¬ eZ E (eR E 4) ∧ Wsr E U H)
def Wdy (E : Ev) (M : Mem) (H : Heap) : Prop := H.size = eB E + mN M ∧ ∀ a : Id, vld a = true → off a < mN M → cellAt E M H a
theorem Wst.moved {E : Ev} {u U : State} {H : Heap} (hW : u.WarmedH U.vm) (h : Wst E u H) : Wst E U H := by
  have hvm := hW.alike
  obtain ⟨h1, ⟨⟨a1, b1⟩, ⟨a2, b2⟩, ⟨a3, b3⟩, ⟨a4, b4⟩⟩, h3, h4, h5, h6, h7, h8⟩ := h
  exact ⟨fun c q hq => u_Kn_moved hvm (h1 c q hq), ⟨⟨arrOfT_moved hvm a1, b1.moved hvm⟩, ⟨arrOfT_moved hvm a2, b2.moved hvm⟩, ⟨arrOfT_moved hvm a3, b3.moved hvm⟩, ⟨arrOfT_moved hvm a4, b4.moved hvm⟩⟩, h3.warm hW, fun t ht => ⟨va_Z.moved hvm (h4 t ht).1, va_T.moved hvm (h4 t ht).2⟩, h5.moved hvm, h6, h7, h8.mv hvm (fun i hi => vk_R.warm hW (h8.2.1 i hi))⟩
theorem Wst.same {E : Ev} {u U : State} {H : Heap} (hv : u.vm = U.vm) (h : Wst E u H) : Wst E U H := by
  have hvm : u.vm.Alike U.vm := by rw [hv]; exact Vm.Alike.refl _
  obtain ⟨h1, ⟨⟨a1, b1⟩, ⟨a2, b2⟩, ⟨a3, b3⟩, ⟨a4, b4⟩⟩, h3, h4, h5, h6, h7, h8⟩ := h
  exact ⟨fun c q hq => u_Kn_moved hvm (h1 c q hq), ⟨⟨arrOfT_moved hvm a1, b1.moved hvm⟩, ⟨arrOfT_moved hvm a2, b2.moved hvm⟩, ⟨arrOfT_moved hvm a3, b3.moved hvm⟩, ⟨arrOfT_moved hvm a4, b4.moved hvm⟩⟩, h3.same hv, fun t ht => ⟨va_Z.moved hvm (h4 t ht).1, va_T.moved hvm (h4 t ht).2⟩, h5.moved hvm, h6, h7, h8.mv hvm (fun i hi => vk_R.same hv.symm (h8.2.1 i hi))⟩
theorem Wst.kept {E : Ev} {U : State} {H H1 : Heap} (h : Wst E U H) (hz : H.size ≤ H1.size) (hq : ∀ a : Nat, a < H.size → ¬ eZ E a → H1[a]? = H[a]?) : Wst E U H1 := by
  obtain ⟨h1, h2, h3, h4, h5, h6, h7, h8⟩ := h
  exact ⟨h1, h2, h3, fun t ht => ⟨va_Z.kept (h4 t ht).1 hq, va_T.kept (h4 t ht).2 hq⟩, h5.kept (hq _ h6 h7), by omega, h7, h8.kept hq⟩
theorem cellAt_congr {E : Ev} {M M' : Mem} {H H' : Heap} {a : Id} (h : cellAt E M H a) (hH : H'[ad E a]? = H[ad E a]?) (h1 : mI M' a = mI M a) (h2 : mJ M' a = mJ M a) (h3 : mR M' a = mR M a) : cellAt E M' H' a := by
  unfold cellAt at h ⊢
  have hf : ∀ c, fval E M' c a = fval E M c a := fun c => by funext k; simp only [fval]; rw [h1, h3]
  generalize shp a = z at h ⊢
  obtain ⟨j, x⟩ := z
  match j, h with
  | 0, h =>
    show t_OB _ _ _ _ _ (fval E M' x a)
    rw [hf]
    exact t_OB.kept h hH
  | 1, h =>
    show H'[_]? = some (arrV _ _ fun j => .int (mI M' a j))
    rw [hH, h1]; exact h
  | 2, h =>
    show H'[_]? = some (arrV _ _ fun j => .long (mJ M' a j))
    rw [hH, h2]; exact h
  | 3, h =>
    show H'[_]? = some (arrV _ _ fun j => orf E (mR M' a j))
    rw [hH, h3]; exact h
  | 4, h =>
    show H'[_]? = some (arrV _ _ fun j => orf E (mR M' a j))
    rw [hH, h3]; exact h
  | n + 5, h => trivial
theorem Wdy.set {E : Ev} {M M' : Mem} {H H' : Heap} {a : Id} (h : Wdy E M H) (ha : vld a = true) (hn : mN M' = mN M) (hz : H'.size = H.size) (ho : ∀ q : Nat, q ≠ ad E a → H'[q]? = H[q]?) (hc : cellAt E M' H' a)
    (hk : ∀ b : Id, b ≠ a → mI M' b = mI M b ∧ mJ M' b = mJ M b ∧ mR M' b = mR M b) : Wdy E M' H' := by
  refine ⟨by rw [hz, hn]; exact h.1, fun b hb hbn => ?_⟩
  by_cases hba : b = a
  · rw [hba]; exact hc
  · obtain ⟨k1, k2, k3⟩ := hk b hba
    refine cellAt_congr (h.2 b hb (by rw [← hn]; exact hbn)) (ho _ fun e => hba (vld_inj hb ha ?_)) k1 k2 k3
    unfold ad at e; omega
/-- writes -/
def sI (M : Mem) (a : Id) (k : Nat) (x : Int32) : Mem := (fun b j => if b = a ∧ j = k then x else M.1 b j, M.2)
def sJ (M : Mem) (a : Id) (k : Nat) (x : Int64) : Mem := (M.1, fun b j => if b = a ∧ j = k then x else M.2.1 b j, M.2.2)
def sR (M : Mem) (a : Id) (k : Nat) (x : Option Id) : Mem := (M.1, M.2.1, fun b j => if b = a ∧ j = k then x else M.2.2.1 b j, M.2.2.2)
/-! methods: name, bytes, locals, what comes back -/
abbrev MK : Type := MethodName × ByteArray × Nat × Option FieldType
def ws_ (k : MK) : List Cond := Cond.code k.1 k.2.1 k.2.2.1 k.2.2.2 :: TB
abbrev rm (n mc ms : Nat) : Room := { frames := n, cells := mc, slots := ms, locals := 44 * n }
def Cx (p : Program) (s : State) (m : MethodId) (args : Array Value) (meth : Method) (c : Code) (k : MK) : Prop := p.tables.exec = Jvm.exec ∧ c.code = k.2.1 ∧ c.maxLocals = k.2.2.1 ∧ meth.sig.returnType = k.2.2.2 ∧ meth.locks = false ∧ s.vm.findClass k.1.cls = some m.cls ∧ (∀ w ∈ TB, w.before args s = true) ∧ meth.name = k.1.name
/-- locals by their places -/
def lg : List (Option AV) → Nat → Option AV
  | [], _ => none
  | v :: _, 0 => v
  | _ :: r, n + 1 => lg r n
def lst : List (Option AV) → Nat → Option AV → List (Option AV)
  | [], _, _ => []
  | _ :: r, 0, v => v :: r
  | a :: r, n + 1, v => a :: lst r n v
def nl : Option AV → Bool
  | some (.inr (.inl _)) => false
  | _ => true
def en (E : Ev) : Nat → List (Option AV) → List (Nat × Value)
  | _, [] => []
  | j, none :: r => en E (j + 1) r
  | j, some v :: r => (j, cv E v) :: en E (j + 1) r
def hasL (E : Ev) (ls : Array Slot) (nL : Nat) (lv : List (Option AV)) : Prop := lv.length = nL ∧ lv_has ls nL (en E 0 lv)
theorem mem_en {E : Ev} {i : Nat} {w : Value} : ∀ {lv : List (Option AV)} {j : Nat}, (i, w) ∈ en E j lv ↔ ∃ v, j ≤ i ∧ lg lv (i - j) = some v ∧ cv E v = w := by
  intro lv
  induction lv with
  | nil => intro j; simp [en, lg]
  | cons a r ih =>
    intro j
    have hs : ∀ v, (j ≤ i ∧ lg (a :: r) (i - j) = some v ∧ cv E v = w) ↔ ((i = j ∧ a = some v ∧ cv E v = w) ∨ (j + 1 ≤ i ∧ lg r (i - (j + 1)) = some v ∧ cv E v = w)) := by
      intro v
      constructor
      · rintro ⟨h1, h2, h3⟩
        by_cases hij : i = j
        · subst hij; rw [Nat.sub_self] at h2; exact Or.inl ⟨rfl, h2, h3⟩
        · have e : i - j = (i - (j + 1)) + 1 := by omega
          rw [e] at h2
          exact Or.inr ⟨by omega, h2, h3⟩
      · rintro (⟨rfl, h2, h3⟩ | ⟨h1, h2, h3⟩)
        · exact ⟨Nat.le_refl _, by rw [Nat.sub_self]; exact h2, h3⟩
        · have e : i - j = (i - (j + 1)) + 1 := by omega
          exact ⟨by omega, by rw [e]; exact h2, h3⟩
    simp only [hs]
    cases a with
    | none => simp only [en, ih]; simp
    | some u =>
      simp only [en, List.mem_cons, ih, Prod.mk.injEq]
      constructor
      · rintro (⟨rfl, rfl⟩ | ⟨v, h⟩)
        · exact ⟨u, Or.inl ⟨rfl, rfl, rfl⟩⟩
        · exact ⟨v, Or.inr h⟩
      · rintro ⟨v, ⟨rfl, h, rfl⟩ | h⟩
        · exact Or.inl ⟨rfl, by rw [Option.some.inj h]⟩
        · exact Or.inr ⟨v, h⟩
theorem lg_lst : ∀ (lv : List (Option AV)) (i j : Nat) (v : Option AV), lg (lst lv i v) j = if j = i then (if i < lv.length then v else none) else lg lv j := by
  intro lv
  induction lv with
  | nil => intro i j v; simp [lst, lg]
  | cons a r ih =>
    intro i j v
    cases i with
    | zero => cases j <;> simp [lst, lg]
    | succ i => cases j with
      | zero => simp [lst, lg]
      | succ j => simp [lst, lg, ih]
theorem lst_length : ∀ (lv : List (Option AV)) (i : Nat) (v : Option AV), (lst lv i v).length = lv.length := by
  intro lv
  induction lv with
  | nil => intro i v; rfl
  | cons a r ih => intro i v; cases i <;> simp [lst, ih]
theorem hasL.at {E : Ev} {ls : Array Slot} {nL : Nat} {lv : List (Option AV)} (h : hasL E ls nL lv) {i : Nat} {v : AV} (hv : lg lv i = some v) : ls[i]? = some (.val (cv E v)) :=
  h.2.2.2 (i, cv E v) (mem_en.mpr ⟨v, Nat.zero_le _, hv, rfl⟩)
theorem cv_cat2 {E : Ev} {v : AV} (h : nl (some v) = true) : ¬ (cv E v).category = 2 := by
  rcases v with x | x | x | x | x
  · intro h; cases h
  · cases h
  · intro h; cases h
  · intro h; cases h
  · intro h; cases h
theorem hasL.st1 {E : Ev} {ls ls' : Array Slot} {nL i : Nat} {v : AV} {lv : List (Option AV)} (h : hasL E ls nL lv) (hi : i < lv.length) (hn : ∀ j, j + 1 = i → nl (lg lv j) = true)
    (h' : lv_has ls' nL ((i, cv E v) :: (en E 0 lv).filter (fun q => !(q.1 == i) && !(q.1 + 1 == i && q.2.category == 2)))) : hasL E ls' nL (lst lv i (some v)) := by
  refine ⟨by rw [lst_length]; exact h.1, h'.1, h'.2.1, ?_⟩
  rintro ⟨j, w⟩ hq
  obtain ⟨u, -, hu, rfl⟩ := mem_en.mp hq
  rw [Nat.sub_zero, lg_lst] at hu
  refine h'.2.2 _ ?_
  by_cases hj : j = i
  · rw [if_pos hj, if_pos hi] at hu
    rw [hj, Option.some.inj hu]; exact List.mem_cons_self
  · rw [if_neg hj] at hu
    refine List.mem_cons_of_mem _ (List.mem_filter.mpr ⟨mem_en.mpr ⟨u, Nat.zero_le _, hu, rfl⟩, ?_⟩)
    by_cases hji : j + 1 = i
    · have := hn j hji
      rw [hu] at this
      have hc := cv_cat2 (E := E) this
      simp [hj, hji, hc]
    · simp [hj, hji]
theorem hasL.st2 {E : Ev} {ls ls' : Array Slot} {nL i : Nat} {v : AV} {lv : List (Option AV)} (h : hasL E ls nL lv) (hi : i < lv.length) (hn : ∀ j, j + 1 = i → nl (lg lv j) = true)
    (h' : lv_has ls' nL ((i, cv E v) :: (en E 0 lv).filter (fun q => !(q.1 == i) && (!(q.1 == i + 1) && !(q.1 + 1 == i && q.2.category == 2))))) : hasL E ls' nL (lst (lst lv i (some v)) (i + 1) none) := by
  refine ⟨by rw [lst_length, lst_length]; exact h.1, h'.1, h'.2.1, ?_⟩
  rintro ⟨j, w⟩ hq
  obtain ⟨u, -, hu, rfl⟩ := mem_en.mp hq
  rw [Nat.sub_zero, lg_lst] at hu
  refine h'.2.2 _ ?_
  by_cases hj1 : j = i + 1
  · rw [if_pos hj1] at hu
    split at hu <;> cases hu
  rw [if_neg hj1, lg_lst] at hu
  by_cases hj : j = i
  · rw [if_pos hj, if_pos hi] at hu
    rw [hj, Option.some.inj hu]; exact List.mem_cons_self
  · rw [if_neg hj] at hu
    refine List.mem_cons_of_mem _ (List.mem_filter.mpr ⟨mem_en.mpr ⟨u, Nat.zero_le _, hu, rfl⟩, ?_⟩)
    by_cases hji : j + 1 = i
    · have := hn j hji
      rw [hu] at this
      have hc := cv_cat2 (E := E) this
      simp [hj, hj1, hji, hc]
    · simp [hj, hj1, hji]
abbrev ZT : Type := List Frame → Array Value → State → State → Prop
def G (E : Ev) (R : Room) (k : MK) (Z : ZT) (ca sl : Nat) (pc : Nat) (lv : List (Option AV)) (st : List AV) (M : Mem) : Prop :=
  ∀ (p : Program) (l : Launch) (e : Env) (s : State) (m : MethodId) (args : Array Value) (below : List Frame) (meth : Method) (c : Code) (H : Heap) (locs : List Loc) (ls : Array Slot),
    Cx p s m args meth c k → Wst E s s.heap → Wdy E M H → va_S (eZ E) s.heap H locs → hasL E ls k.2.2.1 lv →
    W p l e R s m args below meth c H locs ca sl (Z below args s) (F0 m pc ls (st.map (cv E)))
abbrev QT : Type := Option AV → Mem → Prop
def QC (E : Ev) (Q : QT) : Array Value → State → Outcome → State → Prop := fun _ st o t => (∃ (r : Option AV) (M' : Mem), o = .returned (r.map (cv E)) ∧ Q r M' ∧ Wdy E M' t.heap) ∧ va_F (eZ E) st t
def ZQ (E : Ev) (Q : QT) (mc ms : Nat) : ZT := fun below args s => MQ below (QC E Q) args s mc ms (eZ E)
def Mth (E : Ev) (n mc ms : Nat) (k : MK) (as : List AV) (M : Mem) (Q : QT) : Prop := ∀ l : Launch, Met l k.1 (ws_ k) (rm n mc ms) (va_Pc (as.map (cv E)) (fun U => Wst E U U.heap ∧ Wdy E M U.heap)) (QC E Q) mc ms (eZ E)
end
section
/-! THE RULES OF G -/
section RG
variable {E : Ev} {R : Room} {k : MK} {Z : ZT} {ca sl pc : Nat} {lv : List (Option AV)} {st : List AV} {M : Mem}
theorem G.pceq {pc' : Nat} (h : G E R k Z ca sl pc' lv st M) (e : pc = pc') : G E R k Z ca sl pc lv st M := e ▸ h
theorem g_iconst {n : Int} {v : Int32} (hd : decode k.2.1 pc = .ok (.iconst n, 1)) (hv : Int32.ofInt n = v) (h : G E R k Z ca sl (pc + 1) lv (vI v :: st) M) : G E R k Z ca sl pc lv (st) M :=
  fun p l e s m args below meth c H locs ls C hw hy hS hl => lv_iconst C.1 C.2.1 hd hv (h p l e s m args below meth c H locs ls C hw hy hS hl)
theorem g_bipush {n : Int} {v : Int32} (hd : decode k.2.1 pc = .ok (.bipush n, 2)) (hv : (Int8.ofInt n).toInt32 = v) (h : G E R k Z ca sl (pc + 2) lv (vI v :: st) M) : G E R k Z ca sl pc lv (st) M :=
  fun p l e s m args below meth c H locs ls C hw hy hS hl => lv_bipush C.1 C.2.1 hd hv (h p l e s m args below meth c H locs ls C hw hy hS hl)
theorem g_sipush {n : Int} {v : Int32} (hd : decode k.2.1 pc = .ok (.sipush n, 3)) (hv : (Int16.ofInt n).toInt32 = v) (h : G E R k Z ca sl (pc + 3) lv (vI v :: st) M) : G E R k Z ca sl pc lv (st) M :=
  fun p l e s m args below meth c H locs ls C hw hy hS hl => lv_sipush C.1 C.2.1 hd hv (h p l e s m args below meth c H locs ls C hw hy hS hl)
theorem g_lconst {n : Fin 2} {v : Int64} (hd : decode k.2.1 pc = .ok (.lconst n, 1)) (hv : Int64.ofNat (n : Nat) = v) (h : G E R k Z ca sl (pc + 1) lv (vL v :: st) M) : G E R k Z ca sl pc lv (st) M :=
  fun p l e s m args below meth c H locs ls C hw hy hS hl => lv_lconst C.1 C.2.1 hd hv (h p l e s m args below meth c H locs ls C hw hy hS hl)
theorem g_iload_n {f : Fin 4} {i : Nat} {x : Int32} (hd : decode k.2.1 pc = .ok (.iload_n f, 1)) (hi : (f : Nat) = i) (hv : lg lv i = some (vI x)) (h : G E R k Z ca sl (pc + 1) lv (vI x :: st) M) : G E R k Z ca sl pc lv st M :=
  fun p l e s m args below meth c H locs ls C hw hy hS hl => lv_iload_n C.1 C.2.1 hd hi (hl.at hv) (h p l e s m args below meth c H locs ls C hw hy hS hl)
theorem g_iload {i : Nat} {x : Int32} (hd : decode k.2.1 pc = .ok (.iload i, 2)) (hv : lg lv i = some (vI x)) (h : G E R k Z ca sl (pc + 2) lv (vI x :: st) M) : G E R k Z ca sl pc lv st M :=
  fun p l e s m args below meth c H locs ls C hw hy hS hl => lv_iload C.1 C.2.1 hd (hl.at hv) (h p l e s m args below meth c H locs ls C hw hy hS hl)
theorem g_lload_n {f : Fin 4} {i : Nat} {x : Int64} (hd : decode k.2.1 pc = .ok (.lload_n f, 1)) (hi : (f : Nat) = i) (hv : lg lv i = some (vL x)) (h : G E R k Z ca sl (pc + 1) lv (vL x :: st) M) : G E R k Z ca sl pc lv st M :=
  fun p l e s m args below meth c H locs ls C hw hy hS hl => lv_lload_n C.1 C.2.1 hd hi (hl.at hv) (h p l e s m args below meth c H locs ls C hw hy hS hl)
theorem g_lload {i : Nat} {x : Int64} (hd : decode k.2.1 pc = .ok (.lload i, 2)) (hv : lg lv i = some (vL x)) (h : G E R k Z ca sl (pc + 2) lv (vL x :: st) M) : G E R k Z ca sl pc lv st M :=
  fun p l e s m args below meth c H locs ls C hw hy hS hl => lv_lload C.1 C.2.1 hd (hl.at hv) (h p l e s m args below meth c H locs ls C hw hy hS hl)
theorem g_aloadR_n {f : Fin 4} {i : Nat} {x : Id} (hd : decode k.2.1 pc = .ok (.aload_n f, 1)) (hi : (f : Nat) = i) (hv : lg lv i = some (vR x)) (h : G E R k Z ca sl (pc + 1) lv (vR x :: st) M) : G E R k Z ca sl pc lv st M :=
  fun p l e s m args below meth c H locs ls C hw hy hS hl => lv_aload_n C.1 C.2.1 hd hi (hl.at hv) (h p l e s m args below meth c H locs ls C hw hy hS hl)
theorem g_aloadR {i : Nat} {x : Id} (hd : decode k.2.1 pc = .ok (.aload i, 2)) (hv : lg lv i = some (vR x)) (h : G E R k Z ca sl (pc + 2) lv (vR x :: st) M) : G E R k Z ca sl pc lv st M :=
  fun p l e s m args below meth c H locs ls C hw hy hS hl => lv_aload C.1 C.2.1 hd (hl.at hv) (h p l e s m args below meth c H locs ls C hw hy hS hl)
theorem g_aloadS_n {f : Fin 4} {i : Nat} {x : Nat} (hd : decode k.2.1 pc = .ok (.aload_n f, 1)) (hi : (f : Nat) = i) (hv : lg lv i = some (vS x)) (h : G E R k Z ca sl (pc + 1) lv (vS x :: st) M) : G E R k Z ca sl pc lv st M :=
  fun p l e s m args below meth c H locs ls C hw hy hS hl => lv_aload_n C.1 C.2.1 hd hi (hl.at hv) (h p l e s m args below meth c H locs ls C hw hy hS hl)
theorem g_aloadS {i : Nat} {x : Nat} (hd : decode k.2.1 pc = .ok (.aload i, 2)) (hv : lg lv i = some (vS x)) (h : G E R k Z ca sl (pc + 2) lv (vS x :: st) M) : G E R k Z ca sl pc lv st M :=
  fun p l e s m args below meth c H locs ls C hw hy hS hl => lv_aload C.1 C.2.1 hd (hl.at hv) (h p l e s m args below meth c H locs ls C hw hy hS hl)
theorem g_istore_n_g {f : Fin 4} {i : Nat} {x : Int32} (hd : decode k.2.1 pc = .ok (.istore_n f, 1)) (hi0 : (f : Nat) = i) (hi : i < lv.length) (hn : ∀ j, j + 1 = i → nl (lg lv j) = true) (h : G E R k Z ca sl (pc + 1) (lst lv i (some (vI x))) st M) : G E R k Z ca sl pc lv (vI x :: st) M :=
  fun p l e s m args below meth c H locs ls C hw hy hS hl => lv_istore_n C.1 C.2.1 hd hi0 hl.2 (by rw [← hl.1]; exact hi) rfl (fun ls' hl' => h p l e s m args below meth c H locs ls' C hw hy hS (hl.st1 hi hn hl'))
theorem g_istore_g {i : Nat} {x : Int32} (hd : decode k.2.1 pc = .ok (.istore i, 2)) (hi : i < lv.length) (hn : ∀ j, j + 1 = i → nl (lg lv j) = true) (h : G E R k Z ca sl (pc + 2) (lst lv i (some (vI x))) st M) : G E R k Z ca sl pc lv (vI x :: st) M :=
  fun p l e s m args below meth c H locs ls C hw hy hS hl => lv_istore C.1 C.2.1 hd hl.2 (by rw [← hl.1]; exact hi) rfl (fun ls' hl' => h p l e s m args below meth c H locs ls' C hw hy hS (hl.st1 hi hn hl'))
theorem g_astore_n_g {f : Fin 4} {i : Nat} {x : Id} (hd : decode k.2.1 pc = .ok (.astore_n f, 1)) (hi0 : (f : Nat) = i) (hi : i < lv.length) (hn : ∀ j, j + 1 = i → nl (lg lv j) = true) (h : G E R k Z ca sl (pc + 1) (lst lv i (some (vR x))) st M) : G E R k Z ca sl pc lv (vR x :: st) M :=
  fun p l e s m args below meth c H locs ls C hw hy hS hl => lv_astore_n C.1 C.2.1 hd hi0 hl.2 (by rw [← hl.1]; exact hi) rfl (fun ls' hl' => h p l e s m args below meth c H locs ls' C hw hy hS (hl.st1 hi hn hl'))
theorem g_astore_g {i : Nat} {x : Id} (hd : decode k.2.1 pc = .ok (.astore i, 2)) (hi : i < lv.length) (hn : ∀ j, j + 1 = i → nl (lg lv j) = true) (h : G E R k Z ca sl (pc + 2) (lst lv i (some (vR x))) st M) : G E R k Z ca sl pc lv (vR x :: st) M :=
  fun p l e s m args below meth c H locs ls C hw hy hS hl => lv_astore C.1 C.2.1 hd hl.2 (by rw [← hl.1]; exact hi) rfl (fun ls' hl' => h p l e s m args below meth c H locs ls' C hw hy hS (hl.st1 hi hn hl'))
theorem g_lstore_n_g {f : Fin 4} {i : Nat} {x : Int64} (hd : decode k.2.1 pc = .ok (.lstore_n f, 1)) (hi0 : (f : Nat) = i) (hi : i + 1 < lv.length) (hn : ∀ j, j + 1 = i → nl (lg lv j) = true) (h : G E R k Z ca sl (pc + 1) (lst (lst lv i (some (vL x))) (i + 1) none) st M) : G E R k Z ca sl pc lv (vL x :: st) M :=
  fun p l e s m args below meth c H locs ls C hw hy hS hl => lv_lstore_n C.1 C.2.1 hd hi0 hl.2 (by rw [← hl.1]; exact hi) rfl (fun ls' hl' => h p l e s m args below meth c H locs ls' C hw hy hS (hl.st2 (Nat.lt_of_succ_lt hi) hn hl'))
theorem g_lstore_g {i : Nat} {x : Int64} (hd : decode k.2.1 pc = .ok (.lstore i, 2)) (hi : i + 1 < lv.length) (hn : ∀ j, j + 1 = i → nl (lg lv j) = true) (h : G E R k Z ca sl (pc + 2) (lst (lst lv i (some (vL x))) (i + 1) none) st M) : G E R k Z ca sl pc lv (vL x :: st) M :=
  fun p l e s m args below meth c H locs ls C hw hy hS hl => lv_lstore C.1 C.2.1 hd hl.2 (by rw [← hl.1]; exact hi) rfl (fun ls' hl' => h p l e s m args below meth c H locs ls' C hw hy hS (hl.st2 (Nat.lt_of_succ_lt hi) hn hl'))
theorem g_iinc_g {i : Nat} {n : Int} {x v : Int32} (hd : decode k.2.1 pc = .ok (.iinc i n, 3)) (hi : i < lv.length) (hv : lg lv i = some (vI x)) (hn : ∀ j, j + 1 = i → nl (lg lv j) = true) (hx : x + Int32.ofInt n = v) (h : G E R k Z ca sl (pc + 3) (lst lv i (some (vI v))) st M) : G E R k Z ca sl pc lv st M := by
  intro p l e s m args below meth c H locs ls C hw hy hS hl
  obtain ⟨q, hq⟩ := List.getElem?_of_mem (mem_en.mpr ⟨vI x, Nat.zero_le _, (by rw [Nat.sub_zero]; exact hv), rfl⟩ : (i, cv E (vI x)) ∈ en E 0 lv)
  exact lv_iinc C.1 C.2.1 hd hl.2 hq hx (by rw [← hl.1]; exact hi) rfl (fun ls' hl' => h p l e s m args below meth c H locs ls' C hw hy hS (hl.st1 hi hn hl'))
theorem g_istore_0 {b : Option AV} {r : List (Option AV)} {x : Int32} (hd : decode k.2.1 pc = .ok (.istore_n 0, 1)) (h : G E R k Z ca sl (pc + 1) (some (vI x) :: r) st M) : G E R k Z ca sl pc (b :: r) (vI x :: st) M :=
  g_istore_n_g (i := 0) hd rfl (by simp) (fun j e => by cases e) h
theorem g_astore_0 {b : Option AV} {r : List (Option AV)} {x : Id} (hd : decode k.2.1 pc = .ok (.astore_n 0, 1)) (h : G E R k Z ca sl (pc + 1) (some (vR x) :: r) st M) : G E R k Z ca sl pc (b :: r) (vR x :: st) M :=
  g_astore_n_g (i := 0) hd rfl (by simp) (fun j e => by cases e) h
theorem g_iinc_0 {r : List (Option AV)} {n : Int} {x v : Int32} (hd : decode k.2.1 pc = .ok (.iinc 0 n, 3)) (hx : x + Int32.ofInt n = v) (h : G E R k Z ca sl (pc + 3) (some (vI v) :: r) st M) : G E R k Z ca sl pc (some (vI x) :: r) st M :=
  g_iinc_g (i := 0) hd (by simp) rfl (fun j e => by cases e) hx h
theorem g_istore_1 {a0 b : Option AV} {r : List (Option AV)} {x : Int32} (hd : decode k.2.1 pc = .ok (.istore_n 1, 1)) (hn : nl a0 = true) (h : G E R k Z ca sl (pc + 1) (a0 :: some (vI x) :: r) st M) : G E R k Z ca sl pc (a0 :: b :: r) (vI x :: st) M :=
  g_istore_n_g (i := 1) hd rfl (by simp) (fun j e => by cases e; exact hn) h
theorem g_astore_1 {a0 b : Option AV} {r : List (Option AV)} {x : Id} (hd : decode k.2.1 pc = .ok (.astore_n 1, 1)) (hn : nl a0 = true) (h : G E R k Z ca sl (pc + 1) (a0 :: some (vR x) :: r) st M) : G E R k Z ca sl pc (a0 :: b :: r) (vR x :: st) M :=
  g_astore_n_g (i := 1) hd rfl (by simp) (fun j e => by cases e; exact hn) h
theorem g_iinc_1 {a0 : Option AV} {r : List (Option AV)} {n : Int} {x v : Int32} (hd : decode k.2.1 pc = .ok (.iinc 1 n, 3)) (hn : nl a0 = true) (hx : x + Int32.ofInt n = v) (h : G E R k Z ca sl (pc + 3) (a0 :: some (vI v) :: r) st M) : G E R k Z ca sl pc (a0 :: some (vI x) :: r) st M :=
  g_iinc_g (i := 1) hd (by simp) rfl (fun j e => by cases e; exact hn) hx h
theorem g_istore_2 {a0 a1 b : Option AV} {r : List (Option AV)} {x : Int32} (hd : decode k.2.1 pc = .ok (.istore_n 2, 1)) (hn : nl a1 = true) (h : G E R k Z ca sl (pc + 1) (a0 :: a1 :: some (vI x) :: r) st M) : G E R k Z ca sl pc (a0 :: a1 :: b :: r) (vI x :: st) M :=
  g_istore_n_g (i := 2) hd rfl (by simp) (fun j e => by cases e; exact hn) h
theorem g_astore_2 {a0 a1 b : Option AV} {r : List (Option AV)} {x : Id} (hd : decode k.2.1 pc = .ok (.astore_n 2, 1)) (hn : nl a1 = true) (h : G E R k Z ca sl (pc + 1) (a0 :: a1 :: some (vR x) :: r) st M) : G E R k Z ca sl pc (a0 :: a1 :: b :: r) (vR x :: st) M :=
  g_astore_n_g (i := 2) hd rfl (by simp) (fun j e => by cases e; exact hn) h
theorem g_iinc_2 {a0 a1 : Option AV} {r : List (Option AV)} {n : Int} {x v : Int32} (hd : decode k.2.1 pc = .ok (.iinc 2 n, 3)) (hn : nl a1 = true) (hx : x + Int32.ofInt n = v) (h : G E R k Z ca sl (pc + 3) (a0 :: a1 :: some (vI v) :: r) st M) : G E R k Z ca sl pc (a0 :: a1 :: some (vI x) :: r) st M :=
  g_iinc_g (i := 2) hd (by simp) rfl (fun j e => by cases e; exact hn) hx h
theorem g_istore_3 {a0 a1 a2 b : Option AV} {r : List (Option AV)} {x : Int32} (hd : decode k.2.1 pc = .ok (.istore_n 3, 1)) (hn : nl a2 = true) (h : G E R k Z ca sl (pc + 1) (a0 :: a1 :: a2 :: some (vI x) :: r) st M) : G E R k Z ca sl pc (a0 :: a1 :: a2 :: b :: r) (vI x :: st) M :=
  g_istore_n_g (i := 3) hd rfl (by simp) (fun j e => by cases e; exact hn) h
theorem g_astore_3 {a0 a1 a2 b : Option AV} {r : List (Option AV)} {x : Id} (hd : decode k.2.1 pc = .ok (.astore_n 3, 1)) (hn : nl a2 = true) (h : G E R k Z ca sl (pc + 1) (a0 :: a1 :: a2 :: some (vR x) :: r) st M) : G E R k Z ca sl pc (a0 :: a1 :: a2 :: b :: r) (vR x :: st) M :=
  g_astore_n_g (i := 3) hd rfl (by simp) (fun j e => by cases e; exact hn) h
theorem g_iinc_3 {a0 a1 a2 : Option AV} {r : List (Option AV)} {n : Int} {x v : Int32} (hd : decode k.2.1 pc = .ok (.iinc 3 n, 3)) (hn : nl a2 = true) (hx : x + Int32.ofInt n = v) (h : G E R k Z ca sl (pc + 3) (a0 :: a1 :: a2 :: some (vI v) :: r) st M) : G E R k Z ca sl pc (a0 :: a1 :: a2 :: some (vI x) :: r) st M :=
  g_iinc_g (i := 3) hd (by simp) rfl (fun j e => by cases e; exact hn) hx h
theorem g_istore_4 {a0 a1 a2 a3 b : Option AV} {r : List (Option AV)} {x : Int32} (hd : decode k.2.1 pc = .ok (.istore 4, 2)) (hn : nl a3 = true) (h : G E R k Z ca sl (pc + 2) (a0 :: a1 :: a2 :: a3 :: some (vI x) :: r) st M) : G E R k Z ca sl pc (a0 :: a1 :: a2 :: a3 :: b :: r) (vI x :: st) M :=
  g_istore_g (i := 4) hd (by simp) (fun j e => by cases e; exact hn) h
theorem g_astore_4 {a0 a1 a2 a3 b : Option AV} {r : List (Option AV)} {x : Id} (hd : decode k.2.1 pc = .ok (.astore 4, 2)) (hn : nl a3 = true) (h : G E R k Z ca sl (pc + 2) (a0 :: a1 :: a2 :: a3 :: some (vR x) :: r) st M) : G E R k Z ca sl pc (a0 :: a1 :: a2 :: a3 :: b :: r) (vR x :: st) M :=
  g_astore_g (i := 4) hd (by simp) (fun j e => by cases e; exact hn) h
theorem g_iinc_4 {a0 a1 a2 a3 : Option AV} {r : List (Option AV)} {n : Int} {x v : Int32} (hd : decode k.2.1 pc = .ok (.iinc 4 n, 3)) (hn : nl a3 = true) (hx : x + Int32.ofInt n = v) (h : G E R k Z ca sl (pc + 3) (a0 :: a1 :: a2 :: a3 :: some (vI v) :: r) st M) : G E R k Z ca sl pc (a0 :: a1 :: a2 :: a3 :: some (vI x) :: r) st M :=
  g_iinc_g (i := 4) hd (by simp) rfl (fun j e => by cases e; exact hn) hx h
theorem g_istore_5 {a0 a1 a2 a3 a4 b : Option AV} {r : List (Option AV)} {x : Int32} (hd : decode k.2.1 pc = .ok (.istore 5, 2)) (hn : nl a4 = true) (h : G E R k Z ca sl (pc + 2) (a0 :: a1 :: a2 :: a3 :: a4 :: some (vI x) :: r) st M) : G E R k Z ca sl pc (a0 :: a1 :: a2 :: a3 :: a4 :: b :: r) (vI x :: st) M :=
  g_istore_g (i := 5) hd (by simp) (fun j e => by cases e; exact hn) h
theorem g_astore_5 {a0 a1 a2 a3 a4 b : Option AV} {r : List (Option AV)} {x : Id} (hd : decode k.2.1 pc = .ok (.astore 5, 2)) (hn : nl a4 = true) (h : G E R k Z ca sl (pc + 2) (a0 :: a1 :: a2 :: a3 :: a4 :: some (vR x) :: r) st M) : G E R k Z ca sl pc (a0 :: a1 :: a2 :: a3 :: a4 :: b :: r) (vR x :: st) M :=
  g_astore_g (i := 5) hd (by simp) (fun j e => by cases e; exact hn) h
theorem g_iinc_5 {a0 a1 a2 a3 a4 : Option AV} {r : List (Option AV)} {n : Int} {x v : Int32} (hd : decode k.2.1 pc = .ok (.iinc 5 n, 3)) (hn : nl a4 = true) (hx : x + Int32.ofInt n = v) (h : G E R k Z ca sl (pc + 3) (a0 :: a1 :: a2 :: a3 :: a4 :: some (vI v) :: r) st M) : G E R k Z ca sl pc (a0 :: a1 :: a2 :: a3 :: a4 :: some (vI x) :: r) st M :=
  g_iinc_g (i := 5) hd (by simp) rfl (fun j e => by cases e; exact hn) hx h
theorem g_istore_6 {a0 a1 a2 a3 a4 a5 b : Option AV} {r : List (Option AV)} {x : Int32} (hd : decode k.2.1 pc = .ok (.istore 6, 2)) (hn : nl a5 = true) (h : G E R k Z ca sl (pc + 2) (a0 :: a1 :: a2 :: a3 :: a4 :: a5 :: some (vI x) :: r) st M) : G E R k Z ca sl pc (a0 :: a1 :: a2 :: a3 :: a4 :: a5 :: b :: r) (vI x :: st) M :=
  g_istore_g (i := 6) hd (by simp) (fun j e => by cases e; exact hn) h
theorem g_astore_6 {a0 a1 a2 a3 a4 a5 b : Option AV} {r : List (Option AV)} {x : Id} (hd : decode k.2.1 pc = .ok (.astore 6, 2)) (hn : nl a5 = true) (h : G E R k Z ca sl (pc + 2) (a0 :: a1 :: a2 :: a3 :: a4 :: a5 :: some (vR x) :: r) st M) : G E R k Z ca sl pc (a0 :: a1 :: a2 :: a3 :: a4 :: a5 :: b :: r) (vR x :: st) M :=
  g_astore_g (i := 6) hd (by simp) (fun j e => by cases e; exact hn) h
theorem g_iinc_6 {a0 a1 a2 a3 a4 a5 : Option AV} {r : List (Option AV)} {n : Int} {x v : Int32} (hd : decode k.2.1 pc = .ok (.iinc 6 n, 3)) (hn : nl a5 = true) (hx : x + Int32.ofInt n = v) (h : G E R k Z ca sl (pc + 3) (a0 :: a1 :: a2 :: a3 :: a4 :: a5 :: some (vI v) :: r) st M) : G E R k Z ca sl pc (a0 :: a1 :: a2 :: a3 :: a4 :: a5 :: some (vI x) :: r) st M :=
  g_iinc_g (i := 6) hd (by simp) rfl (fun j e => by cases e; exact hn) hx h
theorem g_istore_7 {a0 a1 a2 a3 a4 a5 a6 b : Option AV} {r : List (Option AV)} {x : Int32} (hd : decode k.2.1 pc = .ok (.istore 7, 2)) (hn : nl a6 = true) (h : G E R k Z ca sl (pc + 2) (a0 :: a1 :: a2 :: a3 :: a4 :: a5 :: a6 :: some (vI x) :: r) st M) : G E R k Z ca sl pc (a0 :: a1 :: a2 :: a3 :: a4 :: a5 :: a6 :: b :: r) (vI x :: st) M :=
  g_istore_g (i := 7) hd (by simp) (fun j e => by cases e; exact hn) h
theorem g_astore_7 {a0 a1 a2 a3 a4 a5 a6 b : Option AV} {r : List (Option AV)} {x : Id} (hd : decode k.2.1 pc = .ok (.astore 7, 2)) (hn : nl a6 = true) (h : G E R k Z ca sl (pc + 2) (a0 :: a1 :: a2 :: a3 :: a4 :: a5 :: a6 :: some (vR x) :: r) st M) : G E R k Z ca sl pc (a0 :: a1 :: a2 :: a3 :: a4 :: a5 :: a6 :: b :: r) (vR x :: st) M :=
  g_astore_g (i := 7) hd (by simp) (fun j e => by cases e; exact hn) h
theorem g_iinc_7 {a0 a1 a2 a3 a4 a5 a6 : Option AV} {r : List (Option AV)} {n : Int} {x v : Int32} (hd : decode k.2.1 pc = .ok (.iinc 7 n, 3)) (hn : nl a6 = true) (hx : x + Int32.ofInt n = v) (h : G E R k Z ca sl (pc + 3) (a0 :: a1 :: a2 :: a3 :: a4 :: a5 :: a6 :: some (vI v) :: r) st M) : G E R k Z ca sl pc (a0 :: a1 :: a2 :: a3 :: a4 :: a5 :: a6 :: some (vI x) :: r) st M :=
  g_iinc_g (i := 7) hd (by simp) rfl (fun j e => by cases e; exact hn) hx h
theorem g_istore_8 {a0 a1 a2 a3 a4 a5 a6 a7 b : Option AV} {r : List (Option AV)} {x : Int32} (hd : decode k.2.1 pc = .ok (.istore 8, 2)) (hn : nl a7 = true) (h : G E R k Z ca sl (pc + 2) (a0 :: a1 :: a2 :: a3 :: a4 :: a5 :: a6 :: a7 :: some (vI x) :: r) st M) : G E R k Z ca sl pc (a0 :: a1 :: a2 :: a3 :: a4 :: a5 :: a6 :: a7 :: b :: r) (vI x :: st) M :=
  g_istore_g (i := 8) hd (by simp) (fun j e => by cases e; exact hn) h
theorem g_astore_8 {a0 a1 a2 a3 a4 a5 a6 a7 b : Option AV} {r : List (Option AV)} {x : Id} (hd : decode k.2.1 pc = .ok (.astore 8, 2)) (hn : nl a7 = true) (h : G E R k Z ca sl (pc + 2) (a0 :: a1 :: a2 :: a3 :: a4 :: a5 :: a6 :: a7 :: some (vR x) :: r) st M) : G E R k Z ca sl pc (a0 :: a1 :: a2 :: a3 :: a4 :: a5 :: a6 :: a7 :: b :: r) (vR x :: st) M :=
  g_astore_g (i := 8) hd (by simp) (fun j e => by cases e; exact hn) h
theorem g_iinc_8 {a0 a1 a2 a3 a4 a5 a6 a7 : Option AV} {r : List (Option AV)} {n : Int} {x v : Int32} (hd : decode k.2.1 pc = .ok (.iinc 8 n, 3)) (hn : nl a7 = true) (hx : x + Int32.ofInt n = v) (h : G E R k Z ca sl (pc + 3) (a0 :: a1 :: a2 :: a3 :: a4 :: a5 :: a6 :: a7 :: some (vI v) :: r) st M) : G E R k Z ca sl pc (a0 :: a1 :: a2 :: a3 :: a4 :: a5 :: a6 :: a7 :: some (vI x) :: r) st M :=
  g_iinc_g (i := 8) hd (by simp) rfl (fun j e => by cases e; exact hn) hx h
theorem g_istore_9 {a0 a1 a2 a3 a4 a5 a6 a7 a8 b : Option AV} {r : List (Option AV)} {x : Int32} (hd : decode k.2.1 pc = .ok (.istore 9, 2)) (hn : nl a8 = true) (h : G E R k Z ca sl (pc + 2) (a0 :: a1 :: a2 :: a3 :: a4 :: a5 :: a6 :: a7 :: a8 :: some (vI x) :: r) st M) : G E R k Z ca sl pc (a0 :: a1 :: a2 :: a3 :: a4 :: a5 :: a6 :: a7 :: a8 :: b :: r) (vI x :: st) M :=
  g_istore_g (i := 9) hd (by simp) (fun j e => by cases e; exact hn) h
theorem g_astore_9 {a0 a1 a2 a3 a4 a5 a6 a7 a8 b : Option AV} {r : List (Option AV)} {x : Id} (hd : decode k.2.1 pc = .ok (.astore 9, 2)) (hn : nl a8 = true) (h : G E R k Z ca sl (pc + 2) (a0 :: a1 :: a2 :: a3 :: a4 :: a5 :: a6 :: a7 :: a8 :: some (vR x) :: r) st M) : G E R k Z ca sl pc (a0 :: a1 :: a2 :: a3 :: a4 :: a5 :: a6 :: a7 :: a8 :: b :: r) (vR x :: st) M :=
  g_astore_g (i := 9) hd (by simp) (fun j e => by cases e; exact hn) h
theorem g_iinc_9 {a0 a1 a2 a3 a4 a5 a6 a7 a8 : Option AV} {r : List (Option AV)} {n : Int} {x v : Int32} (hd : decode k.2.1 pc = .ok (.iinc 9 n, 3)) (hn : nl a8 = true) (hx : x + Int32.ofInt n = v) (h : G E R k Z ca sl (pc + 3) (a0 :: a1 :: a2 :: a3 :: a4 :: a5 :: a6 :: a7 :: a8 :: some (vI v) :: r) st M) : G E R k Z ca sl pc (a0 :: a1 :: a2 :: a3 :: a4 :: a5 :: a6 :: a7 :: a8 :: some (vI x) :: r) st M :=
  g_iinc_g (i := 9) hd (by simp) rfl (fun j e => by cases e; exact hn) hx h
theorem g_istore_10 {a0 a1 a2 a3 a4 a5 a6 a7 a8 a9 b : Option AV} {r : List (Option AV)} {x : Int32} (hd : decode k.2.1 pc = .ok (.istore 10, 2)) (hn : nl a9 = true) (h : G E R k Z ca sl (pc + 2) (a0 :: a1 :: a2 :: a3 :: a4 :: a5 :: a6 :: a7 :: a8 :: a9 :: some (vI x) :: r) st M) : G E R k Z ca sl pc (a0 :: a1 :: a2 :: a3 :: a4 :: a5 :: a6 :: a7 :: a8 :: a9 :: b :: r) (vI x :: st) M :=
  g_istore_g (i := 10) hd (by simp) (fun j e => by cases e; exact hn) h
theorem g_astore_10 {a0 a1 a2 a3 a4 a5 a6 a7 a8 a9 b : Option AV} {r : List (Option AV)} {x : Id} (hd : decode k.2.1 pc = .ok (.astore 10, 2)) (hn : nl a9 = true) (h : G E R k Z ca sl (pc + 2) (a0 :: a1 :: a2 :: a3 :: a4 :: a5 :: a6 :: a7 :: a8 :: a9 :: some (vR x) :: r) st M) : G E R k Z ca sl pc (a0 :: a1 :: a2 :: a3 :: a4 :: a5 :: a6 :: a7 :: a8 :: a9 :: b :: r) (vR x :: st) M :=
  g_astore_g (i := 10) hd (by simp) (fun j e => by cases e; exact hn) h
theorem g_iinc_10 {a0 a1 a2 a3 a4 a5 a6 a7 a8 a9 : Option AV} {r : List (Option AV)} {n : Int} {x v : Int32} (hd : decode k.2.1 pc = .ok (.iinc 10 n, 3)) (hn : nl a9 = true) (hx : x + Int32.ofInt n = v) (h : G E R k Z ca sl (pc + 3) (a0 :: a1 :: a2 :: a3 :: a4 :: a5 :: a6 :: a7 :: a8 :: a9 :: some (vI v) :: r) st M) : G E R k Z ca sl pc (a0 :: a1 :: a2 :: a3 :: a4 :: a5 :: a6 :: a7 :: a8 :: a9 :: some (vI x) :: r) st M :=
  g_iinc_g (i := 10) hd (by simp) rfl (fun j e => by cases e; exact hn) hx h
theorem g_istore_11 {a0 a1 a2 a3 a4 a5 a6 a7 a8 a9 a10 b : Option AV} {r : List (Option AV)} {x : Int32} (hd : decode k.2.1 pc = .ok (.istore 11, 2)) (hn : nl a10 = true) (h : G E R k Z ca sl (pc + 2) (a0 :: a1 :: a2 :: a3 :: a4 :: a5 :: a6 :: a7 :: a8 :: a9 :: a10 :: some (vI x) :: r) st M) : G E R k Z ca sl pc (a0 :: a1 :: a2 :: a3 :: a4 :: a5 :: a6 :: a7 :: a8 :: a9 :: a10 :: b :: r) (vI x :: st) M :=
  g_istore_g (i := 11) hd (by simp) (fun j e => by cases e; exact hn) h
theorem g_astore_11 {a0 a1 a2 a3 a4 a5 a6 a7 a8 a9 a10 b : Option AV} {r : List (Option AV)} {x : Id} (hd : decode k.2.1 pc = .ok (.astore 11, 2)) (hn : nl a10 = true) (h : G E R k Z ca sl (pc + 2) (a0 :: a1 :: a2 :: a3 :: a4 :: a5 :: a6 :: a7 :: a8 :: a9 :: a10 :: some (vR x) :: r) st M) : G E R k Z ca sl pc (a0 :: a1 :: a2 :: a3 :: a4 :: a5 :: a6 :: a7 :: a8 :: a9 :: a10 :: b :: r) (vR x :: st) M :=
  g_astore_g (i := 11) hd (by simp) (fun j e => by cases e; exact hn) h
theorem g_iinc_11 {a0 a1 a2 a3 a4 a5 a6 a7 a8 a9 a10 : Option AV} {r : List (Option AV)} {n : Int} {x v : Int32} (hd : decode k.2.1 pc = .ok (.iinc 11 n, 3)) (hn : nl a10 = true) (hx : x + Int32.ofInt n = v) (h : G E R k Z ca sl (pc + 3) (a0 :: a1 :: a2 :: a3 :: a4 :: a5 :: a6 :: a7 :: a8 :: a9 :: a10 :: some (vI v) :: r) st M) : G E R k Z ca sl pc (a0 :: a1 :: a2 :: a3 :: a4 :: a5 :: a6 :: a7 :: a8 :: a9 :: a10 :: some (vI x) :: r) st M :=
  g_iinc_g (i := 11) hd (by simp) rfl (fun j e => by cases e; exact hn) hx h
theorem g_iadd {x y : Int32} (hd : decode k.2.1 pc = .ok (.iadd, 1)) (h : G E R k Z ca sl (pc + 1) lv (vI (x + y) :: st) M) : G E R k Z ca sl pc lv (vI y :: vI x :: st) M :=
  fun p l e s m args below meth c H locs ls C hw hy hS hl => lv_iadd C.1 C.2.1 hd (h p l e s m args below meth c H locs ls C hw hy hS hl)
theorem g_isub {x y : Int32} (hd : decode k.2.1 pc = .ok (.isub, 1)) (h : G E R k Z ca sl (pc + 1) lv (vI (x - y) :: st) M) : G E R k Z ca sl pc lv (vI y :: vI x :: st) M :=
  fun p l e s m args below meth c H locs ls C hw hy hS hl => lv_isub C.1 C.2.1 hd (h p l e s m args below meth c H locs ls C hw hy hS hl)
theorem g_imul {x y : Int32} (hd : decode k.2.1 pc = .ok (.imul, 1)) (h : G E R k Z ca sl (pc + 1) lv (vI (x * y) :: st) M) : G E R k Z ca sl pc lv (vI y :: vI x :: st) M :=
  fun p l e s m args below meth c H locs ls C hw hy hS hl => lv_imul C.1 C.2.1 hd (h p l e s m args below meth c H locs ls C hw hy hS hl)
theorem g_iand {x y : Int32} (hd : decode k.2.1 pc = .ok (.iand, 1)) (h : G E R k Z ca sl (pc + 1) lv (vI (x &&& y) :: st) M) : G E R k Z ca sl pc lv (vI y :: vI x :: st) M :=
  fun p l e s m args below meth c H locs ls C hw hy hS hl => lv_iand C.1 C.2.1 hd (h p l e s m args below meth c H locs ls C hw hy hS hl)
theorem g_ior {x y : Int32} (hd : decode k.2.1 pc = .ok (.ior, 1)) (h : G E R k Z ca sl (pc + 1) lv (vI (x ||| y) :: st) M) : G E R k Z ca sl pc lv (vI y :: vI x :: st) M :=
  fun p l e s m args below meth c H locs ls C hw hy hS hl => lv_ior C.1 C.2.1 hd (h p l e s m args below meth c H locs ls C hw hy hS hl)
theorem g_ixor {x y : Int32} (hd : decode k.2.1 pc = .ok (.ixor, 1)) (h : G E R k Z ca sl (pc + 1) lv (vI (x ^^^ y) :: st) M) : G E R k Z ca sl pc lv (vI y :: vI x :: st) M :=
  fun p l e s m args below meth c H locs ls C hw hy hS hl => lv_ixor C.1 C.2.1 hd (h p l e s m args below meth c H locs ls C hw hy hS hl)
theorem g_ineg {x : Int32} (hd : decode k.2.1 pc = .ok (.ineg, 1)) (h : G E R k Z ca sl (pc + 1) lv (vI (-x) :: st) M) : G E R k Z ca sl pc lv (vI x :: st) M :=
  fun p l e s m args below meth c H locs ls C hw hy hS hl => lv_ineg C.1 C.2.1 hd (h p l e s m args below meth c H locs ls C hw hy hS hl)
theorem g_idiv {x y : Int32} (hd : decode k.2.1 pc = .ok (.idiv, 1)) (hne : ¬ y = 0) (h : G E R k Z ca sl (pc + 1) lv (vI (x / y) :: st) M) : G E R k Z ca sl pc lv (vI y :: vI x :: st) M :=
  fun p l e s m args below meth c H locs ls C hw hy hS hl => lv_idiv C.1 C.2.1 hd hne (h p l e s m args below meth c H locs ls C hw hy hS hl)
theorem g_irem {x y : Int32} (hd : decode k.2.1 pc = .ok (.irem, 1)) (hne : ¬ y = 0) (h : G E R k Z ca sl (pc + 1) lv (vI (x - x / y * y) :: st) M) : G E R k Z ca sl pc lv (vI y :: vI x :: st) M :=
  fun p l e s m args below meth c H locs ls C hw hy hS hl => lv_irem C.1 C.2.1 hd hne (h p l e s m args below meth c H locs ls C hw hy hS hl)
theorem g_ladd {x y : Int64} (hd : decode k.2.1 pc = .ok (.ladd, 1)) (h : G E R k Z ca sl (pc + 1) lv (vL (x + y) :: st) M) : G E R k Z ca sl pc lv (vL y :: vL x :: st) M :=
  fun p l e s m args below meth c H locs ls C hw hy hS hl => lv_ladd C.1 C.2.1 hd (h p l e s m args below meth c H locs ls C hw hy hS hl)
theorem g_land {x y : Int64} (hd : decode k.2.1 pc = .ok (.land, 1)) (h : G E R k Z ca sl (pc + 1) lv (vL (x &&& y) :: st) M) : G E R k Z ca sl pc lv (vL y :: vL x :: st) M :=
  fun p l e s m args below meth c H locs ls C hw hy hS hl => lv_land C.1 C.2.1 hd (h p l e s m args below meth c H locs ls C hw hy hS hl)
theorem g_lor {x y : Int64} (hd : decode k.2.1 pc = .ok (.lor, 1)) (h : G E R k Z ca sl (pc + 1) lv (vL (x ||| y) :: st) M) : G E R k Z ca sl pc lv (vL y :: vL x :: st) M :=
  fun p l e s m args below meth c H locs ls C hw hy hS hl => lv_lor C.1 C.2.1 hd (h p l e s m args below meth c H locs ls C hw hy hS hl)
theorem g_ishl {x y : Int32} (hd : decode k.2.1 pc = .ok (.ishl, 1)) (h : G E R k Z ca sl (pc + 1) lv (vI (x <<< (y &&& 31)) :: st) M) : G E R k Z ca sl pc lv (vI y :: vI x :: st) M :=
  fun p l e s m args below meth c H locs ls C hw hy hS hl => lv_ishl C.1 C.2.1 hd (h p l e s m args below meth c H locs ls C hw hy hS hl)
theorem g_ishr {x y : Int32} (hd : decode k.2.1 pc = .ok (.ishr, 1)) (h : G E R k Z ca sl (pc + 1) lv (vI (x >>> (y &&& 31)) :: st) M) : G E R k Z ca sl pc lv (vI y :: vI x :: st) M :=
  fun p l e s m args below meth c H locs ls C hw hy hS hl => lv_ishr C.1 C.2.1 hd (h p l e s m args below meth c H locs ls C hw hy hS hl)
theorem g_i2l {x : Int32} (hd : decode k.2.1 pc = .ok (.i2l, 1)) (h : G E R k Z ca sl (pc + 1) lv (vL x.toInt64 :: st) M) : G E R k Z ca sl pc lv (vI x :: st) M :=
  fun p l e s m args below meth c H locs ls C hw hy hS hl => lv_i2l C.1 C.2.1 hd rfl (h p l e s m args below meth c H locs ls C hw hy hS hl)
theorem g_l2i {x : Int64} (hd : decode k.2.1 pc = .ok (.l2i, 1)) (h : G E R k Z ca sl (pc + 1) lv (vI x.toInt32 :: st) M) : G E R k Z ca sl pc lv (vL x :: st) M :=
  fun p l e s m args below meth c H locs ls C hw hy hS hl => lv_l2i C.1 C.2.1 hd rfl (h p l e s m args below meth c H locs ls C hw hy hS hl)
theorem g_i2b {x : Int32} (hd : decode k.2.1 pc = .ok (.i2b, 1)) (h : G E R k Z ca sl (pc + 1) lv (vI x.toInt8.toInt32 :: st) M) : G E R k Z ca sl pc lv (vI x :: st) M :=
  fun p l e s m args below meth c H locs ls C hw hy hS hl => lv_i2b C.1 C.2.1 hd rfl (h p l e s m args below meth c H locs ls C hw hy hS hl)
theorem g_i2s {x : Int32} (hd : decode k.2.1 pc = .ok (.i2s, 1)) (h : G E R k Z ca sl (pc + 1) lv (vI x.toInt16.toInt32 :: st) M) : G E R k Z ca sl pc lv (vI x :: st) M :=
  fun p l e s m args below meth c H locs ls C hw hy hS hl => lv_i2s C.1 C.2.1 hd rfl (h p l e s m args below meth c H locs ls C hw hy hS hl)
theorem g_iushr {x y : Int32} (hd : decode k.2.1 pc = .ok (.iushr, 1)) (h : G E R k Z ca sl (pc + 1) lv (vI (x.toUInt32 >>> (y.toUInt32 &&& Int32.toUInt32 31)).toInt32 :: st) M) : G E R k Z ca sl pc lv (vI y :: vI x :: st) M :=
  fun p l e s m args below meth c H locs ls C hw hy hS hl => lv_iushr C.1 C.2.1 hd rfl (h p l e s m args below meth c H locs ls C hw hy hS hl)
theorem g_lshl {x : Int64} {y : Int32} (hd : decode k.2.1 pc = .ok (.lshl, 1)) (h : G E R k Z ca sl (pc + 1) lv (vL (x <<< (y.toInt64 &&& 63)) :: st) M) : G E R k Z ca sl pc lv (vI y :: vL x :: st) M :=
  fun p l e s m args below meth c H locs ls C hw hy hS hl => lv_lshl C.1 C.2.1 hd rfl (h p l e s m args below meth c H locs ls C hw hy hS hl)
theorem cv_cat1 {E : Ev} {v : AV} (h : nl (some v) = true) : (cv E v).category = 1 := by
  rcases v with x | x | x | x | x <;> first | rfl | cases h
theorem g_dup {v : AV} (hd : decode k.2.1 pc = .ok (.dup, 1)) (hv : nl (some v) = true) (h : G E R k Z ca sl (pc + 1) lv (v :: v :: st) M) : G E R k Z ca sl pc lv (v :: st) M :=
  fun p l e s m args below meth c H locs ls C hw hy hS hl => lv_dup C.1 C.2.1 hd (cv_cat1 hv) (h p l e s m args below meth c H locs ls C hw hy hS hl)
theorem g_pop {v : AV} (hd : decode k.2.1 pc = .ok (.pop, 1)) (hv : nl (some v) = true) (h : G E R k Z ca sl (pc + 1) lv st M) : G E R k Z ca sl pc lv (v :: st) M :=
  fun p l e s m args below meth c H locs ls C hw hy hS hl => lv_pop C.1 C.2.1 hd (cv_cat1 hv) (h p l e s m args below meth c H locs ls C hw hy hS hl)
theorem g_dup2 {v w : AV} (hd : decode k.2.1 pc = .ok (.dup2, 1)) (hv : nl (some v) = true) (hw0 : nl (some w) = true) (h : G E R k Z ca sl (pc + 1) lv (v :: w :: v :: w :: st) M) : G E R k Z ca sl pc lv (v :: w :: st) M :=
  fun p l e s m args below meth c H locs ls C hw hy hS hl => lv_dup2_11 C.1 C.2.1 hd (cv_cat1 hv) (cv_cat1 hw0) (h p l e s m args below meth c H locs ls C hw hy hS hl)
theorem g_dup_x1 {v w : AV} (hd : decode k.2.1 pc = .ok (.dup_x1, 1)) (hv : nl (some v) = true) (hw0 : nl (some w) = true) (h : G E R k Z ca sl (pc + 1) lv (v :: w :: v :: st) M) : G E R k Z ca sl pc lv (v :: w :: st) M :=
  fun p l e s m args below meth c H locs ls C hw hy hS hl => lv_dup_x1 C.1 C.2.1 hd (cv_cat1 hv) (cv_cat1 hw0) (h p l e s m args below meth c H locs ls C hw hy hS hl)
theorem g_goto {o : Int} {tgt : Nat} (hd : decode k.2.1 pc = .ok (.goto o, 3)) (ht : (pc : Int) + o = (tgt : Int)) (h : G E R k Z ca sl tgt lv st M) : G E R k Z ca sl pc lv st M :=
  fun p l e s m args below meth c H locs ls C hw hy hS hl => lv_goto C.1 C.2.1 hd ht (h p l e s m args below meth c H locs ls C hw hy hS hl)
theorem g_if_eq {x : Int32} {o : Int} {tgt : Nat} (hd : decode k.2.1 pc = .ok (.ifCond .eq o, 3)) (ht : (pc : Int) + o = (tgt : Int)) (h1 : x = 0 → G E R k Z ca sl tgt lv st M) (h2 : ¬ x = 0 → G E R k Z ca sl (pc + 3) lv st M) : G E R k Z ca sl pc lv (vI x :: st) M :=
  fun p l e s m args below meth c H locs ls C hw hy hS hl => lv_if_eq C.1 C.2.1 hd ht (fun q => h1 q p l e s m args below meth c H locs ls C hw hy hS hl) (fun q => h2 q p l e s m args below meth c H locs ls C hw hy hS hl)
theorem g_if_ne {x : Int32} {o : Int} {tgt : Nat} (hd : decode k.2.1 pc = .ok (.ifCond .ne o, 3)) (ht : (pc : Int) + o = (tgt : Int)) (h1 : ¬ x = 0 → G E R k Z ca sl tgt lv st M) (h2 : x = 0 → G E R k Z ca sl (pc + 3) lv st M) : G E R k Z ca sl pc lv (vI x :: st) M :=
  fun p l e s m args below meth c H locs ls C hw hy hS hl => lv_if_ne C.1 C.2.1 hd ht (fun q => h1 q p l e s m args below meth c H locs ls C hw hy hS hl) (fun q => h2 q p l e s m args below meth c H locs ls C hw hy hS hl)
theorem g_if_lt {x : Int32} {o : Int} {tgt : Nat} (hd : decode k.2.1 pc = .ok (.ifCond .lt o, 3)) (ht : (pc : Int) + o = (tgt : Int)) (h1 : x < 0 → G E R k Z ca sl tgt lv st M) (h2 : ¬ x < 0 → G E R k Z ca sl (pc + 3) lv st M) : G E R k Z ca sl pc lv (vI x :: st) M :=
  fun p l e s m args below meth c H locs ls C hw hy hS hl => lv_if_lt C.1 C.2.1 hd ht (fun q => h1 q p l e s m args below meth c H locs ls C hw hy hS hl) (fun q => h2 q p l e s m args below meth c H locs ls C hw hy hS hl)
theorem g_if_ge {x : Int32} {o : Int} {tgt : Nat} (hd : decode k.2.1 pc = .ok (.ifCond .ge o, 3)) (ht : (pc : Int) + o = (tgt : Int)) (h1 : 0 ≤ x → G E R k Z ca sl tgt lv st M) (h2 : ¬ 0 ≤ x → G E R k Z ca sl (pc + 3) lv st M) : G E R k Z ca sl pc lv (vI x :: st) M :=
  fun p l e s m args below meth c H locs ls C hw hy hS hl => lv_if_ge C.1 C.2.1 hd ht (fun q => h1 q p l e s m args below meth c H locs ls C hw hy hS hl) (fun q => h2 q p l e s m args below meth c H locs ls C hw hy hS hl)
theorem g_if_gt {x : Int32} {o : Int} {tgt : Nat} (hd : decode k.2.1 pc = .ok (.ifCond .gt o, 3)) (ht : (pc : Int) + o = (tgt : Int)) (h1 : 0 < x → G E R k Z ca sl tgt lv st M) (h2 : ¬ 0 < x → G E R k Z ca sl (pc + 3) lv st M) : G E R k Z ca sl pc lv (vI x :: st) M :=
  fun p l e s m args below meth c H locs ls C hw hy hS hl => lv_if_gt C.1 C.2.1 hd ht (fun q => h1 q p l e s m args below meth c H locs ls C hw hy hS hl) (fun q => h2 q p l e s m args below meth c H locs ls C hw hy hS hl)
theorem g_if_le {x : Int32} {o : Int} {tgt : Nat} (hd : decode k.2.1 pc = .ok (.ifCond .le o, 3)) (ht : (pc : Int) + o = (tgt : Int)) (h1 : x ≤ 0 → G E R k Z ca sl tgt lv st M) (h2 : ¬ x ≤ 0 → G E R k Z ca sl (pc + 3) lv st M) : G E R k Z ca sl pc lv (vI x :: st) M :=
  fun p l e s m args below meth c H locs ls C hw hy hS hl => lv_if_le C.1 C.2.1 hd ht (fun q => h1 q p l e s m args below meth c H locs ls C hw hy hS hl) (fun q => h2 q p l e s m args below meth c H locs ls C hw hy hS hl)
theorem g_icmp_eq {x y : Int32} {o : Int} {tgt : Nat} (hd : decode k.2.1 pc = .ok (.if_icmp .eq o, 3)) (ht : (pc : Int) + o = (tgt : Int)) (h1 : x = y → G E R k Z ca sl tgt lv st M) (h2 : ¬ x = y → G E R k Z ca sl (pc + 3) lv st M) : G E R k Z ca sl pc lv (vI y :: vI x :: st) M :=
  fun p l e s m args below meth c H locs ls C hw hy hS hl => lv_icmp_eq C.1 C.2.1 hd ht (fun q => h1 q p l e s m args below meth c H locs ls C hw hy hS hl) (fun q => h2 q p l e s m args below meth c H locs ls C hw hy hS hl)
theorem g_icmp_ne {x y : Int32} {o : Int} {tgt : Nat} (hd : decode k.2.1 pc = .ok (.if_icmp .ne o, 3)) (ht : (pc : Int) + o = (tgt : Int)) (h1 : ¬ x = y → G E R k Z ca sl tgt lv st M) (h2 : x = y → G E R k Z ca sl (pc + 3) lv st M) : G E R k Z ca sl pc lv (vI y :: vI x :: st) M :=
  fun p l e s m args below meth c H locs ls C hw hy hS hl => lv_icmp_ne C.1 C.2.1 hd ht (fun q => h1 q p l e s m args below meth c H locs ls C hw hy hS hl) (fun q => h2 q p l e s m args below meth c H locs ls C hw hy hS hl)
theorem g_icmp_lt {x y : Int32} {o : Int} {tgt : Nat} (hd : decode k.2.1 pc = .ok (.if_icmp .lt o, 3)) (ht : (pc : Int) + o = (tgt : Int)) (h1 : x < y → G E R k Z ca sl tgt lv st M) (h2 : ¬ x < y → G E R k Z ca sl (pc + 3) lv st M) : G E R k Z ca sl pc lv (vI y :: vI x :: st) M :=
  fun p l e s m args below meth c H locs ls C hw hy hS hl => lv_icmp_lt C.1 C.2.1 hd ht (fun q => h1 q p l e s m args below meth c H locs ls C hw hy hS hl) (fun q => h2 q p l e s m args below meth c H locs ls C hw hy hS hl)
theorem g_icmp_ge {x y : Int32} {o : Int} {tgt : Nat} (hd : decode k.2.1 pc = .ok (.if_icmp .ge o, 3)) (ht : (pc : Int) + o = (tgt : Int)) (h1 : y ≤ x → G E R k Z ca sl tgt lv st M) (h2 : ¬ y ≤ x → G E R k Z ca sl (pc + 3) lv st M) : G E R k Z ca sl pc lv (vI y :: vI x :: st) M :=
  fun p l e s m args below meth c H locs ls C hw hy hS hl => lv_icmp_ge C.1 C.2.1 hd ht (fun q => h1 q p l e s m args below meth c H locs ls C hw hy hS hl) (fun q => h2 q p l e s m args below meth c H locs ls C hw hy hS hl)
theorem g_icmp_gt {x y : Int32} {o : Int} {tgt : Nat} (hd : decode k.2.1 pc = .ok (.if_icmp .gt o, 3)) (ht : (pc : Int) + o = (tgt : Int)) (h1 : y < x → G E R k Z ca sl tgt lv st M) (h2 : ¬ y < x → G E R k Z ca sl (pc + 3) lv st M) : G E R k Z ca sl pc lv (vI y :: vI x :: st) M :=
  fun p l e s m args below meth c H locs ls C hw hy hS hl => lv_icmp_gt C.1 C.2.1 hd ht (fun q => h1 q p l e s m args below meth c H locs ls C hw hy hS hl) (fun q => h2 q p l e s m args below meth c H locs ls C hw hy hS hl)
theorem g_icmp_le {x y : Int32} {o : Int} {tgt : Nat} (hd : decode k.2.1 pc = .ok (.if_icmp .le o, 3)) (ht : (pc : Int) + o = (tgt : Int)) (h1 : x ≤ y → G E R k Z ca sl tgt lv st M) (h2 : ¬ x ≤ y → G E R k Z ca sl (pc + 3) lv st M) : G E R k Z ca sl pc lv (vI y :: vI x :: st) M :=
  fun p l e s m args below meth c H locs ls C hw hy hS hl => lv_icmp_le C.1 C.2.1 hd ht (fun q => h1 q p l e s m args below meth c H locs ls C hw hy hS hl) (fun q => h2 q p l e s m args below meth c H locs ls C hw hy hS hl)
theorem g_tableOut {d lo hi : Int} {os : Array Int} {len : Nat} {x : Int32} {tgt : Nat} (hd : decode k.2.1 pc = .ok (.tableswitch d lo hi os, len)) (hx : x.toInt < lo ∨ hi < x.toInt) (ht : (pc : Int) + d = (tgt : Int)) (h : G E R k Z ca sl tgt lv st M) : G E R k Z ca sl pc lv (vI x :: st) M :=
  fun p l e s m args below meth c H locs ls C hw hy hS hl => lv_tableOut C.1 C.2.1 hd hx ht (h p l e s m args below meth c H locs ls C hw hy hS hl)
theorem g_tableIn {d lo hi : Int} {os : Array Int} {len : Nat} {x : Int32} {o : Int} {tgt : Nat} (hd : decode k.2.1 pc = .ok (.tableswitch d lo hi os, len)) (h1 : ¬ x.toInt < lo) (h2 : ¬ hi < x.toInt) (ho : os[(x.toInt - lo).toNat]? = some o) (ht : (pc : Int) + o = (tgt : Int)) (h : G E R k Z ca sl tgt lv st M) : G E R k Z ca sl pc lv (vI x :: st) M :=
  fun p l e s m args below meth c H locs ls C hw hy hS hl => lv_tableIn C.1 C.2.1 hd h1 h2 ho ht (h p l e s m args below meth c H locs ls C hw hy hS hl)
theorem g_lookup {d : Int} {ps : Array (Int × Int)} {len : Nat} {x : Int32} {o : Int} {tgt : Nat} (hd : decode k.2.1 pc = .ok (.lookupswitch d ps, len)) (hp : (ps.toList.zip (ps.toList.drop 1)).all (fun (a, next) => a.1 < next.1) = true) (ho : Op.lookupswitch.offset ps.toList d x.toInt = o) (ht : (pc : Int) + o = (tgt : Int)) (h : G E R k Z ca sl tgt lv st M) : G E R k Z ca sl pc lv (vI x :: st) M :=
  fun p l e s m args below meth c H locs ls C hw hy hS hl => lv_lookup C.1 C.2.1 hd hp ho ht (h p l e s m args below meth c H locs ls C hw hy hS hl)
theorem g_ldc {idx : Nat} {v : Int32} (hd : decode k.2.1 pc = .ok (.ldc idx, 2)) (hc : Jvm.Cond.constant k.1.cls idx v ∈ TB) (h : G E R k Z ca sl (pc + 2) lv (vI v :: st) M) : G E R k Z ca sl pc lv st M :=
  fun p l e s m args below meth c H locs ls C hw hy hS hl => lv_ldc C.1 C.2.1 C.2.2.2.2.2.1 (C.2.2.2.2.2.2.1 _ hc) hd (h p l e s m args below meth c H locs ls C hw hy hS hl)
theorem g_ldcw {idx : Nat} {v : Int32} (hd : decode k.2.1 pc = .ok (.ldc_w idx, 3)) (hc : Jvm.Cond.constant k.1.cls idx v ∈ TB) (h : G E R k Z ca sl (pc + 3) lv (vI v :: st) M) : G E R k Z ca sl pc lv st M :=
  fun p l e s m args below meth c H locs ls C hw hy hS hl => lv_ldcw C.1 C.2.1 C.2.2.2.2.2.1 (C.2.2.2.2.2.2.1 _ hc) hd (h p l e s m args below meth c H locs ls C hw hy hS hl)
theorem g_ldc2 {idx : Nat} {v : Int64} (hd : decode k.2.1 pc = .ok (.ldc2_w idx, 3)) (hc : Jvm.Cond.constantLong k.1.cls idx v ∈ TB) (h : G E R k Z ca sl (pc + 3) lv (vL v :: st) M) : G E R k Z ca sl pc lv st M :=
  fun p l e s m args below meth c H locs ls C hw hy hS hl => lv_ldc2 C.1 C.2.1 C.2.2.2.2.2.1 (C.2.2.2.2.2.2.1 _ hc) hd (h p l e s m args below meth c H locs ls C hw hy hS hl)
end RG
end
section
/-! FIELDS, ARRAYS, STATICS -/
theorem fw_ok0 : ∀ w ∈ u_ws RX0 TX0 5, w ∈ lw_tbl ∧ goodWord w = true := by decide +kernel
theorem fw_ok1 : ∀ w ∈ u_ws RX1 TX1 4, w ∈ lw_tbl ∧ goodWord w = true := by decide +kernel
theorem fw_ok2 : ∀ w ∈ u_ws RX2 TX2 10, w ∈ lw_tbl ∧ goodWord w = true := by decide +kernel
theorem fw_ok3 : ∀ w ∈ u_ws RX3 TX3 6, w ∈ lw_tbl ∧ goodWord w = true := by decide +kernel
theorem fw_ok4 : ∀ w ∈ u_ws RX4 TX4 9, w ∈ lw_tbl ∧ goodWord w = true := by decide +kernel
theorem fw_ok5 : ∀ w ∈ u_ws RX5 TX5 4, w ∈ lw_tbl ∧ goodWord w = true := by decide +kernel
theorem fw_ok6 : ∀ w ∈ u_ws RX6 TX6 11, w ∈ lw_tbl ∧ goodWord w = true := by decide +kernel
theorem fw_ok7 : ∀ w ∈ u_ws RX7 TX7 50, w ∈ lw_tbl ∧ goodWord w = true := by decide +kernel
def ClsOk (c : Nat) (q : vw_C) : Prop := (∀ k, k < q.2.2 → parseFieldDescriptor (q.2.1 k).2.2.1 = some (tyOf c k)) ∧ (∀ a, a < q.2.2 → ∀ b, b < q.2.2 → a ≠ b → (q.2.1 a).2.1 ≠ (q.2.1 b).2.1) ∧ q.2.2 = nfl c ∧ ∀ w ∈ u_ws q.1 q.2.1 q.2.2, w ∈ TB
theorem cls_ok {c : Nat} {q : vw_C} (h : classes[c]? = some q) : ClsOk c q := by
  match c, h with
  | 0, h => cases h; exact ⟨tyX0_ok, nmX0, rfl, fun w hw => List.mem_filter.mpr (fw_ok0 w hw)⟩
  | 1, h => cases h; exact ⟨tyX1_ok, nmX1, rfl, fun w hw => List.mem_filter.mpr (fw_ok1 w hw)⟩
  | 2, h => cases h; exact ⟨tyX2_ok, nmX2, rfl, fun w hw => List.mem_filter.mpr (fw_ok2 w hw)⟩
  | 3, h => cases h; exact ⟨tyX3_ok, nmX3, rfl, fun w hw => List.mem_filter.mpr (fw_ok3 w hw)⟩
  | 4, h => cases h; exact ⟨tyX4_ok, nmX4, rfl, fun w hw => List.mem_filter.mpr (fw_ok4 w hw)⟩
  | 5, h => cases h; exact ⟨tyX5_ok, nmX5, rfl, fun w hw => List.mem_filter.mpr (fw_ok5 w hw)⟩
  | 6, h => cases h; exact ⟨tyX6_ok, nmX6, rfl, fun w hw => List.mem_filter.mpr (fw_ok6 w hw)⟩
  | 7, h => cases h; exact ⟨tyX7_ok, nmX7, rfl, fun w hw => List.mem_filter.mpr (fw_ok7 w hw)⟩
  | n + 8, h => simp [classes] at h
/-- a field, by the index of the pool of a class -/
def FL (cls : String) (c fk idx : Nat) (fin : Bool) : Prop := ∃ q : vw_C, classes[c]? = some q ∧ fk < q.2.2 ∧ (q.2.1 fk).1 = q.1 ∧ (q.2.1 fk).2.2.2 = fin ∧ Cond.fieldLink cls idx q.1 (q.2.1 fk).2.1 (q.2.1 fk).2.2.1 ∈ TB
/-- an object of the world -/
theorem Wdy.ob {E : Ev} {M : Mem} {H : Heap} {a : Id} {c : Nat} (h : Wdy E M H) (hs : shp a = (0, c)) (ha : vld a = true) (hn : off a < mN M) : t_OB (ad E a) ((eD E).1 c) (nfl c) ((eD E).2 c) H (fval E M c a) := by
  have := h.2 a ha hn
  unfold cellAt at this
  rw [hs] at this
  exact this
theorem Wdy.ar1 {E : Ev} {M : Mem} {H : Heap} {a : Id} {n : Nat} (h : Wdy E M H) (hs : shp a = (1, n)) (ha : vld a = true) (hn : off a < mN M) : H[ad E a]? = some (arrV (eA E 0) n fun j => .int (mI M a j)) := by
  have := h.2 a ha hn
  unfold cellAt at this
  rw [hs] at this
  exact this
theorem Wdy.ar2 {E : Ev} {M : Mem} {H : Heap} {a : Id} {n : Nat} (h : Wdy E M H) (hs : shp a = (2, n)) (ha : vld a = true) (hn : off a < mN M) : H[ad E a]? = some (arrV (eA E 1) n fun j => .long (mJ M a j)) := by
  have := h.2 a ha hn
  unfold cellAt at this
  rw [hs] at this
  exact this
theorem Wdy.ar3 {E : Ev} {M : Mem} {H : Heap} {a : Id} {n : Nat} (h : Wdy E M H) (hs : shp a = (3, n)) (ha : vld a = true) (hn : off a < mN M) : H[ad E a]? = some (arrV (eA E 2) n fun j => orf E (mR M a j)) := by
  have := h.2 a ha hn
  unfold cellAt at this
  rw [hs] at this
  exact this
theorem Wdy.ar4 {E : Ev} {M : Mem} {H : Heap} {a : Id} {n : Nat} (h : Wdy E M H) (hs : shp a = (4, n)) (ha : vld a = true) (hn : off a < mN M) : H[ad E a]? = some (arrV (eA E 3) n fun j => orf E (mR M a j)) := by
  have := h.2 a ha hn
  unfold cellAt at this
  rw [hs] at this
  exact this
/-- an index that is a number below n -/
theorem ix_in {i : Int32} {j n : Nat} (hi : i = nI j) (hj : j < n) (hn : n < 2 ^ 31) : vp_in i n ∧ i.toNatClampNeg = j := by
  subst hi
  exact ⟨vp_in_nI hj hn, nI_clamp (by omega)⟩
theorem eZ_ad {E : Ev} {a : Id} : eZ E (ad E a) := Nat.le_add_right _ _
section RM
variable {E : Ev} {R : Room} {k : MK} {Z : ZT} {ca sl pc : Nat} {lv : List (Option AV)} {st : List AV} {M : Mem}
theorem g_getf {a : Id} {c fk idx : Nat} {fin : Bool} {v : AV} (hd : decode k.2.1 pc = .ok (.getfield idx, 3)) (hf : FL k.1.cls c fk idx fin) (hs : shp a = (0, c)) (ha : vld a = true) (hn : off a < mN M) (hv : fval E M c a fk = cv E v)
    (h : G E R k Z ca sl (pc + 3) lv (v :: st) M) : G E R k Z ca sl pc lv (vR a :: st) M := by
  intro p l e s m args below meth c0 H locs ls C hw hy hS hl
  obtain ⟨q, hc, hk, hC, -, hlink⟩ := hf
  obtain ⟨-, -, hN, hin⟩ := cls_ok hc
  have hts := C.2.2.2.2.2.2.1
  obtain ⟨cell, q1, q2, q3, q4⟩ := hy.ob hs ha hn
  obtain ⟨hSl, hfc, kC, hkC, hkind⟩ := hw.1 c _ hc
  obtain ⟨cf, kf, fi, f, hi, hsl⟩ := hSl fk hk
  rw [hC] at hi
  refine W.getf C.1 C.2.1 C.2.2.2.2.2.1 (hts _ hlink) hi (u_facts hfc hkC (u_lays hts hin hk) (by rw [hC]; exact hi)).1 q1 (by rw [q3]; exact fun h => by cases h) (v := cv E v) ?_ rfl rfl hd (h p l e s m args below meth c0 H locs ls C hw hy hS hl)
  rw [hsl, q4 fk (by rw [← hN]; exact hk), hv]
theorem g_getI {a : Id} {c fk idx : Nat} {fin : Bool} (hd : decode k.2.1 pc = .ok (.getfield idx, 3)) (hf : FL k.1.cls c fk idx fin) (hs : shp a = (0, c)) (ha : vld a = true) (hn : off a < mN M) (ht : fval E M c a fk = .int (mI M a fk))
    (h : G E R k Z ca sl (pc + 3) lv (vI (mI M a fk) :: st) M) : G E R k Z ca sl pc lv (vR a :: st) M := g_getf (v := vI (mI M a fk)) hd hf hs ha hn ht h
theorem g_getR {a b : Id} {c fk idx : Nat} {fin : Bool} (hd : decode k.2.1 pc = .ok (.getfield idx, 3)) (hf : FL k.1.cls c fk idx fin) (hs : shp a = (0, c)) (ha : vld a = true) (hn : off a < mN M) (hr : mR M a fk = some b) (ht : fval E M c a fk = orf E (mR M a fk))
    (h : G E R k Z ca sl (pc + 3) lv (vR b :: st) M) : G E R k Z ca sl pc lv (vR a :: st) M := g_getf (v := vR b) hd hf hs ha hn (by rw [ht, hr]; rfl) h
theorem g_putf {a : Id} {c fk idx : Nat} {v : AV} {M' : Mem} (hd : decode k.2.1 pc = .ok (.putfield idx, 3)) (hf : FL k.1.cls c fk idx false) (hs : shp a = (0, c)) (ha : vld a = true) (hn : off a < mN M)
    (hnar : narrow (tyOf c fk) (cv E v) = cv E v) (hfit : fits (tyOf c fk) (cv E v) = true) (hM : mN M' = mN M) (hk : ∀ b : Id, b ≠ a → mI M' b = mI M b ∧ mJ M' b = mJ M b ∧ mR M' b = mR M b) (hV : ∀ j, fval E M' c a j = if j = fk then cv E v else fval E M c a j)
    (h : G E R k Z ca sl (pc + 3) lv st M') : G E R k Z ca sl pc lv (v :: vR a :: st) M := by
  intro p l e s m args below meth c0 H locs ls C hw hy hS hl
  obtain ⟨q, hc, hkk, hC, hfin, hlink⟩ := hf
  obtain ⟨hty, hnm, hN, hin⟩ := cls_ok hc
  have hts := C.2.2.2.2.2.2.1
  have hK : va_K (eD E) classes [] s := ⟨hw.1, fun k q h => by simp at h⟩
  have hap := va_apart (own := k.1.cls) hts hin (tyOf c) hty hnm hK hc
  obtain ⟨cell, q1, q2, q3, q4⟩ := hy.ob hs ha hn
  rw [← hN] at q4
  obtain ⟨hSl, hfc, kC, hkC, hkind⟩ := hw.1 c _ hc
  obtain ⟨cf, kf, fi, f, hi, hsl⟩ := hSl fk hkk
  have hlay := hts _ (hin _ (u_in_lay hkk))
  unfold u_lay at hlay
  rw [if_neg (by rw [hfin]; decide)] at hlay
  have hst := (u_facts hfc hkC (u_lays hts hin hkk) hi).1
  have h6 := u_store hfc hkC hkind hlay hi (hty fk hkk) hnar hfit
  rw [hC] at hi
  refine W.putK C.1 C.2.1 (f := f) ⟨C.2.2.2.2.2.1, hts _ hlink, ⟨_, _, _, hi⟩, hst⟩ (by rw [q2]; exact h6) q1 q3 (by rw [hsl]; exact k2_hasslot (q4 fk hkk)) rfl rfl hd fun H' e1 e2 e3 => ?_
  rw [hsl] at e1 ⊢
  refine h p l e s m args below meth c0 H' _ ls C hw (hy.set ha hM e2 e3 ?_ hk) (hS.put e2 e3 eZ_ad) hl
  unfold cellAt
  rw [hs]
  exact t_OB.to (V := updV (fval E M c a) fk (cv E v)) ⟨_, e1, q2, q3, by rw [← hN]; exact t_set q4 hap hkk _⟩ (fun j _ => by rw [hV]; rfl)
theorem sI_hk {M : Mem} {a : Id} {k : Nat} {x : Int32} : ∀ b : Id, b ≠ a → mI (sI M a k x) b = mI M b ∧ mJ (sI M a k x) b = mJ M b ∧ mR (sI M a k x) b = mR M b := fun b hb => ⟨by funext j; simp [mI, sI, hb], rfl, rfl⟩
theorem sJ_hk {M : Mem} {a : Id} {k : Nat} {x : Int64} : ∀ b : Id, b ≠ a → mI (sJ M a k x) b = mI M b ∧ mJ (sJ M a k x) b = mJ M b ∧ mR (sJ M a k x) b = mR M b := fun b hb => ⟨rfl, by funext j; simp [mJ, sJ, hb], rfl⟩
theorem sR_hk {M : Mem} {a : Id} {k : Nat} {x : Option Id} : ∀ b : Id, b ≠ a → mI (sR M a k x) b = mI M b ∧ mJ (sR M a k x) b = mJ M b ∧ mR (sR M a k x) b = mR M b := fun b hb => ⟨rfl, rfl, by funext j; simp [mR, sR, hb]⟩
/-- of a field's type: 0 int, 1 boolean, 2 reference -/
def tk (c fk : Nat) : Nat := match tyOf c fk with
  | .int => 0
  | .boolean => 1
  | _ => 2
theorem fval_sI {E : Ev} {M : Mem} {c : Nat} {a : Id} {fk : Nat} {x : Int32} (h : tyOf c fk = .int ∨ tyOf c fk = .boolean) (j : Nat) : fval E (sI M a fk x) c a j = if j = fk then .int x else fval E M c a j := by
  by_cases hj : j = fk
  · subst hj
    rw [if_pos rfl]
    rcases h with h | h <;> simp [fval, h, mI, sI]
  · rw [if_neg hj]
    simp [fval, mI, mR, sI, hj]
theorem g_putI {a : Id} {c fk idx : Nat} {x : Int32} (hd : decode k.2.1 pc = .ok (.putfield idx, 3)) (hf : FL k.1.cls c fk idx false) (hs : shp a = (0, c)) (ha : vld a = true) (hn : off a < mN M) (ht : tyOf c fk = .int)
    (h : G E R k Z ca sl (pc + 3) lv st (sI M a fk x)) : G E R k Z ca sl pc lv (vI x :: vR a :: st) M :=
  g_putf (M' := sI M a fk x) hd hf hs ha hn (by rw [ht]; rfl) (by rw [ht]; rfl) rfl sI_hk (fun j => fval_sI (Or.inl ht) j) h
theorem nar_z {x : Int32} (h : x = 0 ∨ x = 1) : narrow .boolean (.int x) = .int x ∧ fits .boolean (.int x) = true := by
  rcases h with rfl | rfl <;> exact ⟨by decide +kernel, by decide +kernel⟩
theorem g_putZ {a : Id} {c fk idx : Nat} {x : Int32} (hd : decode k.2.1 pc = .ok (.putfield idx, 3)) (hf : FL k.1.cls c fk idx false) (hs : shp a = (0, c)) (ha : vld a = true) (hn : off a < mN M) (ht : tyOf c fk = .boolean) (hx : x = 0 ∨ x = 1)
    (h : G E R k Z ca sl (pc + 3) lv st (sI M a fk x)) : G E R k Z ca sl pc lv (vI x :: vR a :: st) M :=
  g_putf (M' := sI M a fk x) hd hf hs ha hn (by rw [ht]; exact (nar_z hx).1) (by rw [ht]; exact (nar_z hx).2) rfl sI_hk (fun j => fval_sI (Or.inr ht) j) h
/-! arrays -/
theorem g_iald {a : Id} {n j : Nat} {i : Int32} (hd : decode k.2.1 pc = .ok (.iaload, 1)) (hs : shp a = (1, n)) (ha : vld a = true) (hn : off a < mN M) (hi : i = nI j) (hj : j < n) (hn2 : n < 2 ^ 31)
    (h : G E R k Z ca sl (pc + 1) lv (vI (mI M a j) :: st) M) : G E R k Z ca sl pc lv (vI i :: vR a :: st) M := by
  intro p l e s m args below meth c0 H locs ls C hw hy hS hl
  obtain ⟨h1, h2⟩ := ix_in hi hj hn2
  exact W.iald (v := .int (mI M a j)) C.1 C.2.1 (hy.ar1 hs ha hn) (hw.2.1.1.1 n _) (fun q => by cases q) (by rw [arrV_size]; exact h1) (by rw [h2, arrV_read _ _ hj]) rfl rfl hd (h p l e s m args below meth c0 H locs ls C hw hy hS hl)
theorem g_lald {a : Id} {n j : Nat} {i : Int32} (hd : decode k.2.1 pc = .ok (.laload, 1)) (hs : shp a = (2, n)) (ha : vld a = true) (hn : off a < mN M) (hi : i = nI j) (hj : j < n) (hn2 : n < 2 ^ 31)
    (h : G E R k Z ca sl (pc + 1) lv (vL (mJ M a j) :: st) M) : G E R k Z ca sl pc lv (vI i :: vR a :: st) M := by
  intro p l e s m args below meth c0 H locs ls C hw hy hS hl
  obtain ⟨h1, h2⟩ := ix_in hi hj hn2
  exact W.lald (v := .long (mJ M a j)) C.1 C.2.1 (hy.ar2 hs ha hn) (hw.2.1.2.1.1 n _) (fun q => by cases q) (by rw [arrV_size]; exact h1) (by rw [h2, arrV_read _ _ hj]) rfl rfl hd (h p l e s m args below meth c0 H locs ls C hw hy hS hl)
theorem g_aald3 {a b : Id} {n j : Nat} {i : Int32} (hd : decode k.2.1 pc = .ok (.aaload, 1)) (hs : shp a = (3, n)) (ha : vld a = true) (hn : off a < mN M) (hi : i = nI j) (hj : j < n) (hn2 : n < 2 ^ 31) (hr : mR M a j = some b)
    (h : G E R k Z ca sl (pc + 1) lv (vR b :: st) M) : G E R k Z ca sl pc lv (vI i :: vR a :: st) M := by
  intro p l e s m args below meth c0 H locs ls C hw hy hS hl
  obtain ⟨h1, h2⟩ := ix_in hi hj hn2
  exact W.aald (v := .ref (ad E b)) (ty := .object RX2) C.1 C.2.1 (hy.ar3 hs ha hn) (hw.2.1.2.2.1.1 n _) rfl (fun q => by cases q) (by rw [arrV_size]; exact h1) (by rw [h2, arrV_read _ _ hj, hr]; rfl) rfl rfl hd (h p l e s m args below meth c0 H locs ls C hw hy hS hl)
theorem g_aald4 {a b : Id} {n j : Nat} {i : Int32} (hd : decode k.2.1 pc = .ok (.aaload, 1)) (hs : shp a = (4, n)) (ha : vld a = true) (hn : off a < mN M) (hi : i = nI j) (hj : j < n) (hn2 : n < 2 ^ 31) (hr : mR M a j = some b)
    (h : G E R k Z ca sl (pc + 1) lv (vR b :: st) M) : G E R k Z ca sl pc lv (vI i :: vR a :: st) M := by
  intro p l e s m args below meth c0 H locs ls C hw hy hS hl
  obtain ⟨h1, h2⟩ := ix_in hi hj hn2
  exact W.aald (v := .ref (ad E b)) (ty := .object RX5) C.1 C.2.1 (hy.ar4 hs ha hn) (hw.2.1.2.2.2.1 n _) rfl (fun q => by cases q) (by rw [arrV_size]; exact h1) (by rw [h2, arrV_read _ _ hj, hr]; rfl) rfl rfl hd (h p l e s m args below meth c0 H locs ls C hw hy hS hl)
theorem g_alen {a : Id} {t n : Nat} (hd : decode k.2.1 pc = .ok (.arraylength, 1)) (hs : shp a = (t, n)) (ht : t = 1 ∨ t = 2 ∨ t = 3 ∨ t = 4) (ha : vld a = true) (hn : off a < mN M)
    (h : G E R k Z ca sl (pc + 1) lv (vI (nI n) :: st) M) : G E R k Z ca sl pc lv (vR a :: st) M := by
  intro p l e s m args below meth c0 H locs ls C hw hy hS hl
  have hk := h p l e s m args below meth c0 H locs ls C hw hy hS hl
  rcases ht with rfl | rfl | rfl | rfl
  · exact W.alen C.1 C.2.1 (hy.ar1 hs ha hn) (hw.2.1.1.1 n _) (by rw [arrV_size]; rfl) rfl rfl hd hk
  · exact W.alen C.1 C.2.1 (hy.ar2 hs ha hn) (hw.2.1.2.1.1 n _) (by rw [arrV_size]; rfl) rfl rfl hd hk
  · exact W.alen C.1 C.2.1 (hy.ar3 hs ha hn) (hw.2.1.2.2.1.1 n _) (by rw [arrV_size]; rfl) rfl rfl hd hk
  · exact W.alen C.1 C.2.1 (hy.ar4 hs ha hn) (hw.2.1.2.2.2.1 n _) (by rw [arrV_size]; rfl) rfl rfl hd hk
theorem g_iast {a : Id} {n j : Nat} {i x : Int32} (hd : decode k.2.1 pc = .ok (.iastore, 1)) (hs : shp a = (1, n)) (ha : vld a = true) (hn : off a < mN M) (hi : i = nI j) (hj : j < n) (hn2 : n < 2 ^ 31)
    (h : G E R k Z ca sl (pc + 1) lv st (sI M a j x)) : G E R k Z ca sl pc lv (vI x :: vI i :: vR a :: st) M := by
  intro p l e s m args below meth c0 H locs ls C hw hy hS hl
  obtain ⟨h1, h2⟩ := ix_in hi hj hn2
  refine W.iast C.1 C.2.1 (hy.ar1 hs ha hn) (hw.2.1.1.1 n _) (fun q => by cases q) (by rw [arrV_size]; exact h1) rfl rfl hd fun H1 e1 z oq => ?_
  refine h p l e s m args below meth c0 H1 _ ls C hw (hy.set ha rfl z oq ?_ sI_hk) (hS.put z oq eZ_ad) hl
  unfold cellAt
  rw [hs]
  show H1[_]? = _
  rw [e1, h2, arrV_store]
  congr 2
  funext q
  by_cases hq : q = j
  · subst hq; simp [updV, mI, sI]
  · simp [updV, mI, sI, hq]
theorem g_last {a : Id} {n j : Nat} {i : Int32} {x : Int64} (hd : decode k.2.1 pc = .ok (.lastore, 1)) (hs : shp a = (2, n)) (ha : vld a = true) (hn : off a < mN M) (hi : i = nI j) (hj : j < n) (hn2 : n < 2 ^ 31)
    (h : G E R k Z ca sl (pc + 1) lv st (sJ M a j x)) : G E R k Z ca sl pc lv (vL x :: vI i :: vR a :: st) M := by
  intro p l e s m args below meth c0 H locs ls C hw hy hS hl
  obtain ⟨h1, h2⟩ := ix_in hi hj hn2
  refine W.last C.1 C.2.1 (hy.ar2 hs ha hn) (hw.2.1.2.1.1 n _) (fun q => by cases q) (by rw [arrV_size]; exact h1) rfl rfl hd fun H1 e1 z oq => ?_
  refine h p l e s m args below meth c0 H1 _ ls C hw (hy.set ha rfl z oq ?_ sJ_hk) (hS.put z oq eZ_ad) hl
  unfold cellAt
  rw [hs]
  show H1[_]? = _
  rw [e1, h2, arrV_store]
  congr 2
  funext q
  by_cases hq : q = j
  · subst hq; simp [updV, mJ, sJ]
  · simp [updV, mJ, sJ, hq]
end RM
end
section
/-! STATICS, RETURNS, CALLS -/
def psh : Option AV → List AV → List AV
  | none, st => st
  | some v, st => v :: st
def vcat (v : AV) : Nat := if nl (some v) then 1 else 2
theorem cv_vcat {E : Ev} {v : AV} : (cv E v).category = vcat v := by
  rcases v with x | x | x | x | x <;> rfl
theorem psh_map {E : Ev} {r : Option AV} {st : List AV} : (psh r st).map (cv E) = (r.map (cv E)).toList ++ st.map (cv E) := by cases r <;> rfl
/-- a method's own facts in the tables -/
def MF (k : MK) (n : Nat) : Prop := Cond.code k.1 k.2.1 k.2.2.1 k.2.2.2 ∈ TB ∧ Cond.initialized k.1.cls ∈ TB ∧ plainName k.1.cls = true ∧ (k.1.cls ≠ "java/lang/invoke/MethodHandle" ∧ k.1.cls ≠ "java/lang/invoke/VarHandle" ∧ (parseMethodDescriptor k.1.desc).map (fun d => d.parameters.length) = some n)
def MV (k : MK) (n : Nat) : Prop := MF k n ∧ Cond.instanceMethod k.1 ∈ TB ∧ Cond.selects k.1.cls k.1 k.1 ∈ TB
def MS (k : MK) (n : Nat) : Prop := MF k n ∧ Cond.static k.1 ∈ TB
def MI (k : MK) (n : Nat) : Prop := MF k n ∧ Cond.instanceMethod k.1 ∈ TB ∧ k.1.name = "<init>"
theorem ws_good {k : MK} {n : Nat} (h : MF k n) : GoodIn TB (ws_ k) := by
  intro w hw
  have hm : w ∈ TB := by
    rcases List.mem_cons.mp hw with rfl | hw
    · exact h.1
    · exact hw
  exact ⟨hm, TB_good hm⟩
theorem blind {E : Ev} {as : List Value} {M : Mem} : FrameBlind (va_Pc as (fun U => Wst E U U.heap ∧ Wdy E M U.heap)) := fun a U g mk h => ⟨h.1, Wst.same (u := U) (U := U.calling g mk a) rfl h.2.1, h.2.2⟩
theorem pre_at {E : Ev} {s : State} {H : Heap} {locs : List Loc} {M : Mem} (hw : Wst E s s.heap) (hy : Wdy E M H) (hS : va_S (eZ E) s.heap H locs) {U : State} (hU : U.heap = H) (hW : s.WarmedH U.vm) : Wst E U U.heap ∧ Wdy E M U.heap := by
  rw [hU]
  exact ⟨(hw.kept hS.1 hS.2.1).moved hW, hy⟩
section RC
variable {E : Ev} {R : Room} {k : MK} {Z : ZT} {ca sl pc : Nat} {lv : List (Option AV)} {st : List AV} {M : Mem}
/-- behind a call -/
theorem g_back {p : Program} {l : Launch} {e : Env} {s : State} {m : MethodId} {args : Array Value} {below : List Frame} {meth : Method} {c : Code} {H : Heap} {locs : List Loc} {ls : Array Slot} {mc ms : Nat} {st0 : List Value} {a : Array Value}
    (hr : va_Run p l e R s m args below meth c H locs ca sl mc ms (F0 m pc ls st0) (st.map (cv E)) (QC E (fun r M' => G E R k Z (ca + mc) (sl + ms) (pc + 3) lv (psh r st) M') a) (eZ E))
    (C : Cx p s m args meth c k) (hw : Wst E s s.heap) (hS : va_S (eZ E) s.heap H locs) (hl : hasL E ls k.2.2.1 lv) : W p l e R s m args below meth c H locs ca sl (Z below args s) (F0 m pc ls st0) := by
  intro T hT X
  obtain ⟨v, st₀, t, T', L, h0, X', hL, e1, e2, ⟨⟨r, M', ho, hG, hy'⟩, hF⟩, hgo⟩ := hr T hT X
  have hv : v = r.map (cv E) := Outcome.returned.inj ho
  have hS' : va_S (eZ E) s.heap t.heap (locs ++ L) := by
    refine ⟨Nat.le_trans hS.1 (by rw [← h0]; exact hF.1), fun q h1 h2 => ?_, fun q hq => ?_⟩
    · rw [hF.2 q (by rw [h0]; exact Nat.lt_of_lt_of_le h1 hS.1) h2, h0]
      exact hS.2.1 q h1 h2
    · rcases List.mem_append.mp hq with h | h
      · exact hS.2.2 q h
      · exact hL q h
  have hk := hG p l e s m args below meth c t.heap (locs ++ L) ls C hw hy' hS' hl
  rw [psh_map, ← hv] at hk
  obtain ⟨t2, a1, b1⟩ := hk T' e1 X'
  exact ⟨t2, hgo t2 a1, b1⟩
theorem cat_sum {E : Ev} {st : List AV} (h : (st.map vcat).sum ≤ 8) : 2 * (0 : Nat) + ((st.map (cv E)).map fun v => v.category).sum ≤ 8 := by
  have : (st.map (cv E)).map (fun v => v.category) = st.map vcat := by rw [List.map_map]; congr 1; funext v; exact cv_vcat
  rw [this]; omega
theorem g_invV {kk : MK} {n n' idx mc ms c : Nat} {a : Id} {q : vw_C} (as : List AV) (hd : decode k.2.1 pc = .ok (.invokevirtual idx, 3)) (mf : MV kk n) (hl0 : Cond.methodLink k.1.cls idx kk.1 ∈ TB) (hs : shp a = (0, c)) (ha : vld a = true) (hn : off a < mN M) (hc : classes[c]? = some q) (hq : q.1 = kk.1.cls) (hlen : as.length = n)
    (hR : n' + 1 ≤ R.frames ∧ 8 + (kk.2.2.1 + 11) + 44 * n' ≤ R.locals) (hf : ca + mc ≤ R.cells ∧ sl + ms ≤ R.slots) (hW : (st.map vcat).sum ≤ 8)
    (hM : Mth E n' mc ms kk (vR a :: as) M (fun r M' => G E R k Z (ca + mc) (sl + ms) (pc + 3) lv (psh r st) M')) : G E R k Z ca sl pc lv (as.reverse ++ vR a :: st) M := by
  intro p l e s m args below meth c0 H locs ls C hw hy hS hl
  have hts := C.2.2.2.2.2.2.1
  obtain ⟨⟨mf1, mf2, mf3, mf4⟩, mi, msl⟩ := mf
  obtain ⟨cell, q1, q2, q3, q4⟩ := hy.ob hs ha hn
  have hcl := (hw.1 c _ hc).2.1
  have hB : CallB R s args k.1.cls idx kk.1 kk.2.1 kk.2.2.1 kk.2.2.2 (ws_ kk) (rm n' mc ms) mc ms n := callB_of n hts (ws_good ⟨mf1, mf2, mf3, mf4⟩) rfl rfl rfl (hts _ mf2) (hts _ hl0) mf4 hR
  refine g_back (va_runV (C := kk.1.cls) (As := as.map (cv E)) (b := ad E a) (rest := st.map (cv E)) (nL := k.2.2.1) (g := F0 m pc ls ((as.reverse ++ vR a :: st).map (cv E))) ⟨C.1, C.2.1, C.2.2.1, C.2.2.2.2.2.1, hts⟩ (hM l) ⟨hB, hts _ mi, hts _ msl⟩ ⟨blind, ⟨cell, q1, by rw [q3]; rfl, by rw [← hq, q2]; exact hcl⟩, fun U hU hWU => ⟨rfl, pre_at hw hy hS hU hWU⟩⟩ rfl (by simpa using hlen) (hl.2.1) (by simp [cv]) (cat_sum hW) hd hf) C hw hS hl
theorem g_invS {kk : MK} {n n' idx mc ms : Nat} (as : List AV) (hd : decode k.2.1 pc = .ok (.invokestatic idx, 3)) (mf : MS kk n) (hl0 : Cond.methodLink k.1.cls idx kk.1 ∈ TB) (hlen : as.length = n)
    (hR : n' + 1 ≤ R.frames ∧ 8 + (kk.2.2.1 + 11) + 44 * n' ≤ R.locals) (hf : ca + mc ≤ R.cells ∧ sl + ms ≤ R.slots) (hW : (st.map vcat).sum ≤ 8)
    (hM : Mth E n' mc ms kk as M (fun r M' => G E R k Z (ca + mc) (sl + ms) (pc + 3) lv (psh r st) M')) : G E R k Z ca sl pc lv (as.reverse ++ st) M := by
  intro p l e s m args below meth c0 H locs ls C hw hy hS hl
  have hts := C.2.2.2.2.2.2.1
  obtain ⟨⟨mf1, mf2, mf3, mf4⟩, mst⟩ := mf
  have hB : CallB R s args k.1.cls idx kk.1 kk.2.1 kk.2.2.1 kk.2.2.2 (ws_ kk) (rm n' mc ms) mc ms n := callB_of n hts (ws_good ⟨mf1, mf2, mf3, mf4⟩) rfl rfl rfl (hts _ mf2) (hts _ hl0) mf4 hR
  refine g_back (va_runS (As := as.map (cv E)) (rest := st.map (cv E)) (nL := k.2.2.1) (g := F0 m pc ls ((as.reverse ++ st).map (cv E))) ⟨C.1, C.2.1, C.2.2.1, C.2.2.2.2.2.1, hts⟩ (hM l) ⟨hB, hts _ mst⟩ ⟨blind, fun U hU hWU => ⟨rfl, pre_at hw hy hS hU hWU⟩⟩ rfl (by simpa using hlen) (hl.2.1) (by simp) (cat_sum hW) hd hf) C hw hS hl
theorem g_invSN {kk : MK} {n n' idx mc ms : Nat} {host : String} (as : List AV) (hd : decode k.2.1 pc = .ok (.invokestatic idx, 3)) (mf : MS kk n) (hl0 : (k.1.cls, idx, kk.1, host) ∈ NBm) (hlen : as.length = n)
    (hR : n' + 1 ≤ R.frames ∧ 8 + (kk.2.2.1 + 11) + 44 * n' ≤ R.locals) (hf : ca + mc ≤ R.cells ∧ sl + ms ≤ R.slots) (hW : (st.map vcat).sum ≤ 8)
    (hM : Mth E n' mc ms kk as M (fun r M' => G E R k Z (ca + mc) (sl + ms) (pc + 3) lv (psh r st) M')) : G E R k Z ca sl pc lv (as.reverse ++ st) M := by
  intro p l e s m args below meth c0 H locs ls C hw hy hS hl
  have hts := C.2.2.2.2.2.2.1
  obtain ⟨⟨mf1, mf2, mf3, mf4⟩, mst⟩ := mf
  refine g_back (va_runSN (host := host) (As := as.map (cv E)) (rest := st.map (cv E)) (nL := k.2.2.1) (g := F0 m pc ls ((as.reverse ++ st).map (cv E))) ⟨C.1, C.2.1, C.2.2.1, C.2.2.2.2.2.1, hts⟩ (hM l) ⟨va_cnB n hts (ws_good ⟨mf1, mf2, mf3, mf4⟩) rfl rfl rfl (hw.2.2.1.1.2 _ hl0) (hts _ mf2) mf4 hR, hts _ mst, trivial⟩ ⟨blind, fun U hU hWU => ⟨rfl, pre_at hw hy hS hU hWU⟩⟩ rfl (by simpa using hlen) (hl.2.1) (by simp) (cat_sum hW) hd hf) C hw hS hl
theorem g_invI {kk : MK} {n n' idx mc ms : Nat} {a : Id} (as : List AV) (hd : decode k.2.1 pc = .ok (.invokespecial idx, 3)) (mf : MI kk n) (hret : kk.2.2.2 = none) (hl0 : Cond.methodLink k.1.cls idx kk.1 ∈ TB) (hlen : as.length = n)
    (hR : n' + 1 ≤ R.frames ∧ 8 + (kk.2.2.1 + 11) + 44 * n' ≤ R.locals) (hf : ca + mc ≤ R.cells ∧ sl + ms ≤ R.slots) (hW : (st.map vcat).sum ≤ 8)
    (hM : Mth E n' mc ms kk (vR a :: as) M (fun r M' => G E R k Z (ca + mc) (sl + ms) (pc + 3) lv (psh r st) M')) : G E R k Z ca sl pc lv (as.reverse ++ vR a :: st) M := by
  intro p l e s m args below meth c0 H locs ls C hw hy hS hl
  have hts := C.2.2.2.2.2.2.1
  obtain ⟨⟨mf1, mf2, mf3, mf4⟩, mi, mn⟩ := mf
  obtain ⟨y, b, mx, rt⟩ := kk
  cases hret
  have hB : CallB R s args k.1.cls idx y b mx none (ws_ (y, b, mx, none)) (rm n' mc ms) mc ms n := callB_of n hts (ws_good ⟨mf1, mf2, mf3, mf4⟩) rfl rfl rfl (hts _ mf2) (hts _ hl0) mf4 hR
  refine g_back (va_runI (As := as.map (cv E)) (b := ad E a) (rest := st.map (cv E)) (nL := k.2.2.1) (g := F0 m pc ls ((as.reverse ++ vR a :: st).map (cv E))) ⟨C.1, C.2.1, C.2.2.1, C.2.2.2.2.2.1, hts⟩ (hM l) ⟨hB, mn, hts _ mi⟩ ⟨blind, fun U hU hWU => ⟨rfl, pre_at hw hy hS hU hWU⟩⟩ rfl (by simpa using hlen) (hl.2.1) (by simp [cv]) (cat_sum hW) hd hf) C hw hS hl
theorem g_invIN {kk : MK} {n n' idx mc ms : Nat} {a : Id} {host : String} (as : List AV) (hd : decode k.2.1 pc = .ok (.invokespecial idx, 3)) (mf : MI kk n) (hret : kk.2.2.2 = none) (hl0 : (k.1.cls, idx, kk.1, host) ∈ NBm) (hlen : as.length = n)
    (hR : n' + 1 ≤ R.frames ∧ 8 + (kk.2.2.1 + 11) + 44 * n' ≤ R.locals) (hf : ca + mc ≤ R.cells ∧ sl + ms ≤ R.slots) (hW : (st.map vcat).sum ≤ 8)
    (hM : Mth E n' mc ms kk (vR a :: as) M (fun r M' => G E R k Z (ca + mc) (sl + ms) (pc + 3) lv (psh r st) M')) : G E R k Z ca sl pc lv (as.reverse ++ vR a :: st) M := by
  intro p l e s m args below meth c0 H locs ls C hw hy hS hl
  have hts := C.2.2.2.2.2.2.1
  obtain ⟨⟨mf1, mf2, mf3, mf4⟩, mi, mn⟩ := mf
  obtain ⟨y, b, mx, rt⟩ := kk
  cases hret
  refine g_back (va_runIN (host := host) (As := as.map (cv E)) (b := ad E a) (rest := st.map (cv E)) (nL := k.2.2.1) (g := F0 m pc ls ((as.reverse ++ vR a :: st).map (cv E))) ⟨C.1, C.2.1, C.2.2.1, C.2.2.2.2.2.1, hts⟩ (hM l) ⟨va_cnB n hts (ws_good (k := (y, b, mx, none)) ⟨mf1, mf2, mf3, mf4⟩) rfl rfl rfl (hw.2.2.1.1.2 _ hl0) (hts _ mf2) mf4 hR, mn, hts _ mi⟩ ⟨blind, fun U hU hWU => ⟨rfl, pre_at hw hy hS hU hWU⟩⟩ rfl (by simpa using hlen) (hl.2.1) (by simp [cv]) (cat_sum hW) hd hf) C hw hS hl
theorem g_gets {t idx : Nat} (hd : decode k.2.1 pc = .ok (.getstatic idx, 3)) (ht : t < 4) (hl0 : Cond.fieldLink k.1.cls idx (roC t) (roF t) "[I" ∈ TB) (h : G E R k Z ca sl (pc + 3) lv (vS t :: st) M) : G E R k Z ca sl pc lv st M :=
  fun p l e s m args below meth c H locs ls C hw hy hS hl => va_gets C.1 C.2.1 (hw.2.2.2.1 t ht).1 hS C.2.2.2.2.2.1 (C.2.2.2.2.2.2.1 _ hl0) (fun _ q => q) hd (h p l e s m args below meth c H locs ls C hw hy hS hl)
theorem g_getsN {t idx : Nat} {host : String} (hd : decode k.2.1 pc = .ok (.getstatic idx, 3)) (ht : t < 4) (hl0 : (k.1.cls, idx, roC t, roF t, "[I", host) ∈ NBf) (h : G E R k Z ca sl (pc + 3) lv (vS t :: st) M) : G E R k Z ca sl pc lv st M :=
  fun p l e s m args below meth c H locs ls C hw hy hS hl => va_getsN C.1 C.2.1 (hw.2.2.2.1 t ht).1 hS C.2.2.2.2.2.1 (va_Nw.use rfl (hw.2.2.1.1.1 _ hl0)) (fun _ q => q) hd (h p l e s m args below meth c H locs ls C hw hy hS hl)
theorem g_ialdS {t j : Nat} {i : Int32} (hd : decode k.2.1 pc = .ok (.iaload, 1)) (ht : t < 4) (hi : i = nI j) (hj : j < (roV t).length) (h : G E R k Z ca sl (pc + 1) lv (vI ((roV t).getD j 0) :: st) M) : G E R k Z ca sl pc lv (vI i :: vS t :: st) M := by
  intro p l e s m args below meth c H locs ls C hw hy hS hl
  have hb : ∀ t, t < 4 → (roV t).length < 2 ^ 31 := by decide +kernel
  obtain ⟨h1, h2⟩ := ix_in hi hj (hb t ht)
  exact va_ti C.1 C.2.1 (hw.2.2.2.1 t ht).2 hS h1 (v := .int ((roV t).getD j 0)) (by rw [h2]) hd (h p l e s m args below meth c H locs ls C hw hy hS hl)
theorem g_alenS {t : Nat} (hd : decode k.2.1 pc = .ok (.arraylength, 1)) (ht : t < 4) (h : G E R k Z ca sl (pc + 1) lv (vI (nI (roV t).length) :: st) M) : G E R k Z ca sl pc lv (vS t :: st) M := by
  intro p l e s m args below meth c H locs ls C hw hy hS hl
  obtain ⟨cell, z1, z2, z3, z4, z5, z6, z7⟩ := (hw.2.2.2.1 t ht).2
  exact W.alen C.1 C.2.1 (by rw [hS.2.1 _ (Array.getElem?_eq_some_iff.mp z1).1 z7]; exact z1) z2 z5 rfl rfl hd (h p l e s m args below meth c H locs ls C hw hy hS hl)
theorem g_ialdX {j : Nat} {i : Int32} (hd : decode k.2.1 pc = .ok (.iaload, 1)) (hi : i = nI j) (hj : j < eL E) (hL : eL E < 2 ^ 31) (h : G E R k Z ca sl (pc + 1) lv (vI (eX E j) :: st) M) : G E R k Z ca sl pc lv (vI i :: vS 4 :: st) M := by
  intro p l e s m args below meth c H locs ls C hw hy hS hl
  obtain ⟨h1, h2⟩ := ix_in hi hj hL
  have hk := h p l e s m args below meth c H locs ls C hw hy hS hl
  rw [← h2] at hk
  exact va_sld C.1 C.2.1 hw.2.2.2.2.1 hw.2.2.2.2.2.1 hw.2.2.2.2.2.2.1 hS h1 hd hk
theorem g_alenX (hd : decode k.2.1 pc = .ok (.arraylength, 1)) (h : G E R k Z ca sl (pc + 1) lv (vI (nI (eL E)) :: st) M) : G E R k Z ca sl pc lv (vS 4 :: st) M :=
  fun p l e s m args below meth c H locs ls C hw hy hS hl => va_slen C.1 C.2.1 hw.2.2.2.2.1 hw.2.2.2.2.2.1 hw.2.2.2.2.2.2.1 hS hd (h p l e s m args below meth c H locs ls C hw hy hS hl)
/-! returns -/
variable {Q : QT}
theorem qc_ret {args : Array Value} {s t : State} {H : Heap} {locs : List Loc} {r : Option AV} (hQ : Q r M) (hy : Wdy E M H) (hS : va_S (eZ E) s.heap H locs) (ht : t.heap = H) : QC E Q args s (.returned (r.map (cv E))) t := ⟨⟨r, M, rfl, hQ, by rw [ht]; exact hy⟩, hS.F ht⟩
theorem g_iret {x : Int32} (hd : decode k.2.1 pc = .ok (.ireturn, 1)) (hr : k.2.2.2 = some .int) (h : Q (some (vI x)) M) : G E R k (ZQ E Q ca sl) ca sl pc lv [vI x] M :=
  fun p l e s m args below meth c H locs ls C hw hy hS hl => W.iret (v := x) C.1 C.2.1 (C.2.2.2.1.trans hr) (fun t ht hW => qc_ret (r := some (vI x)) h hy hS ht) hS.2.2 hd C.2.2.2.2.1
theorem g_zret {x : Int32} (hd : decode k.2.1 pc = .ok (.ireturn, 1)) (hr : k.2.2.2 = some .boolean) (hx : x = 0 ∨ x = 1) (h : Q (some (vI x)) M) : G E R k (ZQ E Q ca sl) ca sl pc lv [vI x] M :=
  fun p l e s m args below meth c H locs ls C hw hy hS hl => W.zret (v := x) C.1 C.2.1 (C.2.2.2.1.trans hr) (nar_z hx).1 (fun t ht hW => qc_ret (r := some (vI x)) h hy hS ht) hS.2.2 hd C.2.2.2.2.1
theorem g_lret {x : Int64} (hd : decode k.2.1 pc = .ok (.lreturn, 1)) (hr : k.2.2.2 = some .long) (h : Q (some (vL x)) M) : G E R k (ZQ E Q ca sl) ca sl pc lv [vL x] M :=
  fun p l e s m args below meth c H locs ls C hw hy hS hl => W.lret (v := x) C.1 C.2.1 (C.2.2.2.1.trans hr) (fun t ht hW => qc_ret (r := some (vL x)) h hy hS ht) hS.2.2 hd C.2.2.2.2.1
theorem g_vret (hd : decode k.2.1 pc = .ok (.return_, 1)) (hr : k.2.2.2 = none) (h : Q none M) : G E R k (ZQ E Q ca sl) ca sl pc lv [] M :=
  fun p l e s m args below meth c H locs ls C hw hy hS hl => W.vret C.1 C.2.1 (C.2.2.2.1.trans hr) (fun t ht hW => qc_ret (r := none) h hy hS ht) hS.2.2 hd C.2.2.2.2.1
theorem g_aret {a : Id} {n : String} (hd : decode k.2.1 pc = .ok (.areturn, 1)) (hr : k.2.2.2 = some (.object n)) (h : Q (some (vR a)) M) : G E R k (ZQ E Q ca sl) ca sl pc lv [vR a] M :=
  fun p l e s m args below meth c H locs ls C hw hy hS hl => W.aret (v := .ref (ad E a)) C.1 C.2.1 (C.2.2.2.1.trans hr) (Or.inl ⟨n, rfl⟩) (Or.inr ⟨_, rfl⟩) (fun t ht hW => qc_ret (r := some (vR a)) h hy hS ht) hS.2.2 hd C.2.2.2.2.1
theorem g_aretS {a : Nat} {n : String} (hd : decode k.2.1 pc = .ok (.areturn, 1)) (hr : k.2.2.2 = some (.object n)) (h : Q (some (vS a)) M) : G E R k (ZQ E Q ca sl) ca sl pc lv [vS a] M :=
  fun p l e s m args below meth c H locs ls C hw hy hS hl => W.aret (v := .ref (eR E a)) C.1 C.2.1 (C.2.2.2.1.trans hr) (Or.inl ⟨n, rfl⟩) (Or.inr ⟨_, rfl⟩) (fun t ht hW => qc_ret (r := some (vS a)) h hy hS ht) hS.2.2 hd C.2.2.2.2.1
/-! a method's contract out of the walk of its body -/
def avs : List AV → List (Option AV)
  | [] => []
  | .inr (.inl x) :: r => some (vL x) :: none :: avs r
  | v :: r => some v :: avs r
end RC
end
section
/-! A METHOD'S CONTRACT OUT OF THE WALK OF ITS BODY -/
theorem lv_args_mono {E : Ev} : ∀ (as : List AV) (j i : Nat) (w : Value), (i, w) ∈ en E j (avs as) → (i, w) ∈ lv_args j (as.map (cv E)) := by
  intro as
  induction as with
  | nil => intro j i w h; cases h
  | cons v r ih =>
    intro j i w h
    rcases v with x | x | x | x | x
    · simp only [avs, en, List.mem_cons] at h
      rcases h with h | h
      · rw [h]; exact List.mem_cons_self
      · exact List.mem_cons_of_mem _ (ih (j + 1) i w h)
    · simp only [avs, en, List.mem_cons] at h
      rcases h with h | h
      · rw [h]; exact List.mem_cons_self
      · exact List.mem_cons_of_mem _ (ih (j + 2) i w h)
    · simp only [avs, en, List.mem_cons] at h
      rcases h with h | h
      · rw [h]; exact List.mem_cons_self
      · exact List.mem_cons_of_mem _ (ih (j + 1) i w h)
    · simp only [avs, en, List.mem_cons] at h
      rcases h with h | h
      · rw [h]; exact List.mem_cons_self
      · exact List.mem_cons_of_mem _ (ih (j + 1) i w h)
    · simp only [avs, en, List.mem_cons] at h
      rcases h with h | h
      · rw [h]; exact List.mem_cons_self
      · exact List.mem_cons_of_mem _ (ih (j + 1) i w h)
theorem en_app {E : Ev} : ∀ (a b : List (Option AV)) (j : Nat), en E j (a ++ b) = en E j a ++ en E (j + a.length) b := by
  intro a
  induction a with
  | nil => intro b j; rfl
  | cons v r ih =>
    intro b j
    cases v with
    | none => simp only [List.cons_append, en, ih, List.length_cons]; rw [Nat.add_assoc, Nat.add_comm 1]
    | some v => simp only [List.cons_append, en, ih, List.length_cons]; rw [Nat.add_assoc, Nat.add_comm 1]
theorem en_rep {E : Ev} : ∀ (n j : Nat), en E j (List.replicate n none) = [] := by
  intro n
  induction n with
  | zero => intro j; rfl
  | succ n ih => intro j; simp only [List.replicate_succ, en, ih]
theorem sl_cons (v : Value) (r : List Value) : lg_sl (v :: r) = (if v.category = 2 then [.val v, .second] else [.val v]) ++ lg_sl r := by rw [lg_sl, List.flatMap_cons]; rfl
theorem sl_len {E : Ev} : ∀ (as : List AV), (lg_sl (as.map (cv E))).length = (avs as).length := by
  intro as
  induction as with
  | nil => rfl
  | cons v r ih =>
    rw [List.map_cons, sl_cons, List.length_append, ih]
    rcases v with x | x | x | x | x
    · rw [if_neg (by rw [cv_vcat]; exact (by decide : ¬ (1 : Nat) = 2))]; simp [avs]; omega
    · rw [if_pos (by rw [cv_vcat]; rfl)]; simp [avs]; omega
    · rw [if_neg (by rw [cv_vcat]; exact (by decide : ¬ (1 : Nat) = 2))]; simp [avs]; omega
    · rw [if_neg (by rw [cv_vcat]; exact (by decide : ¬ (1 : Nat) = 2))]; simp [avs]; omega
    · rw [if_neg (by rw [cv_vcat]; exact (by decide : ¬ (1 : Nat) = 2))]; simp [avs]; omega
theorem mth_of {E : Ev} {n mc ms : Nat} {k : MK} {as : List AV} {M : Mem} {Q : QT} (hp : plainName k.1.cls = true) (lv : List (Option AV)) (hlen : (avs as).length ≤ k.2.2.1) (hlv : avs as ++ List.replicate (k.2.2.1 - (avs as).length) none = lv)
    (hG : G E (rm n mc ms) k (ZQ E Q mc ms) 0 0 0 lv [] M) : Mth E n mc ms k as M Q := by
  intro l
  refine Met.ofW (cc := k.2.1) (maxL := k.2.2.1) (ret := k.2.2.2) hp rfl ?_
  intro p e s m args below meth c s₁ B hml hv
  obtain ⟨rfl, hw, hy⟩ := hv
  have hts0 := atoms_spec (ws := ws_ k) B.pre
  have hlen' : (lg_sl (as.map (cv E))).length ≤ k.2.2.1 := by rw [sl_len]; exact hlen
  have hl := lv_entry (as.map (cv E)) hlen'
  rw [lg_entry_eq]
  generalize (lg_sl (as.map (cv E)) ++ List.replicate (k.2.2.1 - (lg_sl (as.map (cv E))).length) Slot.unset).toArray = ls at hl ⊢
  refine hG p l e s m _ below meth c s.heap [] ls ⟨B.exec, B.bytes, hml, B.returns, B.notSynchronized, findClass_of_methodNamed B.named, fun w hw => hts0 w (List.mem_cons_of_mem _ hw), (name_of_methodNamed B.named B.method).1⟩ hw hy va_S.rf ?_
  subst hlv
  refine ⟨by simp; omega, hl.1, hl.2.1, ?_⟩
  rintro ⟨i, w⟩ hq
  rw [en_app, en_rep, List.append_nil] at hq
  exact hl.2.2 _ (lv_args_mono as 0 i w hq)
theorem Mth.mono {E : Ev} {n mc ms : Nat} {k : MK} {as : List AV} {M : Mem} {Q Q' : QT} (h : Mth E n mc ms k as M Q) (hQ : ∀ r M', Q r M' → Q' r M') : Mth E n mc ms k as M Q' := by
  intro l p e h1 h2 h3 s m args below h4 h5 h6 h7
  obtain ⟨t, o, a1, a2, a3, ⟨⟨r, M', b1, b2, b3⟩, b4⟩, a5⟩ := h l p e h1 h2 h3 s m args below h4 h5 h6 h7
  exact ⟨t, o, a1, a2, a3, ⟨⟨r, M', b1, hQ _ _ b2, b3⟩, b4⟩, a5⟩
end
section
/-! THE WIRING: once all is made, references stand still -/
def wire : Id → Nat → Option Id
  | (0, _, _), 0 => some (1, 0, 0)
  | (0, _, _), 1 => some (1, 1, 0)
  | (0, _, _), 2 => some (1, 2, 0)
  | (0, _, _), 4 => some (4, 0, 0)
  | (0, _, _), 5 => some (7, 0, 0)
  | (0, _, _), 6 => some (5, 8, 0)
  | (0, _, _), 7 => some (8, 0, 0)
  | (0, _, _), 8 => some (10, 0, 0)
  | (0, _, _), 9 => some (12, 0, 0)
  | (1, k, _), 0 => some (3, k, 0)
  | (1, k, _), 1 => some (2, k, 10)
  | (3, k, _), j => if j < 10 then some (2, k, j) else none
  | (5, s, _), 3 => some (6, s, 0)
  | (7, _, _), j => if j < 8 then some (5, j, 0) else none
  | (8, _, _), 0 => some (1, 3, 0)
  | (8, _, _), 2 => some (9, 0, 0)
  | (10, _, _), 1 => some (11, 0, 0)
  | (20, _, _), k => if k < 8 then none else if k < 28 then some (21, k - 8, 0) else if k = 33 then some (21, 20, 0) else if k = 34 then some (21, 21, 0) else if k = 35 then some (21, 22, 0) else if k = 46 then some (21, 23, 0) else if k = 47 then some (21, 24, 0) else none
  | _, _ => none
def Wi2 (X : (Id → Nat → Option Id) × Nat) : Prop := X.2 = 104 ∧ ∀ (a : Id) (k : Nat) (b : Id), vld a = true → wire a k = some b → X.1 a k = some b
def Wi (M : Mem) : Prop := Wi2 M.2.2
theorem Wi.lt {M : Mem} (h : Wi M) {a : Id} (ha : vld a = true) : off a < mN M := by
  show off a < M.2.2.2
  rw [h.1, ← idTable_length]
  simp only [vld, beq_iff_eq] at ha
  exact (List.getElem?_eq_some_iff.mp ha).1
theorem Wi.r {M : Mem} (h : Wi M) {a b : Id} {k : Nat} (ha : vld a = true) (hw : wire a k = some b) : mR M a k = some b := h.2 a k b ha hw
theorem vld_x0 : vld (0, 0, 0) = true := by decide +kernel
theorem vld_x4 : vld (4, 0, 0) = true := by decide +kernel
theorem vld_x7 : vld (7, 0, 0) = true := by decide +kernel
theorem vld_x8 : vld (8, 0, 0) = true := by decide +kernel
theorem vld_x9 : vld (9, 0, 0) = true := by decide +kernel
theorem vld_x10 : vld (10, 0, 0) = true := by decide +kernel
theorem vld_x11 : vld (11, 0, 0) = true := by decide +kernel
theorem vld_x12 : vld (12, 0, 0) = true := by decide +kernel
theorem vld_x20 : vld (20, 0, 0) = true := by decide +kernel
theorem vld_ma {j : Nat} (hj : j < 25) : vld (21, j, 0) = true := by
  have : ∀ j, j < 25 → vld (21, j, 0) = true := by decide +kernel
  exact this j hj
section RK
variable {E : Ev} {R : Room} {k : MK} {Z : ZT} {ca sl pc : Nat} {lv : List (Option AV)} {st : List AV} {M : Mem}
/-! rules once all is made -/
theorem n_getI {a : Id} {c fk idx : Nat} {fin : Bool} (hd : decode k.2.1 pc = .ok (.getfield idx, 3)) (hf : FL k.1.cls c fk idx fin) (hs : shp a = (0, c)) (hW : Wi M) (ha : vld a = true) (ht : tyOf c fk = .int ∨ tyOf c fk = .boolean)
    (h : G E R k Z ca sl (pc + 3) lv (vI (mI M a fk) :: st) M) : G E R k Z ca sl pc lv (vR a :: st) M := g_getI hd hf hs ha (hW.lt ha) (by rcases ht with ht | ht <;> simp [fval, ht]) h
theorem n_getR {a b : Id} {c fk idx : Nat} {fin : Bool} (hd : decode k.2.1 pc = .ok (.getfield idx, 3)) (hf : FL k.1.cls c fk idx fin) (hs : shp a = (0, c)) (hW : Wi M) (ha : vld a = true) (hw : wire a fk = some b) (ht : tk c fk = 2)
    (h : G E R k Z ca sl (pc + 3) lv (vR b :: st) M) : G E R k Z ca sl pc lv (vR a :: st) M := g_getR hd hf hs ha (hW.lt ha) (hW.r ha hw) (by revert ht; simp only [tk, fval]; cases tyOf c fk <;> simp) h
theorem n_putI {a : Id} {c fk idx : Nat} {x : Int32} (hd : decode k.2.1 pc = .ok (.putfield idx, 3)) (hf : FL k.1.cls c fk idx false) (hs : shp a = (0, c)) (hW : Wi M) (ha : vld a = true) (ht : tyOf c fk = .int)
    (h : G E R k Z ca sl (pc + 3) lv st (sI M a fk x)) : G E R k Z ca sl pc lv (vI x :: vR a :: st) M := g_putI hd hf hs ha (hW.lt ha) ht h
theorem n_putZ {a : Id} {c fk idx : Nat} {x : Int32} (hd : decode k.2.1 pc = .ok (.putfield idx, 3)) (hf : FL k.1.cls c fk idx false) (hs : shp a = (0, c)) (hW : Wi M) (ha : vld a = true) (ht : tyOf c fk = .boolean) (hx : x = 0 ∨ x = 1)
    (h : G E R k Z ca sl (pc + 3) lv st (sI M a fk x)) : G E R k Z ca sl pc lv (vI x :: vR a :: st) M := g_putZ hd hf hs ha (hW.lt ha) ht hx h
theorem n_iald {a : Id} {n j : Nat} {i : Int32} (hd : decode k.2.1 pc = .ok (.iaload, 1)) (hs : shp a = (1, n)) (hW : Wi M) (ha : vld a = true) (hn2 : n < 2 ^ 31) (hi : i = nI j) (hj : j < n)
    (h : G E R k Z ca sl (pc + 1) lv (vI (mI M a j) :: st) M) : G E R k Z ca sl pc lv (vI i :: vR a :: st) M := g_iald hd hs ha (hW.lt ha) hi hj hn2 h
theorem n_lald {a : Id} {n j : Nat} {i : Int32} (hd : decode k.2.1 pc = .ok (.laload, 1)) (hs : shp a = (2, n)) (hW : Wi M) (ha : vld a = true) (hn2 : n < 2 ^ 31) (hi : i = nI j) (hj : j < n)
    (h : G E R k Z ca sl (pc + 1) lv (vL (mJ M a j) :: st) M) : G E R k Z ca sl pc lv (vI i :: vR a :: st) M := g_lald hd hs ha (hW.lt ha) hi hj hn2 h
theorem n_aald3 {a b : Id} {n j : Nat} {i : Int32} (hd : decode k.2.1 pc = .ok (.aaload, 1)) (hs : shp a = (3, n)) (hW : Wi M) (ha : vld a = true) (hn2 : n < 2 ^ 31) (hi : i = nI j) (hj : j < n) (hw : wire a j = some b)
    (h : G E R k Z ca sl (pc + 1) lv (vR b :: st) M) : G E R k Z ca sl pc lv (vI i :: vR a :: st) M := g_aald3 hd hs ha (hW.lt ha) hi hj hn2 (hW.r ha hw) h
theorem n_aald4 {a b : Id} {n j : Nat} {i : Int32} (hd : decode k.2.1 pc = .ok (.aaload, 1)) (hs : shp a = (4, n)) (hW : Wi M) (ha : vld a = true) (hn2 : n < 2 ^ 31) (hi : i = nI j) (hj : j < n) (hw : wire a j = some b)
    (h : G E R k Z ca sl (pc + 1) lv (vR b :: st) M) : G E R k Z ca sl pc lv (vI i :: vR a :: st) M := g_aald4 hd hs ha (hW.lt ha) hi hj hn2 (hW.r ha hw) h
theorem n_alen {a : Id} {t n : Nat} (hd : decode k.2.1 pc = .ok (.arraylength, 1)) (hs : shp a = (t, n)) (ht : t = 1 ∨ t = 2 ∨ t = 3 ∨ t = 4) (hW : Wi M) (ha : vld a = true)
    (h : G E R k Z ca sl (pc + 1) lv (vI (nI n) :: st) M) : G E R k Z ca sl pc lv (vR a :: st) M := g_alen hd hs ht ha (hW.lt ha) h
theorem n_iast {a : Id} {n j : Nat} {i x : Int32} (hd : decode k.2.1 pc = .ok (.iastore, 1)) (hs : shp a = (1, n)) (hW : Wi M) (ha : vld a = true) (hn2 : n < 2 ^ 31) (hi : i = nI j) (hj : j < n)
    (h : G E R k Z ca sl (pc + 1) lv st (sI M a j x)) : G E R k Z ca sl pc lv (vI x :: vI i :: vR a :: st) M := g_iast hd hs ha (hW.lt ha) hi hj hn2 h
theorem n_last {a : Id} {n j : Nat} {i : Int32} {x : Int64} (hd : decode k.2.1 pc = .ok (.lastore, 1)) (hs : shp a = (2, n)) (hW : Wi M) (ha : vld a = true) (hn2 : n < 2 ^ 31) (hi : i = nI j) (hj : j < n)
    (h : G E R k Z ca sl (pc + 1) lv st (sJ M a j x)) : G E R k Z ca sl pc lv (vL x :: vI i :: vR a :: st) M := g_last hd hs ha (hW.lt ha) hi hj hn2 h
theorem n_v0i {kk : MK} {n' idx c : Nat} {a : Id} {q : vw_C} (hd : decode k.2.1 pc = .ok (.invokevirtual idx, 3)) (mf : MV kk 0) (hl0 : Cond.methodLink k.1.cls idx kk.1 ∈ TB) (hs : shp a = (0, c)) (hW : Wi M) (ha : vld a = true) (hc : classes[c]? = some q) (hq : q.1 = kk.1.cls) (hR : n' + 1 ≤ R.frames ∧ 8 + (kk.2.2.1 + 11) + 44 * n' ≤ R.locals) (hf : ca ≤ R.cells ∧ sl ≤ R.slots) (hC : (st.map vcat).sum ≤ 8) (hM : Mth E n' 0 0 kk [vR a] M (fun r M' => ∃ x, r = some (vI x) ∧ G E R k Z ca sl (pc + 3) lv (vI x :: st) M')) : G E R k Z ca sl pc lv (vR a :: st) M :=
  g_invV [] hd mf hl0 hs ha (hW.lt ha) hc hq rfl hR hf hC (hM.mono (fun r M' hr => by obtain ⟨x, hx, hg⟩ := hr; subst hx; exact hg))
theorem n_s0i {kk : MK} {n' idx : Nat} (hd : decode k.2.1 pc = .ok (.invokestatic idx, 3)) (mf : MS kk 0) (hl0 : Cond.methodLink k.1.cls idx kk.1 ∈ TB) (hR : n' + 1 ≤ R.frames ∧ 8 + (kk.2.2.1 + 11) + 44 * n' ≤ R.locals) (hf : ca ≤ R.cells ∧ sl ≤ R.slots) (hC : (st.map vcat).sum ≤ 8) (hM : Mth E n' 0 0 kk [] M (fun r M' => ∃ x, r = some (vI x) ∧ G E R k Z ca sl (pc + 3) lv (vI x :: st) M')) : G E R k Z ca sl pc lv (st) M :=
  g_invS [] hd mf hl0 rfl hR hf hC (hM.mono (fun r M' hr => by obtain ⟨x, hx, hg⟩ := hr; subst hx; exact hg))
theorem n_n0i {kk : MK} {n' idx : Nat} {host : String} (hd : decode k.2.1 pc = .ok (.invokestatic idx, 3)) (mf : MS kk 0) (hl0 : (k.1.cls, idx, kk.1, host) ∈ NBm) (hR : n' + 1 ≤ R.frames ∧ 8 + (kk.2.2.1 + 11) + 44 * n' ≤ R.locals) (hf : ca ≤ R.cells ∧ sl ≤ R.slots) (hC : (st.map vcat).sum ≤ 8) (hM : Mth E n' 0 0 kk [] M (fun r M' => ∃ x, r = some (vI x) ∧ G E R k Z ca sl (pc + 3) lv (vI x :: st) M')) : G E R k Z ca sl pc lv (st) M :=
  g_invSN [] hd mf hl0 rfl hR hf hC (hM.mono (fun r M' hr => by obtain ⟨x, hx, hg⟩ := hr; subst hx; exact hg))
theorem n_v0l {kk : MK} {n' idx c : Nat} {a : Id} {q : vw_C} (hd : decode k.2.1 pc = .ok (.invokevirtual idx, 3)) (mf : MV kk 0) (hl0 : Cond.methodLink k.1.cls idx kk.1 ∈ TB) (hs : shp a = (0, c)) (hW : Wi M) (ha : vld a = true) (hc : classes[c]? = some q) (hq : q.1 = kk.1.cls) (hR : n' + 1 ≤ R.frames ∧ 8 + (kk.2.2.1 + 11) + 44 * n' ≤ R.locals) (hf : ca ≤ R.cells ∧ sl ≤ R.slots) (hC : (st.map vcat).sum ≤ 8) (hM : Mth E n' 0 0 kk [vR a] M (fun r M' => ∃ x, r = some (vL x) ∧ G E R k Z ca sl (pc + 3) lv (vL x :: st) M')) : G E R k Z ca sl pc lv (vR a :: st) M :=
  g_invV [] hd mf hl0 hs ha (hW.lt ha) hc hq rfl hR hf hC (hM.mono (fun r M' hr => by obtain ⟨x, hx, hg⟩ := hr; subst hx; exact hg))
theorem n_s0l {kk : MK} {n' idx : Nat} (hd : decode k.2.1 pc = .ok (.invokestatic idx, 3)) (mf : MS kk 0) (hl0 : Cond.methodLink k.1.cls idx kk.1 ∈ TB) (hR : n' + 1 ≤ R.frames ∧ 8 + (kk.2.2.1 + 11) + 44 * n' ≤ R.locals) (hf : ca ≤ R.cells ∧ sl ≤ R.slots) (hC : (st.map vcat).sum ≤ 8) (hM : Mth E n' 0 0 kk [] M (fun r M' => ∃ x, r = some (vL x) ∧ G E R k Z ca sl (pc + 3) lv (vL x :: st) M')) : G E R k Z ca sl pc lv (st) M :=
  g_invS [] hd mf hl0 rfl hR hf hC (hM.mono (fun r M' hr => by obtain ⟨x, hx, hg⟩ := hr; subst hx; exact hg))
theorem n_v0r {kk : MK} {n' idx c : Nat} {a : Id} {q : vw_C} (hd : decode k.2.1 pc = .ok (.invokevirtual idx, 3)) (mf : MV kk 0) (hl0 : Cond.methodLink k.1.cls idx kk.1 ∈ TB) (hs : shp a = (0, c)) (hW : Wi M) (ha : vld a = true) (hc : classes[c]? = some q) (hq : q.1 = kk.1.cls) (hR : n' + 1 ≤ R.frames ∧ 8 + (kk.2.2.1 + 11) + 44 * n' ≤ R.locals) (hf : ca ≤ R.cells ∧ sl ≤ R.slots) (hC : (st.map vcat).sum ≤ 8) (hM : Mth E n' 0 0 kk [vR a] M (fun r M' => ∃ x, r = some (vR x) ∧ G E R k Z ca sl (pc + 3) lv (vR x :: st) M')) : G E R k Z ca sl pc lv (vR a :: st) M :=
  g_invV [] hd mf hl0 hs ha (hW.lt ha) hc hq rfl hR hf hC (hM.mono (fun r M' hr => by obtain ⟨x, hx, hg⟩ := hr; subst hx; exact hg))
theorem n_s0r {kk : MK} {n' idx : Nat} (hd : decode k.2.1 pc = .ok (.invokestatic idx, 3)) (mf : MS kk 0) (hl0 : Cond.methodLink k.1.cls idx kk.1 ∈ TB) (hR : n' + 1 ≤ R.frames ∧ 8 + (kk.2.2.1 + 11) + 44 * n' ≤ R.locals) (hf : ca ≤ R.cells ∧ sl ≤ R.slots) (hC : (st.map vcat).sum ≤ 8) (hM : Mth E n' 0 0 kk [] M (fun r M' => ∃ x, r = some (vR x) ∧ G E R k Z ca sl (pc + 3) lv (vR x :: st) M')) : G E R k Z ca sl pc lv (st) M :=
  g_invS [] hd mf hl0 rfl hR hf hC (hM.mono (fun r M' hr => by obtain ⟨x, hx, hg⟩ := hr; subst hx; exact hg))
theorem n_v0s {kk : MK} {n' idx c : Nat} {a : Id} {q : vw_C} (hd : decode k.2.1 pc = .ok (.invokevirtual idx, 3)) (mf : MV kk 0) (hl0 : Cond.methodLink k.1.cls idx kk.1 ∈ TB) (hs : shp a = (0, c)) (hW : Wi M) (ha : vld a = true) (hc : classes[c]? = some q) (hq : q.1 = kk.1.cls) (hR : n' + 1 ≤ R.frames ∧ 8 + (kk.2.2.1 + 11) + 44 * n' ≤ R.locals) (hf : ca ≤ R.cells ∧ sl ≤ R.slots) (hC : (st.map vcat).sum ≤ 8) (hM : Mth E n' 0 0 kk [vR a] M (fun r M' => ∃ x, r = some (vS x) ∧ G E R k Z ca sl (pc + 3) lv (vS x :: st) M')) : G E R k Z ca sl pc lv (vR a :: st) M :=
  g_invV [] hd mf hl0 hs ha (hW.lt ha) hc hq rfl hR hf hC (hM.mono (fun r M' hr => by obtain ⟨x, hx, hg⟩ := hr; subst hx; exact hg))
theorem n_s0s {kk : MK} {n' idx : Nat} (hd : decode k.2.1 pc = .ok (.invokestatic idx, 3)) (mf : MS kk 0) (hl0 : Cond.methodLink k.1.cls idx kk.1 ∈ TB) (hR : n' + 1 ≤ R.frames ∧ 8 + (kk.2.2.1 + 11) + 44 * n' ≤ R.locals) (hf : ca ≤ R.cells ∧ sl ≤ R.slots) (hC : (st.map vcat).sum ≤ 8) (hM : Mth E n' 0 0 kk [] M (fun r M' => ∃ x, r = some (vS x) ∧ G E R k Z ca sl (pc + 3) lv (vS x :: st) M')) : G E R k Z ca sl pc lv (st) M :=
  g_invS [] hd mf hl0 rfl hR hf hC (hM.mono (fun r M' hr => by obtain ⟨x, hx, hg⟩ := hr; subst hx; exact hg))
theorem n_v0v {kk : MK} {n' idx c : Nat} {a : Id} {q : vw_C} (hd : decode k.2.1 pc = .ok (.invokevirtual idx, 3)) (mf : MV kk 0) (hl0 : Cond.methodLink k.1.cls idx kk.1 ∈ TB) (hs : shp a = (0, c)) (hW : Wi M) (ha : vld a = true) (hc : classes[c]? = some q) (hq : q.1 = kk.1.cls) (hR : n' + 1 ≤ R.frames ∧ 8 + (kk.2.2.1 + 11) + 44 * n' ≤ R.locals) (hf : ca ≤ R.cells ∧ sl ≤ R.slots) (hC : (st.map vcat).sum ≤ 8) (hM : Mth E n' 0 0 kk [vR a] M (fun r M' => r = none ∧ G E R k Z ca sl (pc + 3) lv (st) M')) : G E R k Z ca sl pc lv (vR a :: st) M :=
  g_invV [] hd mf hl0 hs ha (hW.lt ha) hc hq rfl hR hf hC (hM.mono (fun r M' hr => by obtain ⟨hx, hg⟩ := hr; subst hx; exact hg))
theorem n_s0v {kk : MK} {n' idx : Nat} (hd : decode k.2.1 pc = .ok (.invokestatic idx, 3)) (mf : MS kk 0) (hl0 : Cond.methodLink k.1.cls idx kk.1 ∈ TB) (hR : n' + 1 ≤ R.frames ∧ 8 + (kk.2.2.1 + 11) + 44 * n' ≤ R.locals) (hf : ca ≤ R.cells ∧ sl ≤ R.slots) (hC : (st.map vcat).sum ≤ 8) (hM : Mth E n' 0 0 kk [] M (fun r M' => r = none ∧ G E R k Z ca sl (pc + 3) lv (st) M')) : G E R k Z ca sl pc lv (st) M :=
  g_invS [] hd mf hl0 rfl hR hf hC (hM.mono (fun r M' hr => by obtain ⟨hx, hg⟩ := hr; subst hx; exact hg))
theorem n_v1i {kk : MK} {n' idx c : Nat} {a : Id} {q : vw_C} {x1 : AV} (hd : decode k.2.1 pc = .ok (.invokevirtual idx, 3)) (mf : MV kk 1) (hl0 : Cond.methodLink k.1.cls idx kk.1 ∈ TB) (hs : shp a = (0, c)) (hW : Wi M) (ha : vld a = true) (hc : classes[c]? = some q) (hq : q.1 = kk.1.cls) (hR : n' + 1 ≤ R.frames ∧ 8 + (kk.2.2.1 + 11) + 44 * n' ≤ R.locals) (hf : ca ≤ R.cells ∧ sl ≤ R.slots) (hC : (st.map vcat).sum ≤ 8) (hM : Mth E n' 0 0 kk [vR a, x1] M (fun r M' => ∃ x, r = some (vI x) ∧ G E R k Z ca sl (pc + 3) lv (vI x :: st) M')) : G E R k Z ca sl pc lv (x1 :: vR a :: st) M :=
  g_invV [x1] hd mf hl0 hs ha (hW.lt ha) hc hq rfl hR hf hC (hM.mono (fun r M' hr => by obtain ⟨x, hx, hg⟩ := hr; subst hx; exact hg))
theorem n_s1i {kk : MK} {n' idx : Nat} {x1 : AV} (hd : decode k.2.1 pc = .ok (.invokestatic idx, 3)) (mf : MS kk 1) (hl0 : Cond.methodLink k.1.cls idx kk.1 ∈ TB) (hR : n' + 1 ≤ R.frames ∧ 8 + (kk.2.2.1 + 11) + 44 * n' ≤ R.locals) (hf : ca ≤ R.cells ∧ sl ≤ R.slots) (hC : (st.map vcat).sum ≤ 8) (hM : Mth E n' 0 0 kk [x1] M (fun r M' => ∃ x, r = some (vI x) ∧ G E R k Z ca sl (pc + 3) lv (vI x :: st) M')) : G E R k Z ca sl pc lv (x1 :: st) M :=
  g_invS [x1] hd mf hl0 rfl hR hf hC (hM.mono (fun r M' hr => by obtain ⟨x, hx, hg⟩ := hr; subst hx; exact hg))
theorem n_n1i {kk : MK} {n' idx : Nat} {host : String} {x1 : AV} (hd : decode k.2.1 pc = .ok (.invokestatic idx, 3)) (mf : MS kk 1) (hl0 : (k.1.cls, idx, kk.1, host) ∈ NBm) (hR : n' + 1 ≤ R.frames ∧ 8 + (kk.2.2.1 + 11) + 44 * n' ≤ R.locals) (hf : ca ≤ R.cells ∧ sl ≤ R.slots) (hC : (st.map vcat).sum ≤ 8) (hM : Mth E n' 0 0 kk [x1] M (fun r M' => ∃ x, r = some (vI x) ∧ G E R k Z ca sl (pc + 3) lv (vI x :: st) M')) : G E R k Z ca sl pc lv (x1 :: st) M :=
  g_invSN [x1] hd mf hl0 rfl hR hf hC (hM.mono (fun r M' hr => by obtain ⟨x, hx, hg⟩ := hr; subst hx; exact hg))
theorem n_v1l {kk : MK} {n' idx c : Nat} {a : Id} {q : vw_C} {x1 : AV} (hd : decode k.2.1 pc = .ok (.invokevirtual idx, 3)) (mf : MV kk 1) (hl0 : Cond.methodLink k.1.cls idx kk.1 ∈ TB) (hs : shp a = (0, c)) (hW : Wi M) (ha : vld a = true) (hc : classes[c]? = some q) (hq : q.1 = kk.1.cls) (hR : n' + 1 ≤ R.frames ∧ 8 + (kk.2.2.1 + 11) + 44 * n' ≤ R.locals) (hf : ca ≤ R.cells ∧ sl ≤ R.slots) (hC : (st.map vcat).sum ≤ 8) (hM : Mth E n' 0 0 kk [vR a, x1] M (fun r M' => ∃ x, r = some (vL x) ∧ G E R k Z ca sl (pc + 3) lv (vL x :: st) M')) : G E R k Z ca sl pc lv (x1 :: vR a :: st) M :=
  g_invV [x1] hd mf hl0 hs ha (hW.lt ha) hc hq rfl hR hf hC (hM.mono (fun r M' hr => by obtain ⟨x, hx, hg⟩ := hr; subst hx; exact hg))
theorem n_s1l {kk : MK} {n' idx : Nat} {x1 : AV} (hd : decode k.2.1 pc = .ok (.invokestatic idx, 3)) (mf : MS kk 1) (hl0 : Cond.methodLink k.1.cls idx kk.1 ∈ TB) (hR : n' + 1 ≤ R.frames ∧ 8 + (kk.2.2.1 + 11) + 44 * n' ≤ R.locals) (hf : ca ≤ R.cells ∧ sl ≤ R.slots) (hC : (st.map vcat).sum ≤ 8) (hM : Mth E n' 0 0 kk [x1] M (fun r M' => ∃ x, r = some (vL x) ∧ G E R k Z ca sl (pc + 3) lv (vL x :: st) M')) : G E R k Z ca sl pc lv (x1 :: st) M :=
  g_invS [x1] hd mf hl0 rfl hR hf hC (hM.mono (fun r M' hr => by obtain ⟨x, hx, hg⟩ := hr; subst hx; exact hg))
theorem n_v1r {kk : MK} {n' idx c : Nat} {a : Id} {q : vw_C} {x1 : AV} (hd : decode k.2.1 pc = .ok (.invokevirtual idx, 3)) (mf : MV kk 1) (hl0 : Cond.methodLink k.1.cls idx kk.1 ∈ TB) (hs : shp a = (0, c)) (hW : Wi M) (ha : vld a = true) (hc : classes[c]? = some q) (hq : q.1 = kk.1.cls) (hR : n' + 1 ≤ R.frames ∧ 8 + (kk.2.2.1 + 11) + 44 * n' ≤ R.locals) (hf : ca ≤ R.cells ∧ sl ≤ R.slots) (hC : (st.map vcat).sum ≤ 8) (hM : Mth E n' 0 0 kk [vR a, x1] M (fun r M' => ∃ x, r = some (vR x) ∧ G E R k Z ca sl (pc + 3) lv (vR x :: st) M')) : G E R k Z ca sl pc lv (x1 :: vR a :: st) M :=
  g_invV [x1] hd mf hl0 hs ha (hW.lt ha) hc hq rfl hR hf hC (hM.mono (fun r M' hr => by obtain ⟨x, hx, hg⟩ := hr; subst hx; exact hg))
theorem n_s1r {kk : MK} {n' idx : Nat} {x1 : AV} (hd : decode k.2.1 pc = .ok (.invokestatic idx, 3)) (mf : MS kk 1) (hl0 : Cond.methodLink k.1.cls idx kk.1 ∈ TB) (hR : n' + 1 ≤ R.frames ∧ 8 + (kk.2.2.1 + 11) + 44 * n' ≤ R.locals) (hf : ca ≤ R.cells ∧ sl ≤ R.slots) (hC : (st.map vcat).sum ≤ 8) (hM : Mth E n' 0 0 kk [x1] M (fun r M' => ∃ x, r = some (vR x) ∧ G E R k Z ca sl (pc + 3) lv (vR x :: st) M')) : G E R k Z ca sl pc lv (x1 :: st) M :=
  g_invS [x1] hd mf hl0 rfl hR hf hC (hM.mono (fun r M' hr => by obtain ⟨x, hx, hg⟩ := hr; subst hx; exact hg))
theorem n_v1s {kk : MK} {n' idx c : Nat} {a : Id} {q : vw_C} {x1 : AV} (hd : decode k.2.1 pc = .ok (.invokevirtual idx, 3)) (mf : MV kk 1) (hl0 : Cond.methodLink k.1.cls idx kk.1 ∈ TB) (hs : shp a = (0, c)) (hW : Wi M) (ha : vld a = true) (hc : classes[c]? = some q) (hq : q.1 = kk.1.cls) (hR : n' + 1 ≤ R.frames ∧ 8 + (kk.2.2.1 + 11) + 44 * n' ≤ R.locals) (hf : ca ≤ R.cells ∧ sl ≤ R.slots) (hC : (st.map vcat).sum ≤ 8) (hM : Mth E n' 0 0 kk [vR a, x1] M (fun r M' => ∃ x, r = some (vS x) ∧ G E R k Z ca sl (pc + 3) lv (vS x :: st) M')) : G E R k Z ca sl pc lv (x1 :: vR a :: st) M :=
  g_invV [x1] hd mf hl0 hs ha (hW.lt ha) hc hq rfl hR hf hC (hM.mono (fun r M' hr => by obtain ⟨x, hx, hg⟩ := hr; subst hx; exact hg))
theorem n_s1s {kk : MK} {n' idx : Nat} {x1 : AV} (hd : decode k.2.1 pc = .ok (.invokestatic idx, 3)) (mf : MS kk 1) (hl0 : Cond.methodLink k.1.cls idx kk.1 ∈ TB) (hR : n' + 1 ≤ R.frames ∧ 8 + (kk.2.2.1 + 11) + 44 * n' ≤ R.locals) (hf : ca ≤ R.cells ∧ sl ≤ R.slots) (hC : (st.map vcat).sum ≤ 8) (hM : Mth E n' 0 0 kk [x1] M (fun r M' => ∃ x, r = some (vS x) ∧ G E R k Z ca sl (pc + 3) lv (vS x :: st) M')) : G E R k Z ca sl pc lv (x1 :: st) M :=
  g_invS [x1] hd mf hl0 rfl hR hf hC (hM.mono (fun r M' hr => by obtain ⟨x, hx, hg⟩ := hr; subst hx; exact hg))
theorem n_v1v {kk : MK} {n' idx c : Nat} {a : Id} {q : vw_C} {x1 : AV} (hd : decode k.2.1 pc = .ok (.invokevirtual idx, 3)) (mf : MV kk 1) (hl0 : Cond.methodLink k.1.cls idx kk.1 ∈ TB) (hs : shp a = (0, c)) (hW : Wi M) (ha : vld a = true) (hc : classes[c]? = some q) (hq : q.1 = kk.1.cls) (hR : n' + 1 ≤ R.frames ∧ 8 + (kk.2.2.1 + 11) + 44 * n' ≤ R.locals) (hf : ca ≤ R.cells ∧ sl ≤ R.slots) (hC : (st.map vcat).sum ≤ 8) (hM : Mth E n' 0 0 kk [vR a, x1] M (fun r M' => r = none ∧ G E R k Z ca sl (pc + 3) lv (st) M')) : G E R k Z ca sl pc lv (x1 :: vR a :: st) M :=
  g_invV [x1] hd mf hl0 hs ha (hW.lt ha) hc hq rfl hR hf hC (hM.mono (fun r M' hr => by obtain ⟨hx, hg⟩ := hr; subst hx; exact hg))
theorem n_s1v {kk : MK} {n' idx : Nat} {x1 : AV} (hd : decode k.2.1 pc = .ok (.invokestatic idx, 3)) (mf : MS kk 1) (hl0 : Cond.methodLink k.1.cls idx kk.1 ∈ TB) (hR : n' + 1 ≤ R.frames ∧ 8 + (kk.2.2.1 + 11) + 44 * n' ≤ R.locals) (hf : ca ≤ R.cells ∧ sl ≤ R.slots) (hC : (st.map vcat).sum ≤ 8) (hM : Mth E n' 0 0 kk [x1] M (fun r M' => r = none ∧ G E R k Z ca sl (pc + 3) lv (st) M')) : G E R k Z ca sl pc lv (x1 :: st) M :=
  g_invS [x1] hd mf hl0 rfl hR hf hC (hM.mono (fun r M' hr => by obtain ⟨hx, hg⟩ := hr; subst hx; exact hg))
theorem n_v2i {kk : MK} {n' idx c : Nat} {a : Id} {q : vw_C} {x1 x2 : AV} (hd : decode k.2.1 pc = .ok (.invokevirtual idx, 3)) (mf : MV kk 2) (hl0 : Cond.methodLink k.1.cls idx kk.1 ∈ TB) (hs : shp a = (0, c)) (hW : Wi M) (ha : vld a = true) (hc : classes[c]? = some q) (hq : q.1 = kk.1.cls) (hR : n' + 1 ≤ R.frames ∧ 8 + (kk.2.2.1 + 11) + 44 * n' ≤ R.locals) (hf : ca ≤ R.cells ∧ sl ≤ R.slots) (hC : (st.map vcat).sum ≤ 8) (hM : Mth E n' 0 0 kk [vR a, x1, x2] M (fun r M' => ∃ x, r = some (vI x) ∧ G E R k Z ca sl (pc + 3) lv (vI x :: st) M')) : G E R k Z ca sl pc lv (x2 :: x1 :: vR a :: st) M :=
  g_invV [x1, x2] hd mf hl0 hs ha (hW.lt ha) hc hq rfl hR hf hC (hM.mono (fun r M' hr => by obtain ⟨x, hx, hg⟩ := hr; subst hx; exact hg))
theorem n_s2i {kk : MK} {n' idx : Nat} {x1 x2 : AV} (hd : decode k.2.1 pc = .ok (.invokestatic idx, 3)) (mf : MS kk 2) (hl0 : Cond.methodLink k.1.cls idx kk.1 ∈ TB) (hR : n' + 1 ≤ R.frames ∧ 8 + (kk.2.2.1 + 11) + 44 * n' ≤ R.locals) (hf : ca ≤ R.cells ∧ sl ≤ R.slots) (hC : (st.map vcat).sum ≤ 8) (hM : Mth E n' 0 0 kk [x1, x2] M (fun r M' => ∃ x, r = some (vI x) ∧ G E R k Z ca sl (pc + 3) lv (vI x :: st) M')) : G E R k Z ca sl pc lv (x2 :: x1 :: st) M :=
  g_invS [x1, x2] hd mf hl0 rfl hR hf hC (hM.mono (fun r M' hr => by obtain ⟨x, hx, hg⟩ := hr; subst hx; exact hg))
theorem n_n2i {kk : MK} {n' idx : Nat} {host : String} {x1 x2 : AV} (hd : decode k.2.1 pc = .ok (.invokestatic idx, 3)) (mf : MS kk 2) (hl0 : (k.1.cls, idx, kk.1, host) ∈ NBm) (hR : n' + 1 ≤ R.frames ∧ 8 + (kk.2.2.1 + 11) + 44 * n' ≤ R.locals) (hf : ca ≤ R.cells ∧ sl ≤ R.slots) (hC : (st.map vcat).sum ≤ 8) (hM : Mth E n' 0 0 kk [x1, x2] M (fun r M' => ∃ x, r = some (vI x) ∧ G E R k Z ca sl (pc + 3) lv (vI x :: st) M')) : G E R k Z ca sl pc lv (x2 :: x1 :: st) M :=
  g_invSN [x1, x2] hd mf hl0 rfl hR hf hC (hM.mono (fun r M' hr => by obtain ⟨x, hx, hg⟩ := hr; subst hx; exact hg))
theorem n_v2l {kk : MK} {n' idx c : Nat} {a : Id} {q : vw_C} {x1 x2 : AV} (hd : decode k.2.1 pc = .ok (.invokevirtual idx, 3)) (mf : MV kk 2) (hl0 : Cond.methodLink k.1.cls idx kk.1 ∈ TB) (hs : shp a = (0, c)) (hW : Wi M) (ha : vld a = true) (hc : classes[c]? = some q) (hq : q.1 = kk.1.cls) (hR : n' + 1 ≤ R.frames ∧ 8 + (kk.2.2.1 + 11) + 44 * n' ≤ R.locals) (hf : ca ≤ R.cells ∧ sl ≤ R.slots) (hC : (st.map vcat).sum ≤ 8) (hM : Mth E n' 0 0 kk [vR a, x1, x2] M (fun r M' => ∃ x, r = some (vL x) ∧ G E R k Z ca sl (pc + 3) lv (vL x :: st) M')) : G E R k Z ca sl pc lv (x2 :: x1 :: vR a :: st) M :=
  g_invV [x1, x2] hd mf hl0 hs ha (hW.lt ha) hc hq rfl hR hf hC (hM.mono (fun r M' hr => by obtain ⟨x, hx, hg⟩ := hr; subst hx; exact hg))
theorem n_s2l {kk : MK} {n' idx : Nat} {x1 x2 : AV} (hd : decode k.2.1 pc = .ok (.invokestatic idx, 3)) (mf : MS kk 2) (hl0 : Cond.methodLink k.1.cls idx kk.1 ∈ TB) (hR : n' + 1 ≤ R.frames ∧ 8 + (kk.2.2.1 + 11) + 44 * n' ≤ R.locals) (hf : ca ≤ R.cells ∧ sl ≤ R.slots) (hC : (st.map vcat).sum ≤ 8) (hM : Mth E n' 0 0 kk [x1, x2] M (fun r M' => ∃ x, r = some (vL x) ∧ G E R k Z ca sl (pc + 3) lv (vL x :: st) M')) : G E R k Z ca sl pc lv (x2 :: x1 :: st) M :=
  g_invS [x1, x2] hd mf hl0 rfl hR hf hC (hM.mono (fun r M' hr => by obtain ⟨x, hx, hg⟩ := hr; subst hx; exact hg))
theorem n_v2r {kk : MK} {n' idx c : Nat} {a : Id} {q : vw_C} {x1 x2 : AV} (hd : decode k.2.1 pc = .ok (.invokevirtual idx, 3)) (mf : MV kk 2) (hl0 : Cond.methodLink k.1.cls idx kk.1 ∈ TB) (hs : shp a = (0, c)) (hW : Wi M) (ha : vld a = true) (hc : classes[c]? = some q) (hq : q.1 = kk.1.cls) (hR : n' + 1 ≤ R.frames ∧ 8 + (kk.2.2.1 + 11) + 44 * n' ≤ R.locals) (hf : ca ≤ R.cells ∧ sl ≤ R.slots) (hC : (st.map vcat).sum ≤ 8) (hM : Mth E n' 0 0 kk [vR a, x1, x2] M (fun r M' => ∃ x, r = some (vR x) ∧ G E R k Z ca sl (pc + 3) lv (vR x :: st) M')) : G E R k Z ca sl pc lv (x2 :: x1 :: vR a :: st) M :=
  g_invV [x1, x2] hd mf hl0 hs ha (hW.lt ha) hc hq rfl hR hf hC (hM.mono (fun r M' hr => by obtain ⟨x, hx, hg⟩ := hr; subst hx; exact hg))
theorem n_s2r {kk : MK} {n' idx : Nat} {x1 x2 : AV} (hd : decode k.2.1 pc = .ok (.invokestatic idx, 3)) (mf : MS kk 2) (hl0 : Cond.methodLink k.1.cls idx kk.1 ∈ TB) (hR : n' + 1 ≤ R.frames ∧ 8 + (kk.2.2.1 + 11) + 44 * n' ≤ R.locals) (hf : ca ≤ R.cells ∧ sl ≤ R.slots) (hC : (st.map vcat).sum ≤ 8) (hM : Mth E n' 0 0 kk [x1, x2] M (fun r M' => ∃ x, r = some (vR x) ∧ G E R k Z ca sl (pc + 3) lv (vR x :: st) M')) : G E R k Z ca sl pc lv (x2 :: x1 :: st) M :=
  g_invS [x1, x2] hd mf hl0 rfl hR hf hC (hM.mono (fun r M' hr => by obtain ⟨x, hx, hg⟩ := hr; subst hx; exact hg))
theorem n_v2s {kk : MK} {n' idx c : Nat} {a : Id} {q : vw_C} {x1 x2 : AV} (hd : decode k.2.1 pc = .ok (.invokevirtual idx, 3)) (mf : MV kk 2) (hl0 : Cond.methodLink k.1.cls idx kk.1 ∈ TB) (hs : shp a = (0, c)) (hW : Wi M) (ha : vld a = true) (hc : classes[c]? = some q) (hq : q.1 = kk.1.cls) (hR : n' + 1 ≤ R.frames ∧ 8 + (kk.2.2.1 + 11) + 44 * n' ≤ R.locals) (hf : ca ≤ R.cells ∧ sl ≤ R.slots) (hC : (st.map vcat).sum ≤ 8) (hM : Mth E n' 0 0 kk [vR a, x1, x2] M (fun r M' => ∃ x, r = some (vS x) ∧ G E R k Z ca sl (pc + 3) lv (vS x :: st) M')) : G E R k Z ca sl pc lv (x2 :: x1 :: vR a :: st) M :=
  g_invV [x1, x2] hd mf hl0 hs ha (hW.lt ha) hc hq rfl hR hf hC (hM.mono (fun r M' hr => by obtain ⟨x, hx, hg⟩ := hr; subst hx; exact hg))
theorem n_s2s {kk : MK} {n' idx : Nat} {x1 x2 : AV} (hd : decode k.2.1 pc = .ok (.invokestatic idx, 3)) (mf : MS kk 2) (hl0 : Cond.methodLink k.1.cls idx kk.1 ∈ TB) (hR : n' + 1 ≤ R.frames ∧ 8 + (kk.2.2.1 + 11) + 44 * n' ≤ R.locals) (hf : ca ≤ R.cells ∧ sl ≤ R.slots) (hC : (st.map vcat).sum ≤ 8) (hM : Mth E n' 0 0 kk [x1, x2] M (fun r M' => ∃ x, r = some (vS x) ∧ G E R k Z ca sl (pc + 3) lv (vS x :: st) M')) : G E R k Z ca sl pc lv (x2 :: x1 :: st) M :=
  g_invS [x1, x2] hd mf hl0 rfl hR hf hC (hM.mono (fun r M' hr => by obtain ⟨x, hx, hg⟩ := hr; subst hx; exact hg))
theorem n_v2v {kk : MK} {n' idx c : Nat} {a : Id} {q : vw_C} {x1 x2 : AV} (hd : decode k.2.1 pc = .ok (.invokevirtual idx, 3)) (mf : MV kk 2) (hl0 : Cond.methodLink k.1.cls idx kk.1 ∈ TB) (hs : shp a = (0, c)) (hW : Wi M) (ha : vld a = true) (hc : classes[c]? = some q) (hq : q.1 = kk.1.cls) (hR : n' + 1 ≤ R.frames ∧ 8 + (kk.2.2.1 + 11) + 44 * n' ≤ R.locals) (hf : ca ≤ R.cells ∧ sl ≤ R.slots) (hC : (st.map vcat).sum ≤ 8) (hM : Mth E n' 0 0 kk [vR a, x1, x2] M (fun r M' => r = none ∧ G E R k Z ca sl (pc + 3) lv (st) M')) : G E R k Z ca sl pc lv (x2 :: x1 :: vR a :: st) M :=
  g_invV [x1, x2] hd mf hl0 hs ha (hW.lt ha) hc hq rfl hR hf hC (hM.mono (fun r M' hr => by obtain ⟨hx, hg⟩ := hr; subst hx; exact hg))
theorem n_s2v {kk : MK} {n' idx : Nat} {x1 x2 : AV} (hd : decode k.2.1 pc = .ok (.invokestatic idx, 3)) (mf : MS kk 2) (hl0 : Cond.methodLink k.1.cls idx kk.1 ∈ TB) (hR : n' + 1 ≤ R.frames ∧ 8 + (kk.2.2.1 + 11) + 44 * n' ≤ R.locals) (hf : ca ≤ R.cells ∧ sl ≤ R.slots) (hC : (st.map vcat).sum ≤ 8) (hM : Mth E n' 0 0 kk [x1, x2] M (fun r M' => r = none ∧ G E R k Z ca sl (pc + 3) lv (st) M')) : G E R k Z ca sl pc lv (x2 :: x1 :: st) M :=
  g_invS [x1, x2] hd mf hl0 rfl hR hf hC (hM.mono (fun r M' hr => by obtain ⟨hx, hg⟩ := hr; subst hx; exact hg))
theorem n_v3i {kk : MK} {n' idx c : Nat} {a : Id} {q : vw_C} {x1 x2 x3 : AV} (hd : decode k.2.1 pc = .ok (.invokevirtual idx, 3)) (mf : MV kk 3) (hl0 : Cond.methodLink k.1.cls idx kk.1 ∈ TB) (hs : shp a = (0, c)) (hW : Wi M) (ha : vld a = true) (hc : classes[c]? = some q) (hq : q.1 = kk.1.cls) (hR : n' + 1 ≤ R.frames ∧ 8 + (kk.2.2.1 + 11) + 44 * n' ≤ R.locals) (hf : ca ≤ R.cells ∧ sl ≤ R.slots) (hC : (st.map vcat).sum ≤ 8) (hM : Mth E n' 0 0 kk [vR a, x1, x2, x3] M (fun r M' => ∃ x, r = some (vI x) ∧ G E R k Z ca sl (pc + 3) lv (vI x :: st) M')) : G E R k Z ca sl pc lv (x3 :: x2 :: x1 :: vR a :: st) M :=
  g_invV [x1, x2, x3] hd mf hl0 hs ha (hW.lt ha) hc hq rfl hR hf hC (hM.mono (fun r M' hr => by obtain ⟨x, hx, hg⟩ := hr; subst hx; exact hg))
theorem n_s3i {kk : MK} {n' idx : Nat} {x1 x2 x3 : AV} (hd : decode k.2.1 pc = .ok (.invokestatic idx, 3)) (mf : MS kk 3) (hl0 : Cond.methodLink k.1.cls idx kk.1 ∈ TB) (hR : n' + 1 ≤ R.frames ∧ 8 + (kk.2.2.1 + 11) + 44 * n' ≤ R.locals) (hf : ca ≤ R.cells ∧ sl ≤ R.slots) (hC : (st.map vcat).sum ≤ 8) (hM : Mth E n' 0 0 kk [x1, x2, x3] M (fun r M' => ∃ x, r = some (vI x) ∧ G E R k Z ca sl (pc + 3) lv (vI x :: st) M')) : G E R k Z ca sl pc lv (x3 :: x2 :: x1 :: st) M :=
  g_invS [x1, x2, x3] hd mf hl0 rfl hR hf hC (hM.mono (fun r M' hr => by obtain ⟨x, hx, hg⟩ := hr; subst hx; exact hg))
theorem n_n3i {kk : MK} {n' idx : Nat} {host : String} {x1 x2 x3 : AV} (hd : decode k.2.1 pc = .ok (.invokestatic idx, 3)) (mf : MS kk 3) (hl0 : (k.1.cls, idx, kk.1, host) ∈ NBm) (hR : n' + 1 ≤ R.frames ∧ 8 + (kk.2.2.1 + 11) + 44 * n' ≤ R.locals) (hf : ca ≤ R.cells ∧ sl ≤ R.slots) (hC : (st.map vcat).sum ≤ 8) (hM : Mth E n' 0 0 kk [x1, x2, x3] M (fun r M' => ∃ x, r = some (vI x) ∧ G E R k Z ca sl (pc + 3) lv (vI x :: st) M')) : G E R k Z ca sl pc lv (x3 :: x2 :: x1 :: st) M :=
  g_invSN [x1, x2, x3] hd mf hl0 rfl hR hf hC (hM.mono (fun r M' hr => by obtain ⟨x, hx, hg⟩ := hr; subst hx; exact hg))
theorem n_v3r {kk : MK} {n' idx c : Nat} {a : Id} {q : vw_C} {x1 x2 x3 : AV} (hd : decode k.2.1 pc = .ok (.invokevirtual idx, 3)) (mf : MV kk 3) (hl0 : Cond.methodLink k.1.cls idx kk.1 ∈ TB) (hs : shp a = (0, c)) (hW : Wi M) (ha : vld a = true) (hc : classes[c]? = some q) (hq : q.1 = kk.1.cls) (hR : n' + 1 ≤ R.frames ∧ 8 + (kk.2.2.1 + 11) + 44 * n' ≤ R.locals) (hf : ca ≤ R.cells ∧ sl ≤ R.slots) (hC : (st.map vcat).sum ≤ 8) (hM : Mth E n' 0 0 kk [vR a, x1, x2, x3] M (fun r M' => ∃ x, r = some (vR x) ∧ G E R k Z ca sl (pc + 3) lv (vR x :: st) M')) : G E R k Z ca sl pc lv (x3 :: x2 :: x1 :: vR a :: st) M :=
  g_invV [x1, x2, x3] hd mf hl0 hs ha (hW.lt ha) hc hq rfl hR hf hC (hM.mono (fun r M' hr => by obtain ⟨x, hx, hg⟩ := hr; subst hx; exact hg))
theorem n_s3r {kk : MK} {n' idx : Nat} {x1 x2 x3 : AV} (hd : decode k.2.1 pc = .ok (.invokestatic idx, 3)) (mf : MS kk 3) (hl0 : Cond.methodLink k.1.cls idx kk.1 ∈ TB) (hR : n' + 1 ≤ R.frames ∧ 8 + (kk.2.2.1 + 11) + 44 * n' ≤ R.locals) (hf : ca ≤ R.cells ∧ sl ≤ R.slots) (hC : (st.map vcat).sum ≤ 8) (hM : Mth E n' 0 0 kk [x1, x2, x3] M (fun r M' => ∃ x, r = some (vR x) ∧ G E R k Z ca sl (pc + 3) lv (vR x :: st) M')) : G E R k Z ca sl pc lv (x3 :: x2 :: x1 :: st) M :=
  g_invS [x1, x2, x3] hd mf hl0 rfl hR hf hC (hM.mono (fun r M' hr => by obtain ⟨x, hx, hg⟩ := hr; subst hx; exact hg))
theorem n_v3v {kk : MK} {n' idx c : Nat} {a : Id} {q : vw_C} {x1 x2 x3 : AV} (hd : decode k.2.1 pc = .ok (.invokevirtual idx, 3)) (mf : MV kk 3) (hl0 : Cond.methodLink k.1.cls idx kk.1 ∈ TB) (hs : shp a = (0, c)) (hW : Wi M) (ha : vld a = true) (hc : classes[c]? = some q) (hq : q.1 = kk.1.cls) (hR : n' + 1 ≤ R.frames ∧ 8 + (kk.2.2.1 + 11) + 44 * n' ≤ R.locals) (hf : ca ≤ R.cells ∧ sl ≤ R.slots) (hC : (st.map vcat).sum ≤ 8) (hM : Mth E n' 0 0 kk [vR a, x1, x2, x3] M (fun r M' => r = none ∧ G E R k Z ca sl (pc + 3) lv (st) M')) : G E R k Z ca sl pc lv (x3 :: x2 :: x1 :: vR a :: st) M :=
  g_invV [x1, x2, x3] hd mf hl0 hs ha (hW.lt ha) hc hq rfl hR hf hC (hM.mono (fun r M' hr => by obtain ⟨hx, hg⟩ := hr; subst hx; exact hg))
theorem n_s3v {kk : MK} {n' idx : Nat} {x1 x2 x3 : AV} (hd : decode k.2.1 pc = .ok (.invokestatic idx, 3)) (mf : MS kk 3) (hl0 : Cond.methodLink k.1.cls idx kk.1 ∈ TB) (hR : n' + 1 ≤ R.frames ∧ 8 + (kk.2.2.1 + 11) + 44 * n' ≤ R.locals) (hf : ca ≤ R.cells ∧ sl ≤ R.slots) (hC : (st.map vcat).sum ≤ 8) (hM : Mth E n' 0 0 kk [x1, x2, x3] M (fun r M' => r = none ∧ G E R k Z ca sl (pc + 3) lv (st) M')) : G E R k Z ca sl pc lv (x3 :: x2 :: x1 :: st) M :=
  g_invS [x1, x2, x3] hd mf hl0 rfl hR hf hC (hM.mono (fun r M' hr => by obtain ⟨hx, hg⟩ := hr; subst hx; exact hg))
theorem n_v4i {kk : MK} {n' idx c : Nat} {a : Id} {q : vw_C} {x1 x2 x3 x4 : AV} (hd : decode k.2.1 pc = .ok (.invokevirtual idx, 3)) (mf : MV kk 4) (hl0 : Cond.methodLink k.1.cls idx kk.1 ∈ TB) (hs : shp a = (0, c)) (hW : Wi M) (ha : vld a = true) (hc : classes[c]? = some q) (hq : q.1 = kk.1.cls) (hR : n' + 1 ≤ R.frames ∧ 8 + (kk.2.2.1 + 11) + 44 * n' ≤ R.locals) (hf : ca ≤ R.cells ∧ sl ≤ R.slots) (hC : (st.map vcat).sum ≤ 8) (hM : Mth E n' 0 0 kk [vR a, x1, x2, x3, x4] M (fun r M' => ∃ x, r = some (vI x) ∧ G E R k Z ca sl (pc + 3) lv (vI x :: st) M')) : G E R k Z ca sl pc lv (x4 :: x3 :: x2 :: x1 :: vR a :: st) M :=
  g_invV [x1, x2, x3, x4] hd mf hl0 hs ha (hW.lt ha) hc hq rfl hR hf hC (hM.mono (fun r M' hr => by obtain ⟨x, hx, hg⟩ := hr; subst hx; exact hg))
theorem n_s4i {kk : MK} {n' idx : Nat} {x1 x2 x3 x4 : AV} (hd : decode k.2.1 pc = .ok (.invokestatic idx, 3)) (mf : MS kk 4) (hl0 : Cond.methodLink k.1.cls idx kk.1 ∈ TB) (hR : n' + 1 ≤ R.frames ∧ 8 + (kk.2.2.1 + 11) + 44 * n' ≤ R.locals) (hf : ca ≤ R.cells ∧ sl ≤ R.slots) (hC : (st.map vcat).sum ≤ 8) (hM : Mth E n' 0 0 kk [x1, x2, x3, x4] M (fun r M' => ∃ x, r = some (vI x) ∧ G E R k Z ca sl (pc + 3) lv (vI x :: st) M')) : G E R k Z ca sl pc lv (x4 :: x3 :: x2 :: x1 :: st) M :=
  g_invS [x1, x2, x3, x4] hd mf hl0 rfl hR hf hC (hM.mono (fun r M' hr => by obtain ⟨x, hx, hg⟩ := hr; subst hx; exact hg))
theorem n_n4i {kk : MK} {n' idx : Nat} {host : String} {x1 x2 x3 x4 : AV} (hd : decode k.2.1 pc = .ok (.invokestatic idx, 3)) (mf : MS kk 4) (hl0 : (k.1.cls, idx, kk.1, host) ∈ NBm) (hR : n' + 1 ≤ R.frames ∧ 8 + (kk.2.2.1 + 11) + 44 * n' ≤ R.locals) (hf : ca ≤ R.cells ∧ sl ≤ R.slots) (hC : (st.map vcat).sum ≤ 8) (hM : Mth E n' 0 0 kk [x1, x2, x3, x4] M (fun r M' => ∃ x, r = some (vI x) ∧ G E R k Z ca sl (pc + 3) lv (vI x :: st) M')) : G E R k Z ca sl pc lv (x4 :: x3 :: x2 :: x1 :: st) M :=
  g_invSN [x1, x2, x3, x4] hd mf hl0 rfl hR hf hC (hM.mono (fun r M' hr => by obtain ⟨x, hx, hg⟩ := hr; subst hx; exact hg))
theorem n_v4r {kk : MK} {n' idx c : Nat} {a : Id} {q : vw_C} {x1 x2 x3 x4 : AV} (hd : decode k.2.1 pc = .ok (.invokevirtual idx, 3)) (mf : MV kk 4) (hl0 : Cond.methodLink k.1.cls idx kk.1 ∈ TB) (hs : shp a = (0, c)) (hW : Wi M) (ha : vld a = true) (hc : classes[c]? = some q) (hq : q.1 = kk.1.cls) (hR : n' + 1 ≤ R.frames ∧ 8 + (kk.2.2.1 + 11) + 44 * n' ≤ R.locals) (hf : ca ≤ R.cells ∧ sl ≤ R.slots) (hC : (st.map vcat).sum ≤ 8) (hM : Mth E n' 0 0 kk [vR a, x1, x2, x3, x4] M (fun r M' => ∃ x, r = some (vR x) ∧ G E R k Z ca sl (pc + 3) lv (vR x :: st) M')) : G E R k Z ca sl pc lv (x4 :: x3 :: x2 :: x1 :: vR a :: st) M :=
  g_invV [x1, x2, x3, x4] hd mf hl0 hs ha (hW.lt ha) hc hq rfl hR hf hC (hM.mono (fun r M' hr => by obtain ⟨x, hx, hg⟩ := hr; subst hx; exact hg))
theorem n_s4r {kk : MK} {n' idx : Nat} {x1 x2 x3 x4 : AV} (hd : decode k.2.1 pc = .ok (.invokestatic idx, 3)) (mf : MS kk 4) (hl0 : Cond.methodLink k.1.cls idx kk.1 ∈ TB) (hR : n' + 1 ≤ R.frames ∧ 8 + (kk.2.2.1 + 11) + 44 * n' ≤ R.locals) (hf : ca ≤ R.cells ∧ sl ≤ R.slots) (hC : (st.map vcat).sum ≤ 8) (hM : Mth E n' 0 0 kk [x1, x2, x3, x4] M (fun r M' => ∃ x, r = some (vR x) ∧ G E R k Z ca sl (pc + 3) lv (vR x :: st) M')) : G E R k Z ca sl pc lv (x4 :: x3 :: x2 :: x1 :: st) M :=
  g_invS [x1, x2, x3, x4] hd mf hl0 rfl hR hf hC (hM.mono (fun r M' hr => by obtain ⟨x, hx, hg⟩ := hr; subst hx; exact hg))
theorem n_v4v {kk : MK} {n' idx c : Nat} {a : Id} {q : vw_C} {x1 x2 x3 x4 : AV} (hd : decode k.2.1 pc = .ok (.invokevirtual idx, 3)) (mf : MV kk 4) (hl0 : Cond.methodLink k.1.cls idx kk.1 ∈ TB) (hs : shp a = (0, c)) (hW : Wi M) (ha : vld a = true) (hc : classes[c]? = some q) (hq : q.1 = kk.1.cls) (hR : n' + 1 ≤ R.frames ∧ 8 + (kk.2.2.1 + 11) + 44 * n' ≤ R.locals) (hf : ca ≤ R.cells ∧ sl ≤ R.slots) (hC : (st.map vcat).sum ≤ 8) (hM : Mth E n' 0 0 kk [vR a, x1, x2, x3, x4] M (fun r M' => r = none ∧ G E R k Z ca sl (pc + 3) lv (st) M')) : G E R k Z ca sl pc lv (x4 :: x3 :: x2 :: x1 :: vR a :: st) M :=
  g_invV [x1, x2, x3, x4] hd mf hl0 hs ha (hW.lt ha) hc hq rfl hR hf hC (hM.mono (fun r M' hr => by obtain ⟨hx, hg⟩ := hr; subst hx; exact hg))
theorem n_s4v {kk : MK} {n' idx : Nat} {x1 x2 x3 x4 : AV} (hd : decode k.2.1 pc = .ok (.invokestatic idx, 3)) (mf : MS kk 4) (hl0 : Cond.methodLink k.1.cls idx kk.1 ∈ TB) (hR : n' + 1 ≤ R.frames ∧ 8 + (kk.2.2.1 + 11) + 44 * n' ≤ R.locals) (hf : ca ≤ R.cells ∧ sl ≤ R.slots) (hC : (st.map vcat).sum ≤ 8) (hM : Mth E n' 0 0 kk [x1, x2, x3, x4] M (fun r M' => r = none ∧ G E R k Z ca sl (pc + 3) lv (st) M')) : G E R k Z ca sl pc lv (x4 :: x3 :: x2 :: x1 :: st) M :=
  g_invS [x1, x2, x3, x4] hd mf hl0 rfl hR hf hC (hM.mono (fun r M' hr => by obtain ⟨hx, hg⟩ := hr; subst hx; exact hg))
theorem n_v5i {kk : MK} {n' idx c : Nat} {a : Id} {q : vw_C} {x1 x2 x3 x4 x5 : AV} (hd : decode k.2.1 pc = .ok (.invokevirtual idx, 3)) (mf : MV kk 5) (hl0 : Cond.methodLink k.1.cls idx kk.1 ∈ TB) (hs : shp a = (0, c)) (hW : Wi M) (ha : vld a = true) (hc : classes[c]? = some q) (hq : q.1 = kk.1.cls) (hR : n' + 1 ≤ R.frames ∧ 8 + (kk.2.2.1 + 11) + 44 * n' ≤ R.locals) (hf : ca ≤ R.cells ∧ sl ≤ R.slots) (hC : (st.map vcat).sum ≤ 8) (hM : Mth E n' 0 0 kk [vR a, x1, x2, x3, x4, x5] M (fun r M' => ∃ x, r = some (vI x) ∧ G E R k Z ca sl (pc + 3) lv (vI x :: st) M')) : G E R k Z ca sl pc lv (x5 :: x4 :: x3 :: x2 :: x1 :: vR a :: st) M :=
  g_invV [x1, x2, x3, x4, x5] hd mf hl0 hs ha (hW.lt ha) hc hq rfl hR hf hC (hM.mono (fun r M' hr => by obtain ⟨x, hx, hg⟩ := hr; subst hx; exact hg))
theorem n_s5i {kk : MK} {n' idx : Nat} {x1 x2 x3 x4 x5 : AV} (hd : decode k.2.1 pc = .ok (.invokestatic idx, 3)) (mf : MS kk 5) (hl0 : Cond.methodLink k.1.cls idx kk.1 ∈ TB) (hR : n' + 1 ≤ R.frames ∧ 8 + (kk.2.2.1 + 11) + 44 * n' ≤ R.locals) (hf : ca ≤ R.cells ∧ sl ≤ R.slots) (hC : (st.map vcat).sum ≤ 8) (hM : Mth E n' 0 0 kk [x1, x2, x3, x4, x5] M (fun r M' => ∃ x, r = some (vI x) ∧ G E R k Z ca sl (pc + 3) lv (vI x :: st) M')) : G E R k Z ca sl pc lv (x5 :: x4 :: x3 :: x2 :: x1 :: st) M :=
  g_invS [x1, x2, x3, x4, x5] hd mf hl0 rfl hR hf hC (hM.mono (fun r M' hr => by obtain ⟨x, hx, hg⟩ := hr; subst hx; exact hg))
theorem n_n5i {kk : MK} {n' idx : Nat} {host : String} {x1 x2 x3 x4 x5 : AV} (hd : decode k.2.1 pc = .ok (.invokestatic idx, 3)) (mf : MS kk 5) (hl0 : (k.1.cls, idx, kk.1, host) ∈ NBm) (hR : n' + 1 ≤ R.frames ∧ 8 + (kk.2.2.1 + 11) + 44 * n' ≤ R.locals) (hf : ca ≤ R.cells ∧ sl ≤ R.slots) (hC : (st.map vcat).sum ≤ 8) (hM : Mth E n' 0 0 kk [x1, x2, x3, x4, x5] M (fun r M' => ∃ x, r = some (vI x) ∧ G E R k Z ca sl (pc + 3) lv (vI x :: st) M')) : G E R k Z ca sl pc lv (x5 :: x4 :: x3 :: x2 :: x1 :: st) M :=
  g_invSN [x1, x2, x3, x4, x5] hd mf hl0 rfl hR hf hC (hM.mono (fun r M' hr => by obtain ⟨x, hx, hg⟩ := hr; subst hx; exact hg))
theorem n_v5r {kk : MK} {n' idx c : Nat} {a : Id} {q : vw_C} {x1 x2 x3 x4 x5 : AV} (hd : decode k.2.1 pc = .ok (.invokevirtual idx, 3)) (mf : MV kk 5) (hl0 : Cond.methodLink k.1.cls idx kk.1 ∈ TB) (hs : shp a = (0, c)) (hW : Wi M) (ha : vld a = true) (hc : classes[c]? = some q) (hq : q.1 = kk.1.cls) (hR : n' + 1 ≤ R.frames ∧ 8 + (kk.2.2.1 + 11) + 44 * n' ≤ R.locals) (hf : ca ≤ R.cells ∧ sl ≤ R.slots) (hC : (st.map vcat).sum ≤ 8) (hM : Mth E n' 0 0 kk [vR a, x1, x2, x3, x4, x5] M (fun r M' => ∃ x, r = some (vR x) ∧ G E R k Z ca sl (pc + 3) lv (vR x :: st) M')) : G E R k Z ca sl pc lv (x5 :: x4 :: x3 :: x2 :: x1 :: vR a :: st) M :=
  g_invV [x1, x2, x3, x4, x5] hd mf hl0 hs ha (hW.lt ha) hc hq rfl hR hf hC (hM.mono (fun r M' hr => by obtain ⟨x, hx, hg⟩ := hr; subst hx; exact hg))
theorem n_s5r {kk : MK} {n' idx : Nat} {x1 x2 x3 x4 x5 : AV} (hd : decode k.2.1 pc = .ok (.invokestatic idx, 3)) (mf : MS kk 5) (hl0 : Cond.methodLink k.1.cls idx kk.1 ∈ TB) (hR : n' + 1 ≤ R.frames ∧ 8 + (kk.2.2.1 + 11) + 44 * n' ≤ R.locals) (hf : ca ≤ R.cells ∧ sl ≤ R.slots) (hC : (st.map vcat).sum ≤ 8) (hM : Mth E n' 0 0 kk [x1, x2, x3, x4, x5] M (fun r M' => ∃ x, r = some (vR x) ∧ G E R k Z ca sl (pc + 3) lv (vR x :: st) M')) : G E R k Z ca sl pc lv (x5 :: x4 :: x3 :: x2 :: x1 :: st) M :=
  g_invS [x1, x2, x3, x4, x5] hd mf hl0 rfl hR hf hC (hM.mono (fun r M' hr => by obtain ⟨x, hx, hg⟩ := hr; subst hx; exact hg))
theorem n_v5v {kk : MK} {n' idx c : Nat} {a : Id} {q : vw_C} {x1 x2 x3 x4 x5 : AV} (hd : decode k.2.1 pc = .ok (.invokevirtual idx, 3)) (mf : MV kk 5) (hl0 : Cond.methodLink k.1.cls idx kk.1 ∈ TB) (hs : shp a = (0, c)) (hW : Wi M) (ha : vld a = true) (hc : classes[c]? = some q) (hq : q.1 = kk.1.cls) (hR : n' + 1 ≤ R.frames ∧ 8 + (kk.2.2.1 + 11) + 44 * n' ≤ R.locals) (hf : ca ≤ R.cells ∧ sl ≤ R.slots) (hC : (st.map vcat).sum ≤ 8) (hM : Mth E n' 0 0 kk [vR a, x1, x2, x3, x4, x5] M (fun r M' => r = none ∧ G E R k Z ca sl (pc + 3) lv (st) M')) : G E R k Z ca sl pc lv (x5 :: x4 :: x3 :: x2 :: x1 :: vR a :: st) M :=
  g_invV [x1, x2, x3, x4, x5] hd mf hl0 hs ha (hW.lt ha) hc hq rfl hR hf hC (hM.mono (fun r M' hr => by obtain ⟨hx, hg⟩ := hr; subst hx; exact hg))
theorem n_s5v {kk : MK} {n' idx : Nat} {x1 x2 x3 x4 x5 : AV} (hd : decode k.2.1 pc = .ok (.invokestatic idx, 3)) (mf : MS kk 5) (hl0 : Cond.methodLink k.1.cls idx kk.1 ∈ TB) (hR : n' + 1 ≤ R.frames ∧ 8 + (kk.2.2.1 + 11) + 44 * n' ≤ R.locals) (hf : ca ≤ R.cells ∧ sl ≤ R.slots) (hC : (st.map vcat).sum ≤ 8) (hM : Mth E n' 0 0 kk [x1, x2, x3, x4, x5] M (fun r M' => r = none ∧ G E R k Z ca sl (pc + 3) lv (st) M')) : G E R k Z ca sl pc lv (x5 :: x4 :: x3 :: x2 :: x1 :: st) M :=
  g_invS [x1, x2, x3, x4, x5] hd mf hl0 rfl hR hf hC (hM.mono (fun r M' hr => by obtain ⟨hx, hg⟩ := hr; subst hx; exact hg))
end RK
end
section
/-! MAKING OBJECTS -/
/-- a thing is made: all of it is 0 or null -/
def nwM (M : Mem) (a : Id) : Mem := (fun b j => if b = a then 0 else M.1 b j, fun b j => if b = a then 0 else M.2.1 b j, fun b j => if b = a then none else M.2.2.1 b j, M.2.2.2 + 1)
theorem nwM_hk {M : Mem} {a : Id} : ∀ b : Id, b ≠ a → mI (nwM M a) b = mI M b ∧ mJ (nwM M a) b = mJ M b ∧ mR (nwM M a) b = mR M b := fun b hb => ⟨by funext j; simp [mI, nwM, hb], by funext j; simp [mJ, nwM, hb], by funext j; simp [mR, nwM, hb]⟩
theorem Wdy.push {E : Ev} {M : Mem} {H H' : Heap} {a : Id} (h : Wdy E M H) (ha : vld a = true) (hn : off a = mN M) (hz : H'.size = H.size + 1) (ho : ∀ q : Nat, q < H.size → H'[q]? = H[q]?) (hc : cellAt E (nwM M a) H' a) : Wdy E (nwM M a) H' := by
  refine ⟨by rw [hz, h.1]; rfl, fun b hb hbn => ?_⟩
  have hbn : off b < mN M + 1 := hbn
  by_cases hba : b = a
  · rw [hba]; exact hc
  · have hlt : off b < mN M := by
      rcases Nat.lt_or_ge (off b) (mN M) with q | q
      · exact q
      · exact absurd (vld_inj hb ha (by omega)) hba
    obtain ⟨k1, k2, k3⟩ := nwM_hk (M := M) b hba
    exact cellAt_congr (h.2 b hb hlt) (ho _ (by unfold ad; rw [h.1]; omega)) k1 k2 k3
theorem ad_sz {E : Ev} {M : Mem} {H : Heap} {a : Id} (h : Wdy E M H) (hn : off a = mN M) : H.size = ad E a := by unfold ad; rw [h.1, hn]
theorem va_S.push {A : Nat → Prop} {H0 H H1 : Heap} {locs : List Loc} (h : va_S A H0 H locs) (hz : H1.size = H.size + 1) (ho : ∀ q : Nat, q < H.size → H1[q]? = H[q]?) : va_S A H0 H1 locs :=
  ⟨by have := h.1; omega, fun x h1 h2 => (ho x (Nat.lt_of_lt_of_le h1 h.1)).trans (h.2.1 x h1 h2), h.2.2⟩
theorem nI_nn0 {n : Nat} (h : n < 2 ^ 31) : ¬ nI n < 0 := fun z => by
  rw [Int32.lt_iff_toInt_lt, nI_toInt h] at z
  have z0 : (0 : Int32).toInt = 0 := by decide
  omega
section RN
variable {E : Ev} {R : Room} {k : MK} {Z : ZT} {ca sl pc : Nat} {lv : List (Option AV)} {st : List AV} {M : Mem}
theorem dfv {ty : FieldType} (h : ty = .int ∨ ty = .boolean) : defaultValue ty = .int 0 := by rcases h with rfl | rfl <;> rfl
/-- the default of each field of the classes -/
def dfOk (c : Nat) : Prop := ∀ j, j < nfl c → defaultValue (tyOf c j) = (match tyOf c j with | .int => .int 0 | .boolean => .int 0 | _ => .null)
theorem df_all : ∀ c, c < 8 → dfOk c := by
  intro c hc j hj
  have : ∀ c, c < 8 → ∀ j, j < nfl c → tyOf c j = .int ∨ tyOf c j = .boolean ∨ (∃ n, tyOf c j = .object n) ∨ (∃ t, tyOf c j = .array t) := by
    intro c hc j hj
    have q : c = 0 ∨ c = 1 ∨ c = 2 ∨ c = 3 ∨ c = 4 ∨ c = 5 ∨ c = 6 ∨ c = 7 := by omega
    rcases hty : tyOf c j with _ | _ | _ | _ | _ | _ | _ | _ | n | t
    all_goals first
      | exact Or.inl rfl
      | exact Or.inr (Or.inl rfl)
      | exact Or.inr (Or.inr (Or.inl ⟨_, rfl⟩))
      | exact Or.inr (Or.inr (Or.inr ⟨_, rfl⟩))
      | skip
    all_goals
      exfalso
      have all : ∀ c, c < 8 → ∀ j, j < nfl c → (match tyOf c j with | .int => true | .boolean => true | .object _ => true | .array _ => true | _ => false) = true := by decide +kernel
      have z := all c hc j hj
      rw [hty] at z
      cases z
  rcases this c hc j hj with h | h | ⟨n, h⟩ | ⟨t, h⟩ <;> rw [h] <;> rfl
theorem fval_new {E : Ev} {M : Mem} {c : Nat} {a : Id} (hc : c < 8) {j : Nat} (hj : j < nfl c) : fval E (nwM M a) c a j = defaultValue (tyOf c j) := by
  rw [df_all c hc j hj]
  unfold fval
  have e1 : mI (nwM M a) a j = 0 := by simp [mI, nwM]
  have e2 : mR (nwM M a) a j = none := by simp [mR, nwM]
  rw [e1, e2]
  rfl
theorem g_new {a : Id} {c idx n : Nat} {q : vw_C} (hd : decode k.2.1 pc = .ok (.new idx, 3)) (hc : classes[c]? = some q) (hc8 : c < 8) (hs : shp a = (0, c)) (ha : vld a = true) (hn : off a = mN M)
    (hl : Cond.classLink k.1.cls idx q.1 ∈ TB) (hi : Cond.instantiable q.1 n ∈ TB) (hini : Cond.initialized q.1 ∈ TB) (hcells : ca + 1 ≤ R.cells) (hslots : sl + n ≤ R.slots)
    (h : G E R k Z (ca + 1) (sl + n) (pc + 3) lv (vR a :: st) (nwM M a)) : G E R k Z ca sl pc lv st M := by
  intro p l e s m args below meth c0 H locs ls C hw hy hS hl0
  have hts := C.2.2.2.2.2.2.1
  obtain ⟨hty, hnm, hN, hin⟩ := cls_ok hc
  have hKn := hw.1 c _ hc
  refine W.newcK C.1 C.2.1 C.2.2.2.2.2.1 (hts _ hl) (hts _ hi) (hts _ hini) rfl hd hcells hslots hKn.2.1 (ad_sz hy hn) fun H1 kC hkC e1 z1 o1 => ?_
  have hz : H1.size = H.size + 1 := by rw [z1, ad_sz hy hn]
  have ho : ∀ x : Nat, x < H.size → H1[x]? = H[x]? := fun x hx => o1 x (by rw [← ad_sz hy hn]; exact hx)
  refine h p l e s m args below meth c0 H1 locs ls C hw (hy.push ha hn hz ho ?_) (hS.push hz ho) hl0
  unfold cellAt
  rw [hs]
  have hb := u_born (tyOf c) hts hin hKn hkC e1 hty
  rw [hN] at hb
  exact hb.to (fun j hj => (fval_new hc8 hj).symm)
theorem g_newI {a : Id} {n : Nat} {x : Int32} (hd : decode k.2.1 pc = .ok (.newarray .int, 2)) (hx : x = nI n) (hs : shp a = (1, n)) (ha : vld a = true) (hn : off a = mN M) (hl : Cond.arrayClass .int ∈ TB) (hb : n * 4 ≤ 536870912) (hcells : ca + 1 ≤ R.cells) (hslots : sl + n ≤ R.slots)
    (h : G E R k Z (ca + 1) (sl + n) (pc + 2) lv (vR a :: st) (nwM M a)) : G E R k Z ca sl pc lv (vI x :: st) M := by
  intro p l e s m args below meth c0 H locs ls C hw hy hS hl0
  have hts := C.2.2.2.2.2.2.1
  subst hx
  have hnt : (nI n).toInt = (n : Int) := nI_toInt (by omega)
  refine va_newaK (atype := .int) C.1 C.2.1 (hts _ hl) rfl hd rfl (nI_nn0 (by omega)) (nI_clamp (by omega)) hb hcells hslots (ad_sz hy hn) fun H1 cA e1 z1 o1 hAr hNm => ?_
  have hz : H1.size = H.size + 1 := by rw [z1, ad_sz hy hn]
  have ho : ∀ x : Nat, x < H.size → H1[x]? = H[x]? := fun x hx => o1 x (by rw [← ad_sz hy hn]; exact hx)
  refine h p l e s m args below meth c0 H1 locs ls C hw (hy.push ha hn hz ho ?_) (hS.push hz ho) hl0
  unfold cellAt
  rw [hs]
  show H1[_]? = _
  have hcA : cA = eA E 0 := Option.some.inj (hNm.symm.trans hw.2.1.1.2)
  rw [e1, hcA]
  congr 2
  funext j
  simp [mI, nwM, newarray.typeOf, defaultValue]
theorem g_newL {a : Id} {n : Nat} {x : Int32} (hd : decode k.2.1 pc = .ok (.newarray .long, 2)) (hx : x = nI n) (hs : shp a = (2, n)) (ha : vld a = true) (hn : off a = mN M) (hl : Cond.arrayClass .long ∈ TB) (hb : n * 8 ≤ 536870912) (hcells : ca + 1 ≤ R.cells) (hslots : sl + n ≤ R.slots)
    (h : G E R k Z (ca + 1) (sl + n) (pc + 2) lv (vR a :: st) (nwM M a)) : G E R k Z ca sl pc lv (vI x :: st) M := by
  intro p l e s m args below meth c0 H locs ls C hw hy hS hl0
  have hts := C.2.2.2.2.2.2.1
  subst hx
  have hnt : (nI n).toInt = (n : Int) := nI_toInt (by omega)
  refine va_newaK (atype := .long) C.1 C.2.1 (hts _ hl) rfl hd rfl (nI_nn0 (by omega)) (nI_clamp (by omega)) hb hcells hslots (ad_sz hy hn) fun H1 cA e1 z1 o1 hAr hNm => ?_
  have hz : H1.size = H.size + 1 := by rw [z1, ad_sz hy hn]
  have ho : ∀ x : Nat, x < H.size → H1[x]? = H[x]? := fun x hx => o1 x (by rw [← ad_sz hy hn]; exact hx)
  refine h p l e s m args below meth c0 H1 locs ls C hw (hy.push ha hn hz ho ?_) (hS.push hz ho) hl0
  unfold cellAt
  rw [hs]
  show H1[_]? = _
  have hcA : cA = eA E 1 := Option.some.inj (hNm.symm.trans hw.2.1.2.1.2)
  rw [e1, hcA]
  congr 2
  funext j
  simp [mJ, nwM, newarray.typeOf, defaultValue]
/-- an array of references: t 3 Persons, 4 Shelves -/
theorem g_anew3 {a : Id} {n idx : Nat} {x : Int32} (hd : decode k.2.1 pc = .ok (.anewarray idx, 3)) (hx : x = nI n) (hs : shp a = (3, n)) (ha : vld a = true) (hn : off a = mN M) (hl : Cond.classLink k.1.cls idx RX2 ∈ TB) (hb : n * 4 ≤ 536870912) (hcells : ca + 1 ≤ R.cells) (hslots : sl + n ≤ R.slots)
    (h : G E R k Z (ca + 1) (sl + n) (pc + 3) lv (vR a :: st) (nwM M a)) : G E R k Z ca sl pc lv (vI x :: st) M := by
  intro p l e s m args below meth c0 H locs ls C hw hy hS hl0
  have hts := C.2.2.2.2.2.2.1
  subst hx
  have hnt : (nI n).toInt = (n : Int) := nI_toInt (by omega)
  have hnc : (nI n).toNatClampNeg = n := nI_clamp (by omega)
  refine W.anew C.1 C.2.1 C.2.2.2.2.2.1 (hts _ hl) (va_AO.use hw.2.2.1.2.1) rfl hd rfl (nI_nn0 (by omega)) (by rw [hnc]; exact hb) hcells (by rw [hnc]; exact hslots) fun cA kA comp f1 f2 f3 f4 => ?_
  rw [hnc]
  generalize hH1 : H.push ({ cls := cA, slots := Array.replicate n .null, vm := .none } : Cell) = H1
  have hz : H1.size = H.size + 1 := by rw [← hH1, Array.size_push]
  have ho : ∀ q : Nat, q < H.size → H1[q]? = H[q]? := fun q hq => by rw [← hH1, Array.getElem?_push, if_neg (Nat.ne_of_lt hq)]
  have e1 : H1[H.size]? = some (arrV cA n (fun _ => .null)) := by rw [← hH1, Array.getElem?_push_size, ← arrV_new]
  have hk := h p l e s m args below meth c0 H1 locs ls C hw (hy.push ha hn hz ho (by
    unfold cellAt
    rw [hs]
    show H1[_]? = _
    obtain ⟨kA2, comp2, g1, g2, g3, g4⟩ := hw.2.1.2.2.1.2
    have hcA : cA = eA E 2 := Option.some.inj (f1.symm.trans g4)
    rw [← ad_sz hy hn, e1, hcA]
    congr 2
    funext j
    simp [mR, nwM, orf])) (hS.push hz ho) hl0
  rw [ad_sz hy hn]
  exact hk
theorem g_anew4 {a : Id} {n idx : Nat} {x : Int32} (hd : decode k.2.1 pc = .ok (.anewarray idx, 3)) (hx : x = nI n) (hs : shp a = (4, n)) (ha : vld a = true) (hn : off a = mN M) (hl : Cond.classLink k.1.cls idx RX5 ∈ TB) (hb : n * 4 ≤ 536870912) (hcells : ca + 1 ≤ R.cells) (hslots : sl + n ≤ R.slots)
    (h : G E R k Z (ca + 1) (sl + n) (pc + 3) lv (vR a :: st) (nwM M a)) : G E R k Z ca sl pc lv (vI x :: st) M := by
  intro p l e s m args below meth c0 H locs ls C hw hy hS hl0
  have hts := C.2.2.2.2.2.2.1
  subst hx
  have hnt : (nI n).toInt = (n : Int) := nI_toInt (by omega)
  have hnc : (nI n).toNatClampNeg = n := nI_clamp (by omega)
  refine W.anew C.1 C.2.1 C.2.2.2.2.2.1 (hts _ hl) (va_AO.use hw.2.2.1.2.2) rfl hd rfl (nI_nn0 (by omega)) (by rw [hnc]; exact hb) hcells (by rw [hnc]; exact hslots) fun cA kA comp f1 f2 f3 f4 => ?_
  rw [hnc]
  generalize hH1 : H.push ({ cls := cA, slots := Array.replicate n .null, vm := .none } : Cell) = H1
  have hz : H1.size = H.size + 1 := by rw [← hH1, Array.size_push]
  have ho : ∀ q : Nat, q < H.size → H1[q]? = H[q]? := fun q hq => by rw [← hH1, Array.getElem?_push, if_neg (Nat.ne_of_lt hq)]
  have e1 : H1[H.size]? = some (arrV cA n (fun _ => .null)) := by rw [← hH1, Array.getElem?_push_size, ← arrV_new]
  have hk := h p l e s m args below meth c0 H1 locs ls C hw (hy.push ha hn hz ho (by
    unfold cellAt
    rw [hs]
    show H1[_]? = _
    obtain ⟨kA2, comp2, g1, g2, g3, g4⟩ := hw.2.1.2.2.2.2
    have hcA : cA = eA E 3 := Option.some.inj (f1.symm.trans g4)
    rw [← ad_sz hy hn, e1, hcA]
    congr 2
    funext j
    simp [mR, nwM, orf])) (hS.push hz ho) hl0
  rw [ad_sz hy hn]
  exact hk
/-- a final field that holds a reference, in a constructor -/
theorem g_putR {a b : Id} {c fk idx : Nat} (hd : decode k.2.1 pc = .ok (.putfield idx, 3)) (hf : FL k.1.cls c fk idx true) (hin2 : k.1.name = "<init>") (hcls : ∀ q : vw_C, classes[c]? = some q → q.1 = k.1.cls) (hs : shp a = (0, c)) (ha : vld a = true) (hn : off a < mN M)
    (ht : (match tyOf c fk with | .object _ => true | .array _ => true | _ => false) = true)
    (h : G E R k Z ca sl (pc + 3) lv st (sR M a fk (some b))) : G E R k Z ca sl pc lv (vR b :: vR a :: st) M := by
  intro p l e s m args below meth c0 H locs ls C hw hy hS hl
  obtain ⟨q, hc, hkk, hC, hfin, hlink⟩ := hf
  obtain ⟨hty, hnm, hN, hin⟩ := cls_ok hc
  have hts := C.2.2.2.2.2.2.1
  have hK : va_K (eD E) classes [] s := ⟨hw.1, fun k q h => by simp at h⟩
  have hap := va_apart (own := k.1.cls) hts hin (tyOf c) hty hnm hK hc
  obtain ⟨cell, q1, q2, q3, q4⟩ := hy.ob hs ha hn
  rw [← hN] at q4
  obtain ⟨hSl, hfc, kC, hkC, hkind⟩ := hw.1 c _ hc
  obtain ⟨cf, kf, fi, f, hi, hsl⟩ := hSl fk hkk
  have hlay := hts _ (hin _ (u_in_lay hkk))
  unfold u_lay at hlay
  rw [if_pos hfin] at hlay
  have hst := (u_facts hfc hkC (u_lays hts hin hkk) hi).1
  have hcf : m.cls = cf := by
    obtain ⟨_, _, c', _, _, _, -, -, hf', -, -, -, hown2, -⟩ := Cond.laysFinal_spec hlay
    have e1 : c' = cf := by have := hi.symm.trans hf'; simp at this; exact this.1.symm
    rw [hC, hcls q hc] at hown2
    rw [← e1]; exact Option.some.inj (C.2.2.2.2.2.1.symm.trans hown2)
  have hnr : narrow (tyOf c fk) (.ref (ad E b)) = .ref (ad E b) ∧ fits (tyOf c fk) (.ref (ad E b)) = true := by
    revert ht
    cases tyOf c fk <;> intro ht <;> first | (cases ht; done) | exact ⟨rfl, rfl⟩
  have h6 := u_fits hfc hkC hkind (Or.inr hlay) hi (hty fk hkk) hnr.1 hnr.2
  rw [hC] at hi
  refine W.putFinK C.1 C.2.1 (f := f) C.2.2.2.2.2.1 (hts _ hlink) hi hst hcf (C.2.2.2.2.2.2.2.trans hin2) (by rw [q2]; exact h6) q1 q3 (by rw [hsl]; exact k2_hasslot (q4 fk hkk)) rfl rfl hd fun H' e1 e2 e3 => ?_
  rw [hsl] at e1 ⊢
  refine h p l e s m args below meth c0 H' _ ls C hw (hy.set ha rfl e2 e3 ?_ sR_hk) (hS.put e2 e3 eZ_ad) hl
  unfold cellAt
  rw [hs]
  refine t_OB.to (V := updV (fval E M c a) fk (.ref (ad E b))) ⟨_, e1, q2, q3, by rw [← hN]; exact t_set q4 hap hkk _⟩ (fun j _ => ?_)
  unfold updV
  by_cases hj : j = fk
  · subst hj
    unfold fval
    have e : mR (sR M a j (some b)) a j = some b := by simp [mR, sR]
    rw [e]
    revert ht
    cases tyOf c j <;> intro ht <;> first | (cases ht; done) | simp [orf]
  · simp only [hj, if_false]
    unfold fval
    have e : mR (sR M a fk (some b)) a j = mR M a j := by simp [mR, sR, hj]
    rw [e]
    rfl
theorem g_aast3 {a b : Id} {n j : Nat} {i : Int32} (hd : decode k.2.1 pc = .ok (.aastore, 1)) (hs : shp a = (3, n)) (ha : vld a = true) (hn : off a < mN M) (hsb : shp b = (0, 2)) (hb : vld b = true) (hbn : off b < mN M) (hi : i = nI j) (hj : j < n) (hn2 : n < 2 ^ 31)
    (h : G E R k Z ca sl (pc + 1) lv st (sR M a j (some b))) : G E R k Z ca sl pc lv (vR b :: vI i :: vR a :: st) M := by
  intro p l e s m args below meth c0 H locs ls C hw hy hS hl
  obtain ⟨h1, h2⟩ := ix_in hi hj hn2
  obtain ⟨cellV, g1, g2, g3, -⟩ := hy.ob hsb hb hbn
  have hcls := (hw.1 2 (RX2, TX2, 10) rfl).2
  obtain ⟨kA, comp, k1, k2, k3, -⟩ := hw.2.1.2.2.1.2
  have hcomp : comp = (eD E).1 2 := Option.some.inj (k3.symm.trans hcls.1)
  subst hcomp
  obtain ⟨kC, hkC, -⟩ := hcls.2
  refine W.aast C.1 C.2.1 (hy.ar3 hs ha hn) (fun q h => by cases h) (fun h => by cases h) k1 k2 rfl hkC ⟨fun q => h1 (Or.inl q), by rw [arrV_size, h2]; exact hj⟩ g1 (fun q h => by rw [g3] at h; cases h) (by rw [g2]; exact hkC) (by rw [g2]; exact va_assign hcls) rfl rfl hd fun H1 e1 z oq => ?_
  refine h p l e s m args below meth c0 H1 _ ls C hw (hy.set ha rfl z oq ?_ sR_hk) (hS.put z oq eZ_ad) hl
  unfold cellAt
  rw [hs]
  show H1[_]? = _
  rw [e1, h2, arrV_store]
  congr 2
  funext q
  by_cases hq : q = j
  · subst hq; simp [updV, mR, sR, orf]
  · simp [updV, mR, sR, hq]
theorem g_aast4 {a b : Id} {n j : Nat} {i : Int32} (hd : decode k.2.1 pc = .ok (.aastore, 1)) (hs : shp a = (4, n)) (ha : vld a = true) (hn : off a < mN M) (hsb : shp b = (0, 5)) (hb : vld b = true) (hbn : off b < mN M) (hi : i = nI j) (hj : j < n) (hn2 : n < 2 ^ 31)
    (h : G E R k Z ca sl (pc + 1) lv st (sR M a j (some b))) : G E R k Z ca sl pc lv (vR b :: vI i :: vR a :: st) M := by
  intro p l e s m args below meth c0 H locs ls C hw hy hS hl
  obtain ⟨h1, h2⟩ := ix_in hi hj hn2
  obtain ⟨cellV, g1, g2, g3, -⟩ := hy.ob hsb hb hbn
  have hcls := (hw.1 5 (RX5, TX5, 4) rfl).2
  obtain ⟨kA, comp, k1, k2, k3, -⟩ := hw.2.1.2.2.2.2
  have hcomp : comp = (eD E).1 5 := Option.some.inj (k3.symm.trans hcls.1)
  subst hcomp
  obtain ⟨kC, hkC, -⟩ := hcls.2
  refine W.aast C.1 C.2.1 (hy.ar4 hs ha hn) (fun q h => by cases h) (fun h => by cases h) k1 k2 rfl hkC ⟨fun q => h1 (Or.inl q), by rw [arrV_size, h2]; exact hj⟩ g1 (fun q h => by rw [g3] at h; cases h) (by rw [g2]; exact hkC) (by rw [g2]; exact va_assign hcls) rfl rfl hd fun H1 e1 z oq => ?_
  refine h p l e s m args below meth c0 H1 _ ls C hw (hy.set ha rfl z oq ?_ sR_hk) (hS.put z oq eZ_ad) hl
  unfold cellAt
  rw [hs]
  show H1[_]? = _
  rw [e1, h2, arrV_store]
  congr 2
  funext q
  by_cases hq : q = j
  · subst hq; simp [updV, mR, sR, orf]
  · simp [updV, mR, sR, hq]
theorem g_oinit {a : Id} {idx : Nat} (hd : decode k.2.1 pc = .ok (.invokespecial idx, 3)) (hl0 : Cond.methodLink k.1.cls idx Lib.objectInit ∈ TB) (h1 : Cond.instanceMethod Lib.objectInit ∈ TB) (h2 : Cond.code Lib.objectInit ⟨#[0xb1]⟩ 1 none ∈ TB) (hR : 1 ≤ R.frames) (hL : (st.map vcat).sum + 12 ≤ R.locals)
    (h : G E R k Z ca sl (pc + 3) lv st M) : G E R k Z ca sl pc lv (vR a :: st) M := by
  intro p l e s m args below meth c0 H locs ls C hw hy hS hl
  have hts := C.2.2.2.2.2.2.1
  refine W.objInit C.1 C.2.1 C.2.2.2.2.2.1 (hts _ hl0) (hts _ h1) (hts _ h2) rfl (hl.2.1.trans C.2.2.1.symm) rfl hd hR ?_ (h p l e s m args below meth c0 H locs ls C hw hy hS hl)
  have hc : ((st.map (cv E)).map fun v => v.category).sum = (st.map vcat).sum := by rw [List.map_map]; congr 2; funext v; exact cv_vcat
  show 2 * 0 + _ + 12 ≤ _
  rw [hc]; omega
end RN
end
section
/-! THE CLAIM OUT OF ONE WALK OF THE LAW'S BODY. Your part is whole_start (and what it stands on); all else here is the same for every law, but numbers. -/
def R_law : String := "ThirdEveningLaw"
def lw_P (b : Addr) (xs : List Int32) (args : Array Value) (s : State) : Prop := args = #[.ref b] ∧ s.IntsAt b xs ∧ xs.length ≤ 3072 ∧ (Jvm.Cond.and given_1 narrow_1).before args s = true
def lw_Q (_ : Array Value) (s : State) (o : Outcome) (t : State) : Prop := o = .returned (some (.int 1)) ∧ Framed s o t [] 600000 7302250
def lw_Z (below : List Frame) (a : Array Value) (s : State) : State → Prop := fun t => ∃ o, t.status = .running ∧ Ended t below o ∧ lw_Q a s o t
/-- the law's own end, with 1 on the stack, nothing written that was there before, its room as the claim has it -/
theorem lw_ret {p : Program} {l : Launch} {e : Env} {s : State} {m : MethodId} {below : List Frame} {meth : Method} {c : Code} {b : Nat} (hx : p.tables.exec = Jvm.exec) (hb : c.code = code) (hr : meth.sig.returnType = ret) (hlocks : meth.locks = false) {pc : Nat} {H : Heap} {ls : Array Slot} (hdg : decode code pc = .ok (.ireturn, 1)) : W p l e room_1 s m #[Value.ref b] below meth c H [] 600000 7302250 (lw_Z below #[Value.ref b] s) (F0 m pc ls [.int 1]) := by
  intro T hT X
  obtain ⟨fs, hret, hrun, hended, hW, hframe⟩ := X.leave (v := some (.int 1)) (hlocks := hlocks) (fun h => by rw [hr] at h; cases h)
  have hmeth' : T.vm.method? m = some meth := X.method'
  refine ⟨T.setFrames fs, ?_, .returned (some (.int 1)), hrun, hended, rfl, ⟨_, rfl⟩, hW, hframe⟩
  jvm_step X.here [X.here.top, hx, hb, hdg, hmeth', hr, ret, narrow_b1]
  (try refine ⟨rfl, ?_⟩); (try refine ⟨rfl, ?_⟩)
  first | (intro acts; rw [hret _ acts rfl rfl rfl]) | rw [hret _ _ rfl rfl rfl]
  exact Steps.refl _
/-- what holds at the law's entry: the machine, the code, the tables' words (any of lw_tbl by 'hts w (by decide +kernel)'), the script of L ints xs at the cell b, what the Statement gives of the start (any of its parts by flat_of_before) -/
def lw_At (p : Program) (s : State) (m : MethodId) (meth : Method) (c : Code) (b L : Nat) (xs : Nat → Int32) : Prop :=
  p.tables.exec = Jvm.exec ∧ c.code = code ∧ meth.sig.returnType = ret ∧ c.maxLocals = 4 ∧ s.vm.findClass R_law = some m.cls ∧ (∀ w ∈ lw_tbl, w.before #[Value.ref b] s = true) ∧ va_X b L xs s s.heap ∧ b < s.heap.size ∧ meth.locks = false ∧ (Jvm.Cond.and given_1 narrow_1).before #[Value.ref b] s = true
end
section
/-! THE WORLD AT THE LAW'S START -/
def gvL : List Cond := flatC (Jvm.Cond.and given_1 narrow_1)
def roTm (t : Nat) : Term := .static (roC t) (roF t) "[I"
def jsTm (i : Nat) : Term := .string RX3 (jsX i)
theorem wo_st : ∀ t, t < 4 → Cond.laysStatic (roC t) (roF t) "[I" ∈ lw_tbl ∧ Cond.initialized (roC t) ∈ lw_tbl ∧ Cond.arrayOf (roTm t) .int ∈ gvL ∧ Cond.eq (.length (roTm t)) (.int (Int32.ofNat (roV t).length)) ∈ gvL := by decide +kernel
theorem wo_el : ∀ t, t < 4 → ∀ j, j < (roV t).length → Cond.eq (.elem (roTm t) (.int (Int32.ofNat j))) (.int ((roV t).getD j 0)) ∈ gvL := by decide +kernel
theorem wo_s1 : ∀ i, i < 7 → Cond.stringRef RX3 (jsX i) (jsT i) ∈ lw_tbl ∧ Cond.exactly (jsTm i) "java/lang/String" ∈ gvL ∧ Cond.eq (.field (jsTm i) "java/lang/String" "coder" "B") (.int 0) ∈ gvL ∧ Cond.arrayOf (.field (jsTm i) "java/lang/String" "value" "[B") .byte ∈ gvL := by decide +kernel
def jsLn : List Nat := [6, 6, 4, 5, 4, 6, 3]
def jsBs : List (List Int32) := (List.range 7).map jsB
theorem jsLn_eq : ∀ i, i < 7 → jsLn.getD i 0 = (jsB i).length ∧ jsBs.getD i [] = jsB i ∧ jsLn.getD i 0 < 2 ^ 31 := by decide +kernel
theorem wo_s2 : ∀ i, i < 7 → Cond.eq (.length (.field (jsTm i) "java/lang/String" "value" "[B")) (.int (Int32.ofNat (jsLn.getD i 0))) ∈ gvL := by decide +kernel
theorem wo_s3 : ∀ i, i < 7 → ∀ j, j < jsLn.getD i 0 → Cond.eq (.elem (.field (jsTm i) "java/lang/String" "value" "[B") (.int (Int32.ofNat j))) (.int ((jsBs.getD i []).getD j 0)) ∈ gvL := by decide +kernel
theorem wo_s4 : ∀ i, i < 7 → ∀ j, j < 7 → i < j → Cond.not (.eq (jsTm i) (jsTm j)) ∈ gvL := by decide +kernel
theorem wo_j : Cond.laysStatic "java/lang/String" "COMPACT_STRINGS" "Z" ∈ lw_tbl ∧ Cond.initialized "java/lang/String" ∈ lw_tbl ∧ Cond.eq (.static "java/lang/String" "COMPACT_STRINGS" "Z") (.int 1) ∈ gvL ∧ Cond.laysStatic "jdk/internal/util/Preconditions" "SIOOBE_FORMATTER" "Ljava/util/function/BiFunction;" ∈ lw_tbl ∧ Cond.initialized "jdk/internal/util/Preconditions" ∈ lw_tbl ∧ Cond.isRef (.static "jdk/internal/util/Preconditions" "SIOOBE_FORMATTER" "Ljava/util/function/BiFunction;") ∈ gvL := by decide +kernel
theorem wo_nf : ∀ q ∈ NBf, (Cond.fieldLinkNest q.1 q.2.1 q.2.2.1 q.2.2.2.1 q.2.2.2.2.1 q.2.2.2.2.2) ∈ lw_tbl ∧ (Cond.fieldLinkNest q.1 q.2.1 q.2.2.1 q.2.2.2.1 q.2.2.2.2.1 q.2.2.2.2.2).onTables = true := by decide +kernel
theorem wo_nm : ∀ q ∈ NBm, (Cond.methodLinkNest q.1 q.2.1 q.2.2.1 q.2.2.2) ∈ lw_tbl ∧ (Cond.methodLinkNest q.1 q.2.1 q.2.2.1 q.2.2.2).onTables = true := by decide +kernel
theorem wo_ar : Cond.arrayClass .int ∈ lw_tbl ∧ Cond.arrayClass .long ∈ lw_tbl ∧ Cond.arrayOver (.object RX2) ∈ lw_tbl ∧ Cond.arrayOver (.object RX5) ∈ lw_tbl := by decide +kernel
theorem wo_in : Cond.instantiable RX0 5 ∈ lw_tbl ∧ Cond.instantiable RX1 4 ∈ lw_tbl ∧ Cond.instantiable RX2 10 ∈ lw_tbl ∧ Cond.instantiable RX3 6 ∈ lw_tbl ∧ Cond.instantiable RX4 9 ∈ lw_tbl ∧ Cond.instantiable RX5 4 ∈ lw_tbl ∧ Cond.instantiable RX6 11 ∈ lw_tbl ∧ Cond.instantiable RX7 50 ∈ lw_tbl := by decide +kernel
theorem arr_of {args : Array Value} {s : State} {ty : FieldType} (h : (Cond.arrayClass ty).before args s = true) : ∃ cA : ClassId, ArrOfT s cA ty ∧ s.vm.findClass ("[" ++ ty.toString) = some cA := by
  obtain ⟨c, k, comp, h1, h2, h3⟩ := Cond.arrayClass_spec (args := args) (first := s) (o := none) (s := s) (idx := []) h
  exact ⟨c, fun n z => ⟨fun k h => (by cases h), k, h2, comp, h3⟩, h1⟩
theorem arr_ov {args : Array Value} {s : State} {C : String} (h : (Cond.arrayOver (.object C)).before args s = true) : ∃ cA : ClassId, ArrOfT s cA (.object C) ∧ va_RA s cA (.object C) := by
  obtain ⟨comp, c, k, h1, h2, h3, h4, h5⟩ := Cond.arrayOver_spec (args := args) (first := s) (o := none) (s := s) (idx := []) h
  exact ⟨c, fun n z => ⟨fun k h => (by cases h), k, h3, comp, h4⟩, k, comp, h3, h4, h1, h5⟩
theorem wst_of {p : Program} {s : State} {m : MethodId} {meth : Method} {c : Code} {b L : Nat} {xs : Nat → Int32} (C0 : lw_At p s m meth c b L xs) : ∃ E : Ev, eB E = s.heap.size ∧ eL E = L ∧ eX E = xs ∧ eR E 4 = b ∧ Wst E s s.heap := by
  obtain ⟨hx, hb, hr, hml, hown, hts, hX, hbl, hlocks, hgv⟩ := C0
  have hg : ∀ w ∈ gvL, w.before #[Value.ref b] s = true := flat_of_before _ hgv
  have hA : ∀ a : Nat, a < s.heap.size → ¬ (fun q : Nat => s.heap.size ≤ q) a := fun a h q => by omega
  obtain ⟨i0, i1, i2, i3, i4, i5, i6, i7⟩ := wo_in
  obtain ⟨c0, s0, k0⟩ := u_known (C := RX0) (T := TX0) (N := 5) hts (fun w hw => (fw_ok0 w hw).1) (hts _ i0)
  obtain ⟨c1, s1, k1⟩ := u_known (C := RX1) (T := TX1) (N := 4) hts (fun w hw => (fw_ok1 w hw).1) (hts _ i1)
  obtain ⟨c2, s2, k2⟩ := u_known (C := RX2) (T := TX2) (N := 10) hts (fun w hw => (fw_ok2 w hw).1) (hts _ i2)
  obtain ⟨c3, s3, k3⟩ := u_known (C := RX3) (T := TX3) (N := 6) hts (fun w hw => (fw_ok3 w hw).1) (hts _ i3)
  obtain ⟨c4, s4, k4⟩ := u_known (C := RX4) (T := TX4) (N := 9) hts (fun w hw => (fw_ok4 w hw).1) (hts _ i4)
  obtain ⟨c5, s5, k5⟩ := u_known (C := RX5) (T := TX5) (N := 4) hts (fun w hw => (fw_ok5 w hw).1) (hts _ i5)
  obtain ⟨c6, s6, k6⟩ := u_known (C := RX6) (T := TX6) (N := 11) hts (fun w hw => (fw_ok6 w hw).1) (hts _ i6)
  obtain ⟨c7, s7, k7⟩ := u_known (C := RX7) (T := TX7) (N := 50) hts (fun w hw => (fw_ok7 w hw).1) (hts _ i7)
  obtain ⟨a0, f0, g0⟩ := arr_of (hts _ wo_ar.1)
  obtain ⟨a1, f1, g1⟩ := arr_of (hts _ wo_ar.2.1)
  obtain ⟨a2, f2, g2⟩ := arr_ov (hts _ wo_ar.2.2.1)
  obtain ⟨a3, f3, g3⟩ := arr_ov (hts _ wo_ar.2.2.2)
  have hst : ∀ t : Nat, ∃ q : Nat, t < 4 → va_Z (roC t) (roF t) "[I" (.ref q) (fun q : Nat => s.heap.size ≤ q) s s.heap ∧ va_T .int q (roV t).length (fun j => .int ((roV t).getD j 0)) (fun q : Nat => s.heap.size ≤ q) s s.heap := by
    intro t
    by_cases ht : t < 4
    · obtain ⟨w1, w2, w3, w4⟩ := wo_st t ht
      have hl31 : (roV t).length < 2 ^ 31 := by
        have : ∀ t, t < 4 → (roV t).length < 2 ^ 31 := by decide +kernel
        exact this t ht
      obtain ⟨q, q1, q2⟩ := va_Tof (f := fun j => .int ((roV t).getD j 0)) hl31 (hg _ w3) (va_eqt (hg _ w4)) (fun j hj => va_eqt (hg _ (wo_el t ht j hj))) hA
      exact ⟨q, fun _ => ⟨va_Zref (hts _ w1) (hts _ w2) q1 hA, q2⟩⟩
    · exact ⟨0, fun h => absurd h ht⟩
  obtain ⟨sa, hsa⟩ := Classical.axiomOfChoice hst
  obtain ⟨adK, adV, hS, hSt⟩ := vk_Sof (args := #[Value.ref b]) (s := s) (N := 7) (tm := jsTm) (len := jsLn) (byt := jsBs) (A := fun q : Nat => s.heap.size ≤ q) (fun i hi => (jsLn_eq i hi).2.2) (fun i hi => hg _ (wo_s1 i hi).2.1) (fun i hi => hg _ (wo_s1 i hi).2.2.1) (fun i hi => hg _ (wo_s1 i hi).2.2.2) (fun i hi => hg _ (wo_s2 i hi)) (fun i hi j hj => hg _ (wo_s3 i hi j hj))
    (fun i j hi hj hij => by
      rcases Nat.lt_or_ge i j with q | q
      · exact Or.inl (hg _ (wo_s4 i hi j hj q))
      · exact Or.inr (hg _ (wo_s4 j hj i hi (by omega)))) hA
  obtain ⟨fz, fo, hfz⟩ : ∃ (fz fo : Nat), va_Z "jdk/internal/util/Preconditions" "SIOOBE_FORMATTER" "Ljava/util/function/BiFunction;" (if fo = 0 then .ref fz else .null) (fun q : Nat => s.heap.size ≤ q) s s.heap := by
    rcases va_Zqof (hts _ wo_j.2.2.2.1) (hts _ wo_j.2.2.2.2.1) (hg _ wo_j.2.2.2.2.2) hA with h | ⟨t, h⟩
    · exact ⟨0, 1, by rw [if_neg (by decide)]; exact h⟩
    · exact ⟨t, 0, by rw [if_pos rfl]; exact h⟩
  refine ⟨(s.heap.size, ((fun k => [c0, c1, c2, c3, c4, c5, c6, c7].getD k c0), (fun k => [s0, s1, s2, s3, s4, s5, s6, s7].getD k s0)), (fun k => [a0, a1, a2, a3].getD k a0), (fun t => if t < 4 then sa t else if t = 4 then b else if t = 30 then fz else if t = 31 then fo else if t < 20 then adK (t - 10) else adV (t - 20)), L, xs), rfl, rfl, rfl, rfl, ?_⟩
  refine ⟨fun k q hq => ?_, ⟨⟨f0, g0⟩, ⟨f1, g1⟩, ⟨f2, g2⟩, ⟨f3, g3⟩⟩, ⟨⟨fun q hq => va_Nw.of (wo_nf q hq).2 (hts _ (wo_nf q hq).1), fun q hq => va_Nw.of (wo_nm q hq).2 (hts _ (wo_nm q hq).1)⟩, va_AO.of (hts _ wo_ar.2.2.1), va_AO.of (hts _ wo_ar.2.2.2)⟩, fun t ht => ?_, hX, hbl, fun q => by have q : s.heap.size ≤ b := q; omega, ?_⟩
  · match k, hq with
    | 0, hq => cases hq; exact k0
    | 1, hq => cases hq; exact k1
    | 2, hq => cases hq; exact k2
    | 3, hq => cases hq; exact k3
    | 4, hq => cases hq; exact k4
    | 5, hq => cases hq; exact k5
    | 6, hq => cases hq; exact k6
    | 7, hq => cases hq; exact k7
    | k + 8, hq => simp [classes] at hq
  · have h := hsa t ht
    have e : (if t < 4 then sa t else if t = 4 then b else if t = 30 then fz else if t = 31 then fo else if t < 20 then adK (t - 10) else adV (t - 20)) = sa t := if_pos ht
    show va_Z (roC t) (roF t) "[I" (.ref (if t < 4 then sa t else if t = 4 then b else if t = 30 then fz else if t = 31 then fo else if t < 20 then adK (t - 10) else adV (t - 20))) _ s s.heap ∧ va_T .int (if t < 4 then sa t else if t = 4 then b else if t = 30 then fz else if t = 31 then fo else if t < 20 then adK (t - 10) else adV (t - 20)) _ _ _ s s.heap
    rw [e]; exact h
  · refine ⟨fun i hi => ?_, fun i hi => ?_, ?_, ?_⟩
    · obtain ⟨w1, w2, w3, w4⟩ := hS.1 i hi
      obtain ⟨l1, l2, -⟩ := jsLn_eq i hi
      have e1 : (if 10 + i < 4 then sa (10 + i) else if 10 + i = 4 then b else if 10 + i = 30 then fz else if 10 + i = 31 then fo else if 10 + i < 20 then adK (10 + i - 10) else adV (10 + i - 20)) = adK i := by
        rw [if_neg (by omega), if_neg (by omega), if_neg (by omega), if_neg (by omega), if_pos (by omega), show 10 + i - 10 = i by omega]
      have e2 : (if 20 + i < 4 then sa (20 + i) else if 20 + i = 4 then b else if 20 + i = 30 then fz else if 20 + i = 31 then fo else if 20 + i < 20 then adK (20 + i - 10) else adV (20 + i - 20)) = adV i := by
        rw [if_neg (by omega), if_neg (by omega), if_neg (by omega), if_neg (by omega), if_neg (by omega), show 20 + i - 20 = i by omega]
      rw [l1, l2] at w4
      show va_O "java/lang/String" (if 10 + i < 4 then sa (10 + i) else if 10 + i = 4 then b else if 10 + i = 30 then fz else if 10 + i = 31 then fo else if 10 + i < 20 then adK (10 + i - 10) else adV (10 + i - 20)) _ s s.heap ∧ va_OF "java/lang/String" "coder" "B" (.int 0) (if 10 + i < 4 then sa (10 + i) else if 10 + i = 4 then b else if 10 + i = 30 then fz else if 10 + i = 31 then fo else if 10 + i < 20 then adK (10 + i - 10) else adV (10 + i - 20)) _ s s.heap ∧ va_OF "java/lang/String" "value" "[B" (.ref (if 20 + i < 4 then sa (20 + i) else if 20 + i = 4 then b else if 20 + i = 30 then fz else if 20 + i = 31 then fo else if 20 + i < 20 then adK (20 + i - 10) else adV (20 + i - 20))) (if 10 + i < 4 then sa (10 + i) else if 10 + i = 4 then b else if 10 + i = 30 then fz else if 10 + i = 31 then fo else if 10 + i < 20 then adK (10 + i - 10) else adV (10 + i - 20)) _ s s.heap ∧ va_T .byte (if 20 + i < 4 then sa (20 + i) else if 20 + i = 4 then b else if 20 + i = 30 then fz else if 20 + i = 31 then fo else if 20 + i < 20 then adK (20 + i - 10) else adV (20 + i - 20)) _ _ _ s s.heap
      rw [e1, e2]
      exact ⟨w1, w2, w3, w4⟩
    · have e1 : (if 10 + i < 4 then sa (10 + i) else if 10 + i = 4 then b else if 10 + i = 30 then fz else if 10 + i = 31 then fo else if 10 + i < 20 then adK (10 + i - 10) else adV (10 + i - 20)) = adK i := by
        rw [if_neg (by omega), if_neg (by omega), if_neg (by omega), if_neg (by omega), if_pos (by omega), show 10 + i - 10 = i by omega]
      show vk_R RX3 (jsX i) (jsT i) (if 10 + i < 4 then sa (10 + i) else if 10 + i = 4 then b else if 10 + i = 30 then fz else if 10 + i = 31 then fo else if 10 + i < 20 then adK (10 + i - 10) else adV (10 + i - 20)) s
      rw [e1]
      exact vk_R.of (hts _ (wo_s1 i hi).1) (hSt i hi)
    · exact va_Zof (hts _ wo_j.1) (hts _ wo_j.2.1) (va_eqi (hg _ wo_j.2.2.1)) hA
    · exact hfz
end
section
/-! THE LAW'S OWN JUDGEMENT -/
def kL (nm : String) : MK := (⟨R_law, nm, ""⟩, code, 4, ret)
def ZL (E : Ev) : ZT := fun below args s t => (∃ b, args = #[Value.ref b]) ∧ s.heap.size = eB E → lw_Z below args s t
theorem g_law {E : Ev} {nm : String} {ca sl : Nat} {lv : List (Option AV)} {M : Mem} {pc : Nat} (hd : decode code pc = .ok (.ireturn, 1)) (h1 : ca ≤ 600000) (h2 : sl ≤ 7302250) : G E room_1 (kL nm) (ZL E) ca sl pc lv [vI 1] M := by
  intro p l e s m args below meth c H locs ls C hw hy hS hl
  by_cases hc : (∃ b, args = #[Value.ref b]) ∧ s.heap.size = eB E
  · obtain ⟨⟨b, rfl⟩, hsz⟩ := hc
    have key : W p l e room_1 s m #[Value.ref b] below meth c H locs ca sl (lw_Z below #[Value.ref b] s) (F0 m pc ls [.int 1]) := by
      refine va_forget (fun q hq => ?_) ?_
      · have := hS.2.2 q hq
        rw [hsz]; exact this
      · exact W.widen (k := 600000) (n := 7302250) h1 h2 (lw_ret C.1 C.2.1 C.2.2.2.1 C.2.2.2.2.1 hd)
    intro T hT X
    obtain ⟨t, a, z⟩ := key T hT X
    exact ⟨t, a, fun _ => z⟩
  · intro T hT X
    exact ⟨_, Steps.refl _, fun z => absurd z hc⟩
def M00 : Mem := (fun _ _ => 0, fun _ _ => 0, fun _ _ => none, 0)
theorem start_of {p : Program} {e : Env} {s : State} {m : MethodId} {below : List Frame} {meth : Method} {c : Code} (l : Launch) {b L : Nat} {xs : Nat → Int32} (hL : L ≤ 3072) (C0 : lw_At p s m meth c b L xs)
    (hG : ∀ E : Ev, eL E ≤ 3072 → G E room_1 (kL meth.name) (ZL E) 0 0 0 [some (vS 4), none, none, none] [] M00) : W p l e room_1 s m #[Value.ref b] below meth c s.heap [] 0 0 (lw_Z below #[Value.ref b] s) (entryFrame m ([Value.ref b] : List Value).toArray 4) := by
  obtain ⟨E, e1, e2, e3, e4, hw⟩ := wst_of C0
  obtain ⟨hx, hb, hr, hml, hown, hts, hX, hbl, hlocks, hgv⟩ := C0
  have hl := lv_entry ([.ref b]) (n := 4) (Nat.le_of_ble_eq_true rfl)
  rw [lg_entry_eq]
  generalize (lg_sl ([.ref b]) ++ List.replicate (4 - (lg_sl ([.ref b])).length) Slot.unset).toArray = ls at hl ⊢
  have hl : lv_has ls 4 [(0, .ref b)] := hl
  have key := hG E (by omega) p l e s m #[Value.ref b] below meth c s.heap [] ls ⟨hx, hb, hml, hr, hlocks, hown, TB_hts hts, rfl⟩ hw ⟨by rw [e1]; rfl, fun a _ h => absurd h (Nat.not_lt_zero _)⟩ va_S.rf ⟨rfl, by
    show lv_has ls 4 [(0, .ref (eR E 4))]
    rw [e4]; exact hl⟩
  intro T hT X
  obtain ⟨t, a, z⟩ := key T hT X
  exact ⟨t, a, z ⟨⟨b, rfl⟩, e1.symm⟩⟩
end
