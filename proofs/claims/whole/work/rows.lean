section
-- ===== PART A: goes FIRST, ahead of the names: the tables' words, and 'selects' of the private methods out of them =====
/-- a private method of a class that the tables say can be made, by its rows of tables_1 -/
def lw_okq (q : MethodName × Nat) : Prop := (q.1.cls ≠ "java/lang/invoke/MethodHandle" ∧ q.1.cls ≠ "java/lang/invoke/VarHandle") ∧ Cond.instantiable q.1.cls q.2 ∈ tables_1 ∧ Cond.privateMethod q.1 ∈ tables_1 ∧ Cond.instanceMethod q.1 ∈ tables_1
theorem lw_p0 : lw_okq (⟨"ThirdEvening", "isShelf", "(I)Z"⟩, 11) := ⟨⟨by decide +kernel, by decide +kernel⟩, List.mem_of_getElem? (i := 18) (by decide +kernel), List.mem_of_getElem? (i := 258) (by decide +kernel), List.mem_of_getElem? (i := 259) (by decide +kernel)⟩
theorem lw_p1 : lw_okq (⟨"ThirdEvening", "refuse", "(I)I"⟩, 11) := ⟨⟨by decide +kernel, by decide +kernel⟩, List.mem_of_getElem? (i := 18) (by decide +kernel), List.mem_of_getElem? (i := 262) (by decide +kernel), List.mem_of_getElem? (i := 263) (by decide +kernel)⟩
theorem lw_p2 : lw_okq (⟨"ThirdEvening", "shelfAt", "(I)LThirdEvening$Shelf;"⟩, 11) := ⟨⟨by decide +kernel, by decide +kernel⟩, List.mem_of_getElem? (i := 18) (by decide +kernel), List.mem_of_getElem? (i := 266) (by decide +kernel), List.mem_of_getElem? (i := 267) (by decide +kernel)⟩
theorem lw_p3 : lw_okq (⟨"ThirdEvening", "whyNoRow", "(I)I"⟩, 11) := ⟨⟨by decide +kernel, by decide +kernel⟩, List.mem_of_getElem? (i := 18) (by decide +kernel), List.mem_of_getElem? (i := 281) (by decide +kernel), List.mem_of_getElem? (i := 282) (by decide +kernel)⟩
theorem lw_p4 : lw_okq (⟨"ThirdEvening$Reader", "readItem", "()Z"⟩, 6) := ⟨⟨by decide +kernel, by decide +kernel⟩, List.mem_of_getElem? (i := 167) (by decide +kernel), List.mem_of_getElem? (i := 435) (by decide +kernel), List.mem_of_getElem? (i := 436) (by decide +kernel)⟩
theorem lw_p5 : lw_okq (⟨"ThirdEvening$Reader", "readWord", "()I"⟩, 6) := ⟨⟨by decide +kernel, by decide +kernel⟩, List.mem_of_getElem? (i := 167) (by decide +kernel), List.mem_of_getElem? (i := 439) (by decide +kernel), List.mem_of_getElem? (i := 440) (by decide +kernel)⟩
theorem lw_p6 : lw_okq (⟨"ThirdEvening$Reader", "letter", "()I"⟩, 6) := ⟨⟨by decide +kernel, by decide +kernel⟩, List.mem_of_getElem? (i := 167) (by decide +kernel), List.mem_of_getElem? (i := 443) (by decide +kernel), List.mem_of_getElem? (i := 444) (by decide +kernel)⟩
theorem lw_p7 : lw_okq (⟨"ThirdEvening$Reader", "fail", "(I)Z"⟩, 6) := ⟨⟨by decide +kernel, by decide +kernel⟩, List.mem_of_getElem? (i := 167) (by decide +kernel), List.mem_of_getElem? (i := 497) (by decide +kernel), List.mem_of_getElem? (i := 498) (by decide +kernel)⟩
theorem lw_p8 : lw_okq (⟨"ThirdEvening$Reader", "readSign", "(I)Z"⟩, 6) := ⟨⟨by decide +kernel, by decide +kernel⟩, List.mem_of_getElem? (i := 167) (by decide +kernel), List.mem_of_getElem? (i := 509) (by decide +kernel), List.mem_of_getElem? (i := 510) (by decide +kernel)⟩
theorem lw_p9 : lw_okq (⟨"ThirdEvening$Reader", "readPerson", "()Z"⟩, 6) := ⟨⟨by decide +kernel, by decide +kernel⟩, List.mem_of_getElem? (i := 167) (by decide +kernel), List.mem_of_getElem? (i := 514) (by decide +kernel), List.mem_of_getElem? (i := 515) (by decide +kernel)⟩
theorem lw_p10 : lw_okq (⟨"ThirdEvening$Reader", "readNumber", "(II)I"⟩, 6) := ⟨⟨by decide +kernel, by decide +kernel⟩, List.mem_of_getElem? (i := 167) (by decide +kernel), List.mem_of_getElem? (i := 519) (by decide +kernel), List.mem_of_getElem? (i := 520) (by decide +kernel)⟩
theorem lw_p11 : lw_okq (⟨"ThirdEvening$Reader", "isDigit", "()Z"⟩, 6) := ⟨⟨by decide +kernel, by decide +kernel⟩, List.mem_of_getElem? (i := 167) (by decide +kernel), List.mem_of_getElem? (i := 523) (by decide +kernel), List.mem_of_getElem? (i := 524) (by decide +kernel)⟩
theorem lw_p12 : lw_okq (⟨"ThirdEvening$Reader", "readDigit", "()I"⟩, 6) := ⟨⟨by decide +kernel, by decide +kernel⟩, List.mem_of_getElem? (i := 167) (by decide +kernel), List.mem_of_getElem? (i := 527) (by decide +kernel), List.mem_of_getElem? (i := 528) (by decide +kernel)⟩
theorem lw_p13 : lw_okq (⟨"ThirdEvening$Reader", "readFriend", "()Z"⟩, 6) := ⟨⟨by decide +kernel, by decide +kernel⟩, List.mem_of_getElem? (i := 167) (by decide +kernel), List.mem_of_getElem? (i := 532) (by decide +kernel), List.mem_of_getElem? (i := 533) (by decide +kernel)⟩
theorem lw_p14 : lw_okq (⟨"ThirdEvening$Reader", "readGone", "()Z"⟩, 6) := ⟨⟨by decide +kernel, by decide +kernel⟩, List.mem_of_getElem? (i := 167) (by decide +kernel), List.mem_of_getElem? (i := 537) (by decide +kernel), List.mem_of_getElem? (i := 538) (by decide +kernel)⟩
theorem lw_p15 : lw_okq (⟨"ThirdEvening$Reader", "readSetting", "(I)Z"⟩, 6) := ⟨⟨by decide +kernel, by decide +kernel⟩, List.mem_of_getElem? (i := 167) (by decide +kernel), List.mem_of_getElem? (i := 541) (by decide +kernel), List.mem_of_getElem? (i := 542) (by decide +kernel)⟩
def lw_privs_1 : List (MethodName × Nat) := [(⟨"ThirdEvening", "isShelf", "(I)Z"⟩, 11), (⟨"ThirdEvening", "refuse", "(I)I"⟩, 11), (⟨"ThirdEvening", "shelfAt", "(I)LThirdEvening$Shelf;"⟩, 11), (⟨"ThirdEvening", "whyNoRow", "(I)I"⟩, 11), (⟨"ThirdEvening$Reader", "readItem", "()Z"⟩, 6), (⟨"ThirdEvening$Reader", "readWord", "()I"⟩, 6), (⟨"ThirdEvening$Reader", "letter", "()I"⟩, 6), (⟨"ThirdEvening$Reader", "fail", "(I)Z"⟩, 6), (⟨"ThirdEvening$Reader", "readSign", "(I)Z"⟩, 6), (⟨"ThirdEvening$Reader", "readPerson", "()Z"⟩, 6), (⟨"ThirdEvening$Reader", "readNumber", "(II)I"⟩, 6), (⟨"ThirdEvening$Reader", "isDigit", "()Z"⟩, 6), (⟨"ThirdEvening$Reader", "readDigit", "()I"⟩, 6), (⟨"ThirdEvening$Reader", "readFriend", "()Z"⟩, 6), (⟨"ThirdEvening$Reader", "readGone", "()Z"⟩, 6), (⟨"ThirdEvening$Reader", "readSetting", "(I)Z"⟩, 6)]
theorem lw_r1 : ∀ q ∈ lw_privs_1, lw_okq q := List.forall_mem_cons.mpr ⟨lw_p0, List.forall_mem_cons.mpr ⟨lw_p1, List.forall_mem_cons.mpr ⟨lw_p2, List.forall_mem_cons.mpr ⟨lw_p3, List.forall_mem_cons.mpr ⟨lw_p4, List.forall_mem_cons.mpr ⟨lw_p5, List.forall_mem_cons.mpr ⟨lw_p6, List.forall_mem_cons.mpr ⟨lw_p7, List.forall_mem_cons.mpr ⟨lw_p8, List.forall_mem_cons.mpr ⟨lw_p9, List.forall_mem_cons.mpr ⟨lw_p10, List.forall_mem_cons.mpr ⟨lw_p11, List.forall_mem_cons.mpr ⟨lw_p12, List.forall_mem_cons.mpr ⟨lw_p13, List.forall_mem_cons.mpr ⟨lw_p14, List.forall_mem_cons.mpr ⟨lw_p15, fun _ h => absurd h List.not_mem_nil⟩⟩⟩⟩⟩⟩⟩⟩⟩⟩⟩⟩⟩⟩⟩⟩
theorem lw_p16 : lw_okq (⟨"ThirdEvening$Person", "isMatchDay", "(I)Z"⟩, 10) := ⟨⟨by decide +kernel, by decide +kernel⟩, List.mem_of_getElem? (i := 33) (by decide +kernel), List.mem_of_getElem? (i := 572) (by decide +kernel), List.mem_of_getElem? (i := 573) (by decide +kernel)⟩
theorem lw_p17 : lw_okq (⟨"ThirdEvening$School", "stillComing", "(I)I"⟩, 9) := ⟨⟨by decide +kernel, by decide +kernel⟩, List.mem_of_getElem? (i := 26) (by decide +kernel), List.mem_of_getElem? (i := 592) (by decide +kernel), List.mem_of_getElem? (i := 593) (by decide +kernel)⟩
theorem lw_p18 : lw_okq (⟨"ThirdEvening$School", "comesWith", "(LThirdEvening$Person;I)Z"⟩, 9) := ⟨⟨by decide +kernel, by decide +kernel⟩, List.mem_of_getElem? (i := 26) (by decide +kernel), List.mem_of_getElem? (i := 596) (by decide +kernel), List.mem_of_getElem? (i := 597) (by decide +kernel)⟩
theorem lw_p19 : lw_okq (⟨"ThirdEvening", "heldBy", "(I)I"⟩, 11) := ⟨⟨by decide +kernel, by decide +kernel⟩, List.mem_of_getElem? (i := 18) (by decide +kernel), List.mem_of_getElem? (i := 695) (by decide +kernel), List.mem_of_getElem? (i := 696) (by decide +kernel)⟩
theorem lw_p20 : lw_okq (⟨"ThirdEvening", "whyNoRegister", "(II)I"⟩, 11) := ⟨⟨by decide +kernel, by decide +kernel⟩, List.mem_of_getElem? (i := 18) (by decide +kernel), List.mem_of_getElem? (i := 707) (by decide +kernel), List.mem_of_getElem? (i := 708) (by decide +kernel)⟩
theorem lw_p21 : lw_okq (⟨"ThirdEvening$Moves", "call", "(IIII)I"⟩, 5) := ⟨⟨by decide +kernel, by decide +kernel⟩, List.mem_of_getElem? (i := 197) (by decide +kernel), List.mem_of_getElem? (i := 752) (by decide +kernel), List.mem_of_getElem? (i := 753) (by decide +kernel)⟩
theorem lw_p22 : lw_okq (⟨"ThirdEvening$Moves", "note", "(I)V"⟩, 5) := ⟨⟨by decide +kernel, by decide +kernel⟩, List.mem_of_getElem? (i := 197) (by decide +kernel), List.mem_of_getElem? (i := 763) (by decide +kernel), List.mem_of_getElem? (i := 764) (by decide +kernel)⟩
theorem lw_p23 : lw_okq (⟨"ThirdEvening$Moves", "perform", "(III)I"⟩, 5) := ⟨⟨by decide +kernel, by decide +kernel⟩, List.mem_of_getElem? (i := 197) (by decide +kernel), List.mem_of_getElem? (i := 767) (by decide +kernel), List.mem_of_getElem? (i := 768) (by decide +kernel)⟩
theorem lw_p24 : lw_okq (⟨"ThirdEveningModel", "isShelf", "(I)Z"⟩, 50) := ⟨⟨by decide +kernel, by decide +kernel⟩, List.mem_of_getElem? (i := 795) (by decide +kernel), List.mem_of_getElem? (i := 956) (by decide +kernel), List.mem_of_getElem? (i := 957) (by decide +kernel)⟩
theorem lw_p25 : lw_okq (⟨"ThirdEveningModel", "no", "(I)I"⟩, 50) := ⟨⟨by decide +kernel, by decide +kernel⟩, List.mem_of_getElem? (i := 795) (by decide +kernel), List.mem_of_getElem? (i := 960) (by decide +kernel), List.mem_of_getElem? (i := 961) (by decide +kernel)⟩
theorem lw_p26 : lw_okq (⟨"ThirdEveningModel", "isOne", "(I)Z"⟩, 50) := ⟨⟨by decide +kernel, by decide +kernel⟩, List.mem_of_getElem? (i := 795) (by decide +kernel), List.mem_of_getElem? (i := 980) (by decide +kernel), List.mem_of_getElem? (i := 981) (by decide +kernel)⟩
theorem lw_p27 : lw_okq (⟨"ThirdEveningModel", "isUnder", "(II)Z"⟩, 50) := ⟨⟨by decide +kernel, by decide +kernel⟩, List.mem_of_getElem? (i := 795) (by decide +kernel), List.mem_of_getElem? (i := 992) (by decide +kernel), List.mem_of_getElem? (i := 993) (by decide +kernel)⟩
theorem lw_p28 : lw_okq (⟨"ThirdEveningModel", "isFrom", "(III)Z"⟩, 50) := ⟨⟨by decide +kernel, by decide +kernel⟩, List.mem_of_getElem? (i := 795) (by decide +kernel), List.mem_of_getElem? (i := 1000) (by decide +kernel), List.mem_of_getElem? (i := 1001) (by decide +kernel)⟩
theorem lw_p29 : lw_okq (⟨"ThirdEveningModel", "adds", "(IIII)I"⟩, 50) := ⟨⟨by decide +kernel, by decide +kernel⟩, List.mem_of_getElem? (i := 795) (by decide +kernel), List.mem_of_getElem? (i := 1004) (by decide +kernel), List.mem_of_getElem? (i := 1005) (by decide +kernel)⟩
theorem lw_p30 : lw_okq (⟨"ThirdEveningModel", "noTen", "(I)I"⟩, 50) := ⟨⟨by decide +kernel, by decide +kernel⟩, List.mem_of_getElem? (i := 795) (by decide +kernel), List.mem_of_getElem? (i := 1012) (by decide +kernel), List.mem_of_getElem? (i := 1013) (by decide +kernel)⟩
theorem lw_p31 : lw_okq (⟨"ThirdEveningModel", "isAsked", "(II)Z"⟩, 50) := ⟨⟨by decide +kernel, by decide +kernel⟩, List.mem_of_getElem? (i := 795) (by decide +kernel), List.mem_of_getElem? (i := 1020) (by decide +kernel), List.mem_of_getElem? (i := 1021) (by decide +kernel)⟩
def lw_privs_2 : List (MethodName × Nat) := [(⟨"ThirdEvening$Person", "isMatchDay", "(I)Z"⟩, 10), (⟨"ThirdEvening$School", "stillComing", "(I)I"⟩, 9), (⟨"ThirdEvening$School", "comesWith", "(LThirdEvening$Person;I)Z"⟩, 9), (⟨"ThirdEvening", "heldBy", "(I)I"⟩, 11), (⟨"ThirdEvening", "whyNoRegister", "(II)I"⟩, 11), (⟨"ThirdEvening$Moves", "call", "(IIII)I"⟩, 5), (⟨"ThirdEvening$Moves", "note", "(I)V"⟩, 5), (⟨"ThirdEvening$Moves", "perform", "(III)I"⟩, 5), (⟨"ThirdEveningModel", "isShelf", "(I)Z"⟩, 50), (⟨"ThirdEveningModel", "no", "(I)I"⟩, 50), (⟨"ThirdEveningModel", "isOne", "(I)Z"⟩, 50), (⟨"ThirdEveningModel", "isUnder", "(II)Z"⟩, 50), (⟨"ThirdEveningModel", "isFrom", "(III)Z"⟩, 50), (⟨"ThirdEveningModel", "adds", "(IIII)I"⟩, 50), (⟨"ThirdEveningModel", "noTen", "(I)I"⟩, 50), (⟨"ThirdEveningModel", "isAsked", "(II)Z"⟩, 50)]
theorem lw_r2 : ∀ q ∈ lw_privs_2, lw_okq q := List.forall_mem_cons.mpr ⟨lw_p16, List.forall_mem_cons.mpr ⟨lw_p17, List.forall_mem_cons.mpr ⟨lw_p18, List.forall_mem_cons.mpr ⟨lw_p19, List.forall_mem_cons.mpr ⟨lw_p20, List.forall_mem_cons.mpr ⟨lw_p21, List.forall_mem_cons.mpr ⟨lw_p22, List.forall_mem_cons.mpr ⟨lw_p23, List.forall_mem_cons.mpr ⟨lw_p24, List.forall_mem_cons.mpr ⟨lw_p25, List.forall_mem_cons.mpr ⟨lw_p26, List.forall_mem_cons.mpr ⟨lw_p27, List.forall_mem_cons.mpr ⟨lw_p28, List.forall_mem_cons.mpr ⟨lw_p29, List.forall_mem_cons.mpr ⟨lw_p30, List.forall_mem_cons.mpr ⟨lw_p31, fun _ h => absurd h List.not_mem_nil⟩⟩⟩⟩⟩⟩⟩⟩⟩⟩⟩⟩⟩⟩⟩⟩
theorem lw_p32 : lw_okq (⟨"ThirdEveningModel", "asks", "(II)V"⟩, 50) := ⟨⟨by decide +kernel, by decide +kernel⟩, List.mem_of_getElem? (i := 795) (by decide +kernel), List.mem_of_getElem? (i := 1024) (by decide +kernel), List.mem_of_getElem? (i := 1025) (by decide +kernel)⟩
theorem lw_p33 : lw_okq (⟨"ThirdEveningModel", "wanted", "(I)I"⟩, 50) := ⟨⟨by decide +kernel, by decide +kernel⟩, List.mem_of_getElem? (i := 795) (by decide +kernel), List.mem_of_getElem? (i := 1040) (by decide +kernel), List.mem_of_getElem? (i := 1041) (by decide +kernel)⟩
theorem lw_p34 : lw_okq (⟨"ThirdEveningModel", "all", "([IZ)V"⟩, 50) := ⟨⟨by decide +kernel, by decide +kernel⟩, List.mem_of_getElem? (i := 795) (by decide +kernel), List.mem_of_getElem? (i := 1044) (by decide +kernel), List.mem_of_getElem? (i := 1045) (by decide +kernel)⟩
theorem lw_p35 : lw_okq (⟨"ThirdEveningModel", "carries", "([I[IIZ)I"⟩, 50) := ⟨⟨by decide +kernel, by decide +kernel⟩, List.mem_of_getElem? (i := 795) (by decide +kernel), List.mem_of_getElem? (i := 1048) (by decide +kernel), List.mem_of_getElem? (i := 1049) (by decide +kernel)⟩
theorem lw_p36 : lw_okq (⟨"ThirdEveningModel", "item", "()Z"⟩, 50) := ⟨⟨by decide +kernel, by decide +kernel⟩, List.mem_of_getElem? (i := 795) (by decide +kernel), List.mem_of_getElem? (i := 1052) (by decide +kernel), List.mem_of_getElem? (i := 1053) (by decide +kernel)⟩
theorem lw_p37 : lw_okq (⟨"ThirdEveningModel", "isPerson", "()Z"⟩, 50) := ⟨⟨by decide +kernel, by decide +kernel⟩, List.mem_of_getElem? (i := 795) (by decide +kernel), List.mem_of_getElem? (i := 1056) (by decide +kernel), List.mem_of_getElem? (i := 1057) (by decide +kernel)⟩
theorem lw_p38 : lw_okq (⟨"ThirdEveningModel", "sign", "(I)I"⟩, 50) := ⟨⟨by decide +kernel, by decide +kernel⟩, List.mem_of_getElem? (i := 795) (by decide +kernel), List.mem_of_getElem? (i := 1060) (by decide +kernel), List.mem_of_getElem? (i := 1061) (by decide +kernel)⟩
theorem lw_p39 : lw_okq (⟨"ThirdEveningModel", "wrong", "(I)Z"⟩, 50) := ⟨⟨by decide +kernel, by decide +kernel⟩, List.mem_of_getElem? (i := 795) (by decide +kernel), List.mem_of_getElem? (i := 1064) (by decide +kernel), List.mem_of_getElem? (i := 1065) (by decide +kernel)⟩
theorem lw_p40 : lw_okq (⟨"ThirdEveningModel", "word", "()I"⟩, 50) := ⟨⟨by decide +kernel, by decide +kernel⟩, List.mem_of_getElem? (i := 795) (by decide +kernel), List.mem_of_getElem? (i := 1068) (by decide +kernel), List.mem_of_getElem? (i := 1069) (by decide +kernel)⟩
theorem lw_p41 : lw_okq (⟨"ThirdEveningModel", "reads", "()Z"⟩, 50) := ⟨⟨by decide +kernel, by decide +kernel⟩, List.mem_of_getElem? (i := 795) (by decide +kernel), List.mem_of_getElem? (i := 1072) (by decide +kernel), List.mem_of_getElem? (i := 1073) (by decide +kernel)⟩
theorem lw_p42 : lw_okq (⟨"ThirdEveningModel", "isDigit", "()Z"⟩, 50) := ⟨⟨by decide +kernel, by decide +kernel⟩, List.mem_of_getElem? (i := 795) (by decide +kernel), List.mem_of_getElem? (i := 1076) (by decide +kernel), List.mem_of_getElem? (i := 1077) (by decide +kernel)⟩
theorem lw_p43 : lw_okq (⟨"ThirdEveningModel", "isSo", "(II)Z"⟩, 50) := ⟨⟨by decide +kernel, by decide +kernel⟩, List.mem_of_getElem? (i := 795) (by decide +kernel), List.mem_of_getElem? (i := 1080) (by decide +kernel), List.mem_of_getElem? (i := 1081) (by decide +kernel)⟩
theorem lw_p44 : lw_okq (⟨"ThirdEveningModel", "wills", "(I)I"⟩, 50) := ⟨⟨by decide +kernel, by decide +kernel⟩, List.mem_of_getElem? (i := 795) (by decide +kernel), List.mem_of_getElem? (i := 1092) (by decide +kernel), List.mem_of_getElem? (i := 1093) (by decide +kernel)⟩
theorem lw_p45 : lw_okq (⟨"ThirdEveningModel", "comes", "(I)V"⟩, 50) := ⟨⟨by decide +kernel, by decide +kernel⟩, List.mem_of_getElem? (i := 795) (by decide +kernel), List.mem_of_getElem? (i := 1100) (by decide +kernel), List.mem_of_getElem? (i := 1101) (by decide +kernel)⟩
theorem lw_p46 : lw_okq (⟨"ThirdEveningModel", "stillComes", "(II)Z"⟩, 50) := ⟨⟨by decide +kernel, by decide +kernel⟩, List.mem_of_getElem? (i := 795) (by decide +kernel), List.mem_of_getElem? (i := 1104) (by decide +kernel), List.mem_of_getElem? (i := 1105) (by decide +kernel)⟩
theorem lw_p47 : lw_okq (⟨"ThirdEveningModel", "isMany", "(I)Z"⟩, 50) := ⟨⟨by decide +kernel, by decide +kernel⟩, List.mem_of_getElem? (i := 795) (by decide +kernel), List.mem_of_getElem? (i := 1112) (by decide +kernel), List.mem_of_getElem? (i := 1113) (by decide +kernel)⟩
def lw_privs_3 : List (MethodName × Nat) := [(⟨"ThirdEveningModel", "asks", "(II)V"⟩, 50), (⟨"ThirdEveningModel", "wanted", "(I)I"⟩, 50), (⟨"ThirdEveningModel", "all", "([IZ)V"⟩, 50), (⟨"ThirdEveningModel", "carries", "([I[IIZ)I"⟩, 50), (⟨"ThirdEveningModel", "item", "()Z"⟩, 50), (⟨"ThirdEveningModel", "isPerson", "()Z"⟩, 50), (⟨"ThirdEveningModel", "sign", "(I)I"⟩, 50), (⟨"ThirdEveningModel", "wrong", "(I)Z"⟩, 50), (⟨"ThirdEveningModel", "word", "()I"⟩, 50), (⟨"ThirdEveningModel", "reads", "()Z"⟩, 50), (⟨"ThirdEveningModel", "isDigit", "()Z"⟩, 50), (⟨"ThirdEveningModel", "isSo", "(II)Z"⟩, 50), (⟨"ThirdEveningModel", "wills", "(I)I"⟩, 50), (⟨"ThirdEveningModel", "comes", "(I)V"⟩, 50), (⟨"ThirdEveningModel", "stillComes", "(II)Z"⟩, 50), (⟨"ThirdEveningModel", "isMany", "(I)Z"⟩, 50)]
theorem lw_r3 : ∀ q ∈ lw_privs_3, lw_okq q := List.forall_mem_cons.mpr ⟨lw_p32, List.forall_mem_cons.mpr ⟨lw_p33, List.forall_mem_cons.mpr ⟨lw_p34, List.forall_mem_cons.mpr ⟨lw_p35, List.forall_mem_cons.mpr ⟨lw_p36, List.forall_mem_cons.mpr ⟨lw_p37, List.forall_mem_cons.mpr ⟨lw_p38, List.forall_mem_cons.mpr ⟨lw_p39, List.forall_mem_cons.mpr ⟨lw_p40, List.forall_mem_cons.mpr ⟨lw_p41, List.forall_mem_cons.mpr ⟨lw_p42, List.forall_mem_cons.mpr ⟨lw_p43, List.forall_mem_cons.mpr ⟨lw_p44, List.forall_mem_cons.mpr ⟨lw_p45, List.forall_mem_cons.mpr ⟨lw_p46, List.forall_mem_cons.mpr ⟨lw_p47, fun _ h => absurd h List.not_mem_nil⟩⟩⟩⟩⟩⟩⟩⟩⟩⟩⟩⟩⟩⟩⟩⟩
theorem lw_p48 : lw_okq (⟨"ThirdEveningModel", "runs", "(I)V"⟩, 50) := ⟨⟨by decide +kernel, by decide +kernel⟩, List.mem_of_getElem? (i := 795) (by decide +kernel), List.mem_of_getElem? (i := 1116) (by decide +kernel), List.mem_of_getElem? (i := 1117) (by decide +kernel)⟩
theorem lw_p49 : lw_okq (⟨"ThirdEveningModel", "passes", "()V"⟩, 50) := ⟨⟨by decide +kernel, by decide +kernel⟩, List.mem_of_getElem? (i := 795) (by decide +kernel), List.mem_of_getElem? (i := 1120) (by decide +kernel), List.mem_of_getElem? (i := 1121) (by decide +kernel)⟩
theorem lw_p50 : lw_okq (⟨"ThirdEveningModel", "here", "()I"⟩, 50) := ⟨⟨by decide +kernel, by decide +kernel⟩, List.mem_of_getElem? (i := 795) (by decide +kernel), List.mem_of_getElem? (i := 1124) (by decide +kernel), List.mem_of_getElem? (i := 1125) (by decide +kernel)⟩
theorem lw_p51 : lw_okq (⟨"ThirdEveningModel", "bits", "(I)I"⟩, 50) := ⟨⟨by decide +kernel, by decide +kernel⟩, List.mem_of_getElem? (i := 795) (by decide +kernel), List.mem_of_getElem? (i := 1144) (by decide +kernel), List.mem_of_getElem? (i := 1145) (by decide +kernel)⟩
theorem lw_p52 : lw_okq (⟨"ThirdEveningModel", "satIfPaid", "(II)I"⟩, 50) := ⟨⟨by decide +kernel, by decide +kernel⟩, List.mem_of_getElem? (i := 795) (by decide +kernel), List.mem_of_getElem? (i := 1164) (by decide +kernel), List.mem_of_getElem? (i := 1165) (by decide +kernel)⟩
theorem lw_p53 : lw_okq (⟨"ThirdEveningModel", "holdsBack", "(I)I"⟩, 50) := ⟨⟨by decide +kernel, by decide +kernel⟩, List.mem_of_getElem? (i := 795) (by decide +kernel), List.mem_of_getElem? (i := 1172) (by decide +kernel), List.mem_of_getElem? (i := 1173) (by decide +kernel)⟩
theorem lw_p54 : lw_okq (⟨"ThirdEveningModel", "barsOf", "(II)I"⟩, 50) := ⟨⟨by decide +kernel, by decide +kernel⟩, List.mem_of_getElem? (i := 795) (by decide +kernel), List.mem_of_getElem? (i := 1192) (by decide +kernel), List.mem_of_getElem? (i := 1193) (by decide +kernel)⟩
theorem lw_p55 : lw_okq (⟨"ThirdEveningModel", "wrongIn", "(II)I"⟩, 50) := ⟨⟨by decide +kernel, by decide +kernel⟩, List.mem_of_getElem? (i := 795) (by decide +kernel), List.mem_of_getElem? (i := 1196) (by decide +kernel), List.mem_of_getElem? (i := 1197) (by decide +kernel)⟩
theorem lw_p56 : lw_okq (⟨"ThirdEveningModel", "intAt", "(II)I"⟩, 50) := ⟨⟨by decide +kernel, by decide +kernel⟩, List.mem_of_getElem? (i := 795) (by decide +kernel), List.mem_of_getElem? (i := 1200) (by decide +kernel), List.mem_of_getElem? (i := 1201) (by decide +kernel)⟩
theorem lw_p57 : lw_okq (⟨"ThirdEveningModel", "draw", "(I)I"⟩, 50) := ⟨⟨by decide +kernel, by decide +kernel⟩, List.mem_of_getElem? (i := 795) (by decide +kernel), List.mem_of_getElem? (i := 1216) (by decide +kernel), List.mem_of_getElem? (i := 1217) (by decide +kernel)⟩
theorem lw_p58 : lw_okq (⟨"ThirdEveningModel", "coming", "(II)I"⟩, 50) := ⟨⟨by decide +kernel, by decide +kernel⟩, List.mem_of_getElem? (i := 795) (by decide +kernel), List.mem_of_getElem? (i := 1229) (by decide +kernel), List.mem_of_getElem? (i := 1230) (by decide +kernel)⟩
theorem lw_p59 : lw_okq (⟨"ThirdEveningModel", "body", "(I)V"⟩, 50) := ⟨⟨by decide +kernel, by decide +kernel⟩, List.mem_of_getElem? (i := 795) (by decide +kernel), List.mem_of_getElem? (i := 1233) (by decide +kernel), List.mem_of_getElem? (i := 1234) (by decide +kernel)⟩
theorem lw_p60 : lw_okq (⟨"ThirdEveningModel", "sitting", "(II)I"⟩, 50) := ⟨⟨by decide +kernel, by decide +kernel⟩, List.mem_of_getElem? (i := 795) (by decide +kernel), List.mem_of_getElem? (i := 1237) (by decide +kernel), List.mem_of_getElem? (i := 1238) (by decide +kernel)⟩
theorem lw_p61 : lw_okq (⟨"ThirdEveningModel", "asking", "(II)I"⟩, 50) := ⟨⟨by decide +kernel, by decide +kernel⟩, List.mem_of_getElem? (i := 795) (by decide +kernel), List.mem_of_getElem? (i := 1241) (by decide +kernel), List.mem_of_getElem? (i := 1242) (by decide +kernel)⟩
theorem lw_p62 : lw_okq (⟨"ThirdEveningModel", "together", "([I)I"⟩, 50) := ⟨⟨by decide +kernel, by decide +kernel⟩, List.mem_of_getElem? (i := 795) (by decide +kernel), List.mem_of_getElem? (i := 1261) (by decide +kernel), List.mem_of_getElem? (i := 1262) (by decide +kernel)⟩
def lw_privs_4 : List (MethodName × Nat) := [(⟨"ThirdEveningModel", "runs", "(I)V"⟩, 50), (⟨"ThirdEveningModel", "passes", "()V"⟩, 50), (⟨"ThirdEveningModel", "here", "()I"⟩, 50), (⟨"ThirdEveningModel", "bits", "(I)I"⟩, 50), (⟨"ThirdEveningModel", "satIfPaid", "(II)I"⟩, 50), (⟨"ThirdEveningModel", "holdsBack", "(I)I"⟩, 50), (⟨"ThirdEveningModel", "barsOf", "(II)I"⟩, 50), (⟨"ThirdEveningModel", "wrongIn", "(II)I"⟩, 50), (⟨"ThirdEveningModel", "intAt", "(II)I"⟩, 50), (⟨"ThirdEveningModel", "draw", "(I)I"⟩, 50), (⟨"ThirdEveningModel", "coming", "(II)I"⟩, 50), (⟨"ThirdEveningModel", "body", "(I)V"⟩, 50), (⟨"ThirdEveningModel", "sitting", "(II)I"⟩, 50), (⟨"ThirdEveningModel", "asking", "(II)I"⟩, 50), (⟨"ThirdEveningModel", "together", "([I)I"⟩, 50)]
theorem lw_r4 : ∀ q ∈ lw_privs_4, lw_okq q := List.forall_mem_cons.mpr ⟨lw_p48, List.forall_mem_cons.mpr ⟨lw_p49, List.forall_mem_cons.mpr ⟨lw_p50, List.forall_mem_cons.mpr ⟨lw_p51, List.forall_mem_cons.mpr ⟨lw_p52, List.forall_mem_cons.mpr ⟨lw_p53, List.forall_mem_cons.mpr ⟨lw_p54, List.forall_mem_cons.mpr ⟨lw_p55, List.forall_mem_cons.mpr ⟨lw_p56, List.forall_mem_cons.mpr ⟨lw_p57, List.forall_mem_cons.mpr ⟨lw_p58, List.forall_mem_cons.mpr ⟨lw_p59, List.forall_mem_cons.mpr ⟨lw_p60, List.forall_mem_cons.mpr ⟨lw_p61, List.forall_mem_cons.mpr ⟨lw_p62, fun _ h => absurd h List.not_mem_nil⟩⟩⟩⟩⟩⟩⟩⟩⟩⟩⟩⟩⟩⟩⟩
def lw_privs : List (MethodName × Nat) := lw_privs_1 ++ (lw_privs_2 ++ (lw_privs_3 ++ (lw_privs_4)))
def lw_tbl : List Cond := k2_sels lw_privs ++ tables_1
theorem lw_privs_ok : ∀ q ∈ lw_privs, lw_okq q := by
  show ∀ q ∈ lw_privs_1 ++ (lw_privs_2 ++ (lw_privs_3 ++ (lw_privs_4))), lw_okq q
  exact List.forall_mem_append.mpr ⟨lw_r1, List.forall_mem_append.mpr ⟨lw_r2, List.forall_mem_append.mpr ⟨lw_r3, lw_r4⟩⟩⟩
-- ===== end of PART A; then your names; then what follows =====
end
section
def RX0 : String := "ThirdEvening$Moves"
def TX0 : u_T := fun k => match k with
  | 0 => ("ThirdEvening$Moves", "ran", "I", false)
  | 1 => ("ThirdEvening$Moves", "begun", "[I", true)
  | 2 => ("ThirdEvening$Moves", "number", "I", false)
  | 3 => ("ThirdEvening$Moves", "kind", "I", false)
  | _ => ("ThirdEvening$Moves", "a", "I", false)
def tyX0 : Nat → FieldType := fun k => match k with
  | 0 => .int
  | 1 => .array .int
  | 2 => .int
  | 3 => .int
  | _ => .int
abbrev wsX00 : List Cond := u_ws RX0 TX0 5
theorem nmX0 : ∀ a, a < 5 → ∀ b, b < 5 → a ≠ b → (TX0 a).2.1 ≠ (TX0 b).2.1 := by decide +kernel
theorem tyX0_ok : ∀ k, k < 5 → parseFieldDescriptor (TX0 k).2.2.1 = some (tyX0 k) := by decide +kernel
abbrev cX0_init : ByteArray := prog_2_method_1_code
def yX0_init : MethodName := ⟨RX0, "<init>", "()V"⟩
abbrev cX0_isMove : ByteArray := prog_2_method_2_code
def yX0_isMove : MethodName := ⟨RX0, "isMove", "(I)Z"⟩
abbrev cX0_forget : ByteArray := prog_2_method_3_code
def yX0_forget : MethodName := ⟨RX0, "forget", "()V"⟩
abbrev cX0_run : ByteArray := prog_2_method_4_code
def yX0_run : MethodName := ⟨RX0, "run", "(ILThirdEvening$Person;II)I"⟩
abbrev cX0_bodyAt : ByteArray := prog_2_method_5_code
def yX0_bodyAt : MethodName := ⟨RX0, "bodyAt", "(I)I"⟩
abbrev cX0_bodyOf : ByteArray := prog_2_method_6_code
def yX0_bodyOf : MethodName := ⟨RX0, "bodyOf", "(II)I"⟩
abbrev cX0_call : ByteArray := prog_2_method_7_code
def yX0_call : MethodName := ⟨RX0, "call", "(IIII)I"⟩
abbrev cX0_note : ByteArray := prog_2_method_8_code
def yX0_note : MethodName := ⟨RX0, "note", "(I)V"⟩
abbrev cX0_perform : ByteArray := prog_2_method_9_code
def yX0_perform : MethodName := ⟨RX0, "perform", "(III)I"⟩
def RX1 : String := "ThirdEvening$Outlook"
def TX1 : u_T := fun k => match k with
  | 0 => ("ThirdEvening$Outlook", "seated", "I", false)
  | 1 => ("ThirdEvening$Outlook", "turned", "I", false)
  | 2 => ("ThirdEvening$Outlook", "emptiest", "I", false)
  | _ => ("ThirdEvening$Outlook", "shut", "I", false)
def tyX1 : Nat → FieldType := fun k => match k with
  | 0 => .int
  | 1 => .int
  | 2 => .int
  | _ => .int
abbrev wsX10 : List Cond := u_ws RX1 TX1 4
theorem nmX1 : ∀ a, a < 4 → ∀ b, b < 4 → a ≠ b → (TX1 a).2.1 ≠ (TX1 b).2.1 := by decide +kernel
theorem tyX1_ok : ∀ k, k < 4 → parseFieldDescriptor (TX1 k).2.2.1 = some (tyX1 k) := by decide +kernel
abbrev cX1_init : ByteArray := prog_3_method_1_code
def yX1_init : MethodName := ⟨RX1, "<init>", "()V"⟩
abbrev cX1_watch : ByteArray := prog_3_method_2_code
def yX1_watch : MethodName := ⟨RX1, "watch", "(LThirdEvening$School;I)V"⟩
abbrev cX1_firstWrong : ByteArray := prog_3_method_3_code
def yX1_firstWrong : MethodName := ⟨RX1, "firstWrong", "(LThirdEvening$School;LThirdEvening$Shelf;I)I"⟩
def RX2 : String := "ThirdEvening$Person"
def TX2 : u_T := fun k => match k with
  | 0 => ("ThirdEvening$Person", "kind", "I", false)
  | 1 => ("ThirdEvening$Person", "a", "I", false)
  | 2 => ("ThirdEvening$Person", "own", "I", false)
  | 3 => ("ThirdEvening$Person", "paid", "Z", false)
  | 4 => ("ThirdEvening$Person", "mate", "I", false)
  | 5 => ("ThirdEvening$Person", "behind", "I", false)
  | 6 => ("ThirdEvening$Person", "missed", "I", false)
  | 7 => ("ThirdEvening$Person", "comings", "I", false)
  | 8 => ("ThirdEvening$Person", "gone", "Z", false)
  | _ => ("ThirdEvening$Person", "pull", "I", false)
def tyX2 : Nat → FieldType := fun k => match k with
  | 0 => .int
  | 1 => .int
  | 2 => .int
  | 3 => .boolean
  | 4 => .int
  | 5 => .int
  | 6 => .int
  | 7 => .int
  | 8 => .boolean
  | _ => .int
abbrev wsX20 : List Cond := u_ws RX2 TX2 10
theorem nmX2 : ∀ a, a < 10 → ∀ b, b < 10 → a ≠ b → (TX2 a).2.1 ≠ (TX2 b).2.1 := by decide +kernel
theorem tyX2_ok : ∀ k, k < 10 → parseFieldDescriptor (TX2 k).2.2.1 = some (tyX2 k) := by decide +kernel
abbrev cX2_init : ByteArray := prog_4_method_1_code
def yX2_init : MethodName := ⟨RX2, "<init>", "()V"⟩
abbrev cX2_enter : ByteArray := prog_4_method_2_code
def yX2_enter : MethodName := ⟨RX2, "enter", "(IIIZ)V"⟩
abbrev cX2_become : ByteArray := prog_4_method_3_code
def yX2_become : MethodName := ⟨RX2, "become", "(LThirdEvening$Person;)V"⟩
abbrev cX2_pullOn : ByteArray := prog_4_method_4_code
def yX2_pullOn : MethodName := ⟨RX2, "pullOn", "(III)I"⟩
abbrev cX2_isMatchDay : ByteArray := prog_4_method_5_code
def yX2_isMatchDay : MethodName := ⟨RX2, "isMatchDay", "(I)Z"⟩
abbrev cX2_sat : ByteArray := prog_4_method_6_code
def yX2_sat : MethodName := ⟨RX2, "sat", "()V"⟩
abbrev cX2_stayedAway : ByteArray := prog_4_method_7_code
def yX2_stayedAway : MethodName := ⟨RX2, "stayedAway", "()V"⟩
abbrev cX2_mark : ByteArray := prog_4_method_8_code
def yX2_mark : MethodName := ⟨RX2, "mark", "(I)I"⟩
abbrev cX2_sayingAs : ByteArray := prog_4_method_9_code
def yX2_sayingAs : MethodName := ⟨RX2, "sayingAs", "(I)I"⟩
def RX3 : String := "ThirdEvening$Reader"
def TX3 : u_T := fun k => match k with
  | 0 => ("ThirdEvening$Reader", "told", "LThirdEvening$School;", true)
  | 1 => ("ThirdEvening$Reader", "wrongAt", "I", false)
  | 2 => ("ThirdEvening$Reader", "letters", "[I", true)
  | 3 => ("ThirdEvening$Reader", "length", "I", false)
  | 4 => ("ThirdEvening$Reader", "at", "I", false)
  | _ => ("ThirdEvening$Reader", "numberAt", "I", false)
def tyX3 : Nat → FieldType := fun k => match k with
  | 0 => .object "ThirdEvening$School"
  | 1 => .int
  | 2 => .array .int
  | 3 => .int
  | 4 => .int
  | _ => .int
abbrev wsX30 : List Cond := u_ws RX3 TX3 6
theorem nmX3 : ∀ a, a < 6 → ∀ b, b < 6 → a ≠ b → (TX3 a).2.1 ≠ (TX3 b).2.1 := by decide +kernel
theorem tyX3_ok : ∀ k, k < 6 → parseFieldDescriptor (TX3 k).2.2.1 = some (tyX3 k) := by decide +kernel
abbrev cX3_init : ByteArray := prog_5_method_1_code
def yX3_init : MethodName := ⟨RX3, "<init>", "()V"⟩
abbrev cX3_read : ByteArray := prog_5_method_2_code
def yX3_read : MethodName := ⟨RX3, "read", "(LThirdEvening$Shelf;LThirdEvening$School;)I"⟩
abbrev cX3_readItem : ByteArray := prog_5_method_3_code
def yX3_readItem : MethodName := ⟨RX3, "readItem", "()Z"⟩
abbrev cX3_readWord : ByteArray := prog_5_method_4_code
def yX3_readWord : MethodName := ⟨RX3, "readWord", "()I"⟩
abbrev cX3_wordOf : ByteArray := prog_5_method_5_code
def yX3_wordOf : MethodName := ⟨RX3, "wordOf", "(I)Ljava/lang/String;"⟩
abbrev cX3_readPerson : ByteArray := prog_5_method_6_code
def yX3_readPerson : MethodName := ⟨RX3, "readPerson", "()Z"⟩
abbrev cX3_readFriend : ByteArray := prog_5_method_7_code
def yX3_readFriend : MethodName := ⟨RX3, "readFriend", "()Z"⟩
abbrev cX3_readGone : ByteArray := prog_5_method_8_code
def yX3_readGone : MethodName := ⟨RX3, "readGone", "()Z"⟩
abbrev cX3_readSetting : ByteArray := prog_5_method_9_code
def yX3_readSetting : MethodName := ⟨RX3, "readSetting", "(I)Z"⟩
abbrev cX3_readNumber : ByteArray := prog_5_method_10_code
def yX3_readNumber : MethodName := ⟨RX3, "readNumber", "(II)I"⟩
abbrev cX3_isDigit : ByteArray := prog_5_method_11_code
def yX3_isDigit : MethodName := ⟨RX3, "isDigit", "()Z"⟩
abbrev cX3_readDigit : ByteArray := prog_5_method_12_code
def yX3_readDigit : MethodName := ⟨RX3, "readDigit", "()I"⟩
abbrev cX3_readSign : ByteArray := prog_5_method_13_code
def yX3_readSign : MethodName := ⟨RX3, "readSign", "(I)Z"⟩
abbrev cX3_letter : ByteArray := prog_5_method_14_code
def yX3_letter : MethodName := ⟨RX3, "letter", "()I"⟩
abbrev cX3_fail : ByteArray := prog_5_method_15_code
def yX3_fail : MethodName := ⟨RX3, "fail", "(I)Z"⟩
def RX4 : String := "ThirdEvening$School"
def TX4 : u_T := fun k => match k with
  | 0 => ("ThirdEvening$School", "people", "[LThirdEvening$Person;", true)
  | 1 => ("ThirdEvening$School", "nobody", "LThirdEvening$Person;", true)
  | 2 => ("ThirdEvening$School", "size", "I", false)
  | 3 => ("ThirdEvening$School", "level", "I", false)
  | 4 => ("ThirdEvening$School", "rain", "I", false)
  | 5 => ("ThirdEvening$School", "chairs", "I", false)
  | 6 => ("ThirdEvening$School", "bar", "I", false)
  | 7 => ("ThirdEvening$School", "evening", "I", false)
  | _ => ("ThirdEvening$School", "luck", "I", false)
def tyX4 : Nat → FieldType := fun k => match k with
  | 0 => .array (.object "ThirdEvening$Person")
  | 1 => .object "ThirdEvening$Person"
  | 2 => .int
  | 3 => .int
  | 4 => .int
  | 5 => .int
  | 6 => .int
  | 7 => .int
  | _ => .int
abbrev wsX40 : List Cond := u_ws RX4 TX4 9
theorem nmX4 : ∀ a, a < 9 → ∀ b, b < 9 → a ≠ b → (TX4 a).2.1 ≠ (TX4 b).2.1 := by decide +kernel
theorem tyX4_ok : ∀ k, k < 9 → parseFieldDescriptor (TX4 k).2.2.1 = some (tyX4 k) := by decide +kernel
abbrev cX4_init : ByteArray := prog_6_method_1_code
def yX4_init : MethodName := ⟨RX4, "<init>", "()V"⟩
abbrev cX4_become : ByteArray := prog_6_method_2_code
def yX4_become : MethodName := ⟨RX4, "become", "(LThirdEvening$School;)V"⟩
abbrev cX4_has : ByteArray := prog_6_method_3_code
def yX4_has : MethodName := ⟨RX4, "has", "(I)Z"⟩
abbrev cX4_isFull : ByteArray := prog_6_method_4_code
def yX4_isFull : MethodName := ⟨RX4, "isFull", "()Z"⟩
abbrev cX4_one : ByteArray := prog_6_method_5_code
def yX4_one : MethodName := ⟨RX4, "one", "(I)LThirdEvening$Person;"⟩
abbrev cX4_enrol : ByteArray := prog_6_method_6_code
def yX4_enrol : MethodName := ⟨RX4, "enrol", "(IIIZ)I"⟩
abbrev cX4_setting : ByteArray := prog_6_method_7_code
def yX4_setting : MethodName := ⟨RX4, "setting", "(I)I"⟩
abbrev cX4_settle : ByteArray := prog_6_method_8_code
def yX4_settle : MethodName := ⟨RX4, "settle", "(II)V"⟩
abbrev cX4_dismissFrom : ByteArray := prog_6_method_9_code
def yX4_dismissFrom : MethodName := ⟨RX4, "dismissFrom", "(I)V"⟩
abbrev cX4_payForAll : ByteArray := prog_6_method_10_code
def yX4_payForAll : MethodName := ⟨RX4, "payForAll", "(Z)V"⟩
abbrev cX4_present : ByteArray := prog_6_method_11_code
def yX4_present : MethodName := ⟨RX4, "present", "()I"⟩
abbrev cX4_comingsTogether : ByteArray := prog_6_method_12_code
def yX4_comingsTogether : MethodName := ⟨RX4, "comingsTogether", "()I"⟩
abbrev cX4_pullOn : ByteArray := prog_6_method_13_code
def yX4_pullOn : MethodName := ⟨RX4, "pullOn", "(I)I"⟩
abbrev cX4_comers : ByteArray := prog_6_method_14_code
def yX4_comers : MethodName := ⟨RX4, "comers", "(I)I"⟩
abbrev cX4_stillComing : ByteArray := prog_6_method_15_code
def yX4_stillComing : MethodName := ⟨RX4, "stillComing", "(I)I"⟩
abbrev cX4_comesWith : ByteArray := prog_6_method_16_code
def yX4_comesWith : MethodName := ⟨RX4, "comesWith", "(LThirdEvening$Person;I)Z"⟩
abbrev cX4_seatedOf : ByteArray := prog_6_method_17_code
def yX4_seatedOf : MethodName := ⟨RX4, "seatedOf", "(I)I"⟩
abbrev cX4_endEvening : ByteArray := prog_6_method_18_code
def yX4_endEvening : MethodName := ⟨RX4, "endEvening", "(I)V"⟩
abbrev cX4_draw : ByteArray := prog_6_method_19_code
def yX4_draw : MethodName := ⟨RX4, "draw", "(I)I"⟩
def RX5 : String := "ThirdEvening$Shelf"
def TX5 : u_T := fun k => match k with
  | 0 => ("ThirdEvening$Shelf", "sort", "I", false)
  | 1 => ("ThirdEvening$Shelf", "person", "I", false)
  | 2 => ("ThirdEvening$Shelf", "length", "I", false)
  | _ => ("ThirdEvening$Shelf", "elements", "[J", true)
def tyX5 : Nat → FieldType := fun k => match k with
  | 0 => .int
  | 1 => .int
  | 2 => .int
  | _ => .array .long
abbrev wsX50 : List Cond := u_ws RX5 TX5 4
theorem nmX5 : ∀ a, a < 4 → ∀ b, b < 4 → a ≠ b → (TX5 a).2.1 ≠ (TX5 b).2.1 := by decide +kernel
theorem tyX5_ok : ∀ k, k < 4 → parseFieldDescriptor (TX5 k).2.2.1 = some (tyX5 k) := by decide +kernel
abbrev cX5_init : ByteArray := prog_7_method_1_code
def yX5_init : MethodName := ⟨RX5, "<init>", "()V"⟩
abbrev cX5_isRow : ByteArray := prog_7_method_2_code
def yX5_isRow : MethodName := ⟨RX5, "isRow", "()Z"⟩
abbrev cX5_isPerson : ByteArray := prog_7_method_3_code
def yX5_isPerson : MethodName := ⟨RX5, "isPerson", "()Z"⟩
abbrev cX5_holdRow : ByteArray := prog_7_method_4_code
def yX5_holdRow : MethodName := ⟨RX5, "holdRow", "(II)V"⟩
abbrev cX5_holdPerson : ByteArray := prog_7_method_5_code
def yX5_holdPerson : MethodName := ⟨RX5, "holdPerson", "(I)V"⟩
abbrev cX5_hasElement : ByteArray := prog_7_method_6_code
def yX5_hasElement : MethodName := ⟨RX5, "hasElement", "(I)Z"⟩
abbrev cX5_hasStretch : ByteArray := prog_7_method_7_code
def yX5_hasStretch : MethodName := ⟨RX5, "hasStretch", "(II)Z"⟩
abbrev cX5_put : ByteArray := prog_7_method_8_code
def yX5_put : MethodName := ⟨RX5, "put", "(IJ)V"⟩
abbrev cX5_elementAt : ByteArray := prog_7_method_9_code
def yX5_elementAt : MethodName := ⟨RX5, "elementAt", "(I)J"⟩
abbrev cX5_intAt : ByteArray := prog_7_method_10_code
def yX5_intAt : MethodName := ⟨RX5, "intAt", "(I)I"⟩
def RX6 : String := "ThirdEvening"
def TX6 : u_T := fun k => match k with
  | 0 => ("ThirdEvening", "now", "LThirdEvening$School;", true)
  | 1 => ("ThirdEvening", "plan", "LThirdEvening$School;", true)
  | 2 => ("ThirdEvening", "picture", "LThirdEvening$School;", true)
  | 3 => ("ThirdEvening", "pictured", "Z", false)
  | 4 => ("ThirdEvening", "outlook", "LThirdEvening$Outlook;", true)
  | 5 => ("ThirdEvening", "shelves", "[LThirdEvening$Shelf;", true)
  | 6 => ("ThirdEvening", "noShelf", "LThirdEvening$Shelf;", true)
  | 7 => ("ThirdEvening", "reader", "LThirdEvening$Reader;", true)
  | 8 => ("ThirdEvening", "moves", "LThirdEvening$Moves;", true)
  | 9 => ("ThirdEvening", "refusals", "[I", true)
  | _ => ("ThirdEvening", "latestFault", "I", false)
def tyX6 : Nat → FieldType := fun k => match k with
  | 0 => .object "ThirdEvening$School"
  | 1 => .object "ThirdEvening$School"
  | 2 => .object "ThirdEvening$School"
  | 3 => .boolean
  | 4 => .object "ThirdEvening$Outlook"
  | 5 => .array (.object "ThirdEvening$Shelf")
  | 6 => .object "ThirdEvening$Shelf"
  | 7 => .object "ThirdEvening$Reader"
  | 8 => .object "ThirdEvening$Moves"
  | 9 => .array .int
  | _ => .int
abbrev wsX60 : List Cond := u_ws RX6 TX6 11
theorem nmX6 : ∀ a, a < 11 → ∀ b, b < 11 → a ≠ b → (TX6 a).2.1 ≠ (TX6 b).2.1 := by decide +kernel
theorem tyX6_ok : ∀ k, k < 11 → parseFieldDescriptor (TX6 k).2.2.1 = some (tyX6 k) := by decide +kernel
abbrev cX6_init : ByteArray := prog_1_method_1_code
def yX6_init : MethodName := ⟨RX6, "<init>", "()V"⟩
abbrev cX6_row : ByteArray := prog_1_method_2_code
def yX6_row : MethodName := ⟨RX6, "row", "(III)I"⟩
abbrev cX6_set : ByteArray := prog_1_method_3_code
def yX6_set : MethodName := ⟨RX6, "set", "(IIJ)I"⟩
abbrev cX6_copy : ByteArray := prog_1_method_4_code
def yX6_copy : MethodName := ⟨RX6, "copy", "(IIIII)I"⟩
abbrev cX6_element : ByteArray := prog_1_method_5_code
def yX6_element : MethodName := ⟨RX6, "element", "(II)J"⟩
abbrev cX6_show : ByteArray := prog_1_method_6_code
def yX6_show : MethodName := ⟨RX6, "show", "(II)I"⟩
abbrev cX6_holds : ByteArray := prog_1_method_7_code
def yX6_holds : MethodName := ⟨RX6, "holds", "(I)I"⟩
abbrev cX6_says : ByteArray := prog_1_method_8_code
def yX6_says : MethodName := ⟨RX6, "says", "(II)I"⟩
abbrev cX6_person : ByteArray := prog_1_method_9_code
def yX6_person : MethodName := ⟨RX6, "person", "(IIIZ)I"⟩
abbrev cX6_friend : ByteArray := prog_1_method_10_code
def yX6_friend : MethodName := ⟨RX6, "friend", "(II)I"⟩
abbrev cX6_ask : ByteArray := prog_1_method_11_code
def yX6_ask : MethodName := ⟨RX6, "ask", "(II)I"⟩
abbrev cX6_go : ByteArray := prog_1_method_12_code
def yX6_go : MethodName := ⟨RX6, "go", "(IZ)I"⟩
abbrev cX6_personOf : ByteArray := prog_1_method_13_code
def yX6_personOf : MethodName := ⟨RX6, "personOf", "(II)I"⟩
abbrev cX6_school : ByteArray := prog_1_method_14_code
def yX6_school : MethodName := ⟨RX6, "school", "(I)I"⟩
abbrev cX6_fault : ByteArray := prog_1_method_15_code
def yX6_fault : MethodName := ⟨RX6, "fault", "()I"⟩
abbrev cX6_will : ByteArray := prog_1_method_16_code
def yX6_will : MethodName := ⟨RX6, "will", "(I)I"⟩
abbrev cX6_tonight : ByteArray := prog_1_method_17_code
def yX6_tonight : MethodName := ⟨RX6, "tonight", "(I)I"⟩
abbrev cX6_ahead : ByteArray := prog_1_method_18_code
def yX6_ahead : MethodName := ⟨RX6, "ahead", "(II)I"⟩
abbrev cX6_worst : ByteArray := prog_1_method_19_code
def yX6_worst : MethodName := ⟨RX6, "worst", "(II)I"⟩
abbrev cX6_ones : ByteArray := prog_1_method_20_code
def yX6_ones : MethodName := ⟨RX6, "ones", "(III)I"⟩
abbrev cX6_ring : ByteArray := prog_1_method_21_code
def yX6_ring : MethodName := ⟨RX6, "ring", "(II)I"⟩
abbrev cX6_begin : ByteArray := prog_1_method_22_code
def yX6_begin : MethodName := ⟨RX6, "begin", "(I)I"⟩
abbrev cX6_room : ByteArray := prog_1_method_23_code
def yX6_room : MethodName := ⟨RX6, "room", "(I)I"⟩
abbrev cX6_take : ByteArray := prog_1_method_24_code
def yX6_take : MethodName := ⟨RX6, "take", "(I)I"⟩
abbrev cX6_price : ByteArray := prog_1_method_25_code
def yX6_price : MethodName := ⟨RX6, "price", "(I)I"⟩
abbrev cX6_lost : ByteArray := prog_1_method_26_code
def yX6_lost : MethodName := ⟨RX6, "lost", "(I)I"⟩
abbrev cX6_pairs : ByteArray := prog_1_method_27_code
def yX6_pairs : MethodName := ⟨RX6, "pairs", "()I"⟩
abbrev cX6_chain : ByteArray := prog_1_method_28_code
def yX6_chain : MethodName := ⟨RX6, "chain", "(I)I"⟩
abbrev cX6_keeps : ByteArray := prog_1_method_29_code
def yX6_keeps : MethodName := ⟨RX6, "keeps", "(I)I"⟩
abbrev cX6_keep : ByteArray := prog_1_method_30_code
def yX6_keep : MethodName := ⟨RX6, "keep", "()I"⟩
abbrev cX6_friends : ByteArray := prog_1_method_31_code
def yX6_friends : MethodName := ⟨RX6, "friends", "(III)I"⟩
abbrev cX6_judge : ByteArray := prog_1_method_32_code
def yX6_judge : MethodName := ⟨RX6, "judge", "(II)I"⟩
abbrev cX6_evenings : ByteArray := prog_1_method_33_code
def yX6_evenings : MethodName := ⟨RX6, "evenings", "(I)I"⟩
abbrev cX6_drawn : ByteArray := prog_1_method_34_code
def yX6_drawn : MethodName := ⟨RX6, "drawn", "(I)I"⟩
abbrev cX6_seed : ByteArray := prog_1_method_35_code
def yX6_seed : MethodName := ⟨RX6, "seed", "(I)I"⟩
abbrev cX6_act : ByteArray := prog_1_method_36_code
def yX6_act : MethodName := ⟨RX6, "act", "(III)I"⟩
abbrev cX6_trace : ByteArray := prog_1_method_37_code
def yX6_trace : MethodName := ⟨RX6, "trace", "(I)I"⟩
abbrev cX6_image : ByteArray := prog_1_method_38_code
def yX6_image : MethodName := ⟨RX6, "image", "()I"⟩
abbrev cX6_restore : ByteArray := prog_1_method_39_code
def yX6_restore : MethodName := ⟨RX6, "restore", "()I"⟩
abbrev cX6_status : ByteArray := prog_1_method_40_code
def yX6_status : MethodName := ⟨RX6, "status", "(I)I"⟩
abbrev cX6_refuse : ByteArray := prog_1_method_41_code
def yX6_refuse : MethodName := ⟨RX6, "refuse", "(I)I"⟩
abbrev cX6_isShelf : ByteArray := prog_1_method_42_code
def yX6_isShelf : MethodName := ⟨RX6, "isShelf", "(I)Z"⟩
abbrev cX6_shelfAt : ByteArray := prog_1_method_43_code
def yX6_shelfAt : MethodName := ⟨RX6, "shelfAt", "(I)LThirdEvening$Shelf;"⟩
abbrev cX6_whyNoRow : ByteArray := prog_1_method_44_code
def yX6_whyNoRow : MethodName := ⟨RX6, "whyNoRow", "(I)I"⟩
abbrev cX6_whyNoRegister : ByteArray := prog_1_method_45_code
def yX6_whyNoRegister : MethodName := ⟨RX6, "whyNoRegister", "(II)I"⟩
abbrev cX6_heldBy : ByteArray := prog_1_method_46_code
def yX6_heldBy : MethodName := ⟨RX6, "heldBy", "(I)I"⟩
abbrev cX6_isStretch : ByteArray := prog_1_method_47_code
def yX6_isStretch : MethodName := ⟨RX6, "isStretch", "(I)Z"⟩
abbrev cX6_isIn : ByteArray := prog_1_method_48_code
def yX6_isIn : MethodName := ⟨RX6, "isIn", "(II)Z"⟩
abbrev cX6_isKind : ByteArray := prog_1_method_49_code
def yX6_isKind : MethodName := ⟨RX6, "isKind", "(I)Z"⟩
abbrev cX6_kindAbove : ByteArray := prog_1_method_50_code
def yX6_kindAbove : MethodName := ⟨RX6, "kindAbove", "(I)I"⟩
abbrev cX6_isUnder : ByteArray := prog_1_method_51_code
def yX6_isUnder : MethodName := ⟨RX6, "isUnder", "(II)Z"⟩
abbrev cX6_leastOf : ByteArray := prog_1_method_52_code
def yX6_leastOf : MethodName := ⟨RX6, "leastOf", "(I)I"⟩
abbrev cX6_mostOf : ByteArray := prog_1_method_53_code
def yX6_mostOf : MethodName := ⟨RX6, "mostOf", "(I)I"⟩
def RX7 : String := "ThirdEveningModel"
def TX7 : u_T := fun k => match k with
  | 0 => ("ThirdEveningModel", "people", "I", false)
  | 1 => ("ThirdEveningModel", "level", "I", false)
  | 2 => ("ThirdEveningModel", "rain", "I", false)
  | 3 => ("ThirdEveningModel", "chairs", "I", false)
  | 4 => ("ThirdEveningModel", "bar", "I", false)
  | 5 => ("ThirdEveningModel", "evening", "I", false)
  | 6 => ("ThirdEveningModel", "seed", "I", false)
  | 7 => ("ThirdEveningModel", "fault", "I", false)
  | 8 => ("ThirdEveningModel", "refused", "[I", true)
  | 9 => ("ThirdEveningModel", "kind", "[I", true)
  | 10 => ("ThirdEveningModel", "part", "[I", true)
  | 11 => ("ThirdEveningModel", "own", "[I", true)
  | 12 => ("ThirdEveningModel", "paid", "[I", true)
  | 13 => ("ThirdEveningModel", "friend", "[I", true)
  | 14 => ("ThirdEveningModel", "behind", "[I", true)
  | 15 => ("ThirdEveningModel", "missed", "[I", true)
  | 16 => ("ThirdEveningModel", "comings", "[I", true)
  | 17 => ("ThirdEveningModel", "gone", "[I", true)
  | 18 => ("ThirdEveningModel", "held", "[I", true)
  | 19 => ("ThirdEveningModel", "sort", "[I", true)
  | 20 => ("ThirdEveningModel", "size", "[I", true)
  | 21 => ("ThirdEveningModel", "shown", "[I", true)
  | 22 => ("ThirdEveningModel", "cells", "[J", true)
  | 23 => ("ThirdEveningModel", "carried", "[J", true)
  | 24 => ("ThirdEveningModel", "words", "[I", true)
  | 25 => ("ThirdEveningModel", "numbers", "[I", true)
  | 26 => ("ThirdEveningModel", "mosts", "[I", true)
  | 27 => ("ThirdEveningModel", "told", "[I", true)
  | 28 => ("ThirdEveningModel", "base", "I", false)
  | 29 => ("ThirdEveningModel", "place", "I", false)
  | 30 => ("ThirdEveningModel", "end", "I", false)
  | 31 => ("ThirdEveningModel", "number", "I", false)
  | 32 => ("ThirdEveningModel", "wrongAt", "I", false)
  | 33 => ("ThirdEveningModel", "was", "[I", true)
  | 34 => ("ThirdEveningModel", "kept", "[I", true)
  | 35 => ("ThirdEveningModel", "later", "[I", true)
  | 36 => ("ThirdEveningModel", "coming", "I", false)
  | 37 => ("ThirdEveningModel", "seated", "I", false)
  | 38 => ("ThirdEveningModel", "many", "I", false)
  | 39 => ("ThirdEveningModel", "sat", "I", false)
  | 40 => ("ThirdEveningModel", "left", "I", false)
  | 41 => ("ThirdEveningModel", "allSat", "I", false)
  | 42 => ("ThirdEveningModel", "allTurned", "I", false)
  | 43 => ("ThirdEveningModel", "worstOf", "I", false)
  | 44 => ("ThirdEveningModel", "shutOf", "I", false)
  | 45 => ("ThirdEveningModel", "goneSet", "I", false)
  | 46 => ("ThirdEveningModel", "wasSo", "[I", true)
  | 47 => ("ThirdEveningModel", "trace", "[I", true)
  | 48 => ("ThirdEveningModel", "ran", "I", false)
  | _ => ("ThirdEveningModel", "isThere", "Z", false)
def tyX7 : Nat → FieldType := fun k => match k with
  | 0 => .int
  | 1 => .int
  | 2 => .int
  | 3 => .int
  | 4 => .int
  | 5 => .int
  | 6 => .int
  | 7 => .int
  | 8 => .array .int
  | 9 => .array .int
  | 10 => .array .int
  | 11 => .array .int
  | 12 => .array .int
  | 13 => .array .int
  | 14 => .array .int
  | 15 => .array .int
  | 16 => .array .int
  | 17 => .array .int
  | 18 => .array .int
  | 19 => .array .int
  | 20 => .array .int
  | 21 => .array .int
  | 22 => .array .long
  | 23 => .array .long
  | 24 => .array .int
  | 25 => .array .int
  | 26 => .array .int
  | 27 => .array .int
  | 28 => .int
  | 29 => .int
  | 30 => .int
  | 31 => .int
  | 32 => .int
  | 33 => .array .int
  | 34 => .array .int
  | 35 => .array .int
  | 36 => .int
  | 37 => .int
  | 38 => .int
  | 39 => .int
  | 40 => .int
  | 41 => .int
  | 42 => .int
  | 43 => .int
  | 44 => .int
  | 45 => .int
  | 46 => .array .int
  | 47 => .array .int
  | 48 => .int
  | _ => .boolean
abbrev wsX70 : List Cond := u_ws RX7 TX7 50
theorem nmX7 : ∀ a, a < 50 → ∀ b, b < 50 → a ≠ b → (TX7 a).2.1 ≠ (TX7 b).2.1 := by decide +kernel
theorem tyX7_ok : ∀ k, k < 50 → parseFieldDescriptor (TX7 k).2.2.1 = some (tyX7 k) := by decide +kernel
abbrev cX7_init : ByteArray := prog_9_method_1_code
def yX7_init : MethodName := ⟨RX7, "<init>", "()V"⟩
abbrev cX7_no : ByteArray := prog_9_method_2_code
def yX7_no : MethodName := ⟨RX7, "no", "(I)I"⟩
abbrev cX7_noTen : ByteArray := prog_9_method_3_code
def yX7_noTen : MethodName := ⟨RX7, "noTen", "(I)I"⟩
abbrev cX7_isShelf : ByteArray := prog_9_method_4_code
def yX7_isShelf : MethodName := ⟨RX7, "isShelf", "(I)Z"⟩
abbrev cX7_isOne : ByteArray := prog_9_method_5_code
def yX7_isOne : MethodName := ⟨RX7, "isOne", "(I)Z"⟩
abbrev cX7_isFrom : ByteArray := prog_9_method_6_code
def yX7_isFrom : MethodName := ⟨RX7, "isFrom", "(III)Z"⟩
abbrev cX7_row : ByteArray := prog_9_method_7_code
def yX7_row : MethodName := ⟨RX7, "row", "(III)I"⟩
abbrev cX7_set : ByteArray := prog_9_method_8_code
def yX7_set : MethodName := ⟨RX7, "set", "(IIJ)I"⟩
abbrev cX7_copy : ByteArray := prog_9_method_9_code
def yX7_copy : MethodName := ⟨RX7, "copy", "(IIIII)I"⟩
abbrev cX7_element : ByteArray := prog_9_method_10_code
def yX7_element : MethodName := ⟨RX7, "element", "(II)J"⟩
abbrev cX7_show : ByteArray := prog_9_method_11_code
def yX7_show : MethodName := ⟨RX7, "show", "(II)I"⟩
abbrev cX7_holds : ByteArray := prog_9_method_12_code
def yX7_holds : MethodName := ⟨RX7, "holds", "(I)I"⟩
abbrev cX7_isUnder : ByteArray := prog_9_method_13_code
def yX7_isUnder : MethodName := ⟨RX7, "isUnder", "(II)Z"⟩
abbrev cX7_says : ByteArray := prog_9_method_14_code
def yX7_says : MethodName := ⟨RX7, "says", "(II)I"⟩
abbrev cX7_wanted : ByteArray := prog_9_method_15_code
def yX7_wanted : MethodName := ⟨RX7, "wanted", "(I)I"⟩
abbrev cX7_intAt : ByteArray := prog_9_method_16_code
def yX7_intAt : MethodName := ⟨RX7, "intAt", "(II)I"⟩
abbrev cX7_adds : ByteArray := prog_9_method_17_code
def yX7_adds : MethodName := ⟨RX7, "adds", "(IIII)I"⟩
abbrev cX7_person : ByteArray := prog_9_method_18_code
def yX7_person : MethodName := ⟨RX7, "person", "(IIIZ)I"⟩
abbrev cX7_friend : ByteArray := prog_9_method_19_code
def yX7_friend : MethodName := ⟨RX7, "friend", "(II)I"⟩
abbrev cX7_isAsked : ByteArray := prog_9_method_20_code
def yX7_isAsked : MethodName := ⟨RX7, "isAsked", "(II)Z"⟩
abbrev cX7_asks : ByteArray := prog_9_method_21_code
def yX7_asks : MethodName := ⟨RX7, "asks", "(II)V"⟩
abbrev cX7_ask : ByteArray := prog_9_method_22_code
def yX7_ask : MethodName := ⟨RX7, "ask", "(II)I"⟩
abbrev cX7_go : ByteArray := prog_9_method_23_code
def yX7_go : MethodName := ⟨RX7, "go", "(IZ)I"⟩
abbrev cX7_personOf : ByteArray := prog_9_method_24_code
def yX7_personOf : MethodName := ⟨RX7, "personOf", "(II)I"⟩
abbrev cX7_wrong : ByteArray := prog_9_method_25_code
def yX7_wrong : MethodName := ⟨RX7, "wrong", "(I)Z"⟩
abbrev cX7_sign : ByteArray := prog_9_method_26_code
def yX7_sign : MethodName := ⟨RX7, "sign", "(I)I"⟩
abbrev cX7_isPerson : ByteArray := prog_9_method_27_code
def yX7_isPerson : MethodName := ⟨RX7, "isPerson", "()Z"⟩
abbrev cX7_word : ByteArray := prog_9_method_28_code
def yX7_word : MethodName := ⟨RX7, "word", "()I"⟩
abbrev cX7_isDigit : ByteArray := prog_9_method_29_code
def yX7_isDigit : MethodName := ⟨RX7, "isDigit", "()Z"⟩
abbrev cX7_reads : ByteArray := prog_9_method_30_code
def yX7_reads : MethodName := ⟨RX7, "reads", "()Z"⟩
abbrev cX7_isSo : ByteArray := prog_9_method_31_code
def yX7_isSo : MethodName := ⟨RX7, "isSo", "(II)Z"⟩
abbrev cX7_item : ByteArray := prog_9_method_32_code
def yX7_item : MethodName := ⟨RX7, "item", "()Z"⟩
abbrev cX7_carries : ByteArray := prog_9_method_33_code
def yX7_carries : MethodName := ⟨RX7, "carries", "([I[IIZ)I"⟩
abbrev cX7_all : ByteArray := prog_9_method_34_code
def yX7_all : MethodName := ⟨RX7, "all", "([IZ)V"⟩
abbrev cX7_school : ByteArray := prog_9_method_35_code
def yX7_school : MethodName := ⟨RX7, "school", "(I)I"⟩
abbrev cX7_fault : ByteArray := prog_9_method_36_code
def yX7_fault : MethodName := ⟨RX7, "fault", "()I"⟩
abbrev cX7_wills : ByteArray := prog_9_method_37_code
def yX7_wills : MethodName := ⟨RX7, "wills", "(I)I"⟩
abbrev cX7_stillComes : ByteArray := prog_9_method_38_code
def yX7_stillComes : MethodName := ⟨RX7, "stillComes", "(II)Z"⟩
abbrev cX7_comes : ByteArray := prog_9_method_39_code
def yX7_comes : MethodName := ⟨RX7, "comes", "(I)V"⟩
abbrev cX7_passes : ByteArray := prog_9_method_40_code
def yX7_passes : MethodName := ⟨RX7, "passes", "()V"⟩
abbrev cX7_will : ByteArray := prog_9_method_41_code
def yX7_will : MethodName := ⟨RX7, "will", "(I)I"⟩
abbrev cX7_tonight : ByteArray := prog_9_method_42_code
def yX7_tonight : MethodName := ⟨RX7, "tonight", "(I)I"⟩
abbrev cX7_here : ByteArray := prog_9_method_43_code
def yX7_here : MethodName := ⟨RX7, "here", "()I"⟩
abbrev cX7_runs : ByteArray := prog_9_method_44_code
def yX7_runs : MethodName := ⟨RX7, "runs", "(I)V"⟩
abbrev cX7_isMany : ByteArray := prog_9_method_45_code
def yX7_isMany : MethodName := ⟨RX7, "isMany", "(I)Z"⟩
abbrev cX7_ahead : ByteArray := prog_9_method_46_code
def yX7_ahead : MethodName := ⟨RX7, "ahead", "(II)I"⟩
abbrev cX7_worst : ByteArray := prog_9_method_47_code
def yX7_worst : MethodName := ⟨RX7, "worst", "(II)I"⟩
abbrev cX7_ones : ByteArray := prog_9_method_48_code
def yX7_ones : MethodName := ⟨RX7, "ones", "(III)I"⟩
abbrev cX7_lost : ByteArray := prog_9_method_49_code
def yX7_lost : MethodName := ⟨RX7, "lost", "(I)I"⟩
abbrev cX7_bits : ByteArray := prog_9_method_50_code
def yX7_bits : MethodName := ⟨RX7, "bits", "(I)I"⟩
abbrev cX7_ring : ByteArray := prog_9_method_51_code
def yX7_ring : MethodName := ⟨RX7, "ring", "(II)I"⟩
abbrev cX7_begin : ByteArray := prog_9_method_52_code
def yX7_begin : MethodName := ⟨RX7, "begin", "(I)I"⟩
abbrev cX7_room : ByteArray := prog_9_method_53_code
def yX7_room : MethodName := ⟨RX7, "room", "(I)I"⟩
abbrev cX7_take : ByteArray := prog_9_method_54_code
def yX7_take : MethodName := ⟨RX7, "take", "(I)I"⟩
abbrev cX7_satIfPaid : ByteArray := prog_9_method_55_code
def yX7_satIfPaid : MethodName := ⟨RX7, "satIfPaid", "(II)I"⟩
abbrev cX7_price : ByteArray := prog_9_method_56_code
def yX7_price : MethodName := ⟨RX7, "price", "(I)I"⟩
abbrev cX7_holdsBack : ByteArray := prog_9_method_57_code
def yX7_holdsBack : MethodName := ⟨RX7, "holdsBack", "(I)I"⟩
abbrev cX7_keeps : ByteArray := prog_9_method_58_code
def yX7_keeps : MethodName := ⟨RX7, "keeps", "(I)I"⟩
abbrev cX7_keep : ByteArray := prog_9_method_59_code
def yX7_keep : MethodName := ⟨RX7, "keep", "()I"⟩
abbrev cX7_pairs : ByteArray := prog_9_method_60_code
def yX7_pairs : MethodName := ⟨RX7, "pairs", "()I"⟩
abbrev cX7_chain : ByteArray := prog_9_method_61_code
def yX7_chain : MethodName := ⟨RX7, "chain", "(I)I"⟩
abbrev cX7_wrongIn : ByteArray := prog_9_method_62_code
def yX7_wrongIn : MethodName := ⟨RX7, "wrongIn", "(II)I"⟩
abbrev cX7_barsOf : ByteArray := prog_9_method_63_code
def yX7_barsOf : MethodName := ⟨RX7, "barsOf", "(II)I"⟩
abbrev cX7_friends : ByteArray := prog_9_method_64_code
def yX7_friends : MethodName := ⟨RX7, "friends", "(III)I"⟩
abbrev cX7_judge : ByteArray := prog_9_method_65_code
def yX7_judge : MethodName := ⟨RX7, "judge", "(II)I"⟩
abbrev cX7_evenings : ByteArray := prog_9_method_66_code
def yX7_evenings : MethodName := ⟨RX7, "evenings", "(I)I"⟩
abbrev cX7_draw : ByteArray := prog_9_method_67_code
def yX7_draw : MethodName := ⟨RX7, "draw", "(I)I"⟩
abbrev cX7_drawn : ByteArray := prog_9_method_68_code
def yX7_drawn : MethodName := ⟨RX7, "drawn", "(I)I"⟩
abbrev cX7_seed : ByteArray := prog_9_method_69_code
def yX7_seed : MethodName := ⟨RX7, "seed", "(I)I"⟩
abbrev cX7_body : ByteArray := prog_9_method_70_code
def yX7_body : MethodName := ⟨RX7, "body", "(I)V"⟩
abbrev cX7_coming : ByteArray := prog_9_method_71_code
def yX7_coming : MethodName := ⟨RX7, "coming", "(II)I"⟩
abbrev cX7_sitting : ByteArray := prog_9_method_72_code
def yX7_sitting : MethodName := ⟨RX7, "sitting", "(II)I"⟩
abbrev cX7_asking : ByteArray := prog_9_method_73_code
def yX7_asking : MethodName := ⟨RX7, "asking", "(II)I"⟩
abbrev cX7_act : ByteArray := prog_9_method_74_code
def yX7_act : MethodName := ⟨RX7, "act", "(III)I"⟩
abbrev cX7_trace : ByteArray := prog_9_method_75_code
def yX7_trace : MethodName := ⟨RX7, "trace", "(I)I"⟩
abbrev cX7_image : ByteArray := prog_9_method_76_code
def yX7_image : MethodName := ⟨RX7, "image", "()I"⟩
abbrev cX7_restore : ByteArray := prog_9_method_77_code
def yX7_restore : MethodName := ⟨RX7, "restore", "()I"⟩
abbrev cX7_together : ByteArray := prog_9_method_78_code
def yX7_together : MethodName := ⟨RX7, "together", "([I)I"⟩
abbrev cX7_status : ByteArray := prog_9_method_79_code
def yX7_status : MethodName := ⟨RX7, "status", "(I)I"⟩
def RJx145de : String := "java/io/Serializable"
def RJx9f9b0 : String := "java/lang/CharSequence"
def RJxb160c : String := "java/lang/Comparable"
def RJ6 : String := "java/lang/Integer"
abbrev cJ6_bitCount_0f7a4 : ByteArray := prog_10_method_49_code
def yJ6_bitCount_0f7a4 : MethodName := ⟨RJ6, "bitCount", "(I)I"⟩
def RJ9 : String := "java/lang/Math"
abbrev cJ9_abs_0f7a4 : ByteArray := prog_11_method_59_code
def yJ9_abs_0f7a4 : MethodName := ⟨RJ9, "abs", "(I)I"⟩
abbrev cJ9_max_7cf53 : ByteArray := prog_11_method_65_code
def yJ9_max_7cf53 : MethodName := ⟨RJ9, "max", "(II)I"⟩
abbrev cJ9_min_7cf53 : ByteArray := prog_11_method_69_code
def yJ9_min_7cf53 : MethodName := ⟨RJ9, "min", "(II)I"⟩
def RJ0 : String := "java/lang/String"
def RJ1 : String := "java/lang/StringLatin1"
def RJ2 : String := "java/lang/StringUTF16"
def RJ10 : String := "java/lang/System"
def RJxfd54e : String := "java/lang/constant/Constable"
def RJx3cf43 : String := "java/lang/constant/ConstantDesc"
def RJ7 : String := "java/util/Arrays"
abbrev cJ7_fill_d0a16 : ByteArray := prog_16_method_101_code
def yJ7_fill_d0a16 : MethodName := ⟨RJ7, "fill", "([JJ)V"⟩
def RJ3 : String := "jdk/internal/util/Preconditions"
end
section
/-! THE BASE: one memory of abstract objects for the class and the reference, and a judgement G over the machine -/
def TB : List Cond := lw_tbl.filter goodWord
theorem TB_of (i : Nat) {w : Cond} (h1 : lw_tbl[i]? = some w) (h2 : goodWord w = true) : w ∈ TB := List.mem_filter.mpr ⟨List.mem_of_getElem? h1, h2⟩
theorem TB_good {w : Cond} (h : w ∈ TB) : (w.onTables && w.keeps) = true ∨ ∃ ty, w = .arrayClass ty := good_of_word (List.mem_filter.mp h).2
theorem TB_hts {args : Array Value} {s : State} (h : ∀ w ∈ lw_tbl, w.before args s = true) : ∀ w ∈ TB, w.before args s = true := fun w hw => h w (List.mem_filter.mp hw).1
/-- the words on private members of nest mates -/
def NBf : List (String × Nat × String × String × String × String) := [(RX3, 102, "ThirdEvening", "KIND_ABOVE", "[I", "ThirdEvening"), (RX0, 39, "ThirdEvening", "KIND_ABOVE", "[I", "ThirdEvening")]
def NBm : List (String × Nat × MethodName × String) := [(RX4, 17, yX2_init, RX6), (RX6, 24, yX1_init, RX6), (RX6, 35, yX5_init, RX6), (RX6, 42, yX3_init, RX6), (RX6, 49, yX0_init, RX6), (RX3, 131, yX6_leastOf, RX6), (RX3, 134, yX6_mostOf, RX6), (RX4, 79, yX6_isIn, RX6), (RX4, 103, yX6_isUnder, RX6), (RX0, 46, yX6_kindAbove, RX6)]
def NBW (U : State) : Prop := (∀ q ∈ NBf, va_Nw (.fieldLinkNest q.1 q.2.1 q.2.2.1 q.2.2.2.1 q.2.2.2.2.1 q.2.2.2.2.2) U) ∧ ∀ q ∈ NBm, va_Nw (.methodLinkNest q.1 q.2.1 q.2.2.1 q.2.2.2) U
theorem NBW.warm {s U : State} (hW : s.WarmedH U.vm) (h : NBW s) : NBW U := ⟨fun q hq => va_Nw.warmF hW (h.1 q hq), fun q hq => va_Nw.warmM hW (h.2 q hq)⟩
theorem NBW.same {u U : State} (hv : u.vm = U.vm) (h : NBW u) : NBW U := ⟨fun q hq => va_Nw.same rfl hv (h.1 q hq), fun q hq => va_Nw.same rfl hv (h.2 q hq)⟩
/-! objects: by a sort of thing and two numbers -/
abbrev Id : Type := Nat × Nat × Nat
def sb (k : Nat) : Nat := if k = 3 then 45 else 1 + 13 * k
def off : Id → Nat
  | (0, _, _) => 0
  | (1, k, _) => sb k
  | (2, k, i) => if i = 10 then sb k + 2 else sb k + 3 + i
  | (3, k, _) => sb k + 1
  | (4, _, _) => 40
  | (5, s, _) => if s = 8 then 42 else 62 + 2 * s
  | (6, s, _) => if s = 8 then 43 else 63 + 2 * s
  | (7, _, _) => 41
  | (8, _, _) => 44
  | (9, _, _) => 58
  | (10, _, _) => 59
  | (11, _, _) => 60
  | (12, _, _) => 61
  | (20, _, _) => 78
  | (21, j, _) => 79 + j
  | _ => 0
def scIds (k : Nat) : List Id := (1, k, 0) :: (3, k, 0) :: (2, k, 10) :: (List.range 10).map fun i => (2, k, i)
def idTable : List Id := (0, 0, 0) :: (scIds 0 ++ scIds 1 ++ scIds 2 ++ [(4, 0, 0), (7, 0, 0), (5, 8, 0), (6, 8, 0), (8, 0, 0)] ++ scIds 3 ++ [(9, 0, 0), (10, 0, 0), (11, 0, 0), (12, 0, 0)] ++ (List.range 8).flatMap (fun s => [(5, s, 0), (6, s, 0)]) ++ [(20, 0, 0)] ++ (List.range 25).map (fun j => (21, j, 0)))
def vld (a : Id) : Bool := idTable[off a]? == some a
theorem idTable_length : idTable.length = 104 := by decide +kernel
theorem vld_inj {a b : Id} (ha : vld a = true) (hb : vld b = true) (h : off a = off b) : a = b := by
  simp only [vld, beq_iff_eq] at ha hb
  rw [h, hb] at ha
  exact (Option.some.inj ha).symm
theorem vld_sc {k : Nat} (hk : k < 4) : vld (1, k, 0) = true := by
  have : ∀ k, k < 4 → vld (1, k, 0) = true := by decide +kernel
  exact this k hk
theorem vld_pe {k i : Nat} (hk : k < 4) (hi : i < 11) : vld (2, k, i) = true := by
  have : ∀ k, k < 4 → ∀ i, i < 11 → vld (2, k, i) = true := by decide +kernel
  exact this k hk i hi
theorem vld_pp {k : Nat} (hk : k < 4) : vld (3, k, 0) = true := by
  have : ∀ k, k < 4 → vld (3, k, 0) = true := by decide +kernel
  exact this k hk
theorem vld_sh {k : Nat} (hk : k < 9) : vld (5, k, 0) = true := by
  have : ∀ k, k < 9 → vld (5, k, 0) = true := by decide +kernel
  exact this k hk
theorem vld_el {k : Nat} (hk : k < 9) : vld (6, k, 0) = true := by
  have : ∀ k, k < 9 → vld (6, k, 0) = true := by decide +kernel
  exact this k hk
/-- (0, c) an object of the c-th class, (1, n) ints, (2, n) longs, (3, n) Persons, (4, n) Shelves -/
def shp : Id → Nat × Nat
  | (0, _, _) => (0, 6)
  | (1, _, _) => (0, 4)
  | (2, _, _) => (0, 2)
  | (3, _, _) => (3, 10)
  | (4, _, _) => (0, 1)
  | (5, _, _) => (0, 5)
  | (6, _, _) => (2, 160)
  | (7, _, _) => (4, 8)
  | (8, _, _) => (0, 3)
  | (9, _, _) => (1, 160)
  | (10, _, _) => (0, 0)
  | (11, _, _) => (1, 20)
  | (12, _, _) => (1, 8)
  | (20, _, _) => (0, 7)
  | (21, 14, _) => (2, 1280)
  | (21, 15, _) => (2, 160)
  | (21, j, _) => (1, [8, 10, 10, 10, 10, 10, 10, 10, 10, 10, 8, 8, 8, 8, 0, 0, 48, 7, 4, 4, 100, 100, 100, 10, 20].getD j 0)
  | _ => (9, 0)
abbrev classes : List vw_C := [(RX0, TX0, 5), (RX1, TX1, 4), (RX2, TX2, 10), (RX3, TX3, 6), (RX4, TX4, 9), (RX5, TX5, 4), (RX6, TX6, 11), (RX7, TX7, 50)]
def tyOf (c : Nat) : Nat → FieldType := match c with
  | 0 => tyX0
  | 1 => tyX1
  | 2 => tyX2
  | 3 => tyX3
  | 4 => tyX4
  | 5 => tyX5
  | 6 => tyX6
  | _ => tyX7
/-- the memory: ints, longs, references (static once made), how many cells are made -/
abbrev Mem : Type := (Id → Nat → Int32) × (Id → Nat → Int64) × (Id → Nat → Option Id) × Nat
abbrev mI (M : Mem) : Id → Nat → Int32 := M.1
abbrev mJ (M : Mem) : Id → Nat → Int64 := M.2.1
abbrev mR (M : Mem) : Id → Nat → Option Id := M.2.2.1
abbrev mN (M : Mem) : Nat := M.2.2.2
/-- base, classes, array classes, places of what is only read, the script -/
abbrev Ev : Type := Nat × va_G × (Nat → ClassId) × (Nat → Nat) × Nat × (Nat → Int32)
abbrev eB (E : Ev) : Nat := E.1
abbrev eD (E : Ev) : va_G := E.2.1
abbrev eA (E : Ev) : Nat → ClassId := E.2.2.1
abbrev eR (E : Ev) : Nat → Nat := E.2.2.2.1
abbrev eL (E : Ev) : Nat := E.2.2.2.2.1
abbrev eX (E : Ev) : Nat → Int32 := E.2.2.2.2.2
def eZ (E : Ev) : Nat → Prop := fun q => eB E ≤ q
def ad (E : Ev) (a : Id) : Nat := eB E + off a
/-- values: int, long, object, something only read, null -/
abbrev AV : Type := Int32 ⊕ Int64 ⊕ Id ⊕ Nat ⊕ Unit
abbrev vI (x : Int32) : AV := .inl x
abbrev vL (x : Int64) : AV := .inr (.inl x)
abbrev vR (a : Id) : AV := .inr (.inr (.inl a))
abbrev vS (t : Nat) : AV := .inr (.inr (.inr (.inl t)))
abbrev vN : AV := .inr (.inr (.inr (.inr ())))
def cv (E : Ev) : AV → Value
  | .inl x => .int x
  | .inr (.inl x) => .long x
  | .inr (.inr (.inl a)) => .ref (ad E a)
  | .inr (.inr (.inr (.inl t))) => .ref (eR E t)
  | .inr (.inr (.inr (.inr _))) => .null
def orf (E : Ev) (r : Option Id) : Value := match r with
  | none => .null
  | some a => .ref (ad E a)
def fval (E : Ev) (M : Mem) (c : Nat) (a : Id) (k : Nat) : Value := match tyOf c k with
  | .int => .int (mI M a k)
  | .boolean => .int (mI M a k)
  | _ => orf E (mR M a k)
def nfl (c : Nat) : Nat := [5, 4, 10, 6, 9, 4, 11, 50].getD c 0
def cellAt (E : Ev) (M : Mem) (H : Heap) (a : Id) : Prop := match shp a with
  | (0, c) => t_OB (ad E a) ((eD E).1 c) (nfl c) ((eD E).2 c) H (fval E M c a)
  | (1, n) => H[ad E a]? = some (arrV (eA E 0) n fun j => .int (mI M a j))
  | (2, n) => H[ad E a]? = some (arrV (eA E 1) n fun j => .long (mJ M a j))
  | (3, n) => H[ad E a]? = some (arrV (eA E 2) n fun j => orf E (mR M a j))
  | (4, n) => H[ad E a]? = some (arrV (eA E 3) n fun j => orf E (mR M a j))
  | _ => True
/-- the static arrays -/
def roF (t : Nat) : String := ["KIND_ABOVE", "LEAST_SETTING", "MOST_SETTING", "BODIES"].getD t ""
def roC (t : Nat) : String := [RX6, RX6, RX6, RX0].getD t ""
def roV (t : Nat) : List Int32 := [[-1, 0, 0, 1, 2, 0, 3], [0, 0, 1, 0], [20, 9, 12, 10], [10, 11, 12, 20, -1, -1, -1, 30, -1, 40, -1, -1, -1, -1, 60, 51, -1, 50, 70, 71, -1]].getD t []
def Wst (E : Ev) (U : State) (H : Heap) : Prop :=
  (∀ (c : Nat) (q : vw_C), classes[c]? = some q → u_Kn U q.1 q.2.1 q.2.2 ((eD E).1 c) ((eD E).2 c)) ∧
  ((ArrOfT U (eA E 0) .int ∧ va_RA U (eA E 0) .int) ∧ (ArrOfT U (eA E 1) .long ∧ va_RA U (eA E 1) .long) ∧ (ArrOfT U (eA E 2) (.object RX2) ∧ va_RA U (eA E 2) (.object RX2)) ∧ (ArrOfT U (eA E 3) (.object RX5) ∧ va_RA U (eA E 3) (.object RX5))) ∧
  NBW U ∧
  (∀ t, t < 4 → va_Z (roC t) (roF t) "[I" (.ref (eR E t)) (eZ E) U H ∧ va_T .int (eR E t) (roV t).length (fun j => .int ((roV t).getD j 0)) (eZ E) U H) ∧
  (va_X (eR E 4) (eL E) (eX E) U H ∧ eR E 4 < H.size ∧ ¬ eZ E (eR E 4))
def Wdy (E : Ev) (M : Mem) (H : Heap) : Prop := H.size = eB E + mN M ∧ ∀ a : Id, vld a = true → off a < mN M → cellAt E M H a
theorem Wst.moved {E : Ev} {u U : State} {H : Heap} (hW : u.WarmedH U.vm) (h : Wst E u H) : Wst E U H := by
  have hvm := hW.alike
  obtain ⟨h1, ⟨⟨a1, b1⟩, ⟨a2, b2⟩, ⟨a3, b3⟩, ⟨a4, b4⟩⟩, h3, h4, h5, h6⟩ := h
  exact ⟨fun c q hq => u_Kn_moved hvm (h1 c q hq), ⟨⟨arrOfT_moved hvm a1, b1.moved hvm⟩, ⟨arrOfT_moved hvm a2, b2.moved hvm⟩, ⟨arrOfT_moved hvm a3, b3.moved hvm⟩, ⟨arrOfT_moved hvm a4, b4.moved hvm⟩⟩, h3.warm hW, fun t ht => ⟨va_Z.moved hvm (h4 t ht).1, va_T.moved hvm (h4 t ht).2⟩, h5.moved hvm, h6⟩
theorem Wst.same {E : Ev} {u U : State} {H : Heap} (hv : u.vm = U.vm) (h : Wst E u H) : Wst E U H := by
  have hvm : u.vm.Alike U.vm := by rw [hv]; exact Vm.Alike.refl _
  obtain ⟨h1, ⟨⟨a1, b1⟩, ⟨a2, b2⟩, ⟨a3, b3⟩, ⟨a4, b4⟩⟩, h3, h4, h5, h6⟩ := h
  exact ⟨fun c q hq => u_Kn_moved hvm (h1 c q hq), ⟨⟨arrOfT_moved hvm a1, b1.moved hvm⟩, ⟨arrOfT_moved hvm a2, b2.moved hvm⟩, ⟨arrOfT_moved hvm a3, b3.moved hvm⟩, ⟨arrOfT_moved hvm a4, b4.moved hvm⟩⟩, h3.same hv, fun t ht => ⟨va_Z.moved hvm (h4 t ht).1, va_T.moved hvm (h4 t ht).2⟩, h5.moved hvm, h6⟩
theorem Wst.kept {E : Ev} {U : State} {H H1 : Heap} (h : Wst E U H) (hz : H.size ≤ H1.size) (hq : ∀ a : Nat, a < H.size → ¬ eZ E a → H1[a]? = H[a]?) : Wst E U H1 := by
  obtain ⟨h1, h2, h3, h4, h5, h6, h7⟩ := h
  exact ⟨h1, h2, h3, fun t ht => ⟨va_Z.kept (h4 t ht).1 hq, va_T.kept (h4 t ht).2 hq⟩, h5.kept (hq _ h6 h7), by omega, h7⟩
theorem cellAt_congr {E : Ev} {M M' : Mem} {H H' : Heap} {a : Id} (h : cellAt E M H a) (hH : H'[ad E a]? = H[ad E a]?) (h1 : mI M' a = mI M a) (h2 : mJ M' a = mJ M a) (h3 : mR M' a = mR M a) : cellAt E M' H' a := by
  unfold cellAt at h ⊢
  have hf : ∀ c, fval E M' c a = fval E M c a := fun c => by funext k; simp only [fval]; rw [h1, h3]
  generalize shp a = z at h ⊢
  obtain ⟨j, x⟩ := z
  match j, h with
  | 0, h =>
    show t_OB _ _ _ _ _ (fval E M' x a)
    rw [hf]
    exact t_OB.kept h hH
  | 1, h =>
    show H'[_]? = some (arrV _ _ fun j => .int (mI M' a j))
    rw [hH, h1]; exact h
  | 2, h =>
    show H'[_]? = some (arrV _ _ fun j => .long (mJ M' a j))
    rw [hH, h2]; exact h
  | 3, h =>
    show H'[_]? = some (arrV _ _ fun j => orf E (mR M' a j))
    rw [hH, h3]; exact h
  | 4, h =>
    show H'[_]? = some (arrV _ _ fun j => orf E (mR M' a j))
    rw [hH, h3]; exact h
  | n + 5, h => trivial
theorem Wdy.set {E : Ev} {M M' : Mem} {H H' : Heap} {a : Id} (h : Wdy E M H) (ha : vld a = true) (hn : mN M' = mN M) (hz : H'.size = H.size) (ho : ∀ q : Nat, q ≠ ad E a → H'[q]? = H[q]?) (hc : cellAt E M' H' a)
    (hk : ∀ b : Id, b ≠ a → mI M' b = mI M b ∧ mJ M' b = mJ M b ∧ mR M' b = mR M b) : Wdy E M' H' := by
  refine ⟨by rw [hz, hn]; exact h.1, fun b hb hbn => ?_⟩
  by_cases hba : b = a
  · rw [hba]; exact hc
  · obtain ⟨k1, k2, k3⟩ := hk b hba
    refine cellAt_congr (h.2 b hb (by rw [← hn]; exact hbn)) (ho _ fun e => hba (vld_inj hb ha ?_)) k1 k2 k3
    unfold ad at e; omega
/-- writes -/
def sI (M : Mem) (a : Id) (k : Nat) (x : Int32) : Mem := (fun b j => if b = a ∧ j = k then x else M.1 b j, M.2)
def sJ (M : Mem) (a : Id) (k : Nat) (x : Int64) : Mem := (M.1, fun b j => if b = a ∧ j = k then x else M.2.1 b j, M.2.2)
def sR (M : Mem) (a : Id) (k : Nat) (x : Option Id) : Mem := (M.1, M.2.1, fun b j => if b = a ∧ j = k then x else M.2.2.1 b j, M.2.2.2)
/-! methods: name, bytes, locals, what comes back -/
abbrev MK : Type := MethodName × ByteArray × Nat × Option FieldType
def ws_ (k : MK) : List Cond := Cond.code k.1 k.2.1 k.2.2.1 k.2.2.2 :: TB
abbrev rm (n mc ms : Nat) : Room := { frames := n, cells := mc, slots := ms, locals := 44 * n }
def Cx (p : Program) (s : State) (m : MethodId) (args : Array Value) (meth : Method) (c : Code) (k : MK) : Prop := p.tables.exec = Jvm.exec ∧ c.code = k.2.1 ∧ c.maxLocals = k.2.2.1 ∧ meth.sig.returnType = k.2.2.2 ∧ meth.locks = false ∧ s.vm.findClass k.1.cls = some m.cls ∧ (∀ w ∈ TB, w.before args s = true) ∧ meth.name = k.1.name
/-- locals by their places -/
def lg : List (Option AV) → Nat → Option AV
  | [], _ => none
  | v :: _, 0 => v
  | _ :: r, n + 1 => lg r n
def lst : List (Option AV) → Nat → Option AV → List (Option AV)
  | [], _, _ => []
  | _ :: r, 0, v => v :: r
  | a :: r, n + 1, v => a :: lst r n v
def nl : Option AV → Bool
  | some (.inr (.inl _)) => false
  | _ => true
def en (E : Ev) : Nat → List (Option AV) → List (Nat × Value)
  | _, [] => []
  | j, none :: r => en E (j + 1) r
  | j, some v :: r => (j, cv E v) :: en E (j + 1) r
def hasL (E : Ev) (ls : Array Slot) (nL : Nat) (lv : List (Option AV)) : Prop := lv.length = nL ∧ lv_has ls nL (en E 0 lv)
theorem mem_en {E : Ev} {i : Nat} {w : Value} : ∀ {lv : List (Option AV)} {j : Nat}, (i, w) ∈ en E j lv ↔ ∃ v, j ≤ i ∧ lg lv (i - j) = some v ∧ cv E v = w := by
  intro lv
  induction lv with
  | nil => intro j; simp [en, lg]
  | cons a r ih =>
    intro j
    have hs : ∀ v, (j ≤ i ∧ lg (a :: r) (i - j) = some v ∧ cv E v = w) ↔ ((i = j ∧ a = some v ∧ cv E v = w) ∨ (j + 1 ≤ i ∧ lg r (i - (j + 1)) = some v ∧ cv E v = w)) := by
      intro v
      constructor
      · rintro ⟨h1, h2, h3⟩
        by_cases hij : i = j
        · subst hij; rw [Nat.sub_self] at h2; exact Or.inl ⟨rfl, h2, h3⟩
        · have e : i - j = (i - (j + 1)) + 1 := by omega
          rw [e] at h2
          exact Or.inr ⟨by omega, h2, h3⟩
      · rintro (⟨rfl, h2, h3⟩ | ⟨h1, h2, h3⟩)
        · exact ⟨Nat.le_refl _, by rw [Nat.sub_self]; exact h2, h3⟩
        · have e : i - j = (i - (j + 1)) + 1 := by omega
          exact ⟨by omega, by rw [e]; exact h2, h3⟩
    simp only [hs]
    cases a with
    | none => simp only [en, ih]; simp
    | some u =>
      simp only [en, List.mem_cons, ih, Prod.mk.injEq]
      constructor
      · rintro (⟨rfl, rfl⟩ | ⟨v, h⟩)
        · exact ⟨u, Or.inl ⟨rfl, rfl, rfl⟩⟩
        · exact ⟨v, Or.inr h⟩
      · rintro ⟨v, ⟨rfl, h, rfl⟩ | h⟩
        · exact Or.inl ⟨rfl, by rw [Option.some.inj h]⟩
        · exact Or.inr ⟨v, h⟩
theorem lg_lst : ∀ (lv : List (Option AV)) (i j : Nat) (v : Option AV), lg (lst lv i v) j = if j = i then (if i < lv.length then v else none) else lg lv j := by
  intro lv
  induction lv with
  | nil => intro i j v; simp [lst, lg]
  | cons a r ih =>
    intro i j v
    cases i with
    | zero => cases j <;> simp [lst, lg]
    | succ i => cases j with
      | zero => simp [lst, lg]
      | succ j => simp [lst, lg, ih]
theorem lst_length : ∀ (lv : List (Option AV)) (i : Nat) (v : Option AV), (lst lv i v).length = lv.length := by
  intro lv
  induction lv with
  | nil => intro i v; rfl
  | cons a r ih => intro i v; cases i <;> simp [lst, ih]
theorem hasL.at {E : Ev} {ls : Array Slot} {nL : Nat} {lv : List (Option AV)} (h : hasL E ls nL lv) {i : Nat} {v : AV} (hv : lg lv i = some v) : ls[i]? = some (.val (cv E v)) :=
  h.2.2.2 (i, cv E v) (mem_en.mpr ⟨v, Nat.zero_le _, hv, rfl⟩)
theorem cv_cat2 {E : Ev} {v : AV} (h : nl (some v) = true) : ¬ (cv E v).category = 2 := by
  rcases v with x | x | x | x | x
  · intro h; cases h
  · cases h
  · intro h; cases h
  · intro h; cases h
  · intro h; cases h
theorem hasL.st1 {E : Ev} {ls ls' : Array Slot} {nL i : Nat} {v : AV} {lv : List (Option AV)} (h : hasL E ls nL lv) (hi : i < lv.length) (hn : ∀ j, j + 1 = i → nl (lg lv j) = true)
    (h' : lv_has ls' nL ((i, cv E v) :: (en E 0 lv).filter (fun q => !(q.1 == i) && !(q.1 + 1 == i && q.2.category == 2)))) : hasL E ls' nL (lst lv i (some v)) := by
  refine ⟨by rw [lst_length]; exact h.1, h'.1, h'.2.1, ?_⟩
  rintro ⟨j, w⟩ hq
  obtain ⟨u, -, hu, rfl⟩ := mem_en.mp hq
  rw [Nat.sub_zero, lg_lst] at hu
  refine h'.2.2 _ ?_
  by_cases hj : j = i
  · rw [if_pos hj, if_pos hi] at hu
    rw [hj, Option.some.inj hu]; exact List.mem_cons_self
  · rw [if_neg hj] at hu
    refine List.mem_cons_of_mem _ (List.mem_filter.mpr ⟨mem_en.mpr ⟨u, Nat.zero_le _, hu, rfl⟩, ?_⟩)
    by_cases hji : j + 1 = i
    · have := hn j hji
      rw [hu] at this
      have hc := cv_cat2 (E := E) this
      simp [hj, hji, hc]
    · simp [hj, hji]
theorem hasL.st2 {E : Ev} {ls ls' : Array Slot} {nL i : Nat} {v : AV} {lv : List (Option AV)} (h : hasL E ls nL lv) (hi : i < lv.length) (hn : ∀ j, j + 1 = i → nl (lg lv j) = true)
    (h' : lv_has ls' nL ((i, cv E v) :: (en E 0 lv).filter (fun q => !(q.1 == i) && (!(q.1 == i + 1) && !(q.1 + 1 == i && q.2.category == 2))))) : hasL E ls' nL (lst (lst lv i (some v)) (i + 1) none) := by
  refine ⟨by rw [lst_length, lst_length]; exact h.1, h'.1, h'.2.1, ?_⟩
  rintro ⟨j, w⟩ hq
  obtain ⟨u, -, hu, rfl⟩ := mem_en.mp hq
  rw [Nat.sub_zero, lg_lst] at hu
  refine h'.2.2 _ ?_
  by_cases hj1 : j = i + 1
  · rw [if_pos hj1] at hu
    split at hu <;> cases hu
  rw [if_neg hj1, lg_lst] at hu
  by_cases hj : j = i
  · rw [if_pos hj, if_pos hi] at hu
    rw [hj, Option.some.inj hu]; exact List.mem_cons_self
  · rw [if_neg hj] at hu
    refine List.mem_cons_of_mem _ (List.mem_filter.mpr ⟨mem_en.mpr ⟨u, Nat.zero_le _, hu, rfl⟩, ?_⟩)
    by_cases hji : j + 1 = i
    · have := hn j hji
      rw [hu] at this
      have hc := cv_cat2 (E := E) this
      simp [hj, hj1, hji, hc]
    · simp [hj, hj1, hji]
abbrev ZT : Type := List Frame → Array Value → State → State → Prop
def G (E : Ev) (R : Room) (k : MK) (Z : ZT) (ca sl : Nat) (pc : Nat) (lv : List (Option AV)) (st : List AV) (M : Mem) : Prop :=
  ∀ (p : Program) (l : Launch) (e : Env) (s : State) (m : MethodId) (args : Array Value) (below : List Frame) (meth : Method) (c : Code) (H : Heap) (locs : List Loc) (ls : Array Slot),
    Cx p s m args meth c k → Wst E s s.heap → Wdy E M H → va_S (eZ E) s.heap H locs → hasL E ls k.2.2.1 lv →
    W p l e R s m args below meth c H locs ca sl (Z below args s) (F0 m pc ls (st.map (cv E)))
abbrev QT : Type := Option AV → Mem → Prop
def QC (E : Ev) (Q : QT) : Array Value → State → Outcome → State → Prop := fun _ st o t => (∃ (r : Option AV) (M' : Mem), o = .returned (r.map (cv E)) ∧ Q r M' ∧ Wdy E M' t.heap) ∧ va_F (eZ E) st t
def ZQ (E : Ev) (Q : QT) (mc ms : Nat) : ZT := fun below args s => MQ below (QC E Q) args s mc ms (eZ E)
def Mth (E : Ev) (n mc ms : Nat) (k : MK) (as : List AV) (M : Mem) (Q : QT) : Prop := ∀ l : Launch, Met l k.1 (ws_ k) (rm n mc ms) (va_Pc (as.map (cv E)) (fun U => Wst E U U.heap ∧ Wdy E M U.heap)) (QC E Q) mc ms (eZ E)
end
section
/-! THE RULES OF G -/
section RG
variable {E : Ev} {R : Room} {k : MK} {Z : ZT} {ca sl pc : Nat} {lv : List (Option AV)} {st : List AV} {M : Mem}
theorem G.pceq {pc' : Nat} (h : G E R k Z ca sl pc' lv st M) (e : pc = pc') : G E R k Z ca sl pc lv st M := e ▸ h
theorem g_iconst {n : Int} {v : Int32} (hd : decode k.2.1 pc = .ok (.iconst n, 1)) (hv : Int32.ofInt n = v) (h : G E R k Z ca sl (pc + 1) lv (vI v :: st) M) : G E R k Z ca sl pc lv (st) M :=
  fun p l e s m args below meth c H locs ls C hw hy hS hl => lv_iconst C.1 C.2.1 hd hv (h p l e s m args below meth c H locs ls C hw hy hS hl)
theorem g_bipush {n : Int} {v : Int32} (hd : decode k.2.1 pc = .ok (.bipush n, 2)) (hv : (Int8.ofInt n).toInt32 = v) (h : G E R k Z ca sl (pc + 2) lv (vI v :: st) M) : G E R k Z ca sl pc lv (st) M :=
  fun p l e s m args below meth c H locs ls C hw hy hS hl => lv_bipush C.1 C.2.1 hd hv (h p l e s m args below meth c H locs ls C hw hy hS hl)
theorem g_sipush {n : Int} {v : Int32} (hd : decode k.2.1 pc = .ok (.sipush n, 3)) (hv : (Int16.ofInt n).toInt32 = v) (h : G E R k Z ca sl (pc + 3) lv (vI v :: st) M) : G E R k Z ca sl pc lv (st) M :=
  fun p l e s m args below meth c H locs ls C hw hy hS hl => lv_sipush C.1 C.2.1 hd hv (h p l e s m args below meth c H locs ls C hw hy hS hl)
theorem g_lconst {n : Fin 2} {v : Int64} (hd : decode k.2.1 pc = .ok (.lconst n, 1)) (hv : Int64.ofNat (n : Nat) = v) (h : G E R k Z ca sl (pc + 1) lv (vL v :: st) M) : G E R k Z ca sl pc lv (st) M :=
  fun p l e s m args below meth c H locs ls C hw hy hS hl => lv_lconst C.1 C.2.1 hd hv (h p l e s m args below meth c H locs ls C hw hy hS hl)
theorem g_iload_n {f : Fin 4} {i : Nat} {x : Int32} (hd : decode k.2.1 pc = .ok (.iload_n f, 1)) (hi : (f : Nat) = i) (hv : lg lv i = some (vI x)) (h : G E R k Z ca sl (pc + 1) lv (vI x :: st) M) : G E R k Z ca sl pc lv st M :=
  fun p l e s m args below meth c H locs ls C hw hy hS hl => lv_iload_n C.1 C.2.1 hd hi (hl.at hv) (h p l e s m args below meth c H locs ls C hw hy hS hl)
theorem g_iload {i : Nat} {x : Int32} (hd : decode k.2.1 pc = .ok (.iload i, 2)) (hv : lg lv i = some (vI x)) (h : G E R k Z ca sl (pc + 2) lv (vI x :: st) M) : G E R k Z ca sl pc lv st M :=
  fun p l e s m args below meth c H locs ls C hw hy hS hl => lv_iload C.1 C.2.1 hd (hl.at hv) (h p l e s m args below meth c H locs ls C hw hy hS hl)
theorem g_lload_n {f : Fin 4} {i : Nat} {x : Int64} (hd : decode k.2.1 pc = .ok (.lload_n f, 1)) (hi : (f : Nat) = i) (hv : lg lv i = some (vL x)) (h : G E R k Z ca sl (pc + 1) lv (vL x :: st) M) : G E R k Z ca sl pc lv st M :=
  fun p l e s m args below meth c H locs ls C hw hy hS hl => lv_lload_n C.1 C.2.1 hd hi (hl.at hv) (h p l e s m args below meth c H locs ls C hw hy hS hl)
theorem g_lload {i : Nat} {x : Int64} (hd : decode k.2.1 pc = .ok (.lload i, 2)) (hv : lg lv i = some (vL x)) (h : G E R k Z ca sl (pc + 2) lv (vL x :: st) M) : G E R k Z ca sl pc lv st M :=
  fun p l e s m args below meth c H locs ls C hw hy hS hl => lv_lload C.1 C.2.1 hd (hl.at hv) (h p l e s m args below meth c H locs ls C hw hy hS hl)
theorem g_aloadR_n {f : Fin 4} {i : Nat} {x : Id} (hd : decode k.2.1 pc = .ok (.aload_n f, 1)) (hi : (f : Nat) = i) (hv : lg lv i = some (vR x)) (h : G E R k Z ca sl (pc + 1) lv (vR x :: st) M) : G E R k Z ca sl pc lv st M :=
  fun p l e s m args below meth c H locs ls C hw hy hS hl => lv_aload_n C.1 C.2.1 hd hi (hl.at hv) (h p l e s m args below meth c H locs ls C hw hy hS hl)
theorem g_aloadR {i : Nat} {x : Id} (hd : decode k.2.1 pc = .ok (.aload i, 2)) (hv : lg lv i = some (vR x)) (h : G E R k Z ca sl (pc + 2) lv (vR x :: st) M) : G E R k Z ca sl pc lv st M :=
  fun p l e s m args below meth c H locs ls C hw hy hS hl => lv_aload C.1 C.2.1 hd (hl.at hv) (h p l e s m args below meth c H locs ls C hw hy hS hl)
theorem g_aloadS_n {f : Fin 4} {i : Nat} {x : Nat} (hd : decode k.2.1 pc = .ok (.aload_n f, 1)) (hi : (f : Nat) = i) (hv : lg lv i = some (vS x)) (h : G E R k Z ca sl (pc + 1) lv (vS x :: st) M) : G E R k Z ca sl pc lv st M :=
  fun p l e s m args below meth c H locs ls C hw hy hS hl => lv_aload_n C.1 C.2.1 hd hi (hl.at hv) (h p l e s m args below meth c H locs ls C hw hy hS hl)
theorem g_aloadS {i : Nat} {x : Nat} (hd : decode k.2.1 pc = .ok (.aload i, 2)) (hv : lg lv i = some (vS x)) (h : G E R k Z ca sl (pc + 2) lv (vS x :: st) M) : G E R k Z ca sl pc lv st M :=
  fun p l e s m args below meth c H locs ls C hw hy hS hl => lv_aload C.1 C.2.1 hd (hl.at hv) (h p l e s m args below meth c H locs ls C hw hy hS hl)
theorem g_istore_n_g {f : Fin 4} {i : Nat} {x : Int32} (hd : decode k.2.1 pc = .ok (.istore_n f, 1)) (hi0 : (f : Nat) = i) (hi : i < lv.length) (hn : ∀ j, j + 1 = i → nl (lg lv j) = true) (h : G E R k Z ca sl (pc + 1) (lst lv i (some (vI x))) st M) : G E R k Z ca sl pc lv (vI x :: st) M :=
  fun p l e s m args below meth c H locs ls C hw hy hS hl => lv_istore_n C.1 C.2.1 hd hi0 hl.2 (by rw [← hl.1]; exact hi) rfl (fun ls' hl' => h p l e s m args below meth c H locs ls' C hw hy hS (hl.st1 hi hn hl'))
theorem g_istore_g {i : Nat} {x : Int32} (hd : decode k.2.1 pc = .ok (.istore i, 2)) (hi : i < lv.length) (hn : ∀ j, j + 1 = i → nl (lg lv j) = true) (h : G E R k Z ca sl (pc + 2) (lst lv i (some (vI x))) st M) : G E R k Z ca sl pc lv (vI x :: st) M :=
  fun p l e s m args below meth c H locs ls C hw hy hS hl => lv_istore C.1 C.2.1 hd hl.2 (by rw [← hl.1]; exact hi) rfl (fun ls' hl' => h p l e s m args below meth c H locs ls' C hw hy hS (hl.st1 hi hn hl'))
theorem g_astore_n_g {f : Fin 4} {i : Nat} {x : Id} (hd : decode k.2.1 pc = .ok (.astore_n f, 1)) (hi0 : (f : Nat) = i) (hi : i < lv.length) (hn : ∀ j, j + 1 = i → nl (lg lv j) = true) (h : G E R k Z ca sl (pc + 1) (lst lv i (some (vR x))) st M) : G E R k Z ca sl pc lv (vR x :: st) M :=
  fun p l e s m args below meth c H locs ls C hw hy hS hl => lv_astore_n C.1 C.2.1 hd hi0 hl.2 (by rw [← hl.1]; exact hi) rfl (fun ls' hl' => h p l e s m args below meth c H locs ls' C hw hy hS (hl.st1 hi hn hl'))
theorem g_astore_g {i : Nat} {x : Id} (hd : decode k.2.1 pc = .ok (.astore i, 2)) (hi : i < lv.length) (hn : ∀ j, j + 1 = i → nl (lg lv j) = true) (h : G E R k Z ca sl (pc + 2) (lst lv i (some (vR x))) st M) : G E R k Z ca sl pc lv (vR x :: st) M :=
  fun p l e s m args below meth c H locs ls C hw hy hS hl => lv_astore C.1 C.2.1 hd hl.2 (by rw [← hl.1]; exact hi) rfl (fun ls' hl' => h p l e s m args below meth c H locs ls' C hw hy hS (hl.st1 hi hn hl'))
theorem g_lstore_n_g {f : Fin 4} {i : Nat} {x : Int64} (hd : decode k.2.1 pc = .ok (.lstore_n f, 1)) (hi0 : (f : Nat) = i) (hi : i + 1 < lv.length) (hn : ∀ j, j + 1 = i → nl (lg lv j) = true) (h : G E R k Z ca sl (pc + 1) (lst (lst lv i (some (vL x))) (i + 1) none) st M) : G E R k Z ca sl pc lv (vL x :: st) M :=
  fun p l e s m args below meth c H locs ls C hw hy hS hl => lv_lstore_n C.1 C.2.1 hd hi0 hl.2 (by rw [← hl.1]; exact hi) rfl (fun ls' hl' => h p l e s m args below meth c H locs ls' C hw hy hS (hl.st2 (Nat.lt_of_succ_lt hi) hn hl'))
theorem g_lstore_g {i : Nat} {x : Int64} (hd : decode k.2.1 pc = .ok (.lstore i, 2)) (hi : i + 1 < lv.length) (hn : ∀ j, j + 1 = i → nl (lg lv j) = true) (h : G E R k Z ca sl (pc + 2) (lst (lst lv i (some (vL x))) (i + 1) none) st M) : G E R k Z ca sl pc lv (vL x :: st) M :=
  fun p l e s m args below meth c H locs ls C hw hy hS hl => lv_lstore C.1 C.2.1 hd hl.2 (by rw [← hl.1]; exact hi) rfl (fun ls' hl' => h p l e s m args below meth c H locs ls' C hw hy hS (hl.st2 (Nat.lt_of_succ_lt hi) hn hl'))
theorem g_iinc_g {i : Nat} {n : Int} {x v : Int32} (hd : decode k.2.1 pc = .ok (.iinc i n, 3)) (hi : i < lv.length) (hv : lg lv i = some (vI x)) (hn : ∀ j, j + 1 = i → nl (lg lv j) = true) (hx : x + Int32.ofInt n = v) (h : G E R k Z ca sl (pc + 3) (lst lv i (some (vI v))) st M) : G E R k Z ca sl pc lv st M := by
  intro p l e s m args below meth c H locs ls C hw hy hS hl
  obtain ⟨q, hq⟩ := List.getElem?_of_mem (mem_en.mpr ⟨vI x, Nat.zero_le _, (by rw [Nat.sub_zero]; exact hv), rfl⟩ : (i, cv E (vI x)) ∈ en E 0 lv)
  exact lv_iinc C.1 C.2.1 hd hl.2 hq hx (by rw [← hl.1]; exact hi) rfl (fun ls' hl' => h p l e s m args below meth c H locs ls' C hw hy hS (hl.st1 hi hn hl'))
theorem g_istore_0 {b : Option AV} {r : List (Option AV)} {x : Int32} (hd : decode k.2.1 pc = .ok (.istore_n 0, 1)) (h : G E R k Z ca sl (pc + 1) (some (vI x) :: r) st M) : G E R k Z ca sl pc (b :: r) (vI x :: st) M :=
  g_istore_n_g (i := 0) hd rfl (by simp) (fun j e => by cases e) h
theorem g_astore_0 {b : Option AV} {r : List (Option AV)} {x : Id} (hd : decode k.2.1 pc = .ok (.astore_n 0, 1)) (h : G E R k Z ca sl (pc + 1) (some (vR x) :: r) st M) : G E R k Z ca sl pc (b :: r) (vR x :: st) M :=
  g_astore_n_g (i := 0) hd rfl (by simp) (fun j e => by cases e) h
theorem g_iinc_0 {r : List (Option AV)} {n : Int} {x v : Int32} (hd : decode k.2.1 pc = .ok (.iinc 0 n, 3)) (hx : x + Int32.ofInt n = v) (h : G E R k Z ca sl (pc + 3) (some (vI v) :: r) st M) : G E R k Z ca sl pc (some (vI x) :: r) st M :=
  g_iinc_g (i := 0) hd (by simp) rfl (fun j e => by cases e) hx h
theorem g_istore_1 {a0 b : Option AV} {r : List (Option AV)} {x : Int32} (hd : decode k.2.1 pc = .ok (.istore_n 1, 1)) (hn : nl a0 = true) (h : G E R k Z ca sl (pc + 1) (a0 :: some (vI x) :: r) st M) : G E R k Z ca sl pc (a0 :: b :: r) (vI x :: st) M :=
  g_istore_n_g (i := 1) hd rfl (by simp) (fun j e => by cases e; exact hn) h
theorem g_astore_1 {a0 b : Option AV} {r : List (Option AV)} {x : Id} (hd : decode k.2.1 pc = .ok (.astore_n 1, 1)) (hn : nl a0 = true) (h : G E R k Z ca sl (pc + 1) (a0 :: some (vR x) :: r) st M) : G E R k Z ca sl pc (a0 :: b :: r) (vR x :: st) M :=
  g_astore_n_g (i := 1) hd rfl (by simp) (fun j e => by cases e; exact hn) h
theorem g_iinc_1 {a0 : Option AV} {r : List (Option AV)} {n : Int} {x v : Int32} (hd : decode k.2.1 pc = .ok (.iinc 1 n, 3)) (hn : nl a0 = true) (hx : x + Int32.ofInt n = v) (h : G E R k Z ca sl (pc + 3) (a0 :: some (vI v) :: r) st M) : G E R k Z ca sl pc (a0 :: some (vI x) :: r) st M :=
  g_iinc_g (i := 1) hd (by simp) rfl (fun j e => by cases e; exact hn) hx h
theorem g_istore_2 {a0 a1 b : Option AV} {r : List (Option AV)} {x : Int32} (hd : decode k.2.1 pc = .ok (.istore_n 2, 1)) (hn : nl a1 = true) (h : G E R k Z ca sl (pc + 1) (a0 :: a1 :: some (vI x) :: r) st M) : G E R k Z ca sl pc (a0 :: a1 :: b :: r) (vI x :: st) M :=
  g_istore_n_g (i := 2) hd rfl (by simp) (fun j e => by cases e; exact hn) h
theorem g_astore_2 {a0 a1 b : Option AV} {r : List (Option AV)} {x : Id} (hd : decode k.2.1 pc = .ok (.astore_n 2, 1)) (hn : nl a1 = true) (h : G E R k Z ca sl (pc + 1) (a0 :: a1 :: some (vR x) :: r) st M) : G E R k Z ca sl pc (a0 :: a1 :: b :: r) (vR x :: st) M :=
  g_astore_n_g (i := 2) hd rfl (by simp) (fun j e => by cases e; exact hn) h
theorem g_iinc_2 {a0 a1 : Option AV} {r : List (Option AV)} {n : Int} {x v : Int32} (hd : decode k.2.1 pc = .ok (.iinc 2 n, 3)) (hn : nl a1 = true) (hx : x + Int32.ofInt n = v) (h : G E R k Z ca sl (pc + 3) (a0 :: a1 :: some (vI v) :: r) st M) : G E R k Z ca sl pc (a0 :: a1 :: some (vI x) :: r) st M :=
  g_iinc_g (i := 2) hd (by simp) rfl (fun j e => by cases e; exact hn) hx h
theorem g_istore_3 {a0 a1 a2 b : Option AV} {r : List (Option AV)} {x : Int32} (hd : decode k.2.1 pc = .ok (.istore_n 3, 1)) (hn : nl a2 = true) (h : G E R k Z ca sl (pc + 1) (a0 :: a1 :: a2 :: some (vI x) :: r) st M) : G E R k Z ca sl pc (a0 :: a1 :: a2 :: b :: r) (vI x :: st) M :=
  g_istore_n_g (i := 3) hd rfl (by simp) (fun j e => by cases e; exact hn) h
theorem g_astore_3 {a0 a1 a2 b : Option AV} {r : List (Option AV)} {x : Id} (hd : decode k.2.1 pc = .ok (.astore_n 3, 1)) (hn : nl a2 = true) (h : G E R k Z ca sl (pc + 1) (a0 :: a1 :: a2 :: some (vR x) :: r) st M) : G E R k Z ca sl pc (a0 :: a1 :: a2 :: b :: r) (vR x :: st) M :=
  g_astore_n_g (i := 3) hd rfl (by simp) (fun j e => by cases e; exact hn) h
theorem g_iinc_3 {a0 a1 a2 : Option AV} {r : List (Option AV)} {n : Int} {x v : Int32} (hd : decode k.2.1 pc = .ok (.iinc 3 n, 3)) (hn : nl a2 = true) (hx : x + Int32.ofInt n = v) (h : G E R k Z ca sl (pc + 3) (a0 :: a1 :: a2 :: some (vI v) :: r) st M) : G E R k Z ca sl pc (a0 :: a1 :: a2 :: some (vI x) :: r) st M :=
  g_iinc_g (i := 3) hd (by simp) rfl (fun j e => by cases e; exact hn) hx h
theorem g_istore_4 {a0 a1 a2 a3 b : Option AV} {r : List (Option AV)} {x : Int32} (hd : decode k.2.1 pc = .ok (.istore 4, 2)) (hn : nl a3 = true) (h : G E R k Z ca sl (pc + 2) (a0 :: a1 :: a2 :: a3 :: some (vI x) :: r) st M) : G E R k Z ca sl pc (a0 :: a1 :: a2 :: a3 :: b :: r) (vI x :: st) M :=
  g_istore_g (i := 4) hd (by simp) (fun j e => by cases e; exact hn) h
theorem g_astore_4 {a0 a1 a2 a3 b : Option AV} {r : List (Option AV)} {x : Id} (hd : decode k.2.1 pc = .ok (.astore 4, 2)) (hn : nl a3 = true) (h : G E R k Z ca sl (pc + 2) (a0 :: a1 :: a2 :: a3 :: some (vR x) :: r) st M) : G E R k Z ca sl pc (a0 :: a1 :: a2 :: a3 :: b :: r) (vR x :: st) M :=
  g_astore_g (i := 4) hd (by simp) (fun j e => by cases e; exact hn) h
theorem g_iinc_4 {a0 a1 a2 a3 : Option AV} {r : List (Option AV)} {n : Int} {x v : Int32} (hd : decode k.2.1 pc = .ok (.iinc 4 n, 3)) (hn : nl a3 = true) (hx : x + Int32.ofInt n = v) (h : G E R k Z ca sl (pc + 3) (a0 :: a1 :: a2 :: a3 :: some (vI v) :: r) st M) : G E R k Z ca sl pc (a0 :: a1 :: a2 :: a3 :: some (vI x) :: r) st M :=
  g_iinc_g (i := 4) hd (by simp) rfl (fun j e => by cases e; exact hn) hx h
theorem g_istore_5 {a0 a1 a2 a3 a4 b : Option AV} {r : List (Option AV)} {x : Int32} (hd : decode k.2.1 pc = .ok (.istore 5, 2)) (hn : nl a4 = true) (h : G E R k Z ca sl (pc + 2) (a0 :: a1 :: a2 :: a3 :: a4 :: some (vI x) :: r) st M) : G E R k Z ca sl pc (a0 :: a1 :: a2 :: a3 :: a4 :: b :: r) (vI x :: st) M :=
  g_istore_g (i := 5) hd (by simp) (fun j e => by cases e; exact hn) h
theorem g_astore_5 {a0 a1 a2 a3 a4 b : Option AV} {r : List (Option AV)} {x : Id} (hd : decode k.2.1 pc = .ok (.astore 5, 2)) (hn : nl a4 = true) (h : G E R k Z ca sl (pc + 2) (a0 :: a1 :: a2 :: a3 :: a4 :: some (vR x) :: r) st M) : G E R k Z ca sl pc (a0 :: a1 :: a2 :: a3 :: a4 :: b :: r) (vR x :: st) M :=
  g_astore_g (i := 5) hd (by simp) (fun j e => by cases e; exact hn) h
theorem g_iinc_5 {a0 a1 a2 a3 a4 : Option AV} {r : List (Option AV)} {n : Int} {x v : Int32} (hd : decode k.2.1 pc = .ok (.iinc 5 n, 3)) (hn : nl a4 = true) (hx : x + Int32.ofInt n = v) (h : G E R k Z ca sl (pc + 3) (a0 :: a1 :: a2 :: a3 :: a4 :: some (vI v) :: r) st M) : G E R k Z ca sl pc (a0 :: a1 :: a2 :: a3 :: a4 :: some (vI x) :: r) st M :=
  g_iinc_g (i := 5) hd (by simp) rfl (fun j e => by cases e; exact hn) hx h
theorem g_istore_6 {a0 a1 a2 a3 a4 a5 b : Option AV} {r : List (Option AV)} {x : Int32} (hd : decode k.2.1 pc = .ok (.istore 6, 2)) (hn : nl a5 = true) (h : G E R k Z ca sl (pc + 2) (a0 :: a1 :: a2 :: a3 :: a4 :: a5 :: some (vI x) :: r) st M) : G E R k Z ca sl pc (a0 :: a1 :: a2 :: a3 :: a4 :: a5 :: b :: r) (vI x :: st) M :=
  g_istore_g (i := 6) hd (by simp) (fun j e => by cases e; exact hn) h
theorem g_astore_6 {a0 a1 a2 a3 a4 a5 b : Option AV} {r : List (Option AV)} {x : Id} (hd : decode k.2.1 pc = .ok (.astore 6, 2)) (hn : nl a5 = true) (h : G E R k Z ca sl (pc + 2) (a0 :: a1 :: a2 :: a3 :: a4 :: a5 :: some (vR x) :: r) st M) : G E R k Z ca sl pc (a0 :: a1 :: a2 :: a3 :: a4 :: a5 :: b :: r) (vR x :: st) M :=
  g_astore_g (i := 6) hd (by simp) (fun j e => by cases e; exact hn) h
theorem g_iinc_6 {a0 a1 a2 a3 a4 a5 : Option AV} {r : List (Option AV)} {n : Int} {x v : Int32} (hd : decode k.2.1 pc = .ok (.iinc 6 n, 3)) (hn : nl a5 = true) (hx : x + Int32.ofInt n = v) (h : G E R k Z ca sl (pc + 3) (a0 :: a1 :: a2 :: a3 :: a4 :: a5 :: some (vI v) :: r) st M) : G E R k Z ca sl pc (a0 :: a1 :: a2 :: a3 :: a4 :: a5 :: some (vI x) :: r) st M :=
  g_iinc_g (i := 6) hd (by simp) rfl (fun j e => by cases e; exact hn) hx h
theorem g_istore_7 {a0 a1 a2 a3 a4 a5 a6 b : Option AV} {r : List (Option AV)} {x : Int32} (hd : decode k.2.1 pc = .ok (.istore 7, 2)) (hn : nl a6 = true) (h : G E R k Z ca sl (pc + 2) (a0 :: a1 :: a2 :: a3 :: a4 :: a5 :: a6 :: some (vI x) :: r) st M) : G E R k Z ca sl pc (a0 :: a1 :: a2 :: a3 :: a4 :: a5 :: a6 :: b :: r) (vI x :: st) M :=
  g_istore_g (i := 7) hd (by simp) (fun j e => by cases e; exact hn) h
theorem g_astore_7 {a0 a1 a2 a3 a4 a5 a6 b : Option AV} {r : List (Option AV)} {x : Id} (hd : decode k.2.1 pc = .ok (.astore 7, 2)) (hn : nl a6 = true) (h : G E R k Z ca sl (pc + 2) (a0 :: a1 :: a2 :: a3 :: a4 :: a5 :: a6 :: some (vR x) :: r) st M) : G E R k Z ca sl pc (a0 :: a1 :: a2 :: a3 :: a4 :: a5 :: a6 :: b :: r) (vR x :: st) M :=
  g_astore_g (i := 7) hd (by simp) (fun j e => by cases e; exact hn) h
theorem g_iinc_7 {a0 a1 a2 a3 a4 a5 a6 : Option AV} {r : List (Option AV)} {n : Int} {x v : Int32} (hd : decode k.2.1 pc = .ok (.iinc 7 n, 3)) (hn : nl a6 = true) (hx : x + Int32.ofInt n = v) (h : G E R k Z ca sl (pc + 3) (a0 :: a1 :: a2 :: a3 :: a4 :: a5 :: a6 :: some (vI v) :: r) st M) : G E R k Z ca sl pc (a0 :: a1 :: a2 :: a3 :: a4 :: a5 :: a6 :: some (vI x) :: r) st M :=
  g_iinc_g (i := 7) hd (by simp) rfl (fun j e => by cases e; exact hn) hx h
theorem g_istore_8 {a0 a1 a2 a3 a4 a5 a6 a7 b : Option AV} {r : List (Option AV)} {x : Int32} (hd : decode k.2.1 pc = .ok (.istore 8, 2)) (hn : nl a7 = true) (h : G E R k Z ca sl (pc + 2) (a0 :: a1 :: a2 :: a3 :: a4 :: a5 :: a6 :: a7 :: some (vI x) :: r) st M) : G E R k Z ca sl pc (a0 :: a1 :: a2 :: a3 :: a4 :: a5 :: a6 :: a7 :: b :: r) (vI x :: st) M :=
  g_istore_g (i := 8) hd (by simp) (fun j e => by cases e; exact hn) h
theorem g_astore_8 {a0 a1 a2 a3 a4 a5 a6 a7 b : Option AV} {r : List (Option AV)} {x : Id} (hd : decode k.2.1 pc = .ok (.astore 8, 2)) (hn : nl a7 = true) (h : G E R k Z ca sl (pc + 2) (a0 :: a1 :: a2 :: a3 :: a4 :: a5 :: a6 :: a7 :: some (vR x) :: r) st M) : G E R k Z ca sl pc (a0 :: a1 :: a2 :: a3 :: a4 :: a5 :: a6 :: a7 :: b :: r) (vR x :: st) M :=
  g_astore_g (i := 8) hd (by simp) (fun j e => by cases e; exact hn) h
theorem g_iinc_8 {a0 a1 a2 a3 a4 a5 a6 a7 : Option AV} {r : List (Option AV)} {n : Int} {x v : Int32} (hd : decode k.2.1 pc = .ok (.iinc 8 n, 3)) (hn : nl a7 = true) (hx : x + Int32.ofInt n = v) (h : G E R k Z ca sl (pc + 3) (a0 :: a1 :: a2 :: a3 :: a4 :: a5 :: a6 :: a7 :: some (vI v) :: r) st M) : G E R k Z ca sl pc (a0 :: a1 :: a2 :: a3 :: a4 :: a5 :: a6 :: a7 :: some (vI x) :: r) st M :=
  g_iinc_g (i := 8) hd (by simp) rfl (fun j e => by cases e; exact hn) hx h
theorem g_istore_9 {a0 a1 a2 a3 a4 a5 a6 a7 a8 b : Option AV} {r : List (Option AV)} {x : Int32} (hd : decode k.2.1 pc = .ok (.istore 9, 2)) (hn : nl a8 = true) (h : G E R k Z ca sl (pc + 2) (a0 :: a1 :: a2 :: a3 :: a4 :: a5 :: a6 :: a7 :: a8 :: some (vI x) :: r) st M) : G E R k Z ca sl pc (a0 :: a1 :: a2 :: a3 :: a4 :: a5 :: a6 :: a7 :: a8 :: b :: r) (vI x :: st) M :=
  g_istore_g (i := 9) hd (by simp) (fun j e => by cases e; exact hn) h
theorem g_astore_9 {a0 a1 a2 a3 a4 a5 a6 a7 a8 b : Option AV} {r : List (Option AV)} {x : Id} (hd : decode k.2.1 pc = .ok (.astore 9, 2)) (hn : nl a8 = true) (h : G E R k Z ca sl (pc + 2) (a0 :: a1 :: a2 :: a3 :: a4 :: a5 :: a6 :: a7 :: a8 :: some (vR x) :: r) st M) : G E R k Z ca sl pc (a0 :: a1 :: a2 :: a3 :: a4 :: a5 :: a6 :: a7 :: a8 :: b :: r) (vR x :: st) M :=
  g_astore_g (i := 9) hd (by simp) (fun j e => by cases e; exact hn) h
theorem g_iinc_9 {a0 a1 a2 a3 a4 a5 a6 a7 a8 : Option AV} {r : List (Option AV)} {n : Int} {x v : Int32} (hd : decode k.2.1 pc = .ok (.iinc 9 n, 3)) (hn : nl a8 = true) (hx : x + Int32.ofInt n = v) (h : G E R k Z ca sl (pc + 3) (a0 :: a1 :: a2 :: a3 :: a4 :: a5 :: a6 :: a7 :: a8 :: some (vI v) :: r) st M) : G E R k Z ca sl pc (a0 :: a1 :: a2 :: a3 :: a4 :: a5 :: a6 :: a7 :: a8 :: some (vI x) :: r) st M :=
  g_iinc_g (i := 9) hd (by simp) rfl (fun j e => by cases e; exact hn) hx h
theorem g_istore_10 {a0 a1 a2 a3 a4 a5 a6 a7 a8 a9 b : Option AV} {r : List (Option AV)} {x : Int32} (hd : decode k.2.1 pc = .ok (.istore 10, 2)) (hn : nl a9 = true) (h : G E R k Z ca sl (pc + 2) (a0 :: a1 :: a2 :: a3 :: a4 :: a5 :: a6 :: a7 :: a8 :: a9 :: some (vI x) :: r) st M) : G E R k Z ca sl pc (a0 :: a1 :: a2 :: a3 :: a4 :: a5 :: a6 :: a7 :: a8 :: a9 :: b :: r) (vI x :: st) M :=
  g_istore_g (i := 10) hd (by simp) (fun j e => by cases e; exact hn) h
theorem g_astore_10 {a0 a1 a2 a3 a4 a5 a6 a7 a8 a9 b : Option AV} {r : List (Option AV)} {x : Id} (hd : decode k.2.1 pc = .ok (.astore 10, 2)) (hn : nl a9 = true) (h : G E R k Z ca sl (pc + 2) (a0 :: a1 :: a2 :: a3 :: a4 :: a5 :: a6 :: a7 :: a8 :: a9 :: some (vR x) :: r) st M) : G E R k Z ca sl pc (a0 :: a1 :: a2 :: a3 :: a4 :: a5 :: a6 :: a7 :: a8 :: a9 :: b :: r) (vR x :: st) M :=
  g_astore_g (i := 10) hd (by simp) (fun j e => by cases e; exact hn) h
theorem g_iinc_10 {a0 a1 a2 a3 a4 a5 a6 a7 a8 a9 : Option AV} {r : List (Option AV)} {n : Int} {x v : Int32} (hd : decode k.2.1 pc = .ok (.iinc 10 n, 3)) (hn : nl a9 = true) (hx : x + Int32.ofInt n = v) (h : G E R k Z ca sl (pc + 3) (a0 :: a1 :: a2 :: a3 :: a4 :: a5 :: a6 :: a7 :: a8 :: a9 :: some (vI v) :: r) st M) : G E R k Z ca sl pc (a0 :: a1 :: a2 :: a3 :: a4 :: a5 :: a6 :: a7 :: a8 :: a9 :: some (vI x) :: r) st M :=
  g_iinc_g (i := 10) hd (by simp) rfl (fun j e => by cases e; exact hn) hx h
theorem g_istore_11 {a0 a1 a2 a3 a4 a5 a6 a7 a8 a9 a10 b : Option AV} {r : List (Option AV)} {x : Int32} (hd : decode k.2.1 pc = .ok (.istore 11, 2)) (hn : nl a10 = true) (h : G E R k Z ca sl (pc + 2) (a0 :: a1 :: a2 :: a3 :: a4 :: a5 :: a6 :: a7 :: a8 :: a9 :: a10 :: some (vI x) :: r) st M) : G E R k Z ca sl pc (a0 :: a1 :: a2 :: a3 :: a4 :: a5 :: a6 :: a7 :: a8 :: a9 :: a10 :: b :: r) (vI x :: st) M :=
  g_istore_g (i := 11) hd (by simp) (fun j e => by cases e; exact hn) h
theorem g_astore_11 {a0 a1 a2 a3 a4 a5 a6 a7 a8 a9 a10 b : Option AV} {r : List (Option AV)} {x : Id} (hd : decode k.2.1 pc = .ok (.astore 11, 2)) (hn : nl a10 = true) (h : G E R k Z ca sl (pc + 2) (a0 :: a1 :: a2 :: a3 :: a4 :: a5 :: a6 :: a7 :: a8 :: a9 :: a10 :: some (vR x) :: r) st M) : G E R k Z ca sl pc (a0 :: a1 :: a2 :: a3 :: a4 :: a5 :: a6 :: a7 :: a8 :: a9 :: a10 :: b :: r) (vR x :: st) M :=
  g_astore_g (i := 11) hd (by simp) (fun j e => by cases e; exact hn) h
theorem g_iinc_11 {a0 a1 a2 a3 a4 a5 a6 a7 a8 a9 a10 : Option AV} {r : List (Option AV)} {n : Int} {x v : Int32} (hd : decode k.2.1 pc = .ok (.iinc 11 n, 3)) (hn : nl a10 = true) (hx : x + Int32.ofInt n = v) (h : G E R k Z ca sl (pc + 3) (a0 :: a1 :: a2 :: a3 :: a4 :: a5 :: a6 :: a7 :: a8 :: a9 :: a10 :: some (vI v) :: r) st M) : G E R k Z ca sl pc (a0 :: a1 :: a2 :: a3 :: a4 :: a5 :: a6 :: a7 :: a8 :: a9 :: a10 :: some (vI x) :: r) st M :=
  g_iinc_g (i := 11) hd (by simp) rfl (fun j e => by cases e; exact hn) hx h
theorem g_iadd {x y : Int32} (hd : decode k.2.1 pc = .ok (.iadd, 1)) (h : G E R k Z ca sl (pc + 1) lv (vI (x + y) :: st) M) : G E R k Z ca sl pc lv (vI y :: vI x :: st) M :=
  fun p l e s m args below meth c H locs ls C hw hy hS hl => lv_iadd C.1 C.2.1 hd (h p l e s m args below meth c H locs ls C hw hy hS hl)
theorem g_isub {x y : Int32} (hd : decode k.2.1 pc = .ok (.isub, 1)) (h : G E R k Z ca sl (pc + 1) lv (vI (x - y) :: st) M) : G E R k Z ca sl pc lv (vI y :: vI x :: st) M :=
  fun p l e s m args below meth c H locs ls C hw hy hS hl => lv_isub C.1 C.2.1 hd (h p l e s m args below meth c H locs ls C hw hy hS hl)
theorem g_imul {x y : Int32} (hd : decode k.2.1 pc = .ok (.imul, 1)) (h : G E R k Z ca sl (pc + 1) lv (vI (x * y) :: st) M) : G E R k Z ca sl pc lv (vI y :: vI x :: st) M :=
  fun p l e s m args below meth c H locs ls C hw hy hS hl => lv_imul C.1 C.2.1 hd (h p l e s m args below meth c H locs ls C hw hy hS hl)
theorem g_iand {x y : Int32} (hd : decode k.2.1 pc = .ok (.iand, 1)) (h : G E R k Z ca sl (pc + 1) lv (vI (x &&& y) :: st) M) : G E R k Z ca sl pc lv (vI y :: vI x :: st) M :=
  fun p l e s m args below meth c H locs ls C hw hy hS hl => lv_iand C.1 C.2.1 hd (h p l e s m args below meth c H locs ls C hw hy hS hl)
theorem g_ior {x y : Int32} (hd : decode k.2.1 pc = .ok (.ior, 1)) (h : G E R k Z ca sl (pc + 1) lv (vI (x ||| y) :: st) M) : G E R k Z ca sl pc lv (vI y :: vI x :: st) M :=
  fun p l e s m args below meth c H locs ls C hw hy hS hl => lv_ior C.1 C.2.1 hd (h p l e s m args below meth c H locs ls C hw hy hS hl)
theorem g_ixor {x y : Int32} (hd : decode k.2.1 pc = .ok (.ixor, 1)) (h : G E R k Z ca sl (pc + 1) lv (vI (x ^^^ y) :: st) M) : G E R k Z ca sl pc lv (vI y :: vI x :: st) M :=
  fun p l e s m args below meth c H locs ls C hw hy hS hl => lv_ixor C.1 C.2.1 hd (h p l e s m args below meth c H locs ls C hw hy hS hl)
theorem g_ineg {x : Int32} (hd : decode k.2.1 pc = .ok (.ineg, 1)) (h : G E R k Z ca sl (pc + 1) lv (vI (-x) :: st) M) : G E R k Z ca sl pc lv (vI x :: st) M :=
  fun p l e s m args below meth c H locs ls C hw hy hS hl => lv_ineg C.1 C.2.1 hd (h p l e s m args below meth c H locs ls C hw hy hS hl)
theorem g_idiv {x y : Int32} (hd : decode k.2.1 pc = .ok (.idiv, 1)) (hne : ¬ y = 0) (h : G E R k Z ca sl (pc + 1) lv (vI (x / y) :: st) M) : G E R k Z ca sl pc lv (vI y :: vI x :: st) M :=
  fun p l e s m args below meth c H locs ls C hw hy hS hl => lv_idiv C.1 C.2.1 hd hne (h p l e s m args below meth c H locs ls C hw hy hS hl)
theorem g_irem {x y : Int32} (hd : decode k.2.1 pc = .ok (.irem, 1)) (hne : ¬ y = 0) (h : G E R k Z ca sl (pc + 1) lv (vI (x - x / y * y) :: st) M) : G E R k Z ca sl pc lv (vI y :: vI x :: st) M :=
  fun p l e s m args below meth c H locs ls C hw hy hS hl => lv_irem C.1 C.2.1 hd hne (h p l e s m args below meth c H locs ls C hw hy hS hl)
theorem g_ladd {x y : Int64} (hd : decode k.2.1 pc = .ok (.ladd, 1)) (h : G E R k Z ca sl (pc + 1) lv (vL (x + y) :: st) M) : G E R k Z ca sl pc lv (vL y :: vL x :: st) M :=
  fun p l e s m args below meth c H locs ls C hw hy hS hl => lv_ladd C.1 C.2.1 hd (h p l e s m args below meth c H locs ls C hw hy hS hl)
theorem g_land {x y : Int64} (hd : decode k.2.1 pc = .ok (.land, 1)) (h : G E R k Z ca sl (pc + 1) lv (vL (x &&& y) :: st) M) : G E R k Z ca sl pc lv (vL y :: vL x :: st) M :=
  fun p l e s m args below meth c H locs ls C hw hy hS hl => lv_land C.1 C.2.1 hd (h p l e s m args below meth c H locs ls C hw hy hS hl)
theorem g_lor {x y : Int64} (hd : decode k.2.1 pc = .ok (.lor, 1)) (h : G E R k Z ca sl (pc + 1) lv (vL (x ||| y) :: st) M) : G E R k Z ca sl pc lv (vL y :: vL x :: st) M :=
  fun p l e s m args below meth c H locs ls C hw hy hS hl => lv_lor C.1 C.2.1 hd (h p l e s m args below meth c H locs ls C hw hy hS hl)
theorem g_ishl {x y : Int32} (hd : decode k.2.1 pc = .ok (.ishl, 1)) (h : G E R k Z ca sl (pc + 1) lv (vI (x <<< (y &&& 31)) :: st) M) : G E R k Z ca sl pc lv (vI y :: vI x :: st) M :=
  fun p l e s m args below meth c H locs ls C hw hy hS hl => lv_ishl C.1 C.2.1 hd (h p l e s m args below meth c H locs ls C hw hy hS hl)
theorem g_ishr {x y : Int32} (hd : decode k.2.1 pc = .ok (.ishr, 1)) (h : G E R k Z ca sl (pc + 1) lv (vI (x >>> (y &&& 31)) :: st) M) : G E R k Z ca sl pc lv (vI y :: vI x :: st) M :=
  fun p l e s m args below meth c H locs ls C hw hy hS hl => lv_ishr C.1 C.2.1 hd (h p l e s m args below meth c H locs ls C hw hy hS hl)
theorem g_i2l {x : Int32} (hd : decode k.2.1 pc = .ok (.i2l, 1)) (h : G E R k Z ca sl (pc + 1) lv (vL x.toInt64 :: st) M) : G E R k Z ca sl pc lv (vI x :: st) M :=
  fun p l e s m args below meth c H locs ls C hw hy hS hl => lv_i2l C.1 C.2.1 hd rfl (h p l e s m args below meth c H locs ls C hw hy hS hl)
theorem g_l2i {x : Int64} (hd : decode k.2.1 pc = .ok (.l2i, 1)) (h : G E R k Z ca sl (pc + 1) lv (vI x.toInt32 :: st) M) : G E R k Z ca sl pc lv (vL x :: st) M :=
  fun p l e s m args below meth c H locs ls C hw hy hS hl => lv_l2i C.1 C.2.1 hd rfl (h p l e s m args below meth c H locs ls C hw hy hS hl)
theorem g_i2b {x : Int32} (hd : decode k.2.1 pc = .ok (.i2b, 1)) (h : G E R k Z ca sl (pc + 1) lv (vI x.toInt8.toInt32 :: st) M) : G E R k Z ca sl pc lv (vI x :: st) M :=
  fun p l e s m args below meth c H locs ls C hw hy hS hl => lv_i2b C.1 C.2.1 hd rfl (h p l e s m args below meth c H locs ls C hw hy hS hl)
theorem g_i2s {x : Int32} (hd : decode k.2.1 pc = .ok (.i2s, 1)) (h : G E R k Z ca sl (pc + 1) lv (vI x.toInt16.toInt32 :: st) M) : G E R k Z ca sl pc lv (vI x :: st) M :=
  fun p l e s m args below meth c H locs ls C hw hy hS hl => lv_i2s C.1 C.2.1 hd rfl (h p l e s m args below meth c H locs ls C hw hy hS hl)
theorem g_iushr {x y : Int32} (hd : decode k.2.1 pc = .ok (.iushr, 1)) (h : G E R k Z ca sl (pc + 1) lv (vI (x.toUInt32 >>> (y.toUInt32 &&& Int32.toUInt32 31)).toInt32 :: st) M) : G E R k Z ca sl pc lv (vI y :: vI x :: st) M :=
  fun p l e s m args below meth c H locs ls C hw hy hS hl => lv_iushr C.1 C.2.1 hd rfl (h p l e s m args below meth c H locs ls C hw hy hS hl)
theorem g_lshl {x : Int64} {y : Int32} (hd : decode k.2.1 pc = .ok (.lshl, 1)) (h : G E R k Z ca sl (pc + 1) lv (vL (x <<< (y.toInt64 &&& 63)) :: st) M) : G E R k Z ca sl pc lv (vI y :: vL x :: st) M :=
  fun p l e s m args below meth c H locs ls C hw hy hS hl => lv_lshl C.1 C.2.1 hd rfl (h p l e s m args below meth c H locs ls C hw hy hS hl)
theorem cv_cat1 {E : Ev} {v : AV} (h : nl (some v) = true) : (cv E v).category = 1 := by
  rcases v with x | x | x | x | x <;> first | rfl | cases h
theorem g_dup {v : AV} (hd : decode k.2.1 pc = .ok (.dup, 1)) (hv : nl (some v) = true) (h : G E R k Z ca sl (pc + 1) lv (v :: v :: st) M) : G E R k Z ca sl pc lv (v :: st) M :=
  fun p l e s m args below meth c H locs ls C hw hy hS hl => lv_dup C.1 C.2.1 hd (cv_cat1 hv) (h p l e s m args below meth c H locs ls C hw hy hS hl)
theorem g_pop {v : AV} (hd : decode k.2.1 pc = .ok (.pop, 1)) (hv : nl (some v) = true) (h : G E R k Z ca sl (pc + 1) lv st M) : G E R k Z ca sl pc lv (v :: st) M :=
  fun p l e s m args below meth c H locs ls C hw hy hS hl => lv_pop C.1 C.2.1 hd (cv_cat1 hv) (h p l e s m args below meth c H locs ls C hw hy hS hl)
theorem g_dup2 {v w : AV} (hd : decode k.2.1 pc = .ok (.dup2, 1)) (hv : nl (some v) = true) (hw0 : nl (some w) = true) (h : G E R k Z ca sl (pc + 1) lv (v :: w :: v :: w :: st) M) : G E R k Z ca sl pc lv (v :: w :: st) M :=
  fun p l e s m args below meth c H locs ls C hw hy hS hl => lv_dup2_11 C.1 C.2.1 hd (cv_cat1 hv) (cv_cat1 hw0) (h p l e s m args below meth c H locs ls C hw hy hS hl)
theorem g_dup_x1 {v w : AV} (hd : decode k.2.1 pc = .ok (.dup_x1, 1)) (hv : nl (some v) = true) (hw0 : nl (some w) = true) (h : G E R k Z ca sl (pc + 1) lv (v :: w :: v :: st) M) : G E R k Z ca sl pc lv (v :: w :: st) M :=
  fun p l e s m args below meth c H locs ls C hw hy hS hl => lv_dup_x1 C.1 C.2.1 hd (cv_cat1 hv) (cv_cat1 hw0) (h p l e s m args below meth c H locs ls C hw hy hS hl)
theorem g_goto {o : Int} {tgt : Nat} (hd : decode k.2.1 pc = .ok (.goto o, 3)) (ht : (pc : Int) + o = (tgt : Int)) (h : G E R k Z ca sl tgt lv st M) : G E R k Z ca sl pc lv st M :=
  fun p l e s m args below meth c H locs ls C hw hy hS hl => lv_goto C.1 C.2.1 hd ht (h p l e s m args below meth c H locs ls C hw hy hS hl)
theorem g_if_eq {x : Int32} {o : Int} {tgt : Nat} (hd : decode k.2.1 pc = .ok (.ifCond .eq o, 3)) (ht : (pc : Int) + o = (tgt : Int)) (h1 : x = 0 → G E R k Z ca sl tgt lv st M) (h2 : ¬ x = 0 → G E R k Z ca sl (pc + 3) lv st M) : G E R k Z ca sl pc lv (vI x :: st) M :=
  fun p l e s m args below meth c H locs ls C hw hy hS hl => lv_if_eq C.1 C.2.1 hd ht (fun q => h1 q p l e s m args below meth c H locs ls C hw hy hS hl) (fun q => h2 q p l e s m args below meth c H locs ls C hw hy hS hl)
theorem g_if_ne {x : Int32} {o : Int} {tgt : Nat} (hd : decode k.2.1 pc = .ok (.ifCond .ne o, 3)) (ht : (pc : Int) + o = (tgt : Int)) (h1 : ¬ x = 0 → G E R k Z ca sl tgt lv st M) (h2 : x = 0 → G E R k Z ca sl (pc + 3) lv st M) : G E R k Z ca sl pc lv (vI x :: st) M :=
  fun p l e s m args below meth c H locs ls C hw hy hS hl => lv_if_ne C.1 C.2.1 hd ht (fun q => h1 q p l e s m args below meth c H locs ls C hw hy hS hl) (fun q => h2 q p l e s m args below meth c H locs ls C hw hy hS hl)
theorem g_if_lt {x : Int32} {o : Int} {tgt : Nat} (hd : decode k.2.1 pc = .ok (.ifCond .lt o, 3)) (ht : (pc : Int) + o = (tgt : Int)) (h1 : x < 0 → G E R k Z ca sl tgt lv st M) (h2 : ¬ x < 0 → G E R k Z ca sl (pc + 3) lv st M) : G E R k Z ca sl pc lv (vI x :: st) M :=
  fun p l e s m args below meth c H locs ls C hw hy hS hl => lv_if_lt C.1 C.2.1 hd ht (fun q => h1 q p l e s m args below meth c H locs ls C hw hy hS hl) (fun q => h2 q p l e s m args below meth c H locs ls C hw hy hS hl)
theorem g_if_ge {x : Int32} {o : Int} {tgt : Nat} (hd : decode k.2.1 pc = .ok (.ifCond .ge o, 3)) (ht : (pc : Int) + o = (tgt : Int)) (h1 : 0 ≤ x → G E R k Z ca sl tgt lv st M) (h2 : ¬ 0 ≤ x → G E R k Z ca sl (pc + 3) lv st M) : G E R k Z ca sl pc lv (vI x :: st) M :=
  fun p l e s m args below meth c H locs ls C hw hy hS hl => lv_if_ge C.1 C.2.1 hd ht (fun q => h1 q p l e s m args below meth c H locs ls C hw hy hS hl) (fun q => h2 q p l e s m args below meth c H locs ls C hw hy hS hl)
theorem g_if_gt {x : Int32} {o : Int} {tgt : Nat} (hd : decode k.2.1 pc = .ok (.ifCond .gt o, 3)) (ht : (pc : Int) + o = (tgt : Int)) (h1 : 0 < x → G E R k Z ca sl tgt lv st M) (h2 : ¬ 0 < x → G E R k Z ca sl (pc + 3) lv st M) : G E R k Z ca sl pc lv (vI x :: st) M :=
  fun p l e s m args below meth c H locs ls C hw hy hS hl => lv_if_gt C.1 C.2.1 hd ht (fun q => h1 q p l e s m args below meth c H locs ls C hw hy hS hl) (fun q => h2 q p l e s m args below meth c H locs ls C hw hy hS hl)
theorem g_if_le {x : Int32} {o : Int} {tgt : Nat} (hd : decode k.2.1 pc = .ok (.ifCond .le o, 3)) (ht : (pc : Int) + o = (tgt : Int)) (h1 : x ≤ 0 → G E R k Z ca sl tgt lv st M) (h2 : ¬ x ≤ 0 → G E R k Z ca sl (pc + 3) lv st M) : G E R k Z ca sl pc lv (vI x :: st) M :=
  fun p l e s m args below meth c H locs ls C hw hy hS hl => lv_if_le C.1 C.2.1 hd ht (fun q => h1 q p l e s m args below meth c H locs ls C hw hy hS hl) (fun q => h2 q p l e s m args below meth c H locs ls C hw hy hS hl)
theorem g_icmp_eq {x y : Int32} {o : Int} {tgt : Nat} (hd : decode k.2.1 pc = .ok (.if_icmp .eq o, 3)) (ht : (pc : Int) + o = (tgt : Int)) (h1 : x = y → G E R k Z ca sl tgt lv st M) (h2 : ¬ x = y → G E R k Z ca sl (pc + 3) lv st M) : G E R k Z ca sl pc lv (vI y :: vI x :: st) M :=
  fun p l e s m args below meth c H locs ls C hw hy hS hl => lv_icmp_eq C.1 C.2.1 hd ht (fun q => h1 q p l e s m args below meth c H locs ls C hw hy hS hl) (fun q => h2 q p l e s m args below meth c H locs ls C hw hy hS hl)
theorem g_icmp_ne {x y : Int32} {o : Int} {tgt : Nat} (hd : decode k.2.1 pc = .ok (.if_icmp .ne o, 3)) (ht : (pc : Int) + o = (tgt : Int)) (h1 : ¬ x = y → G E R k Z ca sl tgt lv st M) (h2 : x = y → G E R k Z ca sl (pc + 3) lv st M) : G E R k Z ca sl pc lv (vI y :: vI x :: st) M :=
  fun p l e s m args below meth c H locs ls C hw hy hS hl => lv_icmp_ne C.1 C.2.1 hd ht (fun q => h1 q p l e s m args below meth c H locs ls C hw hy hS hl) (fun q => h2 q p l e s m args below meth c H locs ls C hw hy hS hl)
theorem g_icmp_lt {x y : Int32} {o : Int} {tgt : Nat} (hd : decode k.2.1 pc = .ok (.if_icmp .lt o, 3)) (ht : (pc : Int) + o = (tgt : Int)) (h1 : x < y → G E R k Z ca sl tgt lv st M) (h2 : ¬ x < y → G E R k Z ca sl (pc + 3) lv st M) : G E R k Z ca sl pc lv (vI y :: vI x :: st) M :=
  fun p l e s m args below meth c H locs ls C hw hy hS hl => lv_icmp_lt C.1 C.2.1 hd ht (fun q => h1 q p l e s m args below meth c H locs ls C hw hy hS hl) (fun q => h2 q p l e s m args below meth c H locs ls C hw hy hS hl)
theorem g_icmp_ge {x y : Int32} {o : Int} {tgt : Nat} (hd : decode k.2.1 pc = .ok (.if_icmp .ge o, 3)) (ht : (pc : Int) + o = (tgt : Int)) (h1 : y ≤ x → G E R k Z ca sl tgt lv st M) (h2 : ¬ y ≤ x → G E R k Z ca sl (pc + 3) lv st M) : G E R k Z ca sl pc lv (vI y :: vI x :: st) M :=
  fun p l e s m args below meth c H locs ls C hw hy hS hl => lv_icmp_ge C.1 C.2.1 hd ht (fun q => h1 q p l e s m args below meth c H locs ls C hw hy hS hl) (fun q => h2 q p l e s m args below meth c H locs ls C hw hy hS hl)
theorem g_icmp_gt {x y : Int32} {o : Int} {tgt : Nat} (hd : decode k.2.1 pc = .ok (.if_icmp .gt o, 3)) (ht : (pc : Int) + o = (tgt : Int)) (h1 : y < x → G E R k Z ca sl tgt lv st M) (h2 : ¬ y < x → G E R k Z ca sl (pc + 3) lv st M) : G E R k Z ca sl pc lv (vI y :: vI x :: st) M :=
  fun p l e s m args below meth c H locs ls C hw hy hS hl => lv_icmp_gt C.1 C.2.1 hd ht (fun q => h1 q p l e s m args below meth c H locs ls C hw hy hS hl) (fun q => h2 q p l e s m args below meth c H locs ls C hw hy hS hl)
theorem g_icmp_le {x y : Int32} {o : Int} {tgt : Nat} (hd : decode k.2.1 pc = .ok (.if_icmp .le o, 3)) (ht : (pc : Int) + o = (tgt : Int)) (h1 : x ≤ y → G E R k Z ca sl tgt lv st M) (h2 : ¬ x ≤ y → G E R k Z ca sl (pc + 3) lv st M) : G E R k Z ca sl pc lv (vI y :: vI x :: st) M :=
  fun p l e s m args below meth c H locs ls C hw hy hS hl => lv_icmp_le C.1 C.2.1 hd ht (fun q => h1 q p l e s m args below meth c H locs ls C hw hy hS hl) (fun q => h2 q p l e s m args below meth c H locs ls C hw hy hS hl)
theorem g_tableOut {d lo hi : Int} {os : Array Int} {len : Nat} {x : Int32} {tgt : Nat} (hd : decode k.2.1 pc = .ok (.tableswitch d lo hi os, len)) (hx : x.toInt < lo ∨ hi < x.toInt) (ht : (pc : Int) + d = (tgt : Int)) (h : G E R k Z ca sl tgt lv st M) : G E R k Z ca sl pc lv (vI x :: st) M :=
  fun p l e s m args below meth c H locs ls C hw hy hS hl => lv_tableOut C.1 C.2.1 hd hx ht (h p l e s m args below meth c H locs ls C hw hy hS hl)
theorem g_tableIn {d lo hi : Int} {os : Array Int} {len : Nat} {x : Int32} {o : Int} {tgt : Nat} (hd : decode k.2.1 pc = .ok (.tableswitch d lo hi os, len)) (h1 : ¬ x.toInt < lo) (h2 : ¬ hi < x.toInt) (ho : os[(x.toInt - lo).toNat]? = some o) (ht : (pc : Int) + o = (tgt : Int)) (h : G E R k Z ca sl tgt lv st M) : G E R k Z ca sl pc lv (vI x :: st) M :=
  fun p l e s m args below meth c H locs ls C hw hy hS hl => lv_tableIn C.1 C.2.1 hd h1 h2 ho ht (h p l e s m args below meth c H locs ls C hw hy hS hl)
theorem g_lookup {d : Int} {ps : Array (Int × Int)} {len : Nat} {x : Int32} {o : Int} {tgt : Nat} (hd : decode k.2.1 pc = .ok (.lookupswitch d ps, len)) (hp : (ps.toList.zip (ps.toList.drop 1)).all (fun (a, next) => a.1 < next.1) = true) (ho : Op.lookupswitch.offset ps.toList d x.toInt = o) (ht : (pc : Int) + o = (tgt : Int)) (h : G E R k Z ca sl tgt lv st M) : G E R k Z ca sl pc lv (vI x :: st) M :=
  fun p l e s m args below meth c H locs ls C hw hy hS hl => lv_lookup C.1 C.2.1 hd hp ho ht (h p l e s m args below meth c H locs ls C hw hy hS hl)
theorem g_ldc {idx : Nat} {v : Int32} (hd : decode k.2.1 pc = .ok (.ldc idx, 2)) (hc : Jvm.Cond.constant k.1.cls idx v ∈ TB) (h : G E R k Z ca sl (pc + 2) lv (vI v :: st) M) : G E R k Z ca sl pc lv st M :=
  fun p l e s m args below meth c H locs ls C hw hy hS hl => lv_ldc C.1 C.2.1 C.2.2.2.2.2.1 (C.2.2.2.2.2.2.1 _ hc) hd (h p l e s m args below meth c H locs ls C hw hy hS hl)
theorem g_ldcw {idx : Nat} {v : Int32} (hd : decode k.2.1 pc = .ok (.ldc_w idx, 3)) (hc : Jvm.Cond.constant k.1.cls idx v ∈ TB) (h : G E R k Z ca sl (pc + 3) lv (vI v :: st) M) : G E R k Z ca sl pc lv st M :=
  fun p l e s m args below meth c H locs ls C hw hy hS hl => lv_ldcw C.1 C.2.1 C.2.2.2.2.2.1 (C.2.2.2.2.2.2.1 _ hc) hd (h p l e s m args below meth c H locs ls C hw hy hS hl)
theorem g_ldc2 {idx : Nat} {v : Int64} (hd : decode k.2.1 pc = .ok (.ldc2_w idx, 3)) (hc : Jvm.Cond.constantLong k.1.cls idx v ∈ TB) (h : G E R k Z ca sl (pc + 3) lv (vL v :: st) M) : G E R k Z ca sl pc lv st M :=
  fun p l e s m args below meth c H locs ls C hw hy hS hl => lv_ldc2 C.1 C.2.1 C.2.2.2.2.2.1 (C.2.2.2.2.2.2.1 _ hc) hd (h p l e s m args below meth c H locs ls C hw hy hS hl)
end RG
end
section
/-! FIELDS, ARRAYS, STATICS -/
theorem fw_ok0 : ∀ w ∈ u_ws RX0 TX0 5, w ∈ lw_tbl ∧ goodWord w = true := by decide +kernel
theorem fw_ok1 : ∀ w ∈ u_ws RX1 TX1 4, w ∈ lw_tbl ∧ goodWord w = true := by decide +kernel
theorem fw_ok2 : ∀ w ∈ u_ws RX2 TX2 10, w ∈ lw_tbl ∧ goodWord w = true := by decide +kernel
theorem fw_ok3 : ∀ w ∈ u_ws RX3 TX3 6, w ∈ lw_tbl ∧ goodWord w = true := by decide +kernel
theorem fw_ok4 : ∀ w ∈ u_ws RX4 TX4 9, w ∈ lw_tbl ∧ goodWord w = true := by decide +kernel
theorem fw_ok5 : ∀ w ∈ u_ws RX5 TX5 4, w ∈ lw_tbl ∧ goodWord w = true := by decide +kernel
theorem fw_ok6 : ∀ w ∈ u_ws RX6 TX6 11, w ∈ lw_tbl ∧ goodWord w = true := by decide +kernel
theorem fw_ok7 : ∀ w ∈ u_ws RX7 TX7 50, w ∈ lw_tbl ∧ goodWord w = true := by decide +kernel
def ClsOk (c : Nat) (q : vw_C) : Prop := (∀ k, k < q.2.2 → parseFieldDescriptor (q.2.1 k).2.2.1 = some (tyOf c k)) ∧ (∀ a, a < q.2.2 → ∀ b, b < q.2.2 → a ≠ b → (q.2.1 a).2.1 ≠ (q.2.1 b).2.1) ∧ q.2.2 = nfl c ∧ ∀ w ∈ u_ws q.1 q.2.1 q.2.2, w ∈ TB
theorem cls_ok {c : Nat} {q : vw_C} (h : classes[c]? = some q) : ClsOk c q := by
  match c, h with
  | 0, h => cases h; exact ⟨tyX0_ok, nmX0, rfl, fun w hw => List.mem_filter.mpr (fw_ok0 w hw)⟩
  | 1, h => cases h; exact ⟨tyX1_ok, nmX1, rfl, fun w hw => List.mem_filter.mpr (fw_ok1 w hw)⟩
  | 2, h => cases h; exact ⟨tyX2_ok, nmX2, rfl, fun w hw => List.mem_filter.mpr (fw_ok2 w hw)⟩
  | 3, h => cases h; exact ⟨tyX3_ok, nmX3, rfl, fun w hw => List.mem_filter.mpr (fw_ok3 w hw)⟩
  | 4, h => cases h; exact ⟨tyX4_ok, nmX4, rfl, fun w hw => List.mem_filter.mpr (fw_ok4 w hw)⟩
  | 5, h => cases h; exact ⟨tyX5_ok, nmX5, rfl, fun w hw => List.mem_filter.mpr (fw_ok5 w hw)⟩
  | 6, h => cases h; exact ⟨tyX6_ok, nmX6, rfl, fun w hw => List.mem_filter.mpr (fw_ok6 w hw)⟩
  | 7, h => cases h; exact ⟨tyX7_ok, nmX7, rfl, fun w hw => List.mem_filter.mpr (fw_ok7 w hw)⟩
  | n + 8, h => simp [classes] at h
/-- a field, by the index of the pool of a class -/
def FL (cls : String) (c fk idx : Nat) (fin : Bool) : Prop := ∃ q : vw_C, classes[c]? = some q ∧ fk < q.2.2 ∧ (q.2.1 fk).1 = q.1 ∧ (q.2.1 fk).2.2.2 = fin ∧ Cond.fieldLink cls idx q.1 (q.2.1 fk).2.1 (q.2.1 fk).2.2.1 ∈ TB
/-- an object of the world -/
theorem Wdy.ob {E : Ev} {M : Mem} {H : Heap} {a : Id} {c : Nat} (h : Wdy E M H) (hs : shp a = (0, c)) (ha : vld a = true) (hn : off a < mN M) : t_OB (ad E a) ((eD E).1 c) (nfl c) ((eD E).2 c) H (fval E M c a) := by
  have := h.2 a ha hn
  unfold cellAt at this
  rw [hs] at this
  exact this
theorem Wdy.ar1 {E : Ev} {M : Mem} {H : Heap} {a : Id} {n : Nat} (h : Wdy E M H) (hs : shp a = (1, n)) (ha : vld a = true) (hn : off a < mN M) : H[ad E a]? = some (arrV (eA E 0) n fun j => .int (mI M a j)) := by
  have := h.2 a ha hn
  unfold cellAt at this
  rw [hs] at this
  exact this
theorem Wdy.ar2 {E : Ev} {M : Mem} {H : Heap} {a : Id} {n : Nat} (h : Wdy E M H) (hs : shp a = (2, n)) (ha : vld a = true) (hn : off a < mN M) : H[ad E a]? = some (arrV (eA E 1) n fun j => .long (mJ M a j)) := by
  have := h.2 a ha hn
  unfold cellAt at this
  rw [hs] at this
  exact this
theorem Wdy.ar3 {E : Ev} {M : Mem} {H : Heap} {a : Id} {n : Nat} (h : Wdy E M H) (hs : shp a = (3, n)) (ha : vld a = true) (hn : off a < mN M) : H[ad E a]? = some (arrV (eA E 2) n fun j => orf E (mR M a j)) := by
  have := h.2 a ha hn
  unfold cellAt at this
  rw [hs] at this
  exact this
theorem Wdy.ar4 {E : Ev} {M : Mem} {H : Heap} {a : Id} {n : Nat} (h : Wdy E M H) (hs : shp a = (4, n)) (ha : vld a = true) (hn : off a < mN M) : H[ad E a]? = some (arrV (eA E 3) n fun j => orf E (mR M a j)) := by
  have := h.2 a ha hn
  unfold cellAt at this
  rw [hs] at this
  exact this
/-- an index that is a number below n -/
theorem ix_in {i : Int32} {j n : Nat} (hi : i = nI j) (hj : j < n) (hn : n < 2 ^ 31) : vp_in i n ∧ i.toNatClampNeg = j := by
  subst hi
  exact ⟨vp_in_nI hj hn, nI_clamp (by omega)⟩
theorem eZ_ad {E : Ev} {a : Id} : eZ E (ad E a) := Nat.le_add_right _ _
section RM
variable {E : Ev} {R : Room} {k : MK} {Z : ZT} {ca sl pc : Nat} {lv : List (Option AV)} {st : List AV} {M : Mem}
theorem g_getf {a : Id} {c fk idx : Nat} {fin : Bool} {v : AV} (hd : decode k.2.1 pc = .ok (.getfield idx, 3)) (hf : FL k.1.cls c fk idx fin) (hs : shp a = (0, c)) (ha : vld a = true) (hn : off a < mN M) (hv : fval E M c a fk = cv E v)
    (h : G E R k Z ca sl (pc + 3) lv (v :: st) M) : G E R k Z ca sl pc lv (vR a :: st) M := by
  intro p l e s m args below meth c0 H locs ls C hw hy hS hl
  obtain ⟨q, hc, hk, hC, -, hlink⟩ := hf
  obtain ⟨-, -, hN, hin⟩ := cls_ok hc
  have hts := C.2.2.2.2.2.2.1
  obtain ⟨cell, q1, q2, q3, q4⟩ := hy.ob hs ha hn
  obtain ⟨hSl, hfc, kC, hkC, hkind⟩ := hw.1 c _ hc
  obtain ⟨cf, kf, fi, f, hi, hsl⟩ := hSl fk hk
  rw [hC] at hi
  refine W.getf C.1 C.2.1 C.2.2.2.2.2.1 (hts _ hlink) hi (u_facts hfc hkC (u_lays hts hin hk) (by rw [hC]; exact hi)).1 q1 (by rw [q3]; exact fun h => by cases h) (v := cv E v) ?_ rfl rfl hd (h p l e s m args below meth c0 H locs ls C hw hy hS hl)
  rw [hsl, q4 fk (by rw [← hN]; exact hk), hv]
theorem g_getI {a : Id} {c fk idx : Nat} {fin : Bool} (hd : decode k.2.1 pc = .ok (.getfield idx, 3)) (hf : FL k.1.cls c fk idx fin) (hs : shp a = (0, c)) (ha : vld a = true) (hn : off a < mN M) (ht : fval E M c a fk = .int (mI M a fk))
    (h : G E R k Z ca sl (pc + 3) lv (vI (mI M a fk) :: st) M) : G E R k Z ca sl pc lv (vR a :: st) M := g_getf (v := vI (mI M a fk)) hd hf hs ha hn ht h
theorem g_getR {a b : Id} {c fk idx : Nat} {fin : Bool} (hd : decode k.2.1 pc = .ok (.getfield idx, 3)) (hf : FL k.1.cls c fk idx fin) (hs : shp a = (0, c)) (ha : vld a = true) (hn : off a < mN M) (hr : mR M a fk = some b) (ht : fval E M c a fk = orf E (mR M a fk))
    (h : G E R k Z ca sl (pc + 3) lv (vR b :: st) M) : G E R k Z ca sl pc lv (vR a :: st) M := g_getf (v := vR b) hd hf hs ha hn (by rw [ht, hr]; rfl) h
theorem g_putf {a : Id} {c fk idx : Nat} {v : AV} {M' : Mem} (hd : decode k.2.1 pc = .ok (.putfield idx, 3)) (hf : FL k.1.cls c fk idx false) (hs : shp a = (0, c)) (ha : vld a = true) (hn : off a < mN M)
    (hnar : narrow (tyOf c fk) (cv E v) = cv E v) (hfit : fits (tyOf c fk) (cv E v) = true) (hM : mN M' = mN M) (hk : ∀ b : Id, b ≠ a → mI M' b = mI M b ∧ mJ M' b = mJ M b ∧ mR M' b = mR M b) (hV : ∀ j, fval E M' c a j = if j = fk then cv E v else fval E M c a j)
    (h : G E R k Z ca sl (pc + 3) lv st M') : G E R k Z ca sl pc lv (v :: vR a :: st) M := by
  intro p l e s m args below meth c0 H locs ls C hw hy hS hl
  obtain ⟨q, hc, hkk, hC, hfin, hlink⟩ := hf
  obtain ⟨hty, hnm, hN, hin⟩ := cls_ok hc
  have hts := C.2.2.2.2.2.2.1
  have hK : va_K (eD E) classes [] s := ⟨hw.1, fun k q h => by simp at h⟩
  have hap := va_apart (own := k.1.cls) hts hin (tyOf c) hty hnm hK hc
  obtain ⟨cell, q1, q2, q3, q4⟩ := hy.ob hs ha hn
  rw [← hN] at q4
  obtain ⟨hSl, hfc, kC, hkC, hkind⟩ := hw.1 c _ hc
  obtain ⟨cf, kf, fi, f, hi, hsl⟩ := hSl fk hkk
  have hlay := hts _ (hin _ (u_in_lay hkk))
  unfold u_lay at hlay
  rw [if_neg (by rw [hfin]; decide)] at hlay
  have hst := (u_facts hfc hkC (u_lays hts hin hkk) hi).1
  have h6 := u_store hfc hkC hkind hlay hi (hty fk hkk) hnar hfit
  rw [hC] at hi
  refine W.putK C.1 C.2.1 (f := f) ⟨C.2.2.2.2.2.1, hts _ hlink, ⟨_, _, _, hi⟩, hst⟩ (by rw [q2]; exact h6) q1 q3 (by rw [hsl]; exact k2_hasslot (q4 fk hkk)) rfl rfl hd fun H' e1 e2 e3 => ?_
  rw [hsl] at e1 ⊢
  refine h p l e s m args below meth c0 H' _ ls C hw (hy.set ha hM e2 e3 ?_ hk) (hS.put e2 e3 eZ_ad) hl
  unfold cellAt
  rw [hs]
  exact t_OB.to (V := updV (fval E M c a) fk (cv E v)) ⟨_, e1, q2, q3, by rw [← hN]; exact t_set q4 hap hkk _⟩ (fun j _ => by rw [hV]; rfl)
theorem sI_hk {M : Mem} {a : Id} {k : Nat} {x : Int32} : ∀ b : Id, b ≠ a → mI (sI M a k x) b = mI M b ∧ mJ (sI M a k x) b = mJ M b ∧ mR (sI M a k x) b = mR M b := fun b hb => ⟨by funext j; simp [mI, sI, hb], rfl, rfl⟩
theorem sJ_hk {M : Mem} {a : Id} {k : Nat} {x : Int64} : ∀ b : Id, b ≠ a → mI (sJ M a k x) b = mI M b ∧ mJ (sJ M a k x) b = mJ M b ∧ mR (sJ M a k x) b = mR M b := fun b hb => ⟨rfl, by funext j; simp [mJ, sJ, hb], rfl⟩
theorem sR_hk {M : Mem} {a : Id} {k : Nat} {x : Option Id} : ∀ b : Id, b ≠ a → mI (sR M a k x) b = mI M b ∧ mJ (sR M a k x) b = mJ M b ∧ mR (sR M a k x) b = mR M b := fun b hb => ⟨rfl, rfl, by funext j; simp [mR, sR, hb]⟩
/-- of a field's type: 0 int, 1 boolean, 2 reference -/
def tk (c fk : Nat) : Nat := match tyOf c fk with
  | .int => 0
  | .boolean => 1
  | _ => 2
theorem fval_sI {E : Ev} {M : Mem} {c : Nat} {a : Id} {fk : Nat} {x : Int32} (h : tyOf c fk = .int ∨ tyOf c fk = .boolean) (j : Nat) : fval E (sI M a fk x) c a j = if j = fk then .int x else fval E M c a j := by
  by_cases hj : j = fk
  · subst hj
    rw [if_pos rfl]
    rcases h with h | h <;> simp [fval, h, mI, sI]
  · rw [if_neg hj]
    simp [fval, mI, mR, sI, hj]
theorem g_putI {a : Id} {c fk idx : Nat} {x : Int32} (hd : decode k.2.1 pc = .ok (.putfield idx, 3)) (hf : FL k.1.cls c fk idx false) (hs : shp a = (0, c)) (ha : vld a = true) (hn : off a < mN M) (ht : tyOf c fk = .int)
    (h : G E R k Z ca sl (pc + 3) lv st (sI M a fk x)) : G E R k Z ca sl pc lv (vI x :: vR a :: st) M :=
  g_putf (M' := sI M a fk x) hd hf hs ha hn (by rw [ht]; rfl) (by rw [ht]; rfl) rfl sI_hk (fun j => fval_sI (Or.inl ht) j) h
theorem nar_z {x : Int32} (h : x = 0 ∨ x = 1) : narrow .boolean (.int x) = .int x ∧ fits .boolean (.int x) = true := by
  rcases h with rfl | rfl <;> exact ⟨by decide +kernel, by decide +kernel⟩
theorem g_putZ {a : Id} {c fk idx : Nat} {x : Int32} (hd : decode k.2.1 pc = .ok (.putfield idx, 3)) (hf : FL k.1.cls c fk idx false) (hs : shp a = (0, c)) (ha : vld a = true) (hn : off a < mN M) (ht : tyOf c fk = .boolean) (hx : x = 0 ∨ x = 1)
    (h : G E R k Z ca sl (pc + 3) lv st (sI M a fk x)) : G E R k Z ca sl pc lv (vI x :: vR a :: st) M :=
  g_putf (M' := sI M a fk x) hd hf hs ha hn (by rw [ht]; exact (nar_z hx).1) (by rw [ht]; exact (nar_z hx).2) rfl sI_hk (fun j => fval_sI (Or.inr ht) j) h
/-! arrays -/
theorem g_iald {a : Id} {n j : Nat} {i : Int32} (hd : decode k.2.1 pc = .ok (.iaload, 1)) (hs : shp a = (1, n)) (ha : vld a = true) (hn : off a < mN M) (hi : i = nI j) (hj : j < n) (hn2 : n < 2 ^ 31)
    (h : G E R k Z ca sl (pc + 1) lv (vI (mI M a j) :: st) M) : G E R k Z ca sl pc lv (vI i :: vR a :: st) M := by
  intro p l e s m args below meth c0 H locs ls C hw hy hS hl
  obtain ⟨h1, h2⟩ := ix_in hi hj hn2
  exact W.iald (v := .int (mI M a j)) C.1 C.2.1 (hy.ar1 hs ha hn) (hw.2.1.1.1 n _) (fun q => by cases q) (by rw [arrV_size]; exact h1) (by rw [h2, arrV_read _ _ hj]) rfl rfl hd (h p l e s m args below meth c0 H locs ls C hw hy hS hl)
theorem g_lald {a : Id} {n j : Nat} {i : Int32} (hd : decode k.2.1 pc = .ok (.laload, 1)) (hs : shp a = (2, n)) (ha : vld a = true) (hn : off a < mN M) (hi : i = nI j) (hj : j < n) (hn2 : n < 2 ^ 31)
    (h : G E R k Z ca sl (pc + 1) lv (vL (mJ M a j) :: st) M) : G E R k Z ca sl pc lv (vI i :: vR a :: st) M := by
  intro p l e s m args below meth c0 H locs ls C hw hy hS hl
  obtain ⟨h1, h2⟩ := ix_in hi hj hn2
  exact W.lald (v := .long (mJ M a j)) C.1 C.2.1 (hy.ar2 hs ha hn) (hw.2.1.2.1.1 n _) (fun q => by cases q) (by rw [arrV_size]; exact h1) (by rw [h2, arrV_read _ _ hj]) rfl rfl hd (h p l e s m args below meth c0 H locs ls C hw hy hS hl)
theorem g_aald3 {a b : Id} {n j : Nat} {i : Int32} (hd : decode k.2.1 pc = .ok (.aaload, 1)) (hs : shp a = (3, n)) (ha : vld a = true) (hn : off a < mN M) (hi : i = nI j) (hj : j < n) (hn2 : n < 2 ^ 31) (hr : mR M a j = some b)
    (h : G E R k Z ca sl (pc + 1) lv (vR b :: st) M) : G E R k Z ca sl pc lv (vI i :: vR a :: st) M := by
  intro p l e s m args below meth c0 H locs ls C hw hy hS hl
  obtain ⟨h1, h2⟩ := ix_in hi hj hn2
  exact W.aald (v := .ref (ad E b)) (ty := .object RX2) C.1 C.2.1 (hy.ar3 hs ha hn) (hw.2.1.2.2.1.1 n _) rfl (fun q => by cases q) (by rw [arrV_size]; exact h1) (by rw [h2, arrV_read _ _ hj, hr]; rfl) rfl rfl hd (h p l e s m args below meth c0 H locs ls C hw hy hS hl)
theorem g_aald4 {a b : Id} {n j : Nat} {i : Int32} (hd : decode k.2.1 pc = .ok (.aaload, 1)) (hs : shp a = (4, n)) (ha : vld a = true) (hn : off a < mN M) (hi : i = nI j) (hj : j < n) (hn2 : n < 2 ^ 31) (hr : mR M a j = some b)
    (h : G E R k Z ca sl (pc + 1) lv (vR b :: st) M) : G E R k Z ca sl pc lv (vI i :: vR a :: st) M := by
  intro p l e s m args below meth c0 H locs ls C hw hy hS hl
  obtain ⟨h1, h2⟩ := ix_in hi hj hn2
  exact W.aald (v := .ref (ad E b)) (ty := .object RX5) C.1 C.2.1 (hy.ar4 hs ha hn) (hw.2.1.2.2.2.1 n _) rfl (fun q => by cases q) (by rw [arrV_size]; exact h1) (by rw [h2, arrV_read _ _ hj, hr]; rfl) rfl rfl hd (h p l e s m args below meth c0 H locs ls C hw hy hS hl)
theorem g_alen {a : Id} {t n : Nat} (hd : decode k.2.1 pc = .ok (.arraylength, 1)) (hs : shp a = (t, n)) (ht : t = 1 ∨ t = 2 ∨ t = 3 ∨ t = 4) (ha : vld a = true) (hn : off a < mN M)
    (h : G E R k Z ca sl (pc + 1) lv (vI (nI n) :: st) M) : G E R k Z ca sl pc lv (vR a :: st) M := by
  intro p l e s m args below meth c0 H locs ls C hw hy hS hl
  have hk := h p l e s m args below meth c0 H locs ls C hw hy hS hl
  rcases ht with rfl | rfl | rfl | rfl
  · exact W.alen C.1 C.2.1 (hy.ar1 hs ha hn) (hw.2.1.1.1 n _) (by rw [arrV_size]; rfl) rfl rfl hd hk
  · exact W.alen C.1 C.2.1 (hy.ar2 hs ha hn) (hw.2.1.2.1.1 n _) (by rw [arrV_size]; rfl) rfl rfl hd hk
  · exact W.alen C.1 C.2.1 (hy.ar3 hs ha hn) (hw.2.1.2.2.1.1 n _) (by rw [arrV_size]; rfl) rfl rfl hd hk
  · exact W.alen C.1 C.2.1 (hy.ar4 hs ha hn) (hw.2.1.2.2.2.1 n _) (by rw [arrV_size]; rfl) rfl rfl hd hk
theorem g_iast {a : Id} {n j : Nat} {i x : Int32} (hd : decode k.2.1 pc = .ok (.iastore, 1)) (hs : shp a = (1, n)) (ha : vld a = true) (hn : off a < mN M) (hi : i = nI j) (hj : j < n) (hn2 : n < 2 ^ 31)
    (h : G E R k Z ca sl (pc + 1) lv st (sI M a j x)) : G E R k Z ca sl pc lv (vI x :: vI i :: vR a :: st) M := by
  intro p l e s m args below meth c0 H locs ls C hw hy hS hl
  obtain ⟨h1, h2⟩ := ix_in hi hj hn2
  refine W.iast C.1 C.2.1 (hy.ar1 hs ha hn) (hw.2.1.1.1 n _) (fun q => by cases q) (by rw [arrV_size]; exact h1) rfl rfl hd fun H1 e1 z oq => ?_
  refine h p l e s m args below meth c0 H1 _ ls C hw (hy.set ha rfl z oq ?_ sI_hk) (hS.put z oq eZ_ad) hl
  unfold cellAt
  rw [hs]
  show H1[_]? = _
  rw [e1, h2, arrV_store]
  congr 2
  funext q
  by_cases hq : q = j
  · subst hq; simp [updV, mI, sI]
  · simp [updV, mI, sI, hq]
theorem g_last {a : Id} {n j : Nat} {i : Int32} {x : Int64} (hd : decode k.2.1 pc = .ok (.lastore, 1)) (hs : shp a = (2, n)) (ha : vld a = true) (hn : off a < mN M) (hi : i = nI j) (hj : j < n) (hn2 : n < 2 ^ 31)
    (h : G E R k Z ca sl (pc + 1) lv st (sJ M a j x)) : G E R k Z ca sl pc lv (vL x :: vI i :: vR a :: st) M := by
  intro p l e s m args below meth c0 H locs ls C hw hy hS hl
  obtain ⟨h1, h2⟩ := ix_in hi hj hn2
  refine W.last C.1 C.2.1 (hy.ar2 hs ha hn) (hw.2.1.2.1.1 n _) (fun q => by cases q) (by rw [arrV_size]; exact h1) rfl rfl hd fun H1 e1 z oq => ?_
  refine h p l e s m args below meth c0 H1 _ ls C hw (hy.set ha rfl z oq ?_ sJ_hk) (hS.put z oq eZ_ad) hl
  unfold cellAt
  rw [hs]
  show H1[_]? = _
  rw [e1, h2, arrV_store]
  congr 2
  funext q
  by_cases hq : q = j
  · subst hq; simp [updV, mJ, sJ]
  · simp [updV, mJ, sJ, hq]
end RM
end
section
/-! STATICS, RETURNS, CALLS -/
def psh : Option AV → List AV → List AV
  | none, st => st
  | some v, st => v :: st
def vcat (v : AV) : Nat := if nl (some v) then 1 else 2
theorem cv_vcat {E : Ev} {v : AV} : (cv E v).category = vcat v := by
  rcases v with x | x | x | x | x <;> rfl
theorem psh_map {E : Ev} {r : Option AV} {st : List AV} : (psh r st).map (cv E) = (r.map (cv E)).toList ++ st.map (cv E) := by cases r <;> rfl
/-- a method's own facts in the tables -/
def MF (k : MK) (n : Nat) : Prop := Cond.code k.1 k.2.1 k.2.2.1 k.2.2.2 ∈ TB ∧ Cond.initialized k.1.cls ∈ TB ∧ plainName k.1.cls = true ∧ (k.1.cls ≠ "java/lang/invoke/MethodHandle" ∧ k.1.cls ≠ "java/lang/invoke/VarHandle" ∧ (parseMethodDescriptor k.1.desc).map (fun d => d.parameters.length) = some n)
def MV (k : MK) (n : Nat) : Prop := MF k n ∧ Cond.instanceMethod k.1 ∈ TB ∧ Cond.selects k.1.cls k.1 k.1 ∈ TB
def MS (k : MK) (n : Nat) : Prop := MF k n ∧ Cond.static k.1 ∈ TB
def MI (k : MK) (n : Nat) : Prop := MF k n ∧ Cond.instanceMethod k.1 ∈ TB ∧ k.1.name = "<init>"
theorem ws_good {k : MK} {n : Nat} (h : MF k n) : GoodIn TB (ws_ k) := by
  intro w hw
  have hm : w ∈ TB := by
    rcases List.mem_cons.mp hw with rfl | hw
    · exact h.1
    · exact hw
  exact ⟨hm, TB_good hm⟩
theorem blind {E : Ev} {as : List Value} {M : Mem} : FrameBlind (va_Pc as (fun U => Wst E U U.heap ∧ Wdy E M U.heap)) := fun a U g mk h => ⟨h.1, Wst.same (u := U) (U := U.calling g mk a) rfl h.2.1, h.2.2⟩
theorem pre_at {E : Ev} {s : State} {H : Heap} {locs : List Loc} {M : Mem} (hw : Wst E s s.heap) (hy : Wdy E M H) (hS : va_S (eZ E) s.heap H locs) {U : State} (hU : U.heap = H) (hW : s.WarmedH U.vm) : Wst E U U.heap ∧ Wdy E M U.heap := by
  rw [hU]
  exact ⟨(hw.kept hS.1 hS.2.1).moved hW, hy⟩
section RC
variable {E : Ev} {R : Room} {k : MK} {Z : ZT} {ca sl pc : Nat} {lv : List (Option AV)} {st : List AV} {M : Mem}
/-- behind a call -/
theorem g_back {p : Program} {l : Launch} {e : Env} {s : State} {m : MethodId} {args : Array Value} {below : List Frame} {meth : Method} {c : Code} {H : Heap} {locs : List Loc} {ls : Array Slot} {mc ms : Nat} {st0 : List Value} {a : Array Value}
    (hr : va_Run p l e R s m args below meth c H locs ca sl mc ms (F0 m pc ls st0) (st.map (cv E)) (QC E (fun r M' => G E R k Z (ca + mc) (sl + ms) (pc + 3) lv (psh r st) M') a) (eZ E))
    (C : Cx p s m args meth c k) (hw : Wst E s s.heap) (hS : va_S (eZ E) s.heap H locs) (hl : hasL E ls k.2.2.1 lv) : W p l e R s m args below meth c H locs ca sl (Z below args s) (F0 m pc ls st0) := by
  intro T hT X
  obtain ⟨v, st₀, t, T', L, h0, X', hL, e1, e2, ⟨⟨r, M', ho, hG, hy'⟩, hF⟩, hgo⟩ := hr T hT X
  have hv : v = r.map (cv E) := Outcome.returned.inj ho
  have hS' : va_S (eZ E) s.heap t.heap (locs ++ L) := by
    refine ⟨Nat.le_trans hS.1 (by rw [← h0]; exact hF.1), fun q h1 h2 => ?_, fun q hq => ?_⟩
    · rw [hF.2 q (by rw [h0]; exact Nat.lt_of_lt_of_le h1 hS.1) h2, h0]
      exact hS.2.1 q h1 h2
    · rcases List.mem_append.mp hq with h | h
      · exact hS.2.2 q h
      · exact hL q h
  have hk := hG p l e s m args below meth c t.heap (locs ++ L) ls C hw hy' hS' hl
  rw [psh_map, ← hv] at hk
  obtain ⟨t2, a1, b1⟩ := hk T' e1 X'
  exact ⟨t2, hgo t2 a1, b1⟩
theorem cat_sum {E : Ev} {st : List AV} (h : (st.map vcat).sum ≤ 8) : 2 * (0 : Nat) + ((st.map (cv E)).map fun v => v.category).sum ≤ 8 := by
  have : (st.map (cv E)).map (fun v => v.category) = st.map vcat := by rw [List.map_map]; congr 1; funext v; exact cv_vcat
  rw [this]; omega
theorem g_invV {kk : MK} {n n' idx mc ms c : Nat} {a : Id} {q : vw_C} (as : List AV) (hd : decode k.2.1 pc = .ok (.invokevirtual idx, 3)) (mf : MV kk n) (hl0 : Cond.methodLink k.1.cls idx kk.1 ∈ TB) (hs : shp a = (0, c)) (ha : vld a = true) (hn : off a < mN M) (hc : classes[c]? = some q) (hq : q.1 = kk.1.cls) (hlen : as.length = n)
    (hR : n' + 1 ≤ R.frames ∧ 8 + (kk.2.2.1 + 11) + 44 * n' ≤ R.locals) (hf : ca + mc ≤ R.cells ∧ sl + ms ≤ R.slots) (hW : (st.map vcat).sum ≤ 8)
    (hM : Mth E n' mc ms kk (vR a :: as) M (fun r M' => G E R k Z (ca + mc) (sl + ms) (pc + 3) lv (psh r st) M')) : G E R k Z ca sl pc lv (as.reverse ++ vR a :: st) M := by
  intro p l e s m args below meth c0 H locs ls C hw hy hS hl
  have hts := C.2.2.2.2.2.2.1
  obtain ⟨⟨mf1, mf2, mf3, mf4⟩, mi, msl⟩ := mf
  obtain ⟨cell, q1, q2, q3, q4⟩ := hy.ob hs ha hn
  have hcl := (hw.1 c _ hc).2.1
  have hB : CallB R s args k.1.cls idx kk.1 kk.2.1 kk.2.2.1 kk.2.2.2 (ws_ kk) (rm n' mc ms) mc ms n := callB_of n hts (ws_good ⟨mf1, mf2, mf3, mf4⟩) rfl rfl rfl (hts _ mf2) (hts _ hl0) mf4 hR
  refine g_back (va_runV (C := kk.1.cls) (As := as.map (cv E)) (b := ad E a) (rest := st.map (cv E)) (nL := k.2.2.1) (g := F0 m pc ls ((as.reverse ++ vR a :: st).map (cv E))) ⟨C.1, C.2.1, C.2.2.1, C.2.2.2.2.2.1, hts⟩ (hM l) ⟨hB, hts _ mi, hts _ msl⟩ ⟨blind, ⟨cell, q1, by rw [q3]; rfl, by rw [← hq, q2]; exact hcl⟩, fun U hU hWU => ⟨rfl, pre_at hw hy hS hU hWU⟩⟩ rfl (by simpa using hlen) (hl.2.1) (by simp [cv]) (cat_sum hW) hd hf) C hw hS hl
theorem g_invS {kk : MK} {n n' idx mc ms : Nat} (as : List AV) (hd : decode k.2.1 pc = .ok (.invokestatic idx, 3)) (mf : MS kk n) (hl0 : Cond.methodLink k.1.cls idx kk.1 ∈ TB) (hlen : as.length = n)
    (hR : n' + 1 ≤ R.frames ∧ 8 + (kk.2.2.1 + 11) + 44 * n' ≤ R.locals) (hf : ca + mc ≤ R.cells ∧ sl + ms ≤ R.slots) (hW : (st.map vcat).sum ≤ 8)
    (hM : Mth E n' mc ms kk as M (fun r M' => G E R k Z (ca + mc) (sl + ms) (pc + 3) lv (psh r st) M')) : G E R k Z ca sl pc lv (as.reverse ++ st) M := by
  intro p l e s m args below meth c0 H locs ls C hw hy hS hl
  have hts := C.2.2.2.2.2.2.1
  obtain ⟨⟨mf1, mf2, mf3, mf4⟩, mst⟩ := mf
  have hB : CallB R s args k.1.cls idx kk.1 kk.2.1 kk.2.2.1 kk.2.2.2 (ws_ kk) (rm n' mc ms) mc ms n := callB_of n hts (ws_good ⟨mf1, mf2, mf3, mf4⟩) rfl rfl rfl (hts _ mf2) (hts _ hl0) mf4 hR
  refine g_back (va_runS (As := as.map (cv E)) (rest := st.map (cv E)) (nL := k.2.2.1) (g := F0 m pc ls ((as.reverse ++ st).map (cv E))) ⟨C.1, C.2.1, C.2.2.1, C.2.2.2.2.2.1, hts⟩ (hM l) ⟨hB, hts _ mst⟩ ⟨blind, fun U hU hWU => ⟨rfl, pre_at hw hy hS hU hWU⟩⟩ rfl (by simpa using hlen) (hl.2.1) (by simp) (cat_sum hW) hd hf) C hw hS hl
theorem g_invSN {kk : MK} {n n' idx mc ms : Nat} {host : String} (as : List AV) (hd : decode k.2.1 pc = .ok (.invokestatic idx, 3)) (mf : MS kk n) (hl0 : (k.1.cls, idx, kk.1, host) ∈ NBm) (hlen : as.length = n)
    (hR : n' + 1 ≤ R.frames ∧ 8 + (kk.2.2.1 + 11) + 44 * n' ≤ R.locals) (hf : ca + mc ≤ R.cells ∧ sl + ms ≤ R.slots) (hW : (st.map vcat).sum ≤ 8)
    (hM : Mth E n' mc ms kk as M (fun r M' => G E R k Z (ca + mc) (sl + ms) (pc + 3) lv (psh r st) M')) : G E R k Z ca sl pc lv (as.reverse ++ st) M := by
  intro p l e s m args below meth c0 H locs ls C hw hy hS hl
  have hts := C.2.2.2.2.2.2.1
  obtain ⟨⟨mf1, mf2, mf3, mf4⟩, mst⟩ := mf
  refine g_back (va_runSN (host := host) (As := as.map (cv E)) (rest := st.map (cv E)) (nL := k.2.2.1) (g := F0 m pc ls ((as.reverse ++ st).map (cv E))) ⟨C.1, C.2.1, C.2.2.1, C.2.2.2.2.2.1, hts⟩ (hM l) ⟨va_cnB n hts (ws_good ⟨mf1, mf2, mf3, mf4⟩) rfl rfl rfl (hw.2.2.1.2 _ hl0) (hts _ mf2) mf4 hR, hts _ mst, trivial⟩ ⟨blind, fun U hU hWU => ⟨rfl, pre_at hw hy hS hU hWU⟩⟩ rfl (by simpa using hlen) (hl.2.1) (by simp) (cat_sum hW) hd hf) C hw hS hl
theorem g_invI {kk : MK} {n n' idx mc ms : Nat} {a : Id} (as : List AV) (hd : decode k.2.1 pc = .ok (.invokespecial idx, 3)) (mf : MI kk n) (hret : kk.2.2.2 = none) (hl0 : Cond.methodLink k.1.cls idx kk.1 ∈ TB) (hlen : as.length = n)
    (hR : n' + 1 ≤ R.frames ∧ 8 + (kk.2.2.1 + 11) + 44 * n' ≤ R.locals) (hf : ca + mc ≤ R.cells ∧ sl + ms ≤ R.slots) (hW : (st.map vcat).sum ≤ 8)
    (hM : Mth E n' mc ms kk (vR a :: as) M (fun r M' => G E R k Z (ca + mc) (sl + ms) (pc + 3) lv (psh r st) M')) : G E R k Z ca sl pc lv (as.reverse ++ vR a :: st) M := by
  intro p l e s m args below meth c0 H locs ls C hw hy hS hl
  have hts := C.2.2.2.2.2.2.1
  obtain ⟨⟨mf1, mf2, mf3, mf4⟩, mi, mn⟩ := mf
  obtain ⟨y, b, mx, rt⟩ := kk
  cases hret
  have hB : CallB R s args k.1.cls idx y b mx none (ws_ (y, b, mx, none)) (rm n' mc ms) mc ms n := callB_of n hts (ws_good ⟨mf1, mf2, mf3, mf4⟩) rfl rfl rfl (hts _ mf2) (hts _ hl0) mf4 hR
  refine g_back (va_runI (As := as.map (cv E)) (b := ad E a) (rest := st.map (cv E)) (nL := k.2.2.1) (g := F0 m pc ls ((as.reverse ++ vR a :: st).map (cv E))) ⟨C.1, C.2.1, C.2.2.1, C.2.2.2.2.2.1, hts⟩ (hM l) ⟨hB, mn, hts _ mi⟩ ⟨blind, fun U hU hWU => ⟨rfl, pre_at hw hy hS hU hWU⟩⟩ rfl (by simpa using hlen) (hl.2.1) (by simp [cv]) (cat_sum hW) hd hf) C hw hS hl
theorem g_invIN {kk : MK} {n n' idx mc ms : Nat} {a : Id} {host : String} (as : List AV) (hd : decode k.2.1 pc = .ok (.invokespecial idx, 3)) (mf : MI kk n) (hret : kk.2.2.2 = none) (hl0 : (k.1.cls, idx, kk.1, host) ∈ NBm) (hlen : as.length = n)
    (hR : n' + 1 ≤ R.frames ∧ 8 + (kk.2.2.1 + 11) + 44 * n' ≤ R.locals) (hf : ca + mc ≤ R.cells ∧ sl + ms ≤ R.slots) (hW : (st.map vcat).sum ≤ 8)
    (hM : Mth E n' mc ms kk (vR a :: as) M (fun r M' => G E R k Z (ca + mc) (sl + ms) (pc + 3) lv (psh r st) M')) : G E R k Z ca sl pc lv (as.reverse ++ vR a :: st) M := by
  intro p l e s m args below meth c0 H locs ls C hw hy hS hl
  have hts := C.2.2.2.2.2.2.1
  obtain ⟨⟨mf1, mf2, mf3, mf4⟩, mi, mn⟩ := mf
  obtain ⟨y, b, mx, rt⟩ := kk
  cases hret
  refine g_back (va_runIN (host := host) (As := as.map (cv E)) (b := ad E a) (rest := st.map (cv E)) (nL := k.2.2.1) (g := F0 m pc ls ((as.reverse ++ vR a :: st).map (cv E))) ⟨C.1, C.2.1, C.2.2.1, C.2.2.2.2.2.1, hts⟩ (hM l) ⟨va_cnB n hts (ws_good (k := (y, b, mx, none)) ⟨mf1, mf2, mf3, mf4⟩) rfl rfl rfl (hw.2.2.1.2 _ hl0) (hts _ mf2) mf4 hR, mn, hts _ mi⟩ ⟨blind, fun U hU hWU => ⟨rfl, pre_at hw hy hS hU hWU⟩⟩ rfl (by simpa using hlen) (hl.2.1) (by simp [cv]) (cat_sum hW) hd hf) C hw hS hl
theorem g_gets {t idx : Nat} (hd : decode k.2.1 pc = .ok (.getstatic idx, 3)) (ht : t < 4) (hl0 : Cond.fieldLink k.1.cls idx (roC t) (roF t) "[I" ∈ TB) (h : G E R k Z ca sl (pc + 3) lv (vS t :: st) M) : G E R k Z ca sl pc lv st M :=
  fun p l e s m args below meth c H locs ls C hw hy hS hl => va_gets C.1 C.2.1 (hw.2.2.2.1 t ht).1 hS C.2.2.2.2.2.1 (C.2.2.2.2.2.2.1 _ hl0) (fun _ q => q) hd (h p l e s m args below meth c H locs ls C hw hy hS hl)
theorem g_getsN {t idx : Nat} {host : String} (hd : decode k.2.1 pc = .ok (.getstatic idx, 3)) (ht : t < 4) (hl0 : (k.1.cls, idx, roC t, roF t, "[I", host) ∈ NBf) (h : G E R k Z ca sl (pc + 3) lv (vS t :: st) M) : G E R k Z ca sl pc lv st M :=
  fun p l e s m args below meth c H locs ls C hw hy hS hl => va_getsN C.1 C.2.1 (hw.2.2.2.1 t ht).1 hS C.2.2.2.2.2.1 (va_Nw.use rfl (hw.2.2.1.1 _ hl0)) (fun _ q => q) hd (h p l e s m args below meth c H locs ls C hw hy hS hl)
theorem g_ialdS {t j : Nat} {i : Int32} (hd : decode k.2.1 pc = .ok (.iaload, 1)) (ht : t < 4) (hi : i = nI j) (hj : j < (roV t).length) (h : G E R k Z ca sl (pc + 1) lv (vI ((roV t).getD j 0) :: st) M) : G E R k Z ca sl pc lv (vI i :: vS t :: st) M := by
  intro p l e s m args below meth c H locs ls C hw hy hS hl
  have hb : ∀ t, t < 4 → (roV t).length < 2 ^ 31 := by decide +kernel
  obtain ⟨h1, h2⟩ := ix_in hi hj (hb t ht)
  exact va_ti C.1 C.2.1 (hw.2.2.2.1 t ht).2 hS h1 (v := .int ((roV t).getD j 0)) (by rw [h2]) hd (h p l e s m args below meth c H locs ls C hw hy hS hl)
theorem g_alenS {t : Nat} (hd : decode k.2.1 pc = .ok (.arraylength, 1)) (ht : t < 4) (h : G E R k Z ca sl (pc + 1) lv (vI (nI (roV t).length) :: st) M) : G E R k Z ca sl pc lv (vS t :: st) M := by
  intro p l e s m args below meth c H locs ls C hw hy hS hl
  obtain ⟨cell, z1, z2, z3, z4, z5, z6, z7⟩ := (hw.2.2.2.1 t ht).2
  exact W.alen C.1 C.2.1 (by rw [hS.2.1 _ (Array.getElem?_eq_some_iff.mp z1).1 z7]; exact z1) z2 z5 rfl rfl hd (h p l e s m args below meth c H locs ls C hw hy hS hl)
theorem g_ialdX {j : Nat} {i : Int32} (hd : decode k.2.1 pc = .ok (.iaload, 1)) (hi : i = nI j) (hj : j < eL E) (hL : eL E < 2 ^ 31) (h : G E R k Z ca sl (pc + 1) lv (vI (eX E j) :: st) M) : G E R k Z ca sl pc lv (vI i :: vS 4 :: st) M := by
  intro p l e s m args below meth c H locs ls C hw hy hS hl
  obtain ⟨h1, h2⟩ := ix_in hi hj hL
  have hk := h p l e s m args below meth c H locs ls C hw hy hS hl
  rw [← h2] at hk
  exact va_sld C.1 C.2.1 hw.2.2.2.2.1 hw.2.2.2.2.2.1 hw.2.2.2.2.2.2 hS h1 hd hk
theorem g_alenX (hd : decode k.2.1 pc = .ok (.arraylength, 1)) (h : G E R k Z ca sl (pc + 1) lv (vI (nI (eL E)) :: st) M) : G E R k Z ca sl pc lv (vS 4 :: st) M :=
  fun p l e s m args below meth c H locs ls C hw hy hS hl => va_slen C.1 C.2.1 hw.2.2.2.2.1 hw.2.2.2.2.2.1 hw.2.2.2.2.2.2 hS hd (h p l e s m args below meth c H locs ls C hw hy hS hl)
/-! returns -/
variable {Q : QT}
theorem qc_ret {args : Array Value} {s t : State} {H : Heap} {locs : List Loc} {r : Option AV} (hQ : Q r M) (hy : Wdy E M H) (hS : va_S (eZ E) s.heap H locs) (ht : t.heap = H) : QC E Q args s (.returned (r.map (cv E))) t := ⟨⟨r, M, rfl, hQ, by rw [ht]; exact hy⟩, hS.F ht⟩
theorem g_iret {x : Int32} (hd : decode k.2.1 pc = .ok (.ireturn, 1)) (hr : k.2.2.2 = some .int) (h : Q (some (vI x)) M) : G E R k (ZQ E Q ca sl) ca sl pc lv [vI x] M :=
  fun p l e s m args below meth c H locs ls C hw hy hS hl => W.iret (v := x) C.1 C.2.1 (C.2.2.2.1.trans hr) (fun t ht hW => qc_ret (r := some (vI x)) h hy hS ht) hS.2.2 hd C.2.2.2.2.1
theorem g_zret {x : Int32} (hd : decode k.2.1 pc = .ok (.ireturn, 1)) (hr : k.2.2.2 = some .boolean) (hx : x = 0 ∨ x = 1) (h : Q (some (vI x)) M) : G E R k (ZQ E Q ca sl) ca sl pc lv [vI x] M :=
  fun p l e s m args below meth c H locs ls C hw hy hS hl => W.zret (v := x) C.1 C.2.1 (C.2.2.2.1.trans hr) (nar_z hx).1 (fun t ht hW => qc_ret (r := some (vI x)) h hy hS ht) hS.2.2 hd C.2.2.2.2.1
theorem g_lret {x : Int64} (hd : decode k.2.1 pc = .ok (.lreturn, 1)) (hr : k.2.2.2 = some .long) (h : Q (some (vL x)) M) : G E R k (ZQ E Q ca sl) ca sl pc lv [vL x] M :=
  fun p l e s m args below meth c H locs ls C hw hy hS hl => W.lret (v := x) C.1 C.2.1 (C.2.2.2.1.trans hr) (fun t ht hW => qc_ret (r := some (vL x)) h hy hS ht) hS.2.2 hd C.2.2.2.2.1
theorem g_vret (hd : decode k.2.1 pc = .ok (.return_, 1)) (hr : k.2.2.2 = none) (h : Q none M) : G E R k (ZQ E Q ca sl) ca sl pc lv [] M :=
  fun p l e s m args below meth c H locs ls C hw hy hS hl => W.vret C.1 C.2.1 (C.2.2.2.1.trans hr) (fun t ht hW => qc_ret (r := none) h hy hS ht) hS.2.2 hd C.2.2.2.2.1
theorem g_aret {a : Id} {n : String} (hd : decode k.2.1 pc = .ok (.areturn, 1)) (hr : k.2.2.2 = some (.object n)) (h : Q (some (vR a)) M) : G E R k (ZQ E Q ca sl) ca sl pc lv [vR a] M :=
  fun p l e s m args below meth c H locs ls C hw hy hS hl => W.aret (v := .ref (ad E a)) C.1 C.2.1 (C.2.2.2.1.trans hr) (Or.inl ⟨n, rfl⟩) (Or.inr ⟨_, rfl⟩) (fun t ht hW => qc_ret (r := some (vR a)) h hy hS ht) hS.2.2 hd C.2.2.2.2.1
theorem g_aretS {a : Nat} {n : String} (hd : decode k.2.1 pc = .ok (.areturn, 1)) (hr : k.2.2.2 = some (.object n)) (h : Q (some (vS a)) M) : G E R k (ZQ E Q ca sl) ca sl pc lv [vS a] M :=
  fun p l e s m args below meth c H locs ls C hw hy hS hl => W.aret (v := .ref (eR E a)) C.1 C.2.1 (C.2.2.2.1.trans hr) (Or.inl ⟨n, rfl⟩) (Or.inr ⟨_, rfl⟩) (fun t ht hW => qc_ret (r := some (vS a)) h hy hS ht) hS.2.2 hd C.2.2.2.2.1
/-! a method's contract out of the walk of its body -/
def avs : List AV → List (Option AV)
  | [] => []
  | .inr (.inl x) :: r => some (vL x) :: none :: avs r
  | v :: r => some v :: avs r
end RC
end
section
/-! A METHOD'S CONTRACT OUT OF THE WALK OF ITS BODY -/
theorem lv_args_mono {E : Ev} : ∀ (as : List AV) (j i : Nat) (w : Value), (i, w) ∈ en E j (avs as) → (i, w) ∈ lv_args j (as.map (cv E)) := by
  intro as
  induction as with
  | nil => intro j i w h; cases h
  | cons v r ih =>
    intro j i w h
    rcases v with x | x | x | x | x
    · simp only [avs, en, List.mem_cons] at h
      rcases h with h | h
      · rw [h]; exact List.mem_cons_self
      · exact List.mem_cons_of_mem _ (ih (j + 1) i w h)
    · simp only [avs, en, List.mem_cons] at h
      rcases h with h | h
      · rw [h]; exact List.mem_cons_self
      · exact List.mem_cons_of_mem _ (ih (j + 2) i w h)
    · simp only [avs, en, List.mem_cons] at h
      rcases h with h | h
      · rw [h]; exact List.mem_cons_self
      · exact List.mem_cons_of_mem _ (ih (j + 1) i w h)
    · simp only [avs, en, List.mem_cons] at h
      rcases h with h | h
      · rw [h]; exact List.mem_cons_self
      · exact List.mem_cons_of_mem _ (ih (j + 1) i w h)
    · simp only [avs, en, List.mem_cons] at h
      rcases h with h | h
      · rw [h]; exact List.mem_cons_self
      · exact List.mem_cons_of_mem _ (ih (j + 1) i w h)
theorem en_app {E : Ev} : ∀ (a b : List (Option AV)) (j : Nat), en E j (a ++ b) = en E j a ++ en E (j + a.length) b := by
  intro a
  induction a with
  | nil => intro b j; rfl
  | cons v r ih =>
    intro b j
    cases v with
    | none => simp only [List.cons_append, en, ih, List.length_cons]; rw [Nat.add_assoc, Nat.add_comm 1]
    | some v => simp only [List.cons_append, en, ih, List.length_cons]; rw [Nat.add_assoc, Nat.add_comm 1]
theorem en_rep {E : Ev} : ∀ (n j : Nat), en E j (List.replicate n none) = [] := by
  intro n
  induction n with
  | zero => intro j; rfl
  | succ n ih => intro j; simp only [List.replicate_succ, en, ih]
theorem sl_cons (v : Value) (r : List Value) : lg_sl (v :: r) = (if v.category = 2 then [.val v, .second] else [.val v]) ++ lg_sl r := by rw [lg_sl, List.flatMap_cons]; rfl
theorem sl_len {E : Ev} : ∀ (as : List AV), (lg_sl (as.map (cv E))).length = (avs as).length := by
  intro as
  induction as with
  | nil => rfl
  | cons v r ih =>
    rw [List.map_cons, sl_cons, List.length_append, ih]
    rcases v with x | x | x | x | x
    · rw [if_neg (by rw [cv_vcat]; exact (by decide : ¬ (1 : Nat) = 2))]; simp [avs]; omega
    · rw [if_pos (by rw [cv_vcat]; rfl)]; simp [avs]; omega
    · rw [if_neg (by rw [cv_vcat]; exact (by decide : ¬ (1 : Nat) = 2))]; simp [avs]; omega
    · rw [if_neg (by rw [cv_vcat]; exact (by decide : ¬ (1 : Nat) = 2))]; simp [avs]; omega
    · rw [if_neg (by rw [cv_vcat]; exact (by decide : ¬ (1 : Nat) = 2))]; simp [avs]; omega
theorem mth_of {E : Ev} {n mc ms : Nat} {k : MK} {as : List AV} {M : Mem} {Q : QT} (hp : plainName k.1.cls = true) (lv : List (Option AV)) (hlen : (avs as).length ≤ k.2.2.1) (hlv : avs as ++ List.replicate (k.2.2.1 - (avs as).length) none = lv)
    (hG : G E (rm n mc ms) k (ZQ E Q mc ms) 0 0 0 lv [] M) : Mth E n mc ms k as M Q := by
  intro l
  refine Met.ofW (cc := k.2.1) (maxL := k.2.2.1) (ret := k.2.2.2) hp rfl ?_
  intro p e s m args below meth c s₁ B hml hv
  obtain ⟨rfl, hw, hy⟩ := hv
  have hts0 := atoms_spec (ws := ws_ k) B.pre
  have hlen' : (lg_sl (as.map (cv E))).length ≤ k.2.2.1 := by rw [sl_len]; exact hlen
  have hl := lv_entry (as.map (cv E)) hlen'
  rw [lg_entry_eq]
  generalize (lg_sl (as.map (cv E)) ++ List.replicate (k.2.2.1 - (lg_sl (as.map (cv E))).length) Slot.unset).toArray = ls at hl ⊢
  refine hG p l e s m _ below meth c s.heap [] ls ⟨B.exec, B.bytes, hml, B.returns, B.notSynchronized, findClass_of_methodNamed B.named, fun w hw => hts0 w (List.mem_cons_of_mem _ hw), (name_of_methodNamed B.named B.method).1⟩ hw hy va_S.rf ?_
  subst hlv
  refine ⟨by simp; omega, hl.1, hl.2.1, ?_⟩
  rintro ⟨i, w⟩ hq
  rw [en_app, en_rep, List.append_nil] at hq
  exact hl.2.2 _ (lv_args_mono as 0 i w hq)
theorem Mth.mono {E : Ev} {n mc ms : Nat} {k : MK} {as : List AV} {M : Mem} {Q Q' : QT} (h : Mth E n mc ms k as M Q) (hQ : ∀ r M', Q r M' → Q' r M') : Mth E n mc ms k as M Q' := by
  intro l p e h1 h2 h3 s m args below h4 h5 h6 h7
  obtain ⟨t, o, a1, a2, a3, ⟨⟨r, M', b1, b2, b3⟩, b4⟩, a5⟩ := h l p e h1 h2 h3 s m args below h4 h5 h6 h7
  exact ⟨t, o, a1, a2, a3, ⟨⟨r, M', b1, hQ _ _ b2, b3⟩, b4⟩, a5⟩
end
section
/-! THE WIRING: once all is made, references stand still -/
def wire : Id → Nat → Option Id
  | (0, _, _), 0 => some (1, 0, 0)
  | (0, _, _), 1 => some (1, 1, 0)
  | (0, _, _), 2 => some (1, 2, 0)
  | (0, _, _), 4 => some (4, 0, 0)
  | (0, _, _), 5 => some (7, 0, 0)
  | (0, _, _), 6 => some (5, 8, 0)
  | (0, _, _), 7 => some (8, 0, 0)
  | (0, _, _), 8 => some (10, 0, 0)
  | (0, _, _), 9 => some (12, 0, 0)
  | (1, k, _), 0 => some (3, k, 0)
  | (1, k, _), 1 => some (2, k, 10)
  | (3, k, _), j => if j < 10 then some (2, k, j) else none
  | (5, s, _), 3 => some (6, s, 0)
  | (7, _, _), j => if j < 8 then some (5, j, 0) else none
  | (8, _, _), 0 => some (1, 3, 0)
  | (8, _, _), 2 => some (9, 0, 0)
  | (10, _, _), 1 => some (11, 0, 0)
  | (20, _, _), k => if k < 8 then none else if k < 28 then some (21, k - 8, 0) else if k = 33 then some (21, 20, 0) else if k = 34 then some (21, 21, 0) else if k = 35 then some (21, 22, 0) else if k = 46 then some (21, 23, 0) else if k = 47 then some (21, 24, 0) else none
  | _, _ => none
def Wi2 (X : (Id → Nat → Option Id) × Nat) : Prop := X.2 = 104 ∧ ∀ (a : Id) (k : Nat) (b : Id), vld a = true → wire a k = some b → X.1 a k = some b
def Wi (M : Mem) : Prop := Wi2 M.2.2
theorem Wi.lt {M : Mem} (h : Wi M) {a : Id} (ha : vld a = true) : off a < mN M := by
  show off a < M.2.2.2
  rw [h.1, ← idTable_length]
  simp only [vld, beq_iff_eq] at ha
  exact (List.getElem?_eq_some_iff.mp ha).1
theorem Wi.r {M : Mem} (h : Wi M) {a b : Id} {k : Nat} (ha : vld a = true) (hw : wire a k = some b) : mR M a k = some b := h.2 a k b ha hw
theorem vld_x0 : vld (0, 0, 0) = true := by decide +kernel
theorem vld_x4 : vld (4, 0, 0) = true := by decide +kernel
theorem vld_x7 : vld (7, 0, 0) = true := by decide +kernel
theorem vld_x8 : vld (8, 0, 0) = true := by decide +kernel
theorem vld_x9 : vld (9, 0, 0) = true := by decide +kernel
theorem vld_x10 : vld (10, 0, 0) = true := by decide +kernel
theorem vld_x11 : vld (11, 0, 0) = true := by decide +kernel
theorem vld_x12 : vld (12, 0, 0) = true := by decide +kernel
theorem vld_x20 : vld (20, 0, 0) = true := by decide +kernel
theorem vld_ma {j : Nat} (hj : j < 25) : vld (21, j, 0) = true := by
  have : ∀ j, j < 25 → vld (21, j, 0) = true := by decide +kernel
  exact this j hj
section RK
variable {E : Ev} {R : Room} {k : MK} {Z : ZT} {ca sl pc : Nat} {lv : List (Option AV)} {st : List AV} {M : Mem}
/-! rules once all is made -/
theorem n_getI {a : Id} {c fk idx : Nat} {fin : Bool} (hd : decode k.2.1 pc = .ok (.getfield idx, 3)) (hf : FL k.1.cls c fk idx fin) (hs : shp a = (0, c)) (hW : Wi M) (ha : vld a = true) (ht : tyOf c fk = .int ∨ tyOf c fk = .boolean)
    (h : G E R k Z ca sl (pc + 3) lv (vI (mI M a fk) :: st) M) : G E R k Z ca sl pc lv (vR a :: st) M := g_getI hd hf hs ha (hW.lt ha) (by rcases ht with ht | ht <;> simp [fval, ht]) h
theorem n_getR {a b : Id} {c fk idx : Nat} {fin : Bool} (hd : decode k.2.1 pc = .ok (.getfield idx, 3)) (hf : FL k.1.cls c fk idx fin) (hs : shp a = (0, c)) (hW : Wi M) (ha : vld a = true) (hw : wire a fk = some b) (ht : tk c fk = 2)
    (h : G E R k Z ca sl (pc + 3) lv (vR b :: st) M) : G E R k Z ca sl pc lv (vR a :: st) M := g_getR hd hf hs ha (hW.lt ha) (hW.r ha hw) (by revert ht; simp only [tk, fval]; cases tyOf c fk <;> simp) h
theorem n_putI {a : Id} {c fk idx : Nat} {x : Int32} (hd : decode k.2.1 pc = .ok (.putfield idx, 3)) (hf : FL k.1.cls c fk idx false) (hs : shp a = (0, c)) (hW : Wi M) (ha : vld a = true) (ht : tyOf c fk = .int)
    (h : G E R k Z ca sl (pc + 3) lv st (sI M a fk x)) : G E R k Z ca sl pc lv (vI x :: vR a :: st) M := g_putI hd hf hs ha (hW.lt ha) ht h
theorem n_putZ {a : Id} {c fk idx : Nat} {x : Int32} (hd : decode k.2.1 pc = .ok (.putfield idx, 3)) (hf : FL k.1.cls c fk idx false) (hs : shp a = (0, c)) (hW : Wi M) (ha : vld a = true) (ht : tyOf c fk = .boolean) (hx : x = 0 ∨ x = 1)
    (h : G E R k Z ca sl (pc + 3) lv st (sI M a fk x)) : G E R k Z ca sl pc lv (vI x :: vR a :: st) M := g_putZ hd hf hs ha (hW.lt ha) ht hx h
theorem n_iald {a : Id} {n j : Nat} {i : Int32} (hd : decode k.2.1 pc = .ok (.iaload, 1)) (hs : shp a = (1, n)) (hW : Wi M) (ha : vld a = true) (hn2 : n < 2 ^ 31) (hi : i = nI j) (hj : j < n)
    (h : G E R k Z ca sl (pc + 1) lv (vI (mI M a j) :: st) M) : G E R k Z ca sl pc lv (vI i :: vR a :: st) M := g_iald hd hs ha (hW.lt ha) hi hj hn2 h
theorem n_lald {a : Id} {n j : Nat} {i : Int32} (hd : decode k.2.1 pc = .ok (.laload, 1)) (hs : shp a = (2, n)) (hW : Wi M) (ha : vld a = true) (hn2 : n < 2 ^ 31) (hi : i = nI j) (hj : j < n)
    (h : G E R k Z ca sl (pc + 1) lv (vL (mJ M a j) :: st) M) : G E R k Z ca sl pc lv (vI i :: vR a :: st) M := g_lald hd hs ha (hW.lt ha) hi hj hn2 h
theorem n_aald3 {a b : Id} {n j : Nat} {i : Int32} (hd : decode k.2.1 pc = .ok (.aaload, 1)) (hs : shp a = (3, n)) (hW : Wi M) (ha : vld a = true) (hn2 : n < 2 ^ 31) (hi : i = nI j) (hj : j < n) (hw : wire a j = some b)
    (h : G E R k Z ca sl (pc + 1) lv (vR b :: st) M) : G E R k Z ca sl pc lv (vI i :: vR a :: st) M := g_aald3 hd hs ha (hW.lt ha) hi hj hn2 (hW.r ha hw) h
theorem n_aald4 {a b : Id} {n j : Nat} {i : Int32} (hd : decode k.2.1 pc = .ok (.aaload, 1)) (hs : shp a = (4, n)) (hW : Wi M) (ha : vld a = true) (hn2 : n < 2 ^ 31) (hi : i = nI j) (hj : j < n) (hw : wire a j = some b)
    (h : G E R k Z ca sl (pc + 1) lv (vR b :: st) M) : G E R k Z ca sl pc lv (vI i :: vR a :: st) M := g_aald4 hd hs ha (hW.lt ha) hi hj hn2 (hW.r ha hw) h
theorem n_alen {a : Id} {t n : Nat} (hd : decode k.2.1 pc = .ok (.arraylength, 1)) (hs : shp a = (t, n)) (ht : t = 1 ∨ t = 2 ∨ t = 3 ∨ t = 4) (hW : Wi M) (ha : vld a = true)
    (h : G E R k Z ca sl (pc + 1) lv (vI (nI n) :: st) M) : G E R k Z ca sl pc lv (vR a :: st) M := g_alen hd hs ht ha (hW.lt ha) h
theorem n_iast {a : Id} {n j : Nat} {i x : Int32} (hd : decode k.2.1 pc = .ok (.iastore, 1)) (hs : shp a = (1, n)) (hW : Wi M) (ha : vld a = true) (hn2 : n < 2 ^ 31) (hi : i = nI j) (hj : j < n)
    (h : G E R k Z ca sl (pc + 1) lv st (sI M a j x)) : G E R k Z ca sl pc lv (vI x :: vI i :: vR a :: st) M := g_iast hd hs ha (hW.lt ha) hi hj hn2 h
theorem n_last {a : Id} {n j : Nat} {i : Int32} {x : Int64} (hd : decode k.2.1 pc = .ok (.lastore, 1)) (hs : shp a = (2, n)) (hW : Wi M) (ha : vld a = true) (hn2 : n < 2 ^ 31) (hi : i = nI j) (hj : j < n)
    (h : G E R k Z ca sl (pc + 1) lv st (sJ M a j x)) : G E R k Z ca sl pc lv (vL x :: vI i :: vR a :: st) M := g_last hd hs ha (hW.lt ha) hi hj hn2 h
theorem n_v0i {kk : MK} {n' idx c : Nat} {a : Id} {q : vw_C} (hd : decode k.2.1 pc = .ok (.invokevirtual idx, 3)) (mf : MV kk 0) (hl0 : Cond.methodLink k.1.cls idx kk.1 ∈ TB) (hs : shp a = (0, c)) (hW : Wi M) (ha : vld a = true) (hc : classes[c]? = some q) (hq : q.1 = kk.1.cls) (hR : n' + 1 ≤ R.frames ∧ 8 + (kk.2.2.1 + 11) + 44 * n' ≤ R.locals) (hf : ca ≤ R.cells ∧ sl ≤ R.slots) (hC : (st.map vcat).sum ≤ 8) (hM : Mth E n' 0 0 kk [vR a] M (fun r M' => ∃ x, r = some (vI x) ∧ G E R k Z ca sl (pc + 3) lv (vI x :: st) M')) : G E R k Z ca sl pc lv (vR a :: st) M :=
  g_invV [] hd mf hl0 hs ha (hW.lt ha) hc hq rfl hR hf hC (hM.mono (fun r M' hr => by obtain ⟨x, hx, hg⟩ := hr; subst hx; exact hg))
theorem n_s0i {kk : MK} {n' idx : Nat} (hd : decode k.2.1 pc = .ok (.invokestatic idx, 3)) (mf : MS kk 0) (hl0 : Cond.methodLink k.1.cls idx kk.1 ∈ TB) (hR : n' + 1 ≤ R.frames ∧ 8 + (kk.2.2.1 + 11) + 44 * n' ≤ R.locals) (hf : ca ≤ R.cells ∧ sl ≤ R.slots) (hC : (st.map vcat).sum ≤ 8) (hM : Mth E n' 0 0 kk [] M (fun r M' => ∃ x, r = some (vI x) ∧ G E R k Z ca sl (pc + 3) lv (vI x :: st) M')) : G E R k Z ca sl pc lv (st) M :=
  g_invS [] hd mf hl0 rfl hR hf hC (hM.mono (fun r M' hr => by obtain ⟨x, hx, hg⟩ := hr; subst hx; exact hg))
theorem n_n0i {kk : MK} {n' idx : Nat} {host : String} (hd : decode k.2.1 pc = .ok (.invokestatic idx, 3)) (mf : MS kk 0) (hl0 : (k.1.cls, idx, kk.1, host) ∈ NBm) (hR : n' + 1 ≤ R.frames ∧ 8 + (kk.2.2.1 + 11) + 44 * n' ≤ R.locals) (hf : ca ≤ R.cells ∧ sl ≤ R.slots) (hC : (st.map vcat).sum ≤ 8) (hM : Mth E n' 0 0 kk [] M (fun r M' => ∃ x, r = some (vI x) ∧ G E R k Z ca sl (pc + 3) lv (vI x :: st) M')) : G E R k Z ca sl pc lv (st) M :=
  g_invSN [] hd mf hl0 rfl hR hf hC (hM.mono (fun r M' hr => by obtain ⟨x, hx, hg⟩ := hr; subst hx; exact hg))
theorem n_v0l {kk : MK} {n' idx c : Nat} {a : Id} {q : vw_C} (hd : decode k.2.1 pc = .ok (.invokevirtual idx, 3)) (mf : MV kk 0) (hl0 : Cond.methodLink k.1.cls idx kk.1 ∈ TB) (hs : shp a = (0, c)) (hW : Wi M) (ha : vld a = true) (hc : classes[c]? = some q) (hq : q.1 = kk.1.cls) (hR : n' + 1 ≤ R.frames ∧ 8 + (kk.2.2.1 + 11) + 44 * n' ≤ R.locals) (hf : ca ≤ R.cells ∧ sl ≤ R.slots) (hC : (st.map vcat).sum ≤ 8) (hM : Mth E n' 0 0 kk [vR a] M (fun r M' => ∃ x, r = some (vL x) ∧ G E R k Z ca sl (pc + 3) lv (vL x :: st) M')) : G E R k Z ca sl pc lv (vR a :: st) M :=
  g_invV [] hd mf hl0 hs ha (hW.lt ha) hc hq rfl hR hf hC (hM.mono (fun r M' hr => by obtain ⟨x, hx, hg⟩ := hr; subst hx; exact hg))
theorem n_s0l {kk : MK} {n' idx : Nat} (hd : decode k.2.1 pc = .ok (.invokestatic idx, 3)) (mf : MS kk 0) (hl0 : Cond.methodLink k.1.cls idx kk.1 ∈ TB) (hR : n' + 1 ≤ R.frames ∧ 8 + (kk.2.2.1 + 11) + 44 * n' ≤ R.locals) (hf : ca ≤ R.cells ∧ sl ≤ R.slots) (hC : (st.map vcat).sum ≤ 8) (hM : Mth E n' 0 0 kk [] M (fun r M' => ∃ x, r = some (vL x) ∧ G E R k Z ca sl (pc + 3) lv (vL x :: st) M')) : G E R k Z ca sl pc lv (st) M :=
  g_invS [] hd mf hl0 rfl hR hf hC (hM.mono (fun r M' hr => by obtain ⟨x, hx, hg⟩ := hr; subst hx; exact hg))
theorem n_v0r {kk : MK} {n' idx c : Nat} {a : Id} {q : vw_C} (hd : decode k.2.1 pc = .ok (.invokevirtual idx, 3)) (mf : MV kk 0) (hl0 : Cond.methodLink k.1.cls idx kk.1 ∈ TB) (hs : shp a = (0, c)) (hW : Wi M) (ha : vld a = true) (hc : classes[c]? = some q) (hq : q.1 = kk.1.cls) (hR : n' + 1 ≤ R.frames ∧ 8 + (kk.2.2.1 + 11) + 44 * n' ≤ R.locals) (hf : ca ≤ R.cells ∧ sl ≤ R.slots) (hC : (st.map vcat).sum ≤ 8) (hM : Mth E n' 0 0 kk [vR a] M (fun r M' => ∃ x, r = some (vR x) ∧ G E R k Z ca sl (pc + 3) lv (vR x :: st) M')) : G E R k Z ca sl pc lv (vR a :: st) M :=
  g_invV [] hd mf hl0 hs ha (hW.lt ha) hc hq rfl hR hf hC (hM.mono (fun r M' hr => by obtain ⟨x, hx, hg⟩ := hr; subst hx; exact hg))
theorem n_s0r {kk : MK} {n' idx : Nat} (hd : decode k.2.1 pc = .ok (.invokestatic idx, 3)) (mf : MS kk 0) (hl0 : Cond.methodLink k.1.cls idx kk.1 ∈ TB) (hR : n' + 1 ≤ R.frames ∧ 8 + (kk.2.2.1 + 11) + 44 * n' ≤ R.locals) (hf : ca ≤ R.cells ∧ sl ≤ R.slots) (hC : (st.map vcat).sum ≤ 8) (hM : Mth E n' 0 0 kk [] M (fun r M' => ∃ x, r = some (vR x) ∧ G E R k Z ca sl (pc + 3) lv (vR x :: st) M')) : G E R k Z ca sl pc lv (st) M :=
  g_invS [] hd mf hl0 rfl hR hf hC (hM.mono (fun r M' hr => by obtain ⟨x, hx, hg⟩ := hr; subst hx; exact hg))
theorem n_v0s {kk : MK} {n' idx c : Nat} {a : Id} {q : vw_C} (hd : decode k.2.1 pc = .ok (.invokevirtual idx, 3)) (mf : MV kk 0) (hl0 : Cond.methodLink k.1.cls idx kk.1 ∈ TB) (hs : shp a = (0, c)) (hW : Wi M) (ha : vld a = true) (hc : classes[c]? = some q) (hq : q.1 = kk.1.cls) (hR : n' + 1 ≤ R.frames ∧ 8 + (kk.2.2.1 + 11) + 44 * n' ≤ R.locals) (hf : ca ≤ R.cells ∧ sl ≤ R.slots) (hC : (st.map vcat).sum ≤ 8) (hM : Mth E n' 0 0 kk [vR a] M (fun r M' => ∃ x, r = some (vS x) ∧ G E R k Z ca sl (pc + 3) lv (vS x :: st) M')) : G E R k Z ca sl pc lv (vR a :: st) M :=
  g_invV [] hd mf hl0 hs ha (hW.lt ha) hc hq rfl hR hf hC (hM.mono (fun r M' hr => by obtain ⟨x, hx, hg⟩ := hr; subst hx; exact hg))
theorem n_s0s {kk : MK} {n' idx : Nat} (hd : decode k.2.1 pc = .ok (.invokestatic idx, 3)) (mf : MS kk 0) (hl0 : Cond.methodLink k.1.cls idx kk.1 ∈ TB) (hR : n' + 1 ≤ R.frames ∧ 8 + (kk.2.2.1 + 11) + 44 * n' ≤ R.locals) (hf : ca ≤ R.cells ∧ sl ≤ R.slots) (hC : (st.map vcat).sum ≤ 8) (hM : Mth E n' 0 0 kk [] M (fun r M' => ∃ x, r = some (vS x) ∧ G E R k Z ca sl (pc + 3) lv (vS x :: st) M')) : G E R k Z ca sl pc lv (st) M :=
  g_invS [] hd mf hl0 rfl hR hf hC (hM.mono (fun r M' hr => by obtain ⟨x, hx, hg⟩ := hr; subst hx; exact hg))
theorem n_v0v {kk : MK} {n' idx c : Nat} {a : Id} {q : vw_C} (hd : decode k.2.1 pc = .ok (.invokevirtual idx, 3)) (mf : MV kk 0) (hl0 : Cond.methodLink k.1.cls idx kk.1 ∈ TB) (hs : shp a = (0, c)) (hW : Wi M) (ha : vld a = true) (hc : classes[c]? = some q) (hq : q.1 = kk.1.cls) (hR : n' + 1 ≤ R.frames ∧ 8 + (kk.2.2.1 + 11) + 44 * n' ≤ R.locals) (hf : ca ≤ R.cells ∧ sl ≤ R.slots) (hC : (st.map vcat).sum ≤ 8) (hM : Mth E n' 0 0 kk [vR a] M (fun r M' => r = none ∧ G E R k Z ca sl (pc + 3) lv (st) M')) : G E R k Z ca sl pc lv (vR a :: st) M :=
  g_invV [] hd mf hl0 hs ha (hW.lt ha) hc hq rfl hR hf hC (hM.mono (fun r M' hr => by obtain ⟨hx, hg⟩ := hr; subst hx; exact hg))
theorem n_s0v {kk : MK} {n' idx : Nat} (hd : decode k.2.1 pc = .ok (.invokestatic idx, 3)) (mf : MS kk 0) (hl0 : Cond.methodLink k.1.cls idx kk.1 ∈ TB) (hR : n' + 1 ≤ R.frames ∧ 8 + (kk.2.2.1 + 11) + 44 * n' ≤ R.locals) (hf : ca ≤ R.cells ∧ sl ≤ R.slots) (hC : (st.map vcat).sum ≤ 8) (hM : Mth E n' 0 0 kk [] M (fun r M' => r = none ∧ G E R k Z ca sl (pc + 3) lv (st) M')) : G E R k Z ca sl pc lv (st) M :=
  g_invS [] hd mf hl0 rfl hR hf hC (hM.mono (fun r M' hr => by obtain ⟨hx, hg⟩ := hr; subst hx; exact hg))
theorem n_v1i {kk : MK} {n' idx c : Nat} {a : Id} {q : vw_C} {x1 : AV} (hd : decode k.2.1 pc = .ok (.invokevirtual idx, 3)) (mf : MV kk 1) (hl0 : Cond.methodLink k.1.cls idx kk.1 ∈ TB) (hs : shp a = (0, c)) (hW : Wi M) (ha : vld a = true) (hc : classes[c]? = some q) (hq : q.1 = kk.1.cls) (hR : n' + 1 ≤ R.frames ∧ 8 + (kk.2.2.1 + 11) + 44 * n' ≤ R.locals) (hf : ca ≤ R.cells ∧ sl ≤ R.slots) (hC : (st.map vcat).sum ≤ 8) (hM : Mth E n' 0 0 kk [vR a, x1] M (fun r M' => ∃ x, r = some (vI x) ∧ G E R k Z ca sl (pc + 3) lv (vI x :: st) M')) : G E R k Z ca sl pc lv (x1 :: vR a :: st) M :=
  g_invV [x1] hd mf hl0 hs ha (hW.lt ha) hc hq rfl hR hf hC (hM.mono (fun r M' hr => by obtain ⟨x, hx, hg⟩ := hr; subst hx; exact hg))
theorem n_s1i {kk : MK} {n' idx : Nat} {x1 : AV} (hd : decode k.2.1 pc = .ok (.invokestatic idx, 3)) (mf : MS kk 1) (hl0 : Cond.methodLink k.1.cls idx kk.1 ∈ TB) (hR : n' + 1 ≤ R.frames ∧ 8 + (kk.2.2.1 + 11) + 44 * n' ≤ R.locals) (hf : ca ≤ R.cells ∧ sl ≤ R.slots) (hC : (st.map vcat).sum ≤ 8) (hM : Mth E n' 0 0 kk [x1] M (fun r M' => ∃ x, r = some (vI x) ∧ G E R k Z ca sl (pc + 3) lv (vI x :: st) M')) : G E R k Z ca sl pc lv (x1 :: st) M :=
  g_invS [x1] hd mf hl0 rfl hR hf hC (hM.mono (fun r M' hr => by obtain ⟨x, hx, hg⟩ := hr; subst hx; exact hg))
theorem n_n1i {kk : MK} {n' idx : Nat} {host : String} {x1 : AV} (hd : decode k.2.1 pc = .ok (.invokestatic idx, 3)) (mf : MS kk 1) (hl0 : (k.1.cls, idx, kk.1, host) ∈ NBm) (hR : n' + 1 ≤ R.frames ∧ 8 + (kk.2.2.1 + 11) + 44 * n' ≤ R.locals) (hf : ca ≤ R.cells ∧ sl ≤ R.slots) (hC : (st.map vcat).sum ≤ 8) (hM : Mth E n' 0 0 kk [x1] M (fun r M' => ∃ x, r = some (vI x) ∧ G E R k Z ca sl (pc + 3) lv (vI x :: st) M')) : G E R k Z ca sl pc lv (x1 :: st) M :=
  g_invSN [x1] hd mf hl0 rfl hR hf hC (hM.mono (fun r M' hr => by obtain ⟨x, hx, hg⟩ := hr; subst hx; exact hg))
theorem n_v1l {kk : MK} {n' idx c : Nat} {a : Id} {q : vw_C} {x1 : AV} (hd : decode k.2.1 pc = .ok (.invokevirtual idx, 3)) (mf : MV kk 1) (hl0 : Cond.methodLink k.1.cls idx kk.1 ∈ TB) (hs : shp a = (0, c)) (hW : Wi M) (ha : vld a = true) (hc : classes[c]? = some q) (hq : q.1 = kk.1.cls) (hR : n' + 1 ≤ R.frames ∧ 8 + (kk.2.2.1 + 11) + 44 * n' ≤ R.locals) (hf : ca ≤ R.cells ∧ sl ≤ R.slots) (hC : (st.map vcat).sum ≤ 8) (hM : Mth E n' 0 0 kk [vR a, x1] M (fun r M' => ∃ x, r = some (vL x) ∧ G E R k Z ca sl (pc + 3) lv (vL x :: st) M')) : G E R k Z ca sl pc lv (x1 :: vR a :: st) M :=
  g_invV [x1] hd mf hl0 hs ha (hW.lt ha) hc hq rfl hR hf hC (hM.mono (fun r M' hr => by obtain ⟨x, hx, hg⟩ := hr; subst hx; exact hg))
theorem n_s1l {kk : MK} {n' idx : Nat} {x1 : AV} (hd : decode k.2.1 pc = .ok (.invokestatic idx, 3)) (mf : MS kk 1) (hl0 : Cond.methodLink k.1.cls idx kk.1 ∈ TB) (hR : n' + 1 ≤ R.frames ∧ 8 + (kk.2.2.1 + 11) + 44 * n' ≤ R.locals) (hf : ca ≤ R.cells ∧ sl ≤ R.slots) (hC : (st.map vcat).sum ≤ 8) (hM : Mth E n' 0 0 kk [x1] M (fun r M' => ∃ x, r = some (vL x) ∧ G E R k Z ca sl (pc + 3) lv (vL x :: st) M')) : G E R k Z ca sl pc lv (x1 :: st) M :=
  g_invS [x1] hd mf hl0 rfl hR hf hC (hM.mono (fun r M' hr => by obtain ⟨x, hx, hg⟩ := hr; subst hx; exact hg))
theorem n_v1r {kk : MK} {n' idx c : Nat} {a : Id} {q : vw_C} {x1 : AV} (hd : decode k.2.1 pc = .ok (.invokevirtual idx, 3)) (mf : MV kk 1) (hl0 : Cond.methodLink k.1.cls idx kk.1 ∈ TB) (hs : shp a = (0, c)) (hW : Wi M) (ha : vld a = true) (hc : classes[c]? = some q) (hq : q.1 = kk.1.cls) (hR : n' + 1 ≤ R.frames ∧ 8 + (kk.2.2.1 + 11) + 44 * n' ≤ R.locals) (hf : ca ≤ R.cells ∧ sl ≤ R.slots) (hC : (st.map vcat).sum ≤ 8) (hM : Mth E n' 0 0 kk [vR a, x1] M (fun r M' => ∃ x, r = some (vR x) ∧ G E R k Z ca sl (pc + 3) lv (vR x :: st) M')) : G E R k Z ca sl pc lv (x1 :: vR a :: st) M :=
  g_invV [x1] hd mf hl0 hs ha (hW.lt ha) hc hq rfl hR hf hC (hM.mono (fun r M' hr => by obtain ⟨x, hx, hg⟩ := hr; subst hx; exact hg))
theorem n_s1r {kk : MK} {n' idx : Nat} {x1 : AV} (hd : decode k.2.1 pc = .ok (.invokestatic idx, 3)) (mf : MS kk 1) (hl0 : Cond.methodLink k.1.cls idx kk.1 ∈ TB) (hR : n' + 1 ≤ R.frames ∧ 8 + (kk.2.2.1 + 11) + 44 * n' ≤ R.locals) (hf : ca ≤ R.cells ∧ sl ≤ R.slots) (hC : (st.map vcat).sum ≤ 8) (hM : Mth E n' 0 0 kk [x1] M (fun r M' => ∃ x, r = some (vR x) ∧ G E R k Z ca sl (pc + 3) lv (vR x :: st) M')) : G E R k Z ca sl pc lv (x1 :: st) M :=
  g_invS [x1] hd mf hl0 rfl hR hf hC (hM.mono (fun r M' hr => by obtain ⟨x, hx, hg⟩ := hr; subst hx; exact hg))
theorem n_v1s {kk : MK} {n' idx c : Nat} {a : Id} {q : vw_C} {x1 : AV} (hd : decode k.2.1 pc = .ok (.invokevirtual idx, 3)) (mf : MV kk 1) (hl0 : Cond.methodLink k.1.cls idx kk.1 ∈ TB) (hs : shp a = (0, c)) (hW : Wi M) (ha : vld a = true) (hc : classes[c]? = some q) (hq : q.1 = kk.1.cls) (hR : n' + 1 ≤ R.frames ∧ 8 + (kk.2.2.1 + 11) + 44 * n' ≤ R.locals) (hf : ca ≤ R.cells ∧ sl ≤ R.slots) (hC : (st.map vcat).sum ≤ 8) (hM : Mth E n' 0 0 kk [vR a, x1] M (fun r M' => ∃ x, r = some (vS x) ∧ G E R k Z ca sl (pc + 3) lv (vS x :: st) M')) : G E R k Z ca sl pc lv (x1 :: vR a :: st) M :=
  g_invV [x1] hd mf hl0 hs ha (hW.lt ha) hc hq rfl hR hf hC (hM.mono (fun r M' hr => by obtain ⟨x, hx, hg⟩ := hr; subst hx; exact hg))
theorem n_s1s {kk : MK} {n' idx : Nat} {x1 : AV} (hd : decode k.2.1 pc = .ok (.invokestatic idx, 3)) (mf : MS kk 1) (hl0 : Cond.methodLink k.1.cls idx kk.1 ∈ TB) (hR : n' + 1 ≤ R.frames ∧ 8 + (kk.2.2.1 + 11) + 44 * n' ≤ R.locals) (hf : ca ≤ R.cells ∧ sl ≤ R.slots) (hC : (st.map vcat).sum ≤ 8) (hM : Mth E n' 0 0 kk [x1] M (fun r M' => ∃ x, r = some (vS x) ∧ G E R k Z ca sl (pc + 3) lv (vS x :: st) M')) : G E R k Z ca sl pc lv (x1 :: st) M :=
  g_invS [x1] hd mf hl0 rfl hR hf hC (hM.mono (fun r M' hr => by obtain ⟨x, hx, hg⟩ := hr; subst hx; exact hg))
theorem n_v1v {kk : MK} {n' idx c : Nat} {a : Id} {q : vw_C} {x1 : AV} (hd : decode k.2.1 pc = .ok (.invokevirtual idx, 3)) (mf : MV kk 1) (hl0 : Cond.methodLink k.1.cls idx kk.1 ∈ TB) (hs : shp a = (0, c)) (hW : Wi M) (ha : vld a = true) (hc : classes[c]? = some q) (hq : q.1 = kk.1.cls) (hR : n' + 1 ≤ R.frames ∧ 8 + (kk.2.2.1 + 11) + 44 * n' ≤ R.locals) (hf : ca ≤ R.cells ∧ sl ≤ R.slots) (hC : (st.map vcat).sum ≤ 8) (hM : Mth E n' 0 0 kk [vR a, x1] M (fun r M' => r = none ∧ G E R k Z ca sl (pc + 3) lv (st) M')) : G E R k Z ca sl pc lv (x1 :: vR a :: st) M :=
  g_invV [x1] hd mf hl0 hs ha (hW.lt ha) hc hq rfl hR hf hC (hM.mono (fun r M' hr => by obtain ⟨hx, hg⟩ := hr; subst hx; exact hg))
theorem n_s1v {kk : MK} {n' idx : Nat} {x1 : AV} (hd : decode k.2.1 pc = .ok (.invokestatic idx, 3)) (mf : MS kk 1) (hl0 : Cond.methodLink k.1.cls idx kk.1 ∈ TB) (hR : n' + 1 ≤ R.frames ∧ 8 + (kk.2.2.1 + 11) + 44 * n' ≤ R.locals) (hf : ca ≤ R.cells ∧ sl ≤ R.slots) (hC : (st.map vcat).sum ≤ 8) (hM : Mth E n' 0 0 kk [x1] M (fun r M' => r = none ∧ G E R k Z ca sl (pc + 3) lv (st) M')) : G E R k Z ca sl pc lv (x1 :: st) M :=
  g_invS [x1] hd mf hl0 rfl hR hf hC (hM.mono (fun r M' hr => by obtain ⟨hx, hg⟩ := hr; subst hx; exact hg))
theorem n_v2i {kk : MK} {n' idx c : Nat} {a : Id} {q : vw_C} {x1 x2 : AV} (hd : decode k.2.1 pc = .ok (.invokevirtual idx, 3)) (mf : MV kk 2) (hl0 : Cond.methodLink k.1.cls idx kk.1 ∈ TB) (hs : shp a = (0, c)) (hW : Wi M) (ha : vld a = true) (hc : classes[c]? = some q) (hq : q.1 = kk.1.cls) (hR : n' + 1 ≤ R.frames ∧ 8 + (kk.2.2.1 + 11) + 44 * n' ≤ R.locals) (hf : ca ≤ R.cells ∧ sl ≤ R.slots) (hC : (st.map vcat).sum ≤ 8) (hM : Mth E n' 0 0 kk [vR a, x1, x2] M (fun r M' => ∃ x, r = some (vI x) ∧ G E R k Z ca sl (pc + 3) lv (vI x :: st) M')) : G E R k Z ca sl pc lv (x2 :: x1 :: vR a :: st) M :=
  g_invV [x1, x2] hd mf hl0 hs ha (hW.lt ha) hc hq rfl hR hf hC (hM.mono (fun r M' hr => by obtain ⟨x, hx, hg⟩ := hr; subst hx; exact hg))
theorem n_s2i {kk : MK} {n' idx : Nat} {x1 x2 : AV} (hd : decode k.2.1 pc = .ok (.invokestatic idx, 3)) (mf : MS kk 2) (hl0 : Cond.methodLink k.1.cls idx kk.1 ∈ TB) (hR : n' + 1 ≤ R.frames ∧ 8 + (kk.2.2.1 + 11) + 44 * n' ≤ R.locals) (hf : ca ≤ R.cells ∧ sl ≤ R.slots) (hC : (st.map vcat).sum ≤ 8) (hM : Mth E n' 0 0 kk [x1, x2] M (fun r M' => ∃ x, r = some (vI x) ∧ G E R k Z ca sl (pc + 3) lv (vI x :: st) M')) : G E R k Z ca sl pc lv (x2 :: x1 :: st) M :=
  g_invS [x1, x2] hd mf hl0 rfl hR hf hC (hM.mono (fun r M' hr => by obtain ⟨x, hx, hg⟩ := hr; subst hx; exact hg))
theorem n_n2i {kk : MK} {n' idx : Nat} {host : String} {x1 x2 : AV} (hd : decode k.2.1 pc = .ok (.invokestatic idx, 3)) (mf : MS kk 2) (hl0 : (k.1.cls, idx, kk.1, host) ∈ NBm) (hR : n' + 1 ≤ R.frames ∧ 8 + (kk.2.2.1 + 11) + 44 * n' ≤ R.locals) (hf : ca ≤ R.cells ∧ sl ≤ R.slots) (hC : (st.map vcat).sum ≤ 8) (hM : Mth E n' 0 0 kk [x1, x2] M (fun r M' => ∃ x, r = some (vI x) ∧ G E R k Z ca sl (pc + 3) lv (vI x :: st) M')) : G E R k Z ca sl pc lv (x2 :: x1 :: st) M :=
  g_invSN [x1, x2] hd mf hl0 rfl hR hf hC (hM.mono (fun r M' hr => by obtain ⟨x, hx, hg⟩ := hr; subst hx; exact hg))
theorem n_v2l {kk : MK} {n' idx c : Nat} {a : Id} {q : vw_C} {x1 x2 : AV} (hd : decode k.2.1 pc = .ok (.invokevirtual idx, 3)) (mf : MV kk 2) (hl0 : Cond.methodLink k.1.cls idx kk.1 ∈ TB) (hs : shp a = (0, c)) (hW : Wi M) (ha : vld a = true) (hc : classes[c]? = some q) (hq : q.1 = kk.1.cls) (hR : n' + 1 ≤ R.frames ∧ 8 + (kk.2.2.1 + 11) + 44 * n' ≤ R.locals) (hf : ca ≤ R.cells ∧ sl ≤ R.slots) (hC : (st.map vcat).sum ≤ 8) (hM : Mth E n' 0 0 kk [vR a, x1, x2] M (fun r M' => ∃ x, r = some (vL x) ∧ G E R k Z ca sl (pc + 3) lv (vL x :: st) M')) : G E R k Z ca sl pc lv (x2 :: x1 :: vR a :: st) M :=
  g_invV [x1, x2] hd mf hl0 hs ha (hW.lt ha) hc hq rfl hR hf hC (hM.mono (fun r M' hr => by obtain ⟨x, hx, hg⟩ := hr; subst hx; exact hg))
theorem n_s2l {kk : MK} {n' idx : Nat} {x1 x2 : AV} (hd : decode k.2.1 pc = .ok (.invokestatic idx, 3)) (mf : MS kk 2) (hl0 : Cond.methodLink k.1.cls idx kk.1 ∈ TB) (hR : n' + 1 ≤ R.frames ∧ 8 + (kk.2.2.1 + 11) + 44 * n' ≤ R.locals) (hf : ca ≤ R.cells ∧ sl ≤ R.slots) (hC : (st.map vcat).sum ≤ 8) (hM : Mth E n' 0 0 kk [x1, x2] M (fun r M' => ∃ x, r = some (vL x) ∧ G E R k Z ca sl (pc + 3) lv (vL x :: st) M')) : G E R k Z ca sl pc lv (x2 :: x1 :: st) M :=
  g_invS [x1, x2] hd mf hl0 rfl hR hf hC (hM.mono (fun r M' hr => by obtain ⟨x, hx, hg⟩ := hr; subst hx; exact hg))
theorem n_v2r {kk : MK} {n' idx c : Nat} {a : Id} {q : vw_C} {x1 x2 : AV} (hd : decode k.2.1 pc = .ok (.invokevirtual idx, 3)) (mf : MV kk 2) (hl0 : Cond.methodLink k.1.cls idx kk.1 ∈ TB) (hs : shp a = (0, c)) (hW : Wi M) (ha : vld a = true) (hc : classes[c]? = some q) (hq : q.1 = kk.1.cls) (hR : n' + 1 ≤ R.frames ∧ 8 + (kk.2.2.1 + 11) + 44 * n' ≤ R.locals) (hf : ca ≤ R.cells ∧ sl ≤ R.slots) (hC : (st.map vcat).sum ≤ 8) (hM : Mth E n' 0 0 kk [vR a, x1, x2] M (fun r M' => ∃ x, r = some (vR x) ∧ G E R k Z ca sl (pc + 3) lv (vR x :: st) M')) : G E R k Z ca sl pc lv (x2 :: x1 :: vR a :: st) M :=
  g_invV [x1, x2] hd mf hl0 hs ha (hW.lt ha) hc hq rfl hR hf hC (hM.mono (fun r M' hr => by obtain ⟨x, hx, hg⟩ := hr; subst hx; exact hg))
theorem n_s2r {kk : MK} {n' idx : Nat} {x1 x2 : AV} (hd : decode k.2.1 pc = .ok (.invokestatic idx, 3)) (mf : MS kk 2) (hl0 : Cond.methodLink k.1.cls idx kk.1 ∈ TB) (hR : n' + 1 ≤ R.frames ∧ 8 + (kk.2.2.1 + 11) + 44 * n' ≤ R.locals) (hf : ca ≤ R.cells ∧ sl ≤ R.slots) (hC : (st.map vcat).sum ≤ 8) (hM : Mth E n' 0 0 kk [x1, x2] M (fun r M' => ∃ x, r = some (vR x) ∧ G E R k Z ca sl (pc + 3) lv (vR x :: st) M')) : G E R k Z ca sl pc lv (x2 :: x1 :: st) M :=
  g_invS [x1, x2] hd mf hl0 rfl hR hf hC (hM.mono (fun r M' hr => by obtain ⟨x, hx, hg⟩ := hr; subst hx; exact hg))
theorem n_v2s {kk : MK} {n' idx c : Nat} {a : Id} {q : vw_C} {x1 x2 : AV} (hd : decode k.2.1 pc = .ok (.invokevirtual idx, 3)) (mf : MV kk 2) (hl0 : Cond.methodLink k.1.cls idx kk.1 ∈ TB) (hs : shp a = (0, c)) (hW : Wi M) (ha : vld a = true) (hc : classes[c]? = some q) (hq : q.1 = kk.1.cls) (hR : n' + 1 ≤ R.frames ∧ 8 + (kk.2.2.1 + 11) + 44 * n' ≤ R.locals) (hf : ca ≤ R.cells ∧ sl ≤ R.slots) (hC : (st.map vcat).sum ≤ 8) (hM : Mth E n' 0 0 kk [vR a, x1, x2] M (fun r M' => ∃ x, r = some (vS x) ∧ G E R k Z ca sl (pc + 3) lv (vS x :: st) M')) : G E R k Z ca sl pc lv (x2 :: x1 :: vR a :: st) M :=
  g_invV [x1, x2] hd mf hl0 hs ha (hW.lt ha) hc hq rfl hR hf hC (hM.mono (fun r M' hr => by obtain ⟨x, hx, hg⟩ := hr; subst hx; exact hg))
theorem n_s2s {kk : MK} {n' idx : Nat} {x1 x2 : AV} (hd : decode k.2.1 pc = .ok (.invokestatic idx, 3)) (mf : MS kk 2) (hl0 : Cond.methodLink k.1.cls idx kk.1 ∈ TB) (hR : n' + 1 ≤ R.frames ∧ 8 + (kk.2.2.1 + 11) + 44 * n' ≤ R.locals) (hf : ca ≤ R.cells ∧ sl ≤ R.slots) (hC : (st.map vcat).sum ≤ 8) (hM : Mth E n' 0 0 kk [x1, x2] M (fun r M' => ∃ x, r = some (vS x) ∧ G E R k Z ca sl (pc + 3) lv (vS x :: st) M')) : G E R k Z ca sl pc lv (x2 :: x1 :: st) M :=
  g_invS [x1, x2] hd mf hl0 rfl hR hf hC (hM.mono (fun r M' hr => by obtain ⟨x, hx, hg⟩ := hr; subst hx; exact hg))
theorem n_v2v {kk : MK} {n' idx c : Nat} {a : Id} {q : vw_C} {x1 x2 : AV} (hd : decode k.2.1 pc = .ok (.invokevirtual idx, 3)) (mf : MV kk 2) (hl0 : Cond.methodLink k.1.cls idx kk.1 ∈ TB) (hs : shp a = (0, c)) (hW : Wi M) (ha : vld a = true) (hc : classes[c]? = some q) (hq : q.1 = kk.1.cls) (hR : n' + 1 ≤ R.frames ∧ 8 + (kk.2.2.1 + 11) + 44 * n' ≤ R.locals) (hf : ca ≤ R.cells ∧ sl ≤ R.slots) (hC : (st.map vcat).sum ≤ 8) (hM : Mth E n' 0 0 kk [vR a, x1, x2] M (fun r M' => r = none ∧ G E R k Z ca sl (pc + 3) lv (st) M')) : G E R k Z ca sl pc lv (x2 :: x1 :: vR a :: st) M :=
  g_invV [x1, x2] hd mf hl0 hs ha (hW.lt ha) hc hq rfl hR hf hC (hM.mono (fun r M' hr => by obtain ⟨hx, hg⟩ := hr; subst hx; exact hg))
theorem n_s2v {kk : MK} {n' idx : Nat} {x1 x2 : AV} (hd : decode k.2.1 pc = .ok (.invokestatic idx, 3)) (mf : MS kk 2) (hl0 : Cond.methodLink k.1.cls idx kk.1 ∈ TB) (hR : n' + 1 ≤ R.frames ∧ 8 + (kk.2.2.1 + 11) + 44 * n' ≤ R.locals) (hf : ca ≤ R.cells ∧ sl ≤ R.slots) (hC : (st.map vcat).sum ≤ 8) (hM : Mth E n' 0 0 kk [x1, x2] M (fun r M' => r = none ∧ G E R k Z ca sl (pc + 3) lv (st) M')) : G E R k Z ca sl pc lv (x2 :: x1 :: st) M :=
  g_invS [x1, x2] hd mf hl0 rfl hR hf hC (hM.mono (fun r M' hr => by obtain ⟨hx, hg⟩ := hr; subst hx; exact hg))
theorem n_v3i {kk : MK} {n' idx c : Nat} {a : Id} {q : vw_C} {x1 x2 x3 : AV} (hd : decode k.2.1 pc = .ok (.invokevirtual idx, 3)) (mf : MV kk 3) (hl0 : Cond.methodLink k.1.cls idx kk.1 ∈ TB) (hs : shp a = (0, c)) (hW : Wi M) (ha : vld a = true) (hc : classes[c]? = some q) (hq : q.1 = kk.1.cls) (hR : n' + 1 ≤ R.frames ∧ 8 + (kk.2.2.1 + 11) + 44 * n' ≤ R.locals) (hf : ca ≤ R.cells ∧ sl ≤ R.slots) (hC : (st.map vcat).sum ≤ 8) (hM : Mth E n' 0 0 kk [vR a, x1, x2, x3] M (fun r M' => ∃ x, r = some (vI x) ∧ G E R k Z ca sl (pc + 3) lv (vI x :: st) M')) : G E R k Z ca sl pc lv (x3 :: x2 :: x1 :: vR a :: st) M :=
  g_invV [x1, x2, x3] hd mf hl0 hs ha (hW.lt ha) hc hq rfl hR hf hC (hM.mono (fun r M' hr => by obtain ⟨x, hx, hg⟩ := hr; subst hx; exact hg))
theorem n_s3i {kk : MK} {n' idx : Nat} {x1 x2 x3 : AV} (hd : decode k.2.1 pc = .ok (.invokestatic idx, 3)) (mf : MS kk 3) (hl0 : Cond.methodLink k.1.cls idx kk.1 ∈ TB) (hR : n' + 1 ≤ R.frames ∧ 8 + (kk.2.2.1 + 11) + 44 * n' ≤ R.locals) (hf : ca ≤ R.cells ∧ sl ≤ R.slots) (hC : (st.map vcat).sum ≤ 8) (hM : Mth E n' 0 0 kk [x1, x2, x3] M (fun r M' => ∃ x, r = some (vI x) ∧ G E R k Z ca sl (pc + 3) lv (vI x :: st) M')) : G E R k Z ca sl pc lv (x3 :: x2 :: x1 :: st) M :=
  g_invS [x1, x2, x3] hd mf hl0 rfl hR hf hC (hM.mono (fun r M' hr => by obtain ⟨x, hx, hg⟩ := hr; subst hx; exact hg))
theorem n_n3i {kk : MK} {n' idx : Nat} {host : String} {x1 x2 x3 : AV} (hd : decode k.2.1 pc = .ok (.invokestatic idx, 3)) (mf : MS kk 3) (hl0 : (k.1.cls, idx, kk.1, host) ∈ NBm) (hR : n' + 1 ≤ R.frames ∧ 8 + (kk.2.2.1 + 11) + 44 * n' ≤ R.locals) (hf : ca ≤ R.cells ∧ sl ≤ R.slots) (hC : (st.map vcat).sum ≤ 8) (hM : Mth E n' 0 0 kk [x1, x2, x3] M (fun r M' => ∃ x, r = some (vI x) ∧ G E R k Z ca sl (pc + 3) lv (vI x :: st) M')) : G E R k Z ca sl pc lv (x3 :: x2 :: x1 :: st) M :=
  g_invSN [x1, x2, x3] hd mf hl0 rfl hR hf hC (hM.mono (fun r M' hr => by obtain ⟨x, hx, hg⟩ := hr; subst hx; exact hg))
theorem n_v3r {kk : MK} {n' idx c : Nat} {a : Id} {q : vw_C} {x1 x2 x3 : AV} (hd : decode k.2.1 pc = .ok (.invokevirtual idx, 3)) (mf : MV kk 3) (hl0 : Cond.methodLink k.1.cls idx kk.1 ∈ TB) (hs : shp a = (0, c)) (hW : Wi M) (ha : vld a = true) (hc : classes[c]? = some q) (hq : q.1 = kk.1.cls) (hR : n' + 1 ≤ R.frames ∧ 8 + (kk.2.2.1 + 11) + 44 * n' ≤ R.locals) (hf : ca ≤ R.cells ∧ sl ≤ R.slots) (hC : (st.map vcat).sum ≤ 8) (hM : Mth E n' 0 0 kk [vR a, x1, x2, x3] M (fun r M' => ∃ x, r = some (vR x) ∧ G E R k Z ca sl (pc + 3) lv (vR x :: st) M')) : G E R k Z ca sl pc lv (x3 :: x2 :: x1 :: vR a :: st) M :=
  g_invV [x1, x2, x3] hd mf hl0 hs ha (hW.lt ha) hc hq rfl hR hf hC (hM.mono (fun r M' hr => by obtain ⟨x, hx, hg⟩ := hr; subst hx; exact hg))
theorem n_s3r {kk : MK} {n' idx : Nat} {x1 x2 x3 : AV} (hd : decode k.2.1 pc = .ok (.invokestatic idx, 3)) (mf : MS kk 3) (hl0 : Cond.methodLink k.1.cls idx kk.1 ∈ TB) (hR : n' + 1 ≤ R.frames ∧ 8 + (kk.2.2.1 + 11) + 44 * n' ≤ R.locals) (hf : ca ≤ R.cells ∧ sl ≤ R.slots) (hC : (st.map vcat).sum ≤ 8) (hM : Mth E n' 0 0 kk [x1, x2, x3] M (fun r M' => ∃ x, r = some (vR x) ∧ G E R k Z ca sl (pc + 3) lv (vR x :: st) M')) : G E R k Z ca sl pc lv (x3 :: x2 :: x1 :: st) M :=
  g_invS [x1, x2, x3] hd mf hl0 rfl hR hf hC (hM.mono (fun r M' hr => by obtain ⟨x, hx, hg⟩ := hr; subst hx; exact hg))
theorem n_v3v {kk : MK} {n' idx c : Nat} {a : Id} {q : vw_C} {x1 x2 x3 : AV} (hd : decode k.2.1 pc = .ok (.invokevirtual idx, 3)) (mf : MV kk 3) (hl0 : Cond.methodLink k.1.cls idx kk.1 ∈ TB) (hs : shp a = (0, c)) (hW : Wi M) (ha : vld a = true) (hc : classes[c]? = some q) (hq : q.1 = kk.1.cls) (hR : n' + 1 ≤ R.frames ∧ 8 + (kk.2.2.1 + 11) + 44 * n' ≤ R.locals) (hf : ca ≤ R.cells ∧ sl ≤ R.slots) (hC : (st.map vcat).sum ≤ 8) (hM : Mth E n' 0 0 kk [vR a, x1, x2, x3] M (fun r M' => r = none ∧ G E R k Z ca sl (pc + 3) lv (st) M')) : G E R k Z ca sl pc lv (x3 :: x2 :: x1 :: vR a :: st) M :=
  g_invV [x1, x2, x3] hd mf hl0 hs ha (hW.lt ha) hc hq rfl hR hf hC (hM.mono (fun r M' hr => by obtain ⟨hx, hg⟩ := hr; subst hx; exact hg))
theorem n_s3v {kk : MK} {n' idx : Nat} {x1 x2 x3 : AV} (hd : decode k.2.1 pc = .ok (.invokestatic idx, 3)) (mf : MS kk 3) (hl0 : Cond.methodLink k.1.cls idx kk.1 ∈ TB) (hR : n' + 1 ≤ R.frames ∧ 8 + (kk.2.2.1 + 11) + 44 * n' ≤ R.locals) (hf : ca ≤ R.cells ∧ sl ≤ R.slots) (hC : (st.map vcat).sum ≤ 8) (hM : Mth E n' 0 0 kk [x1, x2, x3] M (fun r M' => r = none ∧ G E R k Z ca sl (pc + 3) lv (st) M')) : G E R k Z ca sl pc lv (x3 :: x2 :: x1 :: st) M :=
  g_invS [x1, x2, x3] hd mf hl0 rfl hR hf hC (hM.mono (fun r M' hr => by obtain ⟨hx, hg⟩ := hr; subst hx; exact hg))
theorem n_v4i {kk : MK} {n' idx c : Nat} {a : Id} {q : vw_C} {x1 x2 x3 x4 : AV} (hd : decode k.2.1 pc = .ok (.invokevirtual idx, 3)) (mf : MV kk 4) (hl0 : Cond.methodLink k.1.cls idx kk.1 ∈ TB) (hs : shp a = (0, c)) (hW : Wi M) (ha : vld a = true) (hc : classes[c]? = some q) (hq : q.1 = kk.1.cls) (hR : n' + 1 ≤ R.frames ∧ 8 + (kk.2.2.1 + 11) + 44 * n' ≤ R.locals) (hf : ca ≤ R.cells ∧ sl ≤ R.slots) (hC : (st.map vcat).sum ≤ 8) (hM : Mth E n' 0 0 kk [vR a, x1, x2, x3, x4] M (fun r M' => ∃ x, r = some (vI x) ∧ G E R k Z ca sl (pc + 3) lv (vI x :: st) M')) : G E R k Z ca sl pc lv (x4 :: x3 :: x2 :: x1 :: vR a :: st) M :=
  g_invV [x1, x2, x3, x4] hd mf hl0 hs ha (hW.lt ha) hc hq rfl hR hf hC (hM.mono (fun r M' hr => by obtain ⟨x, hx, hg⟩ := hr; subst hx; exact hg))
theorem n_s4i {kk : MK} {n' idx : Nat} {x1 x2 x3 x4 : AV} (hd : decode k.2.1 pc = .ok (.invokestatic idx, 3)) (mf : MS kk 4) (hl0 : Cond.methodLink k.1.cls idx kk.1 ∈ TB) (hR : n' + 1 ≤ R.frames ∧ 8 + (kk.2.2.1 + 11) + 44 * n' ≤ R.locals) (hf : ca ≤ R.cells ∧ sl ≤ R.slots) (hC : (st.map vcat).sum ≤ 8) (hM : Mth E n' 0 0 kk [x1, x2, x3, x4] M (fun r M' => ∃ x, r = some (vI x) ∧ G E R k Z ca sl (pc + 3) lv (vI x :: st) M')) : G E R k Z ca sl pc lv (x4 :: x3 :: x2 :: x1 :: st) M :=
  g_invS [x1, x2, x3, x4] hd mf hl0 rfl hR hf hC (hM.mono (fun r M' hr => by obtain ⟨x, hx, hg⟩ := hr; subst hx; exact hg))
theorem n_n4i {kk : MK} {n' idx : Nat} {host : String} {x1 x2 x3 x4 : AV} (hd : decode k.2.1 pc = .ok (.invokestatic idx, 3)) (mf : MS kk 4) (hl0 : (k.1.cls, idx, kk.1, host) ∈ NBm) (hR : n' + 1 ≤ R.frames ∧ 8 + (kk.2.2.1 + 11) + 44 * n' ≤ R.locals) (hf : ca ≤ R.cells ∧ sl ≤ R.slots) (hC : (st.map vcat).sum ≤ 8) (hM : Mth E n' 0 0 kk [x1, x2, x3, x4] M (fun r M' => ∃ x, r = some (vI x) ∧ G E R k Z ca sl (pc + 3) lv (vI x :: st) M')) : G E R k Z ca sl pc lv (x4 :: x3 :: x2 :: x1 :: st) M :=
  g_invSN [x1, x2, x3, x4] hd mf hl0 rfl hR hf hC (hM.mono (fun r M' hr => by obtain ⟨x, hx, hg⟩ := hr; subst hx; exact hg))
theorem n_v4r {kk : MK} {n' idx c : Nat} {a : Id} {q : vw_C} {x1 x2 x3 x4 : AV} (hd : decode k.2.1 pc = .ok (.invokevirtual idx, 3)) (mf : MV kk 4) (hl0 : Cond.methodLink k.1.cls idx kk.1 ∈ TB) (hs : shp a = (0, c)) (hW : Wi M) (ha : vld a = true) (hc : classes[c]? = some q) (hq : q.1 = kk.1.cls) (hR : n' + 1 ≤ R.frames ∧ 8 + (kk.2.2.1 + 11) + 44 * n' ≤ R.locals) (hf : ca ≤ R.cells ∧ sl ≤ R.slots) (hC : (st.map vcat).sum ≤ 8) (hM : Mth E n' 0 0 kk [vR a, x1, x2, x3, x4] M (fun r M' => ∃ x, r = some (vR x) ∧ G E R k Z ca sl (pc + 3) lv (vR x :: st) M')) : G E R k Z ca sl pc lv (x4 :: x3 :: x2 :: x1 :: vR a :: st) M :=
  g_invV [x1, x2, x3, x4] hd mf hl0 hs ha (hW.lt ha) hc hq rfl hR hf hC (hM.mono (fun r M' hr => by obtain ⟨x, hx, hg⟩ := hr; subst hx; exact hg))
theorem n_s4r {kk : MK} {n' idx : Nat} {x1 x2 x3 x4 : AV} (hd : decode k.2.1 pc = .ok (.invokestatic idx, 3)) (mf : MS kk 4) (hl0 : Cond.methodLink k.1.cls idx kk.1 ∈ TB) (hR : n' + 1 ≤ R.frames ∧ 8 + (kk.2.2.1 + 11) + 44 * n' ≤ R.locals) (hf : ca ≤ R.cells ∧ sl ≤ R.slots) (hC : (st.map vcat).sum ≤ 8) (hM : Mth E n' 0 0 kk [x1, x2, x3, x4] M (fun r M' => ∃ x, r = some (vR x) ∧ G E R k Z ca sl (pc + 3) lv (vR x :: st) M')) : G E R k Z ca sl pc lv (x4 :: x3 :: x2 :: x1 :: st) M :=
  g_invS [x1, x2, x3, x4] hd mf hl0 rfl hR hf hC (hM.mono (fun r M' hr => by obtain ⟨x, hx, hg⟩ := hr; subst hx; exact hg))
theorem n_v4v {kk : MK} {n' idx c : Nat} {a : Id} {q : vw_C} {x1 x2 x3 x4 : AV} (hd : decode k.2.1 pc = .ok (.invokevirtual idx, 3)) (mf : MV kk 4) (hl0 : Cond.methodLink k.1.cls idx kk.1 ∈ TB) (hs : shp a = (0, c)) (hW : Wi M) (ha : vld a = true) (hc : classes[c]? = some q) (hq : q.1 = kk.1.cls) (hR : n' + 1 ≤ R.frames ∧ 8 + (kk.2.2.1 + 11) + 44 * n' ≤ R.locals) (hf : ca ≤ R.cells ∧ sl ≤ R.slots) (hC : (st.map vcat).sum ≤ 8) (hM : Mth E n' 0 0 kk [vR a, x1, x2, x3, x4] M (fun r M' => r = none ∧ G E R k Z ca sl (pc + 3) lv (st) M')) : G E R k Z ca sl pc lv (x4 :: x3 :: x2 :: x1 :: vR a :: st) M :=
  g_invV [x1, x2, x3, x4] hd mf hl0 hs ha (hW.lt ha) hc hq rfl hR hf hC (hM.mono (fun r M' hr => by obtain ⟨hx, hg⟩ := hr; subst hx; exact hg))
theorem n_s4v {kk : MK} {n' idx : Nat} {x1 x2 x3 x4 : AV} (hd : decode k.2.1 pc = .ok (.invokestatic idx, 3)) (mf : MS kk 4) (hl0 : Cond.methodLink k.1.cls idx kk.1 ∈ TB) (hR : n' + 1 ≤ R.frames ∧ 8 + (kk.2.2.1 + 11) + 44 * n' ≤ R.locals) (hf : ca ≤ R.cells ∧ sl ≤ R.slots) (hC : (st.map vcat).sum ≤ 8) (hM : Mth E n' 0 0 kk [x1, x2, x3, x4] M (fun r M' => r = none ∧ G E R k Z ca sl (pc + 3) lv (st) M')) : G E R k Z ca sl pc lv (x4 :: x3 :: x2 :: x1 :: st) M :=
  g_invS [x1, x2, x3, x4] hd mf hl0 rfl hR hf hC (hM.mono (fun r M' hr => by obtain ⟨hx, hg⟩ := hr; subst hx; exact hg))
theorem n_v5i {kk : MK} {n' idx c : Nat} {a : Id} {q : vw_C} {x1 x2 x3 x4 x5 : AV} (hd : decode k.2.1 pc = .ok (.invokevirtual idx, 3)) (mf : MV kk 5) (hl0 : Cond.methodLink k.1.cls idx kk.1 ∈ TB) (hs : shp a = (0, c)) (hW : Wi M) (ha : vld a = true) (hc : classes[c]? = some q) (hq : q.1 = kk.1.cls) (hR : n' + 1 ≤ R.frames ∧ 8 + (kk.2.2.1 + 11) + 44 * n' ≤ R.locals) (hf : ca ≤ R.cells ∧ sl ≤ R.slots) (hC : (st.map vcat).sum ≤ 8) (hM : Mth E n' 0 0 kk [vR a, x1, x2, x3, x4, x5] M (fun r M' => ∃ x, r = some (vI x) ∧ G E R k Z ca sl (pc + 3) lv (vI x :: st) M')) : G E R k Z ca sl pc lv (x5 :: x4 :: x3 :: x2 :: x1 :: vR a :: st) M :=
  g_invV [x1, x2, x3, x4, x5] hd mf hl0 hs ha (hW.lt ha) hc hq rfl hR hf hC (hM.mono (fun r M' hr => by obtain ⟨x, hx, hg⟩ := hr; subst hx; exact hg))
theorem n_s5i {kk : MK} {n' idx : Nat} {x1 x2 x3 x4 x5 : AV} (hd : decode k.2.1 pc = .ok (.invokestatic idx, 3)) (mf : MS kk 5) (hl0 : Cond.methodLink k.1.cls idx kk.1 ∈ TB) (hR : n' + 1 ≤ R.frames ∧ 8 + (kk.2.2.1 + 11) + 44 * n' ≤ R.locals) (hf : ca ≤ R.cells ∧ sl ≤ R.slots) (hC : (st.map vcat).sum ≤ 8) (hM : Mth E n' 0 0 kk [x1, x2, x3, x4, x5] M (fun r M' => ∃ x, r = some (vI x) ∧ G E R k Z ca sl (pc + 3) lv (vI x :: st) M')) : G E R k Z ca sl pc lv (x5 :: x4 :: x3 :: x2 :: x1 :: st) M :=
  g_invS [x1, x2, x3, x4, x5] hd mf hl0 rfl hR hf hC (hM.mono (fun r M' hr => by obtain ⟨x, hx, hg⟩ := hr; subst hx; exact hg))
theorem n_n5i {kk : MK} {n' idx : Nat} {host : String} {x1 x2 x3 x4 x5 : AV} (hd : decode k.2.1 pc = .ok (.invokestatic idx, 3)) (mf : MS kk 5) (hl0 : (k.1.cls, idx, kk.1, host) ∈ NBm) (hR : n' + 1 ≤ R.frames ∧ 8 + (kk.2.2.1 + 11) + 44 * n' ≤ R.locals) (hf : ca ≤ R.cells ∧ sl ≤ R.slots) (hC : (st.map vcat).sum ≤ 8) (hM : Mth E n' 0 0 kk [x1, x2, x3, x4, x5] M (fun r M' => ∃ x, r = some (vI x) ∧ G E R k Z ca sl (pc + 3) lv (vI x :: st) M')) : G E R k Z ca sl pc lv (x5 :: x4 :: x3 :: x2 :: x1 :: st) M :=
  g_invSN [x1, x2, x3, x4, x5] hd mf hl0 rfl hR hf hC (hM.mono (fun r M' hr => by obtain ⟨x, hx, hg⟩ := hr; subst hx; exact hg))
theorem n_v5r {kk : MK} {n' idx c : Nat} {a : Id} {q : vw_C} {x1 x2 x3 x4 x5 : AV} (hd : decode k.2.1 pc = .ok (.invokevirtual idx, 3)) (mf : MV kk 5) (hl0 : Cond.methodLink k.1.cls idx kk.1 ∈ TB) (hs : shp a = (0, c)) (hW : Wi M) (ha : vld a = true) (hc : classes[c]? = some q) (hq : q.1 = kk.1.cls) (hR : n' + 1 ≤ R.frames ∧ 8 + (kk.2.2.1 + 11) + 44 * n' ≤ R.locals) (hf : ca ≤ R.cells ∧ sl ≤ R.slots) (hC : (st.map vcat).sum ≤ 8) (hM : Mth E n' 0 0 kk [vR a, x1, x2, x3, x4, x5] M (fun r M' => ∃ x, r = some (vR x) ∧ G E R k Z ca sl (pc + 3) lv (vR x :: st) M')) : G E R k Z ca sl pc lv (x5 :: x4 :: x3 :: x2 :: x1 :: vR a :: st) M :=
  g_invV [x1, x2, x3, x4, x5] hd mf hl0 hs ha (hW.lt ha) hc hq rfl hR hf hC (hM.mono (fun r M' hr => by obtain ⟨x, hx, hg⟩ := hr; subst hx; exact hg))
theorem n_s5r {kk : MK} {n' idx : Nat} {x1 x2 x3 x4 x5 : AV} (hd : decode k.2.1 pc = .ok (.invokestatic idx, 3)) (mf : MS kk 5) (hl0 : Cond.methodLink k.1.cls idx kk.1 ∈ TB) (hR : n' + 1 ≤ R.frames ∧ 8 + (kk.2.2.1 + 11) + 44 * n' ≤ R.locals) (hf : ca ≤ R.cells ∧ sl ≤ R.slots) (hC : (st.map vcat).sum ≤ 8) (hM : Mth E n' 0 0 kk [x1, x2, x3, x4, x5] M (fun r M' => ∃ x, r = some (vR x) ∧ G E R k Z ca sl (pc + 3) lv (vR x :: st) M')) : G E R k Z ca sl pc lv (x5 :: x4 :: x3 :: x2 :: x1 :: st) M :=
  g_invS [x1, x2, x3, x4, x5] hd mf hl0 rfl hR hf hC (hM.mono (fun r M' hr => by obtain ⟨x, hx, hg⟩ := hr; subst hx; exact hg))
theorem n_v5v {kk : MK} {n' idx c : Nat} {a : Id} {q : vw_C} {x1 x2 x3 x4 x5 : AV} (hd : decode k.2.1 pc = .ok (.invokevirtual idx, 3)) (mf : MV kk 5) (hl0 : Cond.methodLink k.1.cls idx kk.1 ∈ TB) (hs : shp a = (0, c)) (hW : Wi M) (ha : vld a = true) (hc : classes[c]? = some q) (hq : q.1 = kk.1.cls) (hR : n' + 1 ≤ R.frames ∧ 8 + (kk.2.2.1 + 11) + 44 * n' ≤ R.locals) (hf : ca ≤ R.cells ∧ sl ≤ R.slots) (hC : (st.map vcat).sum ≤ 8) (hM : Mth E n' 0 0 kk [vR a, x1, x2, x3, x4, x5] M (fun r M' => r = none ∧ G E R k Z ca sl (pc + 3) lv (st) M')) : G E R k Z ca sl pc lv (x5 :: x4 :: x3 :: x2 :: x1 :: vR a :: st) M :=
  g_invV [x1, x2, x3, x4, x5] hd mf hl0 hs ha (hW.lt ha) hc hq rfl hR hf hC (hM.mono (fun r M' hr => by obtain ⟨hx, hg⟩ := hr; subst hx; exact hg))
theorem n_s5v {kk : MK} {n' idx : Nat} {x1 x2 x3 x4 x5 : AV} (hd : decode k.2.1 pc = .ok (.invokestatic idx, 3)) (mf : MS kk 5) (hl0 : Cond.methodLink k.1.cls idx kk.1 ∈ TB) (hR : n' + 1 ≤ R.frames ∧ 8 + (kk.2.2.1 + 11) + 44 * n' ≤ R.locals) (hf : ca ≤ R.cells ∧ sl ≤ R.slots) (hC : (st.map vcat).sum ≤ 8) (hM : Mth E n' 0 0 kk [x1, x2, x3, x4, x5] M (fun r M' => r = none ∧ G E R k Z ca sl (pc + 3) lv (st) M')) : G E R k Z ca sl pc lv (x5 :: x4 :: x3 :: x2 :: x1 :: st) M :=
  g_invS [x1, x2, x3, x4, x5] hd mf hl0 rfl hR hf hC (hM.mono (fun r M' hr => by obtain ⟨hx, hg⟩ := hr; subst hx; exact hg))
end RK
end
section
/-! METHODS AND LINKS, out of the tables -/
def kX6_init : MK := (yX6_init, cX6_init, 2, (Option.none : Option Jvm.ClassFile.FieldType))
set_option maxRecDepth 20000 in
theorem mX6_init : MI kX6_init 0 := ⟨⟨TB_of 84 (by decide +kernel) rfl, TB_of 64 (by decide +kernel) (by decide +kernel), by decide +kernel, by decide +kernel, by decide +kernel, by decide +kernel⟩, TB_of 83 (by decide +kernel) (by decide +kernel), rfl⟩
def kX4_init : MK := (yX4_init, cX4_init, 2, (Option.none : Option Jvm.ClassFile.FieldType))
set_option maxRecDepth 20000 in
theorem mX4_init : MI kX4_init 0 := ⟨⟨TB_of 92 (by decide +kernel) rfl, TB_of 65 (by decide +kernel) (by decide +kernel), by decide +kernel, by decide +kernel, by decide +kernel, by decide +kernel⟩, TB_of 91 (by decide +kernel) (by decide +kernel), rfl⟩
def kX2_init : MK := (yX2_init, cX2_init, 1, (Option.none : Option Jvm.ClassFile.FieldType))
set_option maxRecDepth 20000 in
theorem mX2_init : MI kX2_init 0 := ⟨⟨TB_of 99 (by decide +kernel) rfl, TB_of 66 (by decide +kernel) (by decide +kernel), by decide +kernel, by decide +kernel, by decide +kernel, by decide +kernel⟩, TB_of 98 (by decide +kernel) (by decide +kernel), rfl⟩
def kX1_init : MK := (yX1_init, cX1_init, 1, (Option.none : Option Jvm.ClassFile.FieldType))
set_option maxRecDepth 20000 in
theorem mX1_init : MI kX1_init 0 := ⟨⟨TB_of 184 (by decide +kernel) rfl, TB_of 67 (by decide +kernel) (by decide +kernel), by decide +kernel, by decide +kernel, by decide +kernel, by decide +kernel⟩, TB_of 183 (by decide +kernel) (by decide +kernel), rfl⟩
def kX5_init : MK := (yX5_init, cX5_init, 1, (Option.none : Option Jvm.ClassFile.FieldType))
set_option maxRecDepth 20000 in
theorem mX5_init : MI kX5_init 0 := ⟨⟨TB_of 208 (by decide +kernel) rfl, TB_of 68 (by decide +kernel) (by decide +kernel), by decide +kernel, by decide +kernel, by decide +kernel, by decide +kernel⟩, TB_of 207 (by decide +kernel) (by decide +kernel), rfl⟩
def kX3_init : MK := (yX3_init, cX3_init, 1, (Option.none : Option Jvm.ClassFile.FieldType))
set_option maxRecDepth 20000 in
theorem mX3_init : MI kX3_init 0 := ⟨⟨TB_of 233 (by decide +kernel) rfl, TB_of 69 (by decide +kernel) (by decide +kernel), by decide +kernel, by decide +kernel, by decide +kernel, by decide +kernel⟩, TB_of 232 (by decide +kernel) (by decide +kernel), rfl⟩
def kX0_init : MK := (yX0_init, cX0_init, 1, (Option.none : Option Jvm.ClassFile.FieldType))
set_option maxRecDepth 20000 in
theorem mX0_init : MI kX0_init 0 := ⟨⟨TB_of 263 (by decide +kernel) rfl, TB_of 70 (by decide +kernel) (by decide +kernel), by decide +kernel, by decide +kernel, by decide +kernel, by decide +kernel⟩, TB_of 262 (by decide +kernel) (by decide +kernel), rfl⟩
def kX6_row : MK := (yX6_row, cX6_row, 4, (some .int))
set_option maxRecDepth 20000 in
theorem mX6_row : MV kX6_row 3 := ⟨⟨TB_of 319 (by decide +kernel) rfl, TB_of 64 (by decide +kernel) (by decide +kernel), by decide +kernel, by decide +kernel, by decide +kernel, by decide +kernel⟩, TB_of 317 (by decide +kernel) (by decide +kernel), TB_of 318 (by decide +kernel) (by decide +kernel)⟩
def kX6_isShelf : MK := (yX6_isShelf, cX6_isShelf, 2, (some .boolean))
set_option maxRecDepth 20000 in
theorem mX6_isShelf : MV kX6_isShelf 1 := ⟨⟨TB_of 323 (by decide +kernel) rfl, TB_of 64 (by decide +kernel) (by decide +kernel), by decide +kernel, by decide +kernel, by decide +kernel, by decide +kernel⟩, TB_of 322 (by decide +kernel) (by decide +kernel), TB_of 0 (by decide +kernel) (by decide +kernel)⟩
def kX6_refuse : MK := (yX6_refuse, cX6_refuse, 3, (some .int))
set_option maxRecDepth 20000 in
theorem mX6_refuse : MV kX6_refuse 1 := ⟨⟨TB_of 327 (by decide +kernel) rfl, TB_of 64 (by decide +kernel) (by decide +kernel), by decide +kernel, by decide +kernel, by decide +kernel, by decide +kernel⟩, TB_of 326 (by decide +kernel) (by decide +kernel), TB_of 1 (by decide +kernel) (by decide +kernel)⟩
def kX6_shelfAt : MK := (yX6_shelfAt, cX6_shelfAt, 2, (some (.object "ThirdEvening$Shelf")))
set_option maxRecDepth 20000 in
theorem mX6_shelfAt : MV kX6_shelfAt 1 := ⟨⟨TB_of 331 (by decide +kernel) rfl, TB_of 64 (by decide +kernel) (by decide +kernel), by decide +kernel, by decide +kernel, by decide +kernel, by decide +kernel⟩, TB_of 330 (by decide +kernel) (by decide +kernel), TB_of 2 (by decide +kernel) (by decide +kernel)⟩
def kX5_holdRow : MK := (yX5_holdRow, cX5_holdRow, 3, (Option.none : Option Jvm.ClassFile.FieldType))
set_option maxRecDepth 20000 in
theorem mX5_holdRow : MV kX5_holdRow 2 := ⟨⟨TB_of 335 (by decide +kernel) rfl, TB_of 68 (by decide +kernel) (by decide +kernel), by decide +kernel, by decide +kernel, by decide +kernel, by decide +kernel⟩, TB_of 333 (by decide +kernel) (by decide +kernel), TB_of 334 (by decide +kernel) (by decide +kernel)⟩
def kJ7_fill_d0a16 : MK := (yJ7_fill_d0a16, cJ7_fill_d0a16, 5, (Option.none : Option Jvm.ClassFile.FieldType))
set_option maxRecDepth 20000 in
theorem mJ7_fill_d0a16 : MS kJ7_fill_d0a16 2 := ⟨⟨TB_of 338 (by decide +kernel) rfl, TB_of 72 (by decide +kernel) (by decide +kernel), by decide +kernel, by decide +kernel, by decide +kernel, by decide +kernel⟩, TB_of 337 (by decide +kernel) (by decide +kernel)⟩
def kX6_set : MK := (yX6_set, cX6_set, 6, (some .int))
set_option maxRecDepth 20000 in
theorem mX6_set : MV kX6_set 3 := ⟨⟨TB_of 342 (by decide +kernel) rfl, TB_of 64 (by decide +kernel) (by decide +kernel), by decide +kernel, by decide +kernel, by decide +kernel, by decide +kernel⟩, TB_of 340 (by decide +kernel) (by decide +kernel), TB_of 341 (by decide +kernel) (by decide +kernel)⟩
def kX6_whyNoRow : MK := (yX6_whyNoRow, cX6_whyNoRow, 3, (some .int))
set_option maxRecDepth 20000 in
theorem mX6_whyNoRow : MV kX6_whyNoRow 1 := ⟨⟨TB_of 346 (by decide +kernel) rfl, TB_of 64 (by decide +kernel) (by decide +kernel), by decide +kernel, by decide +kernel, by decide +kernel, by decide +kernel⟩, TB_of 345 (by decide +kernel) (by decide +kernel), TB_of 3 (by decide +kernel) (by decide +kernel)⟩
def kX5_isPerson : MK := (yX5_isPerson, cX5_isPerson, 1, (some .boolean))
set_option maxRecDepth 20000 in
theorem mX5_isPerson : MV kX5_isPerson 0 := ⟨⟨TB_of 350 (by decide +kernel) rfl, TB_of 68 (by decide +kernel) (by decide +kernel), by decide +kernel, by decide +kernel, by decide +kernel, by decide +kernel⟩, TB_of 348 (by decide +kernel) (by decide +kernel), TB_of 349 (by decide +kernel) (by decide +kernel)⟩
def kX5_isRow : MK := (yX5_isRow, cX5_isRow, 1, (some .boolean))
set_option maxRecDepth 20000 in
theorem mX5_isRow : MV kX5_isRow 0 := ⟨⟨TB_of 354 (by decide +kernel) rfl, TB_of 68 (by decide +kernel) (by decide +kernel), by decide +kernel, by decide +kernel, by decide +kernel, by decide +kernel⟩, TB_of 352 (by decide +kernel) (by decide +kernel), TB_of 353 (by decide +kernel) (by decide +kernel)⟩
def kX5_hasElement : MK := (yX5_hasElement, cX5_hasElement, 2, (some .boolean))
set_option maxRecDepth 20000 in
theorem mX5_hasElement : MV kX5_hasElement 1 := ⟨⟨TB_of 358 (by decide +kernel) rfl, TB_of 68 (by decide +kernel) (by decide +kernel), by decide +kernel, by decide +kernel, by decide +kernel, by decide +kernel⟩, TB_of 356 (by decide +kernel) (by decide +kernel), TB_of 357 (by decide +kernel) (by decide +kernel)⟩
def kX5_put : MK := (yX5_put, cX5_put, 4, (Option.none : Option Jvm.ClassFile.FieldType))
set_option maxRecDepth 20000 in
theorem mX5_put : MV kX5_put 2 := ⟨⟨TB_of 362 (by decide +kernel) rfl, TB_of 68 (by decide +kernel) (by decide +kernel), by decide +kernel, by decide +kernel, by decide +kernel, by decide +kernel⟩, TB_of 360 (by decide +kernel) (by decide +kernel), TB_of 361 (by decide +kernel) (by decide +kernel)⟩
def kX6_copy : MK := (yX6_copy, cX6_copy, 9, (some .int))
set_option maxRecDepth 20000 in
theorem mX6_copy : MV kX6_copy 5 := ⟨⟨TB_of 366 (by decide +kernel) rfl, TB_of 64 (by decide +kernel) (by decide +kernel), by decide +kernel, by decide +kernel, by decide +kernel, by decide +kernel⟩, TB_of 364 (by decide +kernel) (by decide +kernel), TB_of 365 (by decide +kernel) (by decide +kernel)⟩
def kX5_hasStretch : MK := (yX5_hasStretch, cX5_hasStretch, 3, (some .boolean))
set_option maxRecDepth 20000 in
theorem mX5_hasStretch : MV kX5_hasStretch 2 := ⟨⟨TB_of 370 (by decide +kernel) rfl, TB_of 68 (by decide +kernel) (by decide +kernel), by decide +kernel, by decide +kernel, by decide +kernel, by decide +kernel⟩, TB_of 368 (by decide +kernel) (by decide +kernel), TB_of 369 (by decide +kernel) (by decide +kernel)⟩
def kX6_element : MK := (yX6_element, cX6_element, 3, (some .long))
set_option maxRecDepth 20000 in
theorem mX6_element : MV kX6_element 2 := ⟨⟨TB_of 377 (by decide +kernel) rfl, TB_of 64 (by decide +kernel) (by decide +kernel), by decide +kernel, by decide +kernel, by decide +kernel, by decide +kernel⟩, TB_of 375 (by decide +kernel) (by decide +kernel), TB_of 376 (by decide +kernel) (by decide +kernel)⟩
def kX5_elementAt : MK := (yX5_elementAt, cX5_elementAt, 2, (some .long))
set_option maxRecDepth 20000 in
theorem mX5_elementAt : MV kX5_elementAt 1 := ⟨⟨TB_of 381 (by decide +kernel) rfl, TB_of 68 (by decide +kernel) (by decide +kernel), by decide +kernel, by decide +kernel, by decide +kernel, by decide +kernel⟩, TB_of 379 (by decide +kernel) (by decide +kernel), TB_of 380 (by decide +kernel) (by decide +kernel)⟩
def kX6_show : MK := (yX6_show, cX6_show, 3, (some .int))
set_option maxRecDepth 20000 in
theorem mX6_show : MV kX6_show 2 := ⟨⟨TB_of 385 (by decide +kernel) rfl, TB_of 64 (by decide +kernel) (by decide +kernel), by decide +kernel, by decide +kernel, by decide +kernel, by decide +kernel⟩, TB_of 383 (by decide +kernel) (by decide +kernel), TB_of 384 (by decide +kernel) (by decide +kernel)⟩
def kX4_has : MK := (yX4_has, cX4_has, 2, (some .boolean))
set_option maxRecDepth 20000 in
theorem mX4_has : MV kX4_has 1 := ⟨⟨TB_of 389 (by decide +kernel) rfl, TB_of 65 (by decide +kernel) (by decide +kernel), by decide +kernel, by decide +kernel, by decide +kernel, by decide +kernel⟩, TB_of 387 (by decide +kernel) (by decide +kernel), TB_of 388 (by decide +kernel) (by decide +kernel)⟩
def kX5_holdPerson : MK := (yX5_holdPerson, cX5_holdPerson, 2, (Option.none : Option Jvm.ClassFile.FieldType))
set_option maxRecDepth 20000 in
theorem mX5_holdPerson : MV kX5_holdPerson 1 := ⟨⟨TB_of 393 (by decide +kernel) rfl, TB_of 68 (by decide +kernel) (by decide +kernel), by decide +kernel, by decide +kernel, by decide +kernel, by decide +kernel⟩, TB_of 391 (by decide +kernel) (by decide +kernel), TB_of 392 (by decide +kernel) (by decide +kernel)⟩
def kX6_holds : MK := (yX6_holds, cX6_holds, 3, (some .int))
set_option maxRecDepth 20000 in
theorem mX6_holds : MV kX6_holds 1 := ⟨⟨TB_of 397 (by decide +kernel) rfl, TB_of 64 (by decide +kernel) (by decide +kernel), by decide +kernel, by decide +kernel, by decide +kernel, by decide +kernel⟩, TB_of 395 (by decide +kernel) (by decide +kernel), TB_of 396 (by decide +kernel) (by decide +kernel)⟩
def kX6_says : MK := (yX6_says, cX6_says, 5, (some .int))
set_option maxRecDepth 20000 in
theorem mX6_says : MV kX6_says 2 := ⟨⟨TB_of 401 (by decide +kernel) rfl, TB_of 64 (by decide +kernel) (by decide +kernel), by decide +kernel, by decide +kernel, by decide +kernel, by decide +kernel⟩, TB_of 399 (by decide +kernel) (by decide +kernel), TB_of 400 (by decide +kernel) (by decide +kernel)⟩
def kX6_isKind : MK := (yX6_isKind, cX6_isKind, 1, (some .boolean))
set_option maxRecDepth 20000 in
theorem mX6_isKind : MS kX6_isKind 1 := ⟨⟨TB_of 404 (by decide +kernel) rfl, TB_of 64 (by decide +kernel) (by decide +kernel), by decide +kernel, by decide +kernel, by decide +kernel, by decide +kernel⟩, TB_of 403 (by decide +kernel) (by decide +kernel)⟩
def kX4_one : MK := (yX4_one, cX4_one, 2, (some (.object "ThirdEvening$Person")))
set_option maxRecDepth 20000 in
theorem mX4_one : MV kX4_one 1 := ⟨⟨TB_of 410 (by decide +kernel) rfl, TB_of 65 (by decide +kernel) (by decide +kernel), by decide +kernel, by decide +kernel, by decide +kernel, by decide +kernel⟩, TB_of 408 (by decide +kernel) (by decide +kernel), TB_of 409 (by decide +kernel) (by decide +kernel)⟩
def kX6_isUnder : MK := (yX6_isUnder, cX6_isUnder, 4, (some .boolean))
set_option maxRecDepth 20000 in
theorem mX6_isUnder : MS kX6_isUnder 2 := ⟨⟨TB_of 413 (by decide +kernel) rfl, TB_of 64 (by decide +kernel) (by decide +kernel), by decide +kernel, by decide +kernel, by decide +kernel, by decide +kernel⟩, TB_of 412 (by decide +kernel) (by decide +kernel)⟩
def kX6_kindAbove : MK := (yX6_kindAbove, cX6_kindAbove, 1, (some .int))
set_option maxRecDepth 20000 in
theorem mX6_kindAbove : MS kX6_kindAbove 1 := ⟨⟨TB_of 416 (by decide +kernel) rfl, TB_of 64 (by decide +kernel) (by decide +kernel), by decide +kernel, by decide +kernel, by decide +kernel, by decide +kernel⟩, TB_of 415 (by decide +kernel) (by decide +kernel)⟩
def kX2_sayingAs : MK := (yX2_sayingAs, cX2_sayingAs, 2, (some .int))
set_option maxRecDepth 20000 in
theorem mX2_sayingAs : MV kX2_sayingAs 1 := ⟨⟨TB_of 420 (by decide +kernel) rfl, TB_of 66 (by decide +kernel) (by decide +kernel), by decide +kernel, by decide +kernel, by decide +kernel, by decide +kernel⟩, TB_of 418 (by decide +kernel) (by decide +kernel), TB_of 419 (by decide +kernel) (by decide +kernel)⟩
def kX6_person : MK := (yX6_person, cX6_person, 5, (some .int))
set_option maxRecDepth 20000 in
theorem mX6_person : MV kX6_person 4 := ⟨⟨TB_of 424 (by decide +kernel) rfl, TB_of 64 (by decide +kernel) (by decide +kernel), by decide +kernel, by decide +kernel, by decide +kernel, by decide +kernel⟩, TB_of 422 (by decide +kernel) (by decide +kernel), TB_of 423 (by decide +kernel) (by decide +kernel)⟩
def kX4_isFull : MK := (yX4_isFull, cX4_isFull, 1, (some .boolean))
set_option maxRecDepth 20000 in
theorem mX4_isFull : MV kX4_isFull 0 := ⟨⟨TB_of 428 (by decide +kernel) rfl, TB_of 65 (by decide +kernel) (by decide +kernel), by decide +kernel, by decide +kernel, by decide +kernel, by decide +kernel⟩, TB_of 426 (by decide +kernel) (by decide +kernel), TB_of 427 (by decide +kernel) (by decide +kernel)⟩
def kX4_enrol : MK := (yX4_enrol, cX4_enrol, 5, (some .int))
set_option maxRecDepth 20000 in
theorem mX4_enrol : MV kX4_enrol 4 := ⟨⟨TB_of 432 (by decide +kernel) rfl, TB_of 65 (by decide +kernel) (by decide +kernel), by decide +kernel, by decide +kernel, by decide +kernel, by decide +kernel⟩, TB_of 430 (by decide +kernel) (by decide +kernel), TB_of 431 (by decide +kernel) (by decide +kernel)⟩
def kX2_enter : MK := (yX2_enter, cX2_enter, 5, (Option.none : Option Jvm.ClassFile.FieldType))
set_option maxRecDepth 20000 in
theorem mX2_enter : MV kX2_enter 4 := ⟨⟨TB_of 437 (by decide +kernel) rfl, TB_of 66 (by decide +kernel) (by decide +kernel), by decide +kernel, by decide +kernel, by decide +kernel, by decide +kernel⟩, TB_of 435 (by decide +kernel) (by decide +kernel), TB_of 436 (by decide +kernel) (by decide +kernel)⟩
def kX6_friend : MK := (yX6_friend, cX6_friend, 4, (some .int))
set_option maxRecDepth 20000 in
theorem mX6_friend : MV kX6_friend 2 := ⟨⟨TB_of 441 (by decide +kernel) rfl, TB_of 64 (by decide +kernel) (by decide +kernel), by decide +kernel, by decide +kernel, by decide +kernel, by decide +kernel⟩, TB_of 439 (by decide +kernel) (by decide +kernel), TB_of 440 (by decide +kernel) (by decide +kernel)⟩
def kX6_ask : MK := (yX6_ask, cX6_ask, 4, (some .int))
set_option maxRecDepth 20000 in
theorem mX6_ask : MV kX6_ask 2 := ⟨⟨TB_of 445 (by decide +kernel) rfl, TB_of 64 (by decide +kernel) (by decide +kernel), by decide +kernel, by decide +kernel, by decide +kernel, by decide +kernel⟩, TB_of 443 (by decide +kernel) (by decide +kernel), TB_of 444 (by decide +kernel) (by decide +kernel)⟩
def kX6_leastOf : MK := (yX6_leastOf, cX6_leastOf, 1, (some .int))
set_option maxRecDepth 20000 in
theorem mX6_leastOf : MS kX6_leastOf 1 := ⟨⟨TB_of 448 (by decide +kernel) rfl, TB_of 64 (by decide +kernel) (by decide +kernel), by decide +kernel, by decide +kernel, by decide +kernel, by decide +kernel⟩, TB_of 447 (by decide +kernel) (by decide +kernel)⟩
def kX6_mostOf : MK := (yX6_mostOf, cX6_mostOf, 1, (some .int))
set_option maxRecDepth 20000 in
theorem mX6_mostOf : MS kX6_mostOf 1 := ⟨⟨TB_of 453 (by decide +kernel) rfl, TB_of 64 (by decide +kernel) (by decide +kernel), by decide +kernel, by decide +kernel, by decide +kernel, by decide +kernel⟩, TB_of 452 (by decide +kernel) (by decide +kernel)⟩
def kX4_setting : MK := (yX4_setting, cX4_setting, 2, (some .int))
set_option maxRecDepth 20000 in
theorem mX4_setting : MV kX4_setting 1 := ⟨⟨TB_of 459 (by decide +kernel) rfl, TB_of 65 (by decide +kernel) (by decide +kernel), by decide +kernel, by decide +kernel, by decide +kernel, by decide +kernel⟩, TB_of 457 (by decide +kernel) (by decide +kernel), TB_of 458 (by decide +kernel) (by decide +kernel)⟩
def kX4_settle : MK := (yX4_settle, cX4_settle, 3, (Option.none : Option Jvm.ClassFile.FieldType))
set_option maxRecDepth 20000 in
theorem mX4_settle : MV kX4_settle 2 := ⟨⟨TB_of 463 (by decide +kernel) rfl, TB_of 65 (by decide +kernel) (by decide +kernel), by decide +kernel, by decide +kernel, by decide +kernel, by decide +kernel⟩, TB_of 461 (by decide +kernel) (by decide +kernel), TB_of 462 (by decide +kernel) (by decide +kernel)⟩
def kX6_go : MK := (yX6_go, cX6_go, 5, (some .int))
set_option maxRecDepth 20000 in
theorem mX6_go : MV kX6_go 2 := ⟨⟨TB_of 467 (by decide +kernel) rfl, TB_of 64 (by decide +kernel) (by decide +kernel), by decide +kernel, by decide +kernel, by decide +kernel, by decide +kernel⟩, TB_of 465 (by decide +kernel) (by decide +kernel), TB_of 466 (by decide +kernel) (by decide +kernel)⟩
def kX6_personOf : MK := (yX6_personOf, cX6_personOf, 3, (some .int))
set_option maxRecDepth 20000 in
theorem mX6_personOf : MV kX6_personOf 2 := ⟨⟨TB_of 471 (by decide +kernel) rfl, TB_of 64 (by decide +kernel) (by decide +kernel), by decide +kernel, by decide +kernel, by decide +kernel, by decide +kernel⟩, TB_of 469 (by decide +kernel) (by decide +kernel), TB_of 470 (by decide +kernel) (by decide +kernel)⟩
def kX2_mark : MK := (yX2_mark, cX2_mark, 2, (some .int))
set_option maxRecDepth 20000 in
theorem mX2_mark : MV kX2_mark 1 := ⟨⟨TB_of 475 (by decide +kernel) rfl, TB_of 66 (by decide +kernel) (by decide +kernel), by decide +kernel, by decide +kernel, by decide +kernel, by decide +kernel⟩, TB_of 473 (by decide +kernel) (by decide +kernel), TB_of 474 (by decide +kernel) (by decide +kernel)⟩
def kX6_school : MK := (yX6_school, cX6_school, 4, (some .int))
set_option maxRecDepth 20000 in
theorem mX6_school : MV kX6_school 1 := ⟨⟨TB_of 479 (by decide +kernel) rfl, TB_of 64 (by decide +kernel) (by decide +kernel), by decide +kernel, by decide +kernel, by decide +kernel, by decide +kernel⟩, TB_of 477 (by decide +kernel) (by decide +kernel), TB_of 478 (by decide +kernel) (by decide +kernel)⟩
def kX3_read : MK := (yX3_read, cX3_read, 4, (some .int))
set_option maxRecDepth 20000 in
theorem mX3_read : MV kX3_read 2 := ⟨⟨TB_of 483 (by decide +kernel) rfl, TB_of 69 (by decide +kernel) (by decide +kernel), by decide +kernel, by decide +kernel, by decide +kernel, by decide +kernel⟩, TB_of 481 (by decide +kernel) (by decide +kernel), TB_of 482 (by decide +kernel) (by decide +kernel)⟩
def kX4_become : MK := (yX4_become, cX4_become, 3, (Option.none : Option Jvm.ClassFile.FieldType))
set_option maxRecDepth 20000 in
theorem mX4_become : MV kX4_become 1 := ⟨⟨TB_of 487 (by decide +kernel) rfl, TB_of 65 (by decide +kernel) (by decide +kernel), by decide +kernel, by decide +kernel, by decide +kernel, by decide +kernel⟩, TB_of 485 (by decide +kernel) (by decide +kernel), TB_of 486 (by decide +kernel) (by decide +kernel)⟩
def kX2_become : MK := (yX2_become, cX2_become, 2, (Option.none : Option Jvm.ClassFile.FieldType))
set_option maxRecDepth 20000 in
theorem mX2_become : MV kX2_become 1 := ⟨⟨TB_of 491 (by decide +kernel) rfl, TB_of 66 (by decide +kernel) (by decide +kernel), by decide +kernel, by decide +kernel, by decide +kernel, by decide +kernel⟩, TB_of 489 (by decide +kernel) (by decide +kernel), TB_of 490 (by decide +kernel) (by decide +kernel)⟩
def kX5_intAt : MK := (yX5_intAt, cX5_intAt, 2, (some .int))
set_option maxRecDepth 20000 in
theorem mX5_intAt : MV kX5_intAt 1 := ⟨⟨TB_of 495 (by decide +kernel) rfl, TB_of 68 (by decide +kernel) (by decide +kernel), by decide +kernel, by decide +kernel, by decide +kernel, by decide +kernel⟩, TB_of 493 (by decide +kernel) (by decide +kernel), TB_of 494 (by decide +kernel) (by decide +kernel)⟩
def kX3_readItem : MK := (yX3_readItem, cX3_readItem, 3, (some .boolean))
set_option maxRecDepth 20000 in
theorem mX3_readItem : MV kX3_readItem 0 := ⟨⟨TB_of 500 (by decide +kernel) rfl, TB_of 69 (by decide +kernel) (by decide +kernel), by decide +kernel, by decide +kernel, by decide +kernel, by decide +kernel⟩, TB_of 499 (by decide +kernel) (by decide +kernel), TB_of 4 (by decide +kernel) (by decide +kernel)⟩
def kX3_readWord : MK := (yX3_readWord, cX3_readWord, 4, (some .int))
set_option maxRecDepth 20000 in
theorem mX3_readWord : MV kX3_readWord 0 := ⟨⟨TB_of 504 (by decide +kernel) rfl, TB_of 69 (by decide +kernel) (by decide +kernel), by decide +kernel, by decide +kernel, by decide +kernel, by decide +kernel⟩, TB_of 503 (by decide +kernel) (by decide +kernel), TB_of 5 (by decide +kernel) (by decide +kernel)⟩
def kX3_letter : MK := (yX3_letter, cX3_letter, 1, (some .int))
set_option maxRecDepth 20000 in
theorem mX3_letter : MV kX3_letter 0 := ⟨⟨TB_of 508 (by decide +kernel) rfl, TB_of 69 (by decide +kernel) (by decide +kernel), by decide +kernel, by decide +kernel, by decide +kernel, by decide +kernel⟩, TB_of 507 (by decide +kernel) (by decide +kernel), TB_of 6 (by decide +kernel) (by decide +kernel)⟩
def kX3_wordOf : MK := (yX3_wordOf, cX3_wordOf, 1, (some (.object "java/lang/String")))
set_option maxRecDepth 20000 in
theorem mX3_wordOf : MS kX3_wordOf 1 := ⟨⟨TB_of 511 (by decide +kernel) rfl, TB_of 69 (by decide +kernel) (by decide +kernel), by decide +kernel, by decide +kernel, by decide +kernel, by decide +kernel⟩, TB_of 510 (by decide +kernel) (by decide +kernel)⟩
def kX3_fail : MK := (yX3_fail, cX3_fail, 2, (some .boolean))
set_option maxRecDepth 20000 in
theorem mX3_fail : MV kX3_fail 1 := ⟨⟨TB_of 562 (by decide +kernel) rfl, TB_of 69 (by decide +kernel) (by decide +kernel), by decide +kernel, by decide +kernel, by decide +kernel, by decide +kernel⟩, TB_of 561 (by decide +kernel) (by decide +kernel), TB_of 7 (by decide +kernel) (by decide +kernel)⟩
def kX3_readSign : MK := (yX3_readSign, cX3_readSign, 2, (some .boolean))
set_option maxRecDepth 20000 in
theorem mX3_readSign : MV kX3_readSign 1 := ⟨⟨TB_of 574 (by decide +kernel) rfl, TB_of 69 (by decide +kernel) (by decide +kernel), by decide +kernel, by decide +kernel, by decide +kernel, by decide +kernel⟩, TB_of 573 (by decide +kernel) (by decide +kernel), TB_of 8 (by decide +kernel) (by decide +kernel)⟩
def kX3_readPerson : MK := (yX3_readPerson, cX3_readPerson, 5, (some .boolean))
set_option maxRecDepth 20000 in
theorem mX3_readPerson : MV kX3_readPerson 0 := ⟨⟨TB_of 579 (by decide +kernel) rfl, TB_of 69 (by decide +kernel) (by decide +kernel), by decide +kernel, by decide +kernel, by decide +kernel, by decide +kernel⟩, TB_of 578 (by decide +kernel) (by decide +kernel), TB_of 9 (by decide +kernel) (by decide +kernel)⟩
def kX3_readNumber : MK := (yX3_readNumber, cX3_readNumber, 4, (some .int))
set_option maxRecDepth 20000 in
theorem mX3_readNumber : MV kX3_readNumber 2 := ⟨⟨TB_of 584 (by decide +kernel) rfl, TB_of 69 (by decide +kernel) (by decide +kernel), by decide +kernel, by decide +kernel, by decide +kernel, by decide +kernel⟩, TB_of 583 (by decide +kernel) (by decide +kernel), TB_of 10 (by decide +kernel) (by decide +kernel)⟩
def kX3_isDigit : MK := (yX3_isDigit, cX3_isDigit, 1, (some .boolean))
set_option maxRecDepth 20000 in
theorem mX3_isDigit : MV kX3_isDigit 0 := ⟨⟨TB_of 588 (by decide +kernel) rfl, TB_of 69 (by decide +kernel) (by decide +kernel), by decide +kernel, by decide +kernel, by decide +kernel, by decide +kernel⟩, TB_of 587 (by decide +kernel) (by decide +kernel), TB_of 11 (by decide +kernel) (by decide +kernel)⟩
def kX3_readDigit : MK := (yX3_readDigit, cX3_readDigit, 2, (some .int))
set_option maxRecDepth 20000 in
theorem mX3_readDigit : MV kX3_readDigit 0 := ⟨⟨TB_of 592 (by decide +kernel) rfl, TB_of 69 (by decide +kernel) (by decide +kernel), by decide +kernel, by decide +kernel, by decide +kernel, by decide +kernel⟩, TB_of 591 (by decide +kernel) (by decide +kernel), TB_of 12 (by decide +kernel) (by decide +kernel)⟩
def kX3_readFriend : MK := (yX3_readFriend, cX3_readFriend, 3, (some .boolean))
set_option maxRecDepth 20000 in
theorem mX3_readFriend : MV kX3_readFriend 0 := ⟨⟨TB_of 597 (by decide +kernel) rfl, TB_of 69 (by decide +kernel) (by decide +kernel), by decide +kernel, by decide +kernel, by decide +kernel, by decide +kernel⟩, TB_of 596 (by decide +kernel) (by decide +kernel), TB_of 13 (by decide +kernel) (by decide +kernel)⟩
def kX3_readGone : MK := (yX3_readGone, cX3_readGone, 2, (some .boolean))
set_option maxRecDepth 20000 in
theorem mX3_readGone : MV kX3_readGone 0 := ⟨⟨TB_of 602 (by decide +kernel) rfl, TB_of 69 (by decide +kernel) (by decide +kernel), by decide +kernel, by decide +kernel, by decide +kernel, by decide +kernel⟩, TB_of 601 (by decide +kernel) (by decide +kernel), TB_of 14 (by decide +kernel) (by decide +kernel)⟩
def kX3_readSetting : MK := (yX3_readSetting, cX3_readSetting, 3, (some .boolean))
set_option maxRecDepth 20000 in
theorem mX3_readSetting : MV kX3_readSetting 1 := ⟨⟨TB_of 606 (by decide +kernel) rfl, TB_of 69 (by decide +kernel) (by decide +kernel), by decide +kernel, by decide +kernel, by decide +kernel, by decide +kernel⟩, TB_of 605 (by decide +kernel) (by decide +kernel), TB_of 15 (by decide +kernel) (by decide +kernel)⟩
def kX6_fault : MK := (yX6_fault, cX6_fault, 1, (some .int))
set_option maxRecDepth 20000 in
theorem mX6_fault : MV kX6_fault 0 := ⟨⟨TB_of 615 (by decide +kernel) rfl, TB_of 64 (by decide +kernel) (by decide +kernel), by decide +kernel, by decide +kernel, by decide +kernel, by decide +kernel⟩, TB_of 613 (by decide +kernel) (by decide +kernel), TB_of 614 (by decide +kernel) (by decide +kernel)⟩
def kX6_will : MK := (yX6_will, cX6_will, 2, (some .int))
set_option maxRecDepth 20000 in
theorem mX6_will : MV kX6_will 1 := ⟨⟨TB_of 619 (by decide +kernel) rfl, TB_of 64 (by decide +kernel) (by decide +kernel), by decide +kernel, by decide +kernel, by decide +kernel, by decide +kernel⟩, TB_of 617 (by decide +kernel) (by decide +kernel), TB_of 618 (by decide +kernel) (by decide +kernel)⟩
def kX4_pullOn : MK := (yX4_pullOn, cX4_pullOn, 2, (some .int))
set_option maxRecDepth 20000 in
theorem mX4_pullOn : MV kX4_pullOn 1 := ⟨⟨TB_of 623 (by decide +kernel) rfl, TB_of 65 (by decide +kernel) (by decide +kernel), by decide +kernel, by decide +kernel, by decide +kernel, by decide +kernel⟩, TB_of 621 (by decide +kernel) (by decide +kernel), TB_of 622 (by decide +kernel) (by decide +kernel)⟩
def kX2_pullOn : MK := (yX2_pullOn, cX2_pullOn, 6, (some .int))
set_option maxRecDepth 20000 in
theorem mX2_pullOn : MV kX2_pullOn 3 := ⟨⟨TB_of 627 (by decide +kernel) rfl, TB_of 66 (by decide +kernel) (by decide +kernel), by decide +kernel, by decide +kernel, by decide +kernel, by decide +kernel⟩, TB_of 625 (by decide +kernel) (by decide +kernel), TB_of 626 (by decide +kernel) (by decide +kernel)⟩
def kX2_isMatchDay : MK := (yX2_isMatchDay, cX2_isMatchDay, 3, (some .boolean))
set_option maxRecDepth 20000 in
theorem mX2_isMatchDay : MV kX2_isMatchDay 1 := ⟨⟨TB_of 637 (by decide +kernel) rfl, TB_of 66 (by decide +kernel) (by decide +kernel), by decide +kernel, by decide +kernel, by decide +kernel, by decide +kernel⟩, TB_of 636 (by decide +kernel) (by decide +kernel), TB_of 16 (by decide +kernel) (by decide +kernel)⟩
def kX6_tonight : MK := (yX6_tonight, cX6_tonight, 4, (some .int))
set_option maxRecDepth 20000 in
theorem mX6_tonight : MV kX6_tonight 1 := ⟨⟨TB_of 641 (by decide +kernel) rfl, TB_of 64 (by decide +kernel) (by decide +kernel), by decide +kernel, by decide +kernel, by decide +kernel, by decide +kernel⟩, TB_of 639 (by decide +kernel) (by decide +kernel), TB_of 640 (by decide +kernel) (by decide +kernel)⟩
def kX4_comers : MK := (yX4_comers, cX4_comers, 5, (some .int))
set_option maxRecDepth 20000 in
theorem mX4_comers : MV kX4_comers 1 := ⟨⟨TB_of 645 (by decide +kernel) rfl, TB_of 65 (by decide +kernel) (by decide +kernel), by decide +kernel, by decide +kernel, by decide +kernel, by decide +kernel⟩, TB_of 643 (by decide +kernel) (by decide +kernel), TB_of 644 (by decide +kernel) (by decide +kernel)⟩
def kX6_isIn : MK := (yX6_isIn, cX6_isIn, 2, (some .boolean))
set_option maxRecDepth 20000 in
theorem mX6_isIn : MS kX6_isIn 2 := ⟨⟨TB_of 649 (by decide +kernel) rfl, TB_of 64 (by decide +kernel) (by decide +kernel), by decide +kernel, by decide +kernel, by decide +kernel, by decide +kernel⟩, TB_of 648 (by decide +kernel) (by decide +kernel)⟩
def kX4_present : MK := (yX4_present, cX4_present, 3, (some .int))
set_option maxRecDepth 20000 in
theorem mX4_present : MV kX4_present 0 := ⟨⟨TB_of 653 (by decide +kernel) rfl, TB_of 65 (by decide +kernel) (by decide +kernel), by decide +kernel, by decide +kernel, by decide +kernel, by decide +kernel⟩, TB_of 651 (by decide +kernel) (by decide +kernel), TB_of 652 (by decide +kernel) (by decide +kernel)⟩
def kX4_stillComing : MK := (yX4_stillComing, cX4_stillComing, 4, (some .int))
set_option maxRecDepth 20000 in
theorem mX4_stillComing : MV kX4_stillComing 1 := ⟨⟨TB_of 657 (by decide +kernel) rfl, TB_of 65 (by decide +kernel) (by decide +kernel), by decide +kernel, by decide +kernel, by decide +kernel, by decide +kernel⟩, TB_of 656 (by decide +kernel) (by decide +kernel), TB_of 17 (by decide +kernel) (by decide +kernel)⟩
def kX4_comesWith : MK := (yX4_comesWith, cX4_comesWith, 4, (some .boolean))
set_option maxRecDepth 20000 in
theorem mX4_comesWith : MV kX4_comesWith 2 := ⟨⟨TB_of 661 (by decide +kernel) rfl, TB_of 65 (by decide +kernel) (by decide +kernel), by decide +kernel, by decide +kernel, by decide +kernel, by decide +kernel⟩, TB_of 660 (by decide +kernel) (by decide +kernel), TB_of 18 (by decide +kernel) (by decide +kernel)⟩
def kX4_seatedOf : MK := (yX4_seatedOf, cX4_seatedOf, 5, (some .int))
set_option maxRecDepth 20000 in
theorem mX4_seatedOf : MV kX4_seatedOf 1 := ⟨⟨TB_of 666 (by decide +kernel) rfl, TB_of 65 (by decide +kernel) (by decide +kernel), by decide +kernel, by decide +kernel, by decide +kernel, by decide +kernel⟩, TB_of 664 (by decide +kernel) (by decide +kernel), TB_of 665 (by decide +kernel) (by decide +kernel)⟩
def kX6_ahead : MK := (yX6_ahead, cX6_ahead, 3, (some .int))
set_option maxRecDepth 20000 in
theorem mX6_ahead : MV kX6_ahead 2 := ⟨⟨TB_of 670 (by decide +kernel) rfl, TB_of 64 (by decide +kernel) (by decide +kernel), by decide +kernel, by decide +kernel, by decide +kernel, by decide +kernel⟩, TB_of 668 (by decide +kernel) (by decide +kernel), TB_of 669 (by decide +kernel) (by decide +kernel)⟩
def kX6_isStretch : MK := (yX6_isStretch, cX6_isStretch, 1, (some .boolean))
set_option maxRecDepth 20000 in
theorem mX6_isStretch : MS kX6_isStretch 1 := ⟨⟨TB_of 673 (by decide +kernel) rfl, TB_of 64 (by decide +kernel) (by decide +kernel), by decide +kernel, by decide +kernel, by decide +kernel, by decide +kernel⟩, TB_of 672 (by decide +kernel) (by decide +kernel)⟩
def kX1_watch : MK := (yX1_watch, cX1_watch, 8, (Option.none : Option Jvm.ClassFile.FieldType))
set_option maxRecDepth 20000 in
theorem mX1_watch : MV kX1_watch 2 := ⟨⟨TB_of 677 (by decide +kernel) rfl, TB_of 67 (by decide +kernel) (by decide +kernel), by decide +kernel, by decide +kernel, by decide +kernel, by decide +kernel⟩, TB_of 675 (by decide +kernel) (by decide +kernel), TB_of 676 (by decide +kernel) (by decide +kernel)⟩
def kJ6_bitCount_0f7a4 : MK := (yJ6_bitCount_0f7a4, cJ6_bitCount_0f7a4, 1, (some .int))
set_option maxRecDepth 20000 in
theorem mJ6_bitCount_0f7a4 : MS kJ6_bitCount_0f7a4 1 := ⟨⟨TB_of 682 (by decide +kernel) rfl, TB_of 79 (by decide +kernel) (by decide +kernel), by decide +kernel, by decide +kernel, by decide +kernel, by decide +kernel⟩, TB_of 681 (by decide +kernel) (by decide +kernel)⟩
def kX4_endEvening : MK := (yX4_endEvening, cX4_endEvening, 3, (Option.none : Option Jvm.ClassFile.FieldType))
set_option maxRecDepth 20000 in
theorem mX4_endEvening : MV kX4_endEvening 1 := ⟨⟨TB_of 689 (by decide +kernel) rfl, TB_of 65 (by decide +kernel) (by decide +kernel), by decide +kernel, by decide +kernel, by decide +kernel, by decide +kernel⟩, TB_of 687 (by decide +kernel) (by decide +kernel), TB_of 688 (by decide +kernel) (by decide +kernel)⟩
def kX2_sat : MK := (yX2_sat, cX2_sat, 1, (Option.none : Option Jvm.ClassFile.FieldType))
set_option maxRecDepth 20000 in
theorem mX2_sat : MV kX2_sat 0 := ⟨⟨TB_of 693 (by decide +kernel) rfl, TB_of 66 (by decide +kernel) (by decide +kernel), by decide +kernel, by decide +kernel, by decide +kernel, by decide +kernel⟩, TB_of 691 (by decide +kernel) (by decide +kernel), TB_of 692 (by decide +kernel) (by decide +kernel)⟩
def kX2_stayedAway : MK := (yX2_stayedAway, cX2_stayedAway, 1, (Option.none : Option Jvm.ClassFile.FieldType))
set_option maxRecDepth 20000 in
theorem mX2_stayedAway : MV kX2_stayedAway 0 := ⟨⟨TB_of 700 (by decide +kernel) rfl, TB_of 66 (by decide +kernel) (by decide +kernel), by decide +kernel, by decide +kernel, by decide +kernel, by decide +kernel⟩, TB_of 698 (by decide +kernel) (by decide +kernel), TB_of 699 (by decide +kernel) (by decide +kernel)⟩
def kX6_worst : MK := (yX6_worst, cX6_worst, 3, (some .int))
set_option maxRecDepth 20000 in
theorem mX6_worst : MV kX6_worst 2 := ⟨⟨TB_of 706 (by decide +kernel) rfl, TB_of 64 (by decide +kernel) (by decide +kernel), by decide +kernel, by decide +kernel, by decide +kernel, by decide +kernel⟩, TB_of 704 (by decide +kernel) (by decide +kernel), TB_of 705 (by decide +kernel) (by decide +kernel)⟩
def kX6_ones : MK := (yX6_ones, cX6_ones, 4, (some .int))
set_option maxRecDepth 20000 in
theorem mX6_ones : MV kX6_ones 3 := ⟨⟨TB_of 710 (by decide +kernel) rfl, TB_of 64 (by decide +kernel) (by decide +kernel), by decide +kernel, by decide +kernel, by decide +kernel, by decide +kernel⟩, TB_of 708 (by decide +kernel) (by decide +kernel), TB_of 709 (by decide +kernel) (by decide +kernel)⟩
def kX6_ring : MK := (yX6_ring, cX6_ring, 8, (some .int))
set_option maxRecDepth 20000 in
theorem mX6_ring : MV kX6_ring 2 := ⟨⟨TB_of 714 (by decide +kernel) rfl, TB_of 64 (by decide +kernel) (by decide +kernel), by decide +kernel, by decide +kernel, by decide +kernel, by decide +kernel⟩, TB_of 712 (by decide +kernel) (by decide +kernel), TB_of 713 (by decide +kernel) (by decide +kernel)⟩
def kX6_begin : MK := (yX6_begin, cX6_begin, 5, (some .int))
set_option maxRecDepth 20000 in
theorem mX6_begin : MV kX6_begin 1 := ⟨⟨TB_of 718 (by decide +kernel) rfl, TB_of 64 (by decide +kernel) (by decide +kernel), by decide +kernel, by decide +kernel, by decide +kernel, by decide +kernel⟩, TB_of 716 (by decide +kernel) (by decide +kernel), TB_of 717 (by decide +kernel) (by decide +kernel)⟩
def kX6_room : MK := (yX6_room, cX6_room, 3, (some .int))
set_option maxRecDepth 20000 in
theorem mX6_room : MV kX6_room 1 := ⟨⟨TB_of 722 (by decide +kernel) rfl, TB_of 64 (by decide +kernel) (by decide +kernel), by decide +kernel, by decide +kernel, by decide +kernel, by decide +kernel⟩, TB_of 720 (by decide +kernel) (by decide +kernel), TB_of 721 (by decide +kernel) (by decide +kernel)⟩
def kX6_take : MK := (yX6_take, cX6_take, 6, (some .int))
set_option maxRecDepth 20000 in
theorem mX6_take : MV kX6_take 1 := ⟨⟨TB_of 726 (by decide +kernel) rfl, TB_of 64 (by decide +kernel) (by decide +kernel), by decide +kernel, by decide +kernel, by decide +kernel, by decide +kernel⟩, TB_of 724 (by decide +kernel) (by decide +kernel), TB_of 725 (by decide +kernel) (by decide +kernel)⟩
def kX4_dismissFrom : MK := (yX4_dismissFrom, cX4_dismissFrom, 3, (Option.none : Option Jvm.ClassFile.FieldType))
set_option maxRecDepth 20000 in
theorem mX4_dismissFrom : MV kX4_dismissFrom 1 := ⟨⟨TB_of 730 (by decide +kernel) rfl, TB_of 65 (by decide +kernel) (by decide +kernel), by decide +kernel, by decide +kernel, by decide +kernel, by decide +kernel⟩, TB_of 728 (by decide +kernel) (by decide +kernel), TB_of 729 (by decide +kernel) (by decide +kernel)⟩
def kX6_price : MK := (yX6_price, cX6_price, 3, (some .int))
set_option maxRecDepth 20000 in
theorem mX6_price : MV kX6_price 1 := ⟨⟨TB_of 735 (by decide +kernel) rfl, TB_of 64 (by decide +kernel) (by decide +kernel), by decide +kernel, by decide +kernel, by decide +kernel, by decide +kernel⟩, TB_of 733 (by decide +kernel) (by decide +kernel), TB_of 734 (by decide +kernel) (by decide +kernel)⟩
def kX4_payForAll : MK := (yX4_payForAll, cX4_payForAll, 3, (Option.none : Option Jvm.ClassFile.FieldType))
set_option maxRecDepth 20000 in
theorem mX4_payForAll : MV kX4_payForAll 1 := ⟨⟨TB_of 739 (by decide +kernel) rfl, TB_of 65 (by decide +kernel) (by decide +kernel), by decide +kernel, by decide +kernel, by decide +kernel, by decide +kernel⟩, TB_of 737 (by decide +kernel) (by decide +kernel), TB_of 738 (by decide +kernel) (by decide +kernel)⟩
def kX6_lost : MK := (yX6_lost, cX6_lost, 2, (some .int))
set_option maxRecDepth 20000 in
theorem mX6_lost : MV kX6_lost 1 := ⟨⟨TB_of 743 (by decide +kernel) rfl, TB_of 64 (by decide +kernel) (by decide +kernel), by decide +kernel, by decide +kernel, by decide +kernel, by decide +kernel⟩, TB_of 741 (by decide +kernel) (by decide +kernel), TB_of 742 (by decide +kernel) (by decide +kernel)⟩
def kX6_pairs : MK := (yX6_pairs, cX6_pairs, 4, (some .int))
set_option maxRecDepth 20000 in
theorem mX6_pairs : MV kX6_pairs 0 := ⟨⟨TB_of 747 (by decide +kernel) rfl, TB_of 64 (by decide +kernel) (by decide +kernel), by decide +kernel, by decide +kernel, by decide +kernel, by decide +kernel⟩, TB_of 745 (by decide +kernel) (by decide +kernel), TB_of 746 (by decide +kernel) (by decide +kernel)⟩
def kX6_chain : MK := (yX6_chain, cX6_chain, 5, (some .int))
set_option maxRecDepth 20000 in
theorem mX6_chain : MV kX6_chain 1 := ⟨⟨TB_of 751 (by decide +kernel) rfl, TB_of 64 (by decide +kernel) (by decide +kernel), by decide +kernel, by decide +kernel, by decide +kernel, by decide +kernel⟩, TB_of 749 (by decide +kernel) (by decide +kernel), TB_of 750 (by decide +kernel) (by decide +kernel)⟩
def kX6_keeps : MK := (yX6_keeps, cX6_keeps, 2, (some .int))
set_option maxRecDepth 20000 in
theorem mX6_keeps : MV kX6_keeps 1 := ⟨⟨TB_of 756 (by decide +kernel) rfl, TB_of 64 (by decide +kernel) (by decide +kernel), by decide +kernel, by decide +kernel, by decide +kernel, by decide +kernel⟩, TB_of 754 (by decide +kernel) (by decide +kernel), TB_of 755 (by decide +kernel) (by decide +kernel)⟩
def kX6_heldBy : MK := (yX6_heldBy, cX6_heldBy, 3, (some .int))
set_option maxRecDepth 20000 in
theorem mX6_heldBy : MV kX6_heldBy 1 := ⟨⟨TB_of 760 (by decide +kernel) rfl, TB_of 64 (by decide +kernel) (by decide +kernel), by decide +kernel, by decide +kernel, by decide +kernel, by decide +kernel⟩, TB_of 759 (by decide +kernel) (by decide +kernel), TB_of 19 (by decide +kernel) (by decide +kernel)⟩
def kX6_keep : MK := (yX6_keep, cX6_keep, 5, (some .int))
set_option maxRecDepth 20000 in
theorem mX6_keep : MV kX6_keep 0 := ⟨⟨TB_of 764 (by decide +kernel) rfl, TB_of 64 (by decide +kernel) (by decide +kernel), by decide +kernel, by decide +kernel, by decide +kernel, by decide +kernel⟩, TB_of 762 (by decide +kernel) (by decide +kernel), TB_of 763 (by decide +kernel) (by decide +kernel)⟩
def kX6_friends : MK := (yX6_friends, cX6_friends, 7, (some .int))
set_option maxRecDepth 20000 in
theorem mX6_friends : MV kX6_friends 3 := ⟨⟨TB_of 768 (by decide +kernel) rfl, TB_of 64 (by decide +kernel) (by decide +kernel), by decide +kernel, by decide +kernel, by decide +kernel, by decide +kernel⟩, TB_of 766 (by decide +kernel) (by decide +kernel), TB_of 767 (by decide +kernel) (by decide +kernel)⟩
def kX6_whyNoRegister : MK := (yX6_whyNoRegister, cX6_whyNoRegister, 4, (some .int))
set_option maxRecDepth 20000 in
theorem mX6_whyNoRegister : MV kX6_whyNoRegister 2 := ⟨⟨TB_of 772 (by decide +kernel) rfl, TB_of 64 (by decide +kernel) (by decide +kernel), by decide +kernel, by decide +kernel, by decide +kernel, by decide +kernel⟩, TB_of 771 (by decide +kernel) (by decide +kernel), TB_of 20 (by decide +kernel) (by decide +kernel)⟩
def kX1_firstWrong : MK := (yX1_firstWrong, cX1_firstWrong, 6, (some .int))
set_option maxRecDepth 20000 in
theorem mX1_firstWrong : MV kX1_firstWrong 3 := ⟨⟨TB_of 776 (by decide +kernel) rfl, TB_of 67 (by decide +kernel) (by decide +kernel), by decide +kernel, by decide +kernel, by decide +kernel, by decide +kernel⟩, TB_of 774 (by decide +kernel) (by decide +kernel), TB_of 775 (by decide +kernel) (by decide +kernel)⟩
def kX6_judge : MK := (yX6_judge, cX6_judge, 4, (some .int))
set_option maxRecDepth 20000 in
theorem mX6_judge : MV kX6_judge 2 := ⟨⟨TB_of 781 (by decide +kernel) rfl, TB_of 64 (by decide +kernel) (by decide +kernel), by decide +kernel, by decide +kernel, by decide +kernel, by decide +kernel⟩, TB_of 779 (by decide +kernel) (by decide +kernel), TB_of 780 (by decide +kernel) (by decide +kernel)⟩
def kX6_evenings : MK := (yX6_evenings, cX6_evenings, 2, (some .int))
set_option maxRecDepth 20000 in
theorem mX6_evenings : MV kX6_evenings 1 := ⟨⟨TB_of 785 (by decide +kernel) rfl, TB_of 64 (by decide +kernel) (by decide +kernel), by decide +kernel, by decide +kernel, by decide +kernel, by decide +kernel⟩, TB_of 783 (by decide +kernel) (by decide +kernel), TB_of 784 (by decide +kernel) (by decide +kernel)⟩
def kX6_drawn : MK := (yX6_drawn, cX6_drawn, 4, (some .int))
set_option maxRecDepth 20000 in
theorem mX6_drawn : MV kX6_drawn 1 := ⟨⟨TB_of 789 (by decide +kernel) rfl, TB_of 64 (by decide +kernel) (by decide +kernel), by decide +kernel, by decide +kernel, by decide +kernel, by decide +kernel⟩, TB_of 787 (by decide +kernel) (by decide +kernel), TB_of 788 (by decide +kernel) (by decide +kernel)⟩
def kX4_draw : MK := (yX4_draw, cX4_draw, 2, (some .int))
set_option maxRecDepth 20000 in
theorem mX4_draw : MV kX4_draw 1 := ⟨⟨TB_of 793 (by decide +kernel) rfl, TB_of 65 (by decide +kernel) (by decide +kernel), by decide +kernel, by decide +kernel, by decide +kernel, by decide +kernel⟩, TB_of 791 (by decide +kernel) (by decide +kernel), TB_of 792 (by decide +kernel) (by decide +kernel)⟩
def kX6_seed : MK := (yX6_seed, cX6_seed, 3, (some .int))
set_option maxRecDepth 20000 in
theorem mX6_seed : MV kX6_seed 1 := ⟨⟨TB_of 798 (by decide +kernel) rfl, TB_of 64 (by decide +kernel) (by decide +kernel), by decide +kernel, by decide +kernel, by decide +kernel, by decide +kernel⟩, TB_of 796 (by decide +kernel) (by decide +kernel), TB_of 797 (by decide +kernel) (by decide +kernel)⟩
def kX6_act : MK := (yX6_act, cX6_act, 4, (some .int))
set_option maxRecDepth 20000 in
theorem mX6_act : MV kX6_act 3 := ⟨⟨TB_of 802 (by decide +kernel) rfl, TB_of 64 (by decide +kernel) (by decide +kernel), by decide +kernel, by decide +kernel, by decide +kernel, by decide +kernel⟩, TB_of 800 (by decide +kernel) (by decide +kernel), TB_of 801 (by decide +kernel) (by decide +kernel)⟩
def kX0_forget : MK := (yX0_forget, cX0_forget, 1, (Option.none : Option Jvm.ClassFile.FieldType))
set_option maxRecDepth 20000 in
theorem mX0_forget : MV kX0_forget 0 := ⟨⟨TB_of 806 (by decide +kernel) rfl, TB_of 70 (by decide +kernel) (by decide +kernel), by decide +kernel, by decide +kernel, by decide +kernel, by decide +kernel⟩, TB_of 804 (by decide +kernel) (by decide +kernel), TB_of 805 (by decide +kernel) (by decide +kernel)⟩
def kX0_isMove : MK := (yX0_isMove, cX0_isMove, 1, (some .boolean))
set_option maxRecDepth 20000 in
theorem mX0_isMove : MS kX0_isMove 1 := ⟨⟨TB_of 809 (by decide +kernel) rfl, TB_of 70 (by decide +kernel) (by decide +kernel), by decide +kernel, by decide +kernel, by decide +kernel, by decide +kernel⟩, TB_of 808 (by decide +kernel) (by decide +kernel)⟩
def kX0_run : MK := (yX0_run, cX0_run, 5, (some .int))
set_option maxRecDepth 20000 in
theorem mX0_run : MV kX0_run 4 := ⟨⟨TB_of 813 (by decide +kernel) rfl, TB_of 70 (by decide +kernel) (by decide +kernel), by decide +kernel, by decide +kernel, by decide +kernel, by decide +kernel⟩, TB_of 811 (by decide +kernel) (by decide +kernel), TB_of 812 (by decide +kernel) (by decide +kernel)⟩
def kX0_call : MK := (yX0_call, cX0_call, 7, (some .int))
set_option maxRecDepth 20000 in
theorem mX0_call : MV kX0_call 4 := ⟨⟨TB_of 817 (by decide +kernel) rfl, TB_of 70 (by decide +kernel) (by decide +kernel), by decide +kernel, by decide +kernel, by decide +kernel, by decide +kernel⟩, TB_of 816 (by decide +kernel) (by decide +kernel), TB_of 21 (by decide +kernel) (by decide +kernel)⟩
def kX0_bodyOf : MK := (yX0_bodyOf, cX0_bodyOf, 3, (some .int))
set_option maxRecDepth 20000 in
theorem mX0_bodyOf : MS kX0_bodyOf 2 := ⟨⟨TB_of 821 (by decide +kernel) rfl, TB_of 70 (by decide +kernel) (by decide +kernel), by decide +kernel, by decide +kernel, by decide +kernel, by decide +kernel⟩, TB_of 820 (by decide +kernel) (by decide +kernel)⟩
def kX0_note : MK := (yX0_note, cX0_note, 2, (Option.none : Option Jvm.ClassFile.FieldType))
set_option maxRecDepth 20000 in
theorem mX0_note : MV kX0_note 1 := ⟨⟨TB_of 828 (by decide +kernel) rfl, TB_of 70 (by decide +kernel) (by decide +kernel), by decide +kernel, by decide +kernel, by decide +kernel, by decide +kernel⟩, TB_of 827 (by decide +kernel) (by decide +kernel), TB_of 22 (by decide +kernel) (by decide +kernel)⟩
def kX0_perform : MK := (yX0_perform, cX0_perform, 4, (some .int))
set_option maxRecDepth 20000 in
theorem mX0_perform : MV kX0_perform 3 := ⟨⟨TB_of 832 (by decide +kernel) rfl, TB_of 70 (by decide +kernel) (by decide +kernel), by decide +kernel, by decide +kernel, by decide +kernel, by decide +kernel⟩, TB_of 831 (by decide +kernel) (by decide +kernel), TB_of 23 (by decide +kernel) (by decide +kernel)⟩
def kX6_trace : MK := (yX6_trace, cX6_trace, 2, (some .int))
set_option maxRecDepth 20000 in
theorem mX6_trace : MV kX6_trace 1 := ⟨⟨TB_of 836 (by decide +kernel) rfl, TB_of 64 (by decide +kernel) (by decide +kernel), by decide +kernel, by decide +kernel, by decide +kernel, by decide +kernel⟩, TB_of 834 (by decide +kernel) (by decide +kernel), TB_of 835 (by decide +kernel) (by decide +kernel)⟩
def kX0_bodyAt : MK := (yX0_bodyAt, cX0_bodyAt, 2, (some .int))
set_option maxRecDepth 20000 in
theorem mX0_bodyAt : MV kX0_bodyAt 1 := ⟨⟨TB_of 840 (by decide +kernel) rfl, TB_of 70 (by decide +kernel) (by decide +kernel), by decide +kernel, by decide +kernel, by decide +kernel, by decide +kernel⟩, TB_of 838 (by decide +kernel) (by decide +kernel), TB_of 839 (by decide +kernel) (by decide +kernel)⟩
def kX6_image : MK := (yX6_image, cX6_image, 1, (some .int))
set_option maxRecDepth 20000 in
theorem mX6_image : MV kX6_image 0 := ⟨⟨TB_of 844 (by decide +kernel) rfl, TB_of 64 (by decide +kernel) (by decide +kernel), by decide +kernel, by decide +kernel, by decide +kernel, by decide +kernel⟩, TB_of 842 (by decide +kernel) (by decide +kernel), TB_of 843 (by decide +kernel) (by decide +kernel)⟩
def kX6_restore : MK := (yX6_restore, cX6_restore, 3, (some .int))
set_option maxRecDepth 20000 in
theorem mX6_restore : MV kX6_restore 0 := ⟨⟨TB_of 848 (by decide +kernel) rfl, TB_of 64 (by decide +kernel) (by decide +kernel), by decide +kernel, by decide +kernel, by decide +kernel, by decide +kernel⟩, TB_of 846 (by decide +kernel) (by decide +kernel), TB_of 847 (by decide +kernel) (by decide +kernel)⟩
def kX6_status : MK := (yX6_status, cX6_status, 2, (some .int))
set_option maxRecDepth 20000 in
theorem mX6_status : MV kX6_status 1 := ⟨⟨TB_of 852 (by decide +kernel) rfl, TB_of 64 (by decide +kernel) (by decide +kernel), by decide +kernel, by decide +kernel, by decide +kernel, by decide +kernel⟩, TB_of 850 (by decide +kernel) (by decide +kernel), TB_of 851 (by decide +kernel) (by decide +kernel)⟩
def kX4_comingsTogether : MK := (yX4_comingsTogether, cX4_comingsTogether, 3, (some .int))
set_option maxRecDepth 20000 in
theorem mX4_comingsTogether : MV kX4_comingsTogether 0 := ⟨⟨TB_of 856 (by decide +kernel) rfl, TB_of 65 (by decide +kernel) (by decide +kernel), by decide +kernel, by decide +kernel, by decide +kernel, by decide +kernel⟩, TB_of 854 (by decide +kernel) (by decide +kernel), TB_of 855 (by decide +kernel) (by decide +kernel)⟩
def kX7_init : MK := (yX7_init, cX7_init, 1, (Option.none : Option Jvm.ClassFile.FieldType))
set_option maxRecDepth 20000 in
theorem mX7_init : MI kX7_init 0 := ⟨⟨TB_of 861 (by decide +kernel) rfl, TB_of 71 (by decide +kernel) (by decide +kernel), by decide +kernel, by decide +kernel, by decide +kernel, by decide +kernel⟩, TB_of 860 (by decide +kernel) (by decide +kernel), rfl⟩
def kX7_row : MK := (yX7_row, cX7_row, 5, (some .int))
set_option maxRecDepth 20000 in
theorem mX7_row : MV kX7_row 3 := ⟨⟨TB_of 1017 (by decide +kernel) rfl, TB_of 71 (by decide +kernel) (by decide +kernel), by decide +kernel, by decide +kernel, by decide +kernel, by decide +kernel⟩, TB_of 1015 (by decide +kernel) (by decide +kernel), TB_of 1016 (by decide +kernel) (by decide +kernel)⟩
def kX7_isShelf : MK := (yX7_isShelf, cX7_isShelf, 2, (some .boolean))
set_option maxRecDepth 20000 in
theorem mX7_isShelf : MV kX7_isShelf 1 := ⟨⟨TB_of 1021 (by decide +kernel) rfl, TB_of 71 (by decide +kernel) (by decide +kernel), by decide +kernel, by decide +kernel, by decide +kernel, by decide +kernel⟩, TB_of 1020 (by decide +kernel) (by decide +kernel), TB_of 24 (by decide +kernel) (by decide +kernel)⟩
def kX7_no : MK := (yX7_no, cX7_no, 2, (some .int))
set_option maxRecDepth 20000 in
theorem mX7_no : MV kX7_no 1 := ⟨⟨TB_of 1025 (by decide +kernel) rfl, TB_of 71 (by decide +kernel) (by decide +kernel), by decide +kernel, by decide +kernel, by decide +kernel, by decide +kernel⟩, TB_of 1024 (by decide +kernel) (by decide +kernel), TB_of 25 (by decide +kernel) (by decide +kernel)⟩
def kX7_set : MK := (yX7_set, cX7_set, 5, (some .int))
set_option maxRecDepth 20000 in
theorem mX7_set : MV kX7_set 3 := ⟨⟨TB_of 1029 (by decide +kernel) rfl, TB_of 71 (by decide +kernel) (by decide +kernel), by decide +kernel, by decide +kernel, by decide +kernel, by decide +kernel⟩, TB_of 1027 (by decide +kernel) (by decide +kernel), TB_of 1028 (by decide +kernel) (by decide +kernel)⟩
def kX7_copy : MK := (yX7_copy, cX7_copy, 7, (some .int))
set_option maxRecDepth 20000 in
theorem mX7_copy : MV kX7_copy 5 := ⟨⟨TB_of 1033 (by decide +kernel) rfl, TB_of 71 (by decide +kernel) (by decide +kernel), by decide +kernel, by decide +kernel, by decide +kernel, by decide +kernel⟩, TB_of 1031 (by decide +kernel) (by decide +kernel), TB_of 1032 (by decide +kernel) (by decide +kernel)⟩
def kX7_element : MK := (yX7_element, cX7_element, 3, (some .long))
set_option maxRecDepth 20000 in
theorem mX7_element : MV kX7_element 2 := ⟨⟨TB_of 1037 (by decide +kernel) rfl, TB_of 71 (by decide +kernel) (by decide +kernel), by decide +kernel, by decide +kernel, by decide +kernel, by decide +kernel⟩, TB_of 1035 (by decide +kernel) (by decide +kernel), TB_of 1036 (by decide +kernel) (by decide +kernel)⟩
def kX7_show : MK := (yX7_show, cX7_show, 3, (some .int))
set_option maxRecDepth 20000 in
theorem mX7_show : MV kX7_show 2 := ⟨⟨TB_of 1041 (by decide +kernel) rfl, TB_of 71 (by decide +kernel) (by decide +kernel), by decide +kernel, by decide +kernel, by decide +kernel, by decide +kernel⟩, TB_of 1039 (by decide +kernel) (by decide +kernel), TB_of 1040 (by decide +kernel) (by decide +kernel)⟩
def kX7_isOne : MK := (yX7_isOne, cX7_isOne, 2, (some .boolean))
set_option maxRecDepth 20000 in
theorem mX7_isOne : MV kX7_isOne 1 := ⟨⟨TB_of 1045 (by decide +kernel) rfl, TB_of 71 (by decide +kernel) (by decide +kernel), by decide +kernel, by decide +kernel, by decide +kernel, by decide +kernel⟩, TB_of 1044 (by decide +kernel) (by decide +kernel), TB_of 26 (by decide +kernel) (by decide +kernel)⟩
def kX7_holds : MK := (yX7_holds, cX7_holds, 2, (some .int))
set_option maxRecDepth 20000 in
theorem mX7_holds : MV kX7_holds 1 := ⟨⟨TB_of 1049 (by decide +kernel) rfl, TB_of 71 (by decide +kernel) (by decide +kernel), by decide +kernel, by decide +kernel, by decide +kernel, by decide +kernel⟩, TB_of 1047 (by decide +kernel) (by decide +kernel), TB_of 1048 (by decide +kernel) (by decide +kernel)⟩
def kX7_says : MK := (yX7_says, cX7_says, 4, (some .int))
set_option maxRecDepth 20000 in
theorem mX7_says : MV kX7_says 2 := ⟨⟨TB_of 1053 (by decide +kernel) rfl, TB_of 71 (by decide +kernel) (by decide +kernel), by decide +kernel, by decide +kernel, by decide +kernel, by decide +kernel⟩, TB_of 1051 (by decide +kernel) (by decide +kernel), TB_of 1052 (by decide +kernel) (by decide +kernel)⟩
def kX7_isUnder : MK := (yX7_isUnder, cX7_isUnder, 3, (some .boolean))
set_option maxRecDepth 20000 in
theorem mX7_isUnder : MV kX7_isUnder 2 := ⟨⟨TB_of 1057 (by decide +kernel) rfl, TB_of 71 (by decide +kernel) (by decide +kernel), by decide +kernel, by decide +kernel, by decide +kernel, by decide +kernel⟩, TB_of 1056 (by decide +kernel) (by decide +kernel), TB_of 27 (by decide +kernel) (by decide +kernel)⟩
def kX7_person : MK := (yX7_person, cX7_person, 5, (some .int))
set_option maxRecDepth 20000 in
theorem mX7_person : MV kX7_person 4 := ⟨⟨TB_of 1061 (by decide +kernel) rfl, TB_of 71 (by decide +kernel) (by decide +kernel), by decide +kernel, by decide +kernel, by decide +kernel, by decide +kernel⟩, TB_of 1059 (by decide +kernel) (by decide +kernel), TB_of 1060 (by decide +kernel) (by decide +kernel)⟩
def kX7_isFrom : MK := (yX7_isFrom, cX7_isFrom, 4, (some .boolean))
set_option maxRecDepth 20000 in
theorem mX7_isFrom : MV kX7_isFrom 3 := ⟨⟨TB_of 1065 (by decide +kernel) rfl, TB_of 71 (by decide +kernel) (by decide +kernel), by decide +kernel, by decide +kernel, by decide +kernel, by decide +kernel⟩, TB_of 1064 (by decide +kernel) (by decide +kernel), TB_of 28 (by decide +kernel) (by decide +kernel)⟩
def kX7_adds : MK := (yX7_adds, cX7_adds, 5, (some .int))
set_option maxRecDepth 20000 in
theorem mX7_adds : MV kX7_adds 4 := ⟨⟨TB_of 1069 (by decide +kernel) rfl, TB_of 71 (by decide +kernel) (by decide +kernel), by decide +kernel, by decide +kernel, by decide +kernel, by decide +kernel⟩, TB_of 1068 (by decide +kernel) (by decide +kernel), TB_of 29 (by decide +kernel) (by decide +kernel)⟩
def kX7_friend : MK := (yX7_friend, cX7_friend, 4, (some .int))
set_option maxRecDepth 20000 in
theorem mX7_friend : MV kX7_friend 2 := ⟨⟨TB_of 1073 (by decide +kernel) rfl, TB_of 71 (by decide +kernel) (by decide +kernel), by decide +kernel, by decide +kernel, by decide +kernel, by decide +kernel⟩, TB_of 1071 (by decide +kernel) (by decide +kernel), TB_of 1072 (by decide +kernel) (by decide +kernel)⟩
def kX7_noTen : MK := (yX7_noTen, cX7_noTen, 2, (some .int))
set_option maxRecDepth 20000 in
theorem mX7_noTen : MV kX7_noTen 1 := ⟨⟨TB_of 1077 (by decide +kernel) rfl, TB_of 71 (by decide +kernel) (by decide +kernel), by decide +kernel, by decide +kernel, by decide +kernel, by decide +kernel⟩, TB_of 1076 (by decide +kernel) (by decide +kernel), TB_of 30 (by decide +kernel) (by decide +kernel)⟩
def kX7_ask : MK := (yX7_ask, cX7_ask, 4, (some .int))
set_option maxRecDepth 20000 in
theorem mX7_ask : MV kX7_ask 2 := ⟨⟨TB_of 1081 (by decide +kernel) rfl, TB_of 71 (by decide +kernel) (by decide +kernel), by decide +kernel, by decide +kernel, by decide +kernel, by decide +kernel⟩, TB_of 1079 (by decide +kernel) (by decide +kernel), TB_of 1080 (by decide +kernel) (by decide +kernel)⟩
def kX7_isAsked : MK := (yX7_isAsked, cX7_isAsked, 3, (some .boolean))
set_option maxRecDepth 20000 in
theorem mX7_isAsked : MV kX7_isAsked 2 := ⟨⟨TB_of 1085 (by decide +kernel) rfl, TB_of 71 (by decide +kernel) (by decide +kernel), by decide +kernel, by decide +kernel, by decide +kernel, by decide +kernel⟩, TB_of 1084 (by decide +kernel) (by decide +kernel), TB_of 31 (by decide +kernel) (by decide +kernel)⟩
def kX7_asks : MK := (yX7_asks, cX7_asks, 3, (Option.none : Option Jvm.ClassFile.FieldType))
set_option maxRecDepth 20000 in
theorem mX7_asks : MV kX7_asks 2 := ⟨⟨TB_of 1089 (by decide +kernel) rfl, TB_of 71 (by decide +kernel) (by decide +kernel), by decide +kernel, by decide +kernel, by decide +kernel, by decide +kernel⟩, TB_of 1088 (by decide +kernel) (by decide +kernel), TB_of 32 (by decide +kernel) (by decide +kernel)⟩
def kX7_go : MK := (yX7_go, cX7_go, 4, (some .int))
set_option maxRecDepth 20000 in
theorem mX7_go : MV kX7_go 2 := ⟨⟨TB_of 1093 (by decide +kernel) rfl, TB_of 71 (by decide +kernel) (by decide +kernel), by decide +kernel, by decide +kernel, by decide +kernel, by decide +kernel⟩, TB_of 1091 (by decide +kernel) (by decide +kernel), TB_of 1092 (by decide +kernel) (by decide +kernel)⟩
def kX7_personOf : MK := (yX7_personOf, cX7_personOf, 3, (some .int))
set_option maxRecDepth 20000 in
theorem mX7_personOf : MV kX7_personOf 2 := ⟨⟨TB_of 1097 (by decide +kernel) rfl, TB_of 71 (by decide +kernel) (by decide +kernel), by decide +kernel, by decide +kernel, by decide +kernel, by decide +kernel⟩, TB_of 1095 (by decide +kernel) (by decide +kernel), TB_of 1096 (by decide +kernel) (by decide +kernel)⟩
def kX7_school : MK := (yX7_school, cX7_school, 5, (some .int))
set_option maxRecDepth 20000 in
theorem mX7_school : MV kX7_school 1 := ⟨⟨TB_of 1101 (by decide +kernel) rfl, TB_of 71 (by decide +kernel) (by decide +kernel), by decide +kernel, by decide +kernel, by decide +kernel, by decide +kernel⟩, TB_of 1099 (by decide +kernel) (by decide +kernel), TB_of 1100 (by decide +kernel) (by decide +kernel)⟩
def kX7_wanted : MK := (yX7_wanted, cX7_wanted, 2, (some .int))
set_option maxRecDepth 20000 in
theorem mX7_wanted : MV kX7_wanted 1 := ⟨⟨TB_of 1105 (by decide +kernel) rfl, TB_of 71 (by decide +kernel) (by decide +kernel), by decide +kernel, by decide +kernel, by decide +kernel, by decide +kernel⟩, TB_of 1104 (by decide +kernel) (by decide +kernel), TB_of 33 (by decide +kernel) (by decide +kernel)⟩
def kX7_all : MK := (yX7_all, cX7_all, 4, (Option.none : Option Jvm.ClassFile.FieldType))
set_option maxRecDepth 20000 in
theorem mX7_all : MV kX7_all 2 := ⟨⟨TB_of 1109 (by decide +kernel) rfl, TB_of 71 (by decide +kernel) (by decide +kernel), by decide +kernel, by decide +kernel, by decide +kernel, by decide +kernel⟩, TB_of 1108 (by decide +kernel) (by decide +kernel), TB_of 34 (by decide +kernel) (by decide +kernel)⟩
def kX7_carries : MK := (yX7_carries, cX7_carries, 6, (some .int))
set_option maxRecDepth 20000 in
theorem mX7_carries : MV kX7_carries 4 := ⟨⟨TB_of 1113 (by decide +kernel) rfl, TB_of 71 (by decide +kernel) (by decide +kernel), by decide +kernel, by decide +kernel, by decide +kernel, by decide +kernel⟩, TB_of 1112 (by decide +kernel) (by decide +kernel), TB_of 35 (by decide +kernel) (by decide +kernel)⟩
def kX7_item : MK := (yX7_item, cX7_item, 4, (some .boolean))
set_option maxRecDepth 20000 in
theorem mX7_item : MV kX7_item 0 := ⟨⟨TB_of 1117 (by decide +kernel) rfl, TB_of 71 (by decide +kernel) (by decide +kernel), by decide +kernel, by decide +kernel, by decide +kernel, by decide +kernel⟩, TB_of 1116 (by decide +kernel) (by decide +kernel), TB_of 36 (by decide +kernel) (by decide +kernel)⟩
def kX7_isPerson : MK := (yX7_isPerson, cX7_isPerson, 2, (some .boolean))
set_option maxRecDepth 20000 in
theorem mX7_isPerson : MV kX7_isPerson 0 := ⟨⟨TB_of 1121 (by decide +kernel) rfl, TB_of 71 (by decide +kernel) (by decide +kernel), by decide +kernel, by decide +kernel, by decide +kernel, by decide +kernel⟩, TB_of 1120 (by decide +kernel) (by decide +kernel), TB_of 37 (by decide +kernel) (by decide +kernel)⟩
def kX7_sign : MK := (yX7_sign, cX7_sign, 2, (some .int))
set_option maxRecDepth 20000 in
theorem mX7_sign : MV kX7_sign 1 := ⟨⟨TB_of 1125 (by decide +kernel) rfl, TB_of 71 (by decide +kernel) (by decide +kernel), by decide +kernel, by decide +kernel, by decide +kernel, by decide +kernel⟩, TB_of 1124 (by decide +kernel) (by decide +kernel), TB_of 38 (by decide +kernel) (by decide +kernel)⟩
def kX7_wrong : MK := (yX7_wrong, cX7_wrong, 2, (some .boolean))
set_option maxRecDepth 20000 in
theorem mX7_wrong : MV kX7_wrong 1 := ⟨⟨TB_of 1129 (by decide +kernel) rfl, TB_of 71 (by decide +kernel) (by decide +kernel), by decide +kernel, by decide +kernel, by decide +kernel, by decide +kernel⟩, TB_of 1128 (by decide +kernel) (by decide +kernel), TB_of 39 (by decide +kernel) (by decide +kernel)⟩
def kX7_word : MK := (yX7_word, cX7_word, 6, (some .int))
set_option maxRecDepth 20000 in
theorem mX7_word : MV kX7_word 0 := ⟨⟨TB_of 1133 (by decide +kernel) rfl, TB_of 71 (by decide +kernel) (by decide +kernel), by decide +kernel, by decide +kernel, by decide +kernel, by decide +kernel⟩, TB_of 1132 (by decide +kernel) (by decide +kernel), TB_of 40 (by decide +kernel) (by decide +kernel)⟩
def kX7_reads : MK := (yX7_reads, cX7_reads, 2, (some .boolean))
set_option maxRecDepth 20000 in
theorem mX7_reads : MV kX7_reads 0 := ⟨⟨TB_of 1137 (by decide +kernel) rfl, TB_of 71 (by decide +kernel) (by decide +kernel), by decide +kernel, by decide +kernel, by decide +kernel, by decide +kernel⟩, TB_of 1136 (by decide +kernel) (by decide +kernel), TB_of 41 (by decide +kernel) (by decide +kernel)⟩
def kX7_isDigit : MK := (yX7_isDigit, cX7_isDigit, 1, (some .boolean))
set_option maxRecDepth 20000 in
theorem mX7_isDigit : MV kX7_isDigit 0 := ⟨⟨TB_of 1141 (by decide +kernel) rfl, TB_of 71 (by decide +kernel) (by decide +kernel), by decide +kernel, by decide +kernel, by decide +kernel, by decide +kernel⟩, TB_of 1140 (by decide +kernel) (by decide +kernel), TB_of 42 (by decide +kernel) (by decide +kernel)⟩
def kX7_isSo : MK := (yX7_isSo, cX7_isSo, 3, (some .boolean))
set_option maxRecDepth 20000 in
theorem mX7_isSo : MV kX7_isSo 2 := ⟨⟨TB_of 1145 (by decide +kernel) rfl, TB_of 71 (by decide +kernel) (by decide +kernel), by decide +kernel, by decide +kernel, by decide +kernel, by decide +kernel⟩, TB_of 1144 (by decide +kernel) (by decide +kernel), TB_of 43 (by decide +kernel) (by decide +kernel)⟩
def kX7_fault : MK := (yX7_fault, cX7_fault, 1, (some .int))
set_option maxRecDepth 20000 in
theorem mX7_fault : MV kX7_fault 0 := ⟨⟨TB_of 1149 (by decide +kernel) rfl, TB_of 71 (by decide +kernel) (by decide +kernel), by decide +kernel, by decide +kernel, by decide +kernel, by decide +kernel⟩, TB_of 1147 (by decide +kernel) (by decide +kernel), TB_of 1148 (by decide +kernel) (by decide +kernel)⟩
def kX7_will : MK := (yX7_will, cX7_will, 2, (some .int))
set_option maxRecDepth 20000 in
theorem mX7_will : MV kX7_will 1 := ⟨⟨TB_of 1153 (by decide +kernel) rfl, TB_of 71 (by decide +kernel) (by decide +kernel), by decide +kernel, by decide +kernel, by decide +kernel, by decide +kernel⟩, TB_of 1151 (by decide +kernel) (by decide +kernel), TB_of 1152 (by decide +kernel) (by decide +kernel)⟩
def kX7_wills : MK := (yX7_wills, cX7_wills, 5, (some .int))
set_option maxRecDepth 20000 in
theorem mX7_wills : MV kX7_wills 1 := ⟨⟨TB_of 1157 (by decide +kernel) rfl, TB_of 71 (by decide +kernel) (by decide +kernel), by decide +kernel, by decide +kernel, by decide +kernel, by decide +kernel⟩, TB_of 1156 (by decide +kernel) (by decide +kernel), TB_of 44 (by decide +kernel) (by decide +kernel)⟩
def kX7_tonight : MK := (yX7_tonight, cX7_tonight, 2, (some .int))
set_option maxRecDepth 20000 in
theorem mX7_tonight : MV kX7_tonight 1 := ⟨⟨TB_of 1161 (by decide +kernel) rfl, TB_of 71 (by decide +kernel) (by decide +kernel), by decide +kernel, by decide +kernel, by decide +kernel, by decide +kernel⟩, TB_of 1159 (by decide +kernel) (by decide +kernel), TB_of 1160 (by decide +kernel) (by decide +kernel)⟩
def kX7_comes : MK := (yX7_comes, cX7_comes, 4, (Option.none : Option Jvm.ClassFile.FieldType))
set_option maxRecDepth 20000 in
theorem mX7_comes : MV kX7_comes 1 := ⟨⟨TB_of 1165 (by decide +kernel) rfl, TB_of 71 (by decide +kernel) (by decide +kernel), by decide +kernel, by decide +kernel, by decide +kernel, by decide +kernel⟩, TB_of 1164 (by decide +kernel) (by decide +kernel), TB_of 45 (by decide +kernel) (by decide +kernel)⟩
def kX7_stillComes : MK := (yX7_stillComes, cX7_stillComes, 6, (some .boolean))
set_option maxRecDepth 20000 in
theorem mX7_stillComes : MV kX7_stillComes 2 := ⟨⟨TB_of 1169 (by decide +kernel) rfl, TB_of 71 (by decide +kernel) (by decide +kernel), by decide +kernel, by decide +kernel, by decide +kernel, by decide +kernel⟩, TB_of 1168 (by decide +kernel) (by decide +kernel), TB_of 46 (by decide +kernel) (by decide +kernel)⟩
def kX7_ahead : MK := (yX7_ahead, cX7_ahead, 3, (some .int))
set_option maxRecDepth 20000 in
theorem mX7_ahead : MV kX7_ahead 2 := ⟨⟨TB_of 1173 (by decide +kernel) rfl, TB_of 71 (by decide +kernel) (by decide +kernel), by decide +kernel, by decide +kernel, by decide +kernel, by decide +kernel⟩, TB_of 1171 (by decide +kernel) (by decide +kernel), TB_of 1172 (by decide +kernel) (by decide +kernel)⟩
def kX7_isMany : MK := (yX7_isMany, cX7_isMany, 2, (some .boolean))
set_option maxRecDepth 20000 in
theorem mX7_isMany : MV kX7_isMany 1 := ⟨⟨TB_of 1177 (by decide +kernel) rfl, TB_of 71 (by decide +kernel) (by decide +kernel), by decide +kernel, by decide +kernel, by decide +kernel, by decide +kernel⟩, TB_of 1176 (by decide +kernel) (by decide +kernel), TB_of 47 (by decide +kernel) (by decide +kernel)⟩
def kX7_runs : MK := (yX7_runs, cX7_runs, 4, (Option.none : Option Jvm.ClassFile.FieldType))
set_option maxRecDepth 20000 in
theorem mX7_runs : MV kX7_runs 1 := ⟨⟨TB_of 1181 (by decide +kernel) rfl, TB_of 71 (by decide +kernel) (by decide +kernel), by decide +kernel, by decide +kernel, by decide +kernel, by decide +kernel⟩, TB_of 1180 (by decide +kernel) (by decide +kernel), TB_of 48 (by decide +kernel) (by decide +kernel)⟩
def kX7_passes : MK := (yX7_passes, cX7_passes, 2, (Option.none : Option Jvm.ClassFile.FieldType))
set_option maxRecDepth 20000 in
theorem mX7_passes : MV kX7_passes 0 := ⟨⟨TB_of 1185 (by decide +kernel) rfl, TB_of 71 (by decide +kernel) (by decide +kernel), by decide +kernel, by decide +kernel, by decide +kernel, by decide +kernel⟩, TB_of 1184 (by decide +kernel) (by decide +kernel), TB_of 49 (by decide +kernel) (by decide +kernel)⟩
def kX7_here : MK := (yX7_here, cX7_here, 3, (some .int))
set_option maxRecDepth 20000 in
theorem mX7_here : MV kX7_here 0 := ⟨⟨TB_of 1189 (by decide +kernel) rfl, TB_of 71 (by decide +kernel) (by decide +kernel), by decide +kernel, by decide +kernel, by decide +kernel, by decide +kernel⟩, TB_of 1188 (by decide +kernel) (by decide +kernel), TB_of 50 (by decide +kernel) (by decide +kernel)⟩
def kX7_worst : MK := (yX7_worst, cX7_worst, 3, (some .int))
set_option maxRecDepth 20000 in
theorem mX7_worst : MV kX7_worst 2 := ⟨⟨TB_of 1193 (by decide +kernel) rfl, TB_of 71 (by decide +kernel) (by decide +kernel), by decide +kernel, by decide +kernel, by decide +kernel, by decide +kernel⟩, TB_of 1191 (by decide +kernel) (by decide +kernel), TB_of 1192 (by decide +kernel) (by decide +kernel)⟩
def kX7_ones : MK := (yX7_ones, cX7_ones, 5, (some .int))
set_option maxRecDepth 20000 in
theorem mX7_ones : MV kX7_ones 3 := ⟨⟨TB_of 1197 (by decide +kernel) rfl, TB_of 71 (by decide +kernel) (by decide +kernel), by decide +kernel, by decide +kernel, by decide +kernel, by decide +kernel⟩, TB_of 1195 (by decide +kernel) (by decide +kernel), TB_of 1196 (by decide +kernel) (by decide +kernel)⟩
def kX7_lost : MK := (yX7_lost, cX7_lost, 4, (some .int))
set_option maxRecDepth 20000 in
theorem mX7_lost : MV kX7_lost 1 := ⟨⟨TB_of 1201 (by decide +kernel) rfl, TB_of 71 (by decide +kernel) (by decide +kernel), by decide +kernel, by decide +kernel, by decide +kernel, by decide +kernel⟩, TB_of 1199 (by decide +kernel) (by decide +kernel), TB_of 1200 (by decide +kernel) (by decide +kernel)⟩
def kX7_ring : MK := (yX7_ring, cX7_ring, 7, (some .int))
set_option maxRecDepth 20000 in
theorem mX7_ring : MV kX7_ring 2 := ⟨⟨TB_of 1205 (by decide +kernel) rfl, TB_of 71 (by decide +kernel) (by decide +kernel), by decide +kernel, by decide +kernel, by decide +kernel, by decide +kernel⟩, TB_of 1203 (by decide +kernel) (by decide +kernel), TB_of 1204 (by decide +kernel) (by decide +kernel)⟩
def kX7_bits : MK := (yX7_bits, cX7_bits, 4, (some .int))
set_option maxRecDepth 20000 in
theorem mX7_bits : MV kX7_bits 1 := ⟨⟨TB_of 1209 (by decide +kernel) rfl, TB_of 71 (by decide +kernel) (by decide +kernel), by decide +kernel, by decide +kernel, by decide +kernel, by decide +kernel⟩, TB_of 1208 (by decide +kernel) (by decide +kernel), TB_of 51 (by decide +kernel) (by decide +kernel)⟩
def kX7_begin : MK := (yX7_begin, cX7_begin, 6, (some .int))
set_option maxRecDepth 20000 in
theorem mX7_begin : MV kX7_begin 1 := ⟨⟨TB_of 1213 (by decide +kernel) rfl, TB_of 71 (by decide +kernel) (by decide +kernel), by decide +kernel, by decide +kernel, by decide +kernel, by decide +kernel⟩, TB_of 1211 (by decide +kernel) (by decide +kernel), TB_of 1212 (by decide +kernel) (by decide +kernel)⟩
def kX7_room : MK := (yX7_room, cX7_room, 4, (some .int))
set_option maxRecDepth 20000 in
theorem mX7_room : MV kX7_room 1 := ⟨⟨TB_of 1217 (by decide +kernel) rfl, TB_of 71 (by decide +kernel) (by decide +kernel), by decide +kernel, by decide +kernel, by decide +kernel, by decide +kernel⟩, TB_of 1215 (by decide +kernel) (by decide +kernel), TB_of 1216 (by decide +kernel) (by decide +kernel)⟩
def kX7_take : MK := (yX7_take, cX7_take, 6, (some .int))
set_option maxRecDepth 20000 in
theorem mX7_take : MV kX7_take 1 := ⟨⟨TB_of 1221 (by decide +kernel) rfl, TB_of 71 (by decide +kernel) (by decide +kernel), by decide +kernel, by decide +kernel, by decide +kernel, by decide +kernel⟩, TB_of 1219 (by decide +kernel) (by decide +kernel), TB_of 1220 (by decide +kernel) (by decide +kernel)⟩
def kX7_price : MK := (yX7_price, cX7_price, 4, (some .int))
set_option maxRecDepth 20000 in
theorem mX7_price : MV kX7_price 1 := ⟨⟨TB_of 1225 (by decide +kernel) rfl, TB_of 71 (by decide +kernel) (by decide +kernel), by decide +kernel, by decide +kernel, by decide +kernel, by decide +kernel⟩, TB_of 1223 (by decide +kernel) (by decide +kernel), TB_of 1224 (by decide +kernel) (by decide +kernel)⟩
def kX7_satIfPaid : MK := (yX7_satIfPaid, cX7_satIfPaid, 4, (some .int))
set_option maxRecDepth 20000 in
theorem mX7_satIfPaid : MV kX7_satIfPaid 2 := ⟨⟨TB_of 1229 (by decide +kernel) rfl, TB_of 71 (by decide +kernel) (by decide +kernel), by decide +kernel, by decide +kernel, by decide +kernel, by decide +kernel⟩, TB_of 1228 (by decide +kernel) (by decide +kernel), TB_of 52 (by decide +kernel) (by decide +kernel)⟩
def kX7_keeps : MK := (yX7_keeps, cX7_keeps, 2, (some .int))
set_option maxRecDepth 20000 in
theorem mX7_keeps : MV kX7_keeps 1 := ⟨⟨TB_of 1233 (by decide +kernel) rfl, TB_of 71 (by decide +kernel) (by decide +kernel), by decide +kernel, by decide +kernel, by decide +kernel, by decide +kernel⟩, TB_of 1231 (by decide +kernel) (by decide +kernel), TB_of 1232 (by decide +kernel) (by decide +kernel)⟩
def kX7_holdsBack : MK := (yX7_holdsBack, cX7_holdsBack, 3, (some .int))
set_option maxRecDepth 20000 in
theorem mX7_holdsBack : MV kX7_holdsBack 1 := ⟨⟨TB_of 1237 (by decide +kernel) rfl, TB_of 71 (by decide +kernel) (by decide +kernel), by decide +kernel, by decide +kernel, by decide +kernel, by decide +kernel⟩, TB_of 1236 (by decide +kernel) (by decide +kernel), TB_of 53 (by decide +kernel) (by decide +kernel)⟩
def kX7_keep : MK := (yX7_keep, cX7_keep, 5, (some .int))
set_option maxRecDepth 20000 in
theorem mX7_keep : MV kX7_keep 0 := ⟨⟨TB_of 1241 (by decide +kernel) rfl, TB_of 71 (by decide +kernel) (by decide +kernel), by decide +kernel, by decide +kernel, by decide +kernel, by decide +kernel⟩, TB_of 1239 (by decide +kernel) (by decide +kernel), TB_of 1240 (by decide +kernel) (by decide +kernel)⟩
def kX7_pairs : MK := (yX7_pairs, cX7_pairs, 3, (some .int))
set_option maxRecDepth 20000 in
theorem mX7_pairs : MV kX7_pairs 0 := ⟨⟨TB_of 1245 (by decide +kernel) rfl, TB_of 71 (by decide +kernel) (by decide +kernel), by decide +kernel, by decide +kernel, by decide +kernel, by decide +kernel⟩, TB_of 1243 (by decide +kernel) (by decide +kernel), TB_of 1244 (by decide +kernel) (by decide +kernel)⟩
def kX7_chain : MK := (yX7_chain, cX7_chain, 5, (some .int))
set_option maxRecDepth 20000 in
theorem mX7_chain : MV kX7_chain 1 := ⟨⟨TB_of 1249 (by decide +kernel) rfl, TB_of 71 (by decide +kernel) (by decide +kernel), by decide +kernel, by decide +kernel, by decide +kernel, by decide +kernel⟩, TB_of 1247 (by decide +kernel) (by decide +kernel), TB_of 1248 (by decide +kernel) (by decide +kernel)⟩
def kX7_friends : MK := (yX7_friends, cX7_friends, 8, (some .int))
set_option maxRecDepth 20000 in
theorem mX7_friends : MV kX7_friends 3 := ⟨⟨TB_of 1253 (by decide +kernel) rfl, TB_of 71 (by decide +kernel) (by decide +kernel), by decide +kernel, by decide +kernel, by decide +kernel, by decide +kernel⟩, TB_of 1251 (by decide +kernel) (by decide +kernel), TB_of 1252 (by decide +kernel) (by decide +kernel)⟩
def kX7_barsOf : MK := (yX7_barsOf, cX7_barsOf, 4, (some .int))
set_option maxRecDepth 20000 in
theorem mX7_barsOf : MV kX7_barsOf 2 := ⟨⟨TB_of 1257 (by decide +kernel) rfl, TB_of 71 (by decide +kernel) (by decide +kernel), by decide +kernel, by decide +kernel, by decide +kernel, by decide +kernel⟩, TB_of 1256 (by decide +kernel) (by decide +kernel), TB_of 54 (by decide +kernel) (by decide +kernel)⟩
def kX7_wrongIn : MK := (yX7_wrongIn, cX7_wrongIn, 5, (some .int))
set_option maxRecDepth 20000 in
theorem mX7_wrongIn : MV kX7_wrongIn 2 := ⟨⟨TB_of 1261 (by decide +kernel) rfl, TB_of 71 (by decide +kernel) (by decide +kernel), by decide +kernel, by decide +kernel, by decide +kernel, by decide +kernel⟩, TB_of 1260 (by decide +kernel) (by decide +kernel), TB_of 55 (by decide +kernel) (by decide +kernel)⟩
def kX7_intAt : MK := (yX7_intAt, cX7_intAt, 3, (some .int))
set_option maxRecDepth 20000 in
theorem mX7_intAt : MV kX7_intAt 2 := ⟨⟨TB_of 1265 (by decide +kernel) rfl, TB_of 71 (by decide +kernel) (by decide +kernel), by decide +kernel, by decide +kernel, by decide +kernel, by decide +kernel⟩, TB_of 1264 (by decide +kernel) (by decide +kernel), TB_of 56 (by decide +kernel) (by decide +kernel)⟩
def kX7_judge : MK := (yX7_judge, cX7_judge, 4, (some .int))
set_option maxRecDepth 20000 in
theorem mX7_judge : MV kX7_judge 2 := ⟨⟨TB_of 1269 (by decide +kernel) rfl, TB_of 71 (by decide +kernel) (by decide +kernel), by decide +kernel, by decide +kernel, by decide +kernel, by decide +kernel⟩, TB_of 1267 (by decide +kernel) (by decide +kernel), TB_of 1268 (by decide +kernel) (by decide +kernel)⟩
def kX7_evenings : MK := (yX7_evenings, cX7_evenings, 4, (some .int))
set_option maxRecDepth 20000 in
theorem mX7_evenings : MV kX7_evenings 1 := ⟨⟨TB_of 1273 (by decide +kernel) rfl, TB_of 71 (by decide +kernel) (by decide +kernel), by decide +kernel, by decide +kernel, by decide +kernel, by decide +kernel⟩, TB_of 1271 (by decide +kernel) (by decide +kernel), TB_of 1272 (by decide +kernel) (by decide +kernel)⟩
def kX7_drawn : MK := (yX7_drawn, cX7_drawn, 4, (some .int))
set_option maxRecDepth 20000 in
theorem mX7_drawn : MV kX7_drawn 1 := ⟨⟨TB_of 1277 (by decide +kernel) rfl, TB_of 71 (by decide +kernel) (by decide +kernel), by decide +kernel, by decide +kernel, by decide +kernel, by decide +kernel⟩, TB_of 1275 (by decide +kernel) (by decide +kernel), TB_of 1276 (by decide +kernel) (by decide +kernel)⟩
def kX7_draw : MK := (yX7_draw, cX7_draw, 2, (some .int))
set_option maxRecDepth 20000 in
theorem mX7_draw : MV kX7_draw 1 := ⟨⟨TB_of 1281 (by decide +kernel) rfl, TB_of 71 (by decide +kernel) (by decide +kernel), by decide +kernel, by decide +kernel, by decide +kernel, by decide +kernel⟩, TB_of 1280 (by decide +kernel) (by decide +kernel), TB_of 57 (by decide +kernel) (by decide +kernel)⟩
def kX7_seed : MK := (yX7_seed, cX7_seed, 3, (some .int))
set_option maxRecDepth 20000 in
theorem mX7_seed : MV kX7_seed 1 := ⟨⟨TB_of 1286 (by decide +kernel) rfl, TB_of 71 (by decide +kernel) (by decide +kernel), by decide +kernel, by decide +kernel, by decide +kernel, by decide +kernel⟩, TB_of 1284 (by decide +kernel) (by decide +kernel), TB_of 1285 (by decide +kernel) (by decide +kernel)⟩
def kX7_act : MK := (yX7_act, cX7_act, 4, (some .int))
set_option maxRecDepth 20000 in
theorem mX7_act : MV kX7_act 3 := ⟨⟨TB_of 1290 (by decide +kernel) rfl, TB_of 71 (by decide +kernel) (by decide +kernel), by decide +kernel, by decide +kernel, by decide +kernel, by decide +kernel⟩, TB_of 1288 (by decide +kernel) (by decide +kernel), TB_of 1289 (by decide +kernel) (by decide +kernel)⟩
def kX7_coming : MK := (yX7_coming, cX7_coming, 8, (some .int))
set_option maxRecDepth 20000 in
theorem mX7_coming : MV kX7_coming 2 := ⟨⟨TB_of 1294 (by decide +kernel) rfl, TB_of 71 (by decide +kernel) (by decide +kernel), by decide +kernel, by decide +kernel, by decide +kernel, by decide +kernel⟩, TB_of 1293 (by decide +kernel) (by decide +kernel), TB_of 58 (by decide +kernel) (by decide +kernel)⟩
def kX7_body : MK := (yX7_body, cX7_body, 2, (Option.none : Option Jvm.ClassFile.FieldType))
set_option maxRecDepth 20000 in
theorem mX7_body : MV kX7_body 1 := ⟨⟨TB_of 1298 (by decide +kernel) rfl, TB_of 71 (by decide +kernel) (by decide +kernel), by decide +kernel, by decide +kernel, by decide +kernel, by decide +kernel⟩, TB_of 1297 (by decide +kernel) (by decide +kernel), TB_of 59 (by decide +kernel) (by decide +kernel)⟩
def kX7_sitting : MK := (yX7_sitting, cX7_sitting, 7, (some .int))
set_option maxRecDepth 20000 in
theorem mX7_sitting : MV kX7_sitting 2 := ⟨⟨TB_of 1302 (by decide +kernel) rfl, TB_of 71 (by decide +kernel) (by decide +kernel), by decide +kernel, by decide +kernel, by decide +kernel, by decide +kernel⟩, TB_of 1301 (by decide +kernel) (by decide +kernel), TB_of 60 (by decide +kernel) (by decide +kernel)⟩
def kX7_asking : MK := (yX7_asking, cX7_asking, 5, (some .int))
set_option maxRecDepth 20000 in
theorem mX7_asking : MV kX7_asking 2 := ⟨⟨TB_of 1306 (by decide +kernel) rfl, TB_of 71 (by decide +kernel) (by decide +kernel), by decide +kernel, by decide +kernel, by decide +kernel, by decide +kernel⟩, TB_of 1305 (by decide +kernel) (by decide +kernel), TB_of 61 (by decide +kernel) (by decide +kernel)⟩
def kX7_trace : MK := (yX7_trace, cX7_trace, 2, (some .int))
set_option maxRecDepth 20000 in
theorem mX7_trace : MV kX7_trace 1 := ⟨⟨TB_of 1310 (by decide +kernel) rfl, TB_of 71 (by decide +kernel) (by decide +kernel), by decide +kernel, by decide +kernel, by decide +kernel, by decide +kernel⟩, TB_of 1308 (by decide +kernel) (by decide +kernel), TB_of 1309 (by decide +kernel) (by decide +kernel)⟩
def kX7_image : MK := (yX7_image, cX7_image, 1, (some .int))
set_option maxRecDepth 20000 in
theorem mX7_image : MV kX7_image 0 := ⟨⟨TB_of 1314 (by decide +kernel) rfl, TB_of 71 (by decide +kernel) (by decide +kernel), by decide +kernel, by decide +kernel, by decide +kernel, by decide +kernel⟩, TB_of 1312 (by decide +kernel) (by decide +kernel), TB_of 1313 (by decide +kernel) (by decide +kernel)⟩
def kX7_restore : MK := (yX7_restore, cX7_restore, 2, (some .int))
set_option maxRecDepth 20000 in
theorem mX7_restore : MV kX7_restore 0 := ⟨⟨TB_of 1318 (by decide +kernel) rfl, TB_of 71 (by decide +kernel) (by decide +kernel), by decide +kernel, by decide +kernel, by decide +kernel, by decide +kernel⟩, TB_of 1316 (by decide +kernel) (by decide +kernel), TB_of 1317 (by decide +kernel) (by decide +kernel)⟩
def kX7_status : MK := (yX7_status, cX7_status, 2, (some .int))
set_option maxRecDepth 20000 in
theorem mX7_status : MV kX7_status 1 := ⟨⟨TB_of 1322 (by decide +kernel) rfl, TB_of 71 (by decide +kernel) (by decide +kernel), by decide +kernel, by decide +kernel, by decide +kernel, by decide +kernel⟩, TB_of 1320 (by decide +kernel) (by decide +kernel), TB_of 1321 (by decide +kernel) (by decide +kernel)⟩
def kX7_together : MK := (yX7_together, cX7_together, 4, (some .int))
set_option maxRecDepth 20000 in
theorem mX7_together : MV kX7_together 1 := ⟨⟨TB_of 1326 (by decide +kernel) rfl, TB_of 71 (by decide +kernel) (by decide +kernel), by decide +kernel, by decide +kernel, by decide +kernel, by decide +kernel⟩, TB_of 1325 (by decide +kernel) (by decide +kernel), TB_of 62 (by decide +kernel) (by decide +kernel)⟩
theorem lX6_9 : Cond.methodLink RX6 9 yX4_init ∈ TB := TB_of 90 (by decide +kernel) (by decide +kernel)
theorem lX4_17 : (RX4, 17, yX2_init, RX6) ∈ NBm := by decide +kernel
theorem fX2_15 : FL RX2 2 0 15 false := ⟨_, rfl, by decide +kernel, by decide +kernel, by decide +kernel, TB_of 101 (by decide +kernel) (by decide +kernel)⟩
theorem fX0_22 : FL RX0 2 0 22 false := ⟨_, rfl, by decide +kernel, by decide +kernel, by decide +kernel, TB_of 102 (by decide +kernel) (by decide +kernel)⟩
theorem fX6_133 : FL RX6 2 0 133 false := ⟨_, rfl, by decide +kernel, by decide +kernel, by decide +kernel, TB_of 103 (by decide +kernel) (by decide +kernel)⟩
theorem fX4_100 : FL RX4 2 0 100 false := ⟨_, rfl, by decide +kernel, by decide +kernel, by decide +kernel, TB_of 104 (by decide +kernel) (by decide +kernel)⟩
theorem fX2_18 : FL RX2 2 1 18 false := ⟨_, rfl, by decide +kernel, by decide +kernel, by decide +kernel, TB_of 105 (by decide +kernel) (by decide +kernel)⟩
theorem fX0_28 : FL RX0 2 1 28 false := ⟨_, rfl, by decide +kernel, by decide +kernel, by decide +kernel, TB_of 106 (by decide +kernel) (by decide +kernel)⟩
theorem fX2_21 : FL RX2 2 2 21 false := ⟨_, rfl, by decide +kernel, by decide +kernel, by decide +kernel, TB_of 107 (by decide +kernel) (by decide +kernel)⟩
theorem fX6_230 : FL RX6 2 2 230 false := ⟨_, rfl, by decide +kernel, by decide +kernel, by decide +kernel, TB_of 108 (by decide +kernel) (by decide +kernel)⟩
theorem fX2_24 : FL RX2 2 3 24 false := ⟨_, rfl, by decide +kernel, by decide +kernel, by decide +kernel, TB_of 109 (by decide +kernel) (by decide +kernel)⟩
theorem fX4_66 : FL RX4 2 3 66 false := ⟨_, rfl, by decide +kernel, by decide +kernel, by decide +kernel, TB_of 110 (by decide +kernel) (by decide +kernel)⟩
theorem fX2_9 : FL RX2 2 4 9 false := ⟨_, rfl, by decide +kernel, by decide +kernel, by decide +kernel, TB_of 111 (by decide +kernel) (by decide +kernel)⟩
theorem fX3_123 : FL RX3 2 4 123 false := ⟨_, rfl, by decide +kernel, by decide +kernel, by decide +kernel, TB_of 112 (by decide +kernel) (by decide +kernel)⟩
theorem fX6_151 : FL RX6 2 4 151 false := ⟨_, rfl, by decide +kernel, by decide +kernel, by decide +kernel, TB_of 113 (by decide +kernel) (by decide +kernel)⟩
theorem fX4_97 : FL RX4 2 4 97 false := ⟨_, rfl, by decide +kernel, by decide +kernel, by decide +kernel, TB_of 114 (by decide +kernel) (by decide +kernel)⟩
theorem fX2_28 : FL RX2 2 5 28 false := ⟨_, rfl, by decide +kernel, by decide +kernel, by decide +kernel, TB_of 115 (by decide +kernel) (by decide +kernel)⟩
theorem fX2_31 : FL RX2 2 6 31 false := ⟨_, rfl, by decide +kernel, by decide +kernel, by decide +kernel, TB_of 116 (by decide +kernel) (by decide +kernel)⟩
theorem fX6_170 : FL RX6 2 6 170 false := ⟨_, rfl, by decide +kernel, by decide +kernel, by decide +kernel, TB_of 117 (by decide +kernel) (by decide +kernel)⟩
theorem fX2_34 : FL RX2 2 7 34 false := ⟨_, rfl, by decide +kernel, by decide +kernel, by decide +kernel, TB_of 118 (by decide +kernel) (by decide +kernel)⟩
theorem fX4_69 : FL RX4 2 7 69 false := ⟨_, rfl, by decide +kernel, by decide +kernel, by decide +kernel, TB_of 119 (by decide +kernel) (by decide +kernel)⟩
theorem fX6_227 : FL RX6 2 7 227 false := ⟨_, rfl, by decide +kernel, by decide +kernel, by decide +kernel, TB_of 120 (by decide +kernel) (by decide +kernel)⟩
theorem fX2_37 : FL RX2 2 8 37 false := ⟨_, rfl, by decide +kernel, by decide +kernel, by decide +kernel, TB_of 121 (by decide +kernel) (by decide +kernel)⟩
theorem fX3_128 : FL RX3 2 8 128 false := ⟨_, rfl, by decide +kernel, by decide +kernel, by decide +kernel, TB_of 122 (by decide +kernel) (by decide +kernel)⟩
theorem fX4_62 : FL RX4 2 8 62 false := ⟨_, rfl, by decide +kernel, by decide +kernel, by decide +kernel, TB_of 123 (by decide +kernel) (by decide +kernel)⟩
theorem fX6_166 : FL RX6 2 8 166 false := ⟨_, rfl, by decide +kernel, by decide +kernel, by decide +kernel, TB_of 124 (by decide +kernel) (by decide +kernel)⟩
theorem fX4_83 : FL RX4 2 9 83 false := ⟨_, rfl, by decide +kernel, by decide +kernel, by decide +kernel, TB_of 125 (by decide +kernel) (by decide +kernel)⟩
theorem fX4_11 : FL RX4 4 0 11 true := ⟨_, rfl, by decide +kernel, by decide +kernel, by decide +kernel, TB_of 147 (by decide +kernel) (by decide +kernel)⟩
theorem fX4_18 : FL RX4 4 1 18 true := ⟨_, rfl, by decide +kernel, by decide +kernel, by decide +kernel, TB_of 148 (by decide +kernel) (by decide +kernel)⟩
theorem fX4_35 : FL RX4 4 2 35 false := ⟨_, rfl, by decide +kernel, by decide +kernel, by decide +kernel, TB_of 149 (by decide +kernel) (by decide +kernel)⟩
theorem fX3_113 : FL RX3 4 2 113 false := ⟨_, rfl, by decide +kernel, by decide +kernel, by decide +kernel, TB_of 150 (by decide +kernel) (by decide +kernel)⟩
theorem fX6_233 : FL RX6 4 2 233 false := ⟨_, rfl, by decide +kernel, by decide +kernel, by decide +kernel, TB_of 151 (by decide +kernel) (by decide +kernel)⟩
theorem fX4_22 : FL RX4 4 3 22 false := ⟨_, rfl, by decide +kernel, by decide +kernel, by decide +kernel, TB_of 152 (by decide +kernel) (by decide +kernel)⟩
theorem fX4_38 : FL RX4 4 4 38 false := ⟨_, rfl, by decide +kernel, by decide +kernel, by decide +kernel, TB_of 153 (by decide +kernel) (by decide +kernel)⟩
theorem fX4_26 : FL RX4 4 5 26 false := ⟨_, rfl, by decide +kernel, by decide +kernel, by decide +kernel, TB_of 154 (by decide +kernel) (by decide +kernel)⟩
theorem fX4_29 : FL RX4 4 6 29 false := ⟨_, rfl, by decide +kernel, by decide +kernel, by decide +kernel, TB_of 155 (by decide +kernel) (by decide +kernel)⟩
theorem fX1_38 : FL RX1 4 6 38 false := ⟨_, rfl, by decide +kernel, by decide +kernel, by decide +kernel, TB_of 156 (by decide +kernel) (by decide +kernel)⟩
theorem fX4_41 : FL RX4 4 7 41 false := ⟨_, rfl, by decide +kernel, by decide +kernel, by decide +kernel, TB_of 157 (by decide +kernel) (by decide +kernel)⟩
theorem fX6_279 : FL RX6 4 7 279 false := ⟨_, rfl, by decide +kernel, by decide +kernel, by decide +kernel, TB_of 158 (by decide +kernel) (by decide +kernel)⟩
theorem fX4_32 : FL RX4 4 8 32 false := ⟨_, rfl, by decide +kernel, by decide +kernel, by decide +kernel, TB_of 159 (by decide +kernel) (by decide +kernel)⟩
theorem fX6_260 : FL RX6 4 8 260 false := ⟨_, rfl, by decide +kernel, by decide +kernel, by decide +kernel, TB_of 160 (by decide +kernel) (by decide +kernel)⟩
theorem lX6_24 : (RX6, 24, yX1_init, RX6) ∈ NBm := by decide +kernel
theorem fX1_9 : FL RX1 1 0 9 false := ⟨_, rfl, by decide +kernel, by decide +kernel, by decide +kernel, TB_of 186 (by decide +kernel) (by decide +kernel)⟩
theorem fX6_215 : FL RX6 1 0 215 false := ⟨_, rfl, by decide +kernel, by decide +kernel, by decide +kernel, TB_of 187 (by decide +kernel) (by decide +kernel)⟩
theorem fX1_15 : FL RX1 1 1 15 false := ⟨_, rfl, by decide +kernel, by decide +kernel, by decide +kernel, TB_of 188 (by decide +kernel) (by decide +kernel)⟩
theorem fX6_218 : FL RX6 1 1 218 false := ⟨_, rfl, by decide +kernel, by decide +kernel, by decide +kernel, TB_of 189 (by decide +kernel) (by decide +kernel)⟩
theorem fX1_18 : FL RX1 1 2 18 false := ⟨_, rfl, by decide +kernel, by decide +kernel, by decide +kernel, TB_of 190 (by decide +kernel) (by decide +kernel)⟩
theorem fX6_221 : FL RX6 1 2 221 false := ⟨_, rfl, by decide +kernel, by decide +kernel, by decide +kernel, TB_of 191 (by decide +kernel) (by decide +kernel)⟩
theorem fX1_21 : FL RX1 1 3 21 false := ⟨_, rfl, by decide +kernel, by decide +kernel, by decide +kernel, TB_of 192 (by decide +kernel) (by decide +kernel)⟩
theorem fX6_224 : FL RX6 1 3 224 false := ⟨_, rfl, by decide +kernel, by decide +kernel, by decide +kernel, TB_of 193 (by decide +kernel) (by decide +kernel)⟩
theorem lX6_35 : (RX6, 35, yX5_init, RX6) ∈ NBm := by decide +kernel
theorem fX5_9 : FL RX5 5 0 9 false := ⟨_, rfl, by decide +kernel, by decide +kernel, by decide +kernel, TB_of 210 (by decide +kernel) (by decide +kernel)⟩
theorem fX6_95 : FL RX6 5 0 95 false := ⟨_, rfl, by decide +kernel, by decide +kernel, by decide +kernel, TB_of 211 (by decide +kernel) (by decide +kernel)⟩
theorem fX5_15 : FL RX5 5 1 15 false := ⟨_, rfl, by decide +kernel, by decide +kernel, by decide +kernel, TB_of 212 (by decide +kernel) (by decide +kernel)⟩
theorem fX6_123 : FL RX6 5 1 123 false := ⟨_, rfl, by decide +kernel, by decide +kernel, by decide +kernel, TB_of 213 (by decide +kernel) (by decide +kernel)⟩
theorem fX3_30 : FL RX3 5 2 30 false := ⟨_, rfl, by decide +kernel, by decide +kernel, by decide +kernel, TB_of 214 (by decide +kernel) (by decide +kernel)⟩
theorem fX5_22 : FL RX5 5 2 22 false := ⟨_, rfl, by decide +kernel, by decide +kernel, by decide +kernel, TB_of 215 (by decide +kernel) (by decide +kernel)⟩
theorem fX6_288 : FL RX6 5 2 288 false := ⟨_, rfl, by decide +kernel, by decide +kernel, by decide +kernel, TB_of 216 (by decide +kernel) (by decide +kernel)⟩
theorem fX5_18 : FL RX5 5 3 18 true := ⟨_, rfl, by decide +kernel, by decide +kernel, by decide +kernel, TB_of 217 (by decide +kernel) (by decide +kernel)⟩
theorem fX6_102 : FL RX6 5 3 102 true := ⟨_, rfl, by decide +kernel, by decide +kernel, by decide +kernel, TB_of 218 (by decide +kernel) (by decide +kernel)⟩
theorem lX6_42 : (RX6, 42, yX3_init, RX6) ∈ NBm := by decide +kernel
theorem lX3_11 : Cond.methodLink RX3 11 yX4_init ∈ TB := TB_of 236 (by decide +kernel) (by decide +kernel)
theorem fX3_12 : FL RX3 3 0 12 true := ⟨_, rfl, by decide +kernel, by decide +kernel, by decide +kernel, TB_of 237 (by decide +kernel) (by decide +kernel)⟩
theorem fX6_183 : FL RX6 3 0 183 true := ⟨_, rfl, by decide +kernel, by decide +kernel, by decide +kernel, TB_of 238 (by decide +kernel) (by decide +kernel)⟩
theorem fX3_18 : FL RX3 3 1 18 false := ⟨_, rfl, by decide +kernel, by decide +kernel, by decide +kernel, TB_of 239 (by decide +kernel) (by decide +kernel)⟩
theorem fX6_180 : FL RX6 3 1 180 false := ⟨_, rfl, by decide +kernel, by decide +kernel, by decide +kernel, TB_of 240 (by decide +kernel) (by decide +kernel)⟩
theorem fX3_22 : FL RX3 3 2 22 true := ⟨_, rfl, by decide +kernel, by decide +kernel, by decide +kernel, TB_of 241 (by decide +kernel) (by decide +kernel)⟩
theorem fX3_35 : FL RX3 3 3 35 false := ⟨_, rfl, by decide +kernel, by decide +kernel, by decide +kernel, TB_of 242 (by decide +kernel) (by decide +kernel)⟩
theorem fX3_40 : FL RX3 3 4 40 false := ⟨_, rfl, by decide +kernel, by decide +kernel, by decide +kernel, TB_of 243 (by decide +kernel) (by decide +kernel)⟩
theorem fX3_116 : FL RX3 3 5 116 false := ⟨_, rfl, by decide +kernel, by decide +kernel, by decide +kernel, TB_of 244 (by decide +kernel) (by decide +kernel)⟩
theorem lX6_49 : (RX6, 49, yX0_init, RX6) ∈ NBm := by decide +kernel
theorem fX0_15 : FL RX0 0 0 15 false := ⟨_, rfl, by decide +kernel, by decide +kernel, by decide +kernel, TB_of 265 (by decide +kernel) (by decide +kernel)⟩
theorem fX6_285 : FL RX6 0 0 285 false := ⟨_, rfl, by decide +kernel, by decide +kernel, by decide +kernel, TB_of 266 (by decide +kernel) (by decide +kernel)⟩
theorem fX0_9 : FL RX0 0 1 9 true := ⟨_, rfl, by decide +kernel, by decide +kernel, by decide +kernel, TB_of 267 (by decide +kernel) (by decide +kernel)⟩
theorem fX0_19 : FL RX0 0 2 19 false := ⟨_, rfl, by decide +kernel, by decide +kernel, by decide +kernel, TB_of 268 (by decide +kernel) (by decide +kernel)⟩
theorem fX0_27 : FL RX0 0 3 27 false := ⟨_, rfl, by decide +kernel, by decide +kernel, by decide +kernel, TB_of 269 (by decide +kernel) (by decide +kernel)⟩
theorem fX0_31 : FL RX0 0 4 31 false := ⟨_, rfl, by decide +kernel, by decide +kernel, by decide +kernel, TB_of 270 (by decide +kernel) (by decide +kernel)⟩
theorem fX6_10 : FL RX6 6 0 10 true := ⟨_, rfl, by decide +kernel, by decide +kernel, by decide +kernel, TB_of 282 (by decide +kernel) (by decide +kernel)⟩
theorem fX6_16 : FL RX6 6 1 16 true := ⟨_, rfl, by decide +kernel, by decide +kernel, by decide +kernel, TB_of 283 (by decide +kernel) (by decide +kernel)⟩
theorem fX6_19 : FL RX6 6 2 19 true := ⟨_, rfl, by decide +kernel, by decide +kernel, by decide +kernel, TB_of 284 (by decide +kernel) (by decide +kernel)⟩
theorem fX6_276 : FL RX6 6 3 276 false := ⟨_, rfl, by decide +kernel, by decide +kernel, by decide +kernel, TB_of 285 (by decide +kernel) (by decide +kernel)⟩
theorem fX6_25 : FL RX6 6 4 25 true := ⟨_, rfl, by decide +kernel, by decide +kernel, by decide +kernel, TB_of 286 (by decide +kernel) (by decide +kernel)⟩
theorem fX6_31 : FL RX6 6 5 31 true := ⟨_, rfl, by decide +kernel, by decide +kernel, by decide +kernel, TB_of 287 (by decide +kernel) (by decide +kernel)⟩
theorem fX6_36 : FL RX6 6 6 36 true := ⟨_, rfl, by decide +kernel, by decide +kernel, by decide +kernel, TB_of 288 (by decide +kernel) (by decide +kernel)⟩
theorem fX6_43 : FL RX6 6 7 43 true := ⟨_, rfl, by decide +kernel, by decide +kernel, by decide +kernel, TB_of 289 (by decide +kernel) (by decide +kernel)⟩
theorem fX6_50 : FL RX6 6 8 50 true := ⟨_, rfl, by decide +kernel, by decide +kernel, by decide +kernel, TB_of 290 (by decide +kernel) (by decide +kernel)⟩
theorem fX6_54 : FL RX6 6 9 54 true := ⟨_, rfl, by decide +kernel, by decide +kernel, by decide +kernel, TB_of 291 (by decide +kernel) (by decide +kernel)⟩
theorem fX6_58 : FL RX6 6 10 58 false := ⟨_, rfl, by decide +kernel, by decide +kernel, by decide +kernel, TB_of 292 (by decide +kernel) (by decide +kernel)⟩
theorem lX6_62 : Cond.methodLink RX6 62 yX6_isShelf ∈ TB := TB_of 320 (by decide +kernel) (by decide +kernel)
theorem lX6_66 : Cond.methodLink RX6 66 yX6_refuse ∈ TB := TB_of 324 (by decide +kernel) (by decide +kernel)
theorem lX6_70 : Cond.methodLink RX6 70 yX6_shelfAt ∈ TB := TB_of 328 (by decide +kernel) (by decide +kernel)
theorem lX6_74 : Cond.methodLink RX6 74 yX5_holdRow ∈ TB := TB_of 332 (by decide +kernel) (by decide +kernel)
theorem lX5_25 : Cond.methodLink RX5 25 yJ7_fill_d0a16 ∈ TB := TB_of 336 (by decide +kernel) (by decide +kernel)
theorem lX6_78 : Cond.methodLink RX6 78 yX6_whyNoRow ∈ TB := TB_of 343 (by decide +kernel) (by decide +kernel)
theorem lX6_92 : Cond.methodLink RX6 92 yX5_isPerson ∈ TB := TB_of 347 (by decide +kernel) (by decide +kernel)
theorem lX6_88 : Cond.methodLink RX6 88 yX5_isRow ∈ TB := TB_of 351 (by decide +kernel) (by decide +kernel)
theorem lX6_81 : Cond.methodLink RX6 81 yX5_hasElement ∈ TB := TB_of 355 (by decide +kernel) (by decide +kernel)
theorem lX6_84 : Cond.methodLink RX6 84 yX5_put ∈ TB := TB_of 359 (by decide +kernel) (by decide +kernel)
theorem lX6_98 : Cond.methodLink RX6 98 yX5_hasStretch ∈ TB := TB_of 367 (by decide +kernel) (by decide +kernel)
theorem lX6_112 : Cond.methodLink RX6 112 yX5_elementAt ∈ TB := TB_of 378 (by decide +kernel) (by decide +kernel)
theorem lX6_116 : Cond.methodLink RX6 116 yX4_has ∈ TB := TB_of 386 (by decide +kernel) (by decide +kernel)
theorem lX6_119 : Cond.methodLink RX6 119 yX5_holdPerson ∈ TB := TB_of 390 (by decide +kernel) (by decide +kernel)
theorem lX6_126 : Cond.methodLink RX6 126 yX6_isKind ∈ TB := TB_of 402 (by decide +kernel) (by decide +kernel)
theorem sX6_291 : Cond.fieldLink RX6 291 (roC 0) (roF 0) "[I" ∈ TB := TB_of 405 (by decide +kernel) (by decide +kernel)
theorem lX6_129 : Cond.methodLink RX6 129 yX4_one ∈ TB := TB_of 407 (by decide +kernel) (by decide +kernel)
theorem lX6_138 : Cond.methodLink RX6 138 yX6_isUnder ∈ TB := TB_of 411 (by decide +kernel) (by decide +kernel)
theorem lX6_294 : Cond.methodLink RX6 294 yX6_kindAbove ∈ TB := TB_of 414 (by decide +kernel) (by decide +kernel)
theorem lX6_141 : Cond.methodLink RX6 141 yX2_sayingAs ∈ TB := TB_of 417 (by decide +kernel) (by decide +kernel)
theorem lX6_144 : Cond.methodLink RX6 144 yX4_isFull ∈ TB := TB_of 425 (by decide +kernel) (by decide +kernel)
theorem lX6_147 : Cond.methodLink RX6 147 yX4_enrol ∈ TB := TB_of 429 (by decide +kernel) (by decide +kernel)
theorem lX4_44 : Cond.methodLink RX4 44 yX4_one ∈ TB := TB_of 433 (by decide +kernel) (by decide +kernel)
theorem lX4_52 : Cond.methodLink RX4 52 yX2_enter ∈ TB := TB_of 434 (by decide +kernel) (by decide +kernel)
theorem lX6_154 : Cond.methodLink RX6 154 yX6_leastOf ∈ TB := TB_of 446 (by decide +kernel) (by decide +kernel)
theorem sX6_297 : Cond.fieldLink RX6 297 (roC 1) (roF 1) "[I" ∈ TB := TB_of 449 (by decide +kernel) (by decide +kernel)
theorem lX6_157 : Cond.methodLink RX6 157 yX6_mostOf ∈ TB := TB_of 451 (by decide +kernel) (by decide +kernel)
theorem sX6_300 : Cond.fieldLink RX6 300 (roC 2) (roF 2) "[I" ∈ TB := TB_of 454 (by decide +kernel) (by decide +kernel)
theorem lX6_160 : Cond.methodLink RX6 160 yX4_setting ∈ TB := TB_of 456 (by decide +kernel) (by decide +kernel)
theorem lX6_163 : Cond.methodLink RX6 163 yX4_settle ∈ TB := TB_of 460 (by decide +kernel) (by decide +kernel)
theorem lX6_173 : Cond.methodLink RX6 173 yX2_mark ∈ TB := TB_of 472 (by decide +kernel) (by decide +kernel)
theorem lX6_176 : Cond.methodLink RX6 176 yX3_read ∈ TB := TB_of 480 (by decide +kernel) (by decide +kernel)
theorem lX3_26 : Cond.methodLink RX3 26 yX4_become ∈ TB := TB_of 484 (by decide +kernel) (by decide +kernel)
theorem lX4_48 : Cond.methodLink RX4 48 yX2_become ∈ TB := TB_of 488 (by decide +kernel) (by decide +kernel)
theorem lX3_36 : Cond.methodLink RX3 36 yX5_intAt ∈ TB := TB_of 492 (by decide +kernel) (by decide +kernel)
theorem lX5_31 : Cond.methodLink RX5 31 yX5_elementAt ∈ TB := TB_of 496 (by decide +kernel) (by decide +kernel)
theorem lX3_43 : Cond.methodLink RX3 43 yX3_readItem ∈ TB := TB_of 497 (by decide +kernel) (by decide +kernel)
theorem lX3_51 : Cond.methodLink RX3 51 yX3_readWord ∈ TB := TB_of 501 (by decide +kernel) (by decide +kernel)
theorem lX3_73 : Cond.methodLink RX3 73 yX3_letter ∈ TB := TB_of 505 (by decide +kernel) (by decide +kernel)
theorem lX3_76 : Cond.methodLink RX3 76 yX3_wordOf ∈ TB := TB_of 509 (by decide +kernel) (by decide +kernel)
theorem lX3_58 : Cond.methodLink RX3 58 yX3_fail ∈ TB := TB_of 559 (by decide +kernel) (by decide +kernel)
theorem lX3_47 : Cond.methodLink RX3 47 yX3_readSign ∈ TB := TB_of 571 (by decide +kernel) (by decide +kernel)
theorem lX3_55 : Cond.methodLink RX3 55 yX4_isFull ∈ TB := TB_of 575 (by decide +kernel) (by decide +kernel)
theorem lX3_61 : Cond.methodLink RX3 61 yX3_readPerson ∈ TB := TB_of 576 (by decide +kernel) (by decide +kernel)
theorem sX3_102 : (RX3, 102, roC 0, roF 0, "[I", "ThirdEvening") ∈ NBf := by decide +kernel
theorem lX3_105 : Cond.methodLink RX3 105 yX3_readNumber ∈ TB := TB_of 581 (by decide +kernel) (by decide +kernel)
theorem lX3_141 : Cond.methodLink RX3 141 yX3_isDigit ∈ TB := TB_of 585 (by decide +kernel) (by decide +kernel)
theorem lX3_144 : Cond.methodLink RX3 144 yX3_readDigit ∈ TB := TB_of 589 (by decide +kernel) (by decide +kernel)
theorem lX3_109 : Cond.methodLink RX3 109 yX4_enrol ∈ TB := TB_of 593 (by decide +kernel) (by decide +kernel)
theorem lX3_64 : Cond.methodLink RX3 64 yX3_readFriend ∈ TB := TB_of 594 (by decide +kernel) (by decide +kernel)
theorem lX3_119 : Cond.methodLink RX3 119 yX4_one ∈ TB := TB_of 598 (by decide +kernel) (by decide +kernel)
theorem lX3_67 : Cond.methodLink RX3 67 yX3_readGone ∈ TB := TB_of 599 (by decide +kernel) (by decide +kernel)
theorem lX3_70 : Cond.methodLink RX3 70 yX3_readSetting ∈ TB := TB_of 603 (by decide +kernel) (by decide +kernel)
theorem lX3_131 : (RX3, 131, yX6_leastOf, RX6) ∈ NBm := by decide +kernel
theorem lX3_134 : (RX3, 134, yX6_mostOf, RX6) ∈ NBm := by decide +kernel
theorem lX3_137 : Cond.methodLink RX3 137 yX4_settle ∈ TB := TB_of 609 (by decide +kernel) (by decide +kernel)
theorem lX6_186 : Cond.methodLink RX6 186 yX4_become ∈ TB := TB_of 610 (by decide +kernel) (by decide +kernel)
theorem lX6_190 : Cond.methodLink RX6 190 yX4_pullOn ∈ TB := TB_of 620 (by decide +kernel) (by decide +kernel)
theorem lX4_72 : Cond.methodLink RX4 72 yX2_pullOn ∈ TB := TB_of 624 (by decide +kernel) (by decide +kernel)
theorem lX2_40 : Cond.methodLink RX2 40 yJ9_abs_0f7a4 ∈ TB := TB_of 628 (by decide +kernel) (by decide +kernel)
theorem lX2_46 : Cond.methodLink RX2 46 yJ9_max_7cf53 ∈ TB := TB_of 631 (by decide +kernel) (by decide +kernel)
theorem lX2_50 : Cond.methodLink RX2 50 yX2_isMatchDay ∈ TB := TB_of 634 (by decide +kernel) (by decide +kernel)
theorem lX6_193 : Cond.methodLink RX6 193 yX4_comers ∈ TB := TB_of 642 (by decide +kernel) (by decide +kernel)
theorem lX4_76 : Cond.methodLink RX4 76 yX4_pullOn ∈ TB := TB_of 646 (by decide +kernel) (by decide +kernel)
theorem lX4_79 : (RX4, 79, yX6_isIn, RX6) ∈ NBm := by decide +kernel
theorem lX4_86 : Cond.methodLink RX4 86 yX4_present ∈ TB := TB_of 650 (by decide +kernel) (by decide +kernel)
theorem lX4_90 : Cond.methodLink RX4 90 yX4_stillComing ∈ TB := TB_of 654 (by decide +kernel) (by decide +kernel)
theorem lX4_93 : Cond.methodLink RX4 93 yX4_comesWith ∈ TB := TB_of 658 (by decide +kernel) (by decide +kernel)
theorem lX4_103 : (RX4, 103, yX6_isUnder, RX6) ∈ NBm := by decide +kernel
theorem lX6_196 : Cond.methodLink RX6 196 yX4_seatedOf ∈ TB := TB_of 663 (by decide +kernel) (by decide +kernel)
theorem lX6_199 : Cond.methodLink RX6 199 yX6_isStretch ∈ TB := TB_of 671 (by decide +kernel) (by decide +kernel)
theorem lX6_202 : Cond.methodLink RX6 202 yX1_watch ∈ TB := TB_of 674 (by decide +kernel) (by decide +kernel)
theorem lX1_24 : Cond.methodLink RX1 24 yX4_comers ∈ TB := TB_of 678 (by decide +kernel) (by decide +kernel)
theorem lX1_30 : Cond.methodLink RX1 30 yX4_seatedOf ∈ TB := TB_of 679 (by decide +kernel) (by decide +kernel)
theorem lX1_33 : Cond.methodLink RX1 33 yJ6_bitCount_0f7a4 ∈ TB := TB_of 680 (by decide +kernel) (by decide +kernel)
theorem qJ6_265 : Cond.constant RJ6 265 (1431655765 : Int32) ∈ TB := TB_of 683 (by decide +kernel) (by decide +kernel)
theorem qJ6_266 : Cond.constant RJ6 266 (858993459 : Int32) ∈ TB := TB_of 684 (by decide +kernel) (by decide +kernel)
theorem qJ6_267 : Cond.constant RJ6 267 (252645135 : Int32) ∈ TB := TB_of 685 (by decide +kernel) (by decide +kernel)
theorem lX1_41 : Cond.methodLink RX1 41 yX4_endEvening ∈ TB := TB_of 686 (by decide +kernel) (by decide +kernel)
theorem lX4_106 : Cond.methodLink RX4 106 yX2_sat ∈ TB := TB_of 690 (by decide +kernel) (by decide +kernel)
theorem lX2_54 : Cond.methodLink RX2 54 yJ9_min_7cf53 ∈ TB := TB_of 694 (by decide +kernel) (by decide +kernel)
theorem lX4_109 : Cond.methodLink RX4 109 yX2_stayedAway ∈ TB := TB_of 697 (by decide +kernel) (by decide +kernel)
theorem lX6_206 : Cond.methodLink RX6 206 yX4_present ∈ TB := TB_of 701 (by decide +kernel) (by decide +kernel)
theorem lX6_210 : Cond.methodLink RX6 210 yJ6_bitCount_0f7a4 ∈ TB := TB_of 702 (by decide +kernel) (by decide +kernel)
theorem lX6_236 : Cond.methodLink RX6 236 yX4_dismissFrom ∈ TB := TB_of 727 (by decide +kernel) (by decide +kernel)
theorem lX4_56 : Cond.methodLink RX4 56 yJ9_max_7cf53 ∈ TB := TB_of 731 (by decide +kernel) (by decide +kernel)
theorem lX6_239 : Cond.methodLink RX6 239 yX4_payForAll ∈ TB := TB_of 736 (by decide +kernel) (by decide +kernel)
theorem lX6_243 : Cond.methodLink RX6 243 yX6_isIn ∈ TB := TB_of 752 (by decide +kernel) (by decide +kernel)
theorem lX6_246 : Cond.methodLink RX6 246 yX6_heldBy ∈ TB := TB_of 757 (by decide +kernel) (by decide +kernel)
theorem lX6_249 : Cond.methodLink RX6 249 yX6_whyNoRegister ∈ TB := TB_of 769 (by decide +kernel) (by decide +kernel)
theorem lX6_253 : Cond.methodLink RX6 253 yX1_firstWrong ∈ TB := TB_of 773 (by decide +kernel) (by decide +kernel)
theorem lX1_45 : Cond.methodLink RX1 45 yX5_intAt ∈ TB := TB_of 777 (by decide +kernel) (by decide +kernel)
theorem lX6_257 : Cond.methodLink RX6 257 yX4_draw ∈ TB := TB_of 790 (by decide +kernel) (by decide +kernel)
theorem qX4_112 : Cond.constant RX4 112 (1103515245 : Int32) ∈ TB := TB_of 794 (by decide +kernel) (by decide +kernel)
theorem lX6_263 : Cond.methodLink RX6 263 yX0_forget ∈ TB := TB_of 803 (by decide +kernel) (by decide +kernel)
theorem lX6_266 : Cond.methodLink RX6 266 yX0_isMove ∈ TB := TB_of 807 (by decide +kernel) (by decide +kernel)
theorem lX6_269 : Cond.methodLink RX6 269 yX0_run ∈ TB := TB_of 810 (by decide +kernel) (by decide +kernel)
theorem lX0_32 : Cond.methodLink RX0 32 yX0_call ∈ TB := TB_of 814 (by decide +kernel) (by decide +kernel)
theorem sX0_39 : (RX0, 39, roC 0, roF 0, "[I", "ThirdEvening") ∈ NBf := by decide +kernel
theorem lX0_42 : Cond.methodLink RX0 42 yX0_bodyOf ∈ TB := TB_of 819 (by decide +kernel) (by decide +kernel)
theorem sX0_36 : Cond.fieldLink RX0 36 (roC 3) (roF 3) "[I" ∈ TB := TB_of 822 (by decide +kernel) (by decide +kernel)
theorem lX0_46 : (RX0, 46, yX6_kindAbove, RX6) ∈ NBm := by decide +kernel
theorem lX0_50 : Cond.methodLink RX0 50 yX0_note ∈ TB := TB_of 825 (by decide +kernel) (by decide +kernel)
theorem lX0_54 : Cond.methodLink RX0 54 yX0_perform ∈ TB := TB_of 829 (by decide +kernel) (by decide +kernel)
theorem lX6_273 : Cond.methodLink RX6 273 yX0_bodyAt ∈ TB := TB_of 837 (by decide +kernel) (by decide +kernel)
theorem lX6_282 : Cond.methodLink RX6 282 yX4_comingsTogether ∈ TB := TB_of 853 (by decide +kernel) (by decide +kernel)
theorem fX7_102 : FL RX7 7 0 102 false := ⟨_, rfl, by decide +kernel, by decide +kernel, by decide +kernel, TB_of 863 (by decide +kernel) (by decide +kernel)⟩
theorem fX7_7 : FL RX7 7 1 7 false := ⟨_, rfl, by decide +kernel, by decide +kernel, by decide +kernel, TB_of 864 (by decide +kernel) (by decide +kernel)⟩
theorem fX7_131 : FL RX7 7 2 131 false := ⟨_, rfl, by decide +kernel, by decide +kernel, by decide +kernel, TB_of 865 (by decide +kernel) (by decide +kernel)⟩
theorem fX7_13 : FL RX7 7 3 13 false := ⟨_, rfl, by decide +kernel, by decide +kernel, by decide +kernel, TB_of 866 (by decide +kernel) (by decide +kernel)⟩
theorem fX7_16 : FL RX7 7 4 16 false := ⟨_, rfl, by decide +kernel, by decide +kernel, by decide +kernel, TB_of 867 (by decide +kernel) (by decide +kernel)⟩
theorem fX7_183 : FL RX7 7 5 183 false := ⟨_, rfl, by decide +kernel, by decide +kernel, by decide +kernel, TB_of 868 (by decide +kernel) (by decide +kernel)⟩
theorem fX7_19 : FL RX7 7 6 19 false := ⟨_, rfl, by decide +kernel, by decide +kernel, by decide +kernel, TB_of 869 (by decide +kernel) (by decide +kernel)⟩
theorem fX7_22 : FL RX7 7 7 22 false := ⟨_, rfl, by decide +kernel, by decide +kernel, by decide +kernel, TB_of 870 (by decide +kernel) (by decide +kernel)⟩
theorem fX7_25 : FL RX7 7 8 25 true := ⟨_, rfl, by decide +kernel, by decide +kernel, by decide +kernel, TB_of 871 (by decide +kernel) (by decide +kernel)⟩
theorem fX7_29 : FL RX7 7 9 29 true := ⟨_, rfl, by decide +kernel, by decide +kernel, by decide +kernel, TB_of 872 (by decide +kernel) (by decide +kernel)⟩
theorem fX7_32 : FL RX7 7 10 32 true := ⟨_, rfl, by decide +kernel, by decide +kernel, by decide +kernel, TB_of 873 (by decide +kernel) (by decide +kernel)⟩
theorem fX7_35 : FL RX7 7 11 35 true := ⟨_, rfl, by decide +kernel, by decide +kernel, by decide +kernel, TB_of 874 (by decide +kernel) (by decide +kernel)⟩
theorem fX7_38 : FL RX7 7 12 38 true := ⟨_, rfl, by decide +kernel, by decide +kernel, by decide +kernel, TB_of 875 (by decide +kernel) (by decide +kernel)⟩
theorem fX7_41 : FL RX7 7 13 41 true := ⟨_, rfl, by decide +kernel, by decide +kernel, by decide +kernel, TB_of 876 (by decide +kernel) (by decide +kernel)⟩
theorem fX7_44 : FL RX7 7 14 44 true := ⟨_, rfl, by decide +kernel, by decide +kernel, by decide +kernel, TB_of 877 (by decide +kernel) (by decide +kernel)⟩
theorem fX7_47 : FL RX7 7 15 47 true := ⟨_, rfl, by decide +kernel, by decide +kernel, by decide +kernel, TB_of 878 (by decide +kernel) (by decide +kernel)⟩
theorem fX7_50 : FL RX7 7 16 50 true := ⟨_, rfl, by decide +kernel, by decide +kernel, by decide +kernel, TB_of 879 (by decide +kernel) (by decide +kernel)⟩
theorem fX7_53 : FL RX7 7 17 53 true := ⟨_, rfl, by decide +kernel, by decide +kernel, by decide +kernel, TB_of 880 (by decide +kernel) (by decide +kernel)⟩
theorem fX7_56 : FL RX7 7 18 56 true := ⟨_, rfl, by decide +kernel, by decide +kernel, by decide +kernel, TB_of 881 (by decide +kernel) (by decide +kernel)⟩
theorem fX7_59 : FL RX7 7 19 59 true := ⟨_, rfl, by decide +kernel, by decide +kernel, by decide +kernel, TB_of 882 (by decide +kernel) (by decide +kernel)⟩
theorem fX7_62 : FL RX7 7 20 62 true := ⟨_, rfl, by decide +kernel, by decide +kernel, by decide +kernel, TB_of 883 (by decide +kernel) (by decide +kernel)⟩
theorem fX7_65 : FL RX7 7 21 65 true := ⟨_, rfl, by decide +kernel, by decide +kernel, by decide +kernel, TB_of 884 (by decide +kernel) (by decide +kernel)⟩
theorem fX7_68 : FL RX7 7 22 68 true := ⟨_, rfl, by decide +kernel, by decide +kernel, by decide +kernel, TB_of 885 (by decide +kernel) (by decide +kernel)⟩
theorem fX7_72 : FL RX7 7 23 72 true := ⟨_, rfl, by decide +kernel, by decide +kernel, by decide +kernel, TB_of 886 (by decide +kernel) (by decide +kernel)⟩
theorem fX7_75 : FL RX7 7 24 75 true := ⟨_, rfl, by decide +kernel, by decide +kernel, by decide +kernel, TB_of 887 (by decide +kernel) (by decide +kernel)⟩
theorem fX7_78 : FL RX7 7 25 78 true := ⟨_, rfl, by decide +kernel, by decide +kernel, by decide +kernel, TB_of 888 (by decide +kernel) (by decide +kernel)⟩
theorem fX7_81 : FL RX7 7 26 81 true := ⟨_, rfl, by decide +kernel, by decide +kernel, by decide +kernel, TB_of 889 (by decide +kernel) (by decide +kernel)⟩
theorem fX7_84 : FL RX7 7 27 84 true := ⟨_, rfl, by decide +kernel, by decide +kernel, by decide +kernel, TB_of 890 (by decide +kernel) (by decide +kernel)⟩
theorem fX7_144 : FL RX7 7 28 144 false := ⟨_, rfl, by decide +kernel, by decide +kernel, by decide +kernel, TB_of 891 (by decide +kernel) (by decide +kernel)⟩
theorem fX7_147 : FL RX7 7 29 147 false := ⟨_, rfl, by decide +kernel, by decide +kernel, by decide +kernel, TB_of 892 (by decide +kernel) (by decide +kernel)⟩
theorem fX7_150 : FL RX7 7 30 150 false := ⟨_, rfl, by decide +kernel, by decide +kernel, by decide +kernel, TB_of 893 (by decide +kernel) (by decide +kernel)⟩
theorem fX7_156 : FL RX7 7 31 156 false := ⟨_, rfl, by decide +kernel, by decide +kernel, by decide +kernel, TB_of 894 (by decide +kernel) (by decide +kernel)⟩
theorem fX7_141 : FL RX7 7 32 141 false := ⟨_, rfl, by decide +kernel, by decide +kernel, by decide +kernel, TB_of 895 (by decide +kernel) (by decide +kernel)⟩
theorem fX7_87 : FL RX7 7 33 87 true := ⟨_, rfl, by decide +kernel, by decide +kernel, by decide +kernel, TB_of 896 (by decide +kernel) (by decide +kernel)⟩
theorem fX7_90 : FL RX7 7 34 90 true := ⟨_, rfl, by decide +kernel, by decide +kernel, by decide +kernel, TB_of 897 (by decide +kernel) (by decide +kernel)⟩
theorem fX7_93 : FL RX7 7 35 93 true := ⟨_, rfl, by decide +kernel, by decide +kernel, by decide +kernel, TB_of 898 (by decide +kernel) (by decide +kernel)⟩
theorem fX7_199 : FL RX7 7 36 199 false := ⟨_, rfl, by decide +kernel, by decide +kernel, by decide +kernel, TB_of 899 (by decide +kernel) (by decide +kernel)⟩
theorem fX7_205 : FL RX7 7 37 205 false := ⟨_, rfl, by decide +kernel, by decide +kernel, by decide +kernel, TB_of 900 (by decide +kernel) (by decide +kernel)⟩
theorem fX7_208 : FL RX7 7 38 208 false := ⟨_, rfl, by decide +kernel, by decide +kernel, by decide +kernel, TB_of 901 (by decide +kernel) (by decide +kernel)⟩
theorem fX7_211 : FL RX7 7 39 211 false := ⟨_, rfl, by decide +kernel, by decide +kernel, by decide +kernel, TB_of 902 (by decide +kernel) (by decide +kernel)⟩
theorem fX7_236 : FL RX7 7 40 236 false := ⟨_, rfl, by decide +kernel, by decide +kernel, by decide +kernel, TB_of 903 (by decide +kernel) (by decide +kernel)⟩
theorem fX7_218 : FL RX7 7 41 218 false := ⟨_, rfl, by decide +kernel, by decide +kernel, by decide +kernel, TB_of 904 (by decide +kernel) (by decide +kernel)⟩
theorem fX7_221 : FL RX7 7 42 221 false := ⟨_, rfl, by decide +kernel, by decide +kernel, by decide +kernel, TB_of 905 (by decide +kernel) (by decide +kernel)⟩
theorem fX7_224 : FL RX7 7 43 224 false := ⟨_, rfl, by decide +kernel, by decide +kernel, by decide +kernel, TB_of 906 (by decide +kernel) (by decide +kernel)⟩
theorem fX7_227 : FL RX7 7 44 227 false := ⟨_, rfl, by decide +kernel, by decide +kernel, by decide +kernel, TB_of 907 (by decide +kernel) (by decide +kernel)⟩
theorem fX7_239 : FL RX7 7 45 239 false := ⟨_, rfl, by decide +kernel, by decide +kernel, by decide +kernel, TB_of 908 (by decide +kernel) (by decide +kernel)⟩
theorem fX7_96 : FL RX7 7 46 96 true := ⟨_, rfl, by decide +kernel, by decide +kernel, by decide +kernel, TB_of 909 (by decide +kernel) (by decide +kernel)⟩
theorem fX7_99 : FL RX7 7 47 99 true := ⟨_, rfl, by decide +kernel, by decide +kernel, by decide +kernel, TB_of 910 (by decide +kernel) (by decide +kernel)⟩
theorem fX7_271 : FL RX7 7 48 271 false := ⟨_, rfl, by decide +kernel, by decide +kernel, by decide +kernel, TB_of 911 (by decide +kernel) (by decide +kernel)⟩
theorem fX7_285 : FL RX7 7 49 285 false := ⟨_, rfl, by decide +kernel, by decide +kernel, by decide +kernel, TB_of 912 (by decide +kernel) (by decide +kernel)⟩
theorem lX7_105 : Cond.methodLink RX7 105 yX7_isShelf ∈ TB := TB_of 1018 (by decide +kernel) (by decide +kernel)
theorem lX7_109 : Cond.methodLink RX7 109 yX7_no ∈ TB := TB_of 1022 (by decide +kernel) (by decide +kernel)
theorem lX7_113 : Cond.methodLink RX7 113 yX7_isOne ∈ TB := TB_of 1042 (by decide +kernel) (by decide +kernel)
theorem lX7_116 : Cond.methodLink RX7 116 yX7_isUnder ∈ TB := TB_of 1054 (by decide +kernel) (by decide +kernel)
theorem lX7_120 : Cond.methodLink RX7 120 yX7_isFrom ∈ TB := TB_of 1062 (by decide +kernel) (by decide +kernel)
theorem lX7_124 : Cond.methodLink RX7 124 yX7_adds ∈ TB := TB_of 1066 (by decide +kernel) (by decide +kernel)
theorem lX7_128 : Cond.methodLink RX7 128 yX7_noTen ∈ TB := TB_of 1074 (by decide +kernel) (by decide +kernel)
theorem lX7_134 : Cond.methodLink RX7 134 yX7_isAsked ∈ TB := TB_of 1082 (by decide +kernel) (by decide +kernel)
theorem lX7_137 : Cond.methodLink RX7 137 yX7_asks ∈ TB := TB_of 1086 (by decide +kernel) (by decide +kernel)
theorem lX7_186 : Cond.methodLink RX7 186 yX7_wanted ∈ TB := TB_of 1102 (by decide +kernel) (by decide +kernel)
theorem lX7_189 : Cond.methodLink RX7 189 yX7_all ∈ TB := TB_of 1106 (by decide +kernel) (by decide +kernel)
theorem lX7_179 : Cond.methodLink RX7 179 yX7_carries ∈ TB := TB_of 1110 (by decide +kernel) (by decide +kernel)
theorem lX7_193 : Cond.methodLink RX7 193 yX7_item ∈ TB := TB_of 1114 (by decide +kernel) (by decide +kernel)
theorem lX7_166 : Cond.methodLink RX7 166 yX7_isPerson ∈ TB := TB_of 1118 (by decide +kernel) (by decide +kernel)
theorem lX7_153 : Cond.methodLink RX7 153 yX7_sign ∈ TB := TB_of 1122 (by decide +kernel) (by decide +kernel)
theorem lX7_163 : Cond.methodLink RX7 163 yX7_wrong ∈ TB := TB_of 1126 (by decide +kernel) (by decide +kernel)
theorem lX7_169 : Cond.methodLink RX7 169 yX7_word ∈ TB := TB_of 1130 (by decide +kernel) (by decide +kernel)
theorem lX7_173 : Cond.methodLink RX7 173 yX7_reads ∈ TB := TB_of 1134 (by decide +kernel) (by decide +kernel)
theorem lX7_159 : Cond.methodLink RX7 159 yX7_isDigit ∈ TB := TB_of 1138 (by decide +kernel) (by decide +kernel)
theorem lX7_176 : Cond.methodLink RX7 176 yX7_isSo ∈ TB := TB_of 1142 (by decide +kernel) (by decide +kernel)
theorem lX7_196 : Cond.methodLink RX7 196 yX7_wills ∈ TB := TB_of 1154 (by decide +kernel) (by decide +kernel)
theorem lX7_214 : Cond.methodLink RX7 214 yX7_comes ∈ TB := TB_of 1162 (by decide +kernel) (by decide +kernel)
theorem lX7_202 : Cond.methodLink RX7 202 yX7_stillComes ∈ TB := TB_of 1166 (by decide +kernel) (by decide +kernel)
theorem lX7_242 : Cond.methodLink RX7 242 yX7_isMany ∈ TB := TB_of 1174 (by decide +kernel) (by decide +kernel)
theorem lX7_245 : Cond.methodLink RX7 245 yX7_runs ∈ TB := TB_of 1178 (by decide +kernel) (by decide +kernel)
theorem lX7_230 : Cond.methodLink RX7 230 yX7_passes ∈ TB := TB_of 1182 (by decide +kernel) (by decide +kernel)
theorem lX7_233 : Cond.methodLink RX7 233 yX7_here ∈ TB := TB_of 1186 (by decide +kernel) (by decide +kernel)
theorem lX7_248 : Cond.methodLink RX7 248 yX7_bits ∈ TB := TB_of 1206 (by decide +kernel) (by decide +kernel)
theorem lX7_251 : Cond.methodLink RX7 251 yX7_satIfPaid ∈ TB := TB_of 1226 (by decide +kernel) (by decide +kernel)
theorem lX7_255 : Cond.methodLink RX7 255 yX7_holdsBack ∈ TB := TB_of 1234 (by decide +kernel) (by decide +kernel)
theorem lX7_261 : Cond.methodLink RX7 261 yX7_barsOf ∈ TB := TB_of 1254 (by decide +kernel) (by decide +kernel)
theorem lX7_264 : Cond.methodLink RX7 264 yX7_wrongIn ∈ TB := TB_of 1258 (by decide +kernel) (by decide +kernel)
theorem lX7_258 : Cond.methodLink RX7 258 yX7_intAt ∈ TB := TB_of 1262 (by decide +kernel) (by decide +kernel)
theorem lX7_268 : Cond.methodLink RX7 268 yX7_draw ∈ TB := TB_of 1278 (by decide +kernel) (by decide +kernel)
theorem qX7_267 : Cond.constant RX7 267 (1103515245 : Int32) ∈ TB := TB_of 1282 (by decide +kernel) (by decide +kernel)
theorem lX7_277 : Cond.methodLink RX7 277 yX7_coming ∈ TB := TB_of 1291 (by decide +kernel) (by decide +kernel)
theorem lX7_274 : Cond.methodLink RX7 274 yX7_body ∈ TB := TB_of 1295 (by decide +kernel) (by decide +kernel)
theorem lX7_279 : Cond.methodLink RX7 279 yX7_sitting ∈ TB := TB_of 1299 (by decide +kernel) (by decide +kernel)
theorem lX7_282 : Cond.methodLink RX7 282 yX7_asking ∈ TB := TB_of 1303 (by decide +kernel) (by decide +kernel)
theorem lX7_289 : Cond.methodLink RX7 289 yX7_together ∈ TB := TB_of 1323 (by decide +kernel) (by decide +kernel)
end
section
theorem dX0_init_0 : decode cX0_init 0 = .ok (.aload_n 0, 1) := by decide +kernel
theorem dX0_init_1 : decode cX0_init 1 = .ok (.invokespecial 3, 3) := by decide +kernel
theorem dX0_init_4 : decode cX0_init 4 = .ok (.aload_n 0, 1) := by decide +kernel
theorem dX0_init_5 : decode cX0_init 5 = .ok (.bipush 20, 2) := by decide +kernel
theorem dX0_init_7 : decode cX0_init 7 = .ok (.newarray .int, 2) := by decide +kernel
theorem dX0_init_9 : decode cX0_init 9 = .ok (.putfield 9, 3) := by decide +kernel
theorem dX0_init_12 : decode cX0_init 12 = .ok (.return_, 1) := by decide +kernel
theorem dX0_isMove_0 : decode cX0_isMove 0 = .ok (.iload_n 0, 1) := by decide +kernel
theorem dX0_isMove_1 : decode cX0_isMove 1 = .ok (.ifCond .lt 12, 3) := by decide +kernel
theorem dX0_isMove_4 : decode cX0_isMove 4 = .ok (.iload_n 0, 1) := by decide +kernel
theorem dX0_isMove_5 : decode cX0_isMove 5 = .ok (.iconst 3, 1) := by decide +kernel
theorem dX0_isMove_6 : decode cX0_isMove 6 = .ok (.if_icmp .ge 7, 3) := by decide +kernel
theorem dX0_isMove_9 : decode cX0_isMove 9 = .ok (.iconst 1, 1) := by decide +kernel
theorem dX0_isMove_10 : decode cX0_isMove 10 = .ok (.goto 4, 3) := by decide +kernel
theorem dX0_isMove_13 : decode cX0_isMove 13 = .ok (.iconst 0, 1) := by decide +kernel
theorem dX0_isMove_14 : decode cX0_isMove 14 = .ok (.ireturn, 1) := by decide +kernel
theorem dX0_forget_0 : decode cX0_forget 0 = .ok (.aload_n 0, 1) := by decide +kernel
theorem dX0_forget_1 : decode cX0_forget 1 = .ok (.iconst 0, 1) := by decide +kernel
theorem dX0_forget_2 : decode cX0_forget 2 = .ok (.putfield 15, 3) := by decide +kernel
theorem dX0_forget_5 : decode cX0_forget 5 = .ok (.return_, 1) := by decide +kernel
theorem dX0_run_0 : decode cX0_run 0 = .ok (.aload_n 0, 1) := by decide +kernel
theorem dX0_run_1 : decode cX0_run 1 = .ok (.iload_n 1, 1) := by decide +kernel
theorem dX0_run_2 : decode cX0_run 2 = .ok (.putfield 19, 3) := by decide +kernel
theorem dX0_run_5 : decode cX0_run 5 = .ok (.aload_n 0, 1) := by decide +kernel
theorem dX0_run_6 : decode cX0_run 6 = .ok (.aload_n 2, 1) := by decide +kernel
theorem dX0_run_7 : decode cX0_run 7 = .ok (.getfield 22, 3) := by decide +kernel
theorem dX0_run_10 : decode cX0_run 10 = .ok (.putfield 27, 3) := by decide +kernel
theorem dX0_run_13 : decode cX0_run 13 = .ok (.aload_n 0, 1) := by decide +kernel
theorem dX0_run_14 : decode cX0_run 14 = .ok (.aload_n 2, 1) := by decide +kernel
theorem dX0_run_15 : decode cX0_run 15 = .ok (.getfield 28, 3) := by decide +kernel
theorem dX0_run_18 : decode cX0_run 18 = .ok (.putfield 31, 3) := by decide +kernel
theorem dX0_run_21 : decode cX0_run 21 = .ok (.aload_n 0, 1) := by decide +kernel
theorem dX0_run_22 : decode cX0_run 22 = .ok (.aload_n 0, 1) := by decide +kernel
theorem dX0_run_23 : decode cX0_run 23 = .ok (.getfield 27, 3) := by decide +kernel
theorem dX0_run_26 : decode cX0_run 26 = .ok (.iload_n 3, 1) := by decide +kernel
theorem dX0_run_27 : decode cX0_run 27 = .ok (.iload 4, 2) := by decide +kernel
theorem dX0_run_29 : decode cX0_run 29 = .ok (.iconst 0, 1) := by decide +kernel
theorem dX0_run_30 : decode cX0_run 30 = .ok (.invokevirtual 32, 3) := by decide +kernel
theorem dX0_run_33 : decode cX0_run 33 = .ok (.ireturn, 1) := by decide +kernel
theorem dX0_bodyAt_0 : decode cX0_bodyAt 0 = .ok (.iload_n 1, 1) := by decide +kernel
theorem dX0_bodyAt_1 : decode cX0_bodyAt 1 = .ok (.ifCond .lt 29, 3) := by decide +kernel
theorem dX0_bodyAt_4 : decode cX0_bodyAt 4 = .ok (.iload_n 1, 1) := by decide +kernel
theorem dX0_bodyAt_5 : decode cX0_bodyAt 5 = .ok (.aload_n 0, 1) := by decide +kernel
theorem dX0_bodyAt_6 : decode cX0_bodyAt 6 = .ok (.getfield 15, 3) := by decide +kernel
theorem dX0_bodyAt_9 : decode cX0_bodyAt 9 = .ok (.if_icmp .ge 21, 3) := by decide +kernel
theorem dX0_bodyAt_12 : decode cX0_bodyAt 12 = .ok (.iload_n 1, 1) := by decide +kernel
theorem dX0_bodyAt_13 : decode cX0_bodyAt 13 = .ok (.aload_n 0, 1) := by decide +kernel
theorem dX0_bodyAt_14 : decode cX0_bodyAt 14 = .ok (.getfield 9, 3) := by decide +kernel
theorem dX0_bodyAt_17 : decode cX0_bodyAt 17 = .ok (.arraylength, 1) := by decide +kernel
theorem dX0_bodyAt_18 : decode cX0_bodyAt 18 = .ok (.if_icmp .ge 12, 3) := by decide +kernel
theorem dX0_bodyAt_21 : decode cX0_bodyAt 21 = .ok (.aload_n 0, 1) := by decide +kernel
theorem dX0_bodyAt_22 : decode cX0_bodyAt 22 = .ok (.getfield 9, 3) := by decide +kernel
theorem dX0_bodyAt_25 : decode cX0_bodyAt 25 = .ok (.iload_n 1, 1) := by decide +kernel
theorem dX0_bodyAt_26 : decode cX0_bodyAt 26 = .ok (.iaload, 1) := by decide +kernel
theorem dX0_bodyAt_27 : decode cX0_bodyAt 27 = .ok (.goto 4, 3) := by decide +kernel
theorem dX0_bodyAt_30 : decode cX0_bodyAt 30 = .ok (.iconst (-1), 1) := by decide +kernel
theorem dX0_bodyAt_31 : decode cX0_bodyAt 31 = .ok (.ireturn, 1) := by decide +kernel
theorem dX0_bodyOf_0 : decode cX0_bodyOf 0 = .ok (.iload_n 0, 1) := by decide +kernel
theorem dX0_bodyOf_1 : decode cX0_bodyOf 1 = .ok (.iconst 3, 1) := by decide +kernel
theorem dX0_bodyOf_2 : decode cX0_bodyOf 2 = .ok (.imul, 1) := by decide +kernel
theorem dX0_bodyOf_3 : decode cX0_bodyOf 3 = .ok (.iload_n 1, 1) := by decide +kernel
theorem dX0_bodyOf_4 : decode cX0_bodyOf 4 = .ok (.iadd, 1) := by decide +kernel
theorem dX0_bodyOf_5 : decode cX0_bodyOf 5 = .ok (.istore_n 2, 1) := by decide +kernel
theorem dX0_bodyOf_6 : decode cX0_bodyOf 6 = .ok (.iload_n 2, 1) := by decide +kernel
theorem dX0_bodyOf_7 : decode cX0_bodyOf 7 = .ok (.ifCond .lt 19, 3) := by decide +kernel
theorem dX0_bodyOf_10 : decode cX0_bodyOf 10 = .ok (.iload_n 2, 1) := by decide +kernel
theorem dX0_bodyOf_11 : decode cX0_bodyOf 11 = .ok (.getstatic 36, 3) := by decide +kernel
theorem dX0_bodyOf_14 : decode cX0_bodyOf 14 = .ok (.arraylength, 1) := by decide +kernel
theorem dX0_bodyOf_15 : decode cX0_bodyOf 15 = .ok (.if_icmp .ge 11, 3) := by decide +kernel
theorem dX0_bodyOf_18 : decode cX0_bodyOf 18 = .ok (.getstatic 36, 3) := by decide +kernel
theorem dX0_bodyOf_21 : decode cX0_bodyOf 21 = .ok (.iload_n 2, 1) := by decide +kernel
theorem dX0_bodyOf_22 : decode cX0_bodyOf 22 = .ok (.iaload, 1) := by decide +kernel
theorem dX0_bodyOf_23 : decode cX0_bodyOf 23 = .ok (.goto 4, 3) := by decide +kernel
theorem dX0_bodyOf_26 : decode cX0_bodyOf 26 = .ok (.iconst (-1), 1) := by decide +kernel
theorem dX0_bodyOf_27 : decode cX0_bodyOf 27 = .ok (.ireturn, 1) := by decide +kernel
theorem dX0_call_0 : decode cX0_call 0 = .ok (.iload 4, 2) := by decide +kernel
theorem dX0_call_2 : decode cX0_call 2 = .ok (.bipush 30, 2) := by decide +kernel
theorem dX0_call_4 : decode cX0_call 4 = .ok (.if_icmp .le 5, 3) := by decide +kernel
theorem dX0_call_7 : decode cX0_call 7 = .ok (.iconst 0, 1) := by decide +kernel
theorem dX0_call_8 : decode cX0_call 8 = .ok (.ireturn, 1) := by decide +kernel
theorem dX0_call_9 : decode cX0_call 9 = .ok (.iload_n 1, 1) := by decide +kernel
theorem dX0_call_10 : decode cX0_call 10 = .ok (.istore 5, 2) := by decide +kernel
theorem dX0_call_12 : decode cX0_call 12 = .ok (.iconst 0, 1) := by decide +kernel
theorem dX0_call_13 : decode cX0_call 13 = .ok (.istore 6, 2) := by decide +kernel
theorem dX0_call_15 : decode cX0_call 15 = .ok (.iload 6, 2) := by decide +kernel
theorem dX0_call_17 : decode cX0_call 17 = .ok (.getstatic 39, 3) := by decide +kernel
theorem dX0_call_20 : decode cX0_call 20 = .ok (.arraylength, 1) := by decide +kernel
theorem dX0_call_21 : decode cX0_call 21 = .ok (.if_icmp .ge 26, 3) := by decide +kernel
theorem dX0_call_24 : decode cX0_call 24 = .ok (.iload 5, 2) := by decide +kernel
theorem dX0_call_26 : decode cX0_call 26 = .ok (.iload_n 2, 1) := by decide +kernel
theorem dX0_call_27 : decode cX0_call 27 = .ok (.invokestatic 42, 3) := by decide +kernel
theorem dX0_call_30 : decode cX0_call 30 = .ok (.iconst (-1), 1) := by decide +kernel
theorem dX0_call_31 : decode cX0_call 31 = .ok (.if_icmp .ne 16, 3) := by decide +kernel
theorem dX0_call_34 : decode cX0_call 34 = .ok (.iload 5, 2) := by decide +kernel
theorem dX0_call_36 : decode cX0_call 36 = .ok (.invokestatic 46, 3) := by decide +kernel
theorem dX0_call_39 : decode cX0_call 39 = .ok (.istore 5, 2) := by decide +kernel
theorem dX0_call_41 : decode cX0_call 41 = .ok (.iinc 6 1, 3) := by decide +kernel
theorem dX0_call_44 : decode cX0_call 44 = .ok (.goto (-29), 3) := by decide +kernel
theorem dX0_call_47 : decode cX0_call 47 = .ok (.iload 5, 2) := by decide +kernel
theorem dX0_call_49 : decode cX0_call 49 = .ok (.iload_n 2, 1) := by decide +kernel
theorem dX0_call_50 : decode cX0_call 50 = .ok (.invokestatic 42, 3) := by decide +kernel
theorem dX0_call_53 : decode cX0_call 53 = .ok (.istore 6, 2) := by decide +kernel
theorem dX0_call_55 : decode cX0_call 55 = .ok (.aload_n 0, 1) := by decide +kernel
theorem dX0_call_56 : decode cX0_call 56 = .ok (.iload 6, 2) := by decide +kernel
theorem dX0_call_58 : decode cX0_call 58 = .ok (.invokevirtual 50, 3) := by decide +kernel
theorem dX0_call_61 : decode cX0_call 61 = .ok (.aload_n 0, 1) := by decide +kernel
theorem dX0_call_62 : decode cX0_call 62 = .ok (.iload 6, 2) := by decide +kernel
theorem dX0_call_64 : decode cX0_call 64 = .ok (.iload_n 3, 1) := by decide +kernel
theorem dX0_call_65 : decode cX0_call 65 = .ok (.iload 4, 2) := by decide +kernel
theorem dX0_call_67 : decode cX0_call 67 = .ok (.iconst 1, 1) := by decide +kernel
theorem dX0_call_68 : decode cX0_call 68 = .ok (.iadd, 1) := by decide +kernel
theorem dX0_call_69 : decode cX0_call 69 = .ok (.invokevirtual 54, 3) := by decide +kernel
theorem dX0_call_72 : decode cX0_call 72 = .ok (.ireturn, 1) := by decide +kernel
theorem dX0_note_0 : decode cX0_note 0 = .ok (.aload_n 0, 1) := by decide +kernel
theorem dX0_note_1 : decode cX0_note 1 = .ok (.getfield 15, 3) := by decide +kernel
theorem dX0_note_4 : decode cX0_note 4 = .ok (.ifCond .lt 25, 3) := by decide +kernel
theorem dX0_note_7 : decode cX0_note 7 = .ok (.aload_n 0, 1) := by decide +kernel
theorem dX0_note_8 : decode cX0_note 8 = .ok (.getfield 15, 3) := by decide +kernel
theorem dX0_note_11 : decode cX0_note 11 = .ok (.aload_n 0, 1) := by decide +kernel
theorem dX0_note_12 : decode cX0_note 12 = .ok (.getfield 9, 3) := by decide +kernel
theorem dX0_note_15 : decode cX0_note 15 = .ok (.arraylength, 1) := by decide +kernel
theorem dX0_note_16 : decode cX0_note 16 = .ok (.if_icmp .ge 13, 3) := by decide +kernel
theorem dX0_note_19 : decode cX0_note 19 = .ok (.aload_n 0, 1) := by decide +kernel
theorem dX0_note_20 : decode cX0_note 20 = .ok (.getfield 9, 3) := by decide +kernel
theorem dX0_note_23 : decode cX0_note 23 = .ok (.aload_n 0, 1) := by decide +kernel
theorem dX0_note_24 : decode cX0_note 24 = .ok (.getfield 15, 3) := by decide +kernel
theorem dX0_note_27 : decode cX0_note 27 = .ok (.iload_n 1, 1) := by decide +kernel
theorem dX0_note_28 : decode cX0_note 28 = .ok (.iastore, 1) := by decide +kernel
theorem dX0_note_29 : decode cX0_note 29 = .ok (.aload_n 0, 1) := by decide +kernel
theorem dX0_note_30 : decode cX0_note 30 = .ok (.dup, 1) := by decide +kernel
theorem dX0_note_31 : decode cX0_note 31 = .ok (.getfield 15, 3) := by decide +kernel
theorem dX0_note_34 : decode cX0_note 34 = .ok (.iconst 1, 1) := by decide +kernel
theorem dX0_note_35 : decode cX0_note 35 = .ok (.iadd, 1) := by decide +kernel
theorem dX0_note_36 : decode cX0_note 36 = .ok (.putfield 15, 3) := by decide +kernel
theorem dX0_note_39 : decode cX0_note 39 = .ok (.return_, 1) := by decide +kernel
theorem dX0_perform_0 : decode cX0_perform 0 = .ok (.iload_n 1, 1) := by decide +kernel
theorem dX0_perform_1 : decode cX0_perform 1 = .ok (.lookupswitch 271 #[(10, 99), (11, 106), (12, 120), (20, 149), (30, 166), (40, 180), (50, 194), (51, 207), (60, 224), (70, 238), (71, 253)], 99) := by decide +kernel
theorem dX0_perform_100 : decode cX0_perform 100 = .ok (.iload_n 2, 1) := by decide +kernel
theorem dX0_perform_101 : decode cX0_perform 101 = .ok (.aload_n 0, 1) := by decide +kernel
theorem dX0_perform_102 : decode cX0_perform 102 = .ok (.getfield 19, 3) := by decide +kernel
theorem dX0_perform_105 : decode cX0_perform 105 = .ok (.iadd, 1) := by decide +kernel
theorem dX0_perform_106 : decode cX0_perform 106 = .ok (.ireturn, 1) := by decide +kernel
theorem dX0_perform_107 : decode cX0_perform 107 = .ok (.aload_n 0, 1) := by decide +kernel
theorem dX0_perform_108 : decode cX0_perform 108 = .ok (.aload_n 0, 1) := by decide +kernel
theorem dX0_perform_109 : decode cX0_perform 109 = .ok (.getfield 27, 3) := by decide +kernel
theorem dX0_perform_112 : decode cX0_perform 112 = .ok (.iconst 0, 1) := by decide +kernel
theorem dX0_perform_113 : decode cX0_perform 113 = .ok (.iload_n 2, 1) := by decide +kernel
theorem dX0_perform_114 : decode cX0_perform 114 = .ok (.iload_n 3, 1) := by decide +kernel
theorem dX0_perform_115 : decode cX0_perform 115 = .ok (.invokevirtual 32, 3) := by decide +kernel
theorem dX0_perform_118 : decode cX0_perform 118 = .ok (.iconst 2, 1) := by decide +kernel
theorem dX0_perform_119 : decode cX0_perform 119 = .ok (.imul, 1) := by decide +kernel
theorem dX0_perform_120 : decode cX0_perform 120 = .ok (.ireturn, 1) := by decide +kernel
theorem dX0_perform_121 : decode cX0_perform 121 = .ok (.aload_n 0, 1) := by decide +kernel
theorem dX0_perform_122 : decode cX0_perform 122 = .ok (.aload_n 0, 1) := by decide +kernel
theorem dX0_perform_123 : decode cX0_perform 123 = .ok (.getfield 27, 3) := by decide +kernel
theorem dX0_perform_126 : decode cX0_perform 126 = .ok (.iconst 1, 1) := by decide +kernel
theorem dX0_perform_127 : decode cX0_perform 127 = .ok (.iload_n 2, 1) := by decide +kernel
theorem dX0_perform_128 : decode cX0_perform 128 = .ok (.iload_n 3, 1) := by decide +kernel
theorem dX0_perform_129 : decode cX0_perform 129 = .ok (.invokevirtual 32, 3) := by decide +kernel
theorem dX0_perform_132 : decode cX0_perform 132 = .ok (.aload_n 0, 1) := by decide +kernel
theorem dX0_perform_133 : decode cX0_perform 133 = .ok (.aload_n 0, 1) := by decide +kernel
theorem dX0_perform_134 : decode cX0_perform 134 = .ok (.getfield 27, 3) := by decide +kernel
theorem dX0_perform_137 : decode cX0_perform 137 = .ok (.iconst 0, 1) := by decide +kernel
theorem dX0_perform_138 : decode cX0_perform 138 = .ok (.iload_n 2, 1) := by decide +kernel
theorem dX0_perform_139 : decode cX0_perform 139 = .ok (.aload_n 0, 1) := by decide +kernel
theorem dX0_perform_140 : decode cX0_perform 140 = .ok (.getfield 31, 3) := by decide +kernel
theorem dX0_perform_143 : decode cX0_perform 143 = .ok (.isub, 1) := by decide +kernel
theorem dX0_perform_144 : decode cX0_perform 144 = .ok (.iload_n 3, 1) := by decide +kernel
theorem dX0_perform_145 : decode cX0_perform 145 = .ok (.invokevirtual 32, 3) := by decide +kernel
theorem dX0_perform_148 : decode cX0_perform 148 = .ok (.ixor, 1) := by decide +kernel
theorem dX0_perform_149 : decode cX0_perform 149 = .ok (.ireturn, 1) := by decide +kernel
theorem dX0_perform_150 : decode cX0_perform 150 = .ok (.aload_n 0, 1) := by decide +kernel
theorem dX0_perform_151 : decode cX0_perform 151 = .ok (.iconst 1, 1) := by decide +kernel
theorem dX0_perform_152 : decode cX0_perform 152 = .ok (.invokestatic 46, 3) := by decide +kernel
theorem dX0_perform_155 : decode cX0_perform 155 = .ok (.iconst 0, 1) := by decide +kernel
theorem dX0_perform_156 : decode cX0_perform 156 = .ok (.iload_n 2, 1) := by decide +kernel
theorem dX0_perform_157 : decode cX0_perform 157 = .ok (.iload_n 3, 1) := by decide +kernel
theorem dX0_perform_158 : decode cX0_perform 158 = .ok (.invokevirtual 32, 3) := by decide +kernel
theorem dX0_perform_161 : decode cX0_perform 161 = .ok (.aload_n 0, 1) := by decide +kernel
theorem dX0_perform_162 : decode cX0_perform 162 = .ok (.getfield 31, 3) := by decide +kernel
theorem dX0_perform_165 : decode cX0_perform 165 = .ok (.iadd, 1) := by decide +kernel
theorem dX0_perform_166 : decode cX0_perform 166 = .ok (.ireturn, 1) := by decide +kernel
theorem dX0_perform_167 : decode cX0_perform 167 = .ok (.aload_n 0, 1) := by decide +kernel
theorem dX0_perform_168 : decode cX0_perform 168 = .ok (.iconst 2, 1) := by decide +kernel
theorem dX0_perform_169 : decode cX0_perform 169 = .ok (.invokestatic 46, 3) := by decide +kernel
theorem dX0_perform_172 : decode cX0_perform 172 = .ok (.iconst 1, 1) := by decide +kernel
theorem dX0_perform_173 : decode cX0_perform 173 = .ok (.iload_n 2, 1) := by decide +kernel
theorem dX0_perform_174 : decode cX0_perform 174 = .ok (.iload_n 3, 1) := by decide +kernel
theorem dX0_perform_175 : decode cX0_perform 175 = .ok (.invokevirtual 32, 3) := by decide +kernel
theorem dX0_perform_178 : decode cX0_perform 178 = .ok (.iconst 3, 1) := by decide +kernel
theorem dX0_perform_179 : decode cX0_perform 179 = .ok (.imul, 1) := by decide +kernel
theorem dX0_perform_180 : decode cX0_perform 180 = .ok (.ireturn, 1) := by decide +kernel
theorem dX0_perform_181 : decode cX0_perform 181 = .ok (.aload_n 0, 1) := by decide +kernel
theorem dX0_perform_182 : decode cX0_perform 182 = .ok (.iconst 3, 1) := by decide +kernel
theorem dX0_perform_183 : decode cX0_perform 183 = .ok (.invokestatic 46, 3) := by decide +kernel
theorem dX0_perform_186 : decode cX0_perform 186 = .ok (.iconst 0, 1) := by decide +kernel
theorem dX0_perform_187 : decode cX0_perform 187 = .ok (.iload_n 2, 1) := by decide +kernel
theorem dX0_perform_188 : decode cX0_perform 188 = .ok (.iconst 1, 1) := by decide +kernel
theorem dX0_perform_189 : decode cX0_perform 189 = .ok (.iadd, 1) := by decide +kernel
theorem dX0_perform_190 : decode cX0_perform 190 = .ok (.iload_n 3, 1) := by decide +kernel
theorem dX0_perform_191 : decode cX0_perform 191 = .ok (.invokevirtual 32, 3) := by decide +kernel
theorem dX0_perform_194 : decode cX0_perform 194 = .ok (.ireturn, 1) := by decide +kernel
theorem dX0_perform_195 : decode cX0_perform 195 = .ok (.aload_n 0, 1) := by decide +kernel
theorem dX0_perform_196 : decode cX0_perform 196 = .ok (.iconst 5, 1) := by decide +kernel
theorem dX0_perform_197 : decode cX0_perform 197 = .ok (.invokestatic 46, 3) := by decide +kernel
theorem dX0_perform_200 : decode cX0_perform 200 = .ok (.iconst 2, 1) := by decide +kernel
theorem dX0_perform_201 : decode cX0_perform 201 = .ok (.iload_n 2, 1) := by decide +kernel
theorem dX0_perform_202 : decode cX0_perform 202 = .ok (.iload_n 3, 1) := by decide +kernel
theorem dX0_perform_203 : decode cX0_perform 203 = .ok (.invokevirtual 32, 3) := by decide +kernel
theorem dX0_perform_206 : decode cX0_perform 206 = .ok (.ineg, 1) := by decide +kernel
theorem dX0_perform_207 : decode cX0_perform 207 = .ok (.ireturn, 1) := by decide +kernel
theorem dX0_perform_208 : decode cX0_perform 208 = .ok (.aload_n 0, 1) := by decide +kernel
theorem dX0_perform_209 : decode cX0_perform 209 = .ok (.iconst 5, 1) := by decide +kernel
theorem dX0_perform_210 : decode cX0_perform 210 = .ok (.invokestatic 46, 3) := by decide +kernel
theorem dX0_perform_213 : decode cX0_perform 213 = .ok (.iconst 0, 1) := by decide +kernel
theorem dX0_perform_214 : decode cX0_perform 214 = .ok (.iload_n 2, 1) := by decide +kernel
theorem dX0_perform_215 : decode cX0_perform 215 = .ok (.iload_n 3, 1) := by decide +kernel
theorem dX0_perform_216 : decode cX0_perform 216 = .ok (.invokevirtual 32, 3) := by decide +kernel
theorem dX0_perform_219 : decode cX0_perform 219 = .ok (.aload_n 0, 1) := by decide +kernel
theorem dX0_perform_220 : decode cX0_perform 220 = .ok (.getfield 19, 3) := by decide +kernel
theorem dX0_perform_223 : decode cX0_perform 223 = .ok (.isub, 1) := by decide +kernel
theorem dX0_perform_224 : decode cX0_perform 224 = .ok (.ireturn, 1) := by decide +kernel
theorem dX0_perform_225 : decode cX0_perform 225 = .ok (.aload_n 0, 1) := by decide +kernel
theorem dX0_perform_226 : decode cX0_perform 226 = .ok (.iconst 4, 1) := by decide +kernel
theorem dX0_perform_227 : decode cX0_perform 227 = .ok (.invokestatic 46, 3) := by decide +kernel
theorem dX0_perform_230 : decode cX0_perform 230 = .ok (.iconst 2, 1) := by decide +kernel
theorem dX0_perform_231 : decode cX0_perform 231 = .ok (.iload_n 2, 1) := by decide +kernel
theorem dX0_perform_232 : decode cX0_perform 232 = .ok (.iload_n 3, 1) := by decide +kernel
theorem dX0_perform_233 : decode cX0_perform 233 = .ok (.invokevirtual 32, 3) := by decide +kernel
theorem dX0_perform_236 : decode cX0_perform 236 = .ok (.iconst 5, 1) := by decide +kernel
theorem dX0_perform_237 : decode cX0_perform 237 = .ok (.ixor, 1) := by decide +kernel
theorem dX0_perform_238 : decode cX0_perform 238 = .ok (.ireturn, 1) := by decide +kernel
theorem dX0_perform_239 : decode cX0_perform 239 = .ok (.aload_n 0, 1) := by decide +kernel
theorem dX0_perform_240 : decode cX0_perform 240 = .ok (.bipush 6, 2) := by decide +kernel
theorem dX0_perform_242 : decode cX0_perform 242 = .ok (.invokestatic 46, 3) := by decide +kernel
theorem dX0_perform_245 : decode cX0_perform 245 = .ok (.iconst 0, 1) := by decide +kernel
theorem dX0_perform_246 : decode cX0_perform 246 = .ok (.iload_n 2, 1) := by decide +kernel
theorem dX0_perform_247 : decode cX0_perform 247 = .ok (.iload_n 3, 1) := by decide +kernel
theorem dX0_perform_248 : decode cX0_perform 248 = .ok (.invokevirtual 32, 3) := by decide +kernel
theorem dX0_perform_251 : decode cX0_perform 251 = .ok (.iconst 2, 1) := by decide +kernel
theorem dX0_perform_252 : decode cX0_perform 252 = .ok (.imul, 1) := by decide +kernel
theorem dX0_perform_253 : decode cX0_perform 253 = .ok (.ireturn, 1) := by decide +kernel
theorem dX0_perform_254 : decode cX0_perform 254 = .ok (.aload_n 0, 1) := by decide +kernel
theorem dX0_perform_255 : decode cX0_perform 255 = .ok (.bipush 6, 2) := by decide +kernel
theorem dX0_perform_257 : decode cX0_perform 257 = .ok (.invokestatic 46, 3) := by decide +kernel
theorem dX0_perform_260 : decode cX0_perform 260 = .ok (.iconst 1, 1) := by decide +kernel
theorem dX0_perform_261 : decode cX0_perform 261 = .ok (.iload_n 2, 1) := by decide +kernel
theorem dX0_perform_262 : decode cX0_perform 262 = .ok (.aload_n 0, 1) := by decide +kernel
theorem dX0_perform_263 : decode cX0_perform 263 = .ok (.getfield 31, 3) := by decide +kernel
theorem dX0_perform_266 : decode cX0_perform 266 = .ok (.isub, 1) := by decide +kernel
theorem dX0_perform_267 : decode cX0_perform 267 = .ok (.iload_n 3, 1) := by decide +kernel
theorem dX0_perform_268 : decode cX0_perform 268 = .ok (.invokevirtual 32, 3) := by decide +kernel
theorem dX0_perform_271 : decode cX0_perform 271 = .ok (.ireturn, 1) := by decide +kernel
theorem dX0_perform_272 : decode cX0_perform 272 = .ok (.iconst 0, 1) := by decide +kernel
theorem dX0_perform_273 : decode cX0_perform 273 = .ok (.ireturn, 1) := by decide +kernel
end
section
theorem dX1_init_0 : decode cX1_init 0 = .ok (.aload_n 0, 1) := by decide +kernel
theorem dX1_init_1 : decode cX1_init 1 = .ok (.invokespecial 3, 3) := by decide +kernel
theorem dX1_init_4 : decode cX1_init 4 = .ok (.return_, 1) := by decide +kernel
theorem dX1_watch_0 : decode cX1_watch 0 = .ok (.aload_n 0, 1) := by decide +kernel
theorem dX1_watch_1 : decode cX1_watch 1 = .ok (.iconst 0, 1) := by decide +kernel
theorem dX1_watch_2 : decode cX1_watch 2 = .ok (.putfield 9, 3) := by decide +kernel
theorem dX1_watch_5 : decode cX1_watch 5 = .ok (.aload_n 0, 1) := by decide +kernel
theorem dX1_watch_6 : decode cX1_watch 6 = .ok (.iconst 0, 1) := by decide +kernel
theorem dX1_watch_7 : decode cX1_watch 7 = .ok (.putfield 15, 3) := by decide +kernel
theorem dX1_watch_10 : decode cX1_watch 10 = .ok (.aload_n 0, 1) := by decide +kernel
theorem dX1_watch_11 : decode cX1_watch 11 = .ok (.iconst (-1), 1) := by decide +kernel
theorem dX1_watch_12 : decode cX1_watch 12 = .ok (.putfield 18, 3) := by decide +kernel
theorem dX1_watch_15 : decode cX1_watch 15 = .ok (.aload_n 0, 1) := by decide +kernel
theorem dX1_watch_16 : decode cX1_watch 16 = .ok (.iconst (-1), 1) := by decide +kernel
theorem dX1_watch_17 : decode cX1_watch 17 = .ok (.putfield 21, 3) := by decide +kernel
theorem dX1_watch_20 : decode cX1_watch 20 = .ok (.bipush 11, 2) := by decide +kernel
theorem dX1_watch_22 : decode cX1_watch 22 = .ok (.istore_n 3, 1) := by decide +kernel
theorem dX1_watch_23 : decode cX1_watch 23 = .ok (.iconst 0, 1) := by decide +kernel
theorem dX1_watch_24 : decode cX1_watch 24 = .ok (.istore 4, 2) := by decide +kernel
theorem dX1_watch_26 : decode cX1_watch 26 = .ok (.iload 4, 2) := by decide +kernel
theorem dX1_watch_28 : decode cX1_watch 28 = .ok (.iload_n 2, 1) := by decide +kernel
theorem dX1_watch_29 : decode cX1_watch 29 = .ok (.if_icmp .ge 103, 3) := by decide +kernel
theorem dX1_watch_32 : decode cX1_watch 32 = .ok (.aload_n 1, 1) := by decide +kernel
theorem dX1_watch_33 : decode cX1_watch 33 = .ok (.iconst 0, 1) := by decide +kernel
theorem dX1_watch_34 : decode cX1_watch 34 = .ok (.invokevirtual 24, 3) := by decide +kernel
theorem dX1_watch_37 : decode cX1_watch 37 = .ok (.istore 5, 2) := by decide +kernel
theorem dX1_watch_39 : decode cX1_watch 39 = .ok (.aload_n 1, 1) := by decide +kernel
theorem dX1_watch_40 : decode cX1_watch 40 = .ok (.iload 5, 2) := by decide +kernel
theorem dX1_watch_42 : decode cX1_watch 42 = .ok (.invokevirtual 30, 3) := by decide +kernel
theorem dX1_watch_45 : decode cX1_watch 45 = .ok (.istore 6, 2) := by decide +kernel
theorem dX1_watch_47 : decode cX1_watch 47 = .ok (.iload 6, 2) := by decide +kernel
theorem dX1_watch_49 : decode cX1_watch 49 = .ok (.invokestatic 33, 3) := by decide +kernel
theorem dX1_watch_52 : decode cX1_watch 52 = .ok (.istore 7, 2) := by decide +kernel
theorem dX1_watch_54 : decode cX1_watch 54 = .ok (.aload_n 0, 1) := by decide +kernel
theorem dX1_watch_55 : decode cX1_watch 55 = .ok (.dup, 1) := by decide +kernel
theorem dX1_watch_56 : decode cX1_watch 56 = .ok (.getfield 9, 3) := by decide +kernel
theorem dX1_watch_59 : decode cX1_watch 59 = .ok (.iload 7, 2) := by decide +kernel
theorem dX1_watch_61 : decode cX1_watch 61 = .ok (.iadd, 1) := by decide +kernel
theorem dX1_watch_62 : decode cX1_watch 62 = .ok (.putfield 9, 3) := by decide +kernel
theorem dX1_watch_65 : decode cX1_watch 65 = .ok (.aload_n 0, 1) := by decide +kernel
theorem dX1_watch_66 : decode cX1_watch 66 = .ok (.dup, 1) := by decide +kernel
theorem dX1_watch_67 : decode cX1_watch 67 = .ok (.getfield 15, 3) := by decide +kernel
theorem dX1_watch_70 : decode cX1_watch 70 = .ok (.iload 5, 2) := by decide +kernel
theorem dX1_watch_72 : decode cX1_watch 72 = .ok (.invokestatic 33, 3) := by decide +kernel
theorem dX1_watch_75 : decode cX1_watch 75 = .ok (.iload 7, 2) := by decide +kernel
theorem dX1_watch_77 : decode cX1_watch 77 = .ok (.isub, 1) := by decide +kernel
theorem dX1_watch_78 : decode cX1_watch 78 = .ok (.iadd, 1) := by decide +kernel
theorem dX1_watch_79 : decode cX1_watch 79 = .ok (.putfield 15, 3) := by decide +kernel
theorem dX1_watch_82 : decode cX1_watch 82 = .ok (.iload 7, 2) := by decide +kernel
theorem dX1_watch_84 : decode cX1_watch 84 = .ok (.iload_n 3, 1) := by decide +kernel
theorem dX1_watch_85 : decode cX1_watch 85 = .ok (.if_icmp .ge 12, 3) := by decide +kernel
theorem dX1_watch_88 : decode cX1_watch 88 = .ok (.iload 7, 2) := by decide +kernel
theorem dX1_watch_90 : decode cX1_watch 90 = .ok (.istore_n 3, 1) := by decide +kernel
theorem dX1_watch_91 : decode cX1_watch 91 = .ok (.aload_n 0, 1) := by decide +kernel
theorem dX1_watch_92 : decode cX1_watch 92 = .ok (.iload 4, 2) := by decide +kernel
theorem dX1_watch_94 : decode cX1_watch 94 = .ok (.putfield 18, 3) := by decide +kernel
theorem dX1_watch_97 : decode cX1_watch 97 = .ok (.aload_n 0, 1) := by decide +kernel
theorem dX1_watch_98 : decode cX1_watch 98 = .ok (.getfield 21, 3) := by decide +kernel
theorem dX1_watch_101 : decode cX1_watch 101 = .ok (.iconst (-1), 1) := by decide +kernel
theorem dX1_watch_102 : decode cX1_watch 102 = .ok (.if_icmp .ne 18, 3) := by decide +kernel
theorem dX1_watch_105 : decode cX1_watch 105 = .ok (.iload 7, 2) := by decide +kernel
theorem dX1_watch_107 : decode cX1_watch 107 = .ok (.aload_n 1, 1) := by decide +kernel
theorem dX1_watch_108 : decode cX1_watch 108 = .ok (.getfield 38, 3) := by decide +kernel
theorem dX1_watch_111 : decode cX1_watch 111 = .ok (.if_icmp .ge 9, 3) := by decide +kernel
theorem dX1_watch_114 : decode cX1_watch 114 = .ok (.aload_n 0, 1) := by decide +kernel
theorem dX1_watch_115 : decode cX1_watch 115 = .ok (.iload 4, 2) := by decide +kernel
theorem dX1_watch_117 : decode cX1_watch 117 = .ok (.putfield 21, 3) := by decide +kernel
theorem dX1_watch_120 : decode cX1_watch 120 = .ok (.aload_n 1, 1) := by decide +kernel
theorem dX1_watch_121 : decode cX1_watch 121 = .ok (.iload 6, 2) := by decide +kernel
theorem dX1_watch_123 : decode cX1_watch 123 = .ok (.invokevirtual 41, 3) := by decide +kernel
theorem dX1_watch_126 : decode cX1_watch 126 = .ok (.iinc 4 1, 3) := by decide +kernel
theorem dX1_watch_129 : decode cX1_watch 129 = .ok (.goto (-103), 3) := by decide +kernel
theorem dX1_watch_132 : decode cX1_watch 132 = .ok (.return_, 1) := by decide +kernel
theorem dX1_firstWrong_0 : decode cX1_firstWrong 0 = .ok (.iconst 0, 1) := by decide +kernel
theorem dX1_firstWrong_1 : decode cX1_firstWrong 1 = .ok (.istore 4, 2) := by decide +kernel
theorem dX1_firstWrong_3 : decode cX1_firstWrong 3 = .ok (.iload 4, 2) := by decide +kernel
theorem dX1_firstWrong_5 : decode cX1_firstWrong 5 = .ok (.iload_n 3, 1) := by decide +kernel
theorem dX1_firstWrong_6 : decode cX1_firstWrong 6 = .ok (.if_icmp .ge 40, 3) := by decide +kernel
theorem dX1_firstWrong_9 : decode cX1_firstWrong 9 = .ok (.aload_n 1, 1) := by decide +kernel
theorem dX1_firstWrong_10 : decode cX1_firstWrong 10 = .ok (.aload_n 1, 1) := by decide +kernel
theorem dX1_firstWrong_11 : decode cX1_firstWrong 11 = .ok (.iconst 0, 1) := by decide +kernel
theorem dX1_firstWrong_12 : decode cX1_firstWrong 12 = .ok (.invokevirtual 24, 3) := by decide +kernel
theorem dX1_firstWrong_15 : decode cX1_firstWrong 15 = .ok (.invokevirtual 30, 3) := by decide +kernel
theorem dX1_firstWrong_18 : decode cX1_firstWrong 18 = .ok (.istore 5, 2) := by decide +kernel
theorem dX1_firstWrong_20 : decode cX1_firstWrong 20 = .ok (.aload_n 2, 1) := by decide +kernel
theorem dX1_firstWrong_21 : decode cX1_firstWrong 21 = .ok (.iload 4, 2) := by decide +kernel
theorem dX1_firstWrong_23 : decode cX1_firstWrong 23 = .ok (.invokevirtual 45, 3) := by decide +kernel
theorem dX1_firstWrong_26 : decode cX1_firstWrong 26 = .ok (.iload 5, 2) := by decide +kernel
theorem dX1_firstWrong_28 : decode cX1_firstWrong 28 = .ok (.if_icmp .eq 6, 3) := by decide +kernel
theorem dX1_firstWrong_31 : decode cX1_firstWrong 31 = .ok (.iload 4, 2) := by decide +kernel
theorem dX1_firstWrong_33 : decode cX1_firstWrong 33 = .ok (.ireturn, 1) := by decide +kernel
theorem dX1_firstWrong_34 : decode cX1_firstWrong 34 = .ok (.aload_n 1, 1) := by decide +kernel
theorem dX1_firstWrong_35 : decode cX1_firstWrong 35 = .ok (.iload 5, 2) := by decide +kernel
theorem dX1_firstWrong_37 : decode cX1_firstWrong 37 = .ok (.invokevirtual 41, 3) := by decide +kernel
theorem dX1_firstWrong_40 : decode cX1_firstWrong 40 = .ok (.iinc 4 1, 3) := by decide +kernel
theorem dX1_firstWrong_43 : decode cX1_firstWrong 43 = .ok (.goto (-40), 3) := by decide +kernel
theorem dX1_firstWrong_46 : decode cX1_firstWrong 46 = .ok (.iconst (-1), 1) := by decide +kernel
theorem dX1_firstWrong_47 : decode cX1_firstWrong 47 = .ok (.ireturn, 1) := by decide +kernel
end
section
theorem dX2_init_0 : decode cX2_init 0 = .ok (.aload_n 0, 1) := by decide +kernel
theorem dX2_init_1 : decode cX2_init 1 = .ok (.invokespecial 3, 3) := by decide +kernel
theorem dX2_init_4 : decode cX2_init 4 = .ok (.aload_n 0, 1) := by decide +kernel
theorem dX2_init_5 : decode cX2_init 5 = .ok (.iconst (-1), 1) := by decide +kernel
theorem dX2_init_6 : decode cX2_init 6 = .ok (.putfield 9, 3) := by decide +kernel
theorem dX2_init_9 : decode cX2_init 9 = .ok (.return_, 1) := by decide +kernel
theorem dX2_enter_0 : decode cX2_enter 0 = .ok (.aload_n 0, 1) := by decide +kernel
theorem dX2_enter_1 : decode cX2_enter 1 = .ok (.iload_n 1, 1) := by decide +kernel
theorem dX2_enter_2 : decode cX2_enter 2 = .ok (.putfield 15, 3) := by decide +kernel
theorem dX2_enter_5 : decode cX2_enter 5 = .ok (.aload_n 0, 1) := by decide +kernel
theorem dX2_enter_6 : decode cX2_enter 6 = .ok (.iload_n 2, 1) := by decide +kernel
theorem dX2_enter_7 : decode cX2_enter 7 = .ok (.putfield 18, 3) := by decide +kernel
theorem dX2_enter_10 : decode cX2_enter 10 = .ok (.aload_n 0, 1) := by decide +kernel
theorem dX2_enter_11 : decode cX2_enter 11 = .ok (.iload_n 3, 1) := by decide +kernel
theorem dX2_enter_12 : decode cX2_enter 12 = .ok (.putfield 21, 3) := by decide +kernel
theorem dX2_enter_15 : decode cX2_enter 15 = .ok (.aload_n 0, 1) := by decide +kernel
theorem dX2_enter_16 : decode cX2_enter 16 = .ok (.iload 4, 2) := by decide +kernel
theorem dX2_enter_18 : decode cX2_enter 18 = .ok (.putfield 24, 3) := by decide +kernel
theorem dX2_enter_21 : decode cX2_enter 21 = .ok (.aload_n 0, 1) := by decide +kernel
theorem dX2_enter_22 : decode cX2_enter 22 = .ok (.iconst (-1), 1) := by decide +kernel
theorem dX2_enter_23 : decode cX2_enter 23 = .ok (.putfield 9, 3) := by decide +kernel
theorem dX2_enter_26 : decode cX2_enter 26 = .ok (.aload_n 0, 1) := by decide +kernel
theorem dX2_enter_27 : decode cX2_enter 27 = .ok (.iconst 0, 1) := by decide +kernel
theorem dX2_enter_28 : decode cX2_enter 28 = .ok (.putfield 28, 3) := by decide +kernel
theorem dX2_enter_31 : decode cX2_enter 31 = .ok (.aload_n 0, 1) := by decide +kernel
theorem dX2_enter_32 : decode cX2_enter 32 = .ok (.iconst 0, 1) := by decide +kernel
theorem dX2_enter_33 : decode cX2_enter 33 = .ok (.putfield 31, 3) := by decide +kernel
theorem dX2_enter_36 : decode cX2_enter 36 = .ok (.aload_n 0, 1) := by decide +kernel
theorem dX2_enter_37 : decode cX2_enter 37 = .ok (.iconst 0, 1) := by decide +kernel
theorem dX2_enter_38 : decode cX2_enter 38 = .ok (.putfield 34, 3) := by decide +kernel
theorem dX2_enter_41 : decode cX2_enter 41 = .ok (.aload_n 0, 1) := by decide +kernel
theorem dX2_enter_42 : decode cX2_enter 42 = .ok (.iconst 0, 1) := by decide +kernel
theorem dX2_enter_43 : decode cX2_enter 43 = .ok (.putfield 37, 3) := by decide +kernel
theorem dX2_enter_46 : decode cX2_enter 46 = .ok (.return_, 1) := by decide +kernel
theorem dX2_become_0 : decode cX2_become 0 = .ok (.aload_n 0, 1) := by decide +kernel
theorem dX2_become_1 : decode cX2_become 1 = .ok (.aload_n 1, 1) := by decide +kernel
theorem dX2_become_2 : decode cX2_become 2 = .ok (.getfield 15, 3) := by decide +kernel
theorem dX2_become_5 : decode cX2_become 5 = .ok (.putfield 15, 3) := by decide +kernel
theorem dX2_become_8 : decode cX2_become 8 = .ok (.aload_n 0, 1) := by decide +kernel
theorem dX2_become_9 : decode cX2_become 9 = .ok (.aload_n 1, 1) := by decide +kernel
theorem dX2_become_10 : decode cX2_become 10 = .ok (.getfield 18, 3) := by decide +kernel
theorem dX2_become_13 : decode cX2_become 13 = .ok (.putfield 18, 3) := by decide +kernel
theorem dX2_become_16 : decode cX2_become 16 = .ok (.aload_n 0, 1) := by decide +kernel
theorem dX2_become_17 : decode cX2_become 17 = .ok (.aload_n 1, 1) := by decide +kernel
theorem dX2_become_18 : decode cX2_become 18 = .ok (.getfield 21, 3) := by decide +kernel
theorem dX2_become_21 : decode cX2_become 21 = .ok (.putfield 21, 3) := by decide +kernel
theorem dX2_become_24 : decode cX2_become 24 = .ok (.aload_n 0, 1) := by decide +kernel
theorem dX2_become_25 : decode cX2_become 25 = .ok (.aload_n 1, 1) := by decide +kernel
theorem dX2_become_26 : decode cX2_become 26 = .ok (.getfield 24, 3) := by decide +kernel
theorem dX2_become_29 : decode cX2_become 29 = .ok (.putfield 24, 3) := by decide +kernel
theorem dX2_become_32 : decode cX2_become 32 = .ok (.aload_n 0, 1) := by decide +kernel
theorem dX2_become_33 : decode cX2_become 33 = .ok (.aload_n 1, 1) := by decide +kernel
theorem dX2_become_34 : decode cX2_become 34 = .ok (.getfield 9, 3) := by decide +kernel
theorem dX2_become_37 : decode cX2_become 37 = .ok (.putfield 9, 3) := by decide +kernel
theorem dX2_become_40 : decode cX2_become 40 = .ok (.aload_n 0, 1) := by decide +kernel
theorem dX2_become_41 : decode cX2_become 41 = .ok (.aload_n 1, 1) := by decide +kernel
theorem dX2_become_42 : decode cX2_become 42 = .ok (.getfield 28, 3) := by decide +kernel
theorem dX2_become_45 : decode cX2_become 45 = .ok (.putfield 28, 3) := by decide +kernel
theorem dX2_become_48 : decode cX2_become 48 = .ok (.aload_n 0, 1) := by decide +kernel
theorem dX2_become_49 : decode cX2_become 49 = .ok (.aload_n 1, 1) := by decide +kernel
theorem dX2_become_50 : decode cX2_become 50 = .ok (.getfield 31, 3) := by decide +kernel
theorem dX2_become_53 : decode cX2_become 53 = .ok (.putfield 31, 3) := by decide +kernel
theorem dX2_become_56 : decode cX2_become 56 = .ok (.aload_n 0, 1) := by decide +kernel
theorem dX2_become_57 : decode cX2_become 57 = .ok (.aload_n 1, 1) := by decide +kernel
theorem dX2_become_58 : decode cX2_become 58 = .ok (.getfield 34, 3) := by decide +kernel
theorem dX2_become_61 : decode cX2_become 61 = .ok (.putfield 34, 3) := by decide +kernel
theorem dX2_become_64 : decode cX2_become 64 = .ok (.aload_n 0, 1) := by decide +kernel
theorem dX2_become_65 : decode cX2_become 65 = .ok (.aload_n 1, 1) := by decide +kernel
theorem dX2_become_66 : decode cX2_become 66 = .ok (.getfield 37, 3) := by decide +kernel
theorem dX2_become_69 : decode cX2_become 69 = .ok (.putfield 37, 3) := by decide +kernel
theorem dX2_become_72 : decode cX2_become 72 = .ok (.return_, 1) := by decide +kernel
theorem dX2_pullOn_0 : decode cX2_pullOn 0 = .ok (.iload_n 1, 1) := by decide +kernel
theorem dX2_pullOn_1 : decode cX2_pullOn 1 = .ok (.aload_n 0, 1) := by decide +kernel
theorem dX2_pullOn_2 : decode cX2_pullOn 2 = .ok (.getfield 21, 3) := by decide +kernel
theorem dX2_pullOn_5 : decode cX2_pullOn 5 = .ok (.isub, 1) := by decide +kernel
theorem dX2_pullOn_6 : decode cX2_pullOn 6 = .ok (.invokestatic 40, 3) := by decide +kernel
theorem dX2_pullOn_9 : decode cX2_pullOn 9 = .ok (.iconst 2, 1) := by decide +kernel
theorem dX2_pullOn_10 : decode cX2_pullOn 10 = .ok (.idiv, 1) := by decide +kernel
theorem dX2_pullOn_11 : decode cX2_pullOn 11 = .ok (.istore 4, 2) := by decide +kernel
theorem dX2_pullOn_13 : decode cX2_pullOn 13 = .ok (.bipush 12, 2) := by decide +kernel
theorem dX2_pullOn_15 : decode cX2_pullOn 15 = .ok (.iload_n 2, 1) := by decide +kernel
theorem dX2_pullOn_16 : decode cX2_pullOn 16 = .ok (.isub, 1) := by decide +kernel
theorem dX2_pullOn_17 : decode cX2_pullOn 17 = .ok (.iload 4, 2) := by decide +kernel
theorem dX2_pullOn_19 : decode cX2_pullOn 19 = .ok (.isub, 1) := by decide +kernel
theorem dX2_pullOn_20 : decode cX2_pullOn 20 = .ok (.iconst 2, 1) := by decide +kernel
theorem dX2_pullOn_21 : decode cX2_pullOn 21 = .ok (.aload_n 0, 1) := by decide +kernel
theorem dX2_pullOn_22 : decode cX2_pullOn 22 = .ok (.getfield 28, 3) := by decide +kernel
theorem dX2_pullOn_25 : decode cX2_pullOn 25 = .ok (.imul, 1) := by decide +kernel
theorem dX2_pullOn_26 : decode cX2_pullOn 26 = .ok (.isub, 1) := by decide +kernel
theorem dX2_pullOn_27 : decode cX2_pullOn 27 = .ok (.istore 5, 2) := by decide +kernel
theorem dX2_pullOn_29 : decode cX2_pullOn 29 = .ok (.aload_n 0, 1) := by decide +kernel
theorem dX2_pullOn_30 : decode cX2_pullOn 30 = .ok (.getfield 24, 3) := by decide +kernel
theorem dX2_pullOn_33 : decode cX2_pullOn 33 = .ok (.ifCond .eq 17, 3) := by decide +kernel
theorem dX2_pullOn_36 : decode cX2_pullOn 36 = .ok (.iload 5, 2) := by decide +kernel
theorem dX2_pullOn_38 : decode cX2_pullOn 38 = .ok (.iconst 0, 1) := by decide +kernel
theorem dX2_pullOn_39 : decode cX2_pullOn 39 = .ok (.iconst 4, 1) := by decide +kernel
theorem dX2_pullOn_40 : decode cX2_pullOn 40 = .ok (.iload_n 3, 1) := by decide +kernel
theorem dX2_pullOn_41 : decode cX2_pullOn 41 = .ok (.iconst 3, 1) := by decide +kernel
theorem dX2_pullOn_42 : decode cX2_pullOn 42 = .ok (.idiv, 1) := by decide +kernel
theorem dX2_pullOn_43 : decode cX2_pullOn 43 = .ok (.isub, 1) := by decide +kernel
theorem dX2_pullOn_44 : decode cX2_pullOn 44 = .ok (.invokestatic 46, 3) := by decide +kernel
theorem dX2_pullOn_47 : decode cX2_pullOn 47 = .ok (.iadd, 1) := by decide +kernel
theorem dX2_pullOn_48 : decode cX2_pullOn 48 = .ok (.istore 5, 2) := by decide +kernel
theorem dX2_pullOn_50 : decode cX2_pullOn 50 = .ok (.aload_n 0, 1) := by decide +kernel
theorem dX2_pullOn_51 : decode cX2_pullOn 51 = .ok (.getfield 15, 3) := by decide +kernel
theorem dX2_pullOn_54 : decode cX2_pullOn 54 = .ok (.tableswitch 94 1 6 #[38, 56, 46, 64, 75, 46], 38) := by decide +kernel
theorem dX2_pullOn_92 : decode cX2_pullOn 92 = .ok (.iload 5, 2) := by decide +kernel
theorem dX2_pullOn_94 : decode cX2_pullOn 94 = .ok (.aload_n 0, 1) := by decide +kernel
theorem dX2_pullOn_95 : decode cX2_pullOn 95 = .ok (.getfield 18, 3) := by decide +kernel
theorem dX2_pullOn_98 : decode cX2_pullOn 98 = .ok (.iadd, 1) := by decide +kernel
theorem dX2_pullOn_99 : decode cX2_pullOn 99 = .ok (.ireturn, 1) := by decide +kernel
theorem dX2_pullOn_100 : decode cX2_pullOn 100 = .ok (.iload 5, 2) := by decide +kernel
theorem dX2_pullOn_102 : decode cX2_pullOn 102 = .ok (.aload_n 0, 1) := by decide +kernel
theorem dX2_pullOn_103 : decode cX2_pullOn 103 = .ok (.getfield 18, 3) := by decide +kernel
theorem dX2_pullOn_106 : decode cX2_pullOn 106 = .ok (.iadd, 1) := by decide +kernel
theorem dX2_pullOn_107 : decode cX2_pullOn 107 = .ok (.iconst 2, 1) := by decide +kernel
theorem dX2_pullOn_108 : decode cX2_pullOn 108 = .ok (.iadd, 1) := by decide +kernel
theorem dX2_pullOn_109 : decode cX2_pullOn 109 = .ok (.ireturn, 1) := by decide +kernel
theorem dX2_pullOn_110 : decode cX2_pullOn 110 = .ok (.iload 5, 2) := by decide +kernel
theorem dX2_pullOn_112 : decode cX2_pullOn 112 = .ok (.aload_n 0, 1) := by decide +kernel
theorem dX2_pullOn_113 : decode cX2_pullOn 113 = .ok (.getfield 18, 3) := by decide +kernel
theorem dX2_pullOn_116 : decode cX2_pullOn 116 = .ok (.isub, 1) := by decide +kernel
theorem dX2_pullOn_117 : decode cX2_pullOn 117 = .ok (.ireturn, 1) := by decide +kernel
theorem dX2_pullOn_118 : decode cX2_pullOn 118 = .ok (.iload 5, 2) := by decide +kernel
theorem dX2_pullOn_120 : decode cX2_pullOn 120 = .ok (.aload_n 0, 1) := by decide +kernel
theorem dX2_pullOn_121 : decode cX2_pullOn 121 = .ok (.getfield 18, 3) := by decide +kernel
theorem dX2_pullOn_124 : decode cX2_pullOn 124 = .ok (.isub, 1) := by decide +kernel
theorem dX2_pullOn_125 : decode cX2_pullOn 125 = .ok (.iload 4, 2) := by decide +kernel
theorem dX2_pullOn_127 : decode cX2_pullOn 127 = .ok (.isub, 1) := by decide +kernel
theorem dX2_pullOn_128 : decode cX2_pullOn 128 = .ok (.ireturn, 1) := by decide +kernel
theorem dX2_pullOn_129 : decode cX2_pullOn 129 = .ok (.aload_n 0, 1) := by decide +kernel
theorem dX2_pullOn_130 : decode cX2_pullOn 130 = .ok (.iload_n 3, 1) := by decide +kernel
theorem dX2_pullOn_131 : decode cX2_pullOn 131 = .ok (.invokevirtual 50, 3) := by decide +kernel
theorem dX2_pullOn_134 : decode cX2_pullOn 134 = .ok (.ifCond .eq 11, 3) := by decide +kernel
theorem dX2_pullOn_137 : decode cX2_pullOn 137 = .ok (.iload 5, 2) := by decide +kernel
theorem dX2_pullOn_139 : decode cX2_pullOn 139 = .ok (.bipush 20, 2) := by decide +kernel
theorem dX2_pullOn_141 : decode cX2_pullOn 141 = .ok (.isub, 1) := by decide +kernel
theorem dX2_pullOn_142 : decode cX2_pullOn 142 = .ok (.goto 5, 3) := by decide +kernel
theorem dX2_pullOn_145 : decode cX2_pullOn 145 = .ok (.iload 5, 2) := by decide +kernel
theorem dX2_pullOn_147 : decode cX2_pullOn 147 = .ok (.ireturn, 1) := by decide +kernel
theorem dX2_pullOn_148 : decode cX2_pullOn 148 = .ok (.iload 5, 2) := by decide +kernel
theorem dX2_pullOn_150 : decode cX2_pullOn 150 = .ok (.ireturn, 1) := by decide +kernel
theorem dX2_isMatchDay_0 : decode cX2_isMatchDay 0 = .ok (.aload_n 0, 1) := by decide +kernel
theorem dX2_isMatchDay_1 : decode cX2_isMatchDay 1 = .ok (.getfield 18, 3) := by decide +kernel
theorem dX2_isMatchDay_4 : decode cX2_isMatchDay 4 = .ok (.iconst 2, 1) := by decide +kernel
theorem dX2_isMatchDay_5 : decode cX2_isMatchDay 5 = .ok (.iadd, 1) := by decide +kernel
theorem dX2_isMatchDay_6 : decode cX2_isMatchDay 6 = .ok (.istore_n 2, 1) := by decide +kernel
theorem dX2_isMatchDay_7 : decode cX2_isMatchDay 7 = .ok (.iload_n 2, 1) := by decide +kernel
theorem dX2_isMatchDay_8 : decode cX2_isMatchDay 8 = .ok (.ifCond .le 13, 3) := by decide +kernel
theorem dX2_isMatchDay_11 : decode cX2_isMatchDay 11 = .ok (.iload_n 1, 1) := by decide +kernel
theorem dX2_isMatchDay_12 : decode cX2_isMatchDay 12 = .ok (.iload_n 2, 1) := by decide +kernel
theorem dX2_isMatchDay_13 : decode cX2_isMatchDay 13 = .ok (.irem, 1) := by decide +kernel
theorem dX2_isMatchDay_14 : decode cX2_isMatchDay 14 = .ok (.ifCond .ne 7, 3) := by decide +kernel
theorem dX2_isMatchDay_17 : decode cX2_isMatchDay 17 = .ok (.iconst 1, 1) := by decide +kernel
theorem dX2_isMatchDay_18 : decode cX2_isMatchDay 18 = .ok (.goto 4, 3) := by decide +kernel
theorem dX2_isMatchDay_21 : decode cX2_isMatchDay 21 = .ok (.iconst 0, 1) := by decide +kernel
theorem dX2_isMatchDay_22 : decode cX2_isMatchDay 22 = .ok (.ireturn, 1) := by decide +kernel
theorem dX2_sat_0 : decode cX2_sat 0 = .ok (.aload_n 0, 1) := by decide +kernel
theorem dX2_sat_1 : decode cX2_sat 1 = .ok (.dup, 1) := by decide +kernel
theorem dX2_sat_2 : decode cX2_sat 2 = .ok (.getfield 34, 3) := by decide +kernel
theorem dX2_sat_5 : decode cX2_sat 5 = .ok (.iconst 1, 1) := by decide +kernel
theorem dX2_sat_6 : decode cX2_sat 6 = .ok (.iadd, 1) := by decide +kernel
theorem dX2_sat_7 : decode cX2_sat 7 = .ok (.putfield 34, 3) := by decide +kernel
theorem dX2_sat_10 : decode cX2_sat 10 = .ok (.aload_n 0, 1) := by decide +kernel
theorem dX2_sat_11 : decode cX2_sat 11 = .ok (.iconst 0, 1) := by decide +kernel
theorem dX2_sat_12 : decode cX2_sat 12 = .ok (.aload_n 0, 1) := by decide +kernel
theorem dX2_sat_13 : decode cX2_sat 13 = .ok (.getfield 28, 3) := by decide +kernel
theorem dX2_sat_16 : decode cX2_sat 16 = .ok (.iconst 1, 1) := by decide +kernel
theorem dX2_sat_17 : decode cX2_sat 17 = .ok (.isub, 1) := by decide +kernel
theorem dX2_sat_18 : decode cX2_sat 18 = .ok (.invokestatic 46, 3) := by decide +kernel
theorem dX2_sat_21 : decode cX2_sat 21 = .ok (.putfield 28, 3) := by decide +kernel
theorem dX2_sat_24 : decode cX2_sat 24 = .ok (.aload_n 0, 1) := by decide +kernel
theorem dX2_sat_25 : decode cX2_sat 25 = .ok (.bipush 20, 2) := by decide +kernel
theorem dX2_sat_27 : decode cX2_sat 27 = .ok (.aload_n 0, 1) := by decide +kernel
theorem dX2_sat_28 : decode cX2_sat 28 = .ok (.getfield 21, 3) := by decide +kernel
theorem dX2_sat_31 : decode cX2_sat 31 = .ok (.iconst 1, 1) := by decide +kernel
theorem dX2_sat_32 : decode cX2_sat 32 = .ok (.iadd, 1) := by decide +kernel
theorem dX2_sat_33 : decode cX2_sat 33 = .ok (.invokestatic 54, 3) := by decide +kernel
theorem dX2_sat_36 : decode cX2_sat 36 = .ok (.putfield 21, 3) := by decide +kernel
theorem dX2_sat_39 : decode cX2_sat 39 = .ok (.aload_n 0, 1) := by decide +kernel
theorem dX2_sat_40 : decode cX2_sat 40 = .ok (.iconst 0, 1) := by decide +kernel
theorem dX2_sat_41 : decode cX2_sat 41 = .ok (.putfield 31, 3) := by decide +kernel
theorem dX2_sat_44 : decode cX2_sat 44 = .ok (.return_, 1) := by decide +kernel
theorem dX2_stayedAway_0 : decode cX2_stayedAway 0 = .ok (.aload_n 0, 1) := by decide +kernel
theorem dX2_stayedAway_1 : decode cX2_stayedAway 1 = .ok (.bipush 9, 2) := by decide +kernel
theorem dX2_stayedAway_3 : decode cX2_stayedAway 3 = .ok (.aload_n 0, 1) := by decide +kernel
theorem dX2_stayedAway_4 : decode cX2_stayedAway 4 = .ok (.getfield 28, 3) := by decide +kernel
theorem dX2_stayedAway_7 : decode cX2_stayedAway 7 = .ok (.iconst 1, 1) := by decide +kernel
theorem dX2_stayedAway_8 : decode cX2_stayedAway 8 = .ok (.iadd, 1) := by decide +kernel
theorem dX2_stayedAway_9 : decode cX2_stayedAway 9 = .ok (.invokestatic 54, 3) := by decide +kernel
theorem dX2_stayedAway_12 : decode cX2_stayedAway 12 = .ok (.putfield 28, 3) := by decide +kernel
theorem dX2_stayedAway_15 : decode cX2_stayedAway 15 = .ok (.aload_n 0, 1) := by decide +kernel
theorem dX2_stayedAway_16 : decode cX2_stayedAway 16 = .ok (.dup, 1) := by decide +kernel
theorem dX2_stayedAway_17 : decode cX2_stayedAway 17 = .ok (.getfield 31, 3) := by decide +kernel
theorem dX2_stayedAway_20 : decode cX2_stayedAway 20 = .ok (.iconst 1, 1) := by decide +kernel
theorem dX2_stayedAway_21 : decode cX2_stayedAway 21 = .ok (.iadd, 1) := by decide +kernel
theorem dX2_stayedAway_22 : decode cX2_stayedAway 22 = .ok (.putfield 31, 3) := by decide +kernel
theorem dX2_stayedAway_25 : decode cX2_stayedAway 25 = .ok (.aload_n 0, 1) := by decide +kernel
theorem dX2_stayedAway_26 : decode cX2_stayedAway 26 = .ok (.getfield 31, 3) := by decide +kernel
theorem dX2_stayedAway_29 : decode cX2_stayedAway 29 = .ok (.aload_n 0, 1) := by decide +kernel
theorem dX2_stayedAway_30 : decode cX2_stayedAway 30 = .ok (.getfield 24, 3) := by decide +kernel
theorem dX2_stayedAway_33 : decode cX2_stayedAway 33 = .ok (.ifCond .eq 7, 3) := by decide +kernel
theorem dX2_stayedAway_36 : decode cX2_stayedAway 36 = .ok (.iconst 3, 1) := by decide +kernel
theorem dX2_stayedAway_37 : decode cX2_stayedAway 37 = .ok (.goto 4, 3) := by decide +kernel
theorem dX2_stayedAway_40 : decode cX2_stayedAway 40 = .ok (.iconst 2, 1) := by decide +kernel
theorem dX2_stayedAway_41 : decode cX2_stayedAway 41 = .ok (.if_icmp .lt 8, 3) := by decide +kernel
theorem dX2_stayedAway_44 : decode cX2_stayedAway 44 = .ok (.aload_n 0, 1) := by decide +kernel
theorem dX2_stayedAway_45 : decode cX2_stayedAway 45 = .ok (.iconst 1, 1) := by decide +kernel
theorem dX2_stayedAway_46 : decode cX2_stayedAway 46 = .ok (.putfield 37, 3) := by decide +kernel
theorem dX2_stayedAway_49 : decode cX2_stayedAway 49 = .ok (.return_, 1) := by decide +kernel
theorem dX2_mark_0 : decode cX2_mark 0 = .ok (.iload_n 1, 1) := by decide +kernel
theorem dX2_mark_1 : decode cX2_mark 1 = .ok (.tableswitch 86 0 6 #[43, 48, 53, 58, 71, 76, 81], 43) := by decide +kernel
theorem dX2_mark_44 : decode cX2_mark 44 = .ok (.aload_n 0, 1) := by decide +kernel
theorem dX2_mark_45 : decode cX2_mark 45 = .ok (.getfield 15, 3) := by decide +kernel
theorem dX2_mark_48 : decode cX2_mark 48 = .ok (.ireturn, 1) := by decide +kernel
theorem dX2_mark_49 : decode cX2_mark 49 = .ok (.aload_n 0, 1) := by decide +kernel
theorem dX2_mark_50 : decode cX2_mark 50 = .ok (.getfield 18, 3) := by decide +kernel
theorem dX2_mark_53 : decode cX2_mark 53 = .ok (.ireturn, 1) := by decide +kernel
theorem dX2_mark_54 : decode cX2_mark 54 = .ok (.aload_n 0, 1) := by decide +kernel
theorem dX2_mark_55 : decode cX2_mark 55 = .ok (.getfield 21, 3) := by decide +kernel
theorem dX2_mark_58 : decode cX2_mark 58 = .ok (.ireturn, 1) := by decide +kernel
theorem dX2_mark_59 : decode cX2_mark 59 = .ok (.aload_n 0, 1) := by decide +kernel
theorem dX2_mark_60 : decode cX2_mark 60 = .ok (.getfield 24, 3) := by decide +kernel
theorem dX2_mark_63 : decode cX2_mark 63 = .ok (.ifCond .eq 7, 3) := by decide +kernel
theorem dX2_mark_66 : decode cX2_mark 66 = .ok (.iconst 1, 1) := by decide +kernel
theorem dX2_mark_67 : decode cX2_mark 67 = .ok (.goto 4, 3) := by decide +kernel
theorem dX2_mark_70 : decode cX2_mark 70 = .ok (.iconst 0, 1) := by decide +kernel
theorem dX2_mark_71 : decode cX2_mark 71 = .ok (.ireturn, 1) := by decide +kernel
theorem dX2_mark_72 : decode cX2_mark 72 = .ok (.aload_n 0, 1) := by decide +kernel
theorem dX2_mark_73 : decode cX2_mark 73 = .ok (.getfield 28, 3) := by decide +kernel
theorem dX2_mark_76 : decode cX2_mark 76 = .ok (.ireturn, 1) := by decide +kernel
theorem dX2_mark_77 : decode cX2_mark 77 = .ok (.aload_n 0, 1) := by decide +kernel
theorem dX2_mark_78 : decode cX2_mark 78 = .ok (.getfield 31, 3) := by decide +kernel
theorem dX2_mark_81 : decode cX2_mark 81 = .ok (.ireturn, 1) := by decide +kernel
theorem dX2_mark_82 : decode cX2_mark 82 = .ok (.aload_n 0, 1) := by decide +kernel
theorem dX2_mark_83 : decode cX2_mark 83 = .ok (.getfield 34, 3) := by decide +kernel
theorem dX2_mark_86 : decode cX2_mark 86 = .ok (.ireturn, 1) := by decide +kernel
theorem dX2_mark_87 : decode cX2_mark 87 = .ok (.aload_n 0, 1) := by decide +kernel
theorem dX2_mark_88 : decode cX2_mark 88 = .ok (.getfield 37, 3) := by decide +kernel
theorem dX2_mark_91 : decode cX2_mark 91 = .ok (.ifCond .eq 7, 3) := by decide +kernel
theorem dX2_mark_94 : decode cX2_mark 94 = .ok (.iconst 1, 1) := by decide +kernel
theorem dX2_mark_95 : decode cX2_mark 95 = .ok (.goto 4, 3) := by decide +kernel
theorem dX2_mark_98 : decode cX2_mark 98 = .ok (.iconst 0, 1) := by decide +kernel
theorem dX2_mark_99 : decode cX2_mark 99 = .ok (.ireturn, 1) := by decide +kernel
theorem dX2_sayingAs_0 : decode cX2_sayingAs 0 = .ok (.iload_n 1, 1) := by decide +kernel
theorem dX2_sayingAs_1 : decode cX2_sayingAs 1 = .ok (.tableswitch 54 1 6 #[39, 44, 39, 44, 49, 39], 39) := by decide +kernel
theorem dX2_sayingAs_40 : decode cX2_sayingAs 40 = .ok (.aload_n 0, 1) := by decide +kernel
theorem dX2_sayingAs_41 : decode cX2_sayingAs 41 = .ok (.getfield 34, 3) := by decide +kernel
theorem dX2_sayingAs_44 : decode cX2_sayingAs 44 = .ok (.ireturn, 1) := by decide +kernel
theorem dX2_sayingAs_45 : decode cX2_sayingAs 45 = .ok (.aload_n 0, 1) := by decide +kernel
theorem dX2_sayingAs_46 : decode cX2_sayingAs 46 = .ok (.getfield 28, 3) := by decide +kernel
theorem dX2_sayingAs_49 : decode cX2_sayingAs 49 = .ok (.ireturn, 1) := by decide +kernel
theorem dX2_sayingAs_50 : decode cX2_sayingAs 50 = .ok (.aload_n 0, 1) := by decide +kernel
theorem dX2_sayingAs_51 : decode cX2_sayingAs 51 = .ok (.getfield 18, 3) := by decide +kernel
theorem dX2_sayingAs_54 : decode cX2_sayingAs 54 = .ok (.ireturn, 1) := by decide +kernel
theorem dX2_sayingAs_55 : decode cX2_sayingAs 55 = .ok (.aload_n 0, 1) := by decide +kernel
theorem dX2_sayingAs_56 : decode cX2_sayingAs 56 = .ok (.getfield 21, 3) := by decide +kernel
theorem dX2_sayingAs_59 : decode cX2_sayingAs 59 = .ok (.ireturn, 1) := by decide +kernel
end
section
theorem dX3_init_0 : decode cX3_init 0 = .ok (.aload_n 0, 1) := by decide +kernel
theorem dX3_init_1 : decode cX3_init 1 = .ok (.invokespecial 3, 3) := by decide +kernel
theorem dX3_init_4 : decode cX3_init 4 = .ok (.aload_n 0, 1) := by decide +kernel
theorem dX3_init_5 : decode cX3_init 5 = .ok (.new 9, 3) := by decide +kernel
theorem dX3_init_8 : decode cX3_init 8 = .ok (.dup, 1) := by decide +kernel
theorem dX3_init_9 : decode cX3_init 9 = .ok (.invokespecial 11, 3) := by decide +kernel
theorem dX3_init_12 : decode cX3_init 12 = .ok (.putfield 12, 3) := by decide +kernel
theorem dX3_init_15 : decode cX3_init 15 = .ok (.aload_n 0, 1) := by decide +kernel
theorem dX3_init_16 : decode cX3_init 16 = .ok (.iconst (-1), 1) := by decide +kernel
theorem dX3_init_17 : decode cX3_init 17 = .ok (.putfield 18, 3) := by decide +kernel
theorem dX3_init_20 : decode cX3_init 20 = .ok (.aload_n 0, 1) := by decide +kernel
theorem dX3_init_21 : decode cX3_init 21 = .ok (.sipush 160, 3) := by decide +kernel
theorem dX3_init_24 : decode cX3_init 24 = .ok (.newarray .int, 2) := by decide +kernel
theorem dX3_init_26 : decode cX3_init 26 = .ok (.putfield 22, 3) := by decide +kernel
theorem dX3_init_29 : decode cX3_init 29 = .ok (.return_, 1) := by decide +kernel
theorem dX3_read_0 : decode cX3_read 0 = .ok (.aload_n 0, 1) := by decide +kernel
theorem dX3_read_1 : decode cX3_read 1 = .ok (.getfield 12, 3) := by decide +kernel
theorem dX3_read_4 : decode cX3_read 4 = .ok (.aload_n 2, 1) := by decide +kernel
theorem dX3_read_5 : decode cX3_read 5 = .ok (.invokevirtual 26, 3) := by decide +kernel
theorem dX3_read_8 : decode cX3_read 8 = .ok (.aload_n 0, 1) := by decide +kernel
theorem dX3_read_9 : decode cX3_read 9 = .ok (.aload_n 1, 1) := by decide +kernel
theorem dX3_read_10 : decode cX3_read 10 = .ok (.getfield 30, 3) := by decide +kernel
theorem dX3_read_13 : decode cX3_read 13 = .ok (.putfield 35, 3) := by decide +kernel
theorem dX3_read_16 : decode cX3_read 16 = .ok (.iconst 0, 1) := by decide +kernel
theorem dX3_read_17 : decode cX3_read 17 = .ok (.istore_n 3, 1) := by decide +kernel
theorem dX3_read_18 : decode cX3_read 18 = .ok (.iload_n 3, 1) := by decide +kernel
theorem dX3_read_19 : decode cX3_read 19 = .ok (.aload_n 0, 1) := by decide +kernel
theorem dX3_read_20 : decode cX3_read 20 = .ok (.getfield 22, 3) := by decide +kernel
theorem dX3_read_23 : decode cX3_read 23 = .ok (.arraylength, 1) := by decide +kernel
theorem dX3_read_24 : decode cX3_read 24 = .ok (.if_icmp .ge 20, 3) := by decide +kernel
theorem dX3_read_27 : decode cX3_read 27 = .ok (.aload_n 0, 1) := by decide +kernel
theorem dX3_read_28 : decode cX3_read 28 = .ok (.getfield 22, 3) := by decide +kernel
theorem dX3_read_31 : decode cX3_read 31 = .ok (.iload_n 3, 1) := by decide +kernel
theorem dX3_read_32 : decode cX3_read 32 = .ok (.aload_n 1, 1) := by decide +kernel
theorem dX3_read_33 : decode cX3_read 33 = .ok (.iload_n 3, 1) := by decide +kernel
theorem dX3_read_34 : decode cX3_read 34 = .ok (.invokevirtual 36, 3) := by decide +kernel
theorem dX3_read_37 : decode cX3_read 37 = .ok (.iastore, 1) := by decide +kernel
theorem dX3_read_38 : decode cX3_read 38 = .ok (.iinc 3 1, 3) := by decide +kernel
theorem dX3_read_41 : decode cX3_read 41 = .ok (.goto (-23), 3) := by decide +kernel
theorem dX3_read_44 : decode cX3_read 44 = .ok (.aload_n 0, 1) := by decide +kernel
theorem dX3_read_45 : decode cX3_read 45 = .ok (.iconst 0, 1) := by decide +kernel
theorem dX3_read_46 : decode cX3_read 46 = .ok (.putfield 40, 3) := by decide +kernel
theorem dX3_read_49 : decode cX3_read 49 = .ok (.aload_n 0, 1) := by decide +kernel
theorem dX3_read_50 : decode cX3_read 50 = .ok (.iconst (-1), 1) := by decide +kernel
theorem dX3_read_51 : decode cX3_read 51 = .ok (.putfield 18, 3) := by decide +kernel
theorem dX3_read_54 : decode cX3_read 54 = .ok (.iconst 1, 1) := by decide +kernel
theorem dX3_read_55 : decode cX3_read 55 = .ok (.istore_n 3, 1) := by decide +kernel
theorem dX3_read_56 : decode cX3_read 56 = .ok (.iload_n 3, 1) := by decide +kernel
theorem dX3_read_57 : decode cX3_read 57 = .ok (.sipush 160, 3) := by decide +kernel
theorem dX3_read_60 : decode cX3_read 60 = .ok (.if_icmp .gt 42, 3) := by decide +kernel
theorem dX3_read_63 : decode cX3_read 63 = .ok (.aload_n 0, 1) := by decide +kernel
theorem dX3_read_64 : decode cX3_read 64 = .ok (.invokevirtual 43, 3) := by decide +kernel
theorem dX3_read_67 : decode cX3_read 67 = .ok (.ifCond .ne 5, 3) := by decide +kernel
theorem dX3_read_70 : decode cX3_read 70 = .ok (.iconst (-1), 1) := by decide +kernel
theorem dX3_read_71 : decode cX3_read 71 = .ok (.ireturn, 1) := by decide +kernel
theorem dX3_read_72 : decode cX3_read 72 = .ok (.aload_n 0, 1) := by decide +kernel
theorem dX3_read_73 : decode cX3_read 73 = .ok (.getfield 40, 3) := by decide +kernel
theorem dX3_read_76 : decode cX3_read 76 = .ok (.aload_n 0, 1) := by decide +kernel
theorem dX3_read_77 : decode cX3_read 77 = .ok (.getfield 35, 3) := by decide +kernel
theorem dX3_read_80 : decode cX3_read 80 = .ok (.if_icmp .lt 5, 3) := by decide +kernel
theorem dX3_read_83 : decode cX3_read 83 = .ok (.iload_n 3, 1) := by decide +kernel
theorem dX3_read_84 : decode cX3_read 84 = .ok (.ireturn, 1) := by decide +kernel
theorem dX3_read_85 : decode cX3_read 85 = .ok (.aload_n 0, 1) := by decide +kernel
theorem dX3_read_86 : decode cX3_read 86 = .ok (.bipush 59, 2) := by decide +kernel
theorem dX3_read_88 : decode cX3_read 88 = .ok (.invokevirtual 47, 3) := by decide +kernel
theorem dX3_read_91 : decode cX3_read 91 = .ok (.ifCond .ne 5, 3) := by decide +kernel
theorem dX3_read_94 : decode cX3_read 94 = .ok (.iconst (-1), 1) := by decide +kernel
theorem dX3_read_95 : decode cX3_read 95 = .ok (.ireturn, 1) := by decide +kernel
theorem dX3_read_96 : decode cX3_read 96 = .ok (.iinc 3 1, 3) := by decide +kernel
theorem dX3_read_99 : decode cX3_read 99 = .ok (.goto (-43), 3) := by decide +kernel
theorem dX3_read_102 : decode cX3_read 102 = .ok (.iconst (-1), 1) := by decide +kernel
theorem dX3_read_103 : decode cX3_read 103 = .ok (.ireturn, 1) := by decide +kernel
theorem dX3_readItem_0 : decode cX3_readItem 0 = .ok (.aload_n 0, 1) := by decide +kernel
theorem dX3_readItem_1 : decode cX3_readItem 1 = .ok (.getfield 40, 3) := by decide +kernel
theorem dX3_readItem_4 : decode cX3_readItem 4 = .ok (.istore_n 1, 1) := by decide +kernel
theorem dX3_readItem_5 : decode cX3_readItem 5 = .ok (.aload_n 0, 1) := by decide +kernel
theorem dX3_readItem_6 : decode cX3_readItem 6 = .ok (.invokevirtual 51, 3) := by decide +kernel
theorem dX3_readItem_9 : decode cX3_readItem 9 = .ok (.istore_n 2, 1) := by decide +kernel
theorem dX3_readItem_10 : decode cX3_readItem 10 = .ok (.iload_n 2, 1) := by decide +kernel
theorem dX3_readItem_11 : decode cX3_readItem 11 = .ok (.tableswitch 64 (-1) 2 #[29, 31, 54, 59], 29) := by decide +kernel
theorem dX3_readItem_40 : decode cX3_readItem 40 = .ok (.iconst 0, 1) := by decide +kernel
theorem dX3_readItem_41 : decode cX3_readItem 41 = .ok (.ireturn, 1) := by decide +kernel
theorem dX3_readItem_42 : decode cX3_readItem 42 = .ok (.aload_n 0, 1) := by decide +kernel
theorem dX3_readItem_43 : decode cX3_readItem 43 = .ok (.getfield 12, 3) := by decide +kernel
theorem dX3_readItem_46 : decode cX3_readItem 46 = .ok (.invokevirtual 55, 3) := by decide +kernel
theorem dX3_readItem_49 : decode cX3_readItem 49 = .ok (.ifCond .eq 11, 3) := by decide +kernel
theorem dX3_readItem_52 : decode cX3_readItem 52 = .ok (.aload_n 0, 1) := by decide +kernel
theorem dX3_readItem_53 : decode cX3_readItem 53 = .ok (.iload_n 1, 1) := by decide +kernel
theorem dX3_readItem_54 : decode cX3_readItem 54 = .ok (.invokevirtual 58, 3) := by decide +kernel
theorem dX3_readItem_57 : decode cX3_readItem 57 = .ok (.goto 7, 3) := by decide +kernel
theorem dX3_readItem_60 : decode cX3_readItem 60 = .ok (.aload_n 0, 1) := by decide +kernel
theorem dX3_readItem_61 : decode cX3_readItem 61 = .ok (.invokevirtual 61, 3) := by decide +kernel
theorem dX3_readItem_64 : decode cX3_readItem 64 = .ok (.ireturn, 1) := by decide +kernel
theorem dX3_readItem_65 : decode cX3_readItem 65 = .ok (.aload_n 0, 1) := by decide +kernel
theorem dX3_readItem_66 : decode cX3_readItem 66 = .ok (.invokevirtual 64, 3) := by decide +kernel
theorem dX3_readItem_69 : decode cX3_readItem 69 = .ok (.ireturn, 1) := by decide +kernel
theorem dX3_readItem_70 : decode cX3_readItem 70 = .ok (.aload_n 0, 1) := by decide +kernel
theorem dX3_readItem_71 : decode cX3_readItem 71 = .ok (.invokevirtual 67, 3) := by decide +kernel
theorem dX3_readItem_74 : decode cX3_readItem 74 = .ok (.ireturn, 1) := by decide +kernel
theorem dX3_readItem_75 : decode cX3_readItem 75 = .ok (.aload_n 0, 1) := by decide +kernel
theorem dX3_readItem_76 : decode cX3_readItem 76 = .ok (.iload_n 2, 1) := by decide +kernel
theorem dX3_readItem_77 : decode cX3_readItem 77 = .ok (.iconst 3, 1) := by decide +kernel
theorem dX3_readItem_78 : decode cX3_readItem 78 = .ok (.isub, 1) := by decide +kernel
theorem dX3_readItem_79 : decode cX3_readItem 79 = .ok (.invokevirtual 70, 3) := by decide +kernel
theorem dX3_readItem_82 : decode cX3_readItem 82 = .ok (.ireturn, 1) := by decide +kernel
theorem dX3_readWord_0 : decode cX3_readWord 0 = .ok (.iconst (-1), 1) := by decide +kernel
theorem dX3_readWord_1 : decode cX3_readWord 1 = .ok (.istore_n 1, 1) := by decide +kernel
theorem dX3_readWord_2 : decode cX3_readWord 2 = .ok (.iconst 0, 1) := by decide +kernel
theorem dX3_readWord_3 : decode cX3_readWord 3 = .ok (.istore_n 2, 1) := by decide +kernel
theorem dX3_readWord_4 : decode cX3_readWord 4 = .ok (.iload_n 2, 1) := by decide +kernel
theorem dX3_readWord_5 : decode cX3_readWord 5 = .ok (.bipush 7, 2) := by decide +kernel
theorem dX3_readWord_7 : decode cX3_readWord 7 = .ok (.if_icmp .ge 26, 3) := by decide +kernel
theorem dX3_readWord_10 : decode cX3_readWord 10 = .ok (.aload_n 0, 1) := by decide +kernel
theorem dX3_readWord_11 : decode cX3_readWord 11 = .ok (.invokevirtual 73, 3) := by decide +kernel
theorem dX3_readWord_14 : decode cX3_readWord 14 = .ok (.iload_n 2, 1) := by decide +kernel
theorem dX3_readWord_15 : decode cX3_readWord 15 = .ok (.invokestatic 76, 3) := by decide +kernel
theorem dX3_readWord_18 : decode cX3_readWord 18 = .ok (.iconst 0, 1) := by decide +kernel
theorem dX3_readWord_19 : decode cX3_readWord 19 = .ok (.invokevirtual 80, 3) := by decide +kernel
theorem dX3_readWord_22 : decode cX3_readWord 22 = .ok (.if_icmp .ne 5, 3) := by decide +kernel
theorem dX3_readWord_25 : decode cX3_readWord 25 = .ok (.iload_n 2, 1) := by decide +kernel
theorem dX3_readWord_26 : decode cX3_readWord 26 = .ok (.istore_n 1, 1) := by decide +kernel
theorem dX3_readWord_27 : decode cX3_readWord 27 = .ok (.iinc 2 1, 3) := by decide +kernel
theorem dX3_readWord_30 : decode cX3_readWord 30 = .ok (.goto (-26), 3) := by decide +kernel
theorem dX3_readWord_33 : decode cX3_readWord 33 = .ok (.iload_n 1, 1) := by decide +kernel
theorem dX3_readWord_34 : decode cX3_readWord 34 = .ok (.iconst (-1), 1) := by decide +kernel
theorem dX3_readWord_35 : decode cX3_readWord 35 = .ok (.if_icmp .ne 14, 3) := by decide +kernel
theorem dX3_readWord_38 : decode cX3_readWord 38 = .ok (.aload_n 0, 1) := by decide +kernel
theorem dX3_readWord_39 : decode cX3_readWord 39 = .ok (.aload_n 0, 1) := by decide +kernel
theorem dX3_readWord_40 : decode cX3_readWord 40 = .ok (.getfield 40, 3) := by decide +kernel
theorem dX3_readWord_43 : decode cX3_readWord 43 = .ok (.invokevirtual 58, 3) := by decide +kernel
theorem dX3_readWord_46 : decode cX3_readWord 46 = .ok (.pop, 1) := by decide +kernel
theorem dX3_readWord_47 : decode cX3_readWord 47 = .ok (.iconst (-1), 1) := by decide +kernel
theorem dX3_readWord_48 : decode cX3_readWord 48 = .ok (.ireturn, 1) := by decide +kernel
theorem dX3_readWord_49 : decode cX3_readWord 49 = .ok (.iload_n 1, 1) := by decide +kernel
theorem dX3_readWord_50 : decode cX3_readWord 50 = .ok (.invokestatic 76, 3) := by decide +kernel
theorem dX3_readWord_53 : decode cX3_readWord 53 = .ok (.astore_n 2, 1) := by decide +kernel
theorem dX3_readWord_54 : decode cX3_readWord 54 = .ok (.iconst 0, 1) := by decide +kernel
theorem dX3_readWord_55 : decode cX3_readWord 55 = .ok (.istore_n 3, 1) := by decide +kernel
theorem dX3_readWord_56 : decode cX3_readWord 56 = .ok (.iload_n 3, 1) := by decide +kernel
theorem dX3_readWord_57 : decode cX3_readWord 57 = .ok (.aload_n 2, 1) := by decide +kernel
theorem dX3_readWord_58 : decode cX3_readWord 58 = .ok (.invokevirtual 86, 3) := by decide +kernel
theorem dX3_readWord_61 : decode cX3_readWord 61 = .ok (.if_icmp .ge 23, 3) := by decide +kernel
theorem dX3_readWord_64 : decode cX3_readWord 64 = .ok (.aload_n 0, 1) := by decide +kernel
theorem dX3_readWord_65 : decode cX3_readWord 65 = .ok (.aload_n 2, 1) := by decide +kernel
theorem dX3_readWord_66 : decode cX3_readWord 66 = .ok (.iload_n 3, 1) := by decide +kernel
theorem dX3_readWord_67 : decode cX3_readWord 67 = .ok (.invokevirtual 80, 3) := by decide +kernel
theorem dX3_readWord_70 : decode cX3_readWord 70 = .ok (.invokevirtual 47, 3) := by decide +kernel
theorem dX3_readWord_73 : decode cX3_readWord 73 = .ok (.ifCond .ne 5, 3) := by decide +kernel
theorem dX3_readWord_76 : decode cX3_readWord 76 = .ok (.iconst (-1), 1) := by decide +kernel
theorem dX3_readWord_77 : decode cX3_readWord 77 = .ok (.ireturn, 1) := by decide +kernel
theorem dX3_readWord_78 : decode cX3_readWord 78 = .ok (.iinc 3 1, 3) := by decide +kernel
theorem dX3_readWord_81 : decode cX3_readWord 81 = .ok (.goto (-25), 3) := by decide +kernel
theorem dX3_readWord_84 : decode cX3_readWord 84 = .ok (.iload_n 1, 1) := by decide +kernel
theorem dX3_readWord_85 : decode cX3_readWord 85 = .ok (.ireturn, 1) := by decide +kernel
theorem dX3_wordOf_0 : decode cX3_wordOf 0 = .ok (.iload_n 0, 1) := by decide +kernel
theorem dX3_wordOf_1 : decode cX3_wordOf 1 = .ok (.tableswitch 57 0 5 #[39, 42, 45, 48, 51, 54], 39) := by decide +kernel
theorem dX3_wordOf_40 : decode cX3_wordOf 40 = .ok (.ldc 88, 2) := by decide +kernel
theorem dX3_wordOf_42 : decode cX3_wordOf 42 = .ok (.areturn, 1) := by decide +kernel
theorem dX3_wordOf_43 : decode cX3_wordOf 43 = .ok (.ldc 90, 2) := by decide +kernel
theorem dX3_wordOf_45 : decode cX3_wordOf 45 = .ok (.areturn, 1) := by decide +kernel
theorem dX3_wordOf_46 : decode cX3_wordOf 46 = .ok (.ldc 92, 2) := by decide +kernel
theorem dX3_wordOf_48 : decode cX3_wordOf 48 = .ok (.areturn, 1) := by decide +kernel
theorem dX3_wordOf_49 : decode cX3_wordOf 49 = .ok (.ldc 94, 2) := by decide +kernel
theorem dX3_wordOf_51 : decode cX3_wordOf 51 = .ok (.areturn, 1) := by decide +kernel
theorem dX3_wordOf_52 : decode cX3_wordOf 52 = .ok (.ldc 96, 2) := by decide +kernel
theorem dX3_wordOf_54 : decode cX3_wordOf 54 = .ok (.areturn, 1) := by decide +kernel
theorem dX3_wordOf_55 : decode cX3_wordOf 55 = .ok (.ldc 98, 2) := by decide +kernel
theorem dX3_wordOf_57 : decode cX3_wordOf 57 = .ok (.areturn, 1) := by decide +kernel
theorem dX3_wordOf_58 : decode cX3_wordOf 58 = .ok (.ldc 100, 2) := by decide +kernel
theorem dX3_wordOf_60 : decode cX3_wordOf 60 = .ok (.areturn, 1) := by decide +kernel
theorem dX3_readPerson_0 : decode cX3_readPerson 0 = .ok (.aload_n 0, 1) := by decide +kernel
theorem dX3_readPerson_1 : decode cX3_readPerson 1 = .ok (.iconst 0, 1) := by decide +kernel
theorem dX3_readPerson_2 : decode cX3_readPerson 2 = .ok (.getstatic 102, 3) := by decide +kernel
theorem dX3_readPerson_5 : decode cX3_readPerson 5 = .ok (.arraylength, 1) := by decide +kernel
theorem dX3_readPerson_6 : decode cX3_readPerson 6 = .ok (.iconst 1, 1) := by decide +kernel
theorem dX3_readPerson_7 : decode cX3_readPerson 7 = .ok (.isub, 1) := by decide +kernel
theorem dX3_readPerson_8 : decode cX3_readPerson 8 = .ok (.invokevirtual 105, 3) := by decide +kernel
theorem dX3_readPerson_11 : decode cX3_readPerson 11 = .ok (.istore_n 1, 1) := by decide +kernel
theorem dX3_readPerson_12 : decode cX3_readPerson 12 = .ok (.iload_n 1, 1) := by decide +kernel
theorem dX3_readPerson_13 : decode cX3_readPerson 13 = .ok (.iconst (-1), 1) := by decide +kernel
theorem dX3_readPerson_14 : decode cX3_readPerson 14 = .ok (.if_icmp .ne 7, 3) := by decide +kernel
theorem dX3_readPerson_17 : decode cX3_readPerson 17 = .ok (.iconst (-1), 1) := by decide +kernel
theorem dX3_readPerson_18 : decode cX3_readPerson 18 = .ok (.goto 10, 3) := by decide +kernel
theorem dX3_readPerson_21 : decode cX3_readPerson 21 = .ok (.aload_n 0, 1) := by decide +kernel
theorem dX3_readPerson_22 : decode cX3_readPerson 22 = .ok (.iconst 0, 1) := by decide +kernel
theorem dX3_readPerson_23 : decode cX3_readPerson 23 = .ok (.bipush 9, 2) := by decide +kernel
theorem dX3_readPerson_25 : decode cX3_readPerson 25 = .ok (.invokevirtual 105, 3) := by decide +kernel
theorem dX3_readPerson_28 : decode cX3_readPerson 28 = .ok (.istore_n 2, 1) := by decide +kernel
theorem dX3_readPerson_29 : decode cX3_readPerson 29 = .ok (.iload_n 2, 1) := by decide +kernel
theorem dX3_readPerson_30 : decode cX3_readPerson 30 = .ok (.iconst (-1), 1) := by decide +kernel
theorem dX3_readPerson_31 : decode cX3_readPerson 31 = .ok (.if_icmp .ne 7, 3) := by decide +kernel
theorem dX3_readPerson_34 : decode cX3_readPerson 34 = .ok (.iconst (-1), 1) := by decide +kernel
theorem dX3_readPerson_35 : decode cX3_readPerson 35 = .ok (.goto 10, 3) := by decide +kernel
theorem dX3_readPerson_38 : decode cX3_readPerson 38 = .ok (.aload_n 0, 1) := by decide +kernel
theorem dX3_readPerson_39 : decode cX3_readPerson 39 = .ok (.iconst 0, 1) := by decide +kernel
theorem dX3_readPerson_40 : decode cX3_readPerson 40 = .ok (.bipush 20, 2) := by decide +kernel
theorem dX3_readPerson_42 : decode cX3_readPerson 42 = .ok (.invokevirtual 105, 3) := by decide +kernel
theorem dX3_readPerson_45 : decode cX3_readPerson 45 = .ok (.istore_n 3, 1) := by decide +kernel
theorem dX3_readPerson_46 : decode cX3_readPerson 46 = .ok (.iload_n 3, 1) := by decide +kernel
theorem dX3_readPerson_47 : decode cX3_readPerson 47 = .ok (.iconst (-1), 1) := by decide +kernel
theorem dX3_readPerson_48 : decode cX3_readPerson 48 = .ok (.if_icmp .ne 7, 3) := by decide +kernel
theorem dX3_readPerson_51 : decode cX3_readPerson 51 = .ok (.iconst (-1), 1) := by decide +kernel
theorem dX3_readPerson_52 : decode cX3_readPerson 52 = .ok (.goto 9, 3) := by decide +kernel
theorem dX3_readPerson_55 : decode cX3_readPerson 55 = .ok (.aload_n 0, 1) := by decide +kernel
theorem dX3_readPerson_56 : decode cX3_readPerson 56 = .ok (.iconst 0, 1) := by decide +kernel
theorem dX3_readPerson_57 : decode cX3_readPerson 57 = .ok (.iconst 1, 1) := by decide +kernel
theorem dX3_readPerson_58 : decode cX3_readPerson 58 = .ok (.invokevirtual 105, 3) := by decide +kernel
theorem dX3_readPerson_61 : decode cX3_readPerson 61 = .ok (.istore 4, 2) := by decide +kernel
theorem dX3_readPerson_63 : decode cX3_readPerson 63 = .ok (.iload 4, 2) := by decide +kernel
theorem dX3_readPerson_65 : decode cX3_readPerson 65 = .ok (.iconst (-1), 1) := by decide +kernel
theorem dX3_readPerson_66 : decode cX3_readPerson 66 = .ok (.if_icmp .ne 5, 3) := by decide +kernel
theorem dX3_readPerson_69 : decode cX3_readPerson 69 = .ok (.iconst 0, 1) := by decide +kernel
theorem dX3_readPerson_70 : decode cX3_readPerson 70 = .ok (.ireturn, 1) := by decide +kernel
theorem dX3_readPerson_71 : decode cX3_readPerson 71 = .ok (.aload_n 0, 1) := by decide +kernel
theorem dX3_readPerson_72 : decode cX3_readPerson 72 = .ok (.getfield 12, 3) := by decide +kernel
theorem dX3_readPerson_75 : decode cX3_readPerson 75 = .ok (.iload_n 1, 1) := by decide +kernel
theorem dX3_readPerson_76 : decode cX3_readPerson 76 = .ok (.iload_n 2, 1) := by decide +kernel
theorem dX3_readPerson_77 : decode cX3_readPerson 77 = .ok (.iload_n 3, 1) := by decide +kernel
theorem dX3_readPerson_78 : decode cX3_readPerson 78 = .ok (.iload 4, 2) := by decide +kernel
theorem dX3_readPerson_80 : decode cX3_readPerson 80 = .ok (.iconst 1, 1) := by decide +kernel
theorem dX3_readPerson_81 : decode cX3_readPerson 81 = .ok (.if_icmp .ne 7, 3) := by decide +kernel
theorem dX3_readPerson_84 : decode cX3_readPerson 84 = .ok (.iconst 1, 1) := by decide +kernel
theorem dX3_readPerson_85 : decode cX3_readPerson 85 = .ok (.goto 4, 3) := by decide +kernel
theorem dX3_readPerson_88 : decode cX3_readPerson 88 = .ok (.iconst 0, 1) := by decide +kernel
theorem dX3_readPerson_89 : decode cX3_readPerson 89 = .ok (.invokevirtual 109, 3) := by decide +kernel
theorem dX3_readPerson_92 : decode cX3_readPerson 92 = .ok (.pop, 1) := by decide +kernel
theorem dX3_readPerson_93 : decode cX3_readPerson 93 = .ok (.iconst 1, 1) := by decide +kernel
theorem dX3_readPerson_94 : decode cX3_readPerson 94 = .ok (.ireturn, 1) := by decide +kernel
theorem dX3_readFriend_0 : decode cX3_readFriend 0 = .ok (.aload_n 0, 1) := by decide +kernel
theorem dX3_readFriend_1 : decode cX3_readFriend 1 = .ok (.iconst 0, 1) := by decide +kernel
theorem dX3_readFriend_2 : decode cX3_readFriend 2 = .ok (.aload_n 0, 1) := by decide +kernel
theorem dX3_readFriend_3 : decode cX3_readFriend 3 = .ok (.getfield 12, 3) := by decide +kernel
theorem dX3_readFriend_6 : decode cX3_readFriend 6 = .ok (.getfield 113, 3) := by decide +kernel
theorem dX3_readFriend_9 : decode cX3_readFriend 9 = .ok (.iconst 1, 1) := by decide +kernel
theorem dX3_readFriend_10 : decode cX3_readFriend 10 = .ok (.isub, 1) := by decide +kernel
theorem dX3_readFriend_11 : decode cX3_readFriend 11 = .ok (.invokevirtual 105, 3) := by decide +kernel
theorem dX3_readFriend_14 : decode cX3_readFriend 14 = .ok (.istore_n 1, 1) := by decide +kernel
theorem dX3_readFriend_15 : decode cX3_readFriend 15 = .ok (.iload_n 1, 1) := by decide +kernel
theorem dX3_readFriend_16 : decode cX3_readFriend 16 = .ok (.iconst (-1), 1) := by decide +kernel
theorem dX3_readFriend_17 : decode cX3_readFriend 17 = .ok (.if_icmp .ne 7, 3) := by decide +kernel
theorem dX3_readFriend_20 : decode cX3_readFriend 20 = .ok (.iconst (-1), 1) := by decide +kernel
theorem dX3_readFriend_21 : decode cX3_readFriend 21 = .ok (.goto 17, 3) := by decide +kernel
theorem dX3_readFriend_24 : decode cX3_readFriend 24 = .ok (.aload_n 0, 1) := by decide +kernel
theorem dX3_readFriend_25 : decode cX3_readFriend 25 = .ok (.iconst 0, 1) := by decide +kernel
theorem dX3_readFriend_26 : decode cX3_readFriend 26 = .ok (.aload_n 0, 1) := by decide +kernel
theorem dX3_readFriend_27 : decode cX3_readFriend 27 = .ok (.getfield 12, 3) := by decide +kernel
theorem dX3_readFriend_30 : decode cX3_readFriend 30 = .ok (.getfield 113, 3) := by decide +kernel
theorem dX3_readFriend_33 : decode cX3_readFriend 33 = .ok (.iconst 1, 1) := by decide +kernel
theorem dX3_readFriend_34 : decode cX3_readFriend 34 = .ok (.isub, 1) := by decide +kernel
theorem dX3_readFriend_35 : decode cX3_readFriend 35 = .ok (.invokevirtual 105, 3) := by decide +kernel
theorem dX3_readFriend_38 : decode cX3_readFriend 38 = .ok (.istore_n 2, 1) := by decide +kernel
theorem dX3_readFriend_39 : decode cX3_readFriend 39 = .ok (.iload_n 2, 1) := by decide +kernel
theorem dX3_readFriend_40 : decode cX3_readFriend 40 = .ok (.iconst (-1), 1) := by decide +kernel
theorem dX3_readFriend_41 : decode cX3_readFriend 41 = .ok (.if_icmp .ne 5, 3) := by decide +kernel
theorem dX3_readFriend_44 : decode cX3_readFriend 44 = .ok (.iconst 0, 1) := by decide +kernel
theorem dX3_readFriend_45 : decode cX3_readFriend 45 = .ok (.ireturn, 1) := by decide +kernel
theorem dX3_readFriend_46 : decode cX3_readFriend 46 = .ok (.iload_n 2, 1) := by decide +kernel
theorem dX3_readFriend_47 : decode cX3_readFriend 47 = .ok (.iload_n 1, 1) := by decide +kernel
theorem dX3_readFriend_48 : decode cX3_readFriend 48 = .ok (.if_icmp .ne 12, 3) := by decide +kernel
theorem dX3_readFriend_51 : decode cX3_readFriend 51 = .ok (.aload_n 0, 1) := by decide +kernel
theorem dX3_readFriend_52 : decode cX3_readFriend 52 = .ok (.aload_n 0, 1) := by decide +kernel
theorem dX3_readFriend_53 : decode cX3_readFriend 53 = .ok (.getfield 116, 3) := by decide +kernel
theorem dX3_readFriend_56 : decode cX3_readFriend 56 = .ok (.invokevirtual 58, 3) := by decide +kernel
theorem dX3_readFriend_59 : decode cX3_readFriend 59 = .ok (.ireturn, 1) := by decide +kernel
theorem dX3_readFriend_60 : decode cX3_readFriend 60 = .ok (.aload_n 0, 1) := by decide +kernel
theorem dX3_readFriend_61 : decode cX3_readFriend 61 = .ok (.getfield 12, 3) := by decide +kernel
theorem dX3_readFriend_64 : decode cX3_readFriend 64 = .ok (.iload_n 1, 1) := by decide +kernel
theorem dX3_readFriend_65 : decode cX3_readFriend 65 = .ok (.invokevirtual 119, 3) := by decide +kernel
theorem dX3_readFriend_68 : decode cX3_readFriend 68 = .ok (.iload_n 2, 1) := by decide +kernel
theorem dX3_readFriend_69 : decode cX3_readFriend 69 = .ok (.putfield 123, 3) := by decide +kernel
theorem dX3_readFriend_72 : decode cX3_readFriend 72 = .ok (.iconst 1, 1) := by decide +kernel
theorem dX3_readFriend_73 : decode cX3_readFriend 73 = .ok (.ireturn, 1) := by decide +kernel
theorem dX3_readGone_0 : decode cX3_readGone 0 = .ok (.aload_n 0, 1) := by decide +kernel
theorem dX3_readGone_1 : decode cX3_readGone 1 = .ok (.iconst 0, 1) := by decide +kernel
theorem dX3_readGone_2 : decode cX3_readGone 2 = .ok (.aload_n 0, 1) := by decide +kernel
theorem dX3_readGone_3 : decode cX3_readGone 3 = .ok (.getfield 12, 3) := by decide +kernel
theorem dX3_readGone_6 : decode cX3_readGone 6 = .ok (.getfield 113, 3) := by decide +kernel
theorem dX3_readGone_9 : decode cX3_readGone 9 = .ok (.iconst 1, 1) := by decide +kernel
theorem dX3_readGone_10 : decode cX3_readGone 10 = .ok (.isub, 1) := by decide +kernel
theorem dX3_readGone_11 : decode cX3_readGone 11 = .ok (.invokevirtual 105, 3) := by decide +kernel
theorem dX3_readGone_14 : decode cX3_readGone 14 = .ok (.istore_n 1, 1) := by decide +kernel
theorem dX3_readGone_15 : decode cX3_readGone 15 = .ok (.iload_n 1, 1) := by decide +kernel
theorem dX3_readGone_16 : decode cX3_readGone 16 = .ok (.iconst (-1), 1) := by decide +kernel
theorem dX3_readGone_17 : decode cX3_readGone 17 = .ok (.if_icmp .ne 5, 3) := by decide +kernel
theorem dX3_readGone_20 : decode cX3_readGone 20 = .ok (.iconst 0, 1) := by decide +kernel
theorem dX3_readGone_21 : decode cX3_readGone 21 = .ok (.ireturn, 1) := by decide +kernel
theorem dX3_readGone_22 : decode cX3_readGone 22 = .ok (.aload_n 0, 1) := by decide +kernel
theorem dX3_readGone_23 : decode cX3_readGone 23 = .ok (.getfield 12, 3) := by decide +kernel
theorem dX3_readGone_26 : decode cX3_readGone 26 = .ok (.iload_n 1, 1) := by decide +kernel
theorem dX3_readGone_27 : decode cX3_readGone 27 = .ok (.invokevirtual 119, 3) := by decide +kernel
theorem dX3_readGone_30 : decode cX3_readGone 30 = .ok (.iconst 1, 1) := by decide +kernel
theorem dX3_readGone_31 : decode cX3_readGone 31 = .ok (.putfield 128, 3) := by decide +kernel
theorem dX3_readGone_34 : decode cX3_readGone 34 = .ok (.iconst 1, 1) := by decide +kernel
theorem dX3_readGone_35 : decode cX3_readGone 35 = .ok (.ireturn, 1) := by decide +kernel
theorem dX3_readSetting_0 : decode cX3_readSetting 0 = .ok (.aload_n 0, 1) := by decide +kernel
theorem dX3_readSetting_1 : decode cX3_readSetting 1 = .ok (.iload_n 1, 1) := by decide +kernel
theorem dX3_readSetting_2 : decode cX3_readSetting 2 = .ok (.invokestatic 131, 3) := by decide +kernel
theorem dX3_readSetting_5 : decode cX3_readSetting 5 = .ok (.iload_n 1, 1) := by decide +kernel
theorem dX3_readSetting_6 : decode cX3_readSetting 6 = .ok (.invokestatic 134, 3) := by decide +kernel
theorem dX3_readSetting_9 : decode cX3_readSetting 9 = .ok (.invokevirtual 105, 3) := by decide +kernel
theorem dX3_readSetting_12 : decode cX3_readSetting 12 = .ok (.istore_n 2, 1) := by decide +kernel
theorem dX3_readSetting_13 : decode cX3_readSetting 13 = .ok (.iload_n 2, 1) := by decide +kernel
theorem dX3_readSetting_14 : decode cX3_readSetting 14 = .ok (.iconst (-1), 1) := by decide +kernel
theorem dX3_readSetting_15 : decode cX3_readSetting 15 = .ok (.if_icmp .ne 5, 3) := by decide +kernel
theorem dX3_readSetting_18 : decode cX3_readSetting 18 = .ok (.iconst 0, 1) := by decide +kernel
theorem dX3_readSetting_19 : decode cX3_readSetting 19 = .ok (.ireturn, 1) := by decide +kernel
theorem dX3_readSetting_20 : decode cX3_readSetting 20 = .ok (.aload_n 0, 1) := by decide +kernel
theorem dX3_readSetting_21 : decode cX3_readSetting 21 = .ok (.getfield 12, 3) := by decide +kernel
theorem dX3_readSetting_24 : decode cX3_readSetting 24 = .ok (.iload_n 1, 1) := by decide +kernel
theorem dX3_readSetting_25 : decode cX3_readSetting 25 = .ok (.iload_n 2, 1) := by decide +kernel
theorem dX3_readSetting_26 : decode cX3_readSetting 26 = .ok (.invokevirtual 137, 3) := by decide +kernel
theorem dX3_readSetting_29 : decode cX3_readSetting 29 = .ok (.iconst 1, 1) := by decide +kernel
theorem dX3_readSetting_30 : decode cX3_readSetting 30 = .ok (.ireturn, 1) := by decide +kernel
theorem dX3_readNumber_0 : decode cX3_readNumber 0 = .ok (.aload_n 0, 1) := by decide +kernel
theorem dX3_readNumber_1 : decode cX3_readNumber 1 = .ok (.bipush 32, 2) := by decide +kernel
theorem dX3_readNumber_3 : decode cX3_readNumber 3 = .ok (.invokevirtual 47, 3) := by decide +kernel
theorem dX3_readNumber_6 : decode cX3_readNumber 6 = .ok (.ifCond .ne 5, 3) := by decide +kernel
theorem dX3_readNumber_9 : decode cX3_readNumber 9 = .ok (.iconst (-1), 1) := by decide +kernel
theorem dX3_readNumber_10 : decode cX3_readNumber 10 = .ok (.ireturn, 1) := by decide +kernel
theorem dX3_readNumber_11 : decode cX3_readNumber 11 = .ok (.aload_n 0, 1) := by decide +kernel
theorem dX3_readNumber_12 : decode cX3_readNumber 12 = .ok (.aload_n 0, 1) := by decide +kernel
theorem dX3_readNumber_13 : decode cX3_readNumber 13 = .ok (.getfield 40, 3) := by decide +kernel
theorem dX3_readNumber_16 : decode cX3_readNumber 16 = .ok (.putfield 116, 3) := by decide +kernel
theorem dX3_readNumber_19 : decode cX3_readNumber 19 = .ok (.aload_n 0, 1) := by decide +kernel
theorem dX3_readNumber_20 : decode cX3_readNumber 20 = .ok (.invokevirtual 141, 3) := by decide +kernel
theorem dX3_readNumber_23 : decode cX3_readNumber 23 = .ok (.ifCond .ne 14, 3) := by decide +kernel
theorem dX3_readNumber_26 : decode cX3_readNumber 26 = .ok (.aload_n 0, 1) := by decide +kernel
theorem dX3_readNumber_27 : decode cX3_readNumber 27 = .ok (.aload_n 0, 1) := by decide +kernel
theorem dX3_readNumber_28 : decode cX3_readNumber 28 = .ok (.getfield 40, 3) := by decide +kernel
theorem dX3_readNumber_31 : decode cX3_readNumber 31 = .ok (.invokevirtual 58, 3) := by decide +kernel
theorem dX3_readNumber_34 : decode cX3_readNumber 34 = .ok (.pop, 1) := by decide +kernel
theorem dX3_readNumber_35 : decode cX3_readNumber 35 = .ok (.iconst (-1), 1) := by decide +kernel
theorem dX3_readNumber_36 : decode cX3_readNumber 36 = .ok (.ireturn, 1) := by decide +kernel
theorem dX3_readNumber_37 : decode cX3_readNumber 37 = .ok (.aload_n 0, 1) := by decide +kernel
theorem dX3_readNumber_38 : decode cX3_readNumber 38 = .ok (.invokevirtual 144, 3) := by decide +kernel
theorem dX3_readNumber_41 : decode cX3_readNumber 41 = .ok (.istore_n 3, 1) := by decide +kernel
theorem dX3_readNumber_42 : decode cX3_readNumber 42 = .ok (.aload_n 0, 1) := by decide +kernel
theorem dX3_readNumber_43 : decode cX3_readNumber 43 = .ok (.invokevirtual 141, 3) := by decide +kernel
theorem dX3_readNumber_46 : decode cX3_readNumber 46 = .ok (.ifCond .eq 13, 3) := by decide +kernel
theorem dX3_readNumber_49 : decode cX3_readNumber 49 = .ok (.iload_n 3, 1) := by decide +kernel
theorem dX3_readNumber_50 : decode cX3_readNumber 50 = .ok (.bipush 10, 2) := by decide +kernel
theorem dX3_readNumber_52 : decode cX3_readNumber 52 = .ok (.imul, 1) := by decide +kernel
theorem dX3_readNumber_53 : decode cX3_readNumber 53 = .ok (.aload_n 0, 1) := by decide +kernel
theorem dX3_readNumber_54 : decode cX3_readNumber 54 = .ok (.invokevirtual 144, 3) := by decide +kernel
theorem dX3_readNumber_57 : decode cX3_readNumber 57 = .ok (.iadd, 1) := by decide +kernel
theorem dX3_readNumber_58 : decode cX3_readNumber 58 = .ok (.istore_n 3, 1) := by decide +kernel
theorem dX3_readNumber_59 : decode cX3_readNumber 59 = .ok (.iload_n 3, 1) := by decide +kernel
theorem dX3_readNumber_60 : decode cX3_readNumber 60 = .ok (.iload_n 1, 1) := by decide +kernel
theorem dX3_readNumber_61 : decode cX3_readNumber 61 = .ok (.if_icmp .lt 8, 3) := by decide +kernel
theorem dX3_readNumber_64 : decode cX3_readNumber 64 = .ok (.iload_n 3, 1) := by decide +kernel
theorem dX3_readNumber_65 : decode cX3_readNumber 65 = .ok (.iload_n 2, 1) := by decide +kernel
theorem dX3_readNumber_66 : decode cX3_readNumber 66 = .ok (.if_icmp .le 14, 3) := by decide +kernel
theorem dX3_readNumber_69 : decode cX3_readNumber 69 = .ok (.aload_n 0, 1) := by decide +kernel
theorem dX3_readNumber_70 : decode cX3_readNumber 70 = .ok (.aload_n 0, 1) := by decide +kernel
theorem dX3_readNumber_71 : decode cX3_readNumber 71 = .ok (.getfield 116, 3) := by decide +kernel
theorem dX3_readNumber_74 : decode cX3_readNumber 74 = .ok (.invokevirtual 58, 3) := by decide +kernel
theorem dX3_readNumber_77 : decode cX3_readNumber 77 = .ok (.pop, 1) := by decide +kernel
theorem dX3_readNumber_78 : decode cX3_readNumber 78 = .ok (.iconst (-1), 1) := by decide +kernel
theorem dX3_readNumber_79 : decode cX3_readNumber 79 = .ok (.ireturn, 1) := by decide +kernel
theorem dX3_readNumber_80 : decode cX3_readNumber 80 = .ok (.iload_n 3, 1) := by decide +kernel
theorem dX3_readNumber_81 : decode cX3_readNumber 81 = .ok (.ireturn, 1) := by decide +kernel
theorem dX3_isDigit_0 : decode cX3_isDigit 0 = .ok (.aload_n 0, 1) := by decide +kernel
theorem dX3_isDigit_1 : decode cX3_isDigit 1 = .ok (.invokevirtual 73, 3) := by decide +kernel
theorem dX3_isDigit_4 : decode cX3_isDigit 4 = .ok (.bipush 48, 2) := by decide +kernel
theorem dX3_isDigit_6 : decode cX3_isDigit 6 = .ok (.if_icmp .lt 16, 3) := by decide +kernel
theorem dX3_isDigit_9 : decode cX3_isDigit 9 = .ok (.aload_n 0, 1) := by decide +kernel
theorem dX3_isDigit_10 : decode cX3_isDigit 10 = .ok (.invokevirtual 73, 3) := by decide +kernel
theorem dX3_isDigit_13 : decode cX3_isDigit 13 = .ok (.bipush 57, 2) := by decide +kernel
theorem dX3_isDigit_15 : decode cX3_isDigit 15 = .ok (.if_icmp .gt 7, 3) := by decide +kernel
theorem dX3_isDigit_18 : decode cX3_isDigit 18 = .ok (.iconst 1, 1) := by decide +kernel
theorem dX3_isDigit_19 : decode cX3_isDigit 19 = .ok (.goto 4, 3) := by decide +kernel
theorem dX3_isDigit_22 : decode cX3_isDigit 22 = .ok (.iconst 0, 1) := by decide +kernel
theorem dX3_isDigit_23 : decode cX3_isDigit 23 = .ok (.ireturn, 1) := by decide +kernel
theorem dX3_readDigit_0 : decode cX3_readDigit 0 = .ok (.aload_n 0, 1) := by decide +kernel
theorem dX3_readDigit_1 : decode cX3_readDigit 1 = .ok (.invokevirtual 73, 3) := by decide +kernel
theorem dX3_readDigit_4 : decode cX3_readDigit 4 = .ok (.bipush 48, 2) := by decide +kernel
theorem dX3_readDigit_6 : decode cX3_readDigit 6 = .ok (.isub, 1) := by decide +kernel
theorem dX3_readDigit_7 : decode cX3_readDigit 7 = .ok (.istore_n 1, 1) := by decide +kernel
theorem dX3_readDigit_8 : decode cX3_readDigit 8 = .ok (.aload_n 0, 1) := by decide +kernel
theorem dX3_readDigit_9 : decode cX3_readDigit 9 = .ok (.dup, 1) := by decide +kernel
theorem dX3_readDigit_10 : decode cX3_readDigit 10 = .ok (.getfield 40, 3) := by decide +kernel
theorem dX3_readDigit_13 : decode cX3_readDigit 13 = .ok (.iconst 1, 1) := by decide +kernel
theorem dX3_readDigit_14 : decode cX3_readDigit 14 = .ok (.iadd, 1) := by decide +kernel
theorem dX3_readDigit_15 : decode cX3_readDigit 15 = .ok (.putfield 40, 3) := by decide +kernel
theorem dX3_readDigit_18 : decode cX3_readDigit 18 = .ok (.iload_n 1, 1) := by decide +kernel
theorem dX3_readDigit_19 : decode cX3_readDigit 19 = .ok (.ireturn, 1) := by decide +kernel
theorem dX3_readSign_0 : decode cX3_readSign 0 = .ok (.aload_n 0, 1) := by decide +kernel
theorem dX3_readSign_1 : decode cX3_readSign 1 = .ok (.invokevirtual 73, 3) := by decide +kernel
theorem dX3_readSign_4 : decode cX3_readSign 4 = .ok (.iload_n 1, 1) := by decide +kernel
theorem dX3_readSign_5 : decode cX3_readSign 5 = .ok (.if_icmp .eq 12, 3) := by decide +kernel
theorem dX3_readSign_8 : decode cX3_readSign 8 = .ok (.aload_n 0, 1) := by decide +kernel
theorem dX3_readSign_9 : decode cX3_readSign 9 = .ok (.aload_n 0, 1) := by decide +kernel
theorem dX3_readSign_10 : decode cX3_readSign 10 = .ok (.getfield 40, 3) := by decide +kernel
theorem dX3_readSign_13 : decode cX3_readSign 13 = .ok (.invokevirtual 58, 3) := by decide +kernel
theorem dX3_readSign_16 : decode cX3_readSign 16 = .ok (.ireturn, 1) := by decide +kernel
theorem dX3_readSign_17 : decode cX3_readSign 17 = .ok (.aload_n 0, 1) := by decide +kernel
theorem dX3_readSign_18 : decode cX3_readSign 18 = .ok (.dup, 1) := by decide +kernel
theorem dX3_readSign_19 : decode cX3_readSign 19 = .ok (.getfield 40, 3) := by decide +kernel
theorem dX3_readSign_22 : decode cX3_readSign 22 = .ok (.iconst 1, 1) := by decide +kernel
theorem dX3_readSign_23 : decode cX3_readSign 23 = .ok (.iadd, 1) := by decide +kernel
theorem dX3_readSign_24 : decode cX3_readSign 24 = .ok (.putfield 40, 3) := by decide +kernel
theorem dX3_readSign_27 : decode cX3_readSign 27 = .ok (.iconst 1, 1) := by decide +kernel
theorem dX3_readSign_28 : decode cX3_readSign 28 = .ok (.ireturn, 1) := by decide +kernel
theorem dX3_letter_0 : decode cX3_letter 0 = .ok (.aload_n 0, 1) := by decide +kernel
theorem dX3_letter_1 : decode cX3_letter 1 = .ok (.getfield 40, 3) := by decide +kernel
theorem dX3_letter_4 : decode cX3_letter 4 = .ok (.ifCond .lt 38, 3) := by decide +kernel
theorem dX3_letter_7 : decode cX3_letter 7 = .ok (.aload_n 0, 1) := by decide +kernel
theorem dX3_letter_8 : decode cX3_letter 8 = .ok (.getfield 40, 3) := by decide +kernel
theorem dX3_letter_11 : decode cX3_letter 11 = .ok (.aload_n 0, 1) := by decide +kernel
theorem dX3_letter_12 : decode cX3_letter 12 = .ok (.getfield 35, 3) := by decide +kernel
theorem dX3_letter_15 : decode cX3_letter 15 = .ok (.if_icmp .ge 27, 3) := by decide +kernel
theorem dX3_letter_18 : decode cX3_letter 18 = .ok (.aload_n 0, 1) := by decide +kernel
theorem dX3_letter_19 : decode cX3_letter 19 = .ok (.getfield 40, 3) := by decide +kernel
theorem dX3_letter_22 : decode cX3_letter 22 = .ok (.aload_n 0, 1) := by decide +kernel
theorem dX3_letter_23 : decode cX3_letter 23 = .ok (.getfield 22, 3) := by decide +kernel
theorem dX3_letter_26 : decode cX3_letter 26 = .ok (.arraylength, 1) := by decide +kernel
theorem dX3_letter_27 : decode cX3_letter 27 = .ok (.if_icmp .ge 15, 3) := by decide +kernel
theorem dX3_letter_30 : decode cX3_letter 30 = .ok (.aload_n 0, 1) := by decide +kernel
theorem dX3_letter_31 : decode cX3_letter 31 = .ok (.getfield 22, 3) := by decide +kernel
theorem dX3_letter_34 : decode cX3_letter 34 = .ok (.aload_n 0, 1) := by decide +kernel
theorem dX3_letter_35 : decode cX3_letter 35 = .ok (.getfield 40, 3) := by decide +kernel
theorem dX3_letter_38 : decode cX3_letter 38 = .ok (.iaload, 1) := by decide +kernel
theorem dX3_letter_39 : decode cX3_letter 39 = .ok (.goto 4, 3) := by decide +kernel
theorem dX3_letter_42 : decode cX3_letter 42 = .ok (.iconst (-1), 1) := by decide +kernel
theorem dX3_letter_43 : decode cX3_letter 43 = .ok (.ireturn, 1) := by decide +kernel
theorem dX3_fail_0 : decode cX3_fail 0 = .ok (.aload_n 0, 1) := by decide +kernel
theorem dX3_fail_1 : decode cX3_fail 1 = .ok (.iload_n 1, 1) := by decide +kernel
theorem dX3_fail_2 : decode cX3_fail 2 = .ok (.putfield 18, 3) := by decide +kernel
theorem dX3_fail_5 : decode cX3_fail 5 = .ok (.iconst 0, 1) := by decide +kernel
theorem dX3_fail_6 : decode cX3_fail 6 = .ok (.ireturn, 1) := by decide +kernel
end
section
theorem dX4_init_0 : decode cX4_init 0 = .ok (.aload_n 0, 1) := by decide +kernel
theorem dX4_init_1 : decode cX4_init 1 = .ok (.invokespecial 3, 3) := by decide +kernel
theorem dX4_init_4 : decode cX4_init 4 = .ok (.aload_n 0, 1) := by decide +kernel
theorem dX4_init_5 : decode cX4_init 5 = .ok (.bipush 10, 2) := by decide +kernel
theorem dX4_init_7 : decode cX4_init 7 = .ok (.anewarray 9, 3) := by decide +kernel
theorem dX4_init_10 : decode cX4_init 10 = .ok (.putfield 11, 3) := by decide +kernel
theorem dX4_init_13 : decode cX4_init 13 = .ok (.aload_n 0, 1) := by decide +kernel
theorem dX4_init_14 : decode cX4_init 14 = .ok (.new 9, 3) := by decide +kernel
theorem dX4_init_17 : decode cX4_init 17 = .ok (.dup, 1) := by decide +kernel
theorem dX4_init_18 : decode cX4_init 18 = .ok (.invokespecial 17, 3) := by decide +kernel
theorem dX4_init_21 : decode cX4_init 21 = .ok (.putfield 18, 3) := by decide +kernel
theorem dX4_init_24 : decode cX4_init 24 = .ok (.aload_n 0, 1) := by decide +kernel
theorem dX4_init_25 : decode cX4_init 25 = .ok (.bipush 8, 2) := by decide +kernel
theorem dX4_init_27 : decode cX4_init 27 = .ok (.putfield 22, 3) := by decide +kernel
theorem dX4_init_30 : decode cX4_init 30 = .ok (.aload_n 0, 1) := by decide +kernel
theorem dX4_init_31 : decode cX4_init 31 = .ok (.bipush 8, 2) := by decide +kernel
theorem dX4_init_33 : decode cX4_init 33 = .ok (.putfield 26, 3) := by decide +kernel
theorem dX4_init_36 : decode cX4_init 36 = .ok (.aload_n 0, 1) := by decide +kernel
theorem dX4_init_37 : decode cX4_init 37 = .ok (.iconst 3, 1) := by decide +kernel
theorem dX4_init_38 : decode cX4_init 38 = .ok (.putfield 29, 3) := by decide +kernel
theorem dX4_init_41 : decode cX4_init 41 = .ok (.aload_n 0, 1) := by decide +kernel
theorem dX4_init_42 : decode cX4_init 42 = .ok (.iconst 1, 1) := by decide +kernel
theorem dX4_init_43 : decode cX4_init 43 = .ok (.putfield 32, 3) := by decide +kernel
theorem dX4_init_46 : decode cX4_init 46 = .ok (.iconst 0, 1) := by decide +kernel
theorem dX4_init_47 : decode cX4_init 47 = .ok (.istore_n 1, 1) := by decide +kernel
theorem dX4_init_48 : decode cX4_init 48 = .ok (.iload_n 1, 1) := by decide +kernel
theorem dX4_init_49 : decode cX4_init 49 = .ok (.aload_n 0, 1) := by decide +kernel
theorem dX4_init_50 : decode cX4_init 50 = .ok (.getfield 11, 3) := by decide +kernel
theorem dX4_init_53 : decode cX4_init 53 = .ok (.arraylength, 1) := by decide +kernel
theorem dX4_init_54 : decode cX4_init 54 = .ok (.if_icmp .ge 22, 3) := by decide +kernel
theorem dX4_init_57 : decode cX4_init 57 = .ok (.aload_n 0, 1) := by decide +kernel
theorem dX4_init_58 : decode cX4_init 58 = .ok (.getfield 11, 3) := by decide +kernel
theorem dX4_init_61 : decode cX4_init 61 = .ok (.iload_n 1, 1) := by decide +kernel
theorem dX4_init_62 : decode cX4_init 62 = .ok (.new 9, 3) := by decide +kernel
theorem dX4_init_65 : decode cX4_init 65 = .ok (.dup, 1) := by decide +kernel
theorem dX4_init_66 : decode cX4_init 66 = .ok (.invokespecial 17, 3) := by decide +kernel
theorem dX4_init_69 : decode cX4_init 69 = .ok (.aastore, 1) := by decide +kernel
theorem dX4_init_70 : decode cX4_init 70 = .ok (.iinc 1 1, 3) := by decide +kernel
theorem dX4_init_73 : decode cX4_init 73 = .ok (.goto (-25), 3) := by decide +kernel
theorem dX4_init_76 : decode cX4_init 76 = .ok (.return_, 1) := by decide +kernel
theorem dX4_become_0 : decode cX4_become 0 = .ok (.aload_n 0, 1) := by decide +kernel
theorem dX4_become_1 : decode cX4_become 1 = .ok (.aload_n 1, 1) := by decide +kernel
theorem dX4_become_2 : decode cX4_become 2 = .ok (.getfield 35, 3) := by decide +kernel
theorem dX4_become_5 : decode cX4_become 5 = .ok (.putfield 35, 3) := by decide +kernel
theorem dX4_become_8 : decode cX4_become 8 = .ok (.aload_n 0, 1) := by decide +kernel
theorem dX4_become_9 : decode cX4_become 9 = .ok (.aload_n 1, 1) := by decide +kernel
theorem dX4_become_10 : decode cX4_become 10 = .ok (.getfield 22, 3) := by decide +kernel
theorem dX4_become_13 : decode cX4_become 13 = .ok (.putfield 22, 3) := by decide +kernel
theorem dX4_become_16 : decode cX4_become 16 = .ok (.aload_n 0, 1) := by decide +kernel
theorem dX4_become_17 : decode cX4_become 17 = .ok (.aload_n 1, 1) := by decide +kernel
theorem dX4_become_18 : decode cX4_become 18 = .ok (.getfield 38, 3) := by decide +kernel
theorem dX4_become_21 : decode cX4_become 21 = .ok (.putfield 38, 3) := by decide +kernel
theorem dX4_become_24 : decode cX4_become 24 = .ok (.aload_n 0, 1) := by decide +kernel
theorem dX4_become_25 : decode cX4_become 25 = .ok (.aload_n 1, 1) := by decide +kernel
theorem dX4_become_26 : decode cX4_become 26 = .ok (.getfield 26, 3) := by decide +kernel
theorem dX4_become_29 : decode cX4_become 29 = .ok (.putfield 26, 3) := by decide +kernel
theorem dX4_become_32 : decode cX4_become 32 = .ok (.aload_n 0, 1) := by decide +kernel
theorem dX4_become_33 : decode cX4_become 33 = .ok (.aload_n 1, 1) := by decide +kernel
theorem dX4_become_34 : decode cX4_become 34 = .ok (.getfield 29, 3) := by decide +kernel
theorem dX4_become_37 : decode cX4_become 37 = .ok (.putfield 29, 3) := by decide +kernel
theorem dX4_become_40 : decode cX4_become 40 = .ok (.aload_n 0, 1) := by decide +kernel
theorem dX4_become_41 : decode cX4_become 41 = .ok (.aload_n 1, 1) := by decide +kernel
theorem dX4_become_42 : decode cX4_become 42 = .ok (.getfield 41, 3) := by decide +kernel
theorem dX4_become_45 : decode cX4_become 45 = .ok (.putfield 41, 3) := by decide +kernel
theorem dX4_become_48 : decode cX4_become 48 = .ok (.aload_n 0, 1) := by decide +kernel
theorem dX4_become_49 : decode cX4_become 49 = .ok (.aload_n 1, 1) := by decide +kernel
theorem dX4_become_50 : decode cX4_become 50 = .ok (.getfield 32, 3) := by decide +kernel
theorem dX4_become_53 : decode cX4_become 53 = .ok (.putfield 32, 3) := by decide +kernel
theorem dX4_become_56 : decode cX4_become 56 = .ok (.iconst 0, 1) := by decide +kernel
theorem dX4_become_57 : decode cX4_become 57 = .ok (.istore_n 2, 1) := by decide +kernel
theorem dX4_become_58 : decode cX4_become 58 = .ok (.iload_n 2, 1) := by decide +kernel
theorem dX4_become_59 : decode cX4_become 59 = .ok (.aload_n 0, 1) := by decide +kernel
theorem dX4_become_60 : decode cX4_become 60 = .ok (.getfield 35, 3) := by decide +kernel
theorem dX4_become_63 : decode cX4_become 63 = .ok (.if_icmp .ge 22, 3) := by decide +kernel
theorem dX4_become_66 : decode cX4_become 66 = .ok (.aload_n 0, 1) := by decide +kernel
theorem dX4_become_67 : decode cX4_become 67 = .ok (.iload_n 2, 1) := by decide +kernel
theorem dX4_become_68 : decode cX4_become 68 = .ok (.invokevirtual 44, 3) := by decide +kernel
theorem dX4_become_71 : decode cX4_become 71 = .ok (.aload_n 1, 1) := by decide +kernel
theorem dX4_become_72 : decode cX4_become 72 = .ok (.iload_n 2, 1) := by decide +kernel
theorem dX4_become_73 : decode cX4_become 73 = .ok (.invokevirtual 44, 3) := by decide +kernel
theorem dX4_become_76 : decode cX4_become 76 = .ok (.invokevirtual 48, 3) := by decide +kernel
theorem dX4_become_79 : decode cX4_become 79 = .ok (.iinc 2 1, 3) := by decide +kernel
theorem dX4_become_82 : decode cX4_become 82 = .ok (.goto (-24), 3) := by decide +kernel
theorem dX4_become_85 : decode cX4_become 85 = .ok (.return_, 1) := by decide +kernel
theorem dX4_has_0 : decode cX4_has 0 = .ok (.iload_n 1, 1) := by decide +kernel
theorem dX4_has_1 : decode cX4_has 1 = .ok (.ifCond .lt 15, 3) := by decide +kernel
theorem dX4_has_4 : decode cX4_has 4 = .ok (.iload_n 1, 1) := by decide +kernel
theorem dX4_has_5 : decode cX4_has 5 = .ok (.aload_n 0, 1) := by decide +kernel
theorem dX4_has_6 : decode cX4_has 6 = .ok (.getfield 35, 3) := by decide +kernel
theorem dX4_has_9 : decode cX4_has 9 = .ok (.if_icmp .ge 7, 3) := by decide +kernel
theorem dX4_has_12 : decode cX4_has 12 = .ok (.iconst 1, 1) := by decide +kernel
theorem dX4_has_13 : decode cX4_has 13 = .ok (.goto 4, 3) := by decide +kernel
theorem dX4_has_16 : decode cX4_has 16 = .ok (.iconst 0, 1) := by decide +kernel
theorem dX4_has_17 : decode cX4_has 17 = .ok (.ireturn, 1) := by decide +kernel
theorem dX4_isFull_0 : decode cX4_isFull 0 = .ok (.aload_n 0, 1) := by decide +kernel
theorem dX4_isFull_1 : decode cX4_isFull 1 = .ok (.getfield 35, 3) := by decide +kernel
theorem dX4_isFull_4 : decode cX4_isFull 4 = .ok (.bipush 10, 2) := by decide +kernel
theorem dX4_isFull_6 : decode cX4_isFull 6 = .ok (.if_icmp .lt 7, 3) := by decide +kernel
theorem dX4_isFull_9 : decode cX4_isFull 9 = .ok (.iconst 1, 1) := by decide +kernel
theorem dX4_isFull_10 : decode cX4_isFull 10 = .ok (.goto 4, 3) := by decide +kernel
theorem dX4_isFull_13 : decode cX4_isFull 13 = .ok (.iconst 0, 1) := by decide +kernel
theorem dX4_isFull_14 : decode cX4_isFull 14 = .ok (.ireturn, 1) := by decide +kernel
theorem dX4_one_0 : decode cX4_one 0 = .ok (.iload_n 1, 1) := by decide +kernel
theorem dX4_one_1 : decode cX4_one 1 = .ok (.ifCond .lt 21, 3) := by decide +kernel
theorem dX4_one_4 : decode cX4_one 4 = .ok (.iload_n 1, 1) := by decide +kernel
theorem dX4_one_5 : decode cX4_one 5 = .ok (.aload_n 0, 1) := by decide +kernel
theorem dX4_one_6 : decode cX4_one 6 = .ok (.getfield 11, 3) := by decide +kernel
theorem dX4_one_9 : decode cX4_one 9 = .ok (.arraylength, 1) := by decide +kernel
theorem dX4_one_10 : decode cX4_one 10 = .ok (.if_icmp .ge 12, 3) := by decide +kernel
theorem dX4_one_13 : decode cX4_one 13 = .ok (.aload_n 0, 1) := by decide +kernel
theorem dX4_one_14 : decode cX4_one 14 = .ok (.getfield 11, 3) := by decide +kernel
theorem dX4_one_17 : decode cX4_one 17 = .ok (.iload_n 1, 1) := by decide +kernel
theorem dX4_one_18 : decode cX4_one 18 = .ok (.aaload, 1) := by decide +kernel
theorem dX4_one_19 : decode cX4_one 19 = .ok (.goto 7, 3) := by decide +kernel
theorem dX4_one_22 : decode cX4_one 22 = .ok (.aload_n 0, 1) := by decide +kernel
theorem dX4_one_23 : decode cX4_one 23 = .ok (.getfield 18, 3) := by decide +kernel
theorem dX4_one_26 : decode cX4_one 26 = .ok (.areturn, 1) := by decide +kernel
theorem dX4_enrol_0 : decode cX4_enrol 0 = .ok (.aload_n 0, 1) := by decide +kernel
theorem dX4_enrol_1 : decode cX4_enrol 1 = .ok (.aload_n 0, 1) := by decide +kernel
theorem dX4_enrol_2 : decode cX4_enrol 2 = .ok (.getfield 35, 3) := by decide +kernel
theorem dX4_enrol_5 : decode cX4_enrol 5 = .ok (.invokevirtual 44, 3) := by decide +kernel
theorem dX4_enrol_8 : decode cX4_enrol 8 = .ok (.iload_n 1, 1) := by decide +kernel
theorem dX4_enrol_9 : decode cX4_enrol 9 = .ok (.iload_n 2, 1) := by decide +kernel
theorem dX4_enrol_10 : decode cX4_enrol 10 = .ok (.iload_n 3, 1) := by decide +kernel
theorem dX4_enrol_11 : decode cX4_enrol 11 = .ok (.iload 4, 2) := by decide +kernel
theorem dX4_enrol_13 : decode cX4_enrol 13 = .ok (.invokevirtual 52, 3) := by decide +kernel
theorem dX4_enrol_16 : decode cX4_enrol 16 = .ok (.aload_n 0, 1) := by decide +kernel
theorem dX4_enrol_17 : decode cX4_enrol 17 = .ok (.dup, 1) := by decide +kernel
theorem dX4_enrol_18 : decode cX4_enrol 18 = .ok (.getfield 35, 3) := by decide +kernel
theorem dX4_enrol_21 : decode cX4_enrol 21 = .ok (.iconst 1, 1) := by decide +kernel
theorem dX4_enrol_22 : decode cX4_enrol 22 = .ok (.iadd, 1) := by decide +kernel
theorem dX4_enrol_23 : decode cX4_enrol 23 = .ok (.putfield 35, 3) := by decide +kernel
theorem dX4_enrol_26 : decode cX4_enrol 26 = .ok (.aload_n 0, 1) := by decide +kernel
theorem dX4_enrol_27 : decode cX4_enrol 27 = .ok (.getfield 35, 3) := by decide +kernel
theorem dX4_enrol_30 : decode cX4_enrol 30 = .ok (.iconst 1, 1) := by decide +kernel
theorem dX4_enrol_31 : decode cX4_enrol 31 = .ok (.isub, 1) := by decide +kernel
theorem dX4_enrol_32 : decode cX4_enrol 32 = .ok (.ireturn, 1) := by decide +kernel
theorem dX4_setting_0 : decode cX4_setting 0 = .ok (.iload_n 1, 1) := by decide +kernel
theorem dX4_setting_1 : decode cX4_setting 1 = .ok (.tableswitch 42 0 2 #[27, 32, 37], 27) := by decide +kernel
theorem dX4_setting_28 : decode cX4_setting 28 = .ok (.aload_n 0, 1) := by decide +kernel
theorem dX4_setting_29 : decode cX4_setting 29 = .ok (.getfield 22, 3) := by decide +kernel
theorem dX4_setting_32 : decode cX4_setting 32 = .ok (.ireturn, 1) := by decide +kernel
theorem dX4_setting_33 : decode cX4_setting 33 = .ok (.aload_n 0, 1) := by decide +kernel
theorem dX4_setting_34 : decode cX4_setting 34 = .ok (.getfield 38, 3) := by decide +kernel
theorem dX4_setting_37 : decode cX4_setting 37 = .ok (.ireturn, 1) := by decide +kernel
theorem dX4_setting_38 : decode cX4_setting 38 = .ok (.aload_n 0, 1) := by decide +kernel
theorem dX4_setting_39 : decode cX4_setting 39 = .ok (.getfield 26, 3) := by decide +kernel
theorem dX4_setting_42 : decode cX4_setting 42 = .ok (.ireturn, 1) := by decide +kernel
theorem dX4_setting_43 : decode cX4_setting 43 = .ok (.aload_n 0, 1) := by decide +kernel
theorem dX4_setting_44 : decode cX4_setting 44 = .ok (.getfield 29, 3) := by decide +kernel
theorem dX4_setting_47 : decode cX4_setting 47 = .ok (.ireturn, 1) := by decide +kernel
theorem dX4_settle_0 : decode cX4_settle 0 = .ok (.iload_n 1, 1) := by decide +kernel
theorem dX4_settle_1 : decode cX4_settle 1 = .ok (.tableswitch 51 0 2 #[27, 35, 43], 27) := by decide +kernel
theorem dX4_settle_28 : decode cX4_settle 28 = .ok (.aload_n 0, 1) := by decide +kernel
theorem dX4_settle_29 : decode cX4_settle 29 = .ok (.iload_n 2, 1) := by decide +kernel
theorem dX4_settle_30 : decode cX4_settle 30 = .ok (.putfield 22, 3) := by decide +kernel
theorem dX4_settle_33 : decode cX4_settle 33 = .ok (.goto 24, 3) := by decide +kernel
theorem dX4_settle_36 : decode cX4_settle 36 = .ok (.aload_n 0, 1) := by decide +kernel
theorem dX4_settle_37 : decode cX4_settle 37 = .ok (.iload_n 2, 1) := by decide +kernel
theorem dX4_settle_38 : decode cX4_settle 38 = .ok (.putfield 38, 3) := by decide +kernel
theorem dX4_settle_41 : decode cX4_settle 41 = .ok (.goto 16, 3) := by decide +kernel
theorem dX4_settle_44 : decode cX4_settle 44 = .ok (.aload_n 0, 1) := by decide +kernel
theorem dX4_settle_45 : decode cX4_settle 45 = .ok (.iload_n 2, 1) := by decide +kernel
theorem dX4_settle_46 : decode cX4_settle 46 = .ok (.putfield 26, 3) := by decide +kernel
theorem dX4_settle_49 : decode cX4_settle 49 = .ok (.goto 8, 3) := by decide +kernel
theorem dX4_settle_52 : decode cX4_settle 52 = .ok (.aload_n 0, 1) := by decide +kernel
theorem dX4_settle_53 : decode cX4_settle 53 = .ok (.iload_n 2, 1) := by decide +kernel
theorem dX4_settle_54 : decode cX4_settle 54 = .ok (.putfield 29, 3) := by decide +kernel
theorem dX4_settle_57 : decode cX4_settle 57 = .ok (.return_, 1) := by decide +kernel
theorem dX4_dismissFrom_0 : decode cX4_dismissFrom 0 = .ok (.iconst 0, 1) := by decide +kernel
theorem dX4_dismissFrom_1 : decode cX4_dismissFrom 1 = .ok (.iload_n 1, 1) := by decide +kernel
theorem dX4_dismissFrom_2 : decode cX4_dismissFrom 2 = .ok (.invokestatic 56, 3) := by decide +kernel
theorem dX4_dismissFrom_5 : decode cX4_dismissFrom 5 = .ok (.istore_n 2, 1) := by decide +kernel
theorem dX4_dismissFrom_6 : decode cX4_dismissFrom 6 = .ok (.iload_n 2, 1) := by decide +kernel
theorem dX4_dismissFrom_7 : decode cX4_dismissFrom 7 = .ok (.aload_n 0, 1) := by decide +kernel
theorem dX4_dismissFrom_8 : decode cX4_dismissFrom 8 = .ok (.getfield 35, 3) := by decide +kernel
theorem dX4_dismissFrom_11 : decode cX4_dismissFrom 11 = .ok (.if_icmp .ge 18, 3) := by decide +kernel
theorem dX4_dismissFrom_14 : decode cX4_dismissFrom 14 = .ok (.aload_n 0, 1) := by decide +kernel
theorem dX4_dismissFrom_15 : decode cX4_dismissFrom 15 = .ok (.iload_n 2, 1) := by decide +kernel
theorem dX4_dismissFrom_16 : decode cX4_dismissFrom 16 = .ok (.invokevirtual 44, 3) := by decide +kernel
theorem dX4_dismissFrom_19 : decode cX4_dismissFrom 19 = .ok (.iconst 1, 1) := by decide +kernel
theorem dX4_dismissFrom_20 : decode cX4_dismissFrom 20 = .ok (.putfield 62, 3) := by decide +kernel
theorem dX4_dismissFrom_23 : decode cX4_dismissFrom 23 = .ok (.iinc 2 1, 3) := by decide +kernel
theorem dX4_dismissFrom_26 : decode cX4_dismissFrom 26 = .ok (.goto (-20), 3) := by decide +kernel
theorem dX4_dismissFrom_29 : decode cX4_dismissFrom 29 = .ok (.return_, 1) := by decide +kernel
theorem dX4_payForAll_0 : decode cX4_payForAll 0 = .ok (.iconst 0, 1) := by decide +kernel
theorem dX4_payForAll_1 : decode cX4_payForAll 1 = .ok (.istore_n 2, 1) := by decide +kernel
theorem dX4_payForAll_2 : decode cX4_payForAll 2 = .ok (.iload_n 2, 1) := by decide +kernel
theorem dX4_payForAll_3 : decode cX4_payForAll 3 = .ok (.aload_n 0, 1) := by decide +kernel
theorem dX4_payForAll_4 : decode cX4_payForAll 4 = .ok (.getfield 35, 3) := by decide +kernel
theorem dX4_payForAll_7 : decode cX4_payForAll 7 = .ok (.if_icmp .ge 18, 3) := by decide +kernel
theorem dX4_payForAll_10 : decode cX4_payForAll 10 = .ok (.aload_n 0, 1) := by decide +kernel
theorem dX4_payForAll_11 : decode cX4_payForAll 11 = .ok (.iload_n 2, 1) := by decide +kernel
theorem dX4_payForAll_12 : decode cX4_payForAll 12 = .ok (.invokevirtual 44, 3) := by decide +kernel
theorem dX4_payForAll_15 : decode cX4_payForAll 15 = .ok (.iload_n 1, 1) := by decide +kernel
theorem dX4_payForAll_16 : decode cX4_payForAll 16 = .ok (.putfield 66, 3) := by decide +kernel
theorem dX4_payForAll_19 : decode cX4_payForAll 19 = .ok (.iinc 2 1, 3) := by decide +kernel
theorem dX4_payForAll_22 : decode cX4_payForAll 22 = .ok (.goto (-20), 3) := by decide +kernel
theorem dX4_payForAll_25 : decode cX4_payForAll 25 = .ok (.return_, 1) := by decide +kernel
theorem dX4_present_0 : decode cX4_present 0 = .ok (.iconst 0, 1) := by decide +kernel
theorem dX4_present_1 : decode cX4_present 1 = .ok (.istore_n 1, 1) := by decide +kernel
theorem dX4_present_2 : decode cX4_present 2 = .ok (.iconst 0, 1) := by decide +kernel
theorem dX4_present_3 : decode cX4_present 3 = .ok (.istore_n 2, 1) := by decide +kernel
theorem dX4_present_4 : decode cX4_present 4 = .ok (.iload_n 2, 1) := by decide +kernel
theorem dX4_present_5 : decode cX4_present 5 = .ok (.aload_n 0, 1) := by decide +kernel
theorem dX4_present_6 : decode cX4_present 6 = .ok (.getfield 35, 3) := by decide +kernel
theorem dX4_present_9 : decode cX4_present 9 = .ok (.if_icmp .ge 26, 3) := by decide +kernel
theorem dX4_present_12 : decode cX4_present 12 = .ok (.aload_n 0, 1) := by decide +kernel
theorem dX4_present_13 : decode cX4_present 13 = .ok (.iload_n 2, 1) := by decide +kernel
theorem dX4_present_14 : decode cX4_present 14 = .ok (.invokevirtual 44, 3) := by decide +kernel
theorem dX4_present_17 : decode cX4_present 17 = .ok (.getfield 62, 3) := by decide +kernel
theorem dX4_present_20 : decode cX4_present 20 = .ok (.ifCond .ne 9, 3) := by decide +kernel
theorem dX4_present_23 : decode cX4_present 23 = .ok (.iload_n 1, 1) := by decide +kernel
theorem dX4_present_24 : decode cX4_present 24 = .ok (.iconst 1, 1) := by decide +kernel
theorem dX4_present_25 : decode cX4_present 25 = .ok (.iload_n 2, 1) := by decide +kernel
theorem dX4_present_26 : decode cX4_present 26 = .ok (.ishl, 1) := by decide +kernel
theorem dX4_present_27 : decode cX4_present 27 = .ok (.ior, 1) := by decide +kernel
theorem dX4_present_28 : decode cX4_present 28 = .ok (.istore_n 1, 1) := by decide +kernel
theorem dX4_present_29 : decode cX4_present 29 = .ok (.iinc 2 1, 3) := by decide +kernel
theorem dX4_present_32 : decode cX4_present 32 = .ok (.goto (-28), 3) := by decide +kernel
theorem dX4_present_35 : decode cX4_present 35 = .ok (.iload_n 1, 1) := by decide +kernel
theorem dX4_present_36 : decode cX4_present 36 = .ok (.ireturn, 1) := by decide +kernel
theorem dX4_comingsTogether_0 : decode cX4_comingsTogether 0 = .ok (.iconst 0, 1) := by decide +kernel
theorem dX4_comingsTogether_1 : decode cX4_comingsTogether 1 = .ok (.istore_n 1, 1) := by decide +kernel
theorem dX4_comingsTogether_2 : decode cX4_comingsTogether 2 = .ok (.iconst 0, 1) := by decide +kernel
theorem dX4_comingsTogether_3 : decode cX4_comingsTogether 3 = .ok (.istore_n 2, 1) := by decide +kernel
theorem dX4_comingsTogether_4 : decode cX4_comingsTogether 4 = .ok (.iload_n 2, 1) := by decide +kernel
theorem dX4_comingsTogether_5 : decode cX4_comingsTogether 5 = .ok (.aload_n 0, 1) := by decide +kernel
theorem dX4_comingsTogether_6 : decode cX4_comingsTogether 6 = .ok (.getfield 35, 3) := by decide +kernel
theorem dX4_comingsTogether_9 : decode cX4_comingsTogether 9 = .ok (.if_icmp .ge 20, 3) := by decide +kernel
theorem dX4_comingsTogether_12 : decode cX4_comingsTogether 12 = .ok (.iload_n 1, 1) := by decide +kernel
theorem dX4_comingsTogether_13 : decode cX4_comingsTogether 13 = .ok (.aload_n 0, 1) := by decide +kernel
theorem dX4_comingsTogether_14 : decode cX4_comingsTogether 14 = .ok (.iload_n 2, 1) := by decide +kernel
theorem dX4_comingsTogether_15 : decode cX4_comingsTogether 15 = .ok (.invokevirtual 44, 3) := by decide +kernel
theorem dX4_comingsTogether_18 : decode cX4_comingsTogether 18 = .ok (.getfield 69, 3) := by decide +kernel
theorem dX4_comingsTogether_21 : decode cX4_comingsTogether 21 = .ok (.iadd, 1) := by decide +kernel
theorem dX4_comingsTogether_22 : decode cX4_comingsTogether 22 = .ok (.istore_n 1, 1) := by decide +kernel
theorem dX4_comingsTogether_23 : decode cX4_comingsTogether 23 = .ok (.iinc 2 1, 3) := by decide +kernel
theorem dX4_comingsTogether_26 : decode cX4_comingsTogether 26 = .ok (.goto (-22), 3) := by decide +kernel
theorem dX4_comingsTogether_29 : decode cX4_comingsTogether 29 = .ok (.iload_n 1, 1) := by decide +kernel
theorem dX4_comingsTogether_30 : decode cX4_comingsTogether 30 = .ok (.ireturn, 1) := by decide +kernel
theorem dX4_pullOn_0 : decode cX4_pullOn 0 = .ok (.aload_n 0, 1) := by decide +kernel
theorem dX4_pullOn_1 : decode cX4_pullOn 1 = .ok (.iload_n 1, 1) := by decide +kernel
theorem dX4_pullOn_2 : decode cX4_pullOn 2 = .ok (.invokevirtual 44, 3) := by decide +kernel
theorem dX4_pullOn_5 : decode cX4_pullOn 5 = .ok (.aload_n 0, 1) := by decide +kernel
theorem dX4_pullOn_6 : decode cX4_pullOn 6 = .ok (.getfield 22, 3) := by decide +kernel
theorem dX4_pullOn_9 : decode cX4_pullOn 9 = .ok (.aload_n 0, 1) := by decide +kernel
theorem dX4_pullOn_10 : decode cX4_pullOn 10 = .ok (.getfield 38, 3) := by decide +kernel
theorem dX4_pullOn_13 : decode cX4_pullOn 13 = .ok (.aload_n 0, 1) := by decide +kernel
theorem dX4_pullOn_14 : decode cX4_pullOn 14 = .ok (.getfield 41, 3) := by decide +kernel
theorem dX4_pullOn_17 : decode cX4_pullOn 17 = .ok (.invokevirtual 72, 3) := by decide +kernel
theorem dX4_pullOn_20 : decode cX4_pullOn 20 = .ok (.ireturn, 1) := by decide +kernel
theorem dX4_comers_0 : decode cX4_comers 0 = .ok (.iconst 0, 1) := by decide +kernel
theorem dX4_comers_1 : decode cX4_comers 1 = .ok (.istore_n 2, 1) := by decide +kernel
theorem dX4_comers_2 : decode cX4_comers 2 = .ok (.iload_n 2, 1) := by decide +kernel
theorem dX4_comers_3 : decode cX4_comers 3 = .ok (.aload_n 0, 1) := by decide +kernel
theorem dX4_comers_4 : decode cX4_comers 4 = .ok (.getfield 35, 3) := by decide +kernel
theorem dX4_comers_7 : decode cX4_comers 7 = .ok (.if_icmp .ge 36, 3) := by decide +kernel
theorem dX4_comers_10 : decode cX4_comers 10 = .ok (.aload_n 0, 1) := by decide +kernel
theorem dX4_comers_11 : decode cX4_comers 11 = .ok (.iload_n 2, 1) := by decide +kernel
theorem dX4_comers_12 : decode cX4_comers 12 = .ok (.invokevirtual 44, 3) := by decide +kernel
theorem dX4_comers_15 : decode cX4_comers 15 = .ok (.aload_n 0, 1) := by decide +kernel
theorem dX4_comers_16 : decode cX4_comers 16 = .ok (.iload_n 2, 1) := by decide +kernel
theorem dX4_comers_17 : decode cX4_comers 17 = .ok (.invokevirtual 76, 3) := by decide +kernel
theorem dX4_comers_20 : decode cX4_comers 20 = .ok (.iload_n 1, 1) := by decide +kernel
theorem dX4_comers_21 : decode cX4_comers 21 = .ok (.iload_n 2, 1) := by decide +kernel
theorem dX4_comers_22 : decode cX4_comers 22 = .ok (.invokestatic 79, 3) := by decide +kernel
theorem dX4_comers_25 : decode cX4_comers 25 = .ok (.ifCond .eq 7, 3) := by decide +kernel
theorem dX4_comers_28 : decode cX4_comers 28 = .ok (.iconst 4, 1) := by decide +kernel
theorem dX4_comers_29 : decode cX4_comers 29 = .ok (.goto 4, 3) := by decide +kernel
theorem dX4_comers_32 : decode cX4_comers 32 = .ok (.iconst 0, 1) := by decide +kernel
theorem dX4_comers_33 : decode cX4_comers 33 = .ok (.iadd, 1) := by decide +kernel
theorem dX4_comers_34 : decode cX4_comers 34 = .ok (.putfield 83, 3) := by decide +kernel
theorem dX4_comers_37 : decode cX4_comers 37 = .ok (.iinc 2 1, 3) := by decide +kernel
theorem dX4_comers_40 : decode cX4_comers 40 = .ok (.goto (-38), 3) := by decide +kernel
theorem dX4_comers_43 : decode cX4_comers 43 = .ok (.aload_n 0, 1) := by decide +kernel
theorem dX4_comers_44 : decode cX4_comers 44 = .ok (.invokevirtual 86, 3) := by decide +kernel
theorem dX4_comers_47 : decode cX4_comers 47 = .ok (.istore_n 2, 1) := by decide +kernel
theorem dX4_comers_48 : decode cX4_comers 48 = .ok (.iconst 0, 1) := by decide +kernel
theorem dX4_comers_49 : decode cX4_comers 49 = .ok (.istore_n 3, 1) := by decide +kernel
theorem dX4_comers_50 : decode cX4_comers 50 = .ok (.iload_n 3, 1) := by decide +kernel
theorem dX4_comers_51 : decode cX4_comers 51 = .ok (.bipush 10, 2) := by decide +kernel
theorem dX4_comers_53 : decode cX4_comers 53 = .ok (.if_icmp .gt 28, 3) := by decide +kernel
theorem dX4_comers_56 : decode cX4_comers 56 = .ok (.aload_n 0, 1) := by decide +kernel
theorem dX4_comers_57 : decode cX4_comers 57 = .ok (.iload_n 2, 1) := by decide +kernel
theorem dX4_comers_58 : decode cX4_comers 58 = .ok (.invokevirtual 90, 3) := by decide +kernel
theorem dX4_comers_61 : decode cX4_comers 61 = .ok (.istore 4, 2) := by decide +kernel
theorem dX4_comers_63 : decode cX4_comers 63 = .ok (.iload 4, 2) := by decide +kernel
theorem dX4_comers_65 : decode cX4_comers 65 = .ok (.iload_n 2, 1) := by decide +kernel
theorem dX4_comers_66 : decode cX4_comers 66 = .ok (.if_icmp .ne 6, 3) := by decide +kernel
theorem dX4_comers_69 : decode cX4_comers 69 = .ok (.goto 12, 3) := by decide +kernel
theorem dX4_comers_72 : decode cX4_comers 72 = .ok (.iload 4, 2) := by decide +kernel
theorem dX4_comers_74 : decode cX4_comers 74 = .ok (.istore_n 2, 1) := by decide +kernel
theorem dX4_comers_75 : decode cX4_comers 75 = .ok (.iinc 3 1, 3) := by decide +kernel
theorem dX4_comers_78 : decode cX4_comers 78 = .ok (.goto (-28), 3) := by decide +kernel
theorem dX4_comers_81 : decode cX4_comers 81 = .ok (.iload_n 2, 1) := by decide +kernel
theorem dX4_comers_82 : decode cX4_comers 82 = .ok (.ireturn, 1) := by decide +kernel
theorem dX4_stillComing_0 : decode cX4_stillComing 0 = .ok (.iconst 0, 1) := by decide +kernel
theorem dX4_stillComing_1 : decode cX4_stillComing 1 = .ok (.istore_n 2, 1) := by decide +kernel
theorem dX4_stillComing_2 : decode cX4_stillComing 2 = .ok (.iconst 0, 1) := by decide +kernel
theorem dX4_stillComing_3 : decode cX4_stillComing 3 = .ok (.istore_n 3, 1) := by decide +kernel
theorem dX4_stillComing_4 : decode cX4_stillComing 4 = .ok (.iload_n 3, 1) := by decide +kernel
theorem dX4_stillComing_5 : decode cX4_stillComing 5 = .ok (.aload_n 0, 1) := by decide +kernel
theorem dX4_stillComing_6 : decode cX4_stillComing 6 = .ok (.getfield 35, 3) := by decide +kernel
theorem dX4_stillComing_9 : decode cX4_stillComing 9 = .ok (.if_icmp .ge 36, 3) := by decide +kernel
theorem dX4_stillComing_12 : decode cX4_stillComing 12 = .ok (.iload_n 1, 1) := by decide +kernel
theorem dX4_stillComing_13 : decode cX4_stillComing 13 = .ok (.iload_n 3, 1) := by decide +kernel
theorem dX4_stillComing_14 : decode cX4_stillComing 14 = .ok (.invokestatic 79, 3) := by decide +kernel
theorem dX4_stillComing_17 : decode cX4_stillComing 17 = .ok (.ifCond .eq 22, 3) := by decide +kernel
theorem dX4_stillComing_20 : decode cX4_stillComing 20 = .ok (.aload_n 0, 1) := by decide +kernel
theorem dX4_stillComing_21 : decode cX4_stillComing 21 = .ok (.aload_n 0, 1) := by decide +kernel
theorem dX4_stillComing_22 : decode cX4_stillComing 22 = .ok (.iload_n 3, 1) := by decide +kernel
theorem dX4_stillComing_23 : decode cX4_stillComing 23 = .ok (.invokevirtual 44, 3) := by decide +kernel
theorem dX4_stillComing_26 : decode cX4_stillComing 26 = .ok (.iload_n 1, 1) := by decide +kernel
theorem dX4_stillComing_27 : decode cX4_stillComing 27 = .ok (.invokevirtual 93, 3) := by decide +kernel
theorem dX4_stillComing_30 : decode cX4_stillComing 30 = .ok (.ifCond .eq 9, 3) := by decide +kernel
theorem dX4_stillComing_33 : decode cX4_stillComing 33 = .ok (.iload_n 2, 1) := by decide +kernel
theorem dX4_stillComing_34 : decode cX4_stillComing 34 = .ok (.iconst 1, 1) := by decide +kernel
theorem dX4_stillComing_35 : decode cX4_stillComing 35 = .ok (.iload_n 3, 1) := by decide +kernel
theorem dX4_stillComing_36 : decode cX4_stillComing 36 = .ok (.ishl, 1) := by decide +kernel
theorem dX4_stillComing_37 : decode cX4_stillComing 37 = .ok (.ior, 1) := by decide +kernel
theorem dX4_stillComing_38 : decode cX4_stillComing 38 = .ok (.istore_n 2, 1) := by decide +kernel
theorem dX4_stillComing_39 : decode cX4_stillComing 39 = .ok (.iinc 3 1, 3) := by decide +kernel
theorem dX4_stillComing_42 : decode cX4_stillComing 42 = .ok (.goto (-38), 3) := by decide +kernel
theorem dX4_stillComing_45 : decode cX4_stillComing 45 = .ok (.iload_n 2, 1) := by decide +kernel
theorem dX4_stillComing_46 : decode cX4_stillComing 46 = .ok (.ireturn, 1) := by decide +kernel
theorem dX4_comesWith_0 : decode cX4_comesWith 0 = .ok (.iload_n 2, 1) := by decide +kernel
theorem dX4_comesWith_1 : decode cX4_comesWith 1 = .ok (.aload_n 1, 1) := by decide +kernel
theorem dX4_comesWith_2 : decode cX4_comesWith 2 = .ok (.getfield 97, 3) := by decide +kernel
theorem dX4_comesWith_5 : decode cX4_comesWith 5 = .ok (.invokestatic 79, 3) := by decide +kernel
theorem dX4_comesWith_8 : decode cX4_comesWith 8 = .ok (.ifCond .ne 33, 3) := by decide +kernel
theorem dX4_comesWith_11 : decode cX4_comesWith 11 = .ok (.aload_n 1, 1) := by decide +kernel
theorem dX4_comesWith_12 : decode cX4_comesWith 12 = .ok (.getfield 83, 3) := by decide +kernel
theorem dX4_comesWith_15 : decode cX4_comesWith 15 = .ok (.ifCond .le 24, 3) := by decide +kernel
theorem dX4_comesWith_18 : decode cX4_comesWith 18 = .ok (.aload_n 1, 1) := by decide +kernel
theorem dX4_comesWith_19 : decode cX4_comesWith 19 = .ok (.getfield 100, 3) := by decide +kernel
theorem dX4_comesWith_22 : decode cX4_comesWith 22 = .ok (.bipush 6, 2) := by decide +kernel
theorem dX4_comesWith_24 : decode cX4_comesWith 24 = .ok (.if_icmp .ne 11, 3) := by decide +kernel
theorem dX4_comesWith_27 : decode cX4_comesWith 27 = .ok (.aload_n 1, 1) := by decide +kernel
theorem dX4_comesWith_28 : decode cX4_comesWith 28 = .ok (.getfield 97, 3) := by decide +kernel
theorem dX4_comesWith_31 : decode cX4_comesWith 31 = .ok (.iconst (-1), 1) := by decide +kernel
theorem dX4_comesWith_32 : decode cX4_comesWith 32 = .ok (.if_icmp .ne 7, 3) := by decide +kernel
theorem dX4_comesWith_35 : decode cX4_comesWith 35 = .ok (.iconst 1, 1) := by decide +kernel
theorem dX4_comesWith_36 : decode cX4_comesWith 36 = .ok (.goto 4, 3) := by decide +kernel
theorem dX4_comesWith_39 : decode cX4_comesWith 39 = .ok (.iconst 0, 1) := by decide +kernel
theorem dX4_comesWith_40 : decode cX4_comesWith 40 = .ok (.ireturn, 1) := by decide +kernel
theorem dX4_comesWith_41 : decode cX4_comesWith 41 = .ok (.aload_n 0, 1) := by decide +kernel
theorem dX4_comesWith_42 : decode cX4_comesWith 42 = .ok (.aload_n 1, 1) := by decide +kernel
theorem dX4_comesWith_43 : decode cX4_comesWith 43 = .ok (.getfield 97, 3) := by decide +kernel
theorem dX4_comesWith_46 : decode cX4_comesWith 46 = .ok (.invokevirtual 44, 3) := by decide +kernel
theorem dX4_comesWith_49 : decode cX4_comesWith 49 = .ok (.getfield 100, 3) := by decide +kernel
theorem dX4_comesWith_52 : decode cX4_comesWith 52 = .ok (.iconst 3, 1) := by decide +kernel
theorem dX4_comesWith_53 : decode cX4_comesWith 53 = .ok (.invokestatic 103, 3) := by decide +kernel
theorem dX4_comesWith_56 : decode cX4_comesWith 56 = .ok (.ifCond .eq 8, 3) := by decide +kernel
theorem dX4_comesWith_59 : decode cX4_comesWith 59 = .ok (.bipush 6, 2) := by decide +kernel
theorem dX4_comesWith_61 : decode cX4_comesWith 61 = .ok (.goto 4, 3) := by decide +kernel
theorem dX4_comesWith_64 : decode cX4_comesWith 64 = .ok (.iconst 3, 1) := by decide +kernel
theorem dX4_comesWith_65 : decode cX4_comesWith 65 = .ok (.istore_n 3, 1) := by decide +kernel
theorem dX4_comesWith_66 : decode cX4_comesWith 66 = .ok (.aload_n 1, 1) := by decide +kernel
theorem dX4_comesWith_67 : decode cX4_comesWith 67 = .ok (.getfield 83, 3) := by decide +kernel
theorem dX4_comesWith_70 : decode cX4_comesWith 70 = .ok (.iload_n 3, 1) := by decide +kernel
theorem dX4_comesWith_71 : decode cX4_comesWith 71 = .ok (.iadd, 1) := by decide +kernel
theorem dX4_comesWith_72 : decode cX4_comesWith 72 = .ok (.ifCond .le 7, 3) := by decide +kernel
theorem dX4_comesWith_75 : decode cX4_comesWith 75 = .ok (.iconst 1, 1) := by decide +kernel
theorem dX4_comesWith_76 : decode cX4_comesWith 76 = .ok (.goto 4, 3) := by decide +kernel
theorem dX4_comesWith_79 : decode cX4_comesWith 79 = .ok (.iconst 0, 1) := by decide +kernel
theorem dX4_comesWith_80 : decode cX4_comesWith 80 = .ok (.ireturn, 1) := by decide +kernel
theorem dX4_seatedOf_0 : decode cX4_seatedOf 0 = .ok (.iconst 0, 1) := by decide +kernel
theorem dX4_seatedOf_1 : decode cX4_seatedOf 1 = .ok (.istore_n 2, 1) := by decide +kernel
theorem dX4_seatedOf_2 : decode cX4_seatedOf 2 = .ok (.aload_n 0, 1) := by decide +kernel
theorem dX4_seatedOf_3 : decode cX4_seatedOf 3 = .ok (.getfield 26, 3) := by decide +kernel
theorem dX4_seatedOf_6 : decode cX4_seatedOf 6 = .ok (.istore_n 3, 1) := by decide +kernel
theorem dX4_seatedOf_7 : decode cX4_seatedOf 7 = .ok (.iconst 0, 1) := by decide +kernel
theorem dX4_seatedOf_8 : decode cX4_seatedOf 8 = .ok (.istore 4, 2) := by decide +kernel
theorem dX4_seatedOf_10 : decode cX4_seatedOf 10 = .ok (.iload 4, 2) := by decide +kernel
theorem dX4_seatedOf_12 : decode cX4_seatedOf 12 = .ok (.aload_n 0, 1) := by decide +kernel
theorem dX4_seatedOf_13 : decode cX4_seatedOf 13 = .ok (.getfield 35, 3) := by decide +kernel
theorem dX4_seatedOf_16 : decode cX4_seatedOf 16 = .ok (.if_icmp .ge 32, 3) := by decide +kernel
theorem dX4_seatedOf_19 : decode cX4_seatedOf 19 = .ok (.iload_n 3, 1) := by decide +kernel
theorem dX4_seatedOf_20 : decode cX4_seatedOf 20 = .ok (.ifCond .le 28, 3) := by decide +kernel
theorem dX4_seatedOf_23 : decode cX4_seatedOf 23 = .ok (.iload_n 1, 1) := by decide +kernel
theorem dX4_seatedOf_24 : decode cX4_seatedOf 24 = .ok (.iload 4, 2) := by decide +kernel
theorem dX4_seatedOf_26 : decode cX4_seatedOf 26 = .ok (.invokestatic 79, 3) := by decide +kernel
theorem dX4_seatedOf_29 : decode cX4_seatedOf 29 = .ok (.ifCond .eq 13, 3) := by decide +kernel
theorem dX4_seatedOf_32 : decode cX4_seatedOf 32 = .ok (.iload_n 2, 1) := by decide +kernel
theorem dX4_seatedOf_33 : decode cX4_seatedOf 33 = .ok (.iconst 1, 1) := by decide +kernel
theorem dX4_seatedOf_34 : decode cX4_seatedOf 34 = .ok (.iload 4, 2) := by decide +kernel
theorem dX4_seatedOf_36 : decode cX4_seatedOf 36 = .ok (.ishl, 1) := by decide +kernel
theorem dX4_seatedOf_37 : decode cX4_seatedOf 37 = .ok (.ior, 1) := by decide +kernel
theorem dX4_seatedOf_38 : decode cX4_seatedOf 38 = .ok (.istore_n 2, 1) := by decide +kernel
theorem dX4_seatedOf_39 : decode cX4_seatedOf 39 = .ok (.iinc 3 (-1), 3) := by decide +kernel
theorem dX4_seatedOf_42 : decode cX4_seatedOf 42 = .ok (.iinc 4 1, 3) := by decide +kernel
theorem dX4_seatedOf_45 : decode cX4_seatedOf 45 = .ok (.goto (-35), 3) := by decide +kernel
theorem dX4_seatedOf_48 : decode cX4_seatedOf 48 = .ok (.iload_n 2, 1) := by decide +kernel
theorem dX4_seatedOf_49 : decode cX4_seatedOf 49 = .ok (.ireturn, 1) := by decide +kernel
theorem dX4_endEvening_0 : decode cX4_endEvening 0 = .ok (.iconst 0, 1) := by decide +kernel
theorem dX4_endEvening_1 : decode cX4_endEvening 1 = .ok (.istore_n 2, 1) := by decide +kernel
theorem dX4_endEvening_2 : decode cX4_endEvening 2 = .ok (.iload_n 2, 1) := by decide +kernel
theorem dX4_endEvening_3 : decode cX4_endEvening 3 = .ok (.aload_n 0, 1) := by decide +kernel
theorem dX4_endEvening_4 : decode cX4_endEvening 4 = .ok (.getfield 35, 3) := by decide +kernel
theorem dX4_endEvening_7 : decode cX4_endEvening 7 = .ok (.if_icmp .ge 47, 3) := by decide +kernel
theorem dX4_endEvening_10 : decode cX4_endEvening 10 = .ok (.iload_n 1, 1) := by decide +kernel
theorem dX4_endEvening_11 : decode cX4_endEvening 11 = .ok (.iload_n 2, 1) := by decide +kernel
theorem dX4_endEvening_12 : decode cX4_endEvening 12 = .ok (.invokestatic 79, 3) := by decide +kernel
theorem dX4_endEvening_15 : decode cX4_endEvening 15 = .ok (.ifCond .eq 14, 3) := by decide +kernel
theorem dX4_endEvening_18 : decode cX4_endEvening 18 = .ok (.aload_n 0, 1) := by decide +kernel
theorem dX4_endEvening_19 : decode cX4_endEvening 19 = .ok (.iload_n 2, 1) := by decide +kernel
theorem dX4_endEvening_20 : decode cX4_endEvening 20 = .ok (.invokevirtual 44, 3) := by decide +kernel
theorem dX4_endEvening_23 : decode cX4_endEvening 23 = .ok (.invokevirtual 106, 3) := by decide +kernel
theorem dX4_endEvening_26 : decode cX4_endEvening 26 = .ok (.goto 22, 3) := by decide +kernel
theorem dX4_endEvening_29 : decode cX4_endEvening 29 = .ok (.aload_n 0, 1) := by decide +kernel
theorem dX4_endEvening_30 : decode cX4_endEvening 30 = .ok (.iload_n 2, 1) := by decide +kernel
theorem dX4_endEvening_31 : decode cX4_endEvening 31 = .ok (.invokevirtual 44, 3) := by decide +kernel
theorem dX4_endEvening_34 : decode cX4_endEvening 34 = .ok (.getfield 62, 3) := by decide +kernel
theorem dX4_endEvening_37 : decode cX4_endEvening 37 = .ok (.ifCond .ne 11, 3) := by decide +kernel
theorem dX4_endEvening_40 : decode cX4_endEvening 40 = .ok (.aload_n 0, 1) := by decide +kernel
theorem dX4_endEvening_41 : decode cX4_endEvening 41 = .ok (.iload_n 2, 1) := by decide +kernel
theorem dX4_endEvening_42 : decode cX4_endEvening 42 = .ok (.invokevirtual 44, 3) := by decide +kernel
theorem dX4_endEvening_45 : decode cX4_endEvening 45 = .ok (.invokevirtual 109, 3) := by decide +kernel
theorem dX4_endEvening_48 : decode cX4_endEvening 48 = .ok (.iinc 2 1, 3) := by decide +kernel
theorem dX4_endEvening_51 : decode cX4_endEvening 51 = .ok (.goto (-49), 3) := by decide +kernel
theorem dX4_endEvening_54 : decode cX4_endEvening 54 = .ok (.aload_n 0, 1) := by decide +kernel
theorem dX4_endEvening_55 : decode cX4_endEvening 55 = .ok (.dup, 1) := by decide +kernel
theorem dX4_endEvening_56 : decode cX4_endEvening 56 = .ok (.getfield 41, 3) := by decide +kernel
theorem dX4_endEvening_59 : decode cX4_endEvening 59 = .ok (.iconst 1, 1) := by decide +kernel
theorem dX4_endEvening_60 : decode cX4_endEvening 60 = .ok (.iadd, 1) := by decide +kernel
theorem dX4_endEvening_61 : decode cX4_endEvening 61 = .ok (.putfield 41, 3) := by decide +kernel
theorem dX4_endEvening_64 : decode cX4_endEvening 64 = .ok (.return_, 1) := by decide +kernel
theorem dX4_draw_0 : decode cX4_draw 0 = .ok (.aload_n 0, 1) := by decide +kernel
theorem dX4_draw_1 : decode cX4_draw 1 = .ok (.aload_n 0, 1) := by decide +kernel
theorem dX4_draw_2 : decode cX4_draw 2 = .ok (.getfield 32, 3) := by decide +kernel
theorem dX4_draw_5 : decode cX4_draw 5 = .ok (.ldc 112, 2) := by decide +kernel
theorem dX4_draw_7 : decode cX4_draw 7 = .ok (.imul, 1) := by decide +kernel
theorem dX4_draw_8 : decode cX4_draw 8 = .ok (.sipush 12345, 3) := by decide +kernel
theorem dX4_draw_11 : decode cX4_draw 11 = .ok (.iadd, 1) := by decide +kernel
theorem dX4_draw_12 : decode cX4_draw 12 = .ok (.putfield 32, 3) := by decide +kernel
theorem dX4_draw_15 : decode cX4_draw 15 = .ok (.iload_n 1, 1) := by decide +kernel
theorem dX4_draw_16 : decode cX4_draw 16 = .ok (.ifCond .le 15, 3) := by decide +kernel
theorem dX4_draw_19 : decode cX4_draw 19 = .ok (.aload_n 0, 1) := by decide +kernel
theorem dX4_draw_20 : decode cX4_draw 20 = .ok (.getfield 32, 3) := by decide +kernel
theorem dX4_draw_23 : decode cX4_draw 23 = .ok (.bipush 16, 2) := by decide +kernel
theorem dX4_draw_25 : decode cX4_draw 25 = .ok (.iushr, 1) := by decide +kernel
theorem dX4_draw_26 : decode cX4_draw 26 = .ok (.iload_n 1, 1) := by decide +kernel
theorem dX4_draw_27 : decode cX4_draw 27 = .ok (.irem, 1) := by decide +kernel
theorem dX4_draw_28 : decode cX4_draw 28 = .ok (.goto 4, 3) := by decide +kernel
theorem dX4_draw_31 : decode cX4_draw 31 = .ok (.iconst 0, 1) := by decide +kernel
theorem dX4_draw_32 : decode cX4_draw 32 = .ok (.ireturn, 1) := by decide +kernel
end
section
theorem dX5_init_0 : decode cX5_init 0 = .ok (.aload_n 0, 1) := by decide +kernel
theorem dX5_init_1 : decode cX5_init 1 = .ok (.invokespecial 3, 3) := by decide +kernel
theorem dX5_init_4 : decode cX5_init 4 = .ok (.aload_n 0, 1) := by decide +kernel
theorem dX5_init_5 : decode cX5_init 5 = .ok (.iconst (-1), 1) := by decide +kernel
theorem dX5_init_6 : decode cX5_init 6 = .ok (.putfield 9, 3) := by decide +kernel
theorem dX5_init_9 : decode cX5_init 9 = .ok (.aload_n 0, 1) := by decide +kernel
theorem dX5_init_10 : decode cX5_init 10 = .ok (.iconst (-1), 1) := by decide +kernel
theorem dX5_init_11 : decode cX5_init 11 = .ok (.putfield 15, 3) := by decide +kernel
theorem dX5_init_14 : decode cX5_init 14 = .ok (.aload_n 0, 1) := by decide +kernel
theorem dX5_init_15 : decode cX5_init 15 = .ok (.sipush 160, 3) := by decide +kernel
theorem dX5_init_18 : decode cX5_init 18 = .ok (.newarray .long, 2) := by decide +kernel
theorem dX5_init_20 : decode cX5_init 20 = .ok (.putfield 18, 3) := by decide +kernel
theorem dX5_init_23 : decode cX5_init 23 = .ok (.return_, 1) := by decide +kernel
theorem dX5_isRow_0 : decode cX5_isRow 0 = .ok (.aload_n 0, 1) := by decide +kernel
theorem dX5_isRow_1 : decode cX5_isRow 1 = .ok (.getfield 9, 3) := by decide +kernel
theorem dX5_isRow_4 : decode cX5_isRow 4 = .ok (.iconst (-1), 1) := by decide +kernel
theorem dX5_isRow_5 : decode cX5_isRow 5 = .ok (.if_icmp .eq 7, 3) := by decide +kernel
theorem dX5_isRow_8 : decode cX5_isRow 8 = .ok (.iconst 1, 1) := by decide +kernel
theorem dX5_isRow_9 : decode cX5_isRow 9 = .ok (.goto 4, 3) := by decide +kernel
theorem dX5_isRow_12 : decode cX5_isRow 12 = .ok (.iconst 0, 1) := by decide +kernel
theorem dX5_isRow_13 : decode cX5_isRow 13 = .ok (.ireturn, 1) := by decide +kernel
theorem dX5_isPerson_0 : decode cX5_isPerson 0 = .ok (.aload_n 0, 1) := by decide +kernel
theorem dX5_isPerson_1 : decode cX5_isPerson 1 = .ok (.getfield 15, 3) := by decide +kernel
theorem dX5_isPerson_4 : decode cX5_isPerson 4 = .ok (.iconst (-1), 1) := by decide +kernel
theorem dX5_isPerson_5 : decode cX5_isPerson 5 = .ok (.if_icmp .eq 7, 3) := by decide +kernel
theorem dX5_isPerson_8 : decode cX5_isPerson 8 = .ok (.iconst 1, 1) := by decide +kernel
theorem dX5_isPerson_9 : decode cX5_isPerson 9 = .ok (.goto 4, 3) := by decide +kernel
theorem dX5_isPerson_12 : decode cX5_isPerson 12 = .ok (.iconst 0, 1) := by decide +kernel
theorem dX5_isPerson_13 : decode cX5_isPerson 13 = .ok (.ireturn, 1) := by decide +kernel
theorem dX5_holdRow_0 : decode cX5_holdRow 0 = .ok (.aload_n 0, 1) := by decide +kernel
theorem dX5_holdRow_1 : decode cX5_holdRow 1 = .ok (.iload_n 1, 1) := by decide +kernel
theorem dX5_holdRow_2 : decode cX5_holdRow 2 = .ok (.putfield 9, 3) := by decide +kernel
theorem dX5_holdRow_5 : decode cX5_holdRow 5 = .ok (.aload_n 0, 1) := by decide +kernel
theorem dX5_holdRow_6 : decode cX5_holdRow 6 = .ok (.iconst (-1), 1) := by decide +kernel
theorem dX5_holdRow_7 : decode cX5_holdRow 7 = .ok (.putfield 15, 3) := by decide +kernel
theorem dX5_holdRow_10 : decode cX5_holdRow 10 = .ok (.aload_n 0, 1) := by decide +kernel
theorem dX5_holdRow_11 : decode cX5_holdRow 11 = .ok (.iload_n 2, 1) := by decide +kernel
theorem dX5_holdRow_12 : decode cX5_holdRow 12 = .ok (.putfield 22, 3) := by decide +kernel
theorem dX5_holdRow_15 : decode cX5_holdRow 15 = .ok (.aload_n 0, 1) := by decide +kernel
theorem dX5_holdRow_16 : decode cX5_holdRow 16 = .ok (.getfield 18, 3) := by decide +kernel
theorem dX5_holdRow_19 : decode cX5_holdRow 19 = .ok (.lconst 0, 1) := by decide +kernel
theorem dX5_holdRow_20 : decode cX5_holdRow 20 = .ok (.invokestatic 25, 3) := by decide +kernel
theorem dX5_holdRow_23 : decode cX5_holdRow 23 = .ok (.return_, 1) := by decide +kernel
theorem dX5_holdPerson_0 : decode cX5_holdPerson 0 = .ok (.aload_n 0, 1) := by decide +kernel
theorem dX5_holdPerson_1 : decode cX5_holdPerson 1 = .ok (.iconst (-1), 1) := by decide +kernel
theorem dX5_holdPerson_2 : decode cX5_holdPerson 2 = .ok (.putfield 9, 3) := by decide +kernel
theorem dX5_holdPerson_5 : decode cX5_holdPerson 5 = .ok (.aload_n 0, 1) := by decide +kernel
theorem dX5_holdPerson_6 : decode cX5_holdPerson 6 = .ok (.iload_n 1, 1) := by decide +kernel
theorem dX5_holdPerson_7 : decode cX5_holdPerson 7 = .ok (.putfield 15, 3) := by decide +kernel
theorem dX5_holdPerson_10 : decode cX5_holdPerson 10 = .ok (.aload_n 0, 1) := by decide +kernel
theorem dX5_holdPerson_11 : decode cX5_holdPerson 11 = .ok (.iconst 0, 1) := by decide +kernel
theorem dX5_holdPerson_12 : decode cX5_holdPerson 12 = .ok (.putfield 22, 3) := by decide +kernel
theorem dX5_holdPerson_15 : decode cX5_holdPerson 15 = .ok (.return_, 1) := by decide +kernel
theorem dX5_hasElement_0 : decode cX5_hasElement 0 = .ok (.iload_n 1, 1) := by decide +kernel
theorem dX5_hasElement_1 : decode cX5_hasElement 1 = .ok (.ifCond .lt 15, 3) := by decide +kernel
theorem dX5_hasElement_4 : decode cX5_hasElement 4 = .ok (.iload_n 1, 1) := by decide +kernel
theorem dX5_hasElement_5 : decode cX5_hasElement 5 = .ok (.aload_n 0, 1) := by decide +kernel
theorem dX5_hasElement_6 : decode cX5_hasElement 6 = .ok (.getfield 22, 3) := by decide +kernel
theorem dX5_hasElement_9 : decode cX5_hasElement 9 = .ok (.if_icmp .ge 7, 3) := by decide +kernel
theorem dX5_hasElement_12 : decode cX5_hasElement 12 = .ok (.iconst 1, 1) := by decide +kernel
theorem dX5_hasElement_13 : decode cX5_hasElement 13 = .ok (.goto 4, 3) := by decide +kernel
theorem dX5_hasElement_16 : decode cX5_hasElement 16 = .ok (.iconst 0, 1) := by decide +kernel
theorem dX5_hasElement_17 : decode cX5_hasElement 17 = .ok (.ireturn, 1) := by decide +kernel
theorem dX5_hasStretch_0 : decode cX5_hasStretch 0 = .ok (.iload_n 1, 1) := by decide +kernel
theorem dX5_hasStretch_1 : decode cX5_hasStretch 1 = .ok (.ifCond .lt 25, 3) := by decide +kernel
theorem dX5_hasStretch_4 : decode cX5_hasStretch 4 = .ok (.iload_n 2, 1) := by decide +kernel
theorem dX5_hasStretch_5 : decode cX5_hasStretch 5 = .ok (.ifCond .lt 21, 3) := by decide +kernel
theorem dX5_hasStretch_8 : decode cX5_hasStretch 8 = .ok (.iload_n 1, 1) := by decide +kernel
theorem dX5_hasStretch_9 : decode cX5_hasStretch 9 = .ok (.i2l, 1) := by decide +kernel
theorem dX5_hasStretch_10 : decode cX5_hasStretch 10 = .ok (.iload_n 2, 1) := by decide +kernel
theorem dX5_hasStretch_11 : decode cX5_hasStretch 11 = .ok (.i2l, 1) := by decide +kernel
theorem dX5_hasStretch_12 : decode cX5_hasStretch 12 = .ok (.ladd, 1) := by decide +kernel
theorem dX5_hasStretch_13 : decode cX5_hasStretch 13 = .ok (.aload_n 0, 1) := by decide +kernel
theorem dX5_hasStretch_14 : decode cX5_hasStretch 14 = .ok (.getfield 22, 3) := by decide +kernel
theorem dX5_hasStretch_17 : decode cX5_hasStretch 17 = .ok (.i2l, 1) := by decide +kernel
theorem dX5_hasStretch_18 : decode cX5_hasStretch 18 = .ok (.lcmp, 1) := by decide +kernel
theorem dX5_hasStretch_19 : decode cX5_hasStretch 19 = .ok (.ifCond .gt 7, 3) := by decide +kernel
theorem dX5_hasStretch_22 : decode cX5_hasStretch 22 = .ok (.iconst 1, 1) := by decide +kernel
theorem dX5_hasStretch_23 : decode cX5_hasStretch 23 = .ok (.goto 4, 3) := by decide +kernel
theorem dX5_hasStretch_26 : decode cX5_hasStretch 26 = .ok (.iconst 0, 1) := by decide +kernel
theorem dX5_hasStretch_27 : decode cX5_hasStretch 27 = .ok (.ireturn, 1) := by decide +kernel
theorem dX5_put_0 : decode cX5_put 0 = .ok (.iload_n 1, 1) := by decide +kernel
theorem dX5_put_1 : decode cX5_put 1 = .ok (.ifCond .lt 20, 3) := by decide +kernel
theorem dX5_put_4 : decode cX5_put 4 = .ok (.iload_n 1, 1) := by decide +kernel
theorem dX5_put_5 : decode cX5_put 5 = .ok (.aload_n 0, 1) := by decide +kernel
theorem dX5_put_6 : decode cX5_put 6 = .ok (.getfield 22, 3) := by decide +kernel
theorem dX5_put_9 : decode cX5_put 9 = .ok (.if_icmp .ge 12, 3) := by decide +kernel
theorem dX5_put_12 : decode cX5_put 12 = .ok (.iload_n 1, 1) := by decide +kernel
theorem dX5_put_13 : decode cX5_put 13 = .ok (.aload_n 0, 1) := by decide +kernel
theorem dX5_put_14 : decode cX5_put 14 = .ok (.getfield 18, 3) := by decide +kernel
theorem dX5_put_17 : decode cX5_put 17 = .ok (.arraylength, 1) := by decide +kernel
theorem dX5_put_18 : decode cX5_put 18 = .ok (.if_icmp .lt 4, 3) := by decide +kernel
theorem dX5_put_21 : decode cX5_put 21 = .ok (.return_, 1) := by decide +kernel
theorem dX5_put_22 : decode cX5_put 22 = .ok (.aload_n 0, 1) := by decide +kernel
theorem dX5_put_23 : decode cX5_put 23 = .ok (.getfield 9, 3) := by decide +kernel
theorem dX5_put_26 : decode cX5_put 26 = .ok (.tableswitch 64 0 2 #[26, 39, 52], 26) := by decide +kernel
theorem dX5_put_52 : decode cX5_put 52 = .ok (.aload_n 0, 1) := by decide +kernel
theorem dX5_put_53 : decode cX5_put 53 = .ok (.getfield 18, 3) := by decide +kernel
theorem dX5_put_56 : decode cX5_put 56 = .ok (.iload_n 1, 1) := by decide +kernel
theorem dX5_put_57 : decode cX5_put 57 = .ok (.lload_n 2, 1) := by decide +kernel
theorem dX5_put_58 : decode cX5_put 58 = .ok (.l2i, 1) := by decide +kernel
theorem dX5_put_59 : decode cX5_put 59 = .ok (.i2b, 1) := by decide +kernel
theorem dX5_put_60 : decode cX5_put 60 = .ok (.i2l, 1) := by decide +kernel
theorem dX5_put_61 : decode cX5_put 61 = .ok (.lastore, 1) := by decide +kernel
theorem dX5_put_62 : decode cX5_put 62 = .ok (.goto 35, 3) := by decide +kernel
theorem dX5_put_65 : decode cX5_put 65 = .ok (.aload_n 0, 1) := by decide +kernel
theorem dX5_put_66 : decode cX5_put 66 = .ok (.getfield 18, 3) := by decide +kernel
theorem dX5_put_69 : decode cX5_put 69 = .ok (.iload_n 1, 1) := by decide +kernel
theorem dX5_put_70 : decode cX5_put 70 = .ok (.lload_n 2, 1) := by decide +kernel
theorem dX5_put_71 : decode cX5_put 71 = .ok (.l2i, 1) := by decide +kernel
theorem dX5_put_72 : decode cX5_put 72 = .ok (.i2s, 1) := by decide +kernel
theorem dX5_put_73 : decode cX5_put 73 = .ok (.i2l, 1) := by decide +kernel
theorem dX5_put_74 : decode cX5_put 74 = .ok (.lastore, 1) := by decide +kernel
theorem dX5_put_75 : decode cX5_put 75 = .ok (.goto 22, 3) := by decide +kernel
theorem dX5_put_78 : decode cX5_put 78 = .ok (.aload_n 0, 1) := by decide +kernel
theorem dX5_put_79 : decode cX5_put 79 = .ok (.getfield 18, 3) := by decide +kernel
theorem dX5_put_82 : decode cX5_put 82 = .ok (.iload_n 1, 1) := by decide +kernel
theorem dX5_put_83 : decode cX5_put 83 = .ok (.lload_n 2, 1) := by decide +kernel
theorem dX5_put_84 : decode cX5_put 84 = .ok (.l2i, 1) := by decide +kernel
theorem dX5_put_85 : decode cX5_put 85 = .ok (.i2l, 1) := by decide +kernel
theorem dX5_put_86 : decode cX5_put 86 = .ok (.lastore, 1) := by decide +kernel
theorem dX5_put_87 : decode cX5_put 87 = .ok (.goto 10, 3) := by decide +kernel
theorem dX5_put_90 : decode cX5_put 90 = .ok (.aload_n 0, 1) := by decide +kernel
theorem dX5_put_91 : decode cX5_put 91 = .ok (.getfield 18, 3) := by decide +kernel
theorem dX5_put_94 : decode cX5_put 94 = .ok (.iload_n 1, 1) := by decide +kernel
theorem dX5_put_95 : decode cX5_put 95 = .ok (.lload_n 2, 1) := by decide +kernel
theorem dX5_put_96 : decode cX5_put 96 = .ok (.lastore, 1) := by decide +kernel
theorem dX5_put_97 : decode cX5_put 97 = .ok (.return_, 1) := by decide +kernel
theorem dX5_elementAt_0 : decode cX5_elementAt 0 = .ok (.iload_n 1, 1) := by decide +kernel
theorem dX5_elementAt_1 : decode cX5_elementAt 1 = .ok (.ifCond .lt 29, 3) := by decide +kernel
theorem dX5_elementAt_4 : decode cX5_elementAt 4 = .ok (.iload_n 1, 1) := by decide +kernel
theorem dX5_elementAt_5 : decode cX5_elementAt 5 = .ok (.aload_n 0, 1) := by decide +kernel
theorem dX5_elementAt_6 : decode cX5_elementAt 6 = .ok (.getfield 22, 3) := by decide +kernel
theorem dX5_elementAt_9 : decode cX5_elementAt 9 = .ok (.if_icmp .ge 21, 3) := by decide +kernel
theorem dX5_elementAt_12 : decode cX5_elementAt 12 = .ok (.iload_n 1, 1) := by decide +kernel
theorem dX5_elementAt_13 : decode cX5_elementAt 13 = .ok (.aload_n 0, 1) := by decide +kernel
theorem dX5_elementAt_14 : decode cX5_elementAt 14 = .ok (.getfield 18, 3) := by decide +kernel
theorem dX5_elementAt_17 : decode cX5_elementAt 17 = .ok (.arraylength, 1) := by decide +kernel
theorem dX5_elementAt_18 : decode cX5_elementAt 18 = .ok (.if_icmp .ge 12, 3) := by decide +kernel
theorem dX5_elementAt_21 : decode cX5_elementAt 21 = .ok (.aload_n 0, 1) := by decide +kernel
theorem dX5_elementAt_22 : decode cX5_elementAt 22 = .ok (.getfield 18, 3) := by decide +kernel
theorem dX5_elementAt_25 : decode cX5_elementAt 25 = .ok (.iload_n 1, 1) := by decide +kernel
theorem dX5_elementAt_26 : decode cX5_elementAt 26 = .ok (.laload, 1) := by decide +kernel
theorem dX5_elementAt_27 : decode cX5_elementAt 27 = .ok (.goto 4, 3) := by decide +kernel
theorem dX5_elementAt_30 : decode cX5_elementAt 30 = .ok (.lconst 0, 1) := by decide +kernel
theorem dX5_elementAt_31 : decode cX5_elementAt 31 = .ok (.lreturn, 1) := by decide +kernel
theorem dX5_intAt_0 : decode cX5_intAt 0 = .ok (.aload_n 0, 1) := by decide +kernel
theorem dX5_intAt_1 : decode cX5_intAt 1 = .ok (.iload_n 1, 1) := by decide +kernel
theorem dX5_intAt_2 : decode cX5_intAt 2 = .ok (.invokevirtual 31, 3) := by decide +kernel
theorem dX5_intAt_5 : decode cX5_intAt 5 = .ok (.l2i, 1) := by decide +kernel
theorem dX5_intAt_6 : decode cX5_intAt 6 = .ok (.ireturn, 1) := by decide +kernel
end
section
theorem dX6_init_0 : decode cX6_init 0 = .ok (.aload_n 0, 1) := by decide +kernel
theorem dX6_init_1 : decode cX6_init 1 = .ok (.invokespecial 1, 3) := by decide +kernel
theorem dX6_init_4 : decode cX6_init 4 = .ok (.aload_n 0, 1) := by decide +kernel
theorem dX6_init_5 : decode cX6_init 5 = .ok (.new 7, 3) := by decide +kernel
theorem dX6_init_8 : decode cX6_init 8 = .ok (.dup, 1) := by decide +kernel
theorem dX6_init_9 : decode cX6_init 9 = .ok (.invokespecial 9, 3) := by decide +kernel
theorem dX6_init_12 : decode cX6_init 12 = .ok (.putfield 10, 3) := by decide +kernel
theorem dX6_init_15 : decode cX6_init 15 = .ok (.aload_n 0, 1) := by decide +kernel
theorem dX6_init_16 : decode cX6_init 16 = .ok (.new 7, 3) := by decide +kernel
theorem dX6_init_19 : decode cX6_init 19 = .ok (.dup, 1) := by decide +kernel
theorem dX6_init_20 : decode cX6_init 20 = .ok (.invokespecial 9, 3) := by decide +kernel
theorem dX6_init_23 : decode cX6_init 23 = .ok (.putfield 16, 3) := by decide +kernel
theorem dX6_init_26 : decode cX6_init 26 = .ok (.aload_n 0, 1) := by decide +kernel
theorem dX6_init_27 : decode cX6_init 27 = .ok (.new 7, 3) := by decide +kernel
theorem dX6_init_30 : decode cX6_init 30 = .ok (.dup, 1) := by decide +kernel
theorem dX6_init_31 : decode cX6_init 31 = .ok (.invokespecial 9, 3) := by decide +kernel
theorem dX6_init_34 : decode cX6_init 34 = .ok (.putfield 19, 3) := by decide +kernel
theorem dX6_init_37 : decode cX6_init 37 = .ok (.aload_n 0, 1) := by decide +kernel
theorem dX6_init_38 : decode cX6_init 38 = .ok (.new 22, 3) := by decide +kernel
theorem dX6_init_41 : decode cX6_init 41 = .ok (.dup, 1) := by decide +kernel
theorem dX6_init_42 : decode cX6_init 42 = .ok (.invokespecial 24, 3) := by decide +kernel
theorem dX6_init_45 : decode cX6_init 45 = .ok (.putfield 25, 3) := by decide +kernel
theorem dX6_init_48 : decode cX6_init 48 = .ok (.aload_n 0, 1) := by decide +kernel
theorem dX6_init_49 : decode cX6_init 49 = .ok (.bipush 8, 2) := by decide +kernel
theorem dX6_init_51 : decode cX6_init 51 = .ok (.anewarray 29, 3) := by decide +kernel
theorem dX6_init_54 : decode cX6_init 54 = .ok (.putfield 31, 3) := by decide +kernel
theorem dX6_init_57 : decode cX6_init 57 = .ok (.aload_n 0, 1) := by decide +kernel
theorem dX6_init_58 : decode cX6_init 58 = .ok (.new 29, 3) := by decide +kernel
theorem dX6_init_61 : decode cX6_init 61 = .ok (.dup, 1) := by decide +kernel
theorem dX6_init_62 : decode cX6_init 62 = .ok (.invokespecial 35, 3) := by decide +kernel
theorem dX6_init_65 : decode cX6_init 65 = .ok (.putfield 36, 3) := by decide +kernel
theorem dX6_init_68 : decode cX6_init 68 = .ok (.aload_n 0, 1) := by decide +kernel
theorem dX6_init_69 : decode cX6_init 69 = .ok (.new 40, 3) := by decide +kernel
theorem dX6_init_72 : decode cX6_init 72 = .ok (.dup, 1) := by decide +kernel
theorem dX6_init_73 : decode cX6_init 73 = .ok (.invokespecial 42, 3) := by decide +kernel
theorem dX6_init_76 : decode cX6_init 76 = .ok (.putfield 43, 3) := by decide +kernel
theorem dX6_init_79 : decode cX6_init 79 = .ok (.aload_n 0, 1) := by decide +kernel
theorem dX6_init_80 : decode cX6_init 80 = .ok (.new 47, 3) := by decide +kernel
theorem dX6_init_83 : decode cX6_init 83 = .ok (.dup, 1) := by decide +kernel
theorem dX6_init_84 : decode cX6_init 84 = .ok (.invokespecial 49, 3) := by decide +kernel
theorem dX6_init_87 : decode cX6_init 87 = .ok (.putfield 50, 3) := by decide +kernel
theorem dX6_init_90 : decode cX6_init 90 = .ok (.aload_n 0, 1) := by decide +kernel
theorem dX6_init_91 : decode cX6_init 91 = .ok (.bipush 8, 2) := by decide +kernel
theorem dX6_init_93 : decode cX6_init 93 = .ok (.newarray .int, 2) := by decide +kernel
theorem dX6_init_95 : decode cX6_init 95 = .ok (.putfield 54, 3) := by decide +kernel
theorem dX6_init_98 : decode cX6_init 98 = .ok (.aload_n 0, 1) := by decide +kernel
theorem dX6_init_99 : decode cX6_init 99 = .ok (.iconst (-1), 1) := by decide +kernel
theorem dX6_init_100 : decode cX6_init 100 = .ok (.putfield 58, 3) := by decide +kernel
theorem dX6_init_103 : decode cX6_init 103 = .ok (.iconst 0, 1) := by decide +kernel
theorem dX6_init_104 : decode cX6_init 104 = .ok (.istore_n 1, 1) := by decide +kernel
theorem dX6_init_105 : decode cX6_init 105 = .ok (.iload_n 1, 1) := by decide +kernel
theorem dX6_init_106 : decode cX6_init 106 = .ok (.aload_n 0, 1) := by decide +kernel
theorem dX6_init_107 : decode cX6_init 107 = .ok (.getfield 31, 3) := by decide +kernel
theorem dX6_init_110 : decode cX6_init 110 = .ok (.arraylength, 1) := by decide +kernel
theorem dX6_init_111 : decode cX6_init 111 = .ok (.if_icmp .ge 22, 3) := by decide +kernel
theorem dX6_init_114 : decode cX6_init 114 = .ok (.aload_n 0, 1) := by decide +kernel
theorem dX6_init_115 : decode cX6_init 115 = .ok (.getfield 31, 3) := by decide +kernel
theorem dX6_init_118 : decode cX6_init 118 = .ok (.iload_n 1, 1) := by decide +kernel
theorem dX6_init_119 : decode cX6_init 119 = .ok (.new 29, 3) := by decide +kernel
theorem dX6_init_122 : decode cX6_init 122 = .ok (.dup, 1) := by decide +kernel
theorem dX6_init_123 : decode cX6_init 123 = .ok (.invokespecial 35, 3) := by decide +kernel
theorem dX6_init_126 : decode cX6_init 126 = .ok (.aastore, 1) := by decide +kernel
theorem dX6_init_127 : decode cX6_init 127 = .ok (.iinc 1 1, 3) := by decide +kernel
theorem dX6_init_130 : decode cX6_init 130 = .ok (.goto (-25), 3) := by decide +kernel
theorem dX6_init_133 : decode cX6_init 133 = .ok (.return_, 1) := by decide +kernel
theorem dX6_row_0 : decode cX6_row 0 = .ok (.aload_n 0, 1) := by decide +kernel
theorem dX6_row_1 : decode cX6_row 1 = .ok (.iload_n 1, 1) := by decide +kernel
theorem dX6_row_2 : decode cX6_row 2 = .ok (.invokevirtual 62, 3) := by decide +kernel
theorem dX6_row_5 : decode cX6_row 5 = .ok (.ifCond .ne 9, 3) := by decide +kernel
theorem dX6_row_8 : decode cX6_row 8 = .ok (.aload_n 0, 1) := by decide +kernel
theorem dX6_row_9 : decode cX6_row 9 = .ok (.iconst (-1), 1) := by decide +kernel
theorem dX6_row_10 : decode cX6_row 10 = .ok (.invokevirtual 66, 3) := by decide +kernel
theorem dX6_row_13 : decode cX6_row 13 = .ok (.ireturn, 1) := by decide +kernel
theorem dX6_row_14 : decode cX6_row 14 = .ok (.iload_n 3, 1) := by decide +kernel
theorem dX6_row_15 : decode cX6_row 15 = .ok (.ifCond .ge 10, 3) := by decide +kernel
theorem dX6_row_18 : decode cX6_row 18 = .ok (.aload_n 0, 1) := by decide +kernel
theorem dX6_row_19 : decode cX6_row 19 = .ok (.bipush (-4), 2) := by decide +kernel
theorem dX6_row_21 : decode cX6_row 21 = .ok (.invokevirtual 66, 3) := by decide +kernel
theorem dX6_row_24 : decode cX6_row 24 = .ok (.ireturn, 1) := by decide +kernel
theorem dX6_row_25 : decode cX6_row 25 = .ok (.iload_n 2, 1) := by decide +kernel
theorem dX6_row_26 : decode cX6_row 26 = .ok (.ifCond .lt 8, 3) := by decide +kernel
theorem dX6_row_29 : decode cX6_row 29 = .ok (.iload_n 2, 1) := by decide +kernel
theorem dX6_row_30 : decode cX6_row 30 = .ok (.iconst 3, 1) := by decide +kernel
theorem dX6_row_31 : decode cX6_row 31 = .ok (.if_icmp .le 10, 3) := by decide +kernel
theorem dX6_row_34 : decode cX6_row 34 = .ok (.aload_n 0, 1) := by decide +kernel
theorem dX6_row_35 : decode cX6_row 35 = .ok (.bipush (-6), 2) := by decide +kernel
theorem dX6_row_37 : decode cX6_row 37 = .ok (.invokevirtual 66, 3) := by decide +kernel
theorem dX6_row_40 : decode cX6_row 40 = .ok (.ireturn, 1) := by decide +kernel
theorem dX6_row_41 : decode cX6_row 41 = .ok (.iload_n 3, 1) := by decide +kernel
theorem dX6_row_42 : decode cX6_row 42 = .ok (.sipush 160, 3) := by decide +kernel
theorem dX6_row_45 : decode cX6_row 45 = .ok (.if_icmp .le 10, 3) := by decide +kernel
theorem dX6_row_48 : decode cX6_row 48 = .ok (.aload_n 0, 1) := by decide +kernel
theorem dX6_row_49 : decode cX6_row 49 = .ok (.bipush (-7), 2) := by decide +kernel
theorem dX6_row_51 : decode cX6_row 51 = .ok (.invokevirtual 66, 3) := by decide +kernel
theorem dX6_row_54 : decode cX6_row 54 = .ok (.ireturn, 1) := by decide +kernel
theorem dX6_row_55 : decode cX6_row 55 = .ok (.aload_n 0, 1) := by decide +kernel
theorem dX6_row_56 : decode cX6_row 56 = .ok (.iload_n 1, 1) := by decide +kernel
theorem dX6_row_57 : decode cX6_row 57 = .ok (.invokevirtual 70, 3) := by decide +kernel
theorem dX6_row_60 : decode cX6_row 60 = .ok (.iload_n 2, 1) := by decide +kernel
theorem dX6_row_61 : decode cX6_row 61 = .ok (.iload_n 3, 1) := by decide +kernel
theorem dX6_row_62 : decode cX6_row 62 = .ok (.invokevirtual 74, 3) := by decide +kernel
theorem dX6_row_65 : decode cX6_row 65 = .ok (.iconst 1, 1) := by decide +kernel
theorem dX6_row_66 : decode cX6_row 66 = .ok (.ireturn, 1) := by decide +kernel
theorem dX6_set_0 : decode cX6_set 0 = .ok (.aload_n 0, 1) := by decide +kernel
theorem dX6_set_1 : decode cX6_set 1 = .ok (.iload_n 1, 1) := by decide +kernel
theorem dX6_set_2 : decode cX6_set 2 = .ok (.invokevirtual 78, 3) := by decide +kernel
theorem dX6_set_5 : decode cX6_set 5 = .ok (.istore 5, 2) := by decide +kernel
theorem dX6_set_7 : decode cX6_set 7 = .ok (.iload 5, 2) := by decide +kernel
theorem dX6_set_9 : decode cX6_set 9 = .ok (.ifCond .eq 10, 3) := by decide +kernel
theorem dX6_set_12 : decode cX6_set 12 = .ok (.aload_n 0, 1) := by decide +kernel
theorem dX6_set_13 : decode cX6_set 13 = .ok (.iload 5, 2) := by decide +kernel
theorem dX6_set_15 : decode cX6_set 15 = .ok (.invokevirtual 66, 3) := by decide +kernel
theorem dX6_set_18 : decode cX6_set 18 = .ok (.ireturn, 1) := by decide +kernel
theorem dX6_set_19 : decode cX6_set 19 = .ok (.aload_n 0, 1) := by decide +kernel
theorem dX6_set_20 : decode cX6_set 20 = .ok (.iload_n 1, 1) := by decide +kernel
theorem dX6_set_21 : decode cX6_set 21 = .ok (.invokevirtual 70, 3) := by decide +kernel
theorem dX6_set_24 : decode cX6_set 24 = .ok (.iload_n 2, 1) := by decide +kernel
theorem dX6_set_25 : decode cX6_set 25 = .ok (.invokevirtual 81, 3) := by decide +kernel
theorem dX6_set_28 : decode cX6_set 28 = .ok (.ifCond .ne 10, 3) := by decide +kernel
theorem dX6_set_31 : decode cX6_set 31 = .ok (.aload_n 0, 1) := by decide +kernel
theorem dX6_set_32 : decode cX6_set 32 = .ok (.bipush (-5), 2) := by decide +kernel
theorem dX6_set_34 : decode cX6_set 34 = .ok (.invokevirtual 66, 3) := by decide +kernel
theorem dX6_set_37 : decode cX6_set 37 = .ok (.ireturn, 1) := by decide +kernel
theorem dX6_set_38 : decode cX6_set 38 = .ok (.aload_n 0, 1) := by decide +kernel
theorem dX6_set_39 : decode cX6_set 39 = .ok (.iload_n 1, 1) := by decide +kernel
theorem dX6_set_40 : decode cX6_set 40 = .ok (.invokevirtual 70, 3) := by decide +kernel
theorem dX6_set_43 : decode cX6_set 43 = .ok (.iload_n 2, 1) := by decide +kernel
theorem dX6_set_44 : decode cX6_set 44 = .ok (.lload_n 3, 1) := by decide +kernel
theorem dX6_set_45 : decode cX6_set 45 = .ok (.invokevirtual 84, 3) := by decide +kernel
theorem dX6_set_48 : decode cX6_set 48 = .ok (.iconst 1, 1) := by decide +kernel
theorem dX6_set_49 : decode cX6_set 49 = .ok (.ireturn, 1) := by decide +kernel
theorem dX6_copy_0 : decode cX6_copy 0 = .ok (.aload_n 0, 1) := by decide +kernel
theorem dX6_copy_1 : decode cX6_copy 1 = .ok (.iload_n 1, 1) := by decide +kernel
theorem dX6_copy_2 : decode cX6_copy 2 = .ok (.invokevirtual 62, 3) := by decide +kernel
theorem dX6_copy_5 : decode cX6_copy 5 = .ok (.ifCond .eq 11, 3) := by decide +kernel
theorem dX6_copy_8 : decode cX6_copy 8 = .ok (.aload_n 0, 1) := by decide +kernel
theorem dX6_copy_9 : decode cX6_copy 9 = .ok (.iload_n 2, 1) := by decide +kernel
theorem dX6_copy_10 : decode cX6_copy 10 = .ok (.invokevirtual 62, 3) := by decide +kernel
theorem dX6_copy_13 : decode cX6_copy 13 = .ok (.ifCond .ne 9, 3) := by decide +kernel
theorem dX6_copy_16 : decode cX6_copy 16 = .ok (.aload_n 0, 1) := by decide +kernel
theorem dX6_copy_17 : decode cX6_copy 17 = .ok (.iconst (-1), 1) := by decide +kernel
theorem dX6_copy_18 : decode cX6_copy 18 = .ok (.invokevirtual 66, 3) := by decide +kernel
theorem dX6_copy_21 : decode cX6_copy 21 = .ok (.ireturn, 1) := by decide +kernel
theorem dX6_copy_22 : decode cX6_copy 22 = .ok (.aload_n 0, 1) := by decide +kernel
theorem dX6_copy_23 : decode cX6_copy 23 = .ok (.iload_n 1, 1) := by decide +kernel
theorem dX6_copy_24 : decode cX6_copy 24 = .ok (.invokevirtual 70, 3) := by decide +kernel
theorem dX6_copy_27 : decode cX6_copy 27 = .ok (.astore 6, 2) := by decide +kernel
theorem dX6_copy_29 : decode cX6_copy 29 = .ok (.aload_n 0, 1) := by decide +kernel
theorem dX6_copy_30 : decode cX6_copy 30 = .ok (.iload_n 2, 1) := by decide +kernel
theorem dX6_copy_31 : decode cX6_copy 31 = .ok (.invokevirtual 70, 3) := by decide +kernel
theorem dX6_copy_34 : decode cX6_copy 34 = .ok (.astore 7, 2) := by decide +kernel
theorem dX6_copy_36 : decode cX6_copy 36 = .ok (.aload 6, 2) := by decide +kernel
theorem dX6_copy_38 : decode cX6_copy 38 = .ok (.invokevirtual 88, 3) := by decide +kernel
theorem dX6_copy_41 : decode cX6_copy 41 = .ok (.ifCond .eq 15, 3) := by decide +kernel
theorem dX6_copy_44 : decode cX6_copy 44 = .ok (.aload 7, 2) := by decide +kernel
theorem dX6_copy_46 : decode cX6_copy 46 = .ok (.invokevirtual 88, 3) := by decide +kernel
theorem dX6_copy_49 : decode cX6_copy 49 = .ok (.ifCond .eq 7, 3) := by decide +kernel
theorem dX6_copy_52 : decode cX6_copy 52 = .ok (.iconst 1, 1) := by decide +kernel
theorem dX6_copy_53 : decode cX6_copy 53 = .ok (.goto 4, 3) := by decide +kernel
theorem dX6_copy_56 : decode cX6_copy 56 = .ok (.iconst 0, 1) := by decide +kernel
theorem dX6_copy_57 : decode cX6_copy 57 = .ok (.istore 8, 2) := by decide +kernel
theorem dX6_copy_59 : decode cX6_copy 59 = .ok (.aload 6, 2) := by decide +kernel
theorem dX6_copy_61 : decode cX6_copy 61 = .ok (.invokevirtual 92, 3) := by decide +kernel
theorem dX6_copy_64 : decode cX6_copy 64 = .ok (.ifCond .ne 29, 3) := by decide +kernel
theorem dX6_copy_67 : decode cX6_copy 67 = .ok (.aload 7, 2) := by decide +kernel
theorem dX6_copy_69 : decode cX6_copy 69 = .ok (.invokevirtual 92, 3) := by decide +kernel
theorem dX6_copy_72 : decode cX6_copy 72 = .ok (.ifCond .ne 21, 3) := by decide +kernel
theorem dX6_copy_75 : decode cX6_copy 75 = .ok (.iload 8, 2) := by decide +kernel
theorem dX6_copy_77 : decode cX6_copy 77 = .ok (.ifCond .eq 23, 3) := by decide +kernel
theorem dX6_copy_80 : decode cX6_copy 80 = .ok (.aload 6, 2) := by decide +kernel
theorem dX6_copy_82 : decode cX6_copy 82 = .ok (.getfield 95, 3) := by decide +kernel
theorem dX6_copy_85 : decode cX6_copy 85 = .ok (.aload 7, 2) := by decide +kernel
theorem dX6_copy_87 : decode cX6_copy 87 = .ok (.getfield 95, 3) := by decide +kernel
theorem dX6_copy_90 : decode cX6_copy 90 = .ok (.if_icmp .eq 10, 3) := by decide +kernel
theorem dX6_copy_93 : decode cX6_copy 93 = .ok (.aload_n 0, 1) := by decide +kernel
theorem dX6_copy_94 : decode cX6_copy 94 = .ok (.bipush (-2), 2) := by decide +kernel
theorem dX6_copy_96 : decode cX6_copy 96 = .ok (.invokevirtual 66, 3) := by decide +kernel
theorem dX6_copy_99 : decode cX6_copy 99 = .ok (.ireturn, 1) := by decide +kernel
theorem dX6_copy_100 : decode cX6_copy 100 = .ok (.iload 8, 2) := by decide +kernel
theorem dX6_copy_102 : decode cX6_copy 102 = .ok (.ifCond .ne 10, 3) := by decide +kernel
theorem dX6_copy_105 : decode cX6_copy 105 = .ok (.aload_n 0, 1) := by decide +kernel
theorem dX6_copy_106 : decode cX6_copy 106 = .ok (.bipush (-3), 2) := by decide +kernel
theorem dX6_copy_108 : decode cX6_copy 108 = .ok (.invokevirtual 66, 3) := by decide +kernel
theorem dX6_copy_111 : decode cX6_copy 111 = .ok (.ireturn, 1) := by decide +kernel
theorem dX6_copy_112 : decode cX6_copy 112 = .ok (.iload 5, 2) := by decide +kernel
theorem dX6_copy_114 : decode cX6_copy 114 = .ok (.ifCond .ge 10, 3) := by decide +kernel
theorem dX6_copy_117 : decode cX6_copy 117 = .ok (.aload_n 0, 1) := by decide +kernel
theorem dX6_copy_118 : decode cX6_copy 118 = .ok (.bipush (-4), 2) := by decide +kernel
theorem dX6_copy_120 : decode cX6_copy 120 = .ok (.invokevirtual 66, 3) := by decide +kernel
theorem dX6_copy_123 : decode cX6_copy 123 = .ok (.ireturn, 1) := by decide +kernel
theorem dX6_copy_124 : decode cX6_copy 124 = .ok (.aload 6, 2) := by decide +kernel
theorem dX6_copy_126 : decode cX6_copy 126 = .ok (.iload_n 3, 1) := by decide +kernel
theorem dX6_copy_127 : decode cX6_copy 127 = .ok (.iload 5, 2) := by decide +kernel
theorem dX6_copy_129 : decode cX6_copy 129 = .ok (.invokevirtual 98, 3) := by decide +kernel
theorem dX6_copy_132 : decode cX6_copy 132 = .ok (.ifCond .eq 15, 3) := by decide +kernel
theorem dX6_copy_135 : decode cX6_copy 135 = .ok (.aload 7, 2) := by decide +kernel
theorem dX6_copy_137 : decode cX6_copy 137 = .ok (.iload 4, 2) := by decide +kernel
theorem dX6_copy_139 : decode cX6_copy 139 = .ok (.iload 5, 2) := by decide +kernel
theorem dX6_copy_141 : decode cX6_copy 141 = .ok (.invokevirtual 98, 3) := by decide +kernel
theorem dX6_copy_144 : decode cX6_copy 144 = .ok (.ifCond .ne 10, 3) := by decide +kernel
theorem dX6_copy_147 : decode cX6_copy 147 = .ok (.aload_n 0, 1) := by decide +kernel
theorem dX6_copy_148 : decode cX6_copy 148 = .ok (.bipush (-5), 2) := by decide +kernel
theorem dX6_copy_150 : decode cX6_copy 150 = .ok (.invokevirtual 66, 3) := by decide +kernel
theorem dX6_copy_153 : decode cX6_copy 153 = .ok (.ireturn, 1) := by decide +kernel
theorem dX6_copy_154 : decode cX6_copy 154 = .ok (.aload 6, 2) := by decide +kernel
theorem dX6_copy_156 : decode cX6_copy 156 = .ok (.getfield 102, 3) := by decide +kernel
theorem dX6_copy_159 : decode cX6_copy 159 = .ok (.iload_n 3, 1) := by decide +kernel
theorem dX6_copy_160 : decode cX6_copy 160 = .ok (.aload 7, 2) := by decide +kernel
theorem dX6_copy_162 : decode cX6_copy 162 = .ok (.getfield 102, 3) := by decide +kernel
theorem dX6_copy_165 : decode cX6_copy 165 = .ok (.iload 4, 2) := by decide +kernel
theorem dX6_copy_167 : decode cX6_copy 167 = .ok (.iload 5, 2) := by decide +kernel
theorem dX6_copy_169 : decode cX6_copy 169 = .ok (.invokestatic 106, 3) := by decide +kernel
theorem dX6_copy_172 : decode cX6_copy 172 = .ok (.iconst 1, 1) := by decide +kernel
theorem dX6_copy_173 : decode cX6_copy 173 = .ok (.ireturn, 1) := by decide +kernel
theorem dX6_element_0 : decode cX6_element 0 = .ok (.aload_n 0, 1) := by decide +kernel
theorem dX6_element_1 : decode cX6_element 1 = .ok (.iload_n 1, 1) := by decide +kernel
theorem dX6_element_2 : decode cX6_element 2 = .ok (.invokevirtual 70, 3) := by decide +kernel
theorem dX6_element_5 : decode cX6_element 5 = .ok (.iload_n 2, 1) := by decide +kernel
theorem dX6_element_6 : decode cX6_element 6 = .ok (.invokevirtual 112, 3) := by decide +kernel
theorem dX6_element_9 : decode cX6_element 9 = .ok (.lreturn, 1) := by decide +kernel
theorem dX6_show_0 : decode cX6_show 0 = .ok (.aload_n 0, 1) := by decide +kernel
theorem dX6_show_1 : decode cX6_show 1 = .ok (.iload_n 1, 1) := by decide +kernel
theorem dX6_show_2 : decode cX6_show 2 = .ok (.invokevirtual 62, 3) := by decide +kernel
theorem dX6_show_5 : decode cX6_show 5 = .ok (.ifCond .eq 19, 3) := by decide +kernel
theorem dX6_show_8 : decode cX6_show 8 = .ok (.iload_n 2, 1) := by decide +kernel
theorem dX6_show_9 : decode cX6_show 9 = .ok (.iconst (-1), 1) := by decide +kernel
theorem dX6_show_10 : decode cX6_show 10 = .ok (.if_icmp .eq 20, 3) := by decide +kernel
theorem dX6_show_13 : decode cX6_show 13 = .ok (.aload_n 0, 1) := by decide +kernel
theorem dX6_show_14 : decode cX6_show 14 = .ok (.getfield 10, 3) := by decide +kernel
theorem dX6_show_17 : decode cX6_show 17 = .ok (.iload_n 2, 1) := by decide +kernel
theorem dX6_show_18 : decode cX6_show 18 = .ok (.invokevirtual 116, 3) := by decide +kernel
theorem dX6_show_21 : decode cX6_show 21 = .ok (.ifCond .ne 9, 3) := by decide +kernel
theorem dX6_show_24 : decode cX6_show 24 = .ok (.aload_n 0, 1) := by decide +kernel
theorem dX6_show_25 : decode cX6_show 25 = .ok (.iconst (-1), 1) := by decide +kernel
theorem dX6_show_26 : decode cX6_show 26 = .ok (.invokevirtual 66, 3) := by decide +kernel
theorem dX6_show_29 : decode cX6_show 29 = .ok (.ireturn, 1) := by decide +kernel
theorem dX6_show_30 : decode cX6_show 30 = .ok (.aload_n 0, 1) := by decide +kernel
theorem dX6_show_31 : decode cX6_show 31 = .ok (.iload_n 1, 1) := by decide +kernel
theorem dX6_show_32 : decode cX6_show 32 = .ok (.invokevirtual 70, 3) := by decide +kernel
theorem dX6_show_35 : decode cX6_show 35 = .ok (.iload_n 2, 1) := by decide +kernel
theorem dX6_show_36 : decode cX6_show 36 = .ok (.invokevirtual 119, 3) := by decide +kernel
theorem dX6_show_39 : decode cX6_show 39 = .ok (.iload_n 2, 1) := by decide +kernel
theorem dX6_show_40 : decode cX6_show 40 = .ok (.iconst (-1), 1) := by decide +kernel
theorem dX6_show_41 : decode cX6_show 41 = .ok (.if_icmp .ne 7, 3) := by decide +kernel
theorem dX6_show_44 : decode cX6_show 44 = .ok (.iconst 0, 1) := by decide +kernel
theorem dX6_show_45 : decode cX6_show 45 = .ok (.goto 4, 3) := by decide +kernel
theorem dX6_show_48 : decode cX6_show 48 = .ok (.iconst 1, 1) := by decide +kernel
theorem dX6_show_49 : decode cX6_show 49 = .ok (.ireturn, 1) := by decide +kernel
theorem dX6_holds_0 : decode cX6_holds 0 = .ok (.aload_n 0, 1) := by decide +kernel
theorem dX6_holds_1 : decode cX6_holds 1 = .ok (.iload_n 1, 1) := by decide +kernel
theorem dX6_holds_2 : decode cX6_holds 2 = .ok (.invokevirtual 70, 3) := by decide +kernel
theorem dX6_holds_5 : decode cX6_holds 5 = .ok (.astore_n 2, 1) := by decide +kernel
theorem dX6_holds_6 : decode cX6_holds 6 = .ok (.aload_n 2, 1) := by decide +kernel
theorem dX6_holds_7 : decode cX6_holds 7 = .ok (.invokevirtual 88, 3) := by decide +kernel
theorem dX6_holds_10 : decode cX6_holds 10 = .ok (.ifCond .eq 13, 3) := by decide +kernel
theorem dX6_holds_13 : decode cX6_holds 13 = .ok (.bipush 100, 2) := by decide +kernel
theorem dX6_holds_15 : decode cX6_holds 15 = .ok (.aload_n 2, 1) := by decide +kernel
theorem dX6_holds_16 : decode cX6_holds 16 = .ok (.getfield 95, 3) := by decide +kernel
theorem dX6_holds_19 : decode cX6_holds 19 = .ok (.iadd, 1) := by decide +kernel
theorem dX6_holds_20 : decode cX6_holds 20 = .ok (.goto 7, 3) := by decide +kernel
theorem dX6_holds_23 : decode cX6_holds 23 = .ok (.aload_n 2, 1) := by decide +kernel
theorem dX6_holds_24 : decode cX6_holds 24 = .ok (.getfield 123, 3) := by decide +kernel
theorem dX6_holds_27 : decode cX6_holds 27 = .ok (.ireturn, 1) := by decide +kernel
theorem dX6_says_0 : decode cX6_says 0 = .ok (.aload_n 0, 1) := by decide +kernel
theorem dX6_says_1 : decode cX6_says 1 = .ok (.iload_n 1, 1) := by decide +kernel
theorem dX6_says_2 : decode cX6_says 2 = .ok (.invokevirtual 62, 3) := by decide +kernel
theorem dX6_says_5 : decode cX6_says 5 = .ok (.ifCond .eq 10, 3) := by decide +kernel
theorem dX6_says_8 : decode cX6_says 8 = .ok (.iload_n 2, 1) := by decide +kernel
theorem dX6_says_9 : decode cX6_says 9 = .ok (.invokestatic 126, 3) := by decide +kernel
theorem dX6_says_12 : decode cX6_says 12 = .ok (.ifCond .ne 9, 3) := by decide +kernel
theorem dX6_says_15 : decode cX6_says 15 = .ok (.aload_n 0, 1) := by decide +kernel
theorem dX6_says_16 : decode cX6_says 16 = .ok (.iconst (-1), 1) := by decide +kernel
theorem dX6_says_17 : decode cX6_says 17 = .ok (.invokevirtual 66, 3) := by decide +kernel
theorem dX6_says_20 : decode cX6_says 20 = .ok (.ireturn, 1) := by decide +kernel
theorem dX6_says_21 : decode cX6_says 21 = .ok (.aload_n 0, 1) := by decide +kernel
theorem dX6_says_22 : decode cX6_says 22 = .ok (.iload_n 1, 1) := by decide +kernel
theorem dX6_says_23 : decode cX6_says 23 = .ok (.invokevirtual 70, 3) := by decide +kernel
theorem dX6_says_26 : decode cX6_says 26 = .ok (.astore_n 3, 1) := by decide +kernel
theorem dX6_says_27 : decode cX6_says 27 = .ok (.aload_n 0, 1) := by decide +kernel
theorem dX6_says_28 : decode cX6_says 28 = .ok (.getfield 10, 3) := by decide +kernel
theorem dX6_says_31 : decode cX6_says 31 = .ok (.aload_n 3, 1) := by decide +kernel
theorem dX6_says_32 : decode cX6_says 32 = .ok (.getfield 123, 3) := by decide +kernel
theorem dX6_says_35 : decode cX6_says 35 = .ok (.invokevirtual 129, 3) := by decide +kernel
theorem dX6_says_38 : decode cX6_says 38 = .ok (.astore 4, 2) := by decide +kernel
theorem dX6_says_40 : decode cX6_says 40 = .ok (.aload_n 3, 1) := by decide +kernel
theorem dX6_says_41 : decode cX6_says 41 = .ok (.invokevirtual 88, 3) := by decide +kernel
theorem dX6_says_44 : decode cX6_says 44 = .ok (.ifCond .ne 22, 3) := by decide +kernel
theorem dX6_says_47 : decode cX6_says 47 = .ok (.aload_n 3, 1) := by decide +kernel
theorem dX6_says_48 : decode cX6_says 48 = .ok (.invokevirtual 92, 3) := by decide +kernel
theorem dX6_says_51 : decode cX6_says 51 = .ok (.ifCond .eq 22, 3) := by decide +kernel
theorem dX6_says_54 : decode cX6_says 54 = .ok (.aload 4, 2) := by decide +kernel
theorem dX6_says_56 : decode cX6_says 56 = .ok (.getfield 133, 3) := by decide +kernel
theorem dX6_says_59 : decode cX6_says 59 = .ok (.iload_n 2, 1) := by decide +kernel
theorem dX6_says_60 : decode cX6_says 60 = .ok (.invokestatic 138, 3) := by decide +kernel
theorem dX6_says_63 : decode cX6_says 63 = .ok (.ifCond .ne 10, 3) := by decide +kernel
theorem dX6_says_66 : decode cX6_says 66 = .ok (.aload_n 0, 1) := by decide +kernel
theorem dX6_says_67 : decode cX6_says 67 = .ok (.bipush (-2), 2) := by decide +kernel
theorem dX6_says_69 : decode cX6_says 69 = .ok (.invokevirtual 66, 3) := by decide +kernel
theorem dX6_says_72 : decode cX6_says 72 = .ok (.ireturn, 1) := by decide +kernel
theorem dX6_says_73 : decode cX6_says 73 = .ok (.aload_n 3, 1) := by decide +kernel
theorem dX6_says_74 : decode cX6_says 74 = .ok (.invokevirtual 92, 3) := by decide +kernel
theorem dX6_says_77 : decode cX6_says 77 = .ok (.ifCond .eq 12, 3) := by decide +kernel
theorem dX6_says_80 : decode cX6_says 80 = .ok (.aload 4, 2) := by decide +kernel
theorem dX6_says_82 : decode cX6_says 82 = .ok (.iload_n 2, 1) := by decide +kernel
theorem dX6_says_83 : decode cX6_says 83 = .ok (.invokevirtual 141, 3) := by decide +kernel
theorem dX6_says_86 : decode cX6_says 86 = .ok (.goto 9, 3) := by decide +kernel
theorem dX6_says_89 : decode cX6_says 89 = .ok (.aload_n 0, 1) := by decide +kernel
theorem dX6_says_90 : decode cX6_says 90 = .ok (.bipush (-3), 2) := by decide +kernel
theorem dX6_says_92 : decode cX6_says 92 = .ok (.invokevirtual 66, 3) := by decide +kernel
theorem dX6_says_95 : decode cX6_says 95 = .ok (.ireturn, 1) := by decide +kernel
theorem dX6_person_0 : decode cX6_person 0 = .ok (.iload_n 1, 1) := by decide +kernel
theorem dX6_person_1 : decode cX6_person 1 = .ok (.invokestatic 126, 3) := by decide +kernel
theorem dX6_person_4 : decode cX6_person 4 = .ok (.ifCond .ne 9, 3) := by decide +kernel
theorem dX6_person_7 : decode cX6_person 7 = .ok (.aload_n 0, 1) := by decide +kernel
theorem dX6_person_8 : decode cX6_person 8 = .ok (.iconst (-1), 1) := by decide +kernel
theorem dX6_person_9 : decode cX6_person 9 = .ok (.invokevirtual 66, 3) := by decide +kernel
theorem dX6_person_12 : decode cX6_person 12 = .ok (.ireturn, 1) := by decide +kernel
theorem dX6_person_13 : decode cX6_person 13 = .ok (.iload_n 2, 1) := by decide +kernel
theorem dX6_person_14 : decode cX6_person 14 = .ok (.ifCond .lt 19, 3) := by decide +kernel
theorem dX6_person_17 : decode cX6_person 17 = .ok (.iload_n 2, 1) := by decide +kernel
theorem dX6_person_18 : decode cX6_person 18 = .ok (.bipush 9, 2) := by decide +kernel
theorem dX6_person_20 : decode cX6_person 20 = .ok (.if_icmp .gt 13, 3) := by decide +kernel
theorem dX6_person_23 : decode cX6_person 23 = .ok (.iload_n 3, 1) := by decide +kernel
theorem dX6_person_24 : decode cX6_person 24 = .ok (.ifCond .lt 9, 3) := by decide +kernel
theorem dX6_person_27 : decode cX6_person 27 = .ok (.iload_n 3, 1) := by decide +kernel
theorem dX6_person_28 : decode cX6_person 28 = .ok (.bipush 20, 2) := by decide +kernel
theorem dX6_person_30 : decode cX6_person 30 = .ok (.if_icmp .le 10, 3) := by decide +kernel
theorem dX6_person_33 : decode cX6_person 33 = .ok (.aload_n 0, 1) := by decide +kernel
theorem dX6_person_34 : decode cX6_person 34 = .ok (.bipush (-6), 2) := by decide +kernel
theorem dX6_person_36 : decode cX6_person 36 = .ok (.invokevirtual 66, 3) := by decide +kernel
theorem dX6_person_39 : decode cX6_person 39 = .ok (.ireturn, 1) := by decide +kernel
theorem dX6_person_40 : decode cX6_person 40 = .ok (.aload_n 0, 1) := by decide +kernel
theorem dX6_person_41 : decode cX6_person 41 = .ok (.getfield 10, 3) := by decide +kernel
theorem dX6_person_44 : decode cX6_person 44 = .ok (.invokevirtual 144, 3) := by decide +kernel
theorem dX6_person_47 : decode cX6_person 47 = .ok (.ifCond .eq 10, 3) := by decide +kernel
theorem dX6_person_50 : decode cX6_person 50 = .ok (.aload_n 0, 1) := by decide +kernel
theorem dX6_person_51 : decode cX6_person 51 = .ok (.bipush (-7), 2) := by decide +kernel
theorem dX6_person_53 : decode cX6_person 53 = .ok (.invokevirtual 66, 3) := by decide +kernel
theorem dX6_person_56 : decode cX6_person 56 = .ok (.ireturn, 1) := by decide +kernel
theorem dX6_person_57 : decode cX6_person 57 = .ok (.aload_n 0, 1) := by decide +kernel
theorem dX6_person_58 : decode cX6_person 58 = .ok (.getfield 10, 3) := by decide +kernel
theorem dX6_person_61 : decode cX6_person 61 = .ok (.iload_n 1, 1) := by decide +kernel
theorem dX6_person_62 : decode cX6_person 62 = .ok (.iload_n 2, 1) := by decide +kernel
theorem dX6_person_63 : decode cX6_person 63 = .ok (.iload_n 3, 1) := by decide +kernel
theorem dX6_person_64 : decode cX6_person 64 = .ok (.iload 4, 2) := by decide +kernel
theorem dX6_person_66 : decode cX6_person 66 = .ok (.invokevirtual 147, 3) := by decide +kernel
theorem dX6_person_69 : decode cX6_person 69 = .ok (.ireturn, 1) := by decide +kernel
theorem dX6_friend_0 : decode cX6_friend 0 = .ok (.aload_n 0, 1) := by decide +kernel
theorem dX6_friend_1 : decode cX6_friend 1 = .ok (.getfield 10, 3) := by decide +kernel
theorem dX6_friend_4 : decode cX6_friend 4 = .ok (.iload_n 1, 1) := by decide +kernel
theorem dX6_friend_5 : decode cX6_friend 5 = .ok (.invokevirtual 116, 3) := by decide +kernel
theorem dX6_friend_8 : decode cX6_friend 8 = .ok (.ifCond .eq 19, 3) := by decide +kernel
theorem dX6_friend_11 : decode cX6_friend 11 = .ok (.iload_n 2, 1) := by decide +kernel
theorem dX6_friend_12 : decode cX6_friend 12 = .ok (.iconst (-1), 1) := by decide +kernel
theorem dX6_friend_13 : decode cX6_friend 13 = .ok (.if_icmp .eq 23, 3) := by decide +kernel
theorem dX6_friend_16 : decode cX6_friend 16 = .ok (.aload_n 0, 1) := by decide +kernel
theorem dX6_friend_17 : decode cX6_friend 17 = .ok (.getfield 10, 3) := by decide +kernel
theorem dX6_friend_20 : decode cX6_friend 20 = .ok (.iload_n 2, 1) := by decide +kernel
theorem dX6_friend_21 : decode cX6_friend 21 = .ok (.invokevirtual 116, 3) := by decide +kernel
theorem dX6_friend_24 : decode cX6_friend 24 = .ok (.ifCond .ne 12, 3) := by decide +kernel
theorem dX6_friend_27 : decode cX6_friend 27 = .ok (.aload_n 0, 1) := by decide +kernel
theorem dX6_friend_28 : decode cX6_friend 28 = .ok (.iconst (-1), 1) := by decide +kernel
theorem dX6_friend_29 : decode cX6_friend 29 = .ok (.invokevirtual 66, 3) := by decide +kernel
theorem dX6_friend_32 : decode cX6_friend 32 = .ok (.bipush 10, 2) := by decide +kernel
theorem dX6_friend_34 : decode cX6_friend 34 = .ok (.isub, 1) := by decide +kernel
theorem dX6_friend_35 : decode cX6_friend 35 = .ok (.ireturn, 1) := by decide +kernel
theorem dX6_friend_36 : decode cX6_friend 36 = .ok (.iload_n 1, 1) := by decide +kernel
theorem dX6_friend_37 : decode cX6_friend 37 = .ok (.iload_n 2, 1) := by decide +kernel
theorem dX6_friend_38 : decode cX6_friend 38 = .ok (.if_icmp .ne 13, 3) := by decide +kernel
theorem dX6_friend_41 : decode cX6_friend 41 = .ok (.aload_n 0, 1) := by decide +kernel
theorem dX6_friend_42 : decode cX6_friend 42 = .ok (.bipush (-6), 2) := by decide +kernel
theorem dX6_friend_44 : decode cX6_friend 44 = .ok (.invokevirtual 66, 3) := by decide +kernel
theorem dX6_friend_47 : decode cX6_friend 47 = .ok (.bipush 10, 2) := by decide +kernel
theorem dX6_friend_49 : decode cX6_friend 49 = .ok (.isub, 1) := by decide +kernel
theorem dX6_friend_50 : decode cX6_friend 50 = .ok (.ireturn, 1) := by decide +kernel
theorem dX6_friend_51 : decode cX6_friend 51 = .ok (.aload_n 0, 1) := by decide +kernel
theorem dX6_friend_52 : decode cX6_friend 52 = .ok (.getfield 10, 3) := by decide +kernel
theorem dX6_friend_55 : decode cX6_friend 55 = .ok (.iload_n 1, 1) := by decide +kernel
theorem dX6_friend_56 : decode cX6_friend 56 = .ok (.invokevirtual 129, 3) := by decide +kernel
theorem dX6_friend_59 : decode cX6_friend 59 = .ok (.getfield 151, 3) := by decide +kernel
theorem dX6_friend_62 : decode cX6_friend 62 = .ok (.istore_n 3, 1) := by decide +kernel
theorem dX6_friend_63 : decode cX6_friend 63 = .ok (.aload_n 0, 1) := by decide +kernel
theorem dX6_friend_64 : decode cX6_friend 64 = .ok (.getfield 10, 3) := by decide +kernel
theorem dX6_friend_67 : decode cX6_friend 67 = .ok (.iload_n 1, 1) := by decide +kernel
theorem dX6_friend_68 : decode cX6_friend 68 = .ok (.invokevirtual 129, 3) := by decide +kernel
theorem dX6_friend_71 : decode cX6_friend 71 = .ok (.iload_n 2, 1) := by decide +kernel
theorem dX6_friend_72 : decode cX6_friend 72 = .ok (.putfield 151, 3) := by decide +kernel
theorem dX6_friend_75 : decode cX6_friend 75 = .ok (.iload_n 3, 1) := by decide +kernel
theorem dX6_friend_76 : decode cX6_friend 76 = .ok (.ireturn, 1) := by decide +kernel
theorem dX6_ask_0 : decode cX6_ask 0 = .ok (.iload_n 1, 1) := by decide +kernel
theorem dX6_ask_1 : decode cX6_ask 1 = .ok (.ifCond .lt 24, 3) := by decide +kernel
theorem dX6_ask_4 : decode cX6_ask 4 = .ok (.iload_n 1, 1) := by decide +kernel
theorem dX6_ask_5 : decode cX6_ask 5 = .ok (.iconst 3, 1) := by decide +kernel
theorem dX6_ask_6 : decode cX6_ask 6 = .ok (.if_icmp .gt 19, 3) := by decide +kernel
theorem dX6_ask_9 : decode cX6_ask 9 = .ok (.iload_n 2, 1) := by decide +kernel
theorem dX6_ask_10 : decode cX6_ask 10 = .ok (.iload_n 1, 1) := by decide +kernel
theorem dX6_ask_11 : decode cX6_ask 11 = .ok (.invokestatic 154, 3) := by decide +kernel
theorem dX6_ask_14 : decode cX6_ask 14 = .ok (.if_icmp .lt 11, 3) := by decide +kernel
theorem dX6_ask_17 : decode cX6_ask 17 = .ok (.iload_n 2, 1) := by decide +kernel
theorem dX6_ask_18 : decode cX6_ask 18 = .ok (.iload_n 1, 1) := by decide +kernel
theorem dX6_ask_19 : decode cX6_ask 19 = .ok (.invokestatic 157, 3) := by decide +kernel
theorem dX6_ask_22 : decode cX6_ask 22 = .ok (.if_icmp .le 10, 3) := by decide +kernel
theorem dX6_ask_25 : decode cX6_ask 25 = .ok (.aload_n 0, 1) := by decide +kernel
theorem dX6_ask_26 : decode cX6_ask 26 = .ok (.bipush (-6), 2) := by decide +kernel
theorem dX6_ask_28 : decode cX6_ask 28 = .ok (.invokevirtual 66, 3) := by decide +kernel
theorem dX6_ask_31 : decode cX6_ask 31 = .ok (.ireturn, 1) := by decide +kernel
theorem dX6_ask_32 : decode cX6_ask 32 = .ok (.aload_n 0, 1) := by decide +kernel
theorem dX6_ask_33 : decode cX6_ask 33 = .ok (.getfield 10, 3) := by decide +kernel
theorem dX6_ask_36 : decode cX6_ask 36 = .ok (.iload_n 1, 1) := by decide +kernel
theorem dX6_ask_37 : decode cX6_ask 37 = .ok (.invokevirtual 160, 3) := by decide +kernel
theorem dX6_ask_40 : decode cX6_ask 40 = .ok (.istore_n 3, 1) := by decide +kernel
theorem dX6_ask_41 : decode cX6_ask 41 = .ok (.aload_n 0, 1) := by decide +kernel
theorem dX6_ask_42 : decode cX6_ask 42 = .ok (.getfield 10, 3) := by decide +kernel
theorem dX6_ask_45 : decode cX6_ask 45 = .ok (.iload_n 1, 1) := by decide +kernel
theorem dX6_ask_46 : decode cX6_ask 46 = .ok (.iload_n 2, 1) := by decide +kernel
theorem dX6_ask_47 : decode cX6_ask 47 = .ok (.invokevirtual 163, 3) := by decide +kernel
theorem dX6_ask_50 : decode cX6_ask 50 = .ok (.iload_n 3, 1) := by decide +kernel
theorem dX6_ask_51 : decode cX6_ask 51 = .ok (.ireturn, 1) := by decide +kernel
theorem dX6_go_0 : decode cX6_go 0 = .ok (.aload_n 0, 1) := by decide +kernel
theorem dX6_go_1 : decode cX6_go 1 = .ok (.getfield 10, 3) := by decide +kernel
theorem dX6_go_4 : decode cX6_go 4 = .ok (.iload_n 1, 1) := by decide +kernel
theorem dX6_go_5 : decode cX6_go 5 = .ok (.invokevirtual 116, 3) := by decide +kernel
theorem dX6_go_8 : decode cX6_go 8 = .ok (.ifCond .ne 9, 3) := by decide +kernel
theorem dX6_go_11 : decode cX6_go 11 = .ok (.aload_n 0, 1) := by decide +kernel
theorem dX6_go_12 : decode cX6_go 12 = .ok (.iconst (-1), 1) := by decide +kernel
theorem dX6_go_13 : decode cX6_go 13 = .ok (.invokevirtual 66, 3) := by decide +kernel
theorem dX6_go_16 : decode cX6_go 16 = .ok (.ireturn, 1) := by decide +kernel
theorem dX6_go_17 : decode cX6_go 17 = .ok (.aload_n 0, 1) := by decide +kernel
theorem dX6_go_18 : decode cX6_go 18 = .ok (.getfield 10, 3) := by decide +kernel
theorem dX6_go_21 : decode cX6_go 21 = .ok (.iload_n 1, 1) := by decide +kernel
theorem dX6_go_22 : decode cX6_go 22 = .ok (.invokevirtual 129, 3) := by decide +kernel
theorem dX6_go_25 : decode cX6_go 25 = .ok (.astore_n 3, 1) := by decide +kernel
theorem dX6_go_26 : decode cX6_go 26 = .ok (.aload_n 3, 1) := by decide +kernel
theorem dX6_go_27 : decode cX6_go 27 = .ok (.getfield 166, 3) := by decide +kernel
theorem dX6_go_30 : decode cX6_go 30 = .ok (.ifCond .eq 7, 3) := by decide +kernel
theorem dX6_go_33 : decode cX6_go 33 = .ok (.iconst 1, 1) := by decide +kernel
theorem dX6_go_34 : decode cX6_go 34 = .ok (.goto 4, 3) := by decide +kernel
theorem dX6_go_37 : decode cX6_go 37 = .ok (.iconst 0, 1) := by decide +kernel
theorem dX6_go_38 : decode cX6_go 38 = .ok (.istore 4, 2) := by decide +kernel
theorem dX6_go_40 : decode cX6_go 40 = .ok (.aload_n 3, 1) := by decide +kernel
theorem dX6_go_41 : decode cX6_go 41 = .ok (.iload_n 2, 1) := by decide +kernel
theorem dX6_go_42 : decode cX6_go 42 = .ok (.putfield 166, 3) := by decide +kernel
theorem dX6_go_45 : decode cX6_go 45 = .ok (.iload_n 2, 1) := by decide +kernel
theorem dX6_go_46 : decode cX6_go 46 = .ok (.ifCond .ne 8, 3) := by decide +kernel
theorem dX6_go_49 : decode cX6_go 49 = .ok (.aload_n 3, 1) := by decide +kernel
theorem dX6_go_50 : decode cX6_go 50 = .ok (.iconst 0, 1) := by decide +kernel
theorem dX6_go_51 : decode cX6_go 51 = .ok (.putfield 170, 3) := by decide +kernel
theorem dX6_go_54 : decode cX6_go 54 = .ok (.iload 4, 2) := by decide +kernel
theorem dX6_go_56 : decode cX6_go 56 = .ok (.ireturn, 1) := by decide +kernel
theorem dX6_personOf_0 : decode cX6_personOf 0 = .ok (.aload_n 0, 1) := by decide +kernel
theorem dX6_personOf_1 : decode cX6_personOf 1 = .ok (.getfield 10, 3) := by decide +kernel
theorem dX6_personOf_4 : decode cX6_personOf 4 = .ok (.iload_n 1, 1) := by decide +kernel
theorem dX6_personOf_5 : decode cX6_personOf 5 = .ok (.invokevirtual 116, 3) := by decide +kernel
theorem dX6_personOf_8 : decode cX6_personOf 8 = .ok (.ifCond .eq 13, 3) := by decide +kernel
theorem dX6_personOf_11 : decode cX6_personOf 11 = .ok (.iload_n 2, 1) := by decide +kernel
theorem dX6_personOf_12 : decode cX6_personOf 12 = .ok (.ifCond .lt 9, 3) := by decide +kernel
theorem dX6_personOf_15 : decode cX6_personOf 15 = .ok (.iload_n 2, 1) := by decide +kernel
theorem dX6_personOf_16 : decode cX6_personOf 16 = .ok (.bipush 7, 2) := by decide +kernel
theorem dX6_personOf_18 : decode cX6_personOf 18 = .ok (.if_icmp .le 10, 3) := by decide +kernel
theorem dX6_personOf_21 : decode cX6_personOf 21 = .ok (.aload_n 0, 1) := by decide +kernel
theorem dX6_personOf_22 : decode cX6_personOf 22 = .ok (.bipush (-5), 2) := by decide +kernel
theorem dX6_personOf_24 : decode cX6_personOf 24 = .ok (.invokevirtual 66, 3) := by decide +kernel
theorem dX6_personOf_27 : decode cX6_personOf 27 = .ok (.ireturn, 1) := by decide +kernel
theorem dX6_personOf_28 : decode cX6_personOf 28 = .ok (.aload_n 0, 1) := by decide +kernel
theorem dX6_personOf_29 : decode cX6_personOf 29 = .ok (.getfield 10, 3) := by decide +kernel
theorem dX6_personOf_32 : decode cX6_personOf 32 = .ok (.iload_n 1, 1) := by decide +kernel
theorem dX6_personOf_33 : decode cX6_personOf 33 = .ok (.invokevirtual 129, 3) := by decide +kernel
theorem dX6_personOf_36 : decode cX6_personOf 36 = .ok (.iload_n 2, 1) := by decide +kernel
theorem dX6_personOf_37 : decode cX6_personOf 37 = .ok (.invokevirtual 173, 3) := by decide +kernel
theorem dX6_personOf_40 : decode cX6_personOf 40 = .ok (.ireturn, 1) := by decide +kernel
theorem dX6_school_0 : decode cX6_school 0 = .ok (.aload_n 0, 1) := by decide +kernel
theorem dX6_school_1 : decode cX6_school 1 = .ok (.iload_n 1, 1) := by decide +kernel
theorem dX6_school_2 : decode cX6_school 2 = .ok (.invokevirtual 78, 3) := by decide +kernel
theorem dX6_school_5 : decode cX6_school 5 = .ok (.istore_n 2, 1) := by decide +kernel
theorem dX6_school_6 : decode cX6_school 6 = .ok (.iload_n 2, 1) := by decide +kernel
theorem dX6_school_7 : decode cX6_school 7 = .ok (.ifCond .eq 9, 3) := by decide +kernel
theorem dX6_school_10 : decode cX6_school 10 = .ok (.aload_n 0, 1) := by decide +kernel
theorem dX6_school_11 : decode cX6_school 11 = .ok (.iload_n 2, 1) := by decide +kernel
theorem dX6_school_12 : decode cX6_school 12 = .ok (.invokevirtual 66, 3) := by decide +kernel
theorem dX6_school_15 : decode cX6_school 15 = .ok (.ireturn, 1) := by decide +kernel
theorem dX6_school_16 : decode cX6_school 16 = .ok (.aload_n 0, 1) := by decide +kernel
theorem dX6_school_17 : decode cX6_school 17 = .ok (.getfield 43, 3) := by decide +kernel
theorem dX6_school_20 : decode cX6_school 20 = .ok (.aload_n 0, 1) := by decide +kernel
theorem dX6_school_21 : decode cX6_school 21 = .ok (.iload_n 1, 1) := by decide +kernel
theorem dX6_school_22 : decode cX6_school 22 = .ok (.invokevirtual 70, 3) := by decide +kernel
theorem dX6_school_25 : decode cX6_school 25 = .ok (.aload_n 0, 1) := by decide +kernel
theorem dX6_school_26 : decode cX6_school 26 = .ok (.getfield 10, 3) := by decide +kernel
theorem dX6_school_29 : decode cX6_school 29 = .ok (.invokevirtual 176, 3) := by decide +kernel
theorem dX6_school_32 : decode cX6_school 32 = .ok (.istore_n 3, 1) := by decide +kernel
theorem dX6_school_33 : decode cX6_school 33 = .ok (.aload_n 0, 1) := by decide +kernel
theorem dX6_school_34 : decode cX6_school 34 = .ok (.aload_n 0, 1) := by decide +kernel
theorem dX6_school_35 : decode cX6_school 35 = .ok (.getfield 43, 3) := by decide +kernel
theorem dX6_school_38 : decode cX6_school 38 = .ok (.getfield 180, 3) := by decide +kernel
theorem dX6_school_41 : decode cX6_school 41 = .ok (.putfield 58, 3) := by decide +kernel
theorem dX6_school_44 : decode cX6_school 44 = .ok (.aload_n 0, 1) := by decide +kernel
theorem dX6_school_45 : decode cX6_school 45 = .ok (.getfield 58, 3) := by decide +kernel
theorem dX6_school_48 : decode cX6_school 48 = .ok (.iconst (-1), 1) := by decide +kernel
theorem dX6_school_49 : decode cX6_school 49 = .ok (.if_icmp .eq 10, 3) := by decide +kernel
theorem dX6_school_52 : decode cX6_school 52 = .ok (.aload_n 0, 1) := by decide +kernel
theorem dX6_school_53 : decode cX6_school 53 = .ok (.bipush (-6), 2) := by decide +kernel
theorem dX6_school_55 : decode cX6_school 55 = .ok (.invokevirtual 66, 3) := by decide +kernel
theorem dX6_school_58 : decode cX6_school 58 = .ok (.ireturn, 1) := by decide +kernel
theorem dX6_school_59 : decode cX6_school 59 = .ok (.aload_n 0, 1) := by decide +kernel
theorem dX6_school_60 : decode cX6_school 60 = .ok (.getfield 10, 3) := by decide +kernel
theorem dX6_school_63 : decode cX6_school 63 = .ok (.aload_n 0, 1) := by decide +kernel
theorem dX6_school_64 : decode cX6_school 64 = .ok (.getfield 43, 3) := by decide +kernel
theorem dX6_school_67 : decode cX6_school 67 = .ok (.getfield 183, 3) := by decide +kernel
theorem dX6_school_70 : decode cX6_school 70 = .ok (.invokevirtual 186, 3) := by decide +kernel
theorem dX6_school_73 : decode cX6_school 73 = .ok (.iload_n 3, 1) := by decide +kernel
theorem dX6_school_74 : decode cX6_school 74 = .ok (.ireturn, 1) := by decide +kernel
theorem dX6_fault_0 : decode cX6_fault 0 = .ok (.aload_n 0, 1) := by decide +kernel
theorem dX6_fault_1 : decode cX6_fault 1 = .ok (.getfield 58, 3) := by decide +kernel
theorem dX6_fault_4 : decode cX6_fault 4 = .ok (.ireturn, 1) := by decide +kernel
theorem dX6_will_0 : decode cX6_will 0 = .ok (.aload_n 0, 1) := by decide +kernel
theorem dX6_will_1 : decode cX6_will 1 = .ok (.getfield 10, 3) := by decide +kernel
theorem dX6_will_4 : decode cX6_will 4 = .ok (.iload_n 1, 1) := by decide +kernel
theorem dX6_will_5 : decode cX6_will 5 = .ok (.invokevirtual 116, 3) := by decide +kernel
theorem dX6_will_8 : decode cX6_will 8 = .ok (.ifCond .ne 13, 3) := by decide +kernel
theorem dX6_will_11 : decode cX6_will 11 = .ok (.aload_n 0, 1) := by decide +kernel
theorem dX6_will_12 : decode cX6_will 12 = .ok (.iconst (-1), 1) := by decide +kernel
theorem dX6_will_13 : decode cX6_will 13 = .ok (.invokevirtual 66, 3) := by decide +kernel
theorem dX6_will_16 : decode cX6_will 16 = .ok (.sipush 1000, 3) := by decide +kernel
theorem dX6_will_19 : decode cX6_will 19 = .ok (.isub, 1) := by decide +kernel
theorem dX6_will_20 : decode cX6_will 20 = .ok (.ireturn, 1) := by decide +kernel
theorem dX6_will_21 : decode cX6_will 21 = .ok (.aload_n 0, 1) := by decide +kernel
theorem dX6_will_22 : decode cX6_will 22 = .ok (.getfield 10, 3) := by decide +kernel
theorem dX6_will_25 : decode cX6_will 25 = .ok (.iload_n 1, 1) := by decide +kernel
theorem dX6_will_26 : decode cX6_will 26 = .ok (.invokevirtual 190, 3) := by decide +kernel
theorem dX6_will_29 : decode cX6_will 29 = .ok (.ireturn, 1) := by decide +kernel
theorem dX6_tonight_0 : decode cX6_tonight 0 = .ok (.iload_n 1, 1) := by decide +kernel
theorem dX6_tonight_1 : decode cX6_tonight 1 = .ok (.ifCond .lt 8, 3) := by decide +kernel
theorem dX6_tonight_4 : decode cX6_tonight 4 = .ok (.iload_n 1, 1) := by decide +kernel
theorem dX6_tonight_5 : decode cX6_tonight 5 = .ok (.iconst 2, 1) := by decide +kernel
theorem dX6_tonight_6 : decode cX6_tonight 6 = .ok (.if_icmp .le 10, 3) := by decide +kernel
theorem dX6_tonight_9 : decode cX6_tonight 9 = .ok (.aload_n 0, 1) := by decide +kernel
theorem dX6_tonight_10 : decode cX6_tonight 10 = .ok (.bipush (-5), 2) := by decide +kernel
theorem dX6_tonight_12 : decode cX6_tonight 12 = .ok (.invokevirtual 66, 3) := by decide +kernel
theorem dX6_tonight_15 : decode cX6_tonight 15 = .ok (.ireturn, 1) := by decide +kernel
theorem dX6_tonight_16 : decode cX6_tonight 16 = .ok (.aload_n 0, 1) := by decide +kernel
theorem dX6_tonight_17 : decode cX6_tonight 17 = .ok (.getfield 10, 3) := by decide +kernel
theorem dX6_tonight_20 : decode cX6_tonight 20 = .ok (.iconst 0, 1) := by decide +kernel
theorem dX6_tonight_21 : decode cX6_tonight 21 = .ok (.invokevirtual 193, 3) := by decide +kernel
theorem dX6_tonight_24 : decode cX6_tonight 24 = .ok (.istore_n 2, 1) := by decide +kernel
theorem dX6_tonight_25 : decode cX6_tonight 25 = .ok (.aload_n 0, 1) := by decide +kernel
theorem dX6_tonight_26 : decode cX6_tonight 26 = .ok (.getfield 10, 3) := by decide +kernel
theorem dX6_tonight_29 : decode cX6_tonight 29 = .ok (.iload_n 2, 1) := by decide +kernel
theorem dX6_tonight_30 : decode cX6_tonight 30 = .ok (.invokevirtual 196, 3) := by decide +kernel
theorem dX6_tonight_33 : decode cX6_tonight 33 = .ok (.istore_n 3, 1) := by decide +kernel
theorem dX6_tonight_34 : decode cX6_tonight 34 = .ok (.iload_n 1, 1) := by decide +kernel
theorem dX6_tonight_35 : decode cX6_tonight 35 = .ok (.ifCond .ne 7, 3) := by decide +kernel
theorem dX6_tonight_38 : decode cX6_tonight 38 = .ok (.iload_n 2, 1) := by decide +kernel
theorem dX6_tonight_39 : decode cX6_tonight 39 = .ok (.goto 17, 3) := by decide +kernel
theorem dX6_tonight_42 : decode cX6_tonight 42 = .ok (.iload_n 1, 1) := by decide +kernel
theorem dX6_tonight_43 : decode cX6_tonight 43 = .ok (.iconst 1, 1) := by decide +kernel
theorem dX6_tonight_44 : decode cX6_tonight 44 = .ok (.if_icmp .ne 7, 3) := by decide +kernel
theorem dX6_tonight_47 : decode cX6_tonight 47 = .ok (.iload_n 3, 1) := by decide +kernel
theorem dX6_tonight_48 : decode cX6_tonight 48 = .ok (.goto 8, 3) := by decide +kernel
theorem dX6_tonight_51 : decode cX6_tonight 51 = .ok (.iload_n 2, 1) := by decide +kernel
theorem dX6_tonight_52 : decode cX6_tonight 52 = .ok (.iload_n 3, 1) := by decide +kernel
theorem dX6_tonight_53 : decode cX6_tonight 53 = .ok (.iconst (-1), 1) := by decide +kernel
theorem dX6_tonight_54 : decode cX6_tonight 54 = .ok (.ixor, 1) := by decide +kernel
theorem dX6_tonight_55 : decode cX6_tonight 55 = .ok (.iand, 1) := by decide +kernel
theorem dX6_tonight_56 : decode cX6_tonight 56 = .ok (.ireturn, 1) := by decide +kernel
theorem dX6_ahead_0 : decode cX6_ahead 0 = .ok (.iload_n 2, 1) := by decide +kernel
theorem dX6_ahead_1 : decode cX6_ahead 1 = .ok (.ifCond .lt 8, 3) := by decide +kernel
theorem dX6_ahead_4 : decode cX6_ahead 4 = .ok (.iload_n 2, 1) := by decide +kernel
theorem dX6_ahead_5 : decode cX6_ahead 5 = .ok (.iconst 2, 1) := by decide +kernel
theorem dX6_ahead_6 : decode cX6_ahead 6 = .ok (.if_icmp .le 10, 3) := by decide +kernel
theorem dX6_ahead_9 : decode cX6_ahead 9 = .ok (.aload_n 0, 1) := by decide +kernel
theorem dX6_ahead_10 : decode cX6_ahead 10 = .ok (.bipush (-5), 2) := by decide +kernel
theorem dX6_ahead_12 : decode cX6_ahead 12 = .ok (.invokevirtual 66, 3) := by decide +kernel
theorem dX6_ahead_15 : decode cX6_ahead 15 = .ok (.ireturn, 1) := by decide +kernel
theorem dX6_ahead_16 : decode cX6_ahead 16 = .ok (.iload_n 1, 1) := by decide +kernel
theorem dX6_ahead_17 : decode cX6_ahead 17 = .ok (.invokestatic 199, 3) := by decide +kernel
theorem dX6_ahead_20 : decode cX6_ahead 20 = .ok (.ifCond .ne 10, 3) := by decide +kernel
theorem dX6_ahead_23 : decode cX6_ahead 23 = .ok (.aload_n 0, 1) := by decide +kernel
theorem dX6_ahead_24 : decode cX6_ahead 24 = .ok (.bipush (-6), 2) := by decide +kernel
theorem dX6_ahead_26 : decode cX6_ahead 26 = .ok (.invokevirtual 66, 3) := by decide +kernel
theorem dX6_ahead_29 : decode cX6_ahead 29 = .ok (.ireturn, 1) := by decide +kernel
theorem dX6_ahead_30 : decode cX6_ahead 30 = .ok (.aload_n 0, 1) := by decide +kernel
theorem dX6_ahead_31 : decode cX6_ahead 31 = .ok (.getfield 16, 3) := by decide +kernel
theorem dX6_ahead_34 : decode cX6_ahead 34 = .ok (.aload_n 0, 1) := by decide +kernel
theorem dX6_ahead_35 : decode cX6_ahead 35 = .ok (.getfield 10, 3) := by decide +kernel
theorem dX6_ahead_38 : decode cX6_ahead 38 = .ok (.invokevirtual 186, 3) := by decide +kernel
theorem dX6_ahead_41 : decode cX6_ahead 41 = .ok (.aload_n 0, 1) := by decide +kernel
theorem dX6_ahead_42 : decode cX6_ahead 42 = .ok (.getfield 25, 3) := by decide +kernel
theorem dX6_ahead_45 : decode cX6_ahead 45 = .ok (.aload_n 0, 1) := by decide +kernel
theorem dX6_ahead_46 : decode cX6_ahead 46 = .ok (.getfield 16, 3) := by decide +kernel
theorem dX6_ahead_49 : decode cX6_ahead 49 = .ok (.iload_n 1, 1) := by decide +kernel
theorem dX6_ahead_50 : decode cX6_ahead 50 = .ok (.invokevirtual 202, 3) := by decide +kernel
theorem dX6_ahead_53 : decode cX6_ahead 53 = .ok (.iload_n 2, 1) := by decide +kernel
theorem dX6_ahead_54 : decode cX6_ahead 54 = .ok (.ifCond .ne 16, 3) := by decide +kernel
theorem dX6_ahead_57 : decode cX6_ahead 57 = .ok (.aload_n 0, 1) := by decide +kernel
theorem dX6_ahead_58 : decode cX6_ahead 58 = .ok (.getfield 16, 3) := by decide +kernel
theorem dX6_ahead_61 : decode cX6_ahead 61 = .ok (.invokevirtual 206, 3) := by decide +kernel
theorem dX6_ahead_64 : decode cX6_ahead 64 = .ok (.invokestatic 210, 3) := by decide +kernel
theorem dX6_ahead_67 : decode cX6_ahead 67 = .ok (.goto 25, 3) := by decide +kernel
theorem dX6_ahead_70 : decode cX6_ahead 70 = .ok (.iload_n 2, 1) := by decide +kernel
theorem dX6_ahead_71 : decode cX6_ahead 71 = .ok (.iconst 1, 1) := by decide +kernel
theorem dX6_ahead_72 : decode cX6_ahead 72 = .ok (.if_icmp .ne 13, 3) := by decide +kernel
theorem dX6_ahead_75 : decode cX6_ahead 75 = .ok (.aload_n 0, 1) := by decide +kernel
theorem dX6_ahead_76 : decode cX6_ahead 76 = .ok (.getfield 25, 3) := by decide +kernel
theorem dX6_ahead_79 : decode cX6_ahead 79 = .ok (.getfield 215, 3) := by decide +kernel
theorem dX6_ahead_82 : decode cX6_ahead 82 = .ok (.goto 10, 3) := by decide +kernel
theorem dX6_ahead_85 : decode cX6_ahead 85 = .ok (.aload_n 0, 1) := by decide +kernel
theorem dX6_ahead_86 : decode cX6_ahead 86 = .ok (.getfield 25, 3) := by decide +kernel
theorem dX6_ahead_89 : decode cX6_ahead 89 = .ok (.getfield 218, 3) := by decide +kernel
theorem dX6_ahead_92 : decode cX6_ahead 92 = .ok (.ireturn, 1) := by decide +kernel
theorem dX6_worst_0 : decode cX6_worst 0 = .ok (.iload_n 2, 1) := by decide +kernel
theorem dX6_worst_1 : decode cX6_worst 1 = .ok (.ifCond .lt 8, 3) := by decide +kernel
theorem dX6_worst_4 : decode cX6_worst 4 = .ok (.iload_n 2, 1) := by decide +kernel
theorem dX6_worst_5 : decode cX6_worst 5 = .ok (.iconst 1, 1) := by decide +kernel
theorem dX6_worst_6 : decode cX6_worst 6 = .ok (.if_icmp .le 13, 3) := by decide +kernel
theorem dX6_worst_9 : decode cX6_worst 9 = .ok (.aload_n 0, 1) := by decide +kernel
theorem dX6_worst_10 : decode cX6_worst 10 = .ok (.bipush (-5), 2) := by decide +kernel
theorem dX6_worst_12 : decode cX6_worst 12 = .ok (.invokevirtual 66, 3) := by decide +kernel
theorem dX6_worst_15 : decode cX6_worst 15 = .ok (.bipush 10, 2) := by decide +kernel
theorem dX6_worst_17 : decode cX6_worst 17 = .ok (.isub, 1) := by decide +kernel
theorem dX6_worst_18 : decode cX6_worst 18 = .ok (.ireturn, 1) := by decide +kernel
theorem dX6_worst_19 : decode cX6_worst 19 = .ok (.iload_n 1, 1) := by decide +kernel
theorem dX6_worst_20 : decode cX6_worst 20 = .ok (.ifCond .eq 10, 3) := by decide +kernel
theorem dX6_worst_23 : decode cX6_worst 23 = .ok (.iload_n 1, 1) := by decide +kernel
theorem dX6_worst_24 : decode cX6_worst 24 = .ok (.invokestatic 199, 3) := by decide +kernel
theorem dX6_worst_27 : decode cX6_worst 27 = .ok (.ifCond .ne 13, 3) := by decide +kernel
theorem dX6_worst_30 : decode cX6_worst 30 = .ok (.aload_n 0, 1) := by decide +kernel
theorem dX6_worst_31 : decode cX6_worst 31 = .ok (.bipush (-6), 2) := by decide +kernel
theorem dX6_worst_33 : decode cX6_worst 33 = .ok (.invokevirtual 66, 3) := by decide +kernel
theorem dX6_worst_36 : decode cX6_worst 36 = .ok (.bipush 10, 2) := by decide +kernel
theorem dX6_worst_38 : decode cX6_worst 38 = .ok (.isub, 1) := by decide +kernel
theorem dX6_worst_39 : decode cX6_worst 39 = .ok (.ireturn, 1) := by decide +kernel
theorem dX6_worst_40 : decode cX6_worst 40 = .ok (.aload_n 0, 1) := by decide +kernel
theorem dX6_worst_41 : decode cX6_worst 41 = .ok (.getfield 16, 3) := by decide +kernel
theorem dX6_worst_44 : decode cX6_worst 44 = .ok (.aload_n 0, 1) := by decide +kernel
theorem dX6_worst_45 : decode cX6_worst 45 = .ok (.getfield 10, 3) := by decide +kernel
theorem dX6_worst_48 : decode cX6_worst 48 = .ok (.invokevirtual 186, 3) := by decide +kernel
theorem dX6_worst_51 : decode cX6_worst 51 = .ok (.aload_n 0, 1) := by decide +kernel
theorem dX6_worst_52 : decode cX6_worst 52 = .ok (.getfield 25, 3) := by decide +kernel
theorem dX6_worst_55 : decode cX6_worst 55 = .ok (.aload_n 0, 1) := by decide +kernel
theorem dX6_worst_56 : decode cX6_worst 56 = .ok (.getfield 16, 3) := by decide +kernel
theorem dX6_worst_59 : decode cX6_worst 59 = .ok (.iload_n 1, 1) := by decide +kernel
theorem dX6_worst_60 : decode cX6_worst 60 = .ok (.invokevirtual 202, 3) := by decide +kernel
theorem dX6_worst_63 : decode cX6_worst 63 = .ok (.iload_n 2, 1) := by decide +kernel
theorem dX6_worst_64 : decode cX6_worst 64 = .ok (.ifCond .ne 13, 3) := by decide +kernel
theorem dX6_worst_67 : decode cX6_worst 67 = .ok (.aload_n 0, 1) := by decide +kernel
theorem dX6_worst_68 : decode cX6_worst 68 = .ok (.getfield 25, 3) := by decide +kernel
theorem dX6_worst_71 : decode cX6_worst 71 = .ok (.getfield 221, 3) := by decide +kernel
theorem dX6_worst_74 : decode cX6_worst 74 = .ok (.goto 10, 3) := by decide +kernel
theorem dX6_worst_77 : decode cX6_worst 77 = .ok (.aload_n 0, 1) := by decide +kernel
theorem dX6_worst_78 : decode cX6_worst 78 = .ok (.getfield 25, 3) := by decide +kernel
theorem dX6_worst_81 : decode cX6_worst 81 = .ok (.getfield 224, 3) := by decide +kernel
theorem dX6_worst_84 : decode cX6_worst 84 = .ok (.ireturn, 1) := by decide +kernel
theorem dX6_ones_0 : decode cX6_ones 0 = .ok (.aload_n 0, 1) := by decide +kernel
theorem dX6_ones_1 : decode cX6_ones 1 = .ok (.getfield 10, 3) := by decide +kernel
theorem dX6_ones_4 : decode cX6_ones 4 = .ok (.iload_n 1, 1) := by decide +kernel
theorem dX6_ones_5 : decode cX6_ones 5 = .ok (.invokevirtual 116, 3) := by decide +kernel
theorem dX6_ones_8 : decode cX6_ones 8 = .ok (.ifCond .ne 9, 3) := by decide +kernel
theorem dX6_ones_11 : decode cX6_ones 11 = .ok (.aload_n 0, 1) := by decide +kernel
theorem dX6_ones_12 : decode cX6_ones 12 = .ok (.iconst (-1), 1) := by decide +kernel
theorem dX6_ones_13 : decode cX6_ones 13 = .ok (.invokevirtual 66, 3) := by decide +kernel
theorem dX6_ones_16 : decode cX6_ones 16 = .ok (.ireturn, 1) := by decide +kernel
theorem dX6_ones_17 : decode cX6_ones 17 = .ok (.iload_n 3, 1) := by decide +kernel
theorem dX6_ones_18 : decode cX6_ones 18 = .ok (.ifCond .lt 8, 3) := by decide +kernel
theorem dX6_ones_21 : decode cX6_ones 21 = .ok (.iload_n 3, 1) := by decide +kernel
theorem dX6_ones_22 : decode cX6_ones 22 = .ok (.iconst 1, 1) := by decide +kernel
theorem dX6_ones_23 : decode cX6_ones 23 = .ok (.if_icmp .le 10, 3) := by decide +kernel
theorem dX6_ones_26 : decode cX6_ones 26 = .ok (.aload_n 0, 1) := by decide +kernel
theorem dX6_ones_27 : decode cX6_ones 27 = .ok (.bipush (-5), 2) := by decide +kernel
theorem dX6_ones_29 : decode cX6_ones 29 = .ok (.invokevirtual 66, 3) := by decide +kernel
theorem dX6_ones_32 : decode cX6_ones 32 = .ok (.ireturn, 1) := by decide +kernel
theorem dX6_ones_33 : decode cX6_ones 33 = .ok (.iload_n 2, 1) := by decide +kernel
theorem dX6_ones_34 : decode cX6_ones 34 = .ok (.invokestatic 199, 3) := by decide +kernel
theorem dX6_ones_37 : decode cX6_ones 37 = .ok (.ifCond .ne 10, 3) := by decide +kernel
theorem dX6_ones_40 : decode cX6_ones 40 = .ok (.aload_n 0, 1) := by decide +kernel
theorem dX6_ones_41 : decode cX6_ones 41 = .ok (.bipush (-6), 2) := by decide +kernel
theorem dX6_ones_43 : decode cX6_ones 43 = .ok (.invokevirtual 66, 3) := by decide +kernel
theorem dX6_ones_46 : decode cX6_ones 46 = .ok (.ireturn, 1) := by decide +kernel
theorem dX6_ones_47 : decode cX6_ones 47 = .ok (.aload_n 0, 1) := by decide +kernel
theorem dX6_ones_48 : decode cX6_ones 48 = .ok (.getfield 16, 3) := by decide +kernel
theorem dX6_ones_51 : decode cX6_ones 51 = .ok (.aload_n 0, 1) := by decide +kernel
theorem dX6_ones_52 : decode cX6_ones 52 = .ok (.getfield 10, 3) := by decide +kernel
theorem dX6_ones_55 : decode cX6_ones 55 = .ok (.invokevirtual 186, 3) := by decide +kernel
theorem dX6_ones_58 : decode cX6_ones 58 = .ok (.aload_n 0, 1) := by decide +kernel
theorem dX6_ones_59 : decode cX6_ones 59 = .ok (.getfield 25, 3) := by decide +kernel
theorem dX6_ones_62 : decode cX6_ones 62 = .ok (.aload_n 0, 1) := by decide +kernel
theorem dX6_ones_63 : decode cX6_ones 63 = .ok (.getfield 16, 3) := by decide +kernel
theorem dX6_ones_66 : decode cX6_ones 66 = .ok (.iload_n 2, 1) := by decide +kernel
theorem dX6_ones_67 : decode cX6_ones 67 = .ok (.invokevirtual 202, 3) := by decide +kernel
theorem dX6_ones_70 : decode cX6_ones 70 = .ok (.iload_n 3, 1) := by decide +kernel
theorem dX6_ones_71 : decode cX6_ones 71 = .ok (.ifCond .ne 17, 3) := by decide +kernel
theorem dX6_ones_74 : decode cX6_ones 74 = .ok (.aload_n 0, 1) := by decide +kernel
theorem dX6_ones_75 : decode cX6_ones 75 = .ok (.getfield 16, 3) := by decide +kernel
theorem dX6_ones_78 : decode cX6_ones 78 = .ok (.iload_n 1, 1) := by decide +kernel
theorem dX6_ones_79 : decode cX6_ones 79 = .ok (.invokevirtual 129, 3) := by decide +kernel
theorem dX6_ones_82 : decode cX6_ones 82 = .ok (.getfield 227, 3) := by decide +kernel
theorem dX6_ones_85 : decode cX6_ones 85 = .ok (.goto 14, 3) := by decide +kernel
theorem dX6_ones_88 : decode cX6_ones 88 = .ok (.aload_n 0, 1) := by decide +kernel
theorem dX6_ones_89 : decode cX6_ones 89 = .ok (.getfield 16, 3) := by decide +kernel
theorem dX6_ones_92 : decode cX6_ones 92 = .ok (.iload_n 1, 1) := by decide +kernel
theorem dX6_ones_93 : decode cX6_ones 93 = .ok (.invokevirtual 129, 3) := by decide +kernel
theorem dX6_ones_96 : decode cX6_ones 96 = .ok (.getfield 230, 3) := by decide +kernel
theorem dX6_ones_99 : decode cX6_ones 99 = .ok (.ireturn, 1) := by decide +kernel
theorem dX6_ring_0 : decode cX6_ring 0 = .ok (.iload_n 2, 1) := by decide +kernel
theorem dX6_ring_1 : decode cX6_ring 1 = .ok (.ifCond .lt 8, 3) := by decide +kernel
theorem dX6_ring_4 : decode cX6_ring 4 = .ok (.iload_n 2, 1) := by decide +kernel
theorem dX6_ring_5 : decode cX6_ring 5 = .ok (.iconst 1, 1) := by decide +kernel
theorem dX6_ring_6 : decode cX6_ring 6 = .ok (.if_icmp .le 13, 3) := by decide +kernel
theorem dX6_ring_9 : decode cX6_ring 9 = .ok (.aload_n 0, 1) := by decide +kernel
theorem dX6_ring_10 : decode cX6_ring 10 = .ok (.bipush (-5), 2) := by decide +kernel
theorem dX6_ring_12 : decode cX6_ring 12 = .ok (.invokevirtual 66, 3) := by decide +kernel
theorem dX6_ring_15 : decode cX6_ring 15 = .ok (.bipush 10, 2) := by decide +kernel
theorem dX6_ring_17 : decode cX6_ring 17 = .ok (.isub, 1) := by decide +kernel
theorem dX6_ring_18 : decode cX6_ring 18 = .ok (.ireturn, 1) := by decide +kernel
theorem dX6_ring_19 : decode cX6_ring 19 = .ok (.iload_n 1, 1) := by decide +kernel
theorem dX6_ring_20 : decode cX6_ring 20 = .ok (.ifCond .lt 8, 3) := by decide +kernel
theorem dX6_ring_23 : decode cX6_ring 23 = .ok (.iload_n 1, 1) := by decide +kernel
theorem dX6_ring_24 : decode cX6_ring 24 = .ok (.iconst 3, 1) := by decide +kernel
theorem dX6_ring_25 : decode cX6_ring 25 = .ok (.if_icmp .le 13, 3) := by decide +kernel
theorem dX6_ring_28 : decode cX6_ring 28 = .ok (.aload_n 0, 1) := by decide +kernel
theorem dX6_ring_29 : decode cX6_ring 29 = .ok (.bipush (-6), 2) := by decide +kernel
theorem dX6_ring_31 : decode cX6_ring 31 = .ok (.invokevirtual 66, 3) := by decide +kernel
theorem dX6_ring_34 : decode cX6_ring 34 = .ok (.bipush 10, 2) := by decide +kernel
theorem dX6_ring_36 : decode cX6_ring 36 = .ok (.isub, 1) := by decide +kernel
theorem dX6_ring_37 : decode cX6_ring 37 = .ok (.ireturn, 1) := by decide +kernel
theorem dX6_ring_38 : decode cX6_ring 38 = .ok (.aload_n 0, 1) := by decide +kernel
theorem dX6_ring_39 : decode cX6_ring 39 = .ok (.getfield 10, 3) := by decide +kernel
theorem dX6_ring_42 : decode cX6_ring 42 = .ok (.invokevirtual 206, 3) := by decide +kernel
theorem dX6_ring_45 : decode cX6_ring 45 = .ok (.istore_n 3, 1) := by decide +kernel
theorem dX6_ring_46 : decode cX6_ring 46 = .ok (.iconst (-1), 1) := by decide +kernel
theorem dX6_ring_47 : decode cX6_ring 47 = .ok (.istore 4, 2) := by decide +kernel
theorem dX6_ring_49 : decode cX6_ring 49 = .ok (.iconst (-1), 1) := by decide +kernel
theorem dX6_ring_50 : decode cX6_ring 50 = .ok (.istore 5, 2) := by decide +kernel
theorem dX6_ring_52 : decode cX6_ring 52 = .ok (.iconst 0, 1) := by decide +kernel
theorem dX6_ring_53 : decode cX6_ring 53 = .ok (.istore 6, 2) := by decide +kernel
theorem dX6_ring_55 : decode cX6_ring 55 = .ok (.iload 6, 2) := by decide +kernel
theorem dX6_ring_57 : decode cX6_ring 57 = .ok (.sipush 1024, 3) := by decide +kernel
theorem dX6_ring_60 : decode cX6_ring 60 = .ok (.if_icmp .ge 66, 3) := by decide +kernel
theorem dX6_ring_63 : decode cX6_ring 63 = .ok (.iload 6, 2) := by decide +kernel
theorem dX6_ring_65 : decode cX6_ring 65 = .ok (.iload_n 3, 1) := by decide +kernel
theorem dX6_ring_66 : decode cX6_ring 66 = .ok (.iconst (-1), 1) := by decide +kernel
theorem dX6_ring_67 : decode cX6_ring 67 = .ok (.ixor, 1) := by decide +kernel
theorem dX6_ring_68 : decode cX6_ring 68 = .ok (.iand, 1) := by decide +kernel
theorem dX6_ring_69 : decode cX6_ring 69 = .ok (.ifCond .ne 51, 3) := by decide +kernel
theorem dX6_ring_72 : decode cX6_ring 72 = .ok (.iload 6, 2) := by decide +kernel
theorem dX6_ring_74 : decode cX6_ring 74 = .ok (.invokestatic 210, 3) := by decide +kernel
theorem dX6_ring_77 : decode cX6_ring 77 = .ok (.iload_n 1, 1) := by decide +kernel
theorem dX6_ring_78 : decode cX6_ring 78 = .ok (.if_icmp .eq 6, 3) := by decide +kernel
theorem dX6_ring_81 : decode cX6_ring 81 = .ok (.goto 39, 3) := by decide +kernel
theorem dX6_ring_84 : decode cX6_ring 84 = .ok (.aload_n 0, 1) := by decide +kernel
theorem dX6_ring_85 : decode cX6_ring 85 = .ok (.getfield 10, 3) := by decide +kernel
theorem dX6_ring_88 : decode cX6_ring 88 = .ok (.aload_n 0, 1) := by decide +kernel
theorem dX6_ring_89 : decode cX6_ring 89 = .ok (.getfield 10, 3) := by decide +kernel
theorem dX6_ring_92 : decode cX6_ring 92 = .ok (.iload 6, 2) := by decide +kernel
theorem dX6_ring_94 : decode cX6_ring 94 = .ok (.invokevirtual 193, 3) := by decide +kernel
theorem dX6_ring_97 : decode cX6_ring 97 = .ok (.invokevirtual 196, 3) := by decide +kernel
theorem dX6_ring_100 : decode cX6_ring 100 = .ok (.invokestatic 210, 3) := by decide +kernel
theorem dX6_ring_103 : decode cX6_ring 103 = .ok (.istore 7, 2) := by decide +kernel
theorem dX6_ring_105 : decode cX6_ring 105 = .ok (.iload 7, 2) := by decide +kernel
theorem dX6_ring_107 : decode cX6_ring 107 = .ok (.iload 5, 2) := by decide +kernel
theorem dX6_ring_109 : decode cX6_ring 109 = .ok (.if_icmp .le 11, 3) := by decide +kernel
theorem dX6_ring_112 : decode cX6_ring 112 = .ok (.iload 7, 2) := by decide +kernel
theorem dX6_ring_114 : decode cX6_ring 114 = .ok (.istore 5, 2) := by decide +kernel
theorem dX6_ring_116 : decode cX6_ring 116 = .ok (.iload 6, 2) := by decide +kernel
theorem dX6_ring_118 : decode cX6_ring 118 = .ok (.istore 4, 2) := by decide +kernel
theorem dX6_ring_120 : decode cX6_ring 120 = .ok (.iinc 6 1, 3) := by decide +kernel
theorem dX6_ring_123 : decode cX6_ring 123 = .ok (.goto (-68), 3) := by decide +kernel
theorem dX6_ring_126 : decode cX6_ring 126 = .ok (.iload_n 2, 1) := by decide +kernel
theorem dX6_ring_127 : decode cX6_ring 127 = .ok (.ifCond .ne 8, 3) := by decide +kernel
theorem dX6_ring_130 : decode cX6_ring 130 = .ok (.iload 4, 2) := by decide +kernel
theorem dX6_ring_132 : decode cX6_ring 132 = .ok (.goto 5, 3) := by decide +kernel
theorem dX6_ring_135 : decode cX6_ring 135 = .ok (.iload 5, 2) := by decide +kernel
theorem dX6_ring_137 : decode cX6_ring 137 = .ok (.ireturn, 1) := by decide +kernel
theorem dX6_begin_0 : decode cX6_begin 0 = .ok (.iload_n 1, 1) := by decide +kernel
theorem dX6_begin_1 : decode cX6_begin 1 = .ok (.invokestatic 199, 3) := by decide +kernel
theorem dX6_begin_4 : decode cX6_begin 4 = .ok (.ifCond .ne 10, 3) := by decide +kernel
theorem dX6_begin_7 : decode cX6_begin 7 = .ok (.aload_n 0, 1) := by decide +kernel
theorem dX6_begin_8 : decode cX6_begin 8 = .ok (.bipush (-6), 2) := by decide +kernel
theorem dX6_begin_10 : decode cX6_begin 10 = .ok (.invokevirtual 66, 3) := by decide +kernel
theorem dX6_begin_13 : decode cX6_begin 13 = .ok (.ireturn, 1) := by decide +kernel
theorem dX6_begin_14 : decode cX6_begin 14 = .ok (.iconst 0, 1) := by decide +kernel
theorem dX6_begin_15 : decode cX6_begin 15 = .ok (.istore_n 2, 1) := by decide +kernel
theorem dX6_begin_16 : decode cX6_begin 16 = .ok (.iconst (-1), 1) := by decide +kernel
theorem dX6_begin_17 : decode cX6_begin 17 = .ok (.istore_n 3, 1) := by decide +kernel
theorem dX6_begin_18 : decode cX6_begin 18 = .ok (.iconst 0, 1) := by decide +kernel
theorem dX6_begin_19 : decode cX6_begin 19 = .ok (.invokestatic 154, 3) := by decide +kernel
theorem dX6_begin_22 : decode cX6_begin 22 = .ok (.istore 4, 2) := by decide +kernel
theorem dX6_begin_24 : decode cX6_begin 24 = .ok (.iload 4, 2) := by decide +kernel
theorem dX6_begin_26 : decode cX6_begin 26 = .ok (.iconst 0, 1) := by decide +kernel
theorem dX6_begin_27 : decode cX6_begin 27 = .ok (.invokestatic 157, 3) := by decide +kernel
theorem dX6_begin_30 : decode cX6_begin 30 = .ok (.if_icmp .gt 64, 3) := by decide +kernel
theorem dX6_begin_33 : decode cX6_begin 33 = .ok (.aload_n 0, 1) := by decide +kernel
theorem dX6_begin_34 : decode cX6_begin 34 = .ok (.getfield 16, 3) := by decide +kernel
theorem dX6_begin_37 : decode cX6_begin 37 = .ok (.aload_n 0, 1) := by decide +kernel
theorem dX6_begin_38 : decode cX6_begin 38 = .ok (.getfield 10, 3) := by decide +kernel
theorem dX6_begin_41 : decode cX6_begin 41 = .ok (.invokevirtual 186, 3) := by decide +kernel
theorem dX6_begin_44 : decode cX6_begin 44 = .ok (.aload_n 0, 1) := by decide +kernel
theorem dX6_begin_45 : decode cX6_begin 45 = .ok (.getfield 16, 3) := by decide +kernel
theorem dX6_begin_48 : decode cX6_begin 48 = .ok (.iconst 0, 1) := by decide +kernel
theorem dX6_begin_49 : decode cX6_begin 49 = .ok (.iload 4, 2) := by decide +kernel
theorem dX6_begin_51 : decode cX6_begin 51 = .ok (.invokevirtual 163, 3) := by decide +kernel
theorem dX6_begin_54 : decode cX6_begin 54 = .ok (.aload_n 0, 1) := by decide +kernel
theorem dX6_begin_55 : decode cX6_begin 55 = .ok (.getfield 25, 3) := by decide +kernel
theorem dX6_begin_58 : decode cX6_begin 58 = .ok (.aload_n 0, 1) := by decide +kernel
theorem dX6_begin_59 : decode cX6_begin 59 = .ok (.getfield 16, 3) := by decide +kernel
theorem dX6_begin_62 : decode cX6_begin 62 = .ok (.iload_n 1, 1) := by decide +kernel
theorem dX6_begin_63 : decode cX6_begin 63 = .ok (.invokevirtual 202, 3) := by decide +kernel
theorem dX6_begin_66 : decode cX6_begin 66 = .ok (.aload_n 0, 1) := by decide +kernel
theorem dX6_begin_67 : decode cX6_begin 67 = .ok (.getfield 25, 3) := by decide +kernel
theorem dX6_begin_70 : decode cX6_begin 70 = .ok (.getfield 215, 3) := by decide +kernel
theorem dX6_begin_73 : decode cX6_begin 73 = .ok (.iload_n 3, 1) := by decide +kernel
theorem dX6_begin_74 : decode cX6_begin 74 = .ok (.if_icmp .le 14, 3) := by decide +kernel
theorem dX6_begin_77 : decode cX6_begin 77 = .ok (.aload_n 0, 1) := by decide +kernel
theorem dX6_begin_78 : decode cX6_begin 78 = .ok (.getfield 25, 3) := by decide +kernel
theorem dX6_begin_81 : decode cX6_begin 81 = .ok (.getfield 215, 3) := by decide +kernel
theorem dX6_begin_84 : decode cX6_begin 84 = .ok (.istore_n 3, 1) := by decide +kernel
theorem dX6_begin_85 : decode cX6_begin 85 = .ok (.iload 4, 2) := by decide +kernel
theorem dX6_begin_87 : decode cX6_begin 87 = .ok (.istore_n 2, 1) := by decide +kernel
theorem dX6_begin_88 : decode cX6_begin 88 = .ok (.iinc 4 1, 3) := by decide +kernel
theorem dX6_begin_91 : decode cX6_begin 91 = .ok (.goto (-67), 3) := by decide +kernel
theorem dX6_begin_94 : decode cX6_begin 94 = .ok (.iload_n 2, 1) := by decide +kernel
theorem dX6_begin_95 : decode cX6_begin 95 = .ok (.ireturn, 1) := by decide +kernel
theorem dX6_room_0 : decode cX6_room 0 = .ok (.iload_n 1, 1) := by decide +kernel
theorem dX6_room_1 : decode cX6_room 1 = .ok (.invokestatic 199, 3) := by decide +kernel
theorem dX6_room_4 : decode cX6_room 4 = .ok (.ifCond .ne 10, 3) := by decide +kernel
theorem dX6_room_7 : decode cX6_room 7 = .ok (.aload_n 0, 1) := by decide +kernel
theorem dX6_room_8 : decode cX6_room 8 = .ok (.bipush (-6), 2) := by decide +kernel
theorem dX6_room_10 : decode cX6_room 10 = .ok (.invokevirtual 66, 3) := by decide +kernel
theorem dX6_room_13 : decode cX6_room 13 = .ok (.ireturn, 1) := by decide +kernel
theorem dX6_room_14 : decode cX6_room 14 = .ok (.iconst 2, 1) := by decide +kernel
theorem dX6_room_15 : decode cX6_room 15 = .ok (.invokestatic 154, 3) := by decide +kernel
theorem dX6_room_18 : decode cX6_room 18 = .ok (.istore_n 2, 1) := by decide +kernel
theorem dX6_room_19 : decode cX6_room 19 = .ok (.iload_n 2, 1) := by decide +kernel
theorem dX6_room_20 : decode cX6_room 20 = .ok (.iconst 2, 1) := by decide +kernel
theorem dX6_room_21 : decode cX6_room 21 = .ok (.invokestatic 157, 3) := by decide +kernel
theorem dX6_room_24 : decode cX6_room 24 = .ok (.if_icmp .ge 53, 3) := by decide +kernel
theorem dX6_room_27 : decode cX6_room 27 = .ok (.aload_n 0, 1) := by decide +kernel
theorem dX6_room_28 : decode cX6_room 28 = .ok (.getfield 16, 3) := by decide +kernel
theorem dX6_room_31 : decode cX6_room 31 = .ok (.aload_n 0, 1) := by decide +kernel
theorem dX6_room_32 : decode cX6_room 32 = .ok (.getfield 10, 3) := by decide +kernel
theorem dX6_room_35 : decode cX6_room 35 = .ok (.invokevirtual 186, 3) := by decide +kernel
theorem dX6_room_38 : decode cX6_room 38 = .ok (.aload_n 0, 1) := by decide +kernel
theorem dX6_room_39 : decode cX6_room 39 = .ok (.getfield 16, 3) := by decide +kernel
theorem dX6_room_42 : decode cX6_room 42 = .ok (.iconst 2, 1) := by decide +kernel
theorem dX6_room_43 : decode cX6_room 43 = .ok (.iload_n 2, 1) := by decide +kernel
theorem dX6_room_44 : decode cX6_room 44 = .ok (.invokevirtual 163, 3) := by decide +kernel
theorem dX6_room_47 : decode cX6_room 47 = .ok (.aload_n 0, 1) := by decide +kernel
theorem dX6_room_48 : decode cX6_room 48 = .ok (.getfield 25, 3) := by decide +kernel
theorem dX6_room_51 : decode cX6_room 51 = .ok (.aload_n 0, 1) := by decide +kernel
theorem dX6_room_52 : decode cX6_room 52 = .ok (.getfield 16, 3) := by decide +kernel
theorem dX6_room_55 : decode cX6_room 55 = .ok (.iload_n 1, 1) := by decide +kernel
theorem dX6_room_56 : decode cX6_room 56 = .ok (.invokevirtual 202, 3) := by decide +kernel
theorem dX6_room_59 : decode cX6_room 59 = .ok (.aload_n 0, 1) := by decide +kernel
theorem dX6_room_60 : decode cX6_room 60 = .ok (.getfield 25, 3) := by decide +kernel
theorem dX6_room_63 : decode cX6_room 63 = .ok (.getfield 218, 3) := by decide +kernel
theorem dX6_room_66 : decode cX6_room 66 = .ok (.ifCond .ne 5, 3) := by decide +kernel
theorem dX6_room_69 : decode cX6_room 69 = .ok (.iload_n 2, 1) := by decide +kernel
theorem dX6_room_70 : decode cX6_room 70 = .ok (.ireturn, 1) := by decide +kernel
theorem dX6_room_71 : decode cX6_room 71 = .ok (.iinc 2 1, 3) := by decide +kernel
theorem dX6_room_74 : decode cX6_room 74 = .ok (.goto (-55), 3) := by decide +kernel
theorem dX6_room_77 : decode cX6_room 77 = .ok (.iconst 2, 1) := by decide +kernel
theorem dX6_room_78 : decode cX6_room 78 = .ok (.invokestatic 157, 3) := by decide +kernel
theorem dX6_room_81 : decode cX6_room 81 = .ok (.ireturn, 1) := by decide +kernel
theorem dX6_take_0 : decode cX6_take 0 = .ok (.iload_n 1, 1) := by decide +kernel
theorem dX6_take_1 : decode cX6_take 1 = .ok (.invokestatic 199, 3) := by decide +kernel
theorem dX6_take_4 : decode cX6_take 4 = .ok (.ifCond .ne 10, 3) := by decide +kernel
theorem dX6_take_7 : decode cX6_take 7 = .ok (.aload_n 0, 1) := by decide +kernel
theorem dX6_take_8 : decode cX6_take 8 = .ok (.bipush (-6), 2) := by decide +kernel
theorem dX6_take_10 : decode cX6_take 10 = .ok (.invokevirtual 66, 3) := by decide +kernel
theorem dX6_take_13 : decode cX6_take 13 = .ok (.ireturn, 1) := by decide +kernel
theorem dX6_take_14 : decode cX6_take 14 = .ok (.iconst 0, 1) := by decide +kernel
theorem dX6_take_15 : decode cX6_take 15 = .ok (.istore_n 2, 1) := by decide +kernel
theorem dX6_take_16 : decode cX6_take 16 = .ok (.iconst (-1), 1) := by decide +kernel
theorem dX6_take_17 : decode cX6_take 17 = .ok (.istore_n 3, 1) := by decide +kernel
theorem dX6_take_18 : decode cX6_take 18 = .ok (.iconst 0, 1) := by decide +kernel
theorem dX6_take_19 : decode cX6_take 19 = .ok (.istore 4, 2) := by decide +kernel
theorem dX6_take_21 : decode cX6_take 21 = .ok (.iload 4, 2) := by decide +kernel
theorem dX6_take_23 : decode cX6_take 23 = .ok (.aload_n 0, 1) := by decide +kernel
theorem dX6_take_24 : decode cX6_take 24 = .ok (.getfield 10, 3) := by decide +kernel
theorem dX6_take_27 : decode cX6_take 27 = .ok (.getfield 233, 3) := by decide +kernel
theorem dX6_take_30 : decode cX6_take 30 = .ok (.if_icmp .gt 65, 3) := by decide +kernel
theorem dX6_take_33 : decode cX6_take 33 = .ok (.aload_n 0, 1) := by decide +kernel
theorem dX6_take_34 : decode cX6_take 34 = .ok (.getfield 16, 3) := by decide +kernel
theorem dX6_take_37 : decode cX6_take 37 = .ok (.aload_n 0, 1) := by decide +kernel
theorem dX6_take_38 : decode cX6_take 38 = .ok (.getfield 10, 3) := by decide +kernel
theorem dX6_take_41 : decode cX6_take 41 = .ok (.invokevirtual 186, 3) := by decide +kernel
theorem dX6_take_44 : decode cX6_take 44 = .ok (.aload_n 0, 1) := by decide +kernel
theorem dX6_take_45 : decode cX6_take 45 = .ok (.getfield 16, 3) := by decide +kernel
theorem dX6_take_48 : decode cX6_take 48 = .ok (.iload 4, 2) := by decide +kernel
theorem dX6_take_50 : decode cX6_take 50 = .ok (.invokevirtual 236, 3) := by decide +kernel
theorem dX6_take_53 : decode cX6_take 53 = .ok (.aload_n 0, 1) := by decide +kernel
theorem dX6_take_54 : decode cX6_take 54 = .ok (.getfield 25, 3) := by decide +kernel
theorem dX6_take_57 : decode cX6_take 57 = .ok (.aload_n 0, 1) := by decide +kernel
theorem dX6_take_58 : decode cX6_take 58 = .ok (.getfield 16, 3) := by decide +kernel
theorem dX6_take_61 : decode cX6_take 61 = .ok (.iload_n 1, 1) := by decide +kernel
theorem dX6_take_62 : decode cX6_take 62 = .ok (.invokevirtual 202, 3) := by decide +kernel
theorem dX6_take_65 : decode cX6_take 65 = .ok (.aload_n 0, 1) := by decide +kernel
theorem dX6_take_66 : decode cX6_take 66 = .ok (.getfield 16, 3) := by decide +kernel
theorem dX6_take_69 : decode cX6_take 69 = .ok (.invokevirtual 206, 3) := by decide +kernel
theorem dX6_take_72 : decode cX6_take 72 = .ok (.invokestatic 210, 3) := by decide +kernel
theorem dX6_take_75 : decode cX6_take 75 = .ok (.istore 5, 2) := by decide +kernel
theorem dX6_take_77 : decode cX6_take 77 = .ok (.iload 5, 2) := by decide +kernel
theorem dX6_take_79 : decode cX6_take 79 = .ok (.iload_n 3, 1) := by decide +kernel
theorem dX6_take_80 : decode cX6_take 80 = .ok (.if_icmp .le 9, 3) := by decide +kernel
theorem dX6_take_83 : decode cX6_take 83 = .ok (.iload 5, 2) := by decide +kernel
theorem dX6_take_85 : decode cX6_take 85 = .ok (.istore_n 3, 1) := by decide +kernel
theorem dX6_take_86 : decode cX6_take 86 = .ok (.iload 4, 2) := by decide +kernel
theorem dX6_take_88 : decode cX6_take 88 = .ok (.istore_n 2, 1) := by decide +kernel
theorem dX6_take_89 : decode cX6_take 89 = .ok (.iinc 4 1, 3) := by decide +kernel
theorem dX6_take_92 : decode cX6_take 92 = .ok (.goto (-71), 3) := by decide +kernel
theorem dX6_take_95 : decode cX6_take 95 = .ok (.iload_n 2, 1) := by decide +kernel
theorem dX6_take_96 : decode cX6_take 96 = .ok (.ireturn, 1) := by decide +kernel
theorem dX6_price_0 : decode cX6_price 0 = .ok (.iload_n 1, 1) := by decide +kernel
theorem dX6_price_1 : decode cX6_price 1 = .ok (.invokestatic 199, 3) := by decide +kernel
theorem dX6_price_4 : decode cX6_price 4 = .ok (.ifCond .ne 14, 3) := by decide +kernel
theorem dX6_price_7 : decode cX6_price 7 = .ok (.aload_n 0, 1) := by decide +kernel
theorem dX6_price_8 : decode cX6_price 8 = .ok (.bipush (-6), 2) := by decide +kernel
theorem dX6_price_10 : decode cX6_price 10 = .ok (.invokevirtual 66, 3) := by decide +kernel
theorem dX6_price_13 : decode cX6_price 13 = .ok (.sipush 1000, 3) := by decide +kernel
theorem dX6_price_16 : decode cX6_price 16 = .ok (.isub, 1) := by decide +kernel
theorem dX6_price_17 : decode cX6_price 17 = .ok (.ireturn, 1) := by decide +kernel
theorem dX6_price_18 : decode cX6_price 18 = .ok (.aload_n 0, 1) := by decide +kernel
theorem dX6_price_19 : decode cX6_price 19 = .ok (.getfield 16, 3) := by decide +kernel
theorem dX6_price_22 : decode cX6_price 22 = .ok (.aload_n 0, 1) := by decide +kernel
theorem dX6_price_23 : decode cX6_price 23 = .ok (.getfield 10, 3) := by decide +kernel
theorem dX6_price_26 : decode cX6_price 26 = .ok (.invokevirtual 186, 3) := by decide +kernel
theorem dX6_price_29 : decode cX6_price 29 = .ok (.aload_n 0, 1) := by decide +kernel
theorem dX6_price_30 : decode cX6_price 30 = .ok (.getfield 16, 3) := by decide +kernel
theorem dX6_price_33 : decode cX6_price 33 = .ok (.iconst 1, 1) := by decide +kernel
theorem dX6_price_34 : decode cX6_price 34 = .ok (.invokevirtual 239, 3) := by decide +kernel
theorem dX6_price_37 : decode cX6_price 37 = .ok (.aload_n 0, 1) := by decide +kernel
theorem dX6_price_38 : decode cX6_price 38 = .ok (.getfield 25, 3) := by decide +kernel
theorem dX6_price_41 : decode cX6_price 41 = .ok (.aload_n 0, 1) := by decide +kernel
theorem dX6_price_42 : decode cX6_price 42 = .ok (.getfield 16, 3) := by decide +kernel
theorem dX6_price_45 : decode cX6_price 45 = .ok (.iload_n 1, 1) := by decide +kernel
theorem dX6_price_46 : decode cX6_price 46 = .ok (.invokevirtual 202, 3) := by decide +kernel
theorem dX6_price_49 : decode cX6_price 49 = .ok (.aload_n 0, 1) := by decide +kernel
theorem dX6_price_50 : decode cX6_price 50 = .ok (.getfield 25, 3) := by decide +kernel
theorem dX6_price_53 : decode cX6_price 53 = .ok (.getfield 215, 3) := by decide +kernel
theorem dX6_price_56 : decode cX6_price 56 = .ok (.istore_n 2, 1) := by decide +kernel
theorem dX6_price_57 : decode cX6_price 57 = .ok (.aload_n 0, 1) := by decide +kernel
theorem dX6_price_58 : decode cX6_price 58 = .ok (.getfield 16, 3) := by decide +kernel
theorem dX6_price_61 : decode cX6_price 61 = .ok (.aload_n 0, 1) := by decide +kernel
theorem dX6_price_62 : decode cX6_price 62 = .ok (.getfield 10, 3) := by decide +kernel
theorem dX6_price_65 : decode cX6_price 65 = .ok (.invokevirtual 186, 3) := by decide +kernel
theorem dX6_price_68 : decode cX6_price 68 = .ok (.aload_n 0, 1) := by decide +kernel
theorem dX6_price_69 : decode cX6_price 69 = .ok (.getfield 16, 3) := by decide +kernel
theorem dX6_price_72 : decode cX6_price 72 = .ok (.iconst 0, 1) := by decide +kernel
theorem dX6_price_73 : decode cX6_price 73 = .ok (.invokevirtual 239, 3) := by decide +kernel
theorem dX6_price_76 : decode cX6_price 76 = .ok (.aload_n 0, 1) := by decide +kernel
theorem dX6_price_77 : decode cX6_price 77 = .ok (.getfield 25, 3) := by decide +kernel
theorem dX6_price_80 : decode cX6_price 80 = .ok (.aload_n 0, 1) := by decide +kernel
theorem dX6_price_81 : decode cX6_price 81 = .ok (.getfield 16, 3) := by decide +kernel
theorem dX6_price_84 : decode cX6_price 84 = .ok (.iload_n 1, 1) := by decide +kernel
theorem dX6_price_85 : decode cX6_price 85 = .ok (.invokevirtual 202, 3) := by decide +kernel
theorem dX6_price_88 : decode cX6_price 88 = .ok (.iload_n 2, 1) := by decide +kernel
theorem dX6_price_89 : decode cX6_price 89 = .ok (.aload_n 0, 1) := by decide +kernel
theorem dX6_price_90 : decode cX6_price 90 = .ok (.getfield 25, 3) := by decide +kernel
theorem dX6_price_93 : decode cX6_price 93 = .ok (.getfield 215, 3) := by decide +kernel
theorem dX6_price_96 : decode cX6_price 96 = .ok (.isub, 1) := by decide +kernel
theorem dX6_price_97 : decode cX6_price 97 = .ok (.ireturn, 1) := by decide +kernel
theorem dX6_lost_0 : decode cX6_lost 0 = .ok (.iload_n 1, 1) := by decide +kernel
theorem dX6_lost_1 : decode cX6_lost 1 = .ok (.invokestatic 199, 3) := by decide +kernel
theorem dX6_lost_4 : decode cX6_lost 4 = .ok (.ifCond .ne 10, 3) := by decide +kernel
theorem dX6_lost_7 : decode cX6_lost 7 = .ok (.aload_n 0, 1) := by decide +kernel
theorem dX6_lost_8 : decode cX6_lost 8 = .ok (.bipush (-6), 2) := by decide +kernel
theorem dX6_lost_10 : decode cX6_lost 10 = .ok (.invokevirtual 66, 3) := by decide +kernel
theorem dX6_lost_13 : decode cX6_lost 13 = .ok (.ireturn, 1) := by decide +kernel
theorem dX6_lost_14 : decode cX6_lost 14 = .ok (.aload_n 0, 1) := by decide +kernel
theorem dX6_lost_15 : decode cX6_lost 15 = .ok (.getfield 16, 3) := by decide +kernel
theorem dX6_lost_18 : decode cX6_lost 18 = .ok (.aload_n 0, 1) := by decide +kernel
theorem dX6_lost_19 : decode cX6_lost 19 = .ok (.getfield 10, 3) := by decide +kernel
theorem dX6_lost_22 : decode cX6_lost 22 = .ok (.invokevirtual 186, 3) := by decide +kernel
theorem dX6_lost_25 : decode cX6_lost 25 = .ok (.aload_n 0, 1) := by decide +kernel
theorem dX6_lost_26 : decode cX6_lost 26 = .ok (.getfield 25, 3) := by decide +kernel
theorem dX6_lost_29 : decode cX6_lost 29 = .ok (.aload_n 0, 1) := by decide +kernel
theorem dX6_lost_30 : decode cX6_lost 30 = .ok (.getfield 16, 3) := by decide +kernel
theorem dX6_lost_33 : decode cX6_lost 33 = .ok (.iload_n 1, 1) := by decide +kernel
theorem dX6_lost_34 : decode cX6_lost 34 = .ok (.invokevirtual 202, 3) := by decide +kernel
theorem dX6_lost_37 : decode cX6_lost 37 = .ok (.aload_n 0, 1) := by decide +kernel
theorem dX6_lost_38 : decode cX6_lost 38 = .ok (.getfield 10, 3) := by decide +kernel
theorem dX6_lost_41 : decode cX6_lost 41 = .ok (.invokevirtual 206, 3) := by decide +kernel
theorem dX6_lost_44 : decode cX6_lost 44 = .ok (.aload_n 0, 1) := by decide +kernel
theorem dX6_lost_45 : decode cX6_lost 45 = .ok (.getfield 16, 3) := by decide +kernel
theorem dX6_lost_48 : decode cX6_lost 48 = .ok (.invokevirtual 206, 3) := by decide +kernel
theorem dX6_lost_51 : decode cX6_lost 51 = .ok (.iconst (-1), 1) := by decide +kernel
theorem dX6_lost_52 : decode cX6_lost 52 = .ok (.ixor, 1) := by decide +kernel
theorem dX6_lost_53 : decode cX6_lost 53 = .ok (.iand, 1) := by decide +kernel
theorem dX6_lost_54 : decode cX6_lost 54 = .ok (.ireturn, 1) := by decide +kernel
theorem dX6_pairs_0 : decode cX6_pairs 0 = .ok (.iconst 0, 1) := by decide +kernel
theorem dX6_pairs_1 : decode cX6_pairs 1 = .ok (.istore_n 1, 1) := by decide +kernel
theorem dX6_pairs_2 : decode cX6_pairs 2 = .ok (.iconst 0, 1) := by decide +kernel
theorem dX6_pairs_3 : decode cX6_pairs 3 = .ok (.istore_n 2, 1) := by decide +kernel
theorem dX6_pairs_4 : decode cX6_pairs 4 = .ok (.iload_n 2, 1) := by decide +kernel
theorem dX6_pairs_5 : decode cX6_pairs 5 = .ok (.aload_n 0, 1) := by decide +kernel
theorem dX6_pairs_6 : decode cX6_pairs 6 = .ok (.getfield 10, 3) := by decide +kernel
theorem dX6_pairs_9 : decode cX6_pairs 9 = .ok (.getfield 233, 3) := by decide +kernel
theorem dX6_pairs_12 : decode cX6_pairs 12 = .ok (.if_icmp .ge 44, 3) := by decide +kernel
theorem dX6_pairs_15 : decode cX6_pairs 15 = .ok (.aload_n 0, 1) := by decide +kernel
theorem dX6_pairs_16 : decode cX6_pairs 16 = .ok (.getfield 10, 3) := by decide +kernel
theorem dX6_pairs_19 : decode cX6_pairs 19 = .ok (.iload_n 2, 1) := by decide +kernel
theorem dX6_pairs_20 : decode cX6_pairs 20 = .ok (.invokevirtual 129, 3) := by decide +kernel
theorem dX6_pairs_23 : decode cX6_pairs 23 = .ok (.getfield 151, 3) := by decide +kernel
theorem dX6_pairs_26 : decode cX6_pairs 26 = .ok (.istore_n 3, 1) := by decide +kernel
theorem dX6_pairs_27 : decode cX6_pairs 27 = .ok (.iload_n 3, 1) := by decide +kernel
theorem dX6_pairs_28 : decode cX6_pairs 28 = .ok (.iload_n 2, 1) := by decide +kernel
theorem dX6_pairs_29 : decode cX6_pairs 29 = .ok (.if_icmp .le 21, 3) := by decide +kernel
theorem dX6_pairs_32 : decode cX6_pairs 32 = .ok (.aload_n 0, 1) := by decide +kernel
theorem dX6_pairs_33 : decode cX6_pairs 33 = .ok (.getfield 10, 3) := by decide +kernel
theorem dX6_pairs_36 : decode cX6_pairs 36 = .ok (.iload_n 3, 1) := by decide +kernel
theorem dX6_pairs_37 : decode cX6_pairs 37 = .ok (.invokevirtual 129, 3) := by decide +kernel
theorem dX6_pairs_40 : decode cX6_pairs 40 = .ok (.getfield 151, 3) := by decide +kernel
theorem dX6_pairs_43 : decode cX6_pairs 43 = .ok (.iload_n 2, 1) := by decide +kernel
theorem dX6_pairs_44 : decode cX6_pairs 44 = .ok (.if_icmp .ne 6, 3) := by decide +kernel
theorem dX6_pairs_47 : decode cX6_pairs 47 = .ok (.iinc 1 1, 3) := by decide +kernel
theorem dX6_pairs_50 : decode cX6_pairs 50 = .ok (.iinc 2 1, 3) := by decide +kernel
theorem dX6_pairs_53 : decode cX6_pairs 53 = .ok (.goto (-49), 3) := by decide +kernel
theorem dX6_pairs_56 : decode cX6_pairs 56 = .ok (.iload_n 1, 1) := by decide +kernel
theorem dX6_pairs_57 : decode cX6_pairs 57 = .ok (.ireturn, 1) := by decide +kernel
theorem dX6_chain_0 : decode cX6_chain 0 = .ok (.aload_n 0, 1) := by decide +kernel
theorem dX6_chain_1 : decode cX6_chain 1 = .ok (.getfield 10, 3) := by decide +kernel
theorem dX6_chain_4 : decode cX6_chain 4 = .ok (.iload_n 1, 1) := by decide +kernel
theorem dX6_chain_5 : decode cX6_chain 5 = .ok (.invokevirtual 116, 3) := by decide +kernel
theorem dX6_chain_8 : decode cX6_chain 8 = .ok (.ifCond .ne 9, 3) := by decide +kernel
theorem dX6_chain_11 : decode cX6_chain 11 = .ok (.aload_n 0, 1) := by decide +kernel
theorem dX6_chain_12 : decode cX6_chain 12 = .ok (.iconst (-1), 1) := by decide +kernel
theorem dX6_chain_13 : decode cX6_chain 13 = .ok (.invokevirtual 66, 3) := by decide +kernel
theorem dX6_chain_16 : decode cX6_chain 16 = .ok (.ireturn, 1) := by decide +kernel
theorem dX6_chain_17 : decode cX6_chain 17 = .ok (.iconst 1, 1) := by decide +kernel
theorem dX6_chain_18 : decode cX6_chain 18 = .ok (.iload_n 1, 1) := by decide +kernel
theorem dX6_chain_19 : decode cX6_chain 19 = .ok (.ishl, 1) := by decide +kernel
theorem dX6_chain_20 : decode cX6_chain 20 = .ok (.istore_n 2, 1) := by decide +kernel
theorem dX6_chain_21 : decode cX6_chain 21 = .ok (.aload_n 0, 1) := by decide +kernel
theorem dX6_chain_22 : decode cX6_chain 22 = .ok (.getfield 10, 3) := by decide +kernel
theorem dX6_chain_25 : decode cX6_chain 25 = .ok (.iload_n 1, 1) := by decide +kernel
theorem dX6_chain_26 : decode cX6_chain 26 = .ok (.invokevirtual 129, 3) := by decide +kernel
theorem dX6_chain_29 : decode cX6_chain 29 = .ok (.getfield 151, 3) := by decide +kernel
theorem dX6_chain_32 : decode cX6_chain 32 = .ok (.istore_n 3, 1) := by decide +kernel
theorem dX6_chain_33 : decode cX6_chain 33 = .ok (.iconst 0, 1) := by decide +kernel
theorem dX6_chain_34 : decode cX6_chain 34 = .ok (.istore 4, 2) := by decide +kernel
theorem dX6_chain_36 : decode cX6_chain 36 = .ok (.iload 4, 2) := by decide +kernel
theorem dX6_chain_38 : decode cX6_chain 38 = .ok (.bipush 10, 2) := by decide +kernel
theorem dX6_chain_40 : decode cX6_chain 40 = .ok (.if_icmp .ge 46, 3) := by decide +kernel
theorem dX6_chain_43 : decode cX6_chain 43 = .ok (.aload_n 0, 1) := by decide +kernel
theorem dX6_chain_44 : decode cX6_chain 44 = .ok (.getfield 10, 3) := by decide +kernel
theorem dX6_chain_47 : decode cX6_chain 47 = .ok (.iload_n 3, 1) := by decide +kernel
theorem dX6_chain_48 : decode cX6_chain 48 = .ok (.invokevirtual 116, 3) := by decide +kernel
theorem dX6_chain_51 : decode cX6_chain 51 = .ok (.ifCond .eq 35, 3) := by decide +kernel
theorem dX6_chain_54 : decode cX6_chain 54 = .ok (.iload_n 2, 1) := by decide +kernel
theorem dX6_chain_55 : decode cX6_chain 55 = .ok (.iload_n 3, 1) := by decide +kernel
theorem dX6_chain_56 : decode cX6_chain 56 = .ok (.invokestatic 243, 3) := by decide +kernel
theorem dX6_chain_59 : decode cX6_chain 59 = .ok (.ifCond .ne 27, 3) := by decide +kernel
theorem dX6_chain_62 : decode cX6_chain 62 = .ok (.iload_n 2, 1) := by decide +kernel
theorem dX6_chain_63 : decode cX6_chain 63 = .ok (.iconst 1, 1) := by decide +kernel
theorem dX6_chain_64 : decode cX6_chain 64 = .ok (.iload_n 3, 1) := by decide +kernel
theorem dX6_chain_65 : decode cX6_chain 65 = .ok (.ishl, 1) := by decide +kernel
theorem dX6_chain_66 : decode cX6_chain 66 = .ok (.ior, 1) := by decide +kernel
theorem dX6_chain_67 : decode cX6_chain 67 = .ok (.istore_n 2, 1) := by decide +kernel
theorem dX6_chain_68 : decode cX6_chain 68 = .ok (.aload_n 0, 1) := by decide +kernel
theorem dX6_chain_69 : decode cX6_chain 69 = .ok (.getfield 10, 3) := by decide +kernel
theorem dX6_chain_72 : decode cX6_chain 72 = .ok (.iload_n 3, 1) := by decide +kernel
theorem dX6_chain_73 : decode cX6_chain 73 = .ok (.invokevirtual 129, 3) := by decide +kernel
theorem dX6_chain_76 : decode cX6_chain 76 = .ok (.getfield 151, 3) := by decide +kernel
theorem dX6_chain_79 : decode cX6_chain 79 = .ok (.istore_n 3, 1) := by decide +kernel
theorem dX6_chain_80 : decode cX6_chain 80 = .ok (.iinc 4 1, 3) := by decide +kernel
theorem dX6_chain_83 : decode cX6_chain 83 = .ok (.goto (-47), 3) := by decide +kernel
theorem dX6_chain_86 : decode cX6_chain 86 = .ok (.iload_n 2, 1) := by decide +kernel
theorem dX6_chain_87 : decode cX6_chain 87 = .ok (.invokestatic 210, 3) := by decide +kernel
theorem dX6_chain_90 : decode cX6_chain 90 = .ok (.iconst 1, 1) := by decide +kernel
theorem dX6_chain_91 : decode cX6_chain 91 = .ok (.isub, 1) := by decide +kernel
theorem dX6_chain_92 : decode cX6_chain 92 = .ok (.ireturn, 1) := by decide +kernel
theorem dX6_keeps_0 : decode cX6_keeps 0 = .ok (.aload_n 0, 1) := by decide +kernel
theorem dX6_keeps_1 : decode cX6_keeps 1 = .ok (.getfield 10, 3) := by decide +kernel
theorem dX6_keeps_4 : decode cX6_keeps 4 = .ok (.iload_n 1, 1) := by decide +kernel
theorem dX6_keeps_5 : decode cX6_keeps 5 = .ok (.invokevirtual 116, 3) := by decide +kernel
theorem dX6_keeps_8 : decode cX6_keeps 8 = .ok (.ifCond .ne 9, 3) := by decide +kernel
theorem dX6_keeps_11 : decode cX6_keeps 11 = .ok (.aload_n 0, 1) := by decide +kernel
theorem dX6_keeps_12 : decode cX6_keeps 12 = .ok (.iconst (-1), 1) := by decide +kernel
theorem dX6_keeps_13 : decode cX6_keeps 13 = .ok (.invokevirtual 66, 3) := by decide +kernel
theorem dX6_keeps_16 : decode cX6_keeps 16 = .ok (.ireturn, 1) := by decide +kernel
theorem dX6_keeps_17 : decode cX6_keeps 17 = .ok (.aload_n 0, 1) := by decide +kernel
theorem dX6_keeps_18 : decode cX6_keeps 18 = .ok (.getfield 10, 3) := by decide +kernel
theorem dX6_keeps_21 : decode cX6_keeps 21 = .ok (.iload_n 1, 1) := by decide +kernel
theorem dX6_keeps_22 : decode cX6_keeps 22 = .ok (.invokevirtual 129, 3) := by decide +kernel
theorem dX6_keeps_25 : decode cX6_keeps 25 = .ok (.getfield 166, 3) := by decide +kernel
theorem dX6_keeps_28 : decode cX6_keeps 28 = .ok (.ifCond .eq 10, 3) := by decide +kernel
theorem dX6_keeps_31 : decode cX6_keeps 31 = .ok (.aload_n 0, 1) := by decide +kernel
theorem dX6_keeps_32 : decode cX6_keeps 32 = .ok (.bipush (-6), 2) := by decide +kernel
theorem dX6_keeps_34 : decode cX6_keeps 34 = .ok (.invokevirtual 66, 3) := by decide +kernel
theorem dX6_keeps_37 : decode cX6_keeps 37 = .ok (.ireturn, 1) := by decide +kernel
theorem dX6_keeps_38 : decode cX6_keeps 38 = .ok (.aload_n 0, 1) := by decide +kernel
theorem dX6_keeps_39 : decode cX6_keeps 39 = .ok (.iload_n 1, 1) := by decide +kernel
theorem dX6_keeps_40 : decode cX6_keeps 40 = .ok (.invokevirtual 246, 3) := by decide +kernel
theorem dX6_keeps_43 : decode cX6_keeps 43 = .ok (.ireturn, 1) := by decide +kernel
theorem dX6_keep_0 : decode cX6_keep 0 = .ok (.iconst (-1), 1) := by decide +kernel
theorem dX6_keep_1 : decode cX6_keep 1 = .ok (.istore_n 1, 1) := by decide +kernel
theorem dX6_keep_2 : decode cX6_keep 2 = .ok (.iconst (-1), 1) := by decide +kernel
theorem dX6_keep_3 : decode cX6_keep 3 = .ok (.istore_n 2, 1) := by decide +kernel
theorem dX6_keep_4 : decode cX6_keep 4 = .ok (.iconst 0, 1) := by decide +kernel
theorem dX6_keep_5 : decode cX6_keep 5 = .ok (.istore_n 3, 1) := by decide +kernel
theorem dX6_keep_6 : decode cX6_keep 6 = .ok (.iload_n 3, 1) := by decide +kernel
theorem dX6_keep_7 : decode cX6_keep 7 = .ok (.aload_n 0, 1) := by decide +kernel
theorem dX6_keep_8 : decode cX6_keep 8 = .ok (.getfield 10, 3) := by decide +kernel
theorem dX6_keep_11 : decode cX6_keep 11 = .ok (.getfield 233, 3) := by decide +kernel
theorem dX6_keep_14 : decode cX6_keep 14 = .ok (.if_icmp .ge 45, 3) := by decide +kernel
theorem dX6_keep_17 : decode cX6_keep 17 = .ok (.aload_n 0, 1) := by decide +kernel
theorem dX6_keep_18 : decode cX6_keep 18 = .ok (.getfield 10, 3) := by decide +kernel
theorem dX6_keep_21 : decode cX6_keep 21 = .ok (.iload_n 3, 1) := by decide +kernel
theorem dX6_keep_22 : decode cX6_keep 22 = .ok (.invokevirtual 129, 3) := by decide +kernel
theorem dX6_keep_25 : decode cX6_keep 25 = .ok (.getfield 166, 3) := by decide +kernel
theorem dX6_keep_28 : decode cX6_keep 28 = .ok (.ifCond .eq 7, 3) := by decide +kernel
theorem dX6_keep_31 : decode cX6_keep 31 = .ok (.iconst (-1), 1) := by decide +kernel
theorem dX6_keep_32 : decode cX6_keep 32 = .ok (.goto 8, 3) := by decide +kernel
theorem dX6_keep_35 : decode cX6_keep 35 = .ok (.aload_n 0, 1) := by decide +kernel
theorem dX6_keep_36 : decode cX6_keep 36 = .ok (.iload_n 3, 1) := by decide +kernel
theorem dX6_keep_37 : decode cX6_keep 37 = .ok (.invokevirtual 246, 3) := by decide +kernel
theorem dX6_keep_40 : decode cX6_keep 40 = .ok (.istore 4, 2) := by decide +kernel
theorem dX6_keep_42 : decode cX6_keep 42 = .ok (.iload 4, 2) := by decide +kernel
theorem dX6_keep_44 : decode cX6_keep 44 = .ok (.iload_n 2, 1) := by decide +kernel
theorem dX6_keep_45 : decode cX6_keep 45 = .ok (.if_icmp .le 8, 3) := by decide +kernel
theorem dX6_keep_48 : decode cX6_keep 48 = .ok (.iload 4, 2) := by decide +kernel
theorem dX6_keep_50 : decode cX6_keep 50 = .ok (.istore_n 2, 1) := by decide +kernel
theorem dX6_keep_51 : decode cX6_keep 51 = .ok (.iload_n 3, 1) := by decide +kernel
theorem dX6_keep_52 : decode cX6_keep 52 = .ok (.istore_n 1, 1) := by decide +kernel
theorem dX6_keep_53 : decode cX6_keep 53 = .ok (.iinc 3 1, 3) := by decide +kernel
theorem dX6_keep_56 : decode cX6_keep 56 = .ok (.goto (-50), 3) := by decide +kernel
theorem dX6_keep_59 : decode cX6_keep 59 = .ok (.iload_n 1, 1) := by decide +kernel
theorem dX6_keep_60 : decode cX6_keep 60 = .ok (.ireturn, 1) := by decide +kernel
theorem dX6_friends_0 : decode cX6_friends 0 = .ok (.aload_n 0, 1) := by decide +kernel
theorem dX6_friends_1 : decode cX6_friends 1 = .ok (.getfield 10, 3) := by decide +kernel
theorem dX6_friends_4 : decode cX6_friends 4 = .ok (.iload_n 3, 1) := by decide +kernel
theorem dX6_friends_5 : decode cX6_friends 5 = .ok (.invokevirtual 116, 3) := by decide +kernel
theorem dX6_friends_8 : decode cX6_friends 8 = .ok (.ifCond .eq 12, 3) := by decide +kernel
theorem dX6_friends_11 : decode cX6_friends 11 = .ok (.aload_n 0, 1) := by decide +kernel
theorem dX6_friends_12 : decode cX6_friends 12 = .ok (.iload_n 1, 1) := by decide +kernel
theorem dX6_friends_13 : decode cX6_friends 13 = .ok (.iload_n 2, 1) := by decide +kernel
theorem dX6_friends_14 : decode cX6_friends 14 = .ok (.invokevirtual 249, 3) := by decide +kernel
theorem dX6_friends_17 : decode cX6_friends 17 = .ok (.goto 4, 3) := by decide +kernel
theorem dX6_friends_20 : decode cX6_friends 20 = .ok (.iconst (-1), 1) := by decide +kernel
theorem dX6_friends_21 : decode cX6_friends 21 = .ok (.istore 4, 2) := by decide +kernel
theorem dX6_friends_23 : decode cX6_friends 23 = .ok (.iload 4, 2) := by decide +kernel
theorem dX6_friends_25 : decode cX6_friends 25 = .ok (.ifCond .eq 10, 3) := by decide +kernel
theorem dX6_friends_28 : decode cX6_friends 28 = .ok (.aload_n 0, 1) := by decide +kernel
theorem dX6_friends_29 : decode cX6_friends 29 = .ok (.iload 4, 2) := by decide +kernel
theorem dX6_friends_31 : decode cX6_friends 31 = .ok (.invokevirtual 66, 3) := by decide +kernel
theorem dX6_friends_34 : decode cX6_friends 34 = .ok (.ireturn, 1) := by decide +kernel
theorem dX6_friends_35 : decode cX6_friends 35 = .ok (.iconst 0, 1) := by decide +kernel
theorem dX6_friends_36 : decode cX6_friends 36 = .ok (.istore 5, 2) := by decide +kernel
theorem dX6_friends_38 : decode cX6_friends 38 = .ok (.iconst (-1), 1) := by decide +kernel
theorem dX6_friends_39 : decode cX6_friends 39 = .ok (.istore 6, 2) := by decide +kernel
theorem dX6_friends_41 : decode cX6_friends 41 = .ok (.iload 6, 2) := by decide +kernel
theorem dX6_friends_43 : decode cX6_friends 43 = .ok (.aload_n 0, 1) := by decide +kernel
theorem dX6_friends_44 : decode cX6_friends 44 = .ok (.getfield 10, 3) := by decide +kernel
theorem dX6_friends_47 : decode cX6_friends 47 = .ok (.getfield 233, 3) := by decide +kernel
theorem dX6_friends_50 : decode cX6_friends 50 = .ok (.if_icmp .ge 88, 3) := by decide +kernel
theorem dX6_friends_53 : decode cX6_friends 53 = .ok (.iload 6, 2) := by decide +kernel
theorem dX6_friends_55 : decode cX6_friends 55 = .ok (.iload_n 3, 1) := by decide +kernel
theorem dX6_friends_56 : decode cX6_friends 56 = .ok (.if_icmp .ne 6, 3) := by decide +kernel
theorem dX6_friends_59 : decode cX6_friends 59 = .ok (.goto 73, 3) := by decide +kernel
theorem dX6_friends_62 : decode cX6_friends 62 = .ok (.aload_n 0, 1) := by decide +kernel
theorem dX6_friends_63 : decode cX6_friends 63 = .ok (.getfield 16, 3) := by decide +kernel
theorem dX6_friends_66 : decode cX6_friends 66 = .ok (.aload_n 0, 1) := by decide +kernel
theorem dX6_friends_67 : decode cX6_friends 67 = .ok (.getfield 10, 3) := by decide +kernel
theorem dX6_friends_70 : decode cX6_friends 70 = .ok (.invokevirtual 186, 3) := by decide +kernel
theorem dX6_friends_73 : decode cX6_friends 73 = .ok (.aload_n 0, 1) := by decide +kernel
theorem dX6_friends_74 : decode cX6_friends 74 = .ok (.getfield 16, 3) := by decide +kernel
theorem dX6_friends_77 : decode cX6_friends 77 = .ok (.iload_n 3, 1) := by decide +kernel
theorem dX6_friends_78 : decode cX6_friends 78 = .ok (.invokevirtual 129, 3) := by decide +kernel
theorem dX6_friends_81 : decode cX6_friends 81 = .ok (.iload 6, 2) := by decide +kernel
theorem dX6_friends_83 : decode cX6_friends 83 = .ok (.putfield 151, 3) := by decide +kernel
theorem dX6_friends_86 : decode cX6_friends 86 = .ok (.aload_n 0, 1) := by decide +kernel
theorem dX6_friends_87 : decode cX6_friends 87 = .ok (.getfield 25, 3) := by decide +kernel
theorem dX6_friends_90 : decode cX6_friends 90 = .ok (.aload_n 0, 1) := by decide +kernel
theorem dX6_friends_91 : decode cX6_friends 91 = .ok (.getfield 16, 3) := by decide +kernel
theorem dX6_friends_94 : decode cX6_friends 94 = .ok (.aload_n 0, 1) := by decide +kernel
theorem dX6_friends_95 : decode cX6_friends 95 = .ok (.iload_n 1, 1) := by decide +kernel
theorem dX6_friends_96 : decode cX6_friends 96 = .ok (.invokevirtual 70, 3) := by decide +kernel
theorem dX6_friends_99 : decode cX6_friends 99 = .ok (.iload_n 2, 1) := by decide +kernel
theorem dX6_friends_100 : decode cX6_friends 100 = .ok (.invokevirtual 253, 3) := by decide +kernel
theorem dX6_friends_103 : decode cX6_friends 103 = .ok (.iconst (-1), 1) := by decide +kernel
theorem dX6_friends_104 : decode cX6_friends 104 = .ok (.if_icmp .ne 28, 3) := by decide +kernel
theorem dX6_friends_107 : decode cX6_friends 107 = .ok (.iload 5, 2) := by decide +kernel
theorem dX6_friends_109 : decode cX6_friends 109 = .ok (.iconst 1, 1) := by decide +kernel
theorem dX6_friends_110 : decode cX6_friends 110 = .ok (.iload 6, 2) := by decide +kernel
theorem dX6_friends_112 : decode cX6_friends 112 = .ok (.iconst (-1), 1) := by decide +kernel
theorem dX6_friends_113 : decode cX6_friends 113 = .ok (.if_icmp .ne 13, 3) := by decide +kernel
theorem dX6_friends_116 : decode cX6_friends 116 = .ok (.aload_n 0, 1) := by decide +kernel
theorem dX6_friends_117 : decode cX6_friends 117 = .ok (.getfield 10, 3) := by decide +kernel
theorem dX6_friends_120 : decode cX6_friends 120 = .ok (.getfield 233, 3) := by decide +kernel
theorem dX6_friends_123 : decode cX6_friends 123 = .ok (.goto 5, 3) := by decide +kernel
theorem dX6_friends_126 : decode cX6_friends 126 = .ok (.iload 6, 2) := by decide +kernel
theorem dX6_friends_128 : decode cX6_friends 128 = .ok (.ishl, 1) := by decide +kernel
theorem dX6_friends_129 : decode cX6_friends 129 = .ok (.ior, 1) := by decide +kernel
theorem dX6_friends_130 : decode cX6_friends 130 = .ok (.istore 5, 2) := by decide +kernel
theorem dX6_friends_132 : decode cX6_friends 132 = .ok (.iinc 6 1, 3) := by decide +kernel
theorem dX6_friends_135 : decode cX6_friends 135 = .ok (.goto (-94), 3) := by decide +kernel
theorem dX6_friends_138 : decode cX6_friends 138 = .ok (.iload 5, 2) := by decide +kernel
theorem dX6_friends_140 : decode cX6_friends 140 = .ok (.ireturn, 1) := by decide +kernel
theorem dX6_judge_0 : decode cX6_judge 0 = .ok (.aload_n 0, 1) := by decide +kernel
theorem dX6_judge_1 : decode cX6_judge 1 = .ok (.iload_n 1, 1) := by decide +kernel
theorem dX6_judge_2 : decode cX6_judge 2 = .ok (.iload_n 2, 1) := by decide +kernel
theorem dX6_judge_3 : decode cX6_judge 3 = .ok (.invokevirtual 249, 3) := by decide +kernel
theorem dX6_judge_6 : decode cX6_judge 6 = .ok (.istore_n 3, 1) := by decide +kernel
theorem dX6_judge_7 : decode cX6_judge 7 = .ok (.iload_n 3, 1) := by decide +kernel
theorem dX6_judge_8 : decode cX6_judge 8 = .ok (.ifCond .eq 12, 3) := by decide +kernel
theorem dX6_judge_11 : decode cX6_judge 11 = .ok (.aload_n 0, 1) := by decide +kernel
theorem dX6_judge_12 : decode cX6_judge 12 = .ok (.iload_n 3, 1) := by decide +kernel
theorem dX6_judge_13 : decode cX6_judge 13 = .ok (.invokevirtual 66, 3) := by decide +kernel
theorem dX6_judge_16 : decode cX6_judge 16 = .ok (.bipush 10, 2) := by decide +kernel
theorem dX6_judge_18 : decode cX6_judge 18 = .ok (.isub, 1) := by decide +kernel
theorem dX6_judge_19 : decode cX6_judge 19 = .ok (.ireturn, 1) := by decide +kernel
theorem dX6_judge_20 : decode cX6_judge 20 = .ok (.aload_n 0, 1) := by decide +kernel
theorem dX6_judge_21 : decode cX6_judge 21 = .ok (.getfield 16, 3) := by decide +kernel
theorem dX6_judge_24 : decode cX6_judge 24 = .ok (.aload_n 0, 1) := by decide +kernel
theorem dX6_judge_25 : decode cX6_judge 25 = .ok (.getfield 10, 3) := by decide +kernel
theorem dX6_judge_28 : decode cX6_judge 28 = .ok (.invokevirtual 186, 3) := by decide +kernel
theorem dX6_judge_31 : decode cX6_judge 31 = .ok (.aload_n 0, 1) := by decide +kernel
theorem dX6_judge_32 : decode cX6_judge 32 = .ok (.getfield 25, 3) := by decide +kernel
theorem dX6_judge_35 : decode cX6_judge 35 = .ok (.aload_n 0, 1) := by decide +kernel
theorem dX6_judge_36 : decode cX6_judge 36 = .ok (.getfield 16, 3) := by decide +kernel
theorem dX6_judge_39 : decode cX6_judge 39 = .ok (.aload_n 0, 1) := by decide +kernel
theorem dX6_judge_40 : decode cX6_judge 40 = .ok (.iload_n 1, 1) := by decide +kernel
theorem dX6_judge_41 : decode cX6_judge 41 = .ok (.invokevirtual 70, 3) := by decide +kernel
theorem dX6_judge_44 : decode cX6_judge 44 = .ok (.iload_n 2, 1) := by decide +kernel
theorem dX6_judge_45 : decode cX6_judge 45 = .ok (.invokevirtual 253, 3) := by decide +kernel
theorem dX6_judge_48 : decode cX6_judge 48 = .ok (.ireturn, 1) := by decide +kernel
theorem dX6_evenings_0 : decode cX6_evenings 0 = .ok (.iload_n 1, 1) := by decide +kernel
theorem dX6_evenings_1 : decode cX6_evenings 1 = .ok (.ifCond .eq 10, 3) := by decide +kernel
theorem dX6_evenings_4 : decode cX6_evenings 4 = .ok (.iload_n 1, 1) := by decide +kernel
theorem dX6_evenings_5 : decode cX6_evenings 5 = .ok (.invokestatic 199, 3) := by decide +kernel
theorem dX6_evenings_8 : decode cX6_evenings 8 = .ok (.ifCond .ne 10, 3) := by decide +kernel
theorem dX6_evenings_11 : decode cX6_evenings 11 = .ok (.aload_n 0, 1) := by decide +kernel
theorem dX6_evenings_12 : decode cX6_evenings 12 = .ok (.bipush (-6), 2) := by decide +kernel
theorem dX6_evenings_14 : decode cX6_evenings 14 = .ok (.invokevirtual 66, 3) := by decide +kernel
theorem dX6_evenings_17 : decode cX6_evenings 17 = .ok (.ireturn, 1) := by decide +kernel
theorem dX6_evenings_18 : decode cX6_evenings 18 = .ok (.aload_n 0, 1) := by decide +kernel
theorem dX6_evenings_19 : decode cX6_evenings 19 = .ok (.getfield 25, 3) := by decide +kernel
theorem dX6_evenings_22 : decode cX6_evenings 22 = .ok (.aload_n 0, 1) := by decide +kernel
theorem dX6_evenings_23 : decode cX6_evenings 23 = .ok (.getfield 10, 3) := by decide +kernel
theorem dX6_evenings_26 : decode cX6_evenings 26 = .ok (.iload_n 1, 1) := by decide +kernel
theorem dX6_evenings_27 : decode cX6_evenings 27 = .ok (.invokevirtual 202, 3) := by decide +kernel
theorem dX6_evenings_30 : decode cX6_evenings 30 = .ok (.aload_n 0, 1) := by decide +kernel
theorem dX6_evenings_31 : decode cX6_evenings 31 = .ok (.getfield 25, 3) := by decide +kernel
theorem dX6_evenings_34 : decode cX6_evenings 34 = .ok (.getfield 215, 3) := by decide +kernel
theorem dX6_evenings_37 : decode cX6_evenings 37 = .ok (.ireturn, 1) := by decide +kernel
theorem dX6_drawn_0 : decode cX6_drawn 0 = .ok (.iload_n 1, 1) := by decide +kernel
theorem dX6_drawn_1 : decode cX6_drawn 1 = .ok (.ifCond .eq 10, 3) := by decide +kernel
theorem dX6_drawn_4 : decode cX6_drawn 4 = .ok (.iload_n 1, 1) := by decide +kernel
theorem dX6_drawn_5 : decode cX6_drawn 5 = .ok (.invokestatic 199, 3) := by decide +kernel
theorem dX6_drawn_8 : decode cX6_drawn 8 = .ok (.ifCond .ne 10, 3) := by decide +kernel
theorem dX6_drawn_11 : decode cX6_drawn 11 = .ok (.aload_n 0, 1) := by decide +kernel
theorem dX6_drawn_12 : decode cX6_drawn 12 = .ok (.bipush (-6), 2) := by decide +kernel
theorem dX6_drawn_14 : decode cX6_drawn 14 = .ok (.invokevirtual 66, 3) := by decide +kernel
theorem dX6_drawn_17 : decode cX6_drawn 17 = .ok (.ireturn, 1) := by decide +kernel
theorem dX6_drawn_18 : decode cX6_drawn 18 = .ok (.iconst 0, 1) := by decide +kernel
theorem dX6_drawn_19 : decode cX6_drawn 19 = .ok (.istore_n 2, 1) := by decide +kernel
theorem dX6_drawn_20 : decode cX6_drawn 20 = .ok (.iconst 0, 1) := by decide +kernel
theorem dX6_drawn_21 : decode cX6_drawn 21 = .ok (.istore_n 3, 1) := by decide +kernel
theorem dX6_drawn_22 : decode cX6_drawn 22 = .ok (.iload_n 3, 1) := by decide +kernel
theorem dX6_drawn_23 : decode cX6_drawn 23 = .ok (.iload_n 1, 1) := by decide +kernel
theorem dX6_drawn_24 : decode cX6_drawn 24 = .ok (.if_icmp .ge 48, 3) := by decide +kernel
theorem dX6_drawn_27 : decode cX6_drawn 27 = .ok (.aload_n 0, 1) := by decide +kernel
theorem dX6_drawn_28 : decode cX6_drawn 28 = .ok (.getfield 10, 3) := by decide +kernel
theorem dX6_drawn_31 : decode cX6_drawn 31 = .ok (.iconst 1, 1) := by decide +kernel
theorem dX6_drawn_32 : decode cX6_drawn 32 = .ok (.aload_n 0, 1) := by decide +kernel
theorem dX6_drawn_33 : decode cX6_drawn 33 = .ok (.getfield 10, 3) := by decide +kernel
theorem dX6_drawn_36 : decode cX6_drawn 36 = .ok (.bipush 10, 2) := by decide +kernel
theorem dX6_drawn_38 : decode cX6_drawn 38 = .ok (.invokevirtual 257, 3) := by decide +kernel
theorem dX6_drawn_41 : decode cX6_drawn 41 = .ok (.invokevirtual 163, 3) := by decide +kernel
theorem dX6_drawn_44 : decode cX6_drawn 44 = .ok (.aload_n 0, 1) := by decide +kernel
theorem dX6_drawn_45 : decode cX6_drawn 45 = .ok (.getfield 25, 3) := by decide +kernel
theorem dX6_drawn_48 : decode cX6_drawn 48 = .ok (.aload_n 0, 1) := by decide +kernel
theorem dX6_drawn_49 : decode cX6_drawn 49 = .ok (.getfield 10, 3) := by decide +kernel
theorem dX6_drawn_52 : decode cX6_drawn 52 = .ok (.iconst 1, 1) := by decide +kernel
theorem dX6_drawn_53 : decode cX6_drawn 53 = .ok (.invokevirtual 202, 3) := by decide +kernel
theorem dX6_drawn_56 : decode cX6_drawn 56 = .ok (.iload_n 2, 1) := by decide +kernel
theorem dX6_drawn_57 : decode cX6_drawn 57 = .ok (.aload_n 0, 1) := by decide +kernel
theorem dX6_drawn_58 : decode cX6_drawn 58 = .ok (.getfield 25, 3) := by decide +kernel
theorem dX6_drawn_61 : decode cX6_drawn 61 = .ok (.getfield 215, 3) := by decide +kernel
theorem dX6_drawn_64 : decode cX6_drawn 64 = .ok (.iadd, 1) := by decide +kernel
theorem dX6_drawn_65 : decode cX6_drawn 65 = .ok (.istore_n 2, 1) := by decide +kernel
theorem dX6_drawn_66 : decode cX6_drawn 66 = .ok (.iinc 3 1, 3) := by decide +kernel
theorem dX6_drawn_69 : decode cX6_drawn 69 = .ok (.goto (-47), 3) := by decide +kernel
theorem dX6_drawn_72 : decode cX6_drawn 72 = .ok (.iload_n 2, 1) := by decide +kernel
theorem dX6_drawn_73 : decode cX6_drawn 73 = .ok (.ireturn, 1) := by decide +kernel
theorem dX6_seed_0 : decode cX6_seed 0 = .ok (.aload_n 0, 1) := by decide +kernel
theorem dX6_seed_1 : decode cX6_seed 1 = .ok (.getfield 10, 3) := by decide +kernel
theorem dX6_seed_4 : decode cX6_seed 4 = .ok (.getfield 260, 3) := by decide +kernel
theorem dX6_seed_7 : decode cX6_seed 7 = .ok (.istore_n 2, 1) := by decide +kernel
theorem dX6_seed_8 : decode cX6_seed 8 = .ok (.aload_n 0, 1) := by decide +kernel
theorem dX6_seed_9 : decode cX6_seed 9 = .ok (.getfield 10, 3) := by decide +kernel
theorem dX6_seed_12 : decode cX6_seed 12 = .ok (.iload_n 1, 1) := by decide +kernel
theorem dX6_seed_13 : decode cX6_seed 13 = .ok (.putfield 260, 3) := by decide +kernel
theorem dX6_seed_16 : decode cX6_seed 16 = .ok (.iload_n 2, 1) := by decide +kernel
theorem dX6_seed_17 : decode cX6_seed 17 = .ok (.ireturn, 1) := by decide +kernel
theorem dX6_act_0 : decode cX6_act 0 = .ok (.aload_n 0, 1) := by decide +kernel
theorem dX6_act_1 : decode cX6_act 1 = .ok (.getfield 50, 3) := by decide +kernel
theorem dX6_act_4 : decode cX6_act 4 = .ok (.invokevirtual 263, 3) := by decide +kernel
theorem dX6_act_7 : decode cX6_act 7 = .ok (.aload_n 0, 1) := by decide +kernel
theorem dX6_act_8 : decode cX6_act 8 = .ok (.getfield 10, 3) := by decide +kernel
theorem dX6_act_11 : decode cX6_act 11 = .ok (.iload_n 1, 1) := by decide +kernel
theorem dX6_act_12 : decode cX6_act 12 = .ok (.invokevirtual 116, 3) := by decide +kernel
theorem dX6_act_15 : decode cX6_act 15 = .ok (.ifCond .eq 10, 3) := by decide +kernel
theorem dX6_act_18 : decode cX6_act 18 = .ok (.iload_n 2, 1) := by decide +kernel
theorem dX6_act_19 : decode cX6_act 19 = .ok (.invokestatic 266, 3) := by decide +kernel
theorem dX6_act_22 : decode cX6_act 22 = .ok (.ifCond .ne 5, 3) := by decide +kernel
theorem dX6_act_25 : decode cX6_act 25 = .ok (.iconst 0, 1) := by decide +kernel
theorem dX6_act_26 : decode cX6_act 26 = .ok (.ireturn, 1) := by decide +kernel
theorem dX6_act_27 : decode cX6_act 27 = .ok (.aload_n 0, 1) := by decide +kernel
theorem dX6_act_28 : decode cX6_act 28 = .ok (.getfield 50, 3) := by decide +kernel
theorem dX6_act_31 : decode cX6_act 31 = .ok (.iload_n 1, 1) := by decide +kernel
theorem dX6_act_32 : decode cX6_act 32 = .ok (.aload_n 0, 1) := by decide +kernel
theorem dX6_act_33 : decode cX6_act 33 = .ok (.getfield 10, 3) := by decide +kernel
theorem dX6_act_36 : decode cX6_act 36 = .ok (.iload_n 1, 1) := by decide +kernel
theorem dX6_act_37 : decode cX6_act 37 = .ok (.invokevirtual 129, 3) := by decide +kernel
theorem dX6_act_40 : decode cX6_act 40 = .ok (.iload_n 2, 1) := by decide +kernel
theorem dX6_act_41 : decode cX6_act 41 = .ok (.iload_n 3, 1) := by decide +kernel
theorem dX6_act_42 : decode cX6_act 42 = .ok (.invokevirtual 269, 3) := by decide +kernel
theorem dX6_act_45 : decode cX6_act 45 = .ok (.ireturn, 1) := by decide +kernel
theorem dX6_trace_0 : decode cX6_trace 0 = .ok (.aload_n 0, 1) := by decide +kernel
theorem dX6_trace_1 : decode cX6_trace 1 = .ok (.getfield 50, 3) := by decide +kernel
theorem dX6_trace_4 : decode cX6_trace 4 = .ok (.iload_n 1, 1) := by decide +kernel
theorem dX6_trace_5 : decode cX6_trace 5 = .ok (.invokevirtual 273, 3) := by decide +kernel
theorem dX6_trace_8 : decode cX6_trace 8 = .ok (.ireturn, 1) := by decide +kernel
theorem dX6_image_0 : decode cX6_image 0 = .ok (.aload_n 0, 1) := by decide +kernel
theorem dX6_image_1 : decode cX6_image 1 = .ok (.getfield 19, 3) := by decide +kernel
theorem dX6_image_4 : decode cX6_image 4 = .ok (.aload_n 0, 1) := by decide +kernel
theorem dX6_image_5 : decode cX6_image 5 = .ok (.getfield 10, 3) := by decide +kernel
theorem dX6_image_8 : decode cX6_image 8 = .ok (.invokevirtual 186, 3) := by decide +kernel
theorem dX6_image_11 : decode cX6_image 11 = .ok (.aload_n 0, 1) := by decide +kernel
theorem dX6_image_12 : decode cX6_image 12 = .ok (.iconst 1, 1) := by decide +kernel
theorem dX6_image_13 : decode cX6_image 13 = .ok (.putfield 276, 3) := by decide +kernel
theorem dX6_image_16 : decode cX6_image 16 = .ok (.aload_n 0, 1) := by decide +kernel
theorem dX6_image_17 : decode cX6_image 17 = .ok (.getfield 10, 3) := by decide +kernel
theorem dX6_image_20 : decode cX6_image 20 = .ok (.getfield 233, 3) := by decide +kernel
theorem dX6_image_23 : decode cX6_image 23 = .ok (.ireturn, 1) := by decide +kernel
theorem dX6_restore_0 : decode cX6_restore 0 = .ok (.aload_n 0, 1) := by decide +kernel
theorem dX6_restore_1 : decode cX6_restore 1 = .ok (.getfield 276, 3) := by decide +kernel
theorem dX6_restore_4 : decode cX6_restore 4 = .ok (.ifCond .ne 10, 3) := by decide +kernel
theorem dX6_restore_7 : decode cX6_restore 7 = .ok (.aload_n 0, 1) := by decide +kernel
theorem dX6_restore_8 : decode cX6_restore 8 = .ok (.bipush (-6), 2) := by decide +kernel
theorem dX6_restore_10 : decode cX6_restore 10 = .ok (.invokevirtual 66, 3) := by decide +kernel
theorem dX6_restore_13 : decode cX6_restore 13 = .ok (.ireturn, 1) := by decide +kernel
theorem dX6_restore_14 : decode cX6_restore 14 = .ok (.aload_n 0, 1) := by decide +kernel
theorem dX6_restore_15 : decode cX6_restore 15 = .ok (.getfield 10, 3) := by decide +kernel
theorem dX6_restore_18 : decode cX6_restore 18 = .ok (.aload_n 0, 1) := by decide +kernel
theorem dX6_restore_19 : decode cX6_restore 19 = .ok (.getfield 19, 3) := by decide +kernel
theorem dX6_restore_22 : decode cX6_restore 22 = .ok (.invokevirtual 186, 3) := by decide +kernel
theorem dX6_restore_25 : decode cX6_restore 25 = .ok (.iconst 0, 1) := by decide +kernel
theorem dX6_restore_26 : decode cX6_restore 26 = .ok (.istore_n 1, 1) := by decide +kernel
theorem dX6_restore_27 : decode cX6_restore 27 = .ok (.iload_n 1, 1) := by decide +kernel
theorem dX6_restore_28 : decode cX6_restore 28 = .ok (.bipush 8, 2) := by decide +kernel
theorem dX6_restore_30 : decode cX6_restore 30 = .ok (.if_icmp .ge 41, 3) := by decide +kernel
theorem dX6_restore_33 : decode cX6_restore 33 = .ok (.aload_n 0, 1) := by decide +kernel
theorem dX6_restore_34 : decode cX6_restore 34 = .ok (.iload_n 1, 1) := by decide +kernel
theorem dX6_restore_35 : decode cX6_restore 35 = .ok (.invokevirtual 70, 3) := by decide +kernel
theorem dX6_restore_38 : decode cX6_restore 38 = .ok (.astore_n 2, 1) := by decide +kernel
theorem dX6_restore_39 : decode cX6_restore 39 = .ok (.aload_n 2, 1) := by decide +kernel
theorem dX6_restore_40 : decode cX6_restore 40 = .ok (.invokevirtual 92, 3) := by decide +kernel
theorem dX6_restore_43 : decode cX6_restore 43 = .ok (.ifCond .eq 22, 3) := by decide +kernel
theorem dX6_restore_46 : decode cX6_restore 46 = .ok (.aload_n 0, 1) := by decide +kernel
theorem dX6_restore_47 : decode cX6_restore 47 = .ok (.getfield 10, 3) := by decide +kernel
theorem dX6_restore_50 : decode cX6_restore 50 = .ok (.aload_n 2, 1) := by decide +kernel
theorem dX6_restore_51 : decode cX6_restore 51 = .ok (.getfield 123, 3) := by decide +kernel
theorem dX6_restore_54 : decode cX6_restore 54 = .ok (.invokevirtual 116, 3) := by decide +kernel
theorem dX6_restore_57 : decode cX6_restore 57 = .ok (.ifCond .ne 8, 3) := by decide +kernel
theorem dX6_restore_60 : decode cX6_restore 60 = .ok (.aload_n 2, 1) := by decide +kernel
theorem dX6_restore_61 : decode cX6_restore 61 = .ok (.iconst (-1), 1) := by decide +kernel
theorem dX6_restore_62 : decode cX6_restore 62 = .ok (.invokevirtual 119, 3) := by decide +kernel
theorem dX6_restore_65 : decode cX6_restore 65 = .ok (.iinc 1 1, 3) := by decide +kernel
theorem dX6_restore_68 : decode cX6_restore 68 = .ok (.goto (-41), 3) := by decide +kernel
theorem dX6_restore_71 : decode cX6_restore 71 = .ok (.aload_n 0, 1) := by decide +kernel
theorem dX6_restore_72 : decode cX6_restore 72 = .ok (.getfield 10, 3) := by decide +kernel
theorem dX6_restore_75 : decode cX6_restore 75 = .ok (.getfield 233, 3) := by decide +kernel
theorem dX6_restore_78 : decode cX6_restore 78 = .ok (.ireturn, 1) := by decide +kernel
theorem dX6_status_0 : decode cX6_status 0 = .ok (.iload_n 1, 1) := by decide +kernel
theorem dX6_status_1 : decode cX6_status 1 = .ok (.tableswitch 125 0 9 #[55, 63, 63, 63, 63, 74, 82, 101, 109, 117], 55) := by decide +kernel
theorem dX6_status_56 : decode cX6_status 56 = .ok (.aload_n 0, 1) := by decide +kernel
theorem dX6_status_57 : decode cX6_status 57 = .ok (.getfield 10, 3) := by decide +kernel
theorem dX6_status_60 : decode cX6_status 60 = .ok (.getfield 233, 3) := by decide +kernel
theorem dX6_status_63 : decode cX6_status 63 = .ok (.ireturn, 1) := by decide +kernel
theorem dX6_status_64 : decode cX6_status 64 = .ok (.aload_n 0, 1) := by decide +kernel
theorem dX6_status_65 : decode cX6_status 65 = .ok (.getfield 10, 3) := by decide +kernel
theorem dX6_status_68 : decode cX6_status 68 = .ok (.iload_n 1, 1) := by decide +kernel
theorem dX6_status_69 : decode cX6_status 69 = .ok (.iconst 1, 1) := by decide +kernel
theorem dX6_status_70 : decode cX6_status 70 = .ok (.isub, 1) := by decide +kernel
theorem dX6_status_71 : decode cX6_status 71 = .ok (.invokevirtual 160, 3) := by decide +kernel
theorem dX6_status_74 : decode cX6_status 74 = .ok (.ireturn, 1) := by decide +kernel
theorem dX6_status_75 : decode cX6_status 75 = .ok (.aload_n 0, 1) := by decide +kernel
theorem dX6_status_76 : decode cX6_status 76 = .ok (.getfield 10, 3) := by decide +kernel
theorem dX6_status_79 : decode cX6_status 79 = .ok (.getfield 279, 3) := by decide +kernel
theorem dX6_status_82 : decode cX6_status 82 = .ok (.ireturn, 1) := by decide +kernel
theorem dX6_status_83 : decode cX6_status 83 = .ok (.aload_n 0, 1) := by decide +kernel
theorem dX6_status_84 : decode cX6_status 84 = .ok (.getfield 10, 3) := by decide +kernel
theorem dX6_status_87 : decode cX6_status 87 = .ok (.getfield 233, 3) := by decide +kernel
theorem dX6_status_90 : decode cX6_status 90 = .ok (.aload_n 0, 1) := by decide +kernel
theorem dX6_status_91 : decode cX6_status 91 = .ok (.getfield 10, 3) := by decide +kernel
theorem dX6_status_94 : decode cX6_status 94 = .ok (.invokevirtual 206, 3) := by decide +kernel
theorem dX6_status_97 : decode cX6_status 97 = .ok (.invokestatic 210, 3) := by decide +kernel
theorem dX6_status_100 : decode cX6_status 100 = .ok (.isub, 1) := by decide +kernel
theorem dX6_status_101 : decode cX6_status 101 = .ok (.ireturn, 1) := by decide +kernel
theorem dX6_status_102 : decode cX6_status 102 = .ok (.aload_n 0, 1) := by decide +kernel
theorem dX6_status_103 : decode cX6_status 103 = .ok (.getfield 10, 3) := by decide +kernel
theorem dX6_status_106 : decode cX6_status 106 = .ok (.invokevirtual 282, 3) := by decide +kernel
theorem dX6_status_109 : decode cX6_status 109 = .ok (.ireturn, 1) := by decide +kernel
theorem dX6_status_110 : decode cX6_status 110 = .ok (.aload_n 0, 1) := by decide +kernel
theorem dX6_status_111 : decode cX6_status 111 = .ok (.getfield 10, 3) := by decide +kernel
theorem dX6_status_114 : decode cX6_status 114 = .ok (.getfield 260, 3) := by decide +kernel
theorem dX6_status_117 : decode cX6_status 117 = .ok (.ireturn, 1) := by decide +kernel
theorem dX6_status_118 : decode cX6_status 118 = .ok (.aload_n 0, 1) := by decide +kernel
theorem dX6_status_119 : decode cX6_status 119 = .ok (.getfield 50, 3) := by decide +kernel
theorem dX6_status_122 : decode cX6_status 122 = .ok (.getfield 285, 3) := by decide +kernel
theorem dX6_status_125 : decode cX6_status 125 = .ok (.ireturn, 1) := by decide +kernel
theorem dX6_status_126 : decode cX6_status 126 = .ok (.iload_n 1, 1) := by decide +kernel
theorem dX6_status_127 : decode cX6_status 127 = .ok (.bipush 10, 2) := by decide +kernel
theorem dX6_status_129 : decode cX6_status 129 = .ok (.if_icmp .le 27, 3) := by decide +kernel
theorem dX6_status_132 : decode cX6_status 132 = .ok (.iload_n 1, 1) := by decide +kernel
theorem dX6_status_133 : decode cX6_status 133 = .ok (.bipush 10, 2) := by decide +kernel
theorem dX6_status_135 : decode cX6_status 135 = .ok (.aload_n 0, 1) := by decide +kernel
theorem dX6_status_136 : decode cX6_status 136 = .ok (.getfield 54, 3) := by decide +kernel
theorem dX6_status_139 : decode cX6_status 139 = .ok (.arraylength, 1) := by decide +kernel
theorem dX6_status_140 : decode cX6_status 140 = .ok (.iadd, 1) := by decide +kernel
theorem dX6_status_141 : decode cX6_status 141 = .ok (.if_icmp .ge 15, 3) := by decide +kernel
theorem dX6_status_144 : decode cX6_status 144 = .ok (.aload_n 0, 1) := by decide +kernel
theorem dX6_status_145 : decode cX6_status 145 = .ok (.getfield 54, 3) := by decide +kernel
theorem dX6_status_148 : decode cX6_status 148 = .ok (.iload_n 1, 1) := by decide +kernel
theorem dX6_status_149 : decode cX6_status 149 = .ok (.bipush 10, 2) := by decide +kernel
theorem dX6_status_151 : decode cX6_status 151 = .ok (.isub, 1) := by decide +kernel
theorem dX6_status_152 : decode cX6_status 152 = .ok (.iaload, 1) := by decide +kernel
theorem dX6_status_153 : decode cX6_status 153 = .ok (.goto 4, 3) := by decide +kernel
theorem dX6_status_156 : decode cX6_status 156 = .ok (.iconst (-1), 1) := by decide +kernel
theorem dX6_status_157 : decode cX6_status 157 = .ok (.ireturn, 1) := by decide +kernel
theorem dX6_refuse_0 : decode cX6_refuse 0 = .ok (.iload_n 1, 1) := by decide +kernel
theorem dX6_refuse_1 : decode cX6_refuse 1 = .ok (.ineg, 1) := by decide +kernel
theorem dX6_refuse_2 : decode cX6_refuse 2 = .ok (.istore_n 2, 1) := by decide +kernel
theorem dX6_refuse_3 : decode cX6_refuse 3 = .ok (.iload_n 2, 1) := by decide +kernel
theorem dX6_refuse_4 : decode cX6_refuse 4 = .ok (.ifCond .lt 22, 3) := by decide +kernel
theorem dX6_refuse_7 : decode cX6_refuse 7 = .ok (.iload_n 2, 1) := by decide +kernel
theorem dX6_refuse_8 : decode cX6_refuse 8 = .ok (.aload_n 0, 1) := by decide +kernel
theorem dX6_refuse_9 : decode cX6_refuse 9 = .ok (.getfield 54, 3) := by decide +kernel
theorem dX6_refuse_12 : decode cX6_refuse 12 = .ok (.arraylength, 1) := by decide +kernel
theorem dX6_refuse_13 : decode cX6_refuse 13 = .ok (.if_icmp .ge 13, 3) := by decide +kernel
theorem dX6_refuse_16 : decode cX6_refuse 16 = .ok (.aload_n 0, 1) := by decide +kernel
theorem dX6_refuse_17 : decode cX6_refuse 17 = .ok (.getfield 54, 3) := by decide +kernel
theorem dX6_refuse_20 : decode cX6_refuse 20 = .ok (.iload_n 2, 1) := by decide +kernel
theorem dX6_refuse_21 : decode cX6_refuse 21 = .ok (.dup2, 1) := by decide +kernel
theorem dX6_refuse_22 : decode cX6_refuse 22 = .ok (.iaload, 1) := by decide +kernel
theorem dX6_refuse_23 : decode cX6_refuse 23 = .ok (.iconst 1, 1) := by decide +kernel
theorem dX6_refuse_24 : decode cX6_refuse 24 = .ok (.iadd, 1) := by decide +kernel
theorem dX6_refuse_25 : decode cX6_refuse 25 = .ok (.iastore, 1) := by decide +kernel
theorem dX6_refuse_26 : decode cX6_refuse 26 = .ok (.iload_n 1, 1) := by decide +kernel
theorem dX6_refuse_27 : decode cX6_refuse 27 = .ok (.ireturn, 1) := by decide +kernel
theorem dX6_isShelf_0 : decode cX6_isShelf 0 = .ok (.iload_n 1, 1) := by decide +kernel
theorem dX6_isShelf_1 : decode cX6_isShelf 1 = .ok (.ifCond .lt 16, 3) := by decide +kernel
theorem dX6_isShelf_4 : decode cX6_isShelf 4 = .ok (.iload_n 1, 1) := by decide +kernel
theorem dX6_isShelf_5 : decode cX6_isShelf 5 = .ok (.aload_n 0, 1) := by decide +kernel
theorem dX6_isShelf_6 : decode cX6_isShelf 6 = .ok (.getfield 31, 3) := by decide +kernel
theorem dX6_isShelf_9 : decode cX6_isShelf 9 = .ok (.arraylength, 1) := by decide +kernel
theorem dX6_isShelf_10 : decode cX6_isShelf 10 = .ok (.if_icmp .ge 7, 3) := by decide +kernel
theorem dX6_isShelf_13 : decode cX6_isShelf 13 = .ok (.iconst 1, 1) := by decide +kernel
theorem dX6_isShelf_14 : decode cX6_isShelf 14 = .ok (.goto 4, 3) := by decide +kernel
theorem dX6_isShelf_17 : decode cX6_isShelf 17 = .ok (.iconst 0, 1) := by decide +kernel
theorem dX6_isShelf_18 : decode cX6_isShelf 18 = .ok (.ireturn, 1) := by decide +kernel
theorem dX6_shelfAt_0 : decode cX6_shelfAt 0 = .ok (.iload_n 1, 1) := by decide +kernel
theorem dX6_shelfAt_1 : decode cX6_shelfAt 1 = .ok (.ifCond .lt 21, 3) := by decide +kernel
theorem dX6_shelfAt_4 : decode cX6_shelfAt 4 = .ok (.iload_n 1, 1) := by decide +kernel
theorem dX6_shelfAt_5 : decode cX6_shelfAt 5 = .ok (.aload_n 0, 1) := by decide +kernel
theorem dX6_shelfAt_6 : decode cX6_shelfAt 6 = .ok (.getfield 31, 3) := by decide +kernel
theorem dX6_shelfAt_9 : decode cX6_shelfAt 9 = .ok (.arraylength, 1) := by decide +kernel
theorem dX6_shelfAt_10 : decode cX6_shelfAt 10 = .ok (.if_icmp .ge 12, 3) := by decide +kernel
theorem dX6_shelfAt_13 : decode cX6_shelfAt 13 = .ok (.aload_n 0, 1) := by decide +kernel
theorem dX6_shelfAt_14 : decode cX6_shelfAt 14 = .ok (.getfield 31, 3) := by decide +kernel
theorem dX6_shelfAt_17 : decode cX6_shelfAt 17 = .ok (.iload_n 1, 1) := by decide +kernel
theorem dX6_shelfAt_18 : decode cX6_shelfAt 18 = .ok (.aaload, 1) := by decide +kernel
theorem dX6_shelfAt_19 : decode cX6_shelfAt 19 = .ok (.goto 7, 3) := by decide +kernel
theorem dX6_shelfAt_22 : decode cX6_shelfAt 22 = .ok (.aload_n 0, 1) := by decide +kernel
theorem dX6_shelfAt_23 : decode cX6_shelfAt 23 = .ok (.getfield 36, 3) := by decide +kernel
theorem dX6_shelfAt_26 : decode cX6_shelfAt 26 = .ok (.areturn, 1) := by decide +kernel
theorem dX6_whyNoRow_0 : decode cX6_whyNoRow 0 = .ok (.aload_n 0, 1) := by decide +kernel
theorem dX6_whyNoRow_1 : decode cX6_whyNoRow 1 = .ok (.iload_n 1, 1) := by decide +kernel
theorem dX6_whyNoRow_2 : decode cX6_whyNoRow 2 = .ok (.invokevirtual 62, 3) := by decide +kernel
theorem dX6_whyNoRow_5 : decode cX6_whyNoRow 5 = .ok (.ifCond .ne 5, 3) := by decide +kernel
theorem dX6_whyNoRow_8 : decode cX6_whyNoRow 8 = .ok (.iconst (-1), 1) := by decide +kernel
theorem dX6_whyNoRow_9 : decode cX6_whyNoRow 9 = .ok (.ireturn, 1) := by decide +kernel
theorem dX6_whyNoRow_10 : decode cX6_whyNoRow 10 = .ok (.aload_n 0, 1) := by decide +kernel
theorem dX6_whyNoRow_11 : decode cX6_whyNoRow 11 = .ok (.iload_n 1, 1) := by decide +kernel
theorem dX6_whyNoRow_12 : decode cX6_whyNoRow 12 = .ok (.invokevirtual 70, 3) := by decide +kernel
theorem dX6_whyNoRow_15 : decode cX6_whyNoRow 15 = .ok (.astore_n 2, 1) := by decide +kernel
theorem dX6_whyNoRow_16 : decode cX6_whyNoRow 16 = .ok (.aload_n 2, 1) := by decide +kernel
theorem dX6_whyNoRow_17 : decode cX6_whyNoRow 17 = .ok (.invokevirtual 92, 3) := by decide +kernel
theorem dX6_whyNoRow_20 : decode cX6_whyNoRow 20 = .ok (.ifCond .eq 8, 3) := by decide +kernel
theorem dX6_whyNoRow_23 : decode cX6_whyNoRow 23 = .ok (.bipush (-2), 2) := by decide +kernel
theorem dX6_whyNoRow_25 : decode cX6_whyNoRow 25 = .ok (.goto 16, 3) := by decide +kernel
theorem dX6_whyNoRow_28 : decode cX6_whyNoRow 28 = .ok (.aload_n 2, 1) := by decide +kernel
theorem dX6_whyNoRow_29 : decode cX6_whyNoRow 29 = .ok (.invokevirtual 88, 3) := by decide +kernel
theorem dX6_whyNoRow_32 : decode cX6_whyNoRow 32 = .ok (.ifCond .eq 7, 3) := by decide +kernel
theorem dX6_whyNoRow_35 : decode cX6_whyNoRow 35 = .ok (.iconst 0, 1) := by decide +kernel
theorem dX6_whyNoRow_36 : decode cX6_whyNoRow 36 = .ok (.goto 5, 3) := by decide +kernel
theorem dX6_whyNoRow_39 : decode cX6_whyNoRow 39 = .ok (.bipush (-3), 2) := by decide +kernel
theorem dX6_whyNoRow_41 : decode cX6_whyNoRow 41 = .ok (.ireturn, 1) := by decide +kernel
theorem dX6_whyNoRegister_0 : decode cX6_whyNoRegister 0 = .ok (.aload_n 0, 1) := by decide +kernel
theorem dX6_whyNoRegister_1 : decode cX6_whyNoRegister 1 = .ok (.iload_n 1, 1) := by decide +kernel
theorem dX6_whyNoRegister_2 : decode cX6_whyNoRegister 2 = .ok (.invokevirtual 78, 3) := by decide +kernel
theorem dX6_whyNoRegister_5 : decode cX6_whyNoRegister 5 = .ok (.istore_n 3, 1) := by decide +kernel
theorem dX6_whyNoRegister_6 : decode cX6_whyNoRegister 6 = .ok (.iload_n 3, 1) := by decide +kernel
theorem dX6_whyNoRegister_7 : decode cX6_whyNoRegister 7 = .ok (.ifCond .eq 5, 3) := by decide +kernel
theorem dX6_whyNoRegister_10 : decode cX6_whyNoRegister 10 = .ok (.iload_n 3, 1) := by decide +kernel
theorem dX6_whyNoRegister_11 : decode cX6_whyNoRegister 11 = .ok (.ireturn, 1) := by decide +kernel
theorem dX6_whyNoRegister_12 : decode cX6_whyNoRegister 12 = .ok (.iload_n 2, 1) := by decide +kernel
theorem dX6_whyNoRegister_13 : decode cX6_whyNoRegister 13 = .ok (.ifCond .ge 6, 3) := by decide +kernel
theorem dX6_whyNoRegister_16 : decode cX6_whyNoRegister 16 = .ok (.bipush (-4), 2) := by decide +kernel
theorem dX6_whyNoRegister_18 : decode cX6_whyNoRegister 18 = .ok (.ireturn, 1) := by decide +kernel
theorem dX6_whyNoRegister_19 : decode cX6_whyNoRegister 19 = .ok (.iload_n 2, 1) := by decide +kernel
theorem dX6_whyNoRegister_20 : decode cX6_whyNoRegister 20 = .ok (.aload_n 0, 1) := by decide +kernel
theorem dX6_whyNoRegister_21 : decode cX6_whyNoRegister 21 = .ok (.iload_n 1, 1) := by decide +kernel
theorem dX6_whyNoRegister_22 : decode cX6_whyNoRegister 22 = .ok (.invokevirtual 70, 3) := by decide +kernel
theorem dX6_whyNoRegister_25 : decode cX6_whyNoRegister 25 = .ok (.getfield 288, 3) := by decide +kernel
theorem dX6_whyNoRegister_28 : decode cX6_whyNoRegister 28 = .ok (.if_icmp .le 8, 3) := by decide +kernel
theorem dX6_whyNoRegister_31 : decode cX6_whyNoRegister 31 = .ok (.bipush (-5), 2) := by decide +kernel
theorem dX6_whyNoRegister_33 : decode cX6_whyNoRegister 33 = .ok (.goto 15, 3) := by decide +kernel
theorem dX6_whyNoRegister_36 : decode cX6_whyNoRegister 36 = .ok (.iload_n 2, 1) := by decide +kernel
theorem dX6_whyNoRegister_37 : decode cX6_whyNoRegister 37 = .ok (.bipush 24, 2) := by decide +kernel
theorem dX6_whyNoRegister_39 : decode cX6_whyNoRegister 39 = .ok (.if_icmp .le 8, 3) := by decide +kernel
theorem dX6_whyNoRegister_42 : decode cX6_whyNoRegister 42 = .ok (.bipush (-6), 2) := by decide +kernel
theorem dX6_whyNoRegister_44 : decode cX6_whyNoRegister 44 = .ok (.goto 4, 3) := by decide +kernel
theorem dX6_whyNoRegister_47 : decode cX6_whyNoRegister 47 = .ok (.iconst 0, 1) := by decide +kernel
theorem dX6_whyNoRegister_48 : decode cX6_whyNoRegister 48 = .ok (.ireturn, 1) := by decide +kernel
theorem dX6_heldBy_0 : decode cX6_heldBy 0 = .ok (.aload_n 0, 1) := by decide +kernel
theorem dX6_heldBy_1 : decode cX6_heldBy 1 = .ok (.getfield 10, 3) := by decide +kernel
theorem dX6_heldBy_4 : decode cX6_heldBy 4 = .ok (.iconst 0, 1) := by decide +kernel
theorem dX6_heldBy_5 : decode cX6_heldBy 5 = .ok (.invokevirtual 193, 3) := by decide +kernel
theorem dX6_heldBy_8 : decode cX6_heldBy 8 = .ok (.iconst 1, 1) := by decide +kernel
theorem dX6_heldBy_9 : decode cX6_heldBy 9 = .ok (.iload_n 1, 1) := by decide +kernel
theorem dX6_heldBy_10 : decode cX6_heldBy 10 = .ok (.ishl, 1) := by decide +kernel
theorem dX6_heldBy_11 : decode cX6_heldBy 11 = .ok (.iconst (-1), 1) := by decide +kernel
theorem dX6_heldBy_12 : decode cX6_heldBy 12 = .ok (.ixor, 1) := by decide +kernel
theorem dX6_heldBy_13 : decode cX6_heldBy 13 = .ok (.iand, 1) := by decide +kernel
theorem dX6_heldBy_14 : decode cX6_heldBy 14 = .ok (.istore_n 2, 1) := by decide +kernel
theorem dX6_heldBy_15 : decode cX6_heldBy 15 = .ok (.aload_n 0, 1) := by decide +kernel
theorem dX6_heldBy_16 : decode cX6_heldBy 16 = .ok (.getfield 16, 3) := by decide +kernel
theorem dX6_heldBy_19 : decode cX6_heldBy 19 = .ok (.aload_n 0, 1) := by decide +kernel
theorem dX6_heldBy_20 : decode cX6_heldBy 20 = .ok (.getfield 10, 3) := by decide +kernel
theorem dX6_heldBy_23 : decode cX6_heldBy 23 = .ok (.invokevirtual 186, 3) := by decide +kernel
theorem dX6_heldBy_26 : decode cX6_heldBy 26 = .ok (.aload_n 0, 1) := by decide +kernel
theorem dX6_heldBy_27 : decode cX6_heldBy 27 = .ok (.getfield 16, 3) := by decide +kernel
theorem dX6_heldBy_30 : decode cX6_heldBy 30 = .ok (.iload_n 1, 1) := by decide +kernel
theorem dX6_heldBy_31 : decode cX6_heldBy 31 = .ok (.invokevirtual 129, 3) := by decide +kernel
theorem dX6_heldBy_34 : decode cX6_heldBy 34 = .ok (.iconst 1, 1) := by decide +kernel
theorem dX6_heldBy_35 : decode cX6_heldBy 35 = .ok (.putfield 166, 3) := by decide +kernel
theorem dX6_heldBy_38 : decode cX6_heldBy 38 = .ok (.iload_n 2, 1) := by decide +kernel
theorem dX6_heldBy_39 : decode cX6_heldBy 39 = .ok (.invokestatic 210, 3) := by decide +kernel
theorem dX6_heldBy_42 : decode cX6_heldBy 42 = .ok (.aload_n 0, 1) := by decide +kernel
theorem dX6_heldBy_43 : decode cX6_heldBy 43 = .ok (.getfield 16, 3) := by decide +kernel
theorem dX6_heldBy_46 : decode cX6_heldBy 46 = .ok (.iconst 0, 1) := by decide +kernel
theorem dX6_heldBy_47 : decode cX6_heldBy 47 = .ok (.invokevirtual 193, 3) := by decide +kernel
theorem dX6_heldBy_50 : decode cX6_heldBy 50 = .ok (.invokestatic 210, 3) := by decide +kernel
theorem dX6_heldBy_53 : decode cX6_heldBy 53 = .ok (.isub, 1) := by decide +kernel
theorem dX6_heldBy_54 : decode cX6_heldBy 54 = .ok (.ireturn, 1) := by decide +kernel
theorem dX6_isStretch_0 : decode cX6_isStretch 0 = .ok (.iload_n 0, 1) := by decide +kernel
theorem dX6_isStretch_1 : decode cX6_isStretch 1 = .ok (.ifCond .lt 13, 3) := by decide +kernel
theorem dX6_isStretch_4 : decode cX6_isStretch 4 = .ok (.iload_n 0, 1) := by decide +kernel
theorem dX6_isStretch_5 : decode cX6_isStretch 5 = .ok (.bipush 24, 2) := by decide +kernel
theorem dX6_isStretch_7 : decode cX6_isStretch 7 = .ok (.if_icmp .gt 7, 3) := by decide +kernel
theorem dX6_isStretch_10 : decode cX6_isStretch 10 = .ok (.iconst 1, 1) := by decide +kernel
theorem dX6_isStretch_11 : decode cX6_isStretch 11 = .ok (.goto 4, 3) := by decide +kernel
theorem dX6_isStretch_14 : decode cX6_isStretch 14 = .ok (.iconst 0, 1) := by decide +kernel
theorem dX6_isStretch_15 : decode cX6_isStretch 15 = .ok (.ireturn, 1) := by decide +kernel
theorem dX6_isIn_0 : decode cX6_isIn 0 = .ok (.iload_n 1, 1) := by decide +kernel
theorem dX6_isIn_1 : decode cX6_isIn 1 = .ok (.ifCond .lt 22, 3) := by decide +kernel
theorem dX6_isIn_4 : decode cX6_isIn 4 = .ok (.iload_n 1, 1) := by decide +kernel
theorem dX6_isIn_5 : decode cX6_isIn 5 = .ok (.bipush 10, 2) := by decide +kernel
theorem dX6_isIn_7 : decode cX6_isIn 7 = .ok (.if_icmp .ge 16, 3) := by decide +kernel
theorem dX6_isIn_10 : decode cX6_isIn 10 = .ok (.iload_n 0, 1) := by decide +kernel
theorem dX6_isIn_11 : decode cX6_isIn 11 = .ok (.iload_n 1, 1) := by decide +kernel
theorem dX6_isIn_12 : decode cX6_isIn 12 = .ok (.ishr, 1) := by decide +kernel
theorem dX6_isIn_13 : decode cX6_isIn 13 = .ok (.iconst 1, 1) := by decide +kernel
theorem dX6_isIn_14 : decode cX6_isIn 14 = .ok (.iand, 1) := by decide +kernel
theorem dX6_isIn_15 : decode cX6_isIn 15 = .ok (.iconst 1, 1) := by decide +kernel
theorem dX6_isIn_16 : decode cX6_isIn 16 = .ok (.if_icmp .ne 7, 3) := by decide +kernel
theorem dX6_isIn_19 : decode cX6_isIn 19 = .ok (.iconst 1, 1) := by decide +kernel
theorem dX6_isIn_20 : decode cX6_isIn 20 = .ok (.goto 4, 3) := by decide +kernel
theorem dX6_isIn_23 : decode cX6_isIn 23 = .ok (.iconst 0, 1) := by decide +kernel
theorem dX6_isIn_24 : decode cX6_isIn 24 = .ok (.ireturn, 1) := by decide +kernel
theorem dX6_isKind_0 : decode cX6_isKind 0 = .ok (.iload_n 0, 1) := by decide +kernel
theorem dX6_isKind_1 : decode cX6_isKind 1 = .ok (.ifCond .lt 15, 3) := by decide +kernel
theorem dX6_isKind_4 : decode cX6_isKind 4 = .ok (.iload_n 0, 1) := by decide +kernel
theorem dX6_isKind_5 : decode cX6_isKind 5 = .ok (.getstatic 291, 3) := by decide +kernel
theorem dX6_isKind_8 : decode cX6_isKind 8 = .ok (.arraylength, 1) := by decide +kernel
theorem dX6_isKind_9 : decode cX6_isKind 9 = .ok (.if_icmp .ge 7, 3) := by decide +kernel
theorem dX6_isKind_12 : decode cX6_isKind 12 = .ok (.iconst 1, 1) := by decide +kernel
theorem dX6_isKind_13 : decode cX6_isKind 13 = .ok (.goto 4, 3) := by decide +kernel
theorem dX6_isKind_16 : decode cX6_isKind 16 = .ok (.iconst 0, 1) := by decide +kernel
theorem dX6_isKind_17 : decode cX6_isKind 17 = .ok (.ireturn, 1) := by decide +kernel
theorem dX6_kindAbove_0 : decode cX6_kindAbove 0 = .ok (.iload_n 0, 1) := by decide +kernel
theorem dX6_kindAbove_1 : decode cX6_kindAbove 1 = .ok (.ifCond .lt 19, 3) := by decide +kernel
theorem dX6_kindAbove_4 : decode cX6_kindAbove 4 = .ok (.iload_n 0, 1) := by decide +kernel
theorem dX6_kindAbove_5 : decode cX6_kindAbove 5 = .ok (.getstatic 291, 3) := by decide +kernel
theorem dX6_kindAbove_8 : decode cX6_kindAbove 8 = .ok (.arraylength, 1) := by decide +kernel
theorem dX6_kindAbove_9 : decode cX6_kindAbove 9 = .ok (.if_icmp .ge 11, 3) := by decide +kernel
theorem dX6_kindAbove_12 : decode cX6_kindAbove 12 = .ok (.getstatic 291, 3) := by decide +kernel
theorem dX6_kindAbove_15 : decode cX6_kindAbove 15 = .ok (.iload_n 0, 1) := by decide +kernel
theorem dX6_kindAbove_16 : decode cX6_kindAbove 16 = .ok (.iaload, 1) := by decide +kernel
theorem dX6_kindAbove_17 : decode cX6_kindAbove 17 = .ok (.goto 4, 3) := by decide +kernel
theorem dX6_kindAbove_20 : decode cX6_kindAbove 20 = .ok (.iconst (-1), 1) := by decide +kernel
theorem dX6_kindAbove_21 : decode cX6_kindAbove 21 = .ok (.ireturn, 1) := by decide +kernel
theorem dX6_isUnder_0 : decode cX6_isUnder 0 = .ok (.iload_n 0, 1) := by decide +kernel
theorem dX6_isUnder_1 : decode cX6_isUnder 1 = .ok (.istore_n 2, 1) := by decide +kernel
theorem dX6_isUnder_2 : decode cX6_isUnder 2 = .ok (.iconst 0, 1) := by decide +kernel
theorem dX6_isUnder_3 : decode cX6_isUnder 3 = .ok (.istore_n 3, 1) := by decide +kernel
theorem dX6_isUnder_4 : decode cX6_isUnder 4 = .ok (.iload_n 3, 1) := by decide +kernel
theorem dX6_isUnder_5 : decode cX6_isUnder 5 = .ok (.getstatic 291, 3) := by decide +kernel
theorem dX6_isUnder_8 : decode cX6_isUnder 8 = .ok (.arraylength, 1) := by decide +kernel
theorem dX6_isUnder_9 : decode cX6_isUnder 9 = .ok (.if_icmp .ge 26, 3) := by decide +kernel
theorem dX6_isUnder_12 : decode cX6_isUnder 12 = .ok (.iload_n 2, 1) := by decide +kernel
theorem dX6_isUnder_13 : decode cX6_isUnder 13 = .ok (.iconst (-1), 1) := by decide +kernel
theorem dX6_isUnder_14 : decode cX6_isUnder 14 = .ok (.if_icmp .eq 21, 3) := by decide +kernel
theorem dX6_isUnder_17 : decode cX6_isUnder 17 = .ok (.iload_n 2, 1) := by decide +kernel
theorem dX6_isUnder_18 : decode cX6_isUnder 18 = .ok (.iload_n 1, 1) := by decide +kernel
theorem dX6_isUnder_19 : decode cX6_isUnder 19 = .ok (.if_icmp .ne 5, 3) := by decide +kernel
theorem dX6_isUnder_22 : decode cX6_isUnder 22 = .ok (.iconst 1, 1) := by decide +kernel
theorem dX6_isUnder_23 : decode cX6_isUnder 23 = .ok (.ireturn, 1) := by decide +kernel
theorem dX6_isUnder_24 : decode cX6_isUnder 24 = .ok (.iload_n 2, 1) := by decide +kernel
theorem dX6_isUnder_25 : decode cX6_isUnder 25 = .ok (.invokestatic 294, 3) := by decide +kernel
theorem dX6_isUnder_28 : decode cX6_isUnder 28 = .ok (.istore_n 2, 1) := by decide +kernel
theorem dX6_isUnder_29 : decode cX6_isUnder 29 = .ok (.iinc 3 1, 3) := by decide +kernel
theorem dX6_isUnder_32 : decode cX6_isUnder 32 = .ok (.goto (-28), 3) := by decide +kernel
theorem dX6_isUnder_35 : decode cX6_isUnder 35 = .ok (.iconst 0, 1) := by decide +kernel
theorem dX6_isUnder_36 : decode cX6_isUnder 36 = .ok (.ireturn, 1) := by decide +kernel
theorem dX6_leastOf_0 : decode cX6_leastOf 0 = .ok (.iload_n 0, 1) := by decide +kernel
theorem dX6_leastOf_1 : decode cX6_leastOf 1 = .ok (.ifCond .lt 19, 3) := by decide +kernel
theorem dX6_leastOf_4 : decode cX6_leastOf 4 = .ok (.iload_n 0, 1) := by decide +kernel
theorem dX6_leastOf_5 : decode cX6_leastOf 5 = .ok (.getstatic 297, 3) := by decide +kernel
theorem dX6_leastOf_8 : decode cX6_leastOf 8 = .ok (.arraylength, 1) := by decide +kernel
theorem dX6_leastOf_9 : decode cX6_leastOf 9 = .ok (.if_icmp .ge 11, 3) := by decide +kernel
theorem dX6_leastOf_12 : decode cX6_leastOf 12 = .ok (.getstatic 297, 3) := by decide +kernel
theorem dX6_leastOf_15 : decode cX6_leastOf 15 = .ok (.iload_n 0, 1) := by decide +kernel
theorem dX6_leastOf_16 : decode cX6_leastOf 16 = .ok (.iaload, 1) := by decide +kernel
theorem dX6_leastOf_17 : decode cX6_leastOf 17 = .ok (.goto 4, 3) := by decide +kernel
theorem dX6_leastOf_20 : decode cX6_leastOf 20 = .ok (.iconst 0, 1) := by decide +kernel
theorem dX6_leastOf_21 : decode cX6_leastOf 21 = .ok (.ireturn, 1) := by decide +kernel
theorem dX6_mostOf_0 : decode cX6_mostOf 0 = .ok (.iload_n 0, 1) := by decide +kernel
theorem dX6_mostOf_1 : decode cX6_mostOf 1 = .ok (.ifCond .lt 19, 3) := by decide +kernel
theorem dX6_mostOf_4 : decode cX6_mostOf 4 = .ok (.iload_n 0, 1) := by decide +kernel
theorem dX6_mostOf_5 : decode cX6_mostOf 5 = .ok (.getstatic 300, 3) := by decide +kernel
theorem dX6_mostOf_8 : decode cX6_mostOf 8 = .ok (.arraylength, 1) := by decide +kernel
theorem dX6_mostOf_9 : decode cX6_mostOf 9 = .ok (.if_icmp .ge 11, 3) := by decide +kernel
theorem dX6_mostOf_12 : decode cX6_mostOf 12 = .ok (.getstatic 300, 3) := by decide +kernel
theorem dX6_mostOf_15 : decode cX6_mostOf 15 = .ok (.iload_n 0, 1) := by decide +kernel
theorem dX6_mostOf_16 : decode cX6_mostOf 16 = .ok (.iaload, 1) := by decide +kernel
theorem dX6_mostOf_17 : decode cX6_mostOf 17 = .ok (.goto 4, 3) := by decide +kernel
theorem dX6_mostOf_20 : decode cX6_mostOf 20 = .ok (.iconst 0, 1) := by decide +kernel
theorem dX6_mostOf_21 : decode cX6_mostOf 21 = .ok (.ireturn, 1) := by decide +kernel
end
section
theorem dX7_init_0 : decode cX7_init 0 = .ok (.aload_n 0, 1) := by decide +kernel
theorem dX7_init_1 : decode cX7_init 1 = .ok (.invokespecial 1, 3) := by decide +kernel
theorem dX7_init_4 : decode cX7_init 4 = .ok (.aload_n 0, 1) := by decide +kernel
theorem dX7_init_5 : decode cX7_init 5 = .ok (.bipush 8, 2) := by decide +kernel
theorem dX7_init_7 : decode cX7_init 7 = .ok (.putfield 7, 3) := by decide +kernel
theorem dX7_init_10 : decode cX7_init 10 = .ok (.aload_n 0, 1) := by decide +kernel
theorem dX7_init_11 : decode cX7_init 11 = .ok (.bipush 8, 2) := by decide +kernel
theorem dX7_init_13 : decode cX7_init 13 = .ok (.putfield 13, 3) := by decide +kernel
theorem dX7_init_16 : decode cX7_init 16 = .ok (.aload_n 0, 1) := by decide +kernel
theorem dX7_init_17 : decode cX7_init 17 = .ok (.iconst 3, 1) := by decide +kernel
theorem dX7_init_18 : decode cX7_init 18 = .ok (.putfield 16, 3) := by decide +kernel
theorem dX7_init_21 : decode cX7_init 21 = .ok (.aload_n 0, 1) := by decide +kernel
theorem dX7_init_22 : decode cX7_init 22 = .ok (.iconst 1, 1) := by decide +kernel
theorem dX7_init_23 : decode cX7_init 23 = .ok (.putfield 19, 3) := by decide +kernel
theorem dX7_init_26 : decode cX7_init 26 = .ok (.aload_n 0, 1) := by decide +kernel
theorem dX7_init_27 : decode cX7_init 27 = .ok (.iconst (-1), 1) := by decide +kernel
theorem dX7_init_28 : decode cX7_init 28 = .ok (.putfield 22, 3) := by decide +kernel
theorem dX7_init_31 : decode cX7_init 31 = .ok (.aload_n 0, 1) := by decide +kernel
theorem dX7_init_32 : decode cX7_init 32 = .ok (.bipush 8, 2) := by decide +kernel
theorem dX7_init_34 : decode cX7_init 34 = .ok (.newarray .int, 2) := by decide +kernel
theorem dX7_init_36 : decode cX7_init 36 = .ok (.putfield 25, 3) := by decide +kernel
theorem dX7_init_39 : decode cX7_init 39 = .ok (.aload_n 0, 1) := by decide +kernel
theorem dX7_init_40 : decode cX7_init 40 = .ok (.bipush 10, 2) := by decide +kernel
theorem dX7_init_42 : decode cX7_init 42 = .ok (.newarray .int, 2) := by decide +kernel
theorem dX7_init_44 : decode cX7_init 44 = .ok (.putfield 29, 3) := by decide +kernel
theorem dX7_init_47 : decode cX7_init 47 = .ok (.aload_n 0, 1) := by decide +kernel
theorem dX7_init_48 : decode cX7_init 48 = .ok (.bipush 10, 2) := by decide +kernel
theorem dX7_init_50 : decode cX7_init 50 = .ok (.newarray .int, 2) := by decide +kernel
theorem dX7_init_52 : decode cX7_init 52 = .ok (.putfield 32, 3) := by decide +kernel
theorem dX7_init_55 : decode cX7_init 55 = .ok (.aload_n 0, 1) := by decide +kernel
theorem dX7_init_56 : decode cX7_init 56 = .ok (.bipush 10, 2) := by decide +kernel
theorem dX7_init_58 : decode cX7_init 58 = .ok (.newarray .int, 2) := by decide +kernel
theorem dX7_init_60 : decode cX7_init 60 = .ok (.putfield 35, 3) := by decide +kernel
theorem dX7_init_63 : decode cX7_init 63 = .ok (.aload_n 0, 1) := by decide +kernel
theorem dX7_init_64 : decode cX7_init 64 = .ok (.bipush 10, 2) := by decide +kernel
theorem dX7_init_66 : decode cX7_init 66 = .ok (.newarray .int, 2) := by decide +kernel
theorem dX7_init_68 : decode cX7_init 68 = .ok (.putfield 38, 3) := by decide +kernel
theorem dX7_init_71 : decode cX7_init 71 = .ok (.aload_n 0, 1) := by decide +kernel
theorem dX7_init_72 : decode cX7_init 72 = .ok (.bipush 10, 2) := by decide +kernel
theorem dX7_init_74 : decode cX7_init 74 = .ok (.newarray .int, 2) := by decide +kernel
theorem dX7_init_76 : decode cX7_init 76 = .ok (.putfield 41, 3) := by decide +kernel
theorem dX7_init_79 : decode cX7_init 79 = .ok (.aload_n 0, 1) := by decide +kernel
theorem dX7_init_80 : decode cX7_init 80 = .ok (.bipush 10, 2) := by decide +kernel
theorem dX7_init_82 : decode cX7_init 82 = .ok (.newarray .int, 2) := by decide +kernel
theorem dX7_init_84 : decode cX7_init 84 = .ok (.putfield 44, 3) := by decide +kernel
theorem dX7_init_87 : decode cX7_init 87 = .ok (.aload_n 0, 1) := by decide +kernel
theorem dX7_init_88 : decode cX7_init 88 = .ok (.bipush 10, 2) := by decide +kernel
theorem dX7_init_90 : decode cX7_init 90 = .ok (.newarray .int, 2) := by decide +kernel
theorem dX7_init_92 : decode cX7_init 92 = .ok (.putfield 47, 3) := by decide +kernel
theorem dX7_init_95 : decode cX7_init 95 = .ok (.aload_n 0, 1) := by decide +kernel
theorem dX7_init_96 : decode cX7_init 96 = .ok (.bipush 10, 2) := by decide +kernel
theorem dX7_init_98 : decode cX7_init 98 = .ok (.newarray .int, 2) := by decide +kernel
theorem dX7_init_100 : decode cX7_init 100 = .ok (.putfield 50, 3) := by decide +kernel
theorem dX7_init_103 : decode cX7_init 103 = .ok (.aload_n 0, 1) := by decide +kernel
theorem dX7_init_104 : decode cX7_init 104 = .ok (.bipush 10, 2) := by decide +kernel
theorem dX7_init_106 : decode cX7_init 106 = .ok (.newarray .int, 2) := by decide +kernel
theorem dX7_init_108 : decode cX7_init 108 = .ok (.putfield 53, 3) := by decide +kernel
theorem dX7_init_111 : decode cX7_init 111 = .ok (.aload_n 0, 1) := by decide +kernel
theorem dX7_init_112 : decode cX7_init 112 = .ok (.bipush 8, 2) := by decide +kernel
theorem dX7_init_114 : decode cX7_init 114 = .ok (.newarray .int, 2) := by decide +kernel
theorem dX7_init_116 : decode cX7_init 116 = .ok (.putfield 56, 3) := by decide +kernel
theorem dX7_init_119 : decode cX7_init 119 = .ok (.aload_n 0, 1) := by decide +kernel
theorem dX7_init_120 : decode cX7_init 120 = .ok (.bipush 8, 2) := by decide +kernel
theorem dX7_init_122 : decode cX7_init 122 = .ok (.newarray .int, 2) := by decide +kernel
theorem dX7_init_124 : decode cX7_init 124 = .ok (.putfield 59, 3) := by decide +kernel
theorem dX7_init_127 : decode cX7_init 127 = .ok (.aload_n 0, 1) := by decide +kernel
theorem dX7_init_128 : decode cX7_init 128 = .ok (.bipush 8, 2) := by decide +kernel
theorem dX7_init_130 : decode cX7_init 130 = .ok (.newarray .int, 2) := by decide +kernel
theorem dX7_init_132 : decode cX7_init 132 = .ok (.putfield 62, 3) := by decide +kernel
theorem dX7_init_135 : decode cX7_init 135 = .ok (.aload_n 0, 1) := by decide +kernel
theorem dX7_init_136 : decode cX7_init 136 = .ok (.bipush 8, 2) := by decide +kernel
theorem dX7_init_138 : decode cX7_init 138 = .ok (.newarray .int, 2) := by decide +kernel
theorem dX7_init_140 : decode cX7_init 140 = .ok (.putfield 65, 3) := by decide +kernel
theorem dX7_init_143 : decode cX7_init 143 = .ok (.aload_n 0, 1) := by decide +kernel
theorem dX7_init_144 : decode cX7_init 144 = .ok (.sipush 1280, 3) := by decide +kernel
theorem dX7_init_147 : decode cX7_init 147 = .ok (.newarray .long, 2) := by decide +kernel
theorem dX7_init_149 : decode cX7_init 149 = .ok (.putfield 68, 3) := by decide +kernel
theorem dX7_init_152 : decode cX7_init 152 = .ok (.aload_n 0, 1) := by decide +kernel
theorem dX7_init_153 : decode cX7_init 153 = .ok (.sipush 160, 3) := by decide +kernel
theorem dX7_init_156 : decode cX7_init 156 = .ok (.newarray .long, 2) := by decide +kernel
theorem dX7_init_158 : decode cX7_init 158 = .ok (.putfield 72, 3) := by decide +kernel
theorem dX7_init_161 : decode cX7_init 161 = .ok (.aload_n 0, 1) := by decide +kernel
theorem dX7_init_162 : decode cX7_init 162 = .ok (.bipush 48, 2) := by decide +kernel
theorem dX7_init_164 : decode cX7_init 164 = .ok (.newarray .int, 2) := by decide +kernel
theorem dX7_init_166 : decode cX7_init 166 = .ok (.dup, 1) := by decide +kernel
theorem dX7_init_167 : decode cX7_init 167 = .ok (.iconst 0, 1) := by decide +kernel
theorem dX7_init_168 : decode cX7_init 168 = .ok (.bipush 112, 2) := by decide +kernel
theorem dX7_init_170 : decode cX7_init 170 = .ok (.iastore, 1) := by decide +kernel
theorem dX7_init_171 : decode cX7_init 171 = .ok (.dup, 1) := by decide +kernel
theorem dX7_init_172 : decode cX7_init 172 = .ok (.iconst 1, 1) := by decide +kernel
theorem dX7_init_173 : decode cX7_init 173 = .ok (.bipush 101, 2) := by decide +kernel
theorem dX7_init_175 : decode cX7_init 175 = .ok (.iastore, 1) := by decide +kernel
theorem dX7_init_176 : decode cX7_init 176 = .ok (.dup, 1) := by decide +kernel
theorem dX7_init_177 : decode cX7_init 177 = .ok (.iconst 2, 1) := by decide +kernel
theorem dX7_init_178 : decode cX7_init 178 = .ok (.bipush 114, 2) := by decide +kernel
theorem dX7_init_180 : decode cX7_init 180 = .ok (.iastore, 1) := by decide +kernel
theorem dX7_init_181 : decode cX7_init 181 = .ok (.dup, 1) := by decide +kernel
theorem dX7_init_182 : decode cX7_init 182 = .ok (.iconst 3, 1) := by decide +kernel
theorem dX7_init_183 : decode cX7_init 183 = .ok (.bipush 115, 2) := by decide +kernel
theorem dX7_init_185 : decode cX7_init 185 = .ok (.iastore, 1) := by decide +kernel
theorem dX7_init_186 : decode cX7_init 186 = .ok (.dup, 1) := by decide +kernel
theorem dX7_init_187 : decode cX7_init 187 = .ok (.iconst 4, 1) := by decide +kernel
theorem dX7_init_188 : decode cX7_init 188 = .ok (.bipush 111, 2) := by decide +kernel
theorem dX7_init_190 : decode cX7_init 190 = .ok (.iastore, 1) := by decide +kernel
theorem dX7_init_191 : decode cX7_init 191 = .ok (.dup, 1) := by decide +kernel
theorem dX7_init_192 : decode cX7_init 192 = .ok (.iconst 5, 1) := by decide +kernel
theorem dX7_init_193 : decode cX7_init 193 = .ok (.bipush 110, 2) := by decide +kernel
theorem dX7_init_195 : decode cX7_init 195 = .ok (.iastore, 1) := by decide +kernel
theorem dX7_init_196 : decode cX7_init 196 = .ok (.dup, 1) := by decide +kernel
theorem dX7_init_197 : decode cX7_init 197 = .ok (.bipush 6, 2) := by decide +kernel
theorem dX7_init_199 : decode cX7_init 199 = .ok (.bipush 32, 2) := by decide +kernel
theorem dX7_init_201 : decode cX7_init 201 = .ok (.iastore, 1) := by decide +kernel
theorem dX7_init_202 : decode cX7_init 202 = .ok (.dup, 1) := by decide +kernel
theorem dX7_init_203 : decode cX7_init 203 = .ok (.bipush 7, 2) := by decide +kernel
theorem dX7_init_205 : decode cX7_init 205 = .ok (.iconst 0, 1) := by decide +kernel
theorem dX7_init_206 : decode cX7_init 206 = .ok (.iastore, 1) := by decide +kernel
theorem dX7_init_207 : decode cX7_init 207 = .ok (.dup, 1) := by decide +kernel
theorem dX7_init_208 : decode cX7_init 208 = .ok (.bipush 8, 2) := by decide +kernel
theorem dX7_init_210 : decode cX7_init 210 = .ok (.bipush 102, 2) := by decide +kernel
theorem dX7_init_212 : decode cX7_init 212 = .ok (.iastore, 1) := by decide +kernel
theorem dX7_init_213 : decode cX7_init 213 = .ok (.dup, 1) := by decide +kernel
theorem dX7_init_214 : decode cX7_init 214 = .ok (.bipush 9, 2) := by decide +kernel
theorem dX7_init_216 : decode cX7_init 216 = .ok (.bipush 114, 2) := by decide +kernel
theorem dX7_init_218 : decode cX7_init 218 = .ok (.iastore, 1) := by decide +kernel
theorem dX7_init_219 : decode cX7_init 219 = .ok (.dup, 1) := by decide +kernel
theorem dX7_init_220 : decode cX7_init 220 = .ok (.bipush 10, 2) := by decide +kernel
theorem dX7_init_222 : decode cX7_init 222 = .ok (.bipush 105, 2) := by decide +kernel
theorem dX7_init_224 : decode cX7_init 224 = .ok (.iastore, 1) := by decide +kernel
theorem dX7_init_225 : decode cX7_init 225 = .ok (.dup, 1) := by decide +kernel
theorem dX7_init_226 : decode cX7_init 226 = .ok (.bipush 11, 2) := by decide +kernel
theorem dX7_init_228 : decode cX7_init 228 = .ok (.bipush 101, 2) := by decide +kernel
theorem dX7_init_230 : decode cX7_init 230 = .ok (.iastore, 1) := by decide +kernel
theorem dX7_init_231 : decode cX7_init 231 = .ok (.dup, 1) := by decide +kernel
theorem dX7_init_232 : decode cX7_init 232 = .ok (.bipush 12, 2) := by decide +kernel
theorem dX7_init_234 : decode cX7_init 234 = .ok (.bipush 110, 2) := by decide +kernel
theorem dX7_init_236 : decode cX7_init 236 = .ok (.iastore, 1) := by decide +kernel
theorem dX7_init_237 : decode cX7_init 237 = .ok (.dup, 1) := by decide +kernel
theorem dX7_init_238 : decode cX7_init 238 = .ok (.bipush 13, 2) := by decide +kernel
theorem dX7_init_240 : decode cX7_init 240 = .ok (.bipush 100, 2) := by decide +kernel
theorem dX7_init_242 : decode cX7_init 242 = .ok (.iastore, 1) := by decide +kernel
theorem dX7_init_243 : decode cX7_init 243 = .ok (.dup, 1) := by decide +kernel
theorem dX7_init_244 : decode cX7_init 244 = .ok (.bipush 14, 2) := by decide +kernel
theorem dX7_init_246 : decode cX7_init 246 = .ok (.bipush 32, 2) := by decide +kernel
theorem dX7_init_248 : decode cX7_init 248 = .ok (.iastore, 1) := by decide +kernel
theorem dX7_init_249 : decode cX7_init 249 = .ok (.dup, 1) := by decide +kernel
theorem dX7_init_250 : decode cX7_init 250 = .ok (.bipush 15, 2) := by decide +kernel
theorem dX7_init_252 : decode cX7_init 252 = .ok (.iconst 0, 1) := by decide +kernel
theorem dX7_init_253 : decode cX7_init 253 = .ok (.iastore, 1) := by decide +kernel
theorem dX7_init_254 : decode cX7_init 254 = .ok (.dup, 1) := by decide +kernel
theorem dX7_init_255 : decode cX7_init 255 = .ok (.bipush 16, 2) := by decide +kernel
theorem dX7_init_257 : decode cX7_init 257 = .ok (.bipush 108, 2) := by decide +kernel
theorem dX7_init_259 : decode cX7_init 259 = .ok (.iastore, 1) := by decide +kernel
theorem dX7_init_260 : decode cX7_init 260 = .ok (.dup, 1) := by decide +kernel
theorem dX7_init_261 : decode cX7_init 261 = .ok (.bipush 17, 2) := by decide +kernel
theorem dX7_init_263 : decode cX7_init 263 = .ok (.bipush 101, 2) := by decide +kernel
theorem dX7_init_265 : decode cX7_init 265 = .ok (.iastore, 1) := by decide +kernel
theorem dX7_init_266 : decode cX7_init 266 = .ok (.dup, 1) := by decide +kernel
theorem dX7_init_267 : decode cX7_init 267 = .ok (.bipush 18, 2) := by decide +kernel
theorem dX7_init_269 : decode cX7_init 269 = .ok (.bipush 118, 2) := by decide +kernel
theorem dX7_init_271 : decode cX7_init 271 = .ok (.iastore, 1) := by decide +kernel
theorem dX7_init_272 : decode cX7_init 272 = .ok (.dup, 1) := by decide +kernel
theorem dX7_init_273 : decode cX7_init 273 = .ok (.bipush 19, 2) := by decide +kernel
theorem dX7_init_275 : decode cX7_init 275 = .ok (.bipush 101, 2) := by decide +kernel
theorem dX7_init_277 : decode cX7_init 277 = .ok (.iastore, 1) := by decide +kernel
theorem dX7_init_278 : decode cX7_init 278 = .ok (.dup, 1) := by decide +kernel
theorem dX7_init_279 : decode cX7_init 279 = .ok (.bipush 20, 2) := by decide +kernel
theorem dX7_init_281 : decode cX7_init 281 = .ok (.bipush 108, 2) := by decide +kernel
theorem dX7_init_283 : decode cX7_init 283 = .ok (.iastore, 1) := by decide +kernel
theorem dX7_init_284 : decode cX7_init 284 = .ok (.dup, 1) := by decide +kernel
theorem dX7_init_285 : decode cX7_init 285 = .ok (.bipush 21, 2) := by decide +kernel
theorem dX7_init_287 : decode cX7_init 287 = .ok (.bipush 32, 2) := by decide +kernel
theorem dX7_init_289 : decode cX7_init 289 = .ok (.iastore, 1) := by decide +kernel
theorem dX7_init_290 : decode cX7_init 290 = .ok (.dup, 1) := by decide +kernel
theorem dX7_init_291 : decode cX7_init 291 = .ok (.bipush 22, 2) := by decide +kernel
theorem dX7_init_293 : decode cX7_init 293 = .ok (.iconst 0, 1) := by decide +kernel
theorem dX7_init_294 : decode cX7_init 294 = .ok (.iastore, 1) := by decide +kernel
theorem dX7_init_295 : decode cX7_init 295 = .ok (.dup, 1) := by decide +kernel
theorem dX7_init_296 : decode cX7_init 296 = .ok (.bipush 23, 2) := by decide +kernel
theorem dX7_init_298 : decode cX7_init 298 = .ok (.bipush 114, 2) := by decide +kernel
theorem dX7_init_300 : decode cX7_init 300 = .ok (.iastore, 1) := by decide +kernel
theorem dX7_init_301 : decode cX7_init 301 = .ok (.dup, 1) := by decide +kernel
theorem dX7_init_302 : decode cX7_init 302 = .ok (.bipush 24, 2) := by decide +kernel
theorem dX7_init_304 : decode cX7_init 304 = .ok (.bipush 97, 2) := by decide +kernel
theorem dX7_init_306 : decode cX7_init 306 = .ok (.iastore, 1) := by decide +kernel
theorem dX7_init_307 : decode cX7_init 307 = .ok (.dup, 1) := by decide +kernel
theorem dX7_init_308 : decode cX7_init 308 = .ok (.bipush 25, 2) := by decide +kernel
theorem dX7_init_310 : decode cX7_init 310 = .ok (.bipush 105, 2) := by decide +kernel
theorem dX7_init_312 : decode cX7_init 312 = .ok (.iastore, 1) := by decide +kernel
theorem dX7_init_313 : decode cX7_init 313 = .ok (.dup, 1) := by decide +kernel
theorem dX7_init_314 : decode cX7_init 314 = .ok (.bipush 26, 2) := by decide +kernel
theorem dX7_init_316 : decode cX7_init 316 = .ok (.bipush 110, 2) := by decide +kernel
theorem dX7_init_318 : decode cX7_init 318 = .ok (.iastore, 1) := by decide +kernel
theorem dX7_init_319 : decode cX7_init 319 = .ok (.dup, 1) := by decide +kernel
theorem dX7_init_320 : decode cX7_init 320 = .ok (.bipush 27, 2) := by decide +kernel
theorem dX7_init_322 : decode cX7_init 322 = .ok (.bipush 32, 2) := by decide +kernel
theorem dX7_init_324 : decode cX7_init 324 = .ok (.iastore, 1) := by decide +kernel
theorem dX7_init_325 : decode cX7_init 325 = .ok (.dup, 1) := by decide +kernel
theorem dX7_init_326 : decode cX7_init 326 = .ok (.bipush 28, 2) := by decide +kernel
theorem dX7_init_328 : decode cX7_init 328 = .ok (.iconst 0, 1) := by decide +kernel
theorem dX7_init_329 : decode cX7_init 329 = .ok (.iastore, 1) := by decide +kernel
theorem dX7_init_330 : decode cX7_init 330 = .ok (.dup, 1) := by decide +kernel
theorem dX7_init_331 : decode cX7_init 331 = .ok (.bipush 29, 2) := by decide +kernel
theorem dX7_init_333 : decode cX7_init 333 = .ok (.bipush 99, 2) := by decide +kernel
theorem dX7_init_335 : decode cX7_init 335 = .ok (.iastore, 1) := by decide +kernel
theorem dX7_init_336 : decode cX7_init 336 = .ok (.dup, 1) := by decide +kernel
theorem dX7_init_337 : decode cX7_init 337 = .ok (.bipush 30, 2) := by decide +kernel
theorem dX7_init_339 : decode cX7_init 339 = .ok (.bipush 104, 2) := by decide +kernel
theorem dX7_init_341 : decode cX7_init 341 = .ok (.iastore, 1) := by decide +kernel
theorem dX7_init_342 : decode cX7_init 342 = .ok (.dup, 1) := by decide +kernel
theorem dX7_init_343 : decode cX7_init 343 = .ok (.bipush 31, 2) := by decide +kernel
theorem dX7_init_345 : decode cX7_init 345 = .ok (.bipush 97, 2) := by decide +kernel
theorem dX7_init_347 : decode cX7_init 347 = .ok (.iastore, 1) := by decide +kernel
theorem dX7_init_348 : decode cX7_init 348 = .ok (.dup, 1) := by decide +kernel
theorem dX7_init_349 : decode cX7_init 349 = .ok (.bipush 32, 2) := by decide +kernel
theorem dX7_init_351 : decode cX7_init 351 = .ok (.bipush 105, 2) := by decide +kernel
theorem dX7_init_353 : decode cX7_init 353 = .ok (.iastore, 1) := by decide +kernel
theorem dX7_init_354 : decode cX7_init 354 = .ok (.dup, 1) := by decide +kernel
theorem dX7_init_355 : decode cX7_init 355 = .ok (.bipush 33, 2) := by decide +kernel
theorem dX7_init_357 : decode cX7_init 357 = .ok (.bipush 114, 2) := by decide +kernel
theorem dX7_init_359 : decode cX7_init 359 = .ok (.iastore, 1) := by decide +kernel
theorem dX7_init_360 : decode cX7_init 360 = .ok (.dup, 1) := by decide +kernel
theorem dX7_init_361 : decode cX7_init 361 = .ok (.bipush 34, 2) := by decide +kernel
theorem dX7_init_363 : decode cX7_init 363 = .ok (.bipush 115, 2) := by decide +kernel
theorem dX7_init_365 : decode cX7_init 365 = .ok (.iastore, 1) := by decide +kernel
theorem dX7_init_366 : decode cX7_init 366 = .ok (.dup, 1) := by decide +kernel
theorem dX7_init_367 : decode cX7_init 367 = .ok (.bipush 35, 2) := by decide +kernel
theorem dX7_init_369 : decode cX7_init 369 = .ok (.bipush 32, 2) := by decide +kernel
theorem dX7_init_371 : decode cX7_init 371 = .ok (.iastore, 1) := by decide +kernel
theorem dX7_init_372 : decode cX7_init 372 = .ok (.dup, 1) := by decide +kernel
theorem dX7_init_373 : decode cX7_init 373 = .ok (.bipush 36, 2) := by decide +kernel
theorem dX7_init_375 : decode cX7_init 375 = .ok (.iconst 0, 1) := by decide +kernel
theorem dX7_init_376 : decode cX7_init 376 = .ok (.iastore, 1) := by decide +kernel
theorem dX7_init_377 : decode cX7_init 377 = .ok (.dup, 1) := by decide +kernel
theorem dX7_init_378 : decode cX7_init 378 = .ok (.bipush 37, 2) := by decide +kernel
theorem dX7_init_380 : decode cX7_init 380 = .ok (.bipush 98, 2) := by decide +kernel
theorem dX7_init_382 : decode cX7_init 382 = .ok (.iastore, 1) := by decide +kernel
theorem dX7_init_383 : decode cX7_init 383 = .ok (.dup, 1) := by decide +kernel
theorem dX7_init_384 : decode cX7_init 384 = .ok (.bipush 38, 2) := by decide +kernel
theorem dX7_init_386 : decode cX7_init 386 = .ok (.bipush 97, 2) := by decide +kernel
theorem dX7_init_388 : decode cX7_init 388 = .ok (.iastore, 1) := by decide +kernel
theorem dX7_init_389 : decode cX7_init 389 = .ok (.dup, 1) := by decide +kernel
theorem dX7_init_390 : decode cX7_init 390 = .ok (.bipush 39, 2) := by decide +kernel
theorem dX7_init_392 : decode cX7_init 392 = .ok (.bipush 114, 2) := by decide +kernel
theorem dX7_init_394 : decode cX7_init 394 = .ok (.iastore, 1) := by decide +kernel
theorem dX7_init_395 : decode cX7_init 395 = .ok (.dup, 1) := by decide +kernel
theorem dX7_init_396 : decode cX7_init 396 = .ok (.bipush 40, 2) := by decide +kernel
theorem dX7_init_398 : decode cX7_init 398 = .ok (.bipush 32, 2) := by decide +kernel
theorem dX7_init_400 : decode cX7_init 400 = .ok (.iastore, 1) := by decide +kernel
theorem dX7_init_401 : decode cX7_init 401 = .ok (.dup, 1) := by decide +kernel
theorem dX7_init_402 : decode cX7_init 402 = .ok (.bipush 41, 2) := by decide +kernel
theorem dX7_init_404 : decode cX7_init 404 = .ok (.iconst 0, 1) := by decide +kernel
theorem dX7_init_405 : decode cX7_init 405 = .ok (.iastore, 1) := by decide +kernel
theorem dX7_init_406 : decode cX7_init 406 = .ok (.dup, 1) := by decide +kernel
theorem dX7_init_407 : decode cX7_init 407 = .ok (.bipush 42, 2) := by decide +kernel
theorem dX7_init_409 : decode cX7_init 409 = .ok (.bipush 103, 2) := by decide +kernel
theorem dX7_init_411 : decode cX7_init 411 = .ok (.iastore, 1) := by decide +kernel
theorem dX7_init_412 : decode cX7_init 412 = .ok (.dup, 1) := by decide +kernel
theorem dX7_init_413 : decode cX7_init 413 = .ok (.bipush 43, 2) := by decide +kernel
theorem dX7_init_415 : decode cX7_init 415 = .ok (.bipush 111, 2) := by decide +kernel
theorem dX7_init_417 : decode cX7_init 417 = .ok (.iastore, 1) := by decide +kernel
theorem dX7_init_418 : decode cX7_init 418 = .ok (.dup, 1) := by decide +kernel
theorem dX7_init_419 : decode cX7_init 419 = .ok (.bipush 44, 2) := by decide +kernel
theorem dX7_init_421 : decode cX7_init 421 = .ok (.bipush 110, 2) := by decide +kernel
theorem dX7_init_423 : decode cX7_init 423 = .ok (.iastore, 1) := by decide +kernel
theorem dX7_init_424 : decode cX7_init 424 = .ok (.dup, 1) := by decide +kernel
theorem dX7_init_425 : decode cX7_init 425 = .ok (.bipush 45, 2) := by decide +kernel
theorem dX7_init_427 : decode cX7_init 427 = .ok (.bipush 101, 2) := by decide +kernel
theorem dX7_init_429 : decode cX7_init 429 = .ok (.iastore, 1) := by decide +kernel
theorem dX7_init_430 : decode cX7_init 430 = .ok (.dup, 1) := by decide +kernel
theorem dX7_init_431 : decode cX7_init 431 = .ok (.bipush 46, 2) := by decide +kernel
theorem dX7_init_433 : decode cX7_init 433 = .ok (.bipush 32, 2) := by decide +kernel
theorem dX7_init_435 : decode cX7_init 435 = .ok (.iastore, 1) := by decide +kernel
theorem dX7_init_436 : decode cX7_init 436 = .ok (.dup, 1) := by decide +kernel
theorem dX7_init_437 : decode cX7_init 437 = .ok (.bipush 47, 2) := by decide +kernel
theorem dX7_init_439 : decode cX7_init 439 = .ok (.iconst 0, 1) := by decide +kernel
theorem dX7_init_440 : decode cX7_init 440 = .ok (.iastore, 1) := by decide +kernel
theorem dX7_init_441 : decode cX7_init 441 = .ok (.putfield 75, 3) := by decide +kernel
theorem dX7_init_444 : decode cX7_init 444 = .ok (.aload_n 0, 1) := by decide +kernel
theorem dX7_init_445 : decode cX7_init 445 = .ok (.bipush 7, 2) := by decide +kernel
theorem dX7_init_447 : decode cX7_init 447 = .ok (.newarray .int, 2) := by decide +kernel
theorem dX7_init_449 : decode cX7_init 449 = .ok (.dup, 1) := by decide +kernel
theorem dX7_init_450 : decode cX7_init 450 = .ok (.iconst 0, 1) := by decide +kernel
theorem dX7_init_451 : decode cX7_init 451 = .ok (.iconst 4, 1) := by decide +kernel
theorem dX7_init_452 : decode cX7_init 452 = .ok (.iastore, 1) := by decide +kernel
theorem dX7_init_453 : decode cX7_init 453 = .ok (.dup, 1) := by decide +kernel
theorem dX7_init_454 : decode cX7_init 454 = .ok (.iconst 1, 1) := by decide +kernel
theorem dX7_init_455 : decode cX7_init 455 = .ok (.iconst 2, 1) := by decide +kernel
theorem dX7_init_456 : decode cX7_init 456 = .ok (.iastore, 1) := by decide +kernel
theorem dX7_init_457 : decode cX7_init 457 = .ok (.dup, 1) := by decide +kernel
theorem dX7_init_458 : decode cX7_init 458 = .ok (.iconst 2, 1) := by decide +kernel
theorem dX7_init_459 : decode cX7_init 459 = .ok (.iconst 1, 1) := by decide +kernel
theorem dX7_init_460 : decode cX7_init 460 = .ok (.iastore, 1) := by decide +kernel
theorem dX7_init_461 : decode cX7_init 461 = .ok (.dup, 1) := by decide +kernel
theorem dX7_init_462 : decode cX7_init 462 = .ok (.iconst 3, 1) := by decide +kernel
theorem dX7_init_463 : decode cX7_init 463 = .ok (.iconst 1, 1) := by decide +kernel
theorem dX7_init_464 : decode cX7_init 464 = .ok (.iastore, 1) := by decide +kernel
theorem dX7_init_465 : decode cX7_init 465 = .ok (.dup, 1) := by decide +kernel
theorem dX7_init_466 : decode cX7_init 466 = .ok (.iconst 4, 1) := by decide +kernel
theorem dX7_init_467 : decode cX7_init 467 = .ok (.iconst 1, 1) := by decide +kernel
theorem dX7_init_468 : decode cX7_init 468 = .ok (.iastore, 1) := by decide +kernel
theorem dX7_init_469 : decode cX7_init 469 = .ok (.dup, 1) := by decide +kernel
theorem dX7_init_470 : decode cX7_init 470 = .ok (.iconst 5, 1) := by decide +kernel
theorem dX7_init_471 : decode cX7_init 471 = .ok (.iconst 1, 1) := by decide +kernel
theorem dX7_init_472 : decode cX7_init 472 = .ok (.iastore, 1) := by decide +kernel
theorem dX7_init_473 : decode cX7_init 473 = .ok (.dup, 1) := by decide +kernel
theorem dX7_init_474 : decode cX7_init 474 = .ok (.bipush 6, 2) := by decide +kernel
theorem dX7_init_476 : decode cX7_init 476 = .ok (.iconst 1, 1) := by decide +kernel
theorem dX7_init_477 : decode cX7_init 477 = .ok (.iastore, 1) := by decide +kernel
theorem dX7_init_478 : decode cX7_init 478 = .ok (.putfield 78, 3) := by decide +kernel
theorem dX7_init_481 : decode cX7_init 481 = .ok (.aload_n 0, 1) := by decide +kernel
theorem dX7_init_482 : decode cX7_init 482 = .ok (.iconst 4, 1) := by decide +kernel
theorem dX7_init_483 : decode cX7_init 483 = .ok (.newarray .int, 2) := by decide +kernel
theorem dX7_init_485 : decode cX7_init 485 = .ok (.dup, 1) := by decide +kernel
theorem dX7_init_486 : decode cX7_init 486 = .ok (.iconst 0, 1) := by decide +kernel
theorem dX7_init_487 : decode cX7_init 487 = .ok (.bipush 6, 2) := by decide +kernel
theorem dX7_init_489 : decode cX7_init 489 = .ok (.iastore, 1) := by decide +kernel
theorem dX7_init_490 : decode cX7_init 490 = .ok (.dup, 1) := by decide +kernel
theorem dX7_init_491 : decode cX7_init 491 = .ok (.iconst 1, 1) := by decide +kernel
theorem dX7_init_492 : decode cX7_init 492 = .ok (.bipush 9, 2) := by decide +kernel
theorem dX7_init_494 : decode cX7_init 494 = .ok (.iastore, 1) := by decide +kernel
theorem dX7_init_495 : decode cX7_init 495 = .ok (.dup, 1) := by decide +kernel
theorem dX7_init_496 : decode cX7_init 496 = .ok (.iconst 2, 1) := by decide +kernel
theorem dX7_init_497 : decode cX7_init 497 = .ok (.bipush 20, 2) := by decide +kernel
theorem dX7_init_499 : decode cX7_init 499 = .ok (.iastore, 1) := by decide +kernel
theorem dX7_init_500 : decode cX7_init 500 = .ok (.dup, 1) := by decide +kernel
theorem dX7_init_501 : decode cX7_init 501 = .ok (.iconst 3, 1) := by decide +kernel
theorem dX7_init_502 : decode cX7_init 502 = .ok (.iconst 1, 1) := by decide +kernel
theorem dX7_init_503 : decode cX7_init 503 = .ok (.iastore, 1) := by decide +kernel
theorem dX7_init_504 : decode cX7_init 504 = .ok (.putfield 81, 3) := by decide +kernel
theorem dX7_init_507 : decode cX7_init 507 = .ok (.aload_n 0, 1) := by decide +kernel
theorem dX7_init_508 : decode cX7_init 508 = .ok (.iconst 4, 1) := by decide +kernel
theorem dX7_init_509 : decode cX7_init 509 = .ok (.newarray .int, 2) := by decide +kernel
theorem dX7_init_511 : decode cX7_init 511 = .ok (.putfield 84, 3) := by decide +kernel
theorem dX7_init_514 : decode cX7_init 514 = .ok (.aload_n 0, 1) := by decide +kernel
theorem dX7_init_515 : decode cX7_init 515 = .ok (.bipush 100, 2) := by decide +kernel
theorem dX7_init_517 : decode cX7_init 517 = .ok (.newarray .int, 2) := by decide +kernel
theorem dX7_init_519 : decode cX7_init 519 = .ok (.putfield 87, 3) := by decide +kernel
theorem dX7_init_522 : decode cX7_init 522 = .ok (.aload_n 0, 1) := by decide +kernel
theorem dX7_init_523 : decode cX7_init 523 = .ok (.bipush 100, 2) := by decide +kernel
theorem dX7_init_525 : decode cX7_init 525 = .ok (.newarray .int, 2) := by decide +kernel
theorem dX7_init_527 : decode cX7_init 527 = .ok (.putfield 90, 3) := by decide +kernel
theorem dX7_init_530 : decode cX7_init 530 = .ok (.aload_n 0, 1) := by decide +kernel
theorem dX7_init_531 : decode cX7_init 531 = .ok (.bipush 100, 2) := by decide +kernel
theorem dX7_init_533 : decode cX7_init 533 = .ok (.newarray .int, 2) := by decide +kernel
theorem dX7_init_535 : decode cX7_init 535 = .ok (.putfield 93, 3) := by decide +kernel
theorem dX7_init_538 : decode cX7_init 538 = .ok (.aload_n 0, 1) := by decide +kernel
theorem dX7_init_539 : decode cX7_init 539 = .ok (.bipush 10, 2) := by decide +kernel
theorem dX7_init_541 : decode cX7_init 541 = .ok (.newarray .int, 2) := by decide +kernel
theorem dX7_init_543 : decode cX7_init 543 = .ok (.putfield 96, 3) := by decide +kernel
theorem dX7_init_546 : decode cX7_init 546 = .ok (.aload_n 0, 1) := by decide +kernel
theorem dX7_init_547 : decode cX7_init 547 = .ok (.bipush 20, 2) := by decide +kernel
theorem dX7_init_549 : decode cX7_init 549 = .ok (.newarray .int, 2) := by decide +kernel
theorem dX7_init_551 : decode cX7_init 551 = .ok (.putfield 99, 3) := by decide +kernel
theorem dX7_init_554 : decode cX7_init 554 = .ok (.return_, 1) := by decide +kernel
theorem dX7_no_0 : decode cX7_no 0 = .ok (.aload_n 0, 1) := by decide +kernel
theorem dX7_no_1 : decode cX7_no 1 = .ok (.getfield 25, 3) := by decide +kernel
theorem dX7_no_4 : decode cX7_no 4 = .ok (.iload_n 1, 1) := by decide +kernel
theorem dX7_no_5 : decode cX7_no 5 = .ok (.ineg, 1) := by decide +kernel
theorem dX7_no_6 : decode cX7_no 6 = .ok (.dup2, 1) := by decide +kernel
theorem dX7_no_7 : decode cX7_no 7 = .ok (.iaload, 1) := by decide +kernel
theorem dX7_no_8 : decode cX7_no 8 = .ok (.iconst 1, 1) := by decide +kernel
theorem dX7_no_9 : decode cX7_no 9 = .ok (.iadd, 1) := by decide +kernel
theorem dX7_no_10 : decode cX7_no 10 = .ok (.iastore, 1) := by decide +kernel
theorem dX7_no_11 : decode cX7_no 11 = .ok (.iload_n 1, 1) := by decide +kernel
theorem dX7_no_12 : decode cX7_no 12 = .ok (.ireturn, 1) := by decide +kernel
theorem dX7_noTen_0 : decode cX7_noTen 0 = .ok (.aload_n 0, 1) := by decide +kernel
theorem dX7_noTen_1 : decode cX7_noTen 1 = .ok (.getfield 25, 3) := by decide +kernel
theorem dX7_noTen_4 : decode cX7_noTen 4 = .ok (.iload_n 1, 1) := by decide +kernel
theorem dX7_noTen_5 : decode cX7_noTen 5 = .ok (.ineg, 1) := by decide +kernel
theorem dX7_noTen_6 : decode cX7_noTen 6 = .ok (.dup2, 1) := by decide +kernel
theorem dX7_noTen_7 : decode cX7_noTen 7 = .ok (.iaload, 1) := by decide +kernel
theorem dX7_noTen_8 : decode cX7_noTen 8 = .ok (.iconst 1, 1) := by decide +kernel
theorem dX7_noTen_9 : decode cX7_noTen 9 = .ok (.iadd, 1) := by decide +kernel
theorem dX7_noTen_10 : decode cX7_noTen 10 = .ok (.iastore, 1) := by decide +kernel
theorem dX7_noTen_11 : decode cX7_noTen 11 = .ok (.iload_n 1, 1) := by decide +kernel
theorem dX7_noTen_12 : decode cX7_noTen 12 = .ok (.bipush 10, 2) := by decide +kernel
theorem dX7_noTen_14 : decode cX7_noTen 14 = .ok (.isub, 1) := by decide +kernel
theorem dX7_noTen_15 : decode cX7_noTen 15 = .ok (.ireturn, 1) := by decide +kernel
theorem dX7_isShelf_0 : decode cX7_isShelf 0 = .ok (.iload_n 1, 1) := by decide +kernel
theorem dX7_isShelf_1 : decode cX7_isShelf 1 = .ok (.ifCond .lt 13, 3) := by decide +kernel
theorem dX7_isShelf_4 : decode cX7_isShelf 4 = .ok (.iload_n 1, 1) := by decide +kernel
theorem dX7_isShelf_5 : decode cX7_isShelf 5 = .ok (.bipush 8, 2) := by decide +kernel
theorem dX7_isShelf_7 : decode cX7_isShelf 7 = .ok (.if_icmp .ge 7, 3) := by decide +kernel
theorem dX7_isShelf_10 : decode cX7_isShelf 10 = .ok (.iconst 1, 1) := by decide +kernel
theorem dX7_isShelf_11 : decode cX7_isShelf 11 = .ok (.goto 4, 3) := by decide +kernel
theorem dX7_isShelf_14 : decode cX7_isShelf 14 = .ok (.iconst 0, 1) := by decide +kernel
theorem dX7_isShelf_15 : decode cX7_isShelf 15 = .ok (.ireturn, 1) := by decide +kernel
theorem dX7_isOne_0 : decode cX7_isOne 0 = .ok (.iload_n 1, 1) := by decide +kernel
theorem dX7_isOne_1 : decode cX7_isOne 1 = .ok (.ifCond .lt 15, 3) := by decide +kernel
theorem dX7_isOne_4 : decode cX7_isOne 4 = .ok (.iload_n 1, 1) := by decide +kernel
theorem dX7_isOne_5 : decode cX7_isOne 5 = .ok (.aload_n 0, 1) := by decide +kernel
theorem dX7_isOne_6 : decode cX7_isOne 6 = .ok (.getfield 102, 3) := by decide +kernel
theorem dX7_isOne_9 : decode cX7_isOne 9 = .ok (.if_icmp .ge 7, 3) := by decide +kernel
theorem dX7_isOne_12 : decode cX7_isOne 12 = .ok (.iconst 1, 1) := by decide +kernel
theorem dX7_isOne_13 : decode cX7_isOne 13 = .ok (.goto 4, 3) := by decide +kernel
theorem dX7_isOne_16 : decode cX7_isOne 16 = .ok (.iconst 0, 1) := by decide +kernel
theorem dX7_isOne_17 : decode cX7_isOne 17 = .ok (.ireturn, 1) := by decide +kernel
theorem dX7_isFrom_0 : decode cX7_isFrom 0 = .ok (.iload_n 1, 1) := by decide +kernel
theorem dX7_isFrom_1 : decode cX7_isFrom 1 = .ok (.iload_n 2, 1) := by decide +kernel
theorem dX7_isFrom_2 : decode cX7_isFrom 2 = .ok (.if_icmp .lt 12, 3) := by decide +kernel
theorem dX7_isFrom_5 : decode cX7_isFrom 5 = .ok (.iload_n 1, 1) := by decide +kernel
theorem dX7_isFrom_6 : decode cX7_isFrom 6 = .ok (.iload_n 3, 1) := by decide +kernel
theorem dX7_isFrom_7 : decode cX7_isFrom 7 = .ok (.if_icmp .gt 7, 3) := by decide +kernel
theorem dX7_isFrom_10 : decode cX7_isFrom 10 = .ok (.iconst 1, 1) := by decide +kernel
theorem dX7_isFrom_11 : decode cX7_isFrom 11 = .ok (.goto 4, 3) := by decide +kernel
theorem dX7_isFrom_14 : decode cX7_isFrom 14 = .ok (.iconst 0, 1) := by decide +kernel
theorem dX7_isFrom_15 : decode cX7_isFrom 15 = .ok (.ireturn, 1) := by decide +kernel
theorem dX7_row_0 : decode cX7_row 0 = .ok (.aload_n 0, 1) := by decide +kernel
theorem dX7_row_1 : decode cX7_row 1 = .ok (.iload_n 1, 1) := by decide +kernel
theorem dX7_row_2 : decode cX7_row 2 = .ok (.invokevirtual 105, 3) := by decide +kernel
theorem dX7_row_5 : decode cX7_row 5 = .ok (.ifCond .ne 9, 3) := by decide +kernel
theorem dX7_row_8 : decode cX7_row 8 = .ok (.aload_n 0, 1) := by decide +kernel
theorem dX7_row_9 : decode cX7_row 9 = .ok (.iconst (-1), 1) := by decide +kernel
theorem dX7_row_10 : decode cX7_row 10 = .ok (.invokevirtual 109, 3) := by decide +kernel
theorem dX7_row_13 : decode cX7_row 13 = .ok (.ireturn, 1) := by decide +kernel
theorem dX7_row_14 : decode cX7_row 14 = .ok (.iload_n 3, 1) := by decide +kernel
theorem dX7_row_15 : decode cX7_row 15 = .ok (.ifCond .ge 10, 3) := by decide +kernel
theorem dX7_row_18 : decode cX7_row 18 = .ok (.aload_n 0, 1) := by decide +kernel
theorem dX7_row_19 : decode cX7_row 19 = .ok (.bipush (-4), 2) := by decide +kernel
theorem dX7_row_21 : decode cX7_row 21 = .ok (.invokevirtual 109, 3) := by decide +kernel
theorem dX7_row_24 : decode cX7_row 24 = .ok (.ireturn, 1) := by decide +kernel
theorem dX7_row_25 : decode cX7_row 25 = .ok (.iload_n 2, 1) := by decide +kernel
theorem dX7_row_26 : decode cX7_row 26 = .ok (.ifCond .lt 8, 3) := by decide +kernel
theorem dX7_row_29 : decode cX7_row 29 = .ok (.iload_n 2, 1) := by decide +kernel
theorem dX7_row_30 : decode cX7_row 30 = .ok (.iconst 3, 1) := by decide +kernel
theorem dX7_row_31 : decode cX7_row 31 = .ok (.if_icmp .le 10, 3) := by decide +kernel
theorem dX7_row_34 : decode cX7_row 34 = .ok (.aload_n 0, 1) := by decide +kernel
theorem dX7_row_35 : decode cX7_row 35 = .ok (.bipush (-6), 2) := by decide +kernel
theorem dX7_row_37 : decode cX7_row 37 = .ok (.invokevirtual 109, 3) := by decide +kernel
theorem dX7_row_40 : decode cX7_row 40 = .ok (.ireturn, 1) := by decide +kernel
theorem dX7_row_41 : decode cX7_row 41 = .ok (.iload_n 3, 1) := by decide +kernel
theorem dX7_row_42 : decode cX7_row 42 = .ok (.sipush 160, 3) := by decide +kernel
theorem dX7_row_45 : decode cX7_row 45 = .ok (.if_icmp .le 10, 3) := by decide +kernel
theorem dX7_row_48 : decode cX7_row 48 = .ok (.aload_n 0, 1) := by decide +kernel
theorem dX7_row_49 : decode cX7_row 49 = .ok (.bipush (-7), 2) := by decide +kernel
theorem dX7_row_51 : decode cX7_row 51 = .ok (.invokevirtual 109, 3) := by decide +kernel
theorem dX7_row_54 : decode cX7_row 54 = .ok (.ireturn, 1) := by decide +kernel
theorem dX7_row_55 : decode cX7_row 55 = .ok (.aload_n 0, 1) := by decide +kernel
theorem dX7_row_56 : decode cX7_row 56 = .ok (.getfield 56, 3) := by decide +kernel
theorem dX7_row_59 : decode cX7_row 59 = .ok (.iload_n 1, 1) := by decide +kernel
theorem dX7_row_60 : decode cX7_row 60 = .ok (.iconst 1, 1) := by decide +kernel
theorem dX7_row_61 : decode cX7_row 61 = .ok (.iastore, 1) := by decide +kernel
theorem dX7_row_62 : decode cX7_row 62 = .ok (.aload_n 0, 1) := by decide +kernel
theorem dX7_row_63 : decode cX7_row 63 = .ok (.getfield 59, 3) := by decide +kernel
theorem dX7_row_66 : decode cX7_row 66 = .ok (.iload_n 1, 1) := by decide +kernel
theorem dX7_row_67 : decode cX7_row 67 = .ok (.iload_n 2, 1) := by decide +kernel
theorem dX7_row_68 : decode cX7_row 68 = .ok (.iastore, 1) := by decide +kernel
theorem dX7_row_69 : decode cX7_row 69 = .ok (.aload_n 0, 1) := by decide +kernel
theorem dX7_row_70 : decode cX7_row 70 = .ok (.getfield 62, 3) := by decide +kernel
theorem dX7_row_73 : decode cX7_row 73 = .ok (.iload_n 1, 1) := by decide +kernel
theorem dX7_row_74 : decode cX7_row 74 = .ok (.iload_n 3, 1) := by decide +kernel
theorem dX7_row_75 : decode cX7_row 75 = .ok (.iastore, 1) := by decide +kernel
theorem dX7_row_76 : decode cX7_row 76 = .ok (.iconst 0, 1) := by decide +kernel
theorem dX7_row_77 : decode cX7_row 77 = .ok (.istore 4, 2) := by decide +kernel
theorem dX7_row_79 : decode cX7_row 79 = .ok (.iload 4, 2) := by decide +kernel
theorem dX7_row_81 : decode cX7_row 81 = .ok (.sipush 160, 3) := by decide +kernel
theorem dX7_row_84 : decode cX7_row 84 = .ok (.if_icmp .ge 23, 3) := by decide +kernel
theorem dX7_row_87 : decode cX7_row 87 = .ok (.aload_n 0, 1) := by decide +kernel
theorem dX7_row_88 : decode cX7_row 88 = .ok (.getfield 68, 3) := by decide +kernel
theorem dX7_row_91 : decode cX7_row 91 = .ok (.sipush 160, 3) := by decide +kernel
theorem dX7_row_94 : decode cX7_row 94 = .ok (.iload_n 1, 1) := by decide +kernel
theorem dX7_row_95 : decode cX7_row 95 = .ok (.imul, 1) := by decide +kernel
theorem dX7_row_96 : decode cX7_row 96 = .ok (.iload 4, 2) := by decide +kernel
theorem dX7_row_98 : decode cX7_row 98 = .ok (.iadd, 1) := by decide +kernel
theorem dX7_row_99 : decode cX7_row 99 = .ok (.lconst 0, 1) := by decide +kernel
theorem dX7_row_100 : decode cX7_row 100 = .ok (.lastore, 1) := by decide +kernel
theorem dX7_row_101 : decode cX7_row 101 = .ok (.iinc 4 1, 3) := by decide +kernel
theorem dX7_row_104 : decode cX7_row 104 = .ok (.goto (-25), 3) := by decide +kernel
theorem dX7_row_107 : decode cX7_row 107 = .ok (.iconst 1, 1) := by decide +kernel
theorem dX7_row_108 : decode cX7_row 108 = .ok (.ireturn, 1) := by decide +kernel
theorem dX7_set_0 : decode cX7_set 0 = .ok (.aload_n 0, 1) := by decide +kernel
theorem dX7_set_1 : decode cX7_set 1 = .ok (.iload_n 1, 1) := by decide +kernel
theorem dX7_set_2 : decode cX7_set 2 = .ok (.invokevirtual 105, 3) := by decide +kernel
theorem dX7_set_5 : decode cX7_set 5 = .ok (.ifCond .ne 9, 3) := by decide +kernel
theorem dX7_set_8 : decode cX7_set 8 = .ok (.aload_n 0, 1) := by decide +kernel
theorem dX7_set_9 : decode cX7_set 9 = .ok (.iconst (-1), 1) := by decide +kernel
theorem dX7_set_10 : decode cX7_set 10 = .ok (.invokevirtual 109, 3) := by decide +kernel
theorem dX7_set_13 : decode cX7_set 13 = .ok (.ireturn, 1) := by decide +kernel
theorem dX7_set_14 : decode cX7_set 14 = .ok (.aload_n 0, 1) := by decide +kernel
theorem dX7_set_15 : decode cX7_set 15 = .ok (.getfield 56, 3) := by decide +kernel
theorem dX7_set_18 : decode cX7_set 18 = .ok (.iload_n 1, 1) := by decide +kernel
theorem dX7_set_19 : decode cX7_set 19 = .ok (.iaload, 1) := by decide +kernel
theorem dX7_set_20 : decode cX7_set 20 = .ok (.iconst 2, 1) := by decide +kernel
theorem dX7_set_21 : decode cX7_set 21 = .ok (.if_icmp .ne 10, 3) := by decide +kernel
theorem dX7_set_24 : decode cX7_set 24 = .ok (.aload_n 0, 1) := by decide +kernel
theorem dX7_set_25 : decode cX7_set 25 = .ok (.bipush (-2), 2) := by decide +kernel
theorem dX7_set_27 : decode cX7_set 27 = .ok (.invokevirtual 109, 3) := by decide +kernel
theorem dX7_set_30 : decode cX7_set 30 = .ok (.ireturn, 1) := by decide +kernel
theorem dX7_set_31 : decode cX7_set 31 = .ok (.aload_n 0, 1) := by decide +kernel
theorem dX7_set_32 : decode cX7_set 32 = .ok (.getfield 56, 3) := by decide +kernel
theorem dX7_set_35 : decode cX7_set 35 = .ok (.iload_n 1, 1) := by decide +kernel
theorem dX7_set_36 : decode cX7_set 36 = .ok (.iaload, 1) := by decide +kernel
theorem dX7_set_37 : decode cX7_set 37 = .ok (.ifCond .ne 10, 3) := by decide +kernel
theorem dX7_set_40 : decode cX7_set 40 = .ok (.aload_n 0, 1) := by decide +kernel
theorem dX7_set_41 : decode cX7_set 41 = .ok (.bipush (-3), 2) := by decide +kernel
theorem dX7_set_43 : decode cX7_set 43 = .ok (.invokevirtual 109, 3) := by decide +kernel
theorem dX7_set_46 : decode cX7_set 46 = .ok (.ireturn, 1) := by decide +kernel
theorem dX7_set_47 : decode cX7_set 47 = .ok (.iload_n 2, 1) := by decide +kernel
theorem dX7_set_48 : decode cX7_set 48 = .ok (.ifCond .lt 13, 3) := by decide +kernel
theorem dX7_set_51 : decode cX7_set 51 = .ok (.iload_n 2, 1) := by decide +kernel
theorem dX7_set_52 : decode cX7_set 52 = .ok (.aload_n 0, 1) := by decide +kernel
theorem dX7_set_53 : decode cX7_set 53 = .ok (.getfield 62, 3) := by decide +kernel
theorem dX7_set_56 : decode cX7_set 56 = .ok (.iload_n 1, 1) := by decide +kernel
theorem dX7_set_57 : decode cX7_set 57 = .ok (.iaload, 1) := by decide +kernel
theorem dX7_set_58 : decode cX7_set 58 = .ok (.if_icmp .lt 10, 3) := by decide +kernel
theorem dX7_set_61 : decode cX7_set 61 = .ok (.aload_n 0, 1) := by decide +kernel
theorem dX7_set_62 : decode cX7_set 62 = .ok (.bipush (-5), 2) := by decide +kernel
theorem dX7_set_64 : decode cX7_set 64 = .ok (.invokevirtual 109, 3) := by decide +kernel
theorem dX7_set_67 : decode cX7_set 67 = .ok (.ireturn, 1) := by decide +kernel
theorem dX7_set_68 : decode cX7_set 68 = .ok (.aload_n 0, 1) := by decide +kernel
theorem dX7_set_69 : decode cX7_set 69 = .ok (.getfield 68, 3) := by decide +kernel
theorem dX7_set_72 : decode cX7_set 72 = .ok (.sipush 160, 3) := by decide +kernel
theorem dX7_set_75 : decode cX7_set 75 = .ok (.iload_n 1, 1) := by decide +kernel
theorem dX7_set_76 : decode cX7_set 76 = .ok (.imul, 1) := by decide +kernel
theorem dX7_set_77 : decode cX7_set 77 = .ok (.iload_n 2, 1) := by decide +kernel
theorem dX7_set_78 : decode cX7_set 78 = .ok (.iadd, 1) := by decide +kernel
theorem dX7_set_79 : decode cX7_set 79 = .ok (.aload_n 0, 1) := by decide +kernel
theorem dX7_set_80 : decode cX7_set 80 = .ok (.getfield 59, 3) := by decide +kernel
theorem dX7_set_83 : decode cX7_set 83 = .ok (.iload_n 1, 1) := by decide +kernel
theorem dX7_set_84 : decode cX7_set 84 = .ok (.iaload, 1) := by decide +kernel
theorem dX7_set_85 : decode cX7_set 85 = .ok (.ifCond .ne 10, 3) := by decide +kernel
theorem dX7_set_88 : decode cX7_set 88 = .ok (.lload_n 3, 1) := by decide +kernel
theorem dX7_set_89 : decode cX7_set 89 = .ok (.l2i, 1) := by decide +kernel
theorem dX7_set_90 : decode cX7_set 90 = .ok (.i2b, 1) := by decide +kernel
theorem dX7_set_91 : decode cX7_set 91 = .ok (.i2l, 1) := by decide +kernel
theorem dX7_set_92 : decode cX7_set 92 = .ok (.goto 37, 3) := by decide +kernel
theorem dX7_set_95 : decode cX7_set 95 = .ok (.aload_n 0, 1) := by decide +kernel
theorem dX7_set_96 : decode cX7_set 96 = .ok (.getfield 59, 3) := by decide +kernel
theorem dX7_set_99 : decode cX7_set 99 = .ok (.iload_n 1, 1) := by decide +kernel
theorem dX7_set_100 : decode cX7_set 100 = .ok (.iaload, 1) := by decide +kernel
theorem dX7_set_101 : decode cX7_set 101 = .ok (.iconst 1, 1) := by decide +kernel
theorem dX7_set_102 : decode cX7_set 102 = .ok (.if_icmp .ne 10, 3) := by decide +kernel
theorem dX7_set_105 : decode cX7_set 105 = .ok (.lload_n 3, 1) := by decide +kernel
theorem dX7_set_106 : decode cX7_set 106 = .ok (.l2i, 1) := by decide +kernel
theorem dX7_set_107 : decode cX7_set 107 = .ok (.i2s, 1) := by decide +kernel
theorem dX7_set_108 : decode cX7_set 108 = .ok (.i2l, 1) := by decide +kernel
theorem dX7_set_109 : decode cX7_set 109 = .ok (.goto 20, 3) := by decide +kernel
theorem dX7_set_112 : decode cX7_set 112 = .ok (.aload_n 0, 1) := by decide +kernel
theorem dX7_set_113 : decode cX7_set 113 = .ok (.getfield 59, 3) := by decide +kernel
theorem dX7_set_116 : decode cX7_set 116 = .ok (.iload_n 1, 1) := by decide +kernel
theorem dX7_set_117 : decode cX7_set 117 = .ok (.iaload, 1) := by decide +kernel
theorem dX7_set_118 : decode cX7_set 118 = .ok (.iconst 2, 1) := by decide +kernel
theorem dX7_set_119 : decode cX7_set 119 = .ok (.if_icmp .ne 9, 3) := by decide +kernel
theorem dX7_set_122 : decode cX7_set 122 = .ok (.lload_n 3, 1) := by decide +kernel
theorem dX7_set_123 : decode cX7_set 123 = .ok (.l2i, 1) := by decide +kernel
theorem dX7_set_124 : decode cX7_set 124 = .ok (.i2l, 1) := by decide +kernel
theorem dX7_set_125 : decode cX7_set 125 = .ok (.goto 4, 3) := by decide +kernel
theorem dX7_set_128 : decode cX7_set 128 = .ok (.lload_n 3, 1) := by decide +kernel
theorem dX7_set_129 : decode cX7_set 129 = .ok (.lastore, 1) := by decide +kernel
theorem dX7_set_130 : decode cX7_set 130 = .ok (.iconst 1, 1) := by decide +kernel
theorem dX7_set_131 : decode cX7_set 131 = .ok (.ireturn, 1) := by decide +kernel
theorem dX7_copy_0 : decode cX7_copy 0 = .ok (.aload_n 0, 1) := by decide +kernel
theorem dX7_copy_1 : decode cX7_copy 1 = .ok (.iload_n 1, 1) := by decide +kernel
theorem dX7_copy_2 : decode cX7_copy 2 = .ok (.invokevirtual 105, 3) := by decide +kernel
theorem dX7_copy_5 : decode cX7_copy 5 = .ok (.ifCond .eq 11, 3) := by decide +kernel
theorem dX7_copy_8 : decode cX7_copy 8 = .ok (.aload_n 0, 1) := by decide +kernel
theorem dX7_copy_9 : decode cX7_copy 9 = .ok (.iload_n 2, 1) := by decide +kernel
theorem dX7_copy_10 : decode cX7_copy 10 = .ok (.invokevirtual 105, 3) := by decide +kernel
theorem dX7_copy_13 : decode cX7_copy 13 = .ok (.ifCond .ne 9, 3) := by decide +kernel
theorem dX7_copy_16 : decode cX7_copy 16 = .ok (.aload_n 0, 1) := by decide +kernel
theorem dX7_copy_17 : decode cX7_copy 17 = .ok (.iconst (-1), 1) := by decide +kernel
theorem dX7_copy_18 : decode cX7_copy 18 = .ok (.invokevirtual 109, 3) := by decide +kernel
theorem dX7_copy_21 : decode cX7_copy 21 = .ok (.ireturn, 1) := by decide +kernel
theorem dX7_copy_22 : decode cX7_copy 22 = .ok (.aload_n 0, 1) := by decide +kernel
theorem dX7_copy_23 : decode cX7_copy 23 = .ok (.getfield 56, 3) := by decide +kernel
theorem dX7_copy_26 : decode cX7_copy 26 = .ok (.iload_n 1, 1) := by decide +kernel
theorem dX7_copy_27 : decode cX7_copy 27 = .ok (.iaload, 1) := by decide +kernel
theorem dX7_copy_28 : decode cX7_copy 28 = .ok (.iconst 2, 1) := by decide +kernel
theorem dX7_copy_29 : decode cX7_copy 29 = .ok (.if_icmp .eq 48, 3) := by decide +kernel
theorem dX7_copy_32 : decode cX7_copy 32 = .ok (.aload_n 0, 1) := by decide +kernel
theorem dX7_copy_33 : decode cX7_copy 33 = .ok (.getfield 56, 3) := by decide +kernel
theorem dX7_copy_36 : decode cX7_copy 36 = .ok (.iload_n 2, 1) := by decide +kernel
theorem dX7_copy_37 : decode cX7_copy 37 = .ok (.iaload, 1) := by decide +kernel
theorem dX7_copy_38 : decode cX7_copy 38 = .ok (.iconst 2, 1) := by decide +kernel
theorem dX7_copy_39 : decode cX7_copy 39 = .ok (.if_icmp .eq 38, 3) := by decide +kernel
theorem dX7_copy_42 : decode cX7_copy 42 = .ok (.aload_n 0, 1) := by decide +kernel
theorem dX7_copy_43 : decode cX7_copy 43 = .ok (.getfield 56, 3) := by decide +kernel
theorem dX7_copy_46 : decode cX7_copy 46 = .ok (.iload_n 1, 1) := by decide +kernel
theorem dX7_copy_47 : decode cX7_copy 47 = .ok (.iaload, 1) := by decide +kernel
theorem dX7_copy_48 : decode cX7_copy 48 = .ok (.iconst 1, 1) := by decide +kernel
theorem dX7_copy_49 : decode cX7_copy 49 = .ok (.if_icmp .ne 35, 3) := by decide +kernel
theorem dX7_copy_52 : decode cX7_copy 52 = .ok (.aload_n 0, 1) := by decide +kernel
theorem dX7_copy_53 : decode cX7_copy 53 = .ok (.getfield 56, 3) := by decide +kernel
theorem dX7_copy_56 : decode cX7_copy 56 = .ok (.iload_n 2, 1) := by decide +kernel
theorem dX7_copy_57 : decode cX7_copy 57 = .ok (.iaload, 1) := by decide +kernel
theorem dX7_copy_58 : decode cX7_copy 58 = .ok (.iconst 1, 1) := by decide +kernel
theorem dX7_copy_59 : decode cX7_copy 59 = .ok (.if_icmp .ne 25, 3) := by decide +kernel
theorem dX7_copy_62 : decode cX7_copy 62 = .ok (.aload_n 0, 1) := by decide +kernel
theorem dX7_copy_63 : decode cX7_copy 63 = .ok (.getfield 59, 3) := by decide +kernel
theorem dX7_copy_66 : decode cX7_copy 66 = .ok (.iload_n 1, 1) := by decide +kernel
theorem dX7_copy_67 : decode cX7_copy 67 = .ok (.iaload, 1) := by decide +kernel
theorem dX7_copy_68 : decode cX7_copy 68 = .ok (.aload_n 0, 1) := by decide +kernel
theorem dX7_copy_69 : decode cX7_copy 69 = .ok (.getfield 59, 3) := by decide +kernel
theorem dX7_copy_72 : decode cX7_copy 72 = .ok (.iload_n 2, 1) := by decide +kernel
theorem dX7_copy_73 : decode cX7_copy 73 = .ok (.iaload, 1) := by decide +kernel
theorem dX7_copy_74 : decode cX7_copy 74 = .ok (.if_icmp .eq 10, 3) := by decide +kernel
theorem dX7_copy_77 : decode cX7_copy 77 = .ok (.aload_n 0, 1) := by decide +kernel
theorem dX7_copy_78 : decode cX7_copy 78 = .ok (.bipush (-2), 2) := by decide +kernel
theorem dX7_copy_80 : decode cX7_copy 80 = .ok (.invokevirtual 109, 3) := by decide +kernel
theorem dX7_copy_83 : decode cX7_copy 83 = .ok (.ireturn, 1) := by decide +kernel
theorem dX7_copy_84 : decode cX7_copy 84 = .ok (.aload_n 0, 1) := by decide +kernel
theorem dX7_copy_85 : decode cX7_copy 85 = .ok (.getfield 56, 3) := by decide +kernel
theorem dX7_copy_88 : decode cX7_copy 88 = .ok (.iload_n 1, 1) := by decide +kernel
theorem dX7_copy_89 : decode cX7_copy 89 = .ok (.iaload, 1) := by decide +kernel
theorem dX7_copy_90 : decode cX7_copy 90 = .ok (.ifCond .eq 12, 3) := by decide +kernel
theorem dX7_copy_93 : decode cX7_copy 93 = .ok (.aload_n 0, 1) := by decide +kernel
theorem dX7_copy_94 : decode cX7_copy 94 = .ok (.getfield 56, 3) := by decide +kernel
theorem dX7_copy_97 : decode cX7_copy 97 = .ok (.iload_n 2, 1) := by decide +kernel
theorem dX7_copy_98 : decode cX7_copy 98 = .ok (.iaload, 1) := by decide +kernel
theorem dX7_copy_99 : decode cX7_copy 99 = .ok (.ifCond .ne 10, 3) := by decide +kernel
theorem dX7_copy_102 : decode cX7_copy 102 = .ok (.aload_n 0, 1) := by decide +kernel
theorem dX7_copy_103 : decode cX7_copy 103 = .ok (.bipush (-3), 2) := by decide +kernel
theorem dX7_copy_105 : decode cX7_copy 105 = .ok (.invokevirtual 109, 3) := by decide +kernel
theorem dX7_copy_108 : decode cX7_copy 108 = .ok (.ireturn, 1) := by decide +kernel
theorem dX7_copy_109 : decode cX7_copy 109 = .ok (.iload 5, 2) := by decide +kernel
theorem dX7_copy_111 : decode cX7_copy 111 = .ok (.ifCond .ge 10, 3) := by decide +kernel
theorem dX7_copy_114 : decode cX7_copy 114 = .ok (.aload_n 0, 1) := by decide +kernel
theorem dX7_copy_115 : decode cX7_copy 115 = .ok (.bipush (-4), 2) := by decide +kernel
theorem dX7_copy_117 : decode cX7_copy 117 = .ok (.invokevirtual 109, 3) := by decide +kernel
theorem dX7_copy_120 : decode cX7_copy 120 = .ok (.ireturn, 1) := by decide +kernel
theorem dX7_copy_121 : decode cX7_copy 121 = .ok (.iload_n 3, 1) := by decide +kernel
theorem dX7_copy_122 : decode cX7_copy 122 = .ok (.ifCond .lt 35, 3) := by decide +kernel
theorem dX7_copy_125 : decode cX7_copy 125 = .ok (.iload 4, 2) := by decide +kernel
theorem dX7_copy_127 : decode cX7_copy 127 = .ok (.ifCond .lt 30, 3) := by decide +kernel
theorem dX7_copy_130 : decode cX7_copy 130 = .ok (.iload_n 3, 1) := by decide +kernel
theorem dX7_copy_131 : decode cX7_copy 131 = .ok (.aload_n 0, 1) := by decide +kernel
theorem dX7_copy_132 : decode cX7_copy 132 = .ok (.getfield 62, 3) := by decide +kernel
theorem dX7_copy_135 : decode cX7_copy 135 = .ok (.iload_n 1, 1) := by decide +kernel
theorem dX7_copy_136 : decode cX7_copy 136 = .ok (.iaload, 1) := by decide +kernel
theorem dX7_copy_137 : decode cX7_copy 137 = .ok (.iload 5, 2) := by decide +kernel
theorem dX7_copy_139 : decode cX7_copy 139 = .ok (.isub, 1) := by decide +kernel
theorem dX7_copy_140 : decode cX7_copy 140 = .ok (.if_icmp .gt 17, 3) := by decide +kernel
theorem dX7_copy_143 : decode cX7_copy 143 = .ok (.iload 4, 2) := by decide +kernel
theorem dX7_copy_145 : decode cX7_copy 145 = .ok (.aload_n 0, 1) := by decide +kernel
theorem dX7_copy_146 : decode cX7_copy 146 = .ok (.getfield 62, 3) := by decide +kernel
theorem dX7_copy_149 : decode cX7_copy 149 = .ok (.iload_n 2, 1) := by decide +kernel
theorem dX7_copy_150 : decode cX7_copy 150 = .ok (.iaload, 1) := by decide +kernel
theorem dX7_copy_151 : decode cX7_copy 151 = .ok (.iload 5, 2) := by decide +kernel
theorem dX7_copy_153 : decode cX7_copy 153 = .ok (.isub, 1) := by decide +kernel
theorem dX7_copy_154 : decode cX7_copy 154 = .ok (.if_icmp .le 10, 3) := by decide +kernel
theorem dX7_copy_157 : decode cX7_copy 157 = .ok (.aload_n 0, 1) := by decide +kernel
theorem dX7_copy_158 : decode cX7_copy 158 = .ok (.bipush (-5), 2) := by decide +kernel
theorem dX7_copy_160 : decode cX7_copy 160 = .ok (.invokevirtual 109, 3) := by decide +kernel
theorem dX7_copy_163 : decode cX7_copy 163 = .ok (.ireturn, 1) := by decide +kernel
theorem dX7_copy_164 : decode cX7_copy 164 = .ok (.iconst 0, 1) := by decide +kernel
theorem dX7_copy_165 : decode cX7_copy 165 = .ok (.istore 6, 2) := by decide +kernel
theorem dX7_copy_167 : decode cX7_copy 167 = .ok (.iload 6, 2) := by decide +kernel
theorem dX7_copy_169 : decode cX7_copy 169 = .ok (.iload 5, 2) := by decide +kernel
theorem dX7_copy_171 : decode cX7_copy 171 = .ok (.if_icmp .ge 31, 3) := by decide +kernel
theorem dX7_copy_174 : decode cX7_copy 174 = .ok (.aload_n 0, 1) := by decide +kernel
theorem dX7_copy_175 : decode cX7_copy 175 = .ok (.getfield 72, 3) := by decide +kernel
theorem dX7_copy_178 : decode cX7_copy 178 = .ok (.iload 6, 2) := by decide +kernel
theorem dX7_copy_180 : decode cX7_copy 180 = .ok (.aload_n 0, 1) := by decide +kernel
theorem dX7_copy_181 : decode cX7_copy 181 = .ok (.getfield 68, 3) := by decide +kernel
theorem dX7_copy_184 : decode cX7_copy 184 = .ok (.sipush 160, 3) := by decide +kernel
theorem dX7_copy_187 : decode cX7_copy 187 = .ok (.iload_n 1, 1) := by decide +kernel
theorem dX7_copy_188 : decode cX7_copy 188 = .ok (.imul, 1) := by decide +kernel
theorem dX7_copy_189 : decode cX7_copy 189 = .ok (.iload_n 3, 1) := by decide +kernel
theorem dX7_copy_190 : decode cX7_copy 190 = .ok (.iadd, 1) := by decide +kernel
theorem dX7_copy_191 : decode cX7_copy 191 = .ok (.iload 6, 2) := by decide +kernel
theorem dX7_copy_193 : decode cX7_copy 193 = .ok (.iadd, 1) := by decide +kernel
theorem dX7_copy_194 : decode cX7_copy 194 = .ok (.laload, 1) := by decide +kernel
theorem dX7_copy_195 : decode cX7_copy 195 = .ok (.lastore, 1) := by decide +kernel
theorem dX7_copy_196 : decode cX7_copy 196 = .ok (.iinc 6 1, 3) := by decide +kernel
theorem dX7_copy_199 : decode cX7_copy 199 = .ok (.goto (-32), 3) := by decide +kernel
theorem dX7_copy_202 : decode cX7_copy 202 = .ok (.iconst 0, 1) := by decide +kernel
theorem dX7_copy_203 : decode cX7_copy 203 = .ok (.istore 6, 2) := by decide +kernel
theorem dX7_copy_205 : decode cX7_copy 205 = .ok (.iload 6, 2) := by decide +kernel
theorem dX7_copy_207 : decode cX7_copy 207 = .ok (.iload 5, 2) := by decide +kernel
theorem dX7_copy_209 : decode cX7_copy 209 = .ok (.if_icmp .ge 32, 3) := by decide +kernel
theorem dX7_copy_212 : decode cX7_copy 212 = .ok (.aload_n 0, 1) := by decide +kernel
theorem dX7_copy_213 : decode cX7_copy 213 = .ok (.getfield 68, 3) := by decide +kernel
theorem dX7_copy_216 : decode cX7_copy 216 = .ok (.sipush 160, 3) := by decide +kernel
theorem dX7_copy_219 : decode cX7_copy 219 = .ok (.iload_n 2, 1) := by decide +kernel
theorem dX7_copy_220 : decode cX7_copy 220 = .ok (.imul, 1) := by decide +kernel
theorem dX7_copy_221 : decode cX7_copy 221 = .ok (.iload 4, 2) := by decide +kernel
theorem dX7_copy_223 : decode cX7_copy 223 = .ok (.iadd, 1) := by decide +kernel
theorem dX7_copy_224 : decode cX7_copy 224 = .ok (.iload 6, 2) := by decide +kernel
theorem dX7_copy_226 : decode cX7_copy 226 = .ok (.iadd, 1) := by decide +kernel
theorem dX7_copy_227 : decode cX7_copy 227 = .ok (.aload_n 0, 1) := by decide +kernel
theorem dX7_copy_228 : decode cX7_copy 228 = .ok (.getfield 72, 3) := by decide +kernel
theorem dX7_copy_231 : decode cX7_copy 231 = .ok (.iload 6, 2) := by decide +kernel
theorem dX7_copy_233 : decode cX7_copy 233 = .ok (.laload, 1) := by decide +kernel
theorem dX7_copy_234 : decode cX7_copy 234 = .ok (.lastore, 1) := by decide +kernel
theorem dX7_copy_235 : decode cX7_copy 235 = .ok (.iinc 6 1, 3) := by decide +kernel
theorem dX7_copy_238 : decode cX7_copy 238 = .ok (.goto (-33), 3) := by decide +kernel
theorem dX7_copy_241 : decode cX7_copy 241 = .ok (.iconst 1, 1) := by decide +kernel
theorem dX7_copy_242 : decode cX7_copy 242 = .ok (.ireturn, 1) := by decide +kernel
theorem dX7_element_0 : decode cX7_element 0 = .ok (.aload_n 0, 1) := by decide +kernel
theorem dX7_element_1 : decode cX7_element 1 = .ok (.iload_n 1, 1) := by decide +kernel
theorem dX7_element_2 : decode cX7_element 2 = .ok (.invokevirtual 105, 3) := by decide +kernel
theorem dX7_element_5 : decode cX7_element 5 = .ok (.ifCond .eq 42, 3) := by decide +kernel
theorem dX7_element_8 : decode cX7_element 8 = .ok (.aload_n 0, 1) := by decide +kernel
theorem dX7_element_9 : decode cX7_element 9 = .ok (.getfield 56, 3) := by decide +kernel
theorem dX7_element_12 : decode cX7_element 12 = .ok (.iload_n 1, 1) := by decide +kernel
theorem dX7_element_13 : decode cX7_element 13 = .ok (.iaload, 1) := by decide +kernel
theorem dX7_element_14 : decode cX7_element 14 = .ok (.iconst 1, 1) := by decide +kernel
theorem dX7_element_15 : decode cX7_element 15 = .ok (.if_icmp .ne 32, 3) := by decide +kernel
theorem dX7_element_18 : decode cX7_element 18 = .ok (.iload_n 2, 1) := by decide +kernel
theorem dX7_element_19 : decode cX7_element 19 = .ok (.ifCond .lt 28, 3) := by decide +kernel
theorem dX7_element_22 : decode cX7_element 22 = .ok (.iload_n 2, 1) := by decide +kernel
theorem dX7_element_23 : decode cX7_element 23 = .ok (.aload_n 0, 1) := by decide +kernel
theorem dX7_element_24 : decode cX7_element 24 = .ok (.getfield 62, 3) := by decide +kernel
theorem dX7_element_27 : decode cX7_element 27 = .ok (.iload_n 1, 1) := by decide +kernel
theorem dX7_element_28 : decode cX7_element 28 = .ok (.iaload, 1) := by decide +kernel
theorem dX7_element_29 : decode cX7_element 29 = .ok (.if_icmp .ge 18, 3) := by decide +kernel
theorem dX7_element_32 : decode cX7_element 32 = .ok (.aload_n 0, 1) := by decide +kernel
theorem dX7_element_33 : decode cX7_element 33 = .ok (.getfield 68, 3) := by decide +kernel
theorem dX7_element_36 : decode cX7_element 36 = .ok (.sipush 160, 3) := by decide +kernel
theorem dX7_element_39 : decode cX7_element 39 = .ok (.iload_n 1, 1) := by decide +kernel
theorem dX7_element_40 : decode cX7_element 40 = .ok (.imul, 1) := by decide +kernel
theorem dX7_element_41 : decode cX7_element 41 = .ok (.iload_n 2, 1) := by decide +kernel
theorem dX7_element_42 : decode cX7_element 42 = .ok (.iadd, 1) := by decide +kernel
theorem dX7_element_43 : decode cX7_element 43 = .ok (.laload, 1) := by decide +kernel
theorem dX7_element_44 : decode cX7_element 44 = .ok (.goto 4, 3) := by decide +kernel
theorem dX7_element_47 : decode cX7_element 47 = .ok (.lconst 0, 1) := by decide +kernel
theorem dX7_element_48 : decode cX7_element 48 = .ok (.lreturn, 1) := by decide +kernel
theorem dX7_show_0 : decode cX7_show 0 = .ok (.aload_n 0, 1) := by decide +kernel
theorem dX7_show_1 : decode cX7_show 1 = .ok (.iload_n 1, 1) := by decide +kernel
theorem dX7_show_2 : decode cX7_show 2 = .ok (.invokevirtual 105, 3) := by decide +kernel
theorem dX7_show_5 : decode cX7_show 5 = .ok (.ifCond .eq 16, 3) := by decide +kernel
theorem dX7_show_8 : decode cX7_show 8 = .ok (.iload_n 2, 1) := by decide +kernel
theorem dX7_show_9 : decode cX7_show 9 = .ok (.iconst (-1), 1) := by decide +kernel
theorem dX7_show_10 : decode cX7_show 10 = .ok (.if_icmp .eq 17, 3) := by decide +kernel
theorem dX7_show_13 : decode cX7_show 13 = .ok (.aload_n 0, 1) := by decide +kernel
theorem dX7_show_14 : decode cX7_show 14 = .ok (.iload_n 2, 1) := by decide +kernel
theorem dX7_show_15 : decode cX7_show 15 = .ok (.invokevirtual 113, 3) := by decide +kernel
theorem dX7_show_18 : decode cX7_show 18 = .ok (.ifCond .ne 9, 3) := by decide +kernel
theorem dX7_show_21 : decode cX7_show 21 = .ok (.aload_n 0, 1) := by decide +kernel
theorem dX7_show_22 : decode cX7_show 22 = .ok (.iconst (-1), 1) := by decide +kernel
theorem dX7_show_23 : decode cX7_show 23 = .ok (.invokevirtual 109, 3) := by decide +kernel
theorem dX7_show_26 : decode cX7_show 26 = .ok (.ireturn, 1) := by decide +kernel
theorem dX7_show_27 : decode cX7_show 27 = .ok (.aload_n 0, 1) := by decide +kernel
theorem dX7_show_28 : decode cX7_show 28 = .ok (.getfield 56, 3) := by decide +kernel
theorem dX7_show_31 : decode cX7_show 31 = .ok (.iload_n 1, 1) := by decide +kernel
theorem dX7_show_32 : decode cX7_show 32 = .ok (.iload_n 2, 1) := by decide +kernel
theorem dX7_show_33 : decode cX7_show 33 = .ok (.iconst (-1), 1) := by decide +kernel
theorem dX7_show_34 : decode cX7_show 34 = .ok (.if_icmp .ne 7, 3) := by decide +kernel
theorem dX7_show_37 : decode cX7_show 37 = .ok (.iconst 0, 1) := by decide +kernel
theorem dX7_show_38 : decode cX7_show 38 = .ok (.goto 4, 3) := by decide +kernel
theorem dX7_show_41 : decode cX7_show 41 = .ok (.iconst 2, 1) := by decide +kernel
theorem dX7_show_42 : decode cX7_show 42 = .ok (.iastore, 1) := by decide +kernel
theorem dX7_show_43 : decode cX7_show 43 = .ok (.aload_n 0, 1) := by decide +kernel
theorem dX7_show_44 : decode cX7_show 44 = .ok (.getfield 65, 3) := by decide +kernel
theorem dX7_show_47 : decode cX7_show 47 = .ok (.iload_n 1, 1) := by decide +kernel
theorem dX7_show_48 : decode cX7_show 48 = .ok (.iload_n 2, 1) := by decide +kernel
theorem dX7_show_49 : decode cX7_show 49 = .ok (.iastore, 1) := by decide +kernel
theorem dX7_show_50 : decode cX7_show 50 = .ok (.iload_n 2, 1) := by decide +kernel
theorem dX7_show_51 : decode cX7_show 51 = .ok (.iconst (-1), 1) := by decide +kernel
theorem dX7_show_52 : decode cX7_show 52 = .ok (.if_icmp .ne 7, 3) := by decide +kernel
theorem dX7_show_55 : decode cX7_show 55 = .ok (.iconst 0, 1) := by decide +kernel
theorem dX7_show_56 : decode cX7_show 56 = .ok (.goto 4, 3) := by decide +kernel
theorem dX7_show_59 : decode cX7_show 59 = .ok (.iconst 1, 1) := by decide +kernel
theorem dX7_show_60 : decode cX7_show 60 = .ok (.ireturn, 1) := by decide +kernel
theorem dX7_holds_0 : decode cX7_holds 0 = .ok (.aload_n 0, 1) := by decide +kernel
theorem dX7_holds_1 : decode cX7_holds 1 = .ok (.iload_n 1, 1) := by decide +kernel
theorem dX7_holds_2 : decode cX7_holds 2 = .ok (.invokevirtual 105, 3) := by decide +kernel
theorem dX7_holds_5 : decode cX7_holds 5 = .ok (.ifCond .eq 12, 3) := by decide +kernel
theorem dX7_holds_8 : decode cX7_holds 8 = .ok (.aload_n 0, 1) := by decide +kernel
theorem dX7_holds_9 : decode cX7_holds 9 = .ok (.getfield 56, 3) := by decide +kernel
theorem dX7_holds_12 : decode cX7_holds 12 = .ok (.iload_n 1, 1) := by decide +kernel
theorem dX7_holds_13 : decode cX7_holds 13 = .ok (.iaload, 1) := by decide +kernel
theorem dX7_holds_14 : decode cX7_holds 14 = .ok (.ifCond .ne 5, 3) := by decide +kernel
theorem dX7_holds_17 : decode cX7_holds 17 = .ok (.iconst (-1), 1) := by decide +kernel
theorem dX7_holds_18 : decode cX7_holds 18 = .ok (.ireturn, 1) := by decide +kernel
theorem dX7_holds_19 : decode cX7_holds 19 = .ok (.aload_n 0, 1) := by decide +kernel
theorem dX7_holds_20 : decode cX7_holds 20 = .ok (.getfield 56, 3) := by decide +kernel
theorem dX7_holds_23 : decode cX7_holds 23 = .ok (.iload_n 1, 1) := by decide +kernel
theorem dX7_holds_24 : decode cX7_holds 24 = .ok (.iaload, 1) := by decide +kernel
theorem dX7_holds_25 : decode cX7_holds 25 = .ok (.iconst 1, 1) := by decide +kernel
theorem dX7_holds_26 : decode cX7_holds 26 = .ok (.if_icmp .ne 15, 3) := by decide +kernel
theorem dX7_holds_29 : decode cX7_holds 29 = .ok (.bipush 100, 2) := by decide +kernel
theorem dX7_holds_31 : decode cX7_holds 31 = .ok (.aload_n 0, 1) := by decide +kernel
theorem dX7_holds_32 : decode cX7_holds 32 = .ok (.getfield 59, 3) := by decide +kernel
theorem dX7_holds_35 : decode cX7_holds 35 = .ok (.iload_n 1, 1) := by decide +kernel
theorem dX7_holds_36 : decode cX7_holds 36 = .ok (.iaload, 1) := by decide +kernel
theorem dX7_holds_37 : decode cX7_holds 37 = .ok (.iadd, 1) := by decide +kernel
theorem dX7_holds_38 : decode cX7_holds 38 = .ok (.goto 9, 3) := by decide +kernel
theorem dX7_holds_41 : decode cX7_holds 41 = .ok (.aload_n 0, 1) := by decide +kernel
theorem dX7_holds_42 : decode cX7_holds 42 = .ok (.getfield 65, 3) := by decide +kernel
theorem dX7_holds_45 : decode cX7_holds 45 = .ok (.iload_n 1, 1) := by decide +kernel
theorem dX7_holds_46 : decode cX7_holds 46 = .ok (.iaload, 1) := by decide +kernel
theorem dX7_holds_47 : decode cX7_holds 47 = .ok (.ireturn, 1) := by decide +kernel
theorem dX7_isUnder_0 : decode cX7_isUnder 0 = .ok (.iload_n 2, 1) := by decide +kernel
theorem dX7_isUnder_1 : decode cX7_isUnder 1 = .ok (.ifCond .eq 45, 3) := by decide +kernel
theorem dX7_isUnder_4 : decode cX7_isUnder 4 = .ok (.iload_n 2, 1) := by decide +kernel
theorem dX7_isUnder_5 : decode cX7_isUnder 5 = .ok (.iload_n 1, 1) := by decide +kernel
theorem dX7_isUnder_6 : decode cX7_isUnder 6 = .ok (.if_icmp .eq 40, 3) := by decide +kernel
theorem dX7_isUnder_9 : decode cX7_isUnder 9 = .ok (.iload_n 2, 1) := by decide +kernel
theorem dX7_isUnder_10 : decode cX7_isUnder 10 = .ok (.iconst 1, 1) := by decide +kernel
theorem dX7_isUnder_11 : decode cX7_isUnder 11 = .ok (.if_icmp .ne 14, 3) := by decide +kernel
theorem dX7_isUnder_14 : decode cX7_isUnder 14 = .ok (.iload_n 1, 1) := by decide +kernel
theorem dX7_isUnder_15 : decode cX7_isUnder 15 = .ok (.iconst 3, 1) := by decide +kernel
theorem dX7_isUnder_16 : decode cX7_isUnder 16 = .ok (.if_icmp .eq 30, 3) := by decide +kernel
theorem dX7_isUnder_19 : decode cX7_isUnder 19 = .ok (.iload_n 1, 1) := by decide +kernel
theorem dX7_isUnder_20 : decode cX7_isUnder 20 = .ok (.bipush 6, 2) := by decide +kernel
theorem dX7_isUnder_22 : decode cX7_isUnder 22 = .ok (.if_icmp .eq 24, 3) := by decide +kernel
theorem dX7_isUnder_25 : decode cX7_isUnder 25 = .ok (.iload_n 2, 1) := by decide +kernel
theorem dX7_isUnder_26 : decode cX7_isUnder 26 = .ok (.iconst 3, 1) := by decide +kernel
theorem dX7_isUnder_27 : decode cX7_isUnder 27 = .ok (.if_icmp .ne 9, 3) := by decide +kernel
theorem dX7_isUnder_30 : decode cX7_isUnder 30 = .ok (.iload_n 1, 1) := by decide +kernel
theorem dX7_isUnder_31 : decode cX7_isUnder 31 = .ok (.bipush 6, 2) := by decide +kernel
theorem dX7_isUnder_33 : decode cX7_isUnder 33 = .ok (.if_icmp .eq 13, 3) := by decide +kernel
theorem dX7_isUnder_36 : decode cX7_isUnder 36 = .ok (.iload_n 2, 1) := by decide +kernel
theorem dX7_isUnder_37 : decode cX7_isUnder 37 = .ok (.iconst 2, 1) := by decide +kernel
theorem dX7_isUnder_38 : decode cX7_isUnder 38 = .ok (.if_icmp .ne 12, 3) := by decide +kernel
theorem dX7_isUnder_41 : decode cX7_isUnder 41 = .ok (.iload_n 1, 1) := by decide +kernel
theorem dX7_isUnder_42 : decode cX7_isUnder 42 = .ok (.iconst 4, 1) := by decide +kernel
theorem dX7_isUnder_43 : decode cX7_isUnder 43 = .ok (.if_icmp .ne 7, 3) := by decide +kernel
theorem dX7_isUnder_46 : decode cX7_isUnder 46 = .ok (.iconst 1, 1) := by decide +kernel
theorem dX7_isUnder_47 : decode cX7_isUnder 47 = .ok (.goto 4, 3) := by decide +kernel
theorem dX7_isUnder_50 : decode cX7_isUnder 50 = .ok (.iconst 0, 1) := by decide +kernel
theorem dX7_isUnder_51 : decode cX7_isUnder 51 = .ok (.ireturn, 1) := by decide +kernel
theorem dX7_says_0 : decode cX7_says 0 = .ok (.aload_n 0, 1) := by decide +kernel
theorem dX7_says_1 : decode cX7_says 1 = .ok (.iload_n 1, 1) := by decide +kernel
theorem dX7_says_2 : decode cX7_says 2 = .ok (.invokevirtual 105, 3) := by decide +kernel
theorem dX7_says_5 : decode cX7_says 5 = .ok (.ifCond .eq 13, 3) := by decide +kernel
theorem dX7_says_8 : decode cX7_says 8 = .ok (.iload_n 2, 1) := by decide +kernel
theorem dX7_says_9 : decode cX7_says 9 = .ok (.ifCond .lt 9, 3) := by decide +kernel
theorem dX7_says_12 : decode cX7_says 12 = .ok (.iload_n 2, 1) := by decide +kernel
theorem dX7_says_13 : decode cX7_says 13 = .ok (.bipush 6, 2) := by decide +kernel
theorem dX7_says_15 : decode cX7_says 15 = .ok (.if_icmp .le 9, 3) := by decide +kernel
theorem dX7_says_18 : decode cX7_says 18 = .ok (.aload_n 0, 1) := by decide +kernel
theorem dX7_says_19 : decode cX7_says 19 = .ok (.iconst (-1), 1) := by decide +kernel
theorem dX7_says_20 : decode cX7_says 20 = .ok (.invokevirtual 109, 3) := by decide +kernel
theorem dX7_says_23 : decode cX7_says 23 = .ok (.ireturn, 1) := by decide +kernel
theorem dX7_says_24 : decode cX7_says 24 = .ok (.aload_n 0, 1) := by decide +kernel
theorem dX7_says_25 : decode cX7_says 25 = .ok (.getfield 56, 3) := by decide +kernel
theorem dX7_says_28 : decode cX7_says 28 = .ok (.iload_n 1, 1) := by decide +kernel
theorem dX7_says_29 : decode cX7_says 29 = .ok (.iaload, 1) := by decide +kernel
theorem dX7_says_30 : decode cX7_says 30 = .ok (.iconst 1, 1) := by decide +kernel
theorem dX7_says_31 : decode cX7_says 31 = .ok (.if_icmp .ne 10, 3) := by decide +kernel
theorem dX7_says_34 : decode cX7_says 34 = .ok (.aload_n 0, 1) := by decide +kernel
theorem dX7_says_35 : decode cX7_says 35 = .ok (.bipush (-2), 2) := by decide +kernel
theorem dX7_says_37 : decode cX7_says 37 = .ok (.invokevirtual 109, 3) := by decide +kernel
theorem dX7_says_40 : decode cX7_says 40 = .ok (.ireturn, 1) := by decide +kernel
theorem dX7_says_41 : decode cX7_says 41 = .ok (.aload_n 0, 1) := by decide +kernel
theorem dX7_says_42 : decode cX7_says 42 = .ok (.getfield 56, 3) := by decide +kernel
theorem dX7_says_45 : decode cX7_says 45 = .ok (.iload_n 1, 1) := by decide +kernel
theorem dX7_says_46 : decode cX7_says 46 = .ok (.iaload, 1) := by decide +kernel
theorem dX7_says_47 : decode cX7_says 47 = .ok (.ifCond .ne 10, 3) := by decide +kernel
theorem dX7_says_50 : decode cX7_says 50 = .ok (.aload_n 0, 1) := by decide +kernel
theorem dX7_says_51 : decode cX7_says 51 = .ok (.bipush (-3), 2) := by decide +kernel
theorem dX7_says_53 : decode cX7_says 53 = .ok (.invokevirtual 109, 3) := by decide +kernel
theorem dX7_says_56 : decode cX7_says 56 = .ok (.ireturn, 1) := by decide +kernel
theorem dX7_says_57 : decode cX7_says 57 = .ok (.aload_n 0, 1) := by decide +kernel
theorem dX7_says_58 : decode cX7_says 58 = .ok (.getfield 65, 3) := by decide +kernel
theorem dX7_says_61 : decode cX7_says 61 = .ok (.iload_n 1, 1) := by decide +kernel
theorem dX7_says_62 : decode cX7_says 62 = .ok (.iaload, 1) := by decide +kernel
theorem dX7_says_63 : decode cX7_says 63 = .ok (.istore_n 3, 1) := by decide +kernel
theorem dX7_says_64 : decode cX7_says 64 = .ok (.aload_n 0, 1) := by decide +kernel
theorem dX7_says_65 : decode cX7_says 65 = .ok (.aload_n 0, 1) := by decide +kernel
theorem dX7_says_66 : decode cX7_says 66 = .ok (.getfield 29, 3) := by decide +kernel
theorem dX7_says_69 : decode cX7_says 69 = .ok (.iload_n 3, 1) := by decide +kernel
theorem dX7_says_70 : decode cX7_says 70 = .ok (.iaload, 1) := by decide +kernel
theorem dX7_says_71 : decode cX7_says 71 = .ok (.iload_n 2, 1) := by decide +kernel
theorem dX7_says_72 : decode cX7_says 72 = .ok (.invokevirtual 116, 3) := by decide +kernel
theorem dX7_says_75 : decode cX7_says 75 = .ok (.ifCond .ne 10, 3) := by decide +kernel
theorem dX7_says_78 : decode cX7_says 78 = .ok (.aload_n 0, 1) := by decide +kernel
theorem dX7_says_79 : decode cX7_says 79 = .ok (.bipush (-2), 2) := by decide +kernel
theorem dX7_says_81 : decode cX7_says 81 = .ok (.invokevirtual 109, 3) := by decide +kernel
theorem dX7_says_84 : decode cX7_says 84 = .ok (.ireturn, 1) := by decide +kernel
theorem dX7_says_85 : decode cX7_says 85 = .ok (.iload_n 2, 1) := by decide +kernel
theorem dX7_says_86 : decode cX7_says 86 = .ok (.tableswitch 59 0 5 #[38, 59, 45, 59, 45, 52], 38) := by decide +kernel
theorem dX7_says_124 : decode cX7_says 124 = .ok (.aload_n 0, 1) := by decide +kernel
theorem dX7_says_125 : decode cX7_says 125 = .ok (.getfield 35, 3) := by decide +kernel
theorem dX7_says_128 : decode cX7_says 128 = .ok (.iload_n 3, 1) := by decide +kernel
theorem dX7_says_129 : decode cX7_says 129 = .ok (.iaload, 1) := by decide +kernel
theorem dX7_says_130 : decode cX7_says 130 = .ok (.ireturn, 1) := by decide +kernel
theorem dX7_says_131 : decode cX7_says 131 = .ok (.aload_n 0, 1) := by decide +kernel
theorem dX7_says_132 : decode cX7_says 132 = .ok (.getfield 44, 3) := by decide +kernel
theorem dX7_says_135 : decode cX7_says 135 = .ok (.iload_n 3, 1) := by decide +kernel
theorem dX7_says_136 : decode cX7_says 136 = .ok (.iaload, 1) := by decide +kernel
theorem dX7_says_137 : decode cX7_says 137 = .ok (.ireturn, 1) := by decide +kernel
theorem dX7_says_138 : decode cX7_says 138 = .ok (.aload_n 0, 1) := by decide +kernel
theorem dX7_says_139 : decode cX7_says 139 = .ok (.getfield 32, 3) := by decide +kernel
theorem dX7_says_142 : decode cX7_says 142 = .ok (.iload_n 3, 1) := by decide +kernel
theorem dX7_says_143 : decode cX7_says 143 = .ok (.iaload, 1) := by decide +kernel
theorem dX7_says_144 : decode cX7_says 144 = .ok (.ireturn, 1) := by decide +kernel
theorem dX7_says_145 : decode cX7_says 145 = .ok (.aload_n 0, 1) := by decide +kernel
theorem dX7_says_146 : decode cX7_says 146 = .ok (.getfield 50, 3) := by decide +kernel
theorem dX7_says_149 : decode cX7_says 149 = .ok (.iload_n 3, 1) := by decide +kernel
theorem dX7_says_150 : decode cX7_says 150 = .ok (.iaload, 1) := by decide +kernel
theorem dX7_says_151 : decode cX7_says 151 = .ok (.ireturn, 1) := by decide +kernel
theorem dX7_wanted_0 : decode cX7_wanted 0 = .ok (.aload_n 0, 1) := by decide +kernel
theorem dX7_wanted_1 : decode cX7_wanted 1 = .ok (.iload_n 1, 1) := by decide +kernel
theorem dX7_wanted_2 : decode cX7_wanted 2 = .ok (.invokevirtual 105, 3) := by decide +kernel
theorem dX7_wanted_5 : decode cX7_wanted 5 = .ok (.ifCond .ne 7, 3) := by decide +kernel
theorem dX7_wanted_8 : decode cX7_wanted 8 = .ok (.iconst (-1), 1) := by decide +kernel
theorem dX7_wanted_9 : decode cX7_wanted 9 = .ok (.goto 33, 3) := by decide +kernel
theorem dX7_wanted_12 : decode cX7_wanted 12 = .ok (.aload_n 0, 1) := by decide +kernel
theorem dX7_wanted_13 : decode cX7_wanted 13 = .ok (.getfield 56, 3) := by decide +kernel
theorem dX7_wanted_16 : decode cX7_wanted 16 = .ok (.iload_n 1, 1) := by decide +kernel
theorem dX7_wanted_17 : decode cX7_wanted 17 = .ok (.iaload, 1) := by decide +kernel
theorem dX7_wanted_18 : decode cX7_wanted 18 = .ok (.iconst 2, 1) := by decide +kernel
theorem dX7_wanted_19 : decode cX7_wanted 19 = .ok (.if_icmp .ne 8, 3) := by decide +kernel
theorem dX7_wanted_22 : decode cX7_wanted 22 = .ok (.bipush (-2), 2) := by decide +kernel
theorem dX7_wanted_24 : decode cX7_wanted 24 = .ok (.goto 18, 3) := by decide +kernel
theorem dX7_wanted_27 : decode cX7_wanted 27 = .ok (.aload_n 0, 1) := by decide +kernel
theorem dX7_wanted_28 : decode cX7_wanted 28 = .ok (.getfield 56, 3) := by decide +kernel
theorem dX7_wanted_31 : decode cX7_wanted 31 = .ok (.iload_n 1, 1) := by decide +kernel
theorem dX7_wanted_32 : decode cX7_wanted 32 = .ok (.iaload, 1) := by decide +kernel
theorem dX7_wanted_33 : decode cX7_wanted 33 = .ok (.ifCond .ne 8, 3) := by decide +kernel
theorem dX7_wanted_36 : decode cX7_wanted 36 = .ok (.bipush (-3), 2) := by decide +kernel
theorem dX7_wanted_38 : decode cX7_wanted 38 = .ok (.goto 4, 3) := by decide +kernel
theorem dX7_wanted_41 : decode cX7_wanted 41 = .ok (.iconst 0, 1) := by decide +kernel
theorem dX7_wanted_42 : decode cX7_wanted 42 = .ok (.ireturn, 1) := by decide +kernel
theorem dX7_intAt_0 : decode cX7_intAt 0 = .ok (.aload_n 0, 1) := by decide +kernel
theorem dX7_intAt_1 : decode cX7_intAt 1 = .ok (.getfield 68, 3) := by decide +kernel
theorem dX7_intAt_4 : decode cX7_intAt 4 = .ok (.sipush 160, 3) := by decide +kernel
theorem dX7_intAt_7 : decode cX7_intAt 7 = .ok (.iload_n 1, 1) := by decide +kernel
theorem dX7_intAt_8 : decode cX7_intAt 8 = .ok (.imul, 1) := by decide +kernel
theorem dX7_intAt_9 : decode cX7_intAt 9 = .ok (.iload_n 2, 1) := by decide +kernel
theorem dX7_intAt_10 : decode cX7_intAt 10 = .ok (.iadd, 1) := by decide +kernel
theorem dX7_intAt_11 : decode cX7_intAt 11 = .ok (.laload, 1) := by decide +kernel
theorem dX7_intAt_12 : decode cX7_intAt 12 = .ok (.l2i, 1) := by decide +kernel
theorem dX7_intAt_13 : decode cX7_intAt 13 = .ok (.ireturn, 1) := by decide +kernel
theorem dX7_adds_0 : decode cX7_adds 0 = .ok (.aload_n 0, 1) := by decide +kernel
theorem dX7_adds_1 : decode cX7_adds 1 = .ok (.getfield 29, 3) := by decide +kernel
theorem dX7_adds_4 : decode cX7_adds 4 = .ok (.aload_n 0, 1) := by decide +kernel
theorem dX7_adds_5 : decode cX7_adds 5 = .ok (.getfield 102, 3) := by decide +kernel
theorem dX7_adds_8 : decode cX7_adds 8 = .ok (.iload_n 1, 1) := by decide +kernel
theorem dX7_adds_9 : decode cX7_adds 9 = .ok (.iastore, 1) := by decide +kernel
theorem dX7_adds_10 : decode cX7_adds 10 = .ok (.aload_n 0, 1) := by decide +kernel
theorem dX7_adds_11 : decode cX7_adds 11 = .ok (.getfield 32, 3) := by decide +kernel
theorem dX7_adds_14 : decode cX7_adds 14 = .ok (.aload_n 0, 1) := by decide +kernel
theorem dX7_adds_15 : decode cX7_adds 15 = .ok (.getfield 102, 3) := by decide +kernel
theorem dX7_adds_18 : decode cX7_adds 18 = .ok (.iload_n 2, 1) := by decide +kernel
theorem dX7_adds_19 : decode cX7_adds 19 = .ok (.iastore, 1) := by decide +kernel
theorem dX7_adds_20 : decode cX7_adds 20 = .ok (.aload_n 0, 1) := by decide +kernel
theorem dX7_adds_21 : decode cX7_adds 21 = .ok (.getfield 35, 3) := by decide +kernel
theorem dX7_adds_24 : decode cX7_adds 24 = .ok (.aload_n 0, 1) := by decide +kernel
theorem dX7_adds_25 : decode cX7_adds 25 = .ok (.getfield 102, 3) := by decide +kernel
theorem dX7_adds_28 : decode cX7_adds 28 = .ok (.iload_n 3, 1) := by decide +kernel
theorem dX7_adds_29 : decode cX7_adds 29 = .ok (.iastore, 1) := by decide +kernel
theorem dX7_adds_30 : decode cX7_adds 30 = .ok (.aload_n 0, 1) := by decide +kernel
theorem dX7_adds_31 : decode cX7_adds 31 = .ok (.getfield 38, 3) := by decide +kernel
theorem dX7_adds_34 : decode cX7_adds 34 = .ok (.aload_n 0, 1) := by decide +kernel
theorem dX7_adds_35 : decode cX7_adds 35 = .ok (.getfield 102, 3) := by decide +kernel
theorem dX7_adds_38 : decode cX7_adds 38 = .ok (.iload 4, 2) := by decide +kernel
theorem dX7_adds_40 : decode cX7_adds 40 = .ok (.iastore, 1) := by decide +kernel
theorem dX7_adds_41 : decode cX7_adds 41 = .ok (.aload_n 0, 1) := by decide +kernel
theorem dX7_adds_42 : decode cX7_adds 42 = .ok (.getfield 41, 3) := by decide +kernel
theorem dX7_adds_45 : decode cX7_adds 45 = .ok (.aload_n 0, 1) := by decide +kernel
theorem dX7_adds_46 : decode cX7_adds 46 = .ok (.getfield 102, 3) := by decide +kernel
theorem dX7_adds_49 : decode cX7_adds 49 = .ok (.iconst (-1), 1) := by decide +kernel
theorem dX7_adds_50 : decode cX7_adds 50 = .ok (.iastore, 1) := by decide +kernel
theorem dX7_adds_51 : decode cX7_adds 51 = .ok (.aload_n 0, 1) := by decide +kernel
theorem dX7_adds_52 : decode cX7_adds 52 = .ok (.getfield 44, 3) := by decide +kernel
theorem dX7_adds_55 : decode cX7_adds 55 = .ok (.aload_n 0, 1) := by decide +kernel
theorem dX7_adds_56 : decode cX7_adds 56 = .ok (.getfield 102, 3) := by decide +kernel
theorem dX7_adds_59 : decode cX7_adds 59 = .ok (.iconst 0, 1) := by decide +kernel
theorem dX7_adds_60 : decode cX7_adds 60 = .ok (.iastore, 1) := by decide +kernel
theorem dX7_adds_61 : decode cX7_adds 61 = .ok (.aload_n 0, 1) := by decide +kernel
theorem dX7_adds_62 : decode cX7_adds 62 = .ok (.getfield 47, 3) := by decide +kernel
theorem dX7_adds_65 : decode cX7_adds 65 = .ok (.aload_n 0, 1) := by decide +kernel
theorem dX7_adds_66 : decode cX7_adds 66 = .ok (.getfield 102, 3) := by decide +kernel
theorem dX7_adds_69 : decode cX7_adds 69 = .ok (.iconst 0, 1) := by decide +kernel
theorem dX7_adds_70 : decode cX7_adds 70 = .ok (.iastore, 1) := by decide +kernel
theorem dX7_adds_71 : decode cX7_adds 71 = .ok (.aload_n 0, 1) := by decide +kernel
theorem dX7_adds_72 : decode cX7_adds 72 = .ok (.getfield 50, 3) := by decide +kernel
theorem dX7_adds_75 : decode cX7_adds 75 = .ok (.aload_n 0, 1) := by decide +kernel
theorem dX7_adds_76 : decode cX7_adds 76 = .ok (.getfield 102, 3) := by decide +kernel
theorem dX7_adds_79 : decode cX7_adds 79 = .ok (.iconst 0, 1) := by decide +kernel
theorem dX7_adds_80 : decode cX7_adds 80 = .ok (.iastore, 1) := by decide +kernel
theorem dX7_adds_81 : decode cX7_adds 81 = .ok (.aload_n 0, 1) := by decide +kernel
theorem dX7_adds_82 : decode cX7_adds 82 = .ok (.getfield 53, 3) := by decide +kernel
theorem dX7_adds_85 : decode cX7_adds 85 = .ok (.aload_n 0, 1) := by decide +kernel
theorem dX7_adds_86 : decode cX7_adds 86 = .ok (.getfield 102, 3) := by decide +kernel
theorem dX7_adds_89 : decode cX7_adds 89 = .ok (.iconst 0, 1) := by decide +kernel
theorem dX7_adds_90 : decode cX7_adds 90 = .ok (.iastore, 1) := by decide +kernel
theorem dX7_adds_91 : decode cX7_adds 91 = .ok (.aload_n 0, 1) := by decide +kernel
theorem dX7_adds_92 : decode cX7_adds 92 = .ok (.dup, 1) := by decide +kernel
theorem dX7_adds_93 : decode cX7_adds 93 = .ok (.getfield 102, 3) := by decide +kernel
theorem dX7_adds_96 : decode cX7_adds 96 = .ok (.dup_x1, 1) := by decide +kernel
theorem dX7_adds_97 : decode cX7_adds 97 = .ok (.iconst 1, 1) := by decide +kernel
theorem dX7_adds_98 : decode cX7_adds 98 = .ok (.iadd, 1) := by decide +kernel
theorem dX7_adds_99 : decode cX7_adds 99 = .ok (.putfield 102, 3) := by decide +kernel
theorem dX7_adds_102 : decode cX7_adds 102 = .ok (.ireturn, 1) := by decide +kernel
theorem dX7_person_0 : decode cX7_person 0 = .ok (.iload_n 1, 1) := by decide +kernel
theorem dX7_person_1 : decode cX7_person 1 = .ok (.ifCond .lt 9, 3) := by decide +kernel
theorem dX7_person_4 : decode cX7_person 4 = .ok (.iload_n 1, 1) := by decide +kernel
theorem dX7_person_5 : decode cX7_person 5 = .ok (.bipush 6, 2) := by decide +kernel
theorem dX7_person_7 : decode cX7_person 7 = .ok (.if_icmp .le 9, 3) := by decide +kernel
theorem dX7_person_10 : decode cX7_person 10 = .ok (.aload_n 0, 1) := by decide +kernel
theorem dX7_person_11 : decode cX7_person 11 = .ok (.iconst (-1), 1) := by decide +kernel
theorem dX7_person_12 : decode cX7_person 12 = .ok (.invokevirtual 109, 3) := by decide +kernel
theorem dX7_person_15 : decode cX7_person 15 = .ok (.ireturn, 1) := by decide +kernel
theorem dX7_person_16 : decode cX7_person 16 = .ok (.aload_n 0, 1) := by decide +kernel
theorem dX7_person_17 : decode cX7_person 17 = .ok (.iload_n 2, 1) := by decide +kernel
theorem dX7_person_18 : decode cX7_person 18 = .ok (.iconst 0, 1) := by decide +kernel
theorem dX7_person_19 : decode cX7_person 19 = .ok (.bipush 9, 2) := by decide +kernel
theorem dX7_person_21 : decode cX7_person 21 = .ok (.invokevirtual 120, 3) := by decide +kernel
theorem dX7_person_24 : decode cX7_person 24 = .ok (.ifCond .eq 14, 3) := by decide +kernel
theorem dX7_person_27 : decode cX7_person 27 = .ok (.aload_n 0, 1) := by decide +kernel
theorem dX7_person_28 : decode cX7_person 28 = .ok (.iload_n 3, 1) := by decide +kernel
theorem dX7_person_29 : decode cX7_person 29 = .ok (.iconst 0, 1) := by decide +kernel
theorem dX7_person_30 : decode cX7_person 30 = .ok (.bipush 20, 2) := by decide +kernel
theorem dX7_person_32 : decode cX7_person 32 = .ok (.invokevirtual 120, 3) := by decide +kernel
theorem dX7_person_35 : decode cX7_person 35 = .ok (.ifCond .ne 10, 3) := by decide +kernel
theorem dX7_person_38 : decode cX7_person 38 = .ok (.aload_n 0, 1) := by decide +kernel
theorem dX7_person_39 : decode cX7_person 39 = .ok (.bipush (-6), 2) := by decide +kernel
theorem dX7_person_41 : decode cX7_person 41 = .ok (.invokevirtual 109, 3) := by decide +kernel
theorem dX7_person_44 : decode cX7_person 44 = .ok (.ireturn, 1) := by decide +kernel
theorem dX7_person_45 : decode cX7_person 45 = .ok (.aload_n 0, 1) := by decide +kernel
theorem dX7_person_46 : decode cX7_person 46 = .ok (.getfield 102, 3) := by decide +kernel
theorem dX7_person_49 : decode cX7_person 49 = .ok (.bipush 10, 2) := by decide +kernel
theorem dX7_person_51 : decode cX7_person 51 = .ok (.if_icmp .ne 12, 3) := by decide +kernel
theorem dX7_person_54 : decode cX7_person 54 = .ok (.aload_n 0, 1) := by decide +kernel
theorem dX7_person_55 : decode cX7_person 55 = .ok (.bipush (-7), 2) := by decide +kernel
theorem dX7_person_57 : decode cX7_person 57 = .ok (.invokevirtual 109, 3) := by decide +kernel
theorem dX7_person_60 : decode cX7_person 60 = .ok (.goto 20, 3) := by decide +kernel
theorem dX7_person_63 : decode cX7_person 63 = .ok (.aload_n 0, 1) := by decide +kernel
theorem dX7_person_64 : decode cX7_person 64 = .ok (.iload_n 1, 1) := by decide +kernel
theorem dX7_person_65 : decode cX7_person 65 = .ok (.iload_n 2, 1) := by decide +kernel
theorem dX7_person_66 : decode cX7_person 66 = .ok (.iload_n 3, 1) := by decide +kernel
theorem dX7_person_67 : decode cX7_person 67 = .ok (.iload 4, 2) := by decide +kernel
theorem dX7_person_69 : decode cX7_person 69 = .ok (.ifCond .eq 7, 3) := by decide +kernel
theorem dX7_person_72 : decode cX7_person 72 = .ok (.iconst 1, 1) := by decide +kernel
theorem dX7_person_73 : decode cX7_person 73 = .ok (.goto 4, 3) := by decide +kernel
theorem dX7_person_76 : decode cX7_person 76 = .ok (.iconst 0, 1) := by decide +kernel
theorem dX7_person_77 : decode cX7_person 77 = .ok (.invokevirtual 124, 3) := by decide +kernel
theorem dX7_person_80 : decode cX7_person 80 = .ok (.ireturn, 1) := by decide +kernel
theorem dX7_friend_0 : decode cX7_friend 0 = .ok (.aload_n 0, 1) := by decide +kernel
theorem dX7_friend_1 : decode cX7_friend 1 = .ok (.iload_n 1, 1) := by decide +kernel
theorem dX7_friend_2 : decode cX7_friend 2 = .ok (.invokevirtual 113, 3) := by decide +kernel
theorem dX7_friend_5 : decode cX7_friend 5 = .ok (.ifCond .eq 16, 3) := by decide +kernel
theorem dX7_friend_8 : decode cX7_friend 8 = .ok (.iload_n 2, 1) := by decide +kernel
theorem dX7_friend_9 : decode cX7_friend 9 = .ok (.iconst (-1), 1) := by decide +kernel
theorem dX7_friend_10 : decode cX7_friend 10 = .ok (.if_icmp .eq 17, 3) := by decide +kernel
theorem dX7_friend_13 : decode cX7_friend 13 = .ok (.aload_n 0, 1) := by decide +kernel
theorem dX7_friend_14 : decode cX7_friend 14 = .ok (.iload_n 2, 1) := by decide +kernel
theorem dX7_friend_15 : decode cX7_friend 15 = .ok (.invokevirtual 113, 3) := by decide +kernel
theorem dX7_friend_18 : decode cX7_friend 18 = .ok (.ifCond .ne 9, 3) := by decide +kernel
theorem dX7_friend_21 : decode cX7_friend 21 = .ok (.aload_n 0, 1) := by decide +kernel
theorem dX7_friend_22 : decode cX7_friend 22 = .ok (.iconst (-1), 1) := by decide +kernel
theorem dX7_friend_23 : decode cX7_friend 23 = .ok (.invokevirtual 128, 3) := by decide +kernel
theorem dX7_friend_26 : decode cX7_friend 26 = .ok (.ireturn, 1) := by decide +kernel
theorem dX7_friend_27 : decode cX7_friend 27 = .ok (.iload_n 1, 1) := by decide +kernel
theorem dX7_friend_28 : decode cX7_friend 28 = .ok (.iload_n 2, 1) := by decide +kernel
theorem dX7_friend_29 : decode cX7_friend 29 = .ok (.if_icmp .ne 10, 3) := by decide +kernel
theorem dX7_friend_32 : decode cX7_friend 32 = .ok (.aload_n 0, 1) := by decide +kernel
theorem dX7_friend_33 : decode cX7_friend 33 = .ok (.bipush (-6), 2) := by decide +kernel
theorem dX7_friend_35 : decode cX7_friend 35 = .ok (.invokevirtual 128, 3) := by decide +kernel
theorem dX7_friend_38 : decode cX7_friend 38 = .ok (.ireturn, 1) := by decide +kernel
theorem dX7_friend_39 : decode cX7_friend 39 = .ok (.aload_n 0, 1) := by decide +kernel
theorem dX7_friend_40 : decode cX7_friend 40 = .ok (.getfield 41, 3) := by decide +kernel
theorem dX7_friend_43 : decode cX7_friend 43 = .ok (.iload_n 1, 1) := by decide +kernel
theorem dX7_friend_44 : decode cX7_friend 44 = .ok (.iaload, 1) := by decide +kernel
theorem dX7_friend_45 : decode cX7_friend 45 = .ok (.istore_n 3, 1) := by decide +kernel
theorem dX7_friend_46 : decode cX7_friend 46 = .ok (.aload_n 0, 1) := by decide +kernel
theorem dX7_friend_47 : decode cX7_friend 47 = .ok (.getfield 41, 3) := by decide +kernel
theorem dX7_friend_50 : decode cX7_friend 50 = .ok (.iload_n 1, 1) := by decide +kernel
theorem dX7_friend_51 : decode cX7_friend 51 = .ok (.iload_n 2, 1) := by decide +kernel
theorem dX7_friend_52 : decode cX7_friend 52 = .ok (.iastore, 1) := by decide +kernel
theorem dX7_friend_53 : decode cX7_friend 53 = .ok (.iload_n 3, 1) := by decide +kernel
theorem dX7_friend_54 : decode cX7_friend 54 = .ok (.ireturn, 1) := by decide +kernel
theorem dX7_isAsked_0 : decode cX7_isAsked 0 = .ok (.iload_n 1, 1) := by decide +kernel
theorem dX7_isAsked_1 : decode cX7_isAsked 1 = .ok (.ifCond .ne 14, 3) := by decide +kernel
theorem dX7_isAsked_4 : decode cX7_isAsked 4 = .ok (.aload_n 0, 1) := by decide +kernel
theorem dX7_isAsked_5 : decode cX7_isAsked 5 = .ok (.iload_n 2, 1) := by decide +kernel
theorem dX7_isAsked_6 : decode cX7_isAsked 6 = .ok (.iconst 0, 1) := by decide +kernel
theorem dX7_isAsked_7 : decode cX7_isAsked 7 = .ok (.bipush 20, 2) := by decide +kernel
theorem dX7_isAsked_9 : decode cX7_isAsked 9 = .ok (.invokevirtual 120, 3) := by decide +kernel
theorem dX7_isAsked_12 : decode cX7_isAsked 12 = .ok (.goto 43, 3) := by decide +kernel
theorem dX7_isAsked_15 : decode cX7_isAsked 15 = .ok (.iload_n 1, 1) := by decide +kernel
theorem dX7_isAsked_16 : decode cX7_isAsked 16 = .ok (.iconst 1, 1) := by decide +kernel
theorem dX7_isAsked_17 : decode cX7_isAsked 17 = .ok (.if_icmp .ne 14, 3) := by decide +kernel
theorem dX7_isAsked_20 : decode cX7_isAsked 20 = .ok (.aload_n 0, 1) := by decide +kernel
theorem dX7_isAsked_21 : decode cX7_isAsked 21 = .ok (.iload_n 2, 1) := by decide +kernel
theorem dX7_isAsked_22 : decode cX7_isAsked 22 = .ok (.iconst 0, 1) := by decide +kernel
theorem dX7_isAsked_23 : decode cX7_isAsked 23 = .ok (.bipush 9, 2) := by decide +kernel
theorem dX7_isAsked_25 : decode cX7_isAsked 25 = .ok (.invokevirtual 120, 3) := by decide +kernel
theorem dX7_isAsked_28 : decode cX7_isAsked 28 = .ok (.goto 27, 3) := by decide +kernel
theorem dX7_isAsked_31 : decode cX7_isAsked 31 = .ok (.iload_n 1, 1) := by decide +kernel
theorem dX7_isAsked_32 : decode cX7_isAsked 32 = .ok (.iconst 2, 1) := by decide +kernel
theorem dX7_isAsked_33 : decode cX7_isAsked 33 = .ok (.if_icmp .ne 14, 3) := by decide +kernel
theorem dX7_isAsked_36 : decode cX7_isAsked 36 = .ok (.aload_n 0, 1) := by decide +kernel
theorem dX7_isAsked_37 : decode cX7_isAsked 37 = .ok (.iload_n 2, 1) := by decide +kernel
theorem dX7_isAsked_38 : decode cX7_isAsked 38 = .ok (.iconst 1, 1) := by decide +kernel
theorem dX7_isAsked_39 : decode cX7_isAsked 39 = .ok (.bipush 12, 2) := by decide +kernel
theorem dX7_isAsked_41 : decode cX7_isAsked 41 = .ok (.invokevirtual 120, 3) := by decide +kernel
theorem dX7_isAsked_44 : decode cX7_isAsked 44 = .ok (.goto 11, 3) := by decide +kernel
theorem dX7_isAsked_47 : decode cX7_isAsked 47 = .ok (.aload_n 0, 1) := by decide +kernel
theorem dX7_isAsked_48 : decode cX7_isAsked 48 = .ok (.iload_n 2, 1) := by decide +kernel
theorem dX7_isAsked_49 : decode cX7_isAsked 49 = .ok (.iconst 0, 1) := by decide +kernel
theorem dX7_isAsked_50 : decode cX7_isAsked 50 = .ok (.bipush 10, 2) := by decide +kernel
theorem dX7_isAsked_52 : decode cX7_isAsked 52 = .ok (.invokevirtual 120, 3) := by decide +kernel
theorem dX7_isAsked_55 : decode cX7_isAsked 55 = .ok (.ireturn, 1) := by decide +kernel
theorem dX7_asks_0 : decode cX7_asks 0 = .ok (.iload_n 1, 1) := by decide +kernel
theorem dX7_asks_1 : decode cX7_asks 1 = .ok (.ifCond .ne 11, 3) := by decide +kernel
theorem dX7_asks_4 : decode cX7_asks 4 = .ok (.aload_n 0, 1) := by decide +kernel
theorem dX7_asks_5 : decode cX7_asks 5 = .ok (.iload_n 2, 1) := by decide +kernel
theorem dX7_asks_6 : decode cX7_asks 6 = .ok (.putfield 7, 3) := by decide +kernel
theorem dX7_asks_9 : decode cX7_asks 9 = .ok (.goto 34, 3) := by decide +kernel
theorem dX7_asks_12 : decode cX7_asks 12 = .ok (.iload_n 1, 1) := by decide +kernel
theorem dX7_asks_13 : decode cX7_asks 13 = .ok (.iconst 1, 1) := by decide +kernel
theorem dX7_asks_14 : decode cX7_asks 14 = .ok (.if_icmp .ne 11, 3) := by decide +kernel
theorem dX7_asks_17 : decode cX7_asks 17 = .ok (.aload_n 0, 1) := by decide +kernel
theorem dX7_asks_18 : decode cX7_asks 18 = .ok (.iload_n 2, 1) := by decide +kernel
theorem dX7_asks_19 : decode cX7_asks 19 = .ok (.putfield 131, 3) := by decide +kernel
theorem dX7_asks_22 : decode cX7_asks 22 = .ok (.goto 21, 3) := by decide +kernel
theorem dX7_asks_25 : decode cX7_asks 25 = .ok (.iload_n 1, 1) := by decide +kernel
theorem dX7_asks_26 : decode cX7_asks 26 = .ok (.iconst 2, 1) := by decide +kernel
theorem dX7_asks_27 : decode cX7_asks 27 = .ok (.if_icmp .ne 11, 3) := by decide +kernel
theorem dX7_asks_30 : decode cX7_asks 30 = .ok (.aload_n 0, 1) := by decide +kernel
theorem dX7_asks_31 : decode cX7_asks 31 = .ok (.iload_n 2, 1) := by decide +kernel
theorem dX7_asks_32 : decode cX7_asks 32 = .ok (.putfield 13, 3) := by decide +kernel
theorem dX7_asks_35 : decode cX7_asks 35 = .ok (.goto 8, 3) := by decide +kernel
theorem dX7_asks_38 : decode cX7_asks 38 = .ok (.aload_n 0, 1) := by decide +kernel
theorem dX7_asks_39 : decode cX7_asks 39 = .ok (.iload_n 2, 1) := by decide +kernel
theorem dX7_asks_40 : decode cX7_asks 40 = .ok (.putfield 16, 3) := by decide +kernel
theorem dX7_asks_43 : decode cX7_asks 43 = .ok (.return_, 1) := by decide +kernel
theorem dX7_ask_0 : decode cX7_ask 0 = .ok (.iload_n 1, 1) := by decide +kernel
theorem dX7_ask_1 : decode cX7_ask 1 = .ok (.ifCond .lt 17, 3) := by decide +kernel
theorem dX7_ask_4 : decode cX7_ask 4 = .ok (.iload_n 1, 1) := by decide +kernel
theorem dX7_ask_5 : decode cX7_ask 5 = .ok (.iconst 3, 1) := by decide +kernel
theorem dX7_ask_6 : decode cX7_ask 6 = .ok (.if_icmp .gt 12, 3) := by decide +kernel
theorem dX7_ask_9 : decode cX7_ask 9 = .ok (.aload_n 0, 1) := by decide +kernel
theorem dX7_ask_10 : decode cX7_ask 10 = .ok (.iload_n 1, 1) := by decide +kernel
theorem dX7_ask_11 : decode cX7_ask 11 = .ok (.iload_n 2, 1) := by decide +kernel
theorem dX7_ask_12 : decode cX7_ask 12 = .ok (.invokevirtual 134, 3) := by decide +kernel
theorem dX7_ask_15 : decode cX7_ask 15 = .ok (.ifCond .ne 10, 3) := by decide +kernel
theorem dX7_ask_18 : decode cX7_ask 18 = .ok (.aload_n 0, 1) := by decide +kernel
theorem dX7_ask_19 : decode cX7_ask 19 = .ok (.bipush (-6), 2) := by decide +kernel
theorem dX7_ask_21 : decode cX7_ask 21 = .ok (.invokevirtual 109, 3) := by decide +kernel
theorem dX7_ask_24 : decode cX7_ask 24 = .ok (.ireturn, 1) := by decide +kernel
theorem dX7_ask_25 : decode cX7_ask 25 = .ok (.iload_n 1, 1) := by decide +kernel
theorem dX7_ask_26 : decode cX7_ask 26 = .ok (.ifCond .ne 10, 3) := by decide +kernel
theorem dX7_ask_29 : decode cX7_ask 29 = .ok (.aload_n 0, 1) := by decide +kernel
theorem dX7_ask_30 : decode cX7_ask 30 = .ok (.getfield 7, 3) := by decide +kernel
theorem dX7_ask_33 : decode cX7_ask 33 = .ok (.goto 31, 3) := by decide +kernel
theorem dX7_ask_36 : decode cX7_ask 36 = .ok (.iload_n 1, 1) := by decide +kernel
theorem dX7_ask_37 : decode cX7_ask 37 = .ok (.iconst 1, 1) := by decide +kernel
theorem dX7_ask_38 : decode cX7_ask 38 = .ok (.if_icmp .ne 10, 3) := by decide +kernel
theorem dX7_ask_41 : decode cX7_ask 41 = .ok (.aload_n 0, 1) := by decide +kernel
theorem dX7_ask_42 : decode cX7_ask 42 = .ok (.getfield 131, 3) := by decide +kernel
theorem dX7_ask_45 : decode cX7_ask 45 = .ok (.goto 19, 3) := by decide +kernel
theorem dX7_ask_48 : decode cX7_ask 48 = .ok (.iload_n 1, 1) := by decide +kernel
theorem dX7_ask_49 : decode cX7_ask 49 = .ok (.iconst 2, 1) := by decide +kernel
theorem dX7_ask_50 : decode cX7_ask 50 = .ok (.if_icmp .ne 10, 3) := by decide +kernel
theorem dX7_ask_53 : decode cX7_ask 53 = .ok (.aload_n 0, 1) := by decide +kernel
theorem dX7_ask_54 : decode cX7_ask 54 = .ok (.getfield 13, 3) := by decide +kernel
theorem dX7_ask_57 : decode cX7_ask 57 = .ok (.goto 7, 3) := by decide +kernel
theorem dX7_ask_60 : decode cX7_ask 60 = .ok (.aload_n 0, 1) := by decide +kernel
theorem dX7_ask_61 : decode cX7_ask 61 = .ok (.getfield 16, 3) := by decide +kernel
theorem dX7_ask_64 : decode cX7_ask 64 = .ok (.istore_n 3, 1) := by decide +kernel
theorem dX7_ask_65 : decode cX7_ask 65 = .ok (.aload_n 0, 1) := by decide +kernel
theorem dX7_ask_66 : decode cX7_ask 66 = .ok (.iload_n 1, 1) := by decide +kernel
theorem dX7_ask_67 : decode cX7_ask 67 = .ok (.iload_n 2, 1) := by decide +kernel
theorem dX7_ask_68 : decode cX7_ask 68 = .ok (.invokevirtual 137, 3) := by decide +kernel
theorem dX7_ask_71 : decode cX7_ask 71 = .ok (.iload_n 3, 1) := by decide +kernel
theorem dX7_ask_72 : decode cX7_ask 72 = .ok (.ireturn, 1) := by decide +kernel
theorem dX7_go_0 : decode cX7_go 0 = .ok (.aload_n 0, 1) := by decide +kernel
theorem dX7_go_1 : decode cX7_go 1 = .ok (.iload_n 1, 1) := by decide +kernel
theorem dX7_go_2 : decode cX7_go 2 = .ok (.invokevirtual 113, 3) := by decide +kernel
theorem dX7_go_5 : decode cX7_go 5 = .ok (.ifCond .ne 9, 3) := by decide +kernel
theorem dX7_go_8 : decode cX7_go 8 = .ok (.aload_n 0, 1) := by decide +kernel
theorem dX7_go_9 : decode cX7_go 9 = .ok (.iconst (-1), 1) := by decide +kernel
theorem dX7_go_10 : decode cX7_go 10 = .ok (.invokevirtual 109, 3) := by decide +kernel
theorem dX7_go_13 : decode cX7_go 13 = .ok (.ireturn, 1) := by decide +kernel
theorem dX7_go_14 : decode cX7_go 14 = .ok (.aload_n 0, 1) := by decide +kernel
theorem dX7_go_15 : decode cX7_go 15 = .ok (.getfield 53, 3) := by decide +kernel
theorem dX7_go_18 : decode cX7_go 18 = .ok (.iload_n 1, 1) := by decide +kernel
theorem dX7_go_19 : decode cX7_go 19 = .ok (.iaload, 1) := by decide +kernel
theorem dX7_go_20 : decode cX7_go 20 = .ok (.istore_n 3, 1) := by decide +kernel
theorem dX7_go_21 : decode cX7_go 21 = .ok (.aload_n 0, 1) := by decide +kernel
theorem dX7_go_22 : decode cX7_go 22 = .ok (.getfield 53, 3) := by decide +kernel
theorem dX7_go_25 : decode cX7_go 25 = .ok (.iload_n 1, 1) := by decide +kernel
theorem dX7_go_26 : decode cX7_go 26 = .ok (.iload_n 2, 1) := by decide +kernel
theorem dX7_go_27 : decode cX7_go 27 = .ok (.ifCond .eq 7, 3) := by decide +kernel
theorem dX7_go_30 : decode cX7_go 30 = .ok (.iconst 1, 1) := by decide +kernel
theorem dX7_go_31 : decode cX7_go 31 = .ok (.goto 4, 3) := by decide +kernel
theorem dX7_go_34 : decode cX7_go 34 = .ok (.iconst 0, 1) := by decide +kernel
theorem dX7_go_35 : decode cX7_go 35 = .ok (.iastore, 1) := by decide +kernel
theorem dX7_go_36 : decode cX7_go 36 = .ok (.iload_n 2, 1) := by decide +kernel
theorem dX7_go_37 : decode cX7_go 37 = .ok (.ifCond .ne 10, 3) := by decide +kernel
theorem dX7_go_40 : decode cX7_go 40 = .ok (.aload_n 0, 1) := by decide +kernel
theorem dX7_go_41 : decode cX7_go 41 = .ok (.getfield 47, 3) := by decide +kernel
theorem dX7_go_44 : decode cX7_go 44 = .ok (.iload_n 1, 1) := by decide +kernel
theorem dX7_go_45 : decode cX7_go 45 = .ok (.iconst 0, 1) := by decide +kernel
theorem dX7_go_46 : decode cX7_go 46 = .ok (.iastore, 1) := by decide +kernel
theorem dX7_go_47 : decode cX7_go 47 = .ok (.iload_n 3, 1) := by decide +kernel
theorem dX7_go_48 : decode cX7_go 48 = .ok (.ireturn, 1) := by decide +kernel
theorem dX7_personOf_0 : decode cX7_personOf 0 = .ok (.aload_n 0, 1) := by decide +kernel
theorem dX7_personOf_1 : decode cX7_personOf 1 = .ok (.iload_n 1, 1) := by decide +kernel
theorem dX7_personOf_2 : decode cX7_personOf 2 = .ok (.invokevirtual 113, 3) := by decide +kernel
theorem dX7_personOf_5 : decode cX7_personOf 5 = .ok (.ifCond .ne 10, 3) := by decide +kernel
theorem dX7_personOf_8 : decode cX7_personOf 8 = .ok (.aload_n 0, 1) := by decide +kernel
theorem dX7_personOf_9 : decode cX7_personOf 9 = .ok (.bipush (-5), 2) := by decide +kernel
theorem dX7_personOf_11 : decode cX7_personOf 11 = .ok (.invokevirtual 109, 3) := by decide +kernel
theorem dX7_personOf_14 : decode cX7_personOf 14 = .ok (.ireturn, 1) := by decide +kernel
theorem dX7_personOf_15 : decode cX7_personOf 15 = .ok (.iload_n 2, 1) := by decide +kernel
theorem dX7_personOf_16 : decode cX7_personOf 16 = .ok (.tableswitch 104 0 7 #[48, 55, 62, 69, 76, 83, 90, 97], 48) := by decide +kernel
theorem dX7_personOf_64 : decode cX7_personOf 64 = .ok (.aload_n 0, 1) := by decide +kernel
theorem dX7_personOf_65 : decode cX7_personOf 65 = .ok (.getfield 29, 3) := by decide +kernel
theorem dX7_personOf_68 : decode cX7_personOf 68 = .ok (.iload_n 1, 1) := by decide +kernel
theorem dX7_personOf_69 : decode cX7_personOf 69 = .ok (.iaload, 1) := by decide +kernel
theorem dX7_personOf_70 : decode cX7_personOf 70 = .ok (.ireturn, 1) := by decide +kernel
theorem dX7_personOf_71 : decode cX7_personOf 71 = .ok (.aload_n 0, 1) := by decide +kernel
theorem dX7_personOf_72 : decode cX7_personOf 72 = .ok (.getfield 32, 3) := by decide +kernel
theorem dX7_personOf_75 : decode cX7_personOf 75 = .ok (.iload_n 1, 1) := by decide +kernel
theorem dX7_personOf_76 : decode cX7_personOf 76 = .ok (.iaload, 1) := by decide +kernel
theorem dX7_personOf_77 : decode cX7_personOf 77 = .ok (.ireturn, 1) := by decide +kernel
theorem dX7_personOf_78 : decode cX7_personOf 78 = .ok (.aload_n 0, 1) := by decide +kernel
theorem dX7_personOf_79 : decode cX7_personOf 79 = .ok (.getfield 35, 3) := by decide +kernel
theorem dX7_personOf_82 : decode cX7_personOf 82 = .ok (.iload_n 1, 1) := by decide +kernel
theorem dX7_personOf_83 : decode cX7_personOf 83 = .ok (.iaload, 1) := by decide +kernel
theorem dX7_personOf_84 : decode cX7_personOf 84 = .ok (.ireturn, 1) := by decide +kernel
theorem dX7_personOf_85 : decode cX7_personOf 85 = .ok (.aload_n 0, 1) := by decide +kernel
theorem dX7_personOf_86 : decode cX7_personOf 86 = .ok (.getfield 38, 3) := by decide +kernel
theorem dX7_personOf_89 : decode cX7_personOf 89 = .ok (.iload_n 1, 1) := by decide +kernel
theorem dX7_personOf_90 : decode cX7_personOf 90 = .ok (.iaload, 1) := by decide +kernel
theorem dX7_personOf_91 : decode cX7_personOf 91 = .ok (.ireturn, 1) := by decide +kernel
theorem dX7_personOf_92 : decode cX7_personOf 92 = .ok (.aload_n 0, 1) := by decide +kernel
theorem dX7_personOf_93 : decode cX7_personOf 93 = .ok (.getfield 44, 3) := by decide +kernel
theorem dX7_personOf_96 : decode cX7_personOf 96 = .ok (.iload_n 1, 1) := by decide +kernel
theorem dX7_personOf_97 : decode cX7_personOf 97 = .ok (.iaload, 1) := by decide +kernel
theorem dX7_personOf_98 : decode cX7_personOf 98 = .ok (.ireturn, 1) := by decide +kernel
theorem dX7_personOf_99 : decode cX7_personOf 99 = .ok (.aload_n 0, 1) := by decide +kernel
theorem dX7_personOf_100 : decode cX7_personOf 100 = .ok (.getfield 47, 3) := by decide +kernel
theorem dX7_personOf_103 : decode cX7_personOf 103 = .ok (.iload_n 1, 1) := by decide +kernel
theorem dX7_personOf_104 : decode cX7_personOf 104 = .ok (.iaload, 1) := by decide +kernel
theorem dX7_personOf_105 : decode cX7_personOf 105 = .ok (.ireturn, 1) := by decide +kernel
theorem dX7_personOf_106 : decode cX7_personOf 106 = .ok (.aload_n 0, 1) := by decide +kernel
theorem dX7_personOf_107 : decode cX7_personOf 107 = .ok (.getfield 50, 3) := by decide +kernel
theorem dX7_personOf_110 : decode cX7_personOf 110 = .ok (.iload_n 1, 1) := by decide +kernel
theorem dX7_personOf_111 : decode cX7_personOf 111 = .ok (.iaload, 1) := by decide +kernel
theorem dX7_personOf_112 : decode cX7_personOf 112 = .ok (.ireturn, 1) := by decide +kernel
theorem dX7_personOf_113 : decode cX7_personOf 113 = .ok (.aload_n 0, 1) := by decide +kernel
theorem dX7_personOf_114 : decode cX7_personOf 114 = .ok (.getfield 53, 3) := by decide +kernel
theorem dX7_personOf_117 : decode cX7_personOf 117 = .ok (.iload_n 1, 1) := by decide +kernel
theorem dX7_personOf_118 : decode cX7_personOf 118 = .ok (.iaload, 1) := by decide +kernel
theorem dX7_personOf_119 : decode cX7_personOf 119 = .ok (.ireturn, 1) := by decide +kernel
theorem dX7_personOf_120 : decode cX7_personOf 120 = .ok (.aload_n 0, 1) := by decide +kernel
theorem dX7_personOf_121 : decode cX7_personOf 121 = .ok (.bipush (-5), 2) := by decide +kernel
theorem dX7_personOf_123 : decode cX7_personOf 123 = .ok (.invokevirtual 109, 3) := by decide +kernel
theorem dX7_personOf_126 : decode cX7_personOf 126 = .ok (.ireturn, 1) := by decide +kernel
theorem dX7_wrong_0 : decode cX7_wrong 0 = .ok (.aload_n 0, 1) := by decide +kernel
theorem dX7_wrong_1 : decode cX7_wrong 1 = .ok (.iload_n 1, 1) := by decide +kernel
theorem dX7_wrong_2 : decode cX7_wrong 2 = .ok (.putfield 141, 3) := by decide +kernel
theorem dX7_wrong_5 : decode cX7_wrong 5 = .ok (.iconst 0, 1) := by decide +kernel
theorem dX7_wrong_6 : decode cX7_wrong 6 = .ok (.ireturn, 1) := by decide +kernel
theorem dX7_sign_0 : decode cX7_sign 0 = .ok (.aload_n 0, 1) := by decide +kernel
theorem dX7_sign_1 : decode cX7_sign 1 = .ok (.getfield 68, 3) := by decide +kernel
theorem dX7_sign_4 : decode cX7_sign 4 = .ok (.aload_n 0, 1) := by decide +kernel
theorem dX7_sign_5 : decode cX7_sign 5 = .ok (.getfield 144, 3) := by decide +kernel
theorem dX7_sign_8 : decode cX7_sign 8 = .ok (.iload_n 1, 1) := by decide +kernel
theorem dX7_sign_9 : decode cX7_sign 9 = .ok (.iadd, 1) := by decide +kernel
theorem dX7_sign_10 : decode cX7_sign 10 = .ok (.laload, 1) := by decide +kernel
theorem dX7_sign_11 : decode cX7_sign 11 = .ok (.l2i, 1) := by decide +kernel
theorem dX7_sign_12 : decode cX7_sign 12 = .ok (.ireturn, 1) := by decide +kernel
theorem dX7_isPerson_0 : decode cX7_isPerson 0 = .ok (.iconst 0, 1) := by decide +kernel
theorem dX7_isPerson_1 : decode cX7_isPerson 1 = .ok (.istore_n 1, 1) := by decide +kernel
theorem dX7_isPerson_2 : decode cX7_isPerson 2 = .ok (.iload_n 1, 1) := by decide +kernel
theorem dX7_isPerson_3 : decode cX7_isPerson 3 = .ok (.bipush 6, 2) := by decide +kernel
theorem dX7_isPerson_5 : decode cX7_isPerson 5 = .ok (.if_icmp .ge 41, 3) := by decide +kernel
theorem dX7_isPerson_8 : decode cX7_isPerson 8 = .ok (.aload_n 0, 1) := by decide +kernel
theorem dX7_isPerson_9 : decode cX7_isPerson 9 = .ok (.getfield 147, 3) := by decide +kernel
theorem dX7_isPerson_12 : decode cX7_isPerson 12 = .ok (.iload_n 1, 1) := by decide +kernel
theorem dX7_isPerson_13 : decode cX7_isPerson 13 = .ok (.iadd, 1) := by decide +kernel
theorem dX7_isPerson_14 : decode cX7_isPerson 14 = .ok (.aload_n 0, 1) := by decide +kernel
theorem dX7_isPerson_15 : decode cX7_isPerson 15 = .ok (.getfield 150, 3) := by decide +kernel
theorem dX7_isPerson_18 : decode cX7_isPerson 18 = .ok (.if_icmp .ge 28, 3) := by decide +kernel
theorem dX7_isPerson_21 : decode cX7_isPerson 21 = .ok (.aload_n 0, 1) := by decide +kernel
theorem dX7_isPerson_22 : decode cX7_isPerson 22 = .ok (.aload_n 0, 1) := by decide +kernel
theorem dX7_isPerson_23 : decode cX7_isPerson 23 = .ok (.getfield 147, 3) := by decide +kernel
theorem dX7_isPerson_26 : decode cX7_isPerson 26 = .ok (.iload_n 1, 1) := by decide +kernel
theorem dX7_isPerson_27 : decode cX7_isPerson 27 = .ok (.iadd, 1) := by decide +kernel
theorem dX7_isPerson_28 : decode cX7_isPerson 28 = .ok (.invokevirtual 153, 3) := by decide +kernel
theorem dX7_isPerson_31 : decode cX7_isPerson 31 = .ok (.aload_n 0, 1) := by decide +kernel
theorem dX7_isPerson_32 : decode cX7_isPerson 32 = .ok (.getfield 75, 3) := by decide +kernel
theorem dX7_isPerson_35 : decode cX7_isPerson 35 = .ok (.iload_n 1, 1) := by decide +kernel
theorem dX7_isPerson_36 : decode cX7_isPerson 36 = .ok (.iaload, 1) := by decide +kernel
theorem dX7_isPerson_37 : decode cX7_isPerson 37 = .ok (.if_icmp .ne 9, 3) := by decide +kernel
theorem dX7_isPerson_40 : decode cX7_isPerson 40 = .ok (.iinc 1 1, 3) := by decide +kernel
theorem dX7_isPerson_43 : decode cX7_isPerson 43 = .ok (.goto (-41), 3) := by decide +kernel
theorem dX7_isPerson_46 : decode cX7_isPerson 46 = .ok (.iload_n 1, 1) := by decide +kernel
theorem dX7_isPerson_47 : decode cX7_isPerson 47 = .ok (.bipush 6, 2) := by decide +kernel
theorem dX7_isPerson_49 : decode cX7_isPerson 49 = .ok (.if_icmp .ne 7, 3) := by decide +kernel
theorem dX7_isPerson_52 : decode cX7_isPerson 52 = .ok (.iconst 1, 1) := by decide +kernel
theorem dX7_isPerson_53 : decode cX7_isPerson 53 = .ok (.goto 4, 3) := by decide +kernel
theorem dX7_isPerson_56 : decode cX7_isPerson 56 = .ok (.iconst 0, 1) := by decide +kernel
theorem dX7_isPerson_57 : decode cX7_isPerson 57 = .ok (.ireturn, 1) := by decide +kernel
theorem dX7_word_0 : decode cX7_word 0 = .ok (.iconst 0, 1) := by decide +kernel
theorem dX7_word_1 : decode cX7_word 1 = .ok (.istore_n 1, 1) := by decide +kernel
theorem dX7_word_2 : decode cX7_word 2 = .ok (.aload_n 0, 1) := by decide +kernel
theorem dX7_word_3 : decode cX7_word 3 = .ok (.getfield 147, 3) := by decide +kernel
theorem dX7_word_6 : decode cX7_word 6 = .ok (.istore_n 2, 1) := by decide +kernel
theorem dX7_word_7 : decode cX7_word 7 = .ok (.iconst 0, 1) := by decide +kernel
theorem dX7_word_8 : decode cX7_word 8 = .ok (.istore_n 3, 1) := by decide +kernel
theorem dX7_word_9 : decode cX7_word 9 = .ok (.iload_n 3, 1) := by decide +kernel
theorem dX7_word_10 : decode cX7_word 10 = .ok (.bipush 7, 2) := by decide +kernel
theorem dX7_word_12 : decode cX7_word 12 = .ok (.if_icmp .ge 111, 3) := by decide +kernel
theorem dX7_word_15 : decode cX7_word 15 = .ok (.aload_n 0, 1) := by decide +kernel
theorem dX7_word_16 : decode cX7_word 16 = .ok (.getfield 147, 3) := by decide +kernel
theorem dX7_word_19 : decode cX7_word 19 = .ok (.istore 4, 2) := by decide +kernel
theorem dX7_word_21 : decode cX7_word 21 = .ok (.iload_n 1, 1) := by decide +kernel
theorem dX7_word_22 : decode cX7_word 22 = .ok (.istore 5, 2) := by decide +kernel
theorem dX7_word_24 : decode cX7_word 24 = .ok (.aload_n 0, 1) := by decide +kernel
theorem dX7_word_25 : decode cX7_word 25 = .ok (.getfield 75, 3) := by decide +kernel
theorem dX7_word_28 : decode cX7_word 28 = .ok (.iload 5, 2) := by decide +kernel
theorem dX7_word_30 : decode cX7_word 30 = .ok (.iaload, 1) := by decide +kernel
theorem dX7_word_31 : decode cX7_word 31 = .ok (.ifCond .eq 37, 3) := by decide +kernel
theorem dX7_word_34 : decode cX7_word 34 = .ok (.iload 4, 2) := by decide +kernel
theorem dX7_word_36 : decode cX7_word 36 = .ok (.aload_n 0, 1) := by decide +kernel
theorem dX7_word_37 : decode cX7_word 37 = .ok (.getfield 150, 3) := by decide +kernel
theorem dX7_word_40 : decode cX7_word 40 = .ok (.if_icmp .ge 28, 3) := by decide +kernel
theorem dX7_word_43 : decode cX7_word 43 = .ok (.aload_n 0, 1) := by decide +kernel
theorem dX7_word_44 : decode cX7_word 44 = .ok (.iload 4, 2) := by decide +kernel
theorem dX7_word_46 : decode cX7_word 46 = .ok (.invokevirtual 153, 3) := by decide +kernel
theorem dX7_word_49 : decode cX7_word 49 = .ok (.aload_n 0, 1) := by decide +kernel
theorem dX7_word_50 : decode cX7_word 50 = .ok (.getfield 75, 3) := by decide +kernel
theorem dX7_word_53 : decode cX7_word 53 = .ok (.iload 5, 2) := by decide +kernel
theorem dX7_word_55 : decode cX7_word 55 = .ok (.iaload, 1) := by decide +kernel
theorem dX7_word_56 : decode cX7_word 56 = .ok (.if_icmp .ne 12, 3) := by decide +kernel
theorem dX7_word_59 : decode cX7_word 59 = .ok (.iinc 4 1, 3) := by decide +kernel
theorem dX7_word_62 : decode cX7_word 62 = .ok (.iinc 5 1, 3) := by decide +kernel
theorem dX7_word_65 : decode cX7_word 65 = .ok (.goto (-41), 3) := by decide +kernel
theorem dX7_word_68 : decode cX7_word 68 = .ok (.aload_n 0, 1) := by decide +kernel
theorem dX7_word_69 : decode cX7_word 69 = .ok (.getfield 75, 3) := by decide +kernel
theorem dX7_word_72 : decode cX7_word 72 = .ok (.iload 5, 2) := by decide +kernel
theorem dX7_word_74 : decode cX7_word 74 = .ok (.iaload, 1) := by decide +kernel
theorem dX7_word_75 : decode cX7_word 75 = .ok (.ifCond .ne 11, 3) := by decide +kernel
theorem dX7_word_78 : decode cX7_word 78 = .ok (.aload_n 0, 1) := by decide +kernel
theorem dX7_word_79 : decode cX7_word 79 = .ok (.iload 4, 2) := by decide +kernel
theorem dX7_word_81 : decode cX7_word 81 = .ok (.putfield 147, 3) := by decide +kernel
theorem dX7_word_84 : decode cX7_word 84 = .ok (.iload_n 3, 1) := by decide +kernel
theorem dX7_word_85 : decode cX7_word 85 = .ok (.ireturn, 1) := by decide +kernel
theorem dX7_word_86 : decode cX7_word 86 = .ok (.iload 4, 2) := by decide +kernel
theorem dX7_word_88 : decode cX7_word 88 = .ok (.iload_n 2, 1) := by decide +kernel
theorem dX7_word_89 : decode cX7_word 89 = .ok (.if_icmp .le 8, 3) := by decide +kernel
theorem dX7_word_92 : decode cX7_word 92 = .ok (.iload 4, 2) := by decide +kernel
theorem dX7_word_94 : decode cX7_word 94 = .ok (.goto 4, 3) := by decide +kernel
theorem dX7_word_97 : decode cX7_word 97 = .ok (.iload_n 2, 1) := by decide +kernel
theorem dX7_word_98 : decode cX7_word 98 = .ok (.istore_n 2, 1) := by decide +kernel
theorem dX7_word_99 : decode cX7_word 99 = .ok (.aload_n 0, 1) := by decide +kernel
theorem dX7_word_100 : decode cX7_word 100 = .ok (.getfield 75, 3) := by decide +kernel
theorem dX7_word_103 : decode cX7_word 103 = .ok (.iload_n 1, 1) := by decide +kernel
theorem dX7_word_104 : decode cX7_word 104 = .ok (.iaload, 1) := by decide +kernel
theorem dX7_word_105 : decode cX7_word 105 = .ok (.ifCond .eq 9, 3) := by decide +kernel
theorem dX7_word_108 : decode cX7_word 108 = .ok (.iinc 1 1, 3) := by decide +kernel
theorem dX7_word_111 : decode cX7_word 111 = .ok (.goto (-12), 3) := by decide +kernel
theorem dX7_word_114 : decode cX7_word 114 = .ok (.iinc 1 1, 3) := by decide +kernel
theorem dX7_word_117 : decode cX7_word 117 = .ok (.iinc 3 1, 3) := by decide +kernel
theorem dX7_word_120 : decode cX7_word 120 = .ok (.goto (-111), 3) := by decide +kernel
theorem dX7_word_123 : decode cX7_word 123 = .ok (.aload_n 0, 1) := by decide +kernel
theorem dX7_word_124 : decode cX7_word 124 = .ok (.iload_n 2, 1) := by decide +kernel
theorem dX7_word_125 : decode cX7_word 125 = .ok (.putfield 141, 3) := by decide +kernel
theorem dX7_word_128 : decode cX7_word 128 = .ok (.iconst (-1), 1) := by decide +kernel
theorem dX7_word_129 : decode cX7_word 129 = .ok (.ireturn, 1) := by decide +kernel
theorem dX7_isDigit_0 : decode cX7_isDigit 0 = .ok (.aload_n 0, 1) := by decide +kernel
theorem dX7_isDigit_1 : decode cX7_isDigit 1 = .ok (.getfield 147, 3) := by decide +kernel
theorem dX7_isDigit_4 : decode cX7_isDigit 4 = .ok (.aload_n 0, 1) := by decide +kernel
theorem dX7_isDigit_5 : decode cX7_isDigit 5 = .ok (.getfield 150, 3) := by decide +kernel
theorem dX7_isDigit_8 : decode cX7_isDigit 8 = .ok (.if_icmp .ge 33, 3) := by decide +kernel
theorem dX7_isDigit_11 : decode cX7_isDigit 11 = .ok (.aload_n 0, 1) := by decide +kernel
theorem dX7_isDigit_12 : decode cX7_isDigit 12 = .ok (.aload_n 0, 1) := by decide +kernel
theorem dX7_isDigit_13 : decode cX7_isDigit 13 = .ok (.getfield 147, 3) := by decide +kernel
theorem dX7_isDigit_16 : decode cX7_isDigit 16 = .ok (.invokevirtual 153, 3) := by decide +kernel
theorem dX7_isDigit_19 : decode cX7_isDigit 19 = .ok (.bipush 48, 2) := by decide +kernel
theorem dX7_isDigit_21 : decode cX7_isDigit 21 = .ok (.if_icmp .lt 20, 3) := by decide +kernel
theorem dX7_isDigit_24 : decode cX7_isDigit 24 = .ok (.aload_n 0, 1) := by decide +kernel
theorem dX7_isDigit_25 : decode cX7_isDigit 25 = .ok (.aload_n 0, 1) := by decide +kernel
theorem dX7_isDigit_26 : decode cX7_isDigit 26 = .ok (.getfield 147, 3) := by decide +kernel
theorem dX7_isDigit_29 : decode cX7_isDigit 29 = .ok (.invokevirtual 153, 3) := by decide +kernel
theorem dX7_isDigit_32 : decode cX7_isDigit 32 = .ok (.bipush 57, 2) := by decide +kernel
theorem dX7_isDigit_34 : decode cX7_isDigit 34 = .ok (.if_icmp .gt 7, 3) := by decide +kernel
theorem dX7_isDigit_37 : decode cX7_isDigit 37 = .ok (.iconst 1, 1) := by decide +kernel
theorem dX7_isDigit_38 : decode cX7_isDigit 38 = .ok (.goto 4, 3) := by decide +kernel
theorem dX7_isDigit_41 : decode cX7_isDigit 41 = .ok (.iconst 0, 1) := by decide +kernel
theorem dX7_isDigit_42 : decode cX7_isDigit 42 = .ok (.ireturn, 1) := by decide +kernel
theorem dX7_reads_0 : decode cX7_reads 0 = .ok (.aload_n 0, 1) := by decide +kernel
theorem dX7_reads_1 : decode cX7_reads 1 = .ok (.iconst 0, 1) := by decide +kernel
theorem dX7_reads_2 : decode cX7_reads 2 = .ok (.putfield 156, 3) := by decide +kernel
theorem dX7_reads_5 : decode cX7_reads 5 = .ok (.aload_n 0, 1) := by decide +kernel
theorem dX7_reads_6 : decode cX7_reads 6 = .ok (.invokevirtual 159, 3) := by decide +kernel
theorem dX7_reads_9 : decode cX7_reads 9 = .ok (.ifCond .ne 12, 3) := by decide +kernel
theorem dX7_reads_12 : decode cX7_reads 12 = .ok (.aload_n 0, 1) := by decide +kernel
theorem dX7_reads_13 : decode cX7_reads 13 = .ok (.aload_n 0, 1) := by decide +kernel
theorem dX7_reads_14 : decode cX7_reads 14 = .ok (.getfield 147, 3) := by decide +kernel
theorem dX7_reads_17 : decode cX7_reads 17 = .ok (.invokevirtual 163, 3) := by decide +kernel
theorem dX7_reads_20 : decode cX7_reads 20 = .ok (.ireturn, 1) := by decide +kernel
theorem dX7_reads_21 : decode cX7_reads 21 = .ok (.iconst 0, 1) := by decide +kernel
theorem dX7_reads_22 : decode cX7_reads 22 = .ok (.istore_n 1, 1) := by decide +kernel
theorem dX7_reads_23 : decode cX7_reads 23 = .ok (.iload_n 1, 1) := by decide +kernel
theorem dX7_reads_24 : decode cX7_reads 24 = .ok (.iconst 2, 1) := by decide +kernel
theorem dX7_reads_25 : decode cX7_reads 25 = .ok (.if_icmp .ge 49, 3) := by decide +kernel
theorem dX7_reads_28 : decode cX7_reads 28 = .ok (.aload_n 0, 1) := by decide +kernel
theorem dX7_reads_29 : decode cX7_reads 29 = .ok (.invokevirtual 159, 3) := by decide +kernel
theorem dX7_reads_32 : decode cX7_reads 32 = .ok (.ifCond .eq 42, 3) := by decide +kernel
theorem dX7_reads_35 : decode cX7_reads 35 = .ok (.aload_n 0, 1) := by decide +kernel
theorem dX7_reads_36 : decode cX7_reads 36 = .ok (.bipush 10, 2) := by decide +kernel
theorem dX7_reads_38 : decode cX7_reads 38 = .ok (.aload_n 0, 1) := by decide +kernel
theorem dX7_reads_39 : decode cX7_reads 39 = .ok (.getfield 156, 3) := by decide +kernel
theorem dX7_reads_42 : decode cX7_reads 42 = .ok (.imul, 1) := by decide +kernel
theorem dX7_reads_43 : decode cX7_reads 43 = .ok (.aload_n 0, 1) := by decide +kernel
theorem dX7_reads_44 : decode cX7_reads 44 = .ok (.aload_n 0, 1) := by decide +kernel
theorem dX7_reads_45 : decode cX7_reads 45 = .ok (.getfield 147, 3) := by decide +kernel
theorem dX7_reads_48 : decode cX7_reads 48 = .ok (.invokevirtual 153, 3) := by decide +kernel
theorem dX7_reads_51 : decode cX7_reads 51 = .ok (.iadd, 1) := by decide +kernel
theorem dX7_reads_52 : decode cX7_reads 52 = .ok (.bipush 48, 2) := by decide +kernel
theorem dX7_reads_54 : decode cX7_reads 54 = .ok (.isub, 1) := by decide +kernel
theorem dX7_reads_55 : decode cX7_reads 55 = .ok (.putfield 156, 3) := by decide +kernel
theorem dX7_reads_58 : decode cX7_reads 58 = .ok (.aload_n 0, 1) := by decide +kernel
theorem dX7_reads_59 : decode cX7_reads 59 = .ok (.dup, 1) := by decide +kernel
theorem dX7_reads_60 : decode cX7_reads 60 = .ok (.getfield 147, 3) := by decide +kernel
theorem dX7_reads_63 : decode cX7_reads 63 = .ok (.iconst 1, 1) := by decide +kernel
theorem dX7_reads_64 : decode cX7_reads 64 = .ok (.iadd, 1) := by decide +kernel
theorem dX7_reads_65 : decode cX7_reads 65 = .ok (.putfield 147, 3) := by decide +kernel
theorem dX7_reads_68 : decode cX7_reads 68 = .ok (.iinc 1 1, 3) := by decide +kernel
theorem dX7_reads_71 : decode cX7_reads 71 = .ok (.goto (-48), 3) := by decide +kernel
theorem dX7_reads_74 : decode cX7_reads 74 = .ok (.iconst 1, 1) := by decide +kernel
theorem dX7_reads_75 : decode cX7_reads 75 = .ok (.ireturn, 1) := by decide +kernel
theorem dX7_isSo_0 : decode cX7_isSo 0 = .ok (.iload_n 1, 1) := by decide +kernel
theorem dX7_isSo_1 : decode cX7_isSo 1 = .ok (.ifCond .ne 22, 3) := by decide +kernel
theorem dX7_isSo_4 : decode cX7_isSo 4 = .ok (.aload_n 0, 1) := by decide +kernel
theorem dX7_isSo_5 : decode cX7_isSo 5 = .ok (.getfield 156, 3) := by decide +kernel
theorem dX7_isSo_8 : decode cX7_isSo 8 = .ok (.aload_n 0, 1) := by decide +kernel
theorem dX7_isSo_9 : decode cX7_isSo 9 = .ok (.getfield 81, 3) := by decide +kernel
theorem dX7_isSo_12 : decode cX7_isSo 12 = .ok (.iload_n 2, 1) := by decide +kernel
theorem dX7_isSo_13 : decode cX7_isSo 13 = .ok (.iaload, 1) := by decide +kernel
theorem dX7_isSo_14 : decode cX7_isSo 14 = .ok (.if_icmp .gt 7, 3) := by decide +kernel
theorem dX7_isSo_17 : decode cX7_isSo 17 = .ok (.iconst 1, 1) := by decide +kernel
theorem dX7_isSo_18 : decode cX7_isSo 18 = .ok (.goto 4, 3) := by decide +kernel
theorem dX7_isSo_21 : decode cX7_isSo 21 = .ok (.iconst 0, 1) := by decide +kernel
theorem dX7_isSo_22 : decode cX7_isSo 22 = .ok (.ireturn, 1) := by decide +kernel
theorem dX7_isSo_23 : decode cX7_isSo 23 = .ok (.iload_n 1, 1) := by decide +kernel
theorem dX7_isSo_24 : decode cX7_isSo 24 = .ok (.iconst 1, 1) := by decide +kernel
theorem dX7_isSo_25 : decode cX7_isSo 25 = .ok (.if_icmp .ne 37, 3) := by decide +kernel
theorem dX7_isSo_28 : decode cX7_isSo 28 = .ok (.aload_n 0, 1) := by decide +kernel
theorem dX7_isSo_29 : decode cX7_isSo 29 = .ok (.getfield 156, 3) := by decide +kernel
theorem dX7_isSo_32 : decode cX7_isSo 32 = .ok (.aload_n 0, 1) := by decide +kernel
theorem dX7_isSo_33 : decode cX7_isSo 33 = .ok (.getfield 102, 3) := by decide +kernel
theorem dX7_isSo_36 : decode cX7_isSo 36 = .ok (.if_icmp .ge 24, 3) := by decide +kernel
theorem dX7_isSo_39 : decode cX7_isSo 39 = .ok (.iload_n 2, 1) := by decide +kernel
theorem dX7_isSo_40 : decode cX7_isSo 40 = .ok (.ifCond .eq 16, 3) := by decide +kernel
theorem dX7_isSo_43 : decode cX7_isSo 43 = .ok (.aload_n 0, 1) := by decide +kernel
theorem dX7_isSo_44 : decode cX7_isSo 44 = .ok (.getfield 156, 3) := by decide +kernel
theorem dX7_isSo_47 : decode cX7_isSo 47 = .ok (.aload_n 0, 1) := by decide +kernel
theorem dX7_isSo_48 : decode cX7_isSo 48 = .ok (.getfield 84, 3) := by decide +kernel
theorem dX7_isSo_51 : decode cX7_isSo 51 = .ok (.iconst 0, 1) := by decide +kernel
theorem dX7_isSo_52 : decode cX7_isSo 52 = .ok (.iaload, 1) := by decide +kernel
theorem dX7_isSo_53 : decode cX7_isSo 53 = .ok (.if_icmp .eq 7, 3) := by decide +kernel
theorem dX7_isSo_56 : decode cX7_isSo 56 = .ok (.iconst 1, 1) := by decide +kernel
theorem dX7_isSo_57 : decode cX7_isSo 57 = .ok (.goto 4, 3) := by decide +kernel
theorem dX7_isSo_60 : decode cX7_isSo 60 = .ok (.iconst 0, 1) := by decide +kernel
theorem dX7_isSo_61 : decode cX7_isSo 61 = .ok (.ireturn, 1) := by decide +kernel
theorem dX7_isSo_62 : decode cX7_isSo 62 = .ok (.iload_n 1, 1) := by decide +kernel
theorem dX7_isSo_63 : decode cX7_isSo 63 = .ok (.bipush 6, 2) := by decide +kernel
theorem dX7_isSo_65 : decode cX7_isSo 65 = .ok (.if_icmp .ne 22, 3) := by decide +kernel
theorem dX7_isSo_68 : decode cX7_isSo 68 = .ok (.aload_n 0, 1) := by decide +kernel
theorem dX7_isSo_69 : decode cX7_isSo 69 = .ok (.getfield 156, 3) := by decide +kernel
theorem dX7_isSo_72 : decode cX7_isSo 72 = .ok (.aload_n 0, 1) := by decide +kernel
theorem dX7_isSo_73 : decode cX7_isSo 73 = .ok (.getfield 102, 3) := by decide +kernel
theorem dX7_isSo_76 : decode cX7_isSo 76 = .ok (.if_icmp .ge 7, 3) := by decide +kernel
theorem dX7_isSo_79 : decode cX7_isSo 79 = .ok (.iconst 1, 1) := by decide +kernel
theorem dX7_isSo_80 : decode cX7_isSo 80 = .ok (.goto 18, 3) := by decide +kernel
theorem dX7_isSo_83 : decode cX7_isSo 83 = .ok (.iconst 0, 1) := by decide +kernel
theorem dX7_isSo_84 : decode cX7_isSo 84 = .ok (.goto 14, 3) := by decide +kernel
theorem dX7_isSo_87 : decode cX7_isSo 87 = .ok (.aload_n 0, 1) := by decide +kernel
theorem dX7_isSo_88 : decode cX7_isSo 88 = .ok (.iload_n 1, 1) := by decide +kernel
theorem dX7_isSo_89 : decode cX7_isSo 89 = .ok (.iconst 2, 1) := by decide +kernel
theorem dX7_isSo_90 : decode cX7_isSo 90 = .ok (.isub, 1) := by decide +kernel
theorem dX7_isSo_91 : decode cX7_isSo 91 = .ok (.aload_n 0, 1) := by decide +kernel
theorem dX7_isSo_92 : decode cX7_isSo 92 = .ok (.getfield 156, 3) := by decide +kernel
theorem dX7_isSo_95 : decode cX7_isSo 95 = .ok (.invokevirtual 134, 3) := by decide +kernel
theorem dX7_isSo_98 : decode cX7_isSo 98 = .ok (.ireturn, 1) := by decide +kernel
theorem dX7_item_0 : decode cX7_item 0 = .ok (.aload_n 0, 1) := by decide +kernel
theorem dX7_item_1 : decode cX7_item 1 = .ok (.getfield 102, 3) := by decide +kernel
theorem dX7_item_4 : decode cX7_item 4 = .ok (.bipush 10, 2) := by decide +kernel
theorem dX7_item_6 : decode cX7_item 6 = .ok (.if_icmp .ne 19, 3) := by decide +kernel
theorem dX7_item_9 : decode cX7_item 9 = .ok (.aload_n 0, 1) := by decide +kernel
theorem dX7_item_10 : decode cX7_item 10 = .ok (.invokevirtual 166, 3) := by decide +kernel
theorem dX7_item_13 : decode cX7_item 13 = .ok (.ifCond .eq 12, 3) := by decide +kernel
theorem dX7_item_16 : decode cX7_item 16 = .ok (.aload_n 0, 1) := by decide +kernel
theorem dX7_item_17 : decode cX7_item 17 = .ok (.aload_n 0, 1) := by decide +kernel
theorem dX7_item_18 : decode cX7_item 18 = .ok (.getfield 147, 3) := by decide +kernel
theorem dX7_item_21 : decode cX7_item 21 = .ok (.invokevirtual 163, 3) := by decide +kernel
theorem dX7_item_24 : decode cX7_item 24 = .ok (.ireturn, 1) := by decide +kernel
theorem dX7_item_25 : decode cX7_item 25 = .ok (.aload_n 0, 1) := by decide +kernel
theorem dX7_item_26 : decode cX7_item 26 = .ok (.invokevirtual 169, 3) := by decide +kernel
theorem dX7_item_29 : decode cX7_item 29 = .ok (.istore_n 1, 1) := by decide +kernel
theorem dX7_item_30 : decode cX7_item 30 = .ok (.iload_n 1, 1) := by decide +kernel
theorem dX7_item_31 : decode cX7_item 31 = .ok (.iconst (-1), 1) := by decide +kernel
theorem dX7_item_32 : decode cX7_item 32 = .ok (.if_icmp .ne 5, 3) := by decide +kernel
theorem dX7_item_35 : decode cX7_item 35 = .ok (.iconst 0, 1) := by decide +kernel
theorem dX7_item_36 : decode cX7_item 36 = .ok (.ireturn, 1) := by decide +kernel
theorem dX7_item_37 : decode cX7_item 37 = .ok (.iconst 0, 1) := by decide +kernel
theorem dX7_item_38 : decode cX7_item 38 = .ok (.istore_n 2, 1) := by decide +kernel
theorem dX7_item_39 : decode cX7_item 39 = .ok (.iload_n 2, 1) := by decide +kernel
theorem dX7_item_40 : decode cX7_item 40 = .ok (.aload_n 0, 1) := by decide +kernel
theorem dX7_item_41 : decode cX7_item 41 = .ok (.getfield 78, 3) := by decide +kernel
theorem dX7_item_44 : decode cX7_item 44 = .ok (.iload_n 1, 1) := by decide +kernel
theorem dX7_item_45 : decode cX7_item 45 = .ok (.iaload, 1) := by decide +kernel
theorem dX7_item_46 : decode cX7_item 46 = .ok (.if_icmp .ge 95, 3) := by decide +kernel
theorem dX7_item_49 : decode cX7_item 49 = .ok (.iload_n 2, 1) := by decide +kernel
theorem dX7_item_50 : decode cX7_item 50 = .ok (.ifCond .le 46, 3) := by decide +kernel
theorem dX7_item_53 : decode cX7_item 53 = .ok (.aload_n 0, 1) := by decide +kernel
theorem dX7_item_54 : decode cX7_item 54 = .ok (.getfield 147, 3) := by decide +kernel
theorem dX7_item_57 : decode cX7_item 57 = .ok (.aload_n 0, 1) := by decide +kernel
theorem dX7_item_58 : decode cX7_item 58 = .ok (.getfield 150, 3) := by decide +kernel
theorem dX7_item_61 : decode cX7_item 61 = .ok (.if_icmp .ge 16, 3) := by decide +kernel
theorem dX7_item_64 : decode cX7_item 64 = .ok (.aload_n 0, 1) := by decide +kernel
theorem dX7_item_65 : decode cX7_item 65 = .ok (.aload_n 0, 1) := by decide +kernel
theorem dX7_item_66 : decode cX7_item 66 = .ok (.getfield 147, 3) := by decide +kernel
theorem dX7_item_69 : decode cX7_item 69 = .ok (.invokevirtual 153, 3) := by decide +kernel
theorem dX7_item_72 : decode cX7_item 72 = .ok (.bipush 32, 2) := by decide +kernel
theorem dX7_item_74 : decode cX7_item 74 = .ok (.if_icmp .eq 12, 3) := by decide +kernel
theorem dX7_item_77 : decode cX7_item 77 = .ok (.aload_n 0, 1) := by decide +kernel
theorem dX7_item_78 : decode cX7_item 78 = .ok (.aload_n 0, 1) := by decide +kernel
theorem dX7_item_79 : decode cX7_item 79 = .ok (.getfield 147, 3) := by decide +kernel
theorem dX7_item_82 : decode cX7_item 82 = .ok (.invokevirtual 163, 3) := by decide +kernel
theorem dX7_item_85 : decode cX7_item 85 = .ok (.ireturn, 1) := by decide +kernel
theorem dX7_item_86 : decode cX7_item 86 = .ok (.aload_n 0, 1) := by decide +kernel
theorem dX7_item_87 : decode cX7_item 87 = .ok (.dup, 1) := by decide +kernel
theorem dX7_item_88 : decode cX7_item 88 = .ok (.getfield 147, 3) := by decide +kernel
theorem dX7_item_91 : decode cX7_item 91 = .ok (.iconst 1, 1) := by decide +kernel
theorem dX7_item_92 : decode cX7_item 92 = .ok (.iadd, 1) := by decide +kernel
theorem dX7_item_93 : decode cX7_item 93 = .ok (.putfield 147, 3) := by decide +kernel
theorem dX7_item_96 : decode cX7_item 96 = .ok (.aload_n 0, 1) := by decide +kernel
theorem dX7_item_97 : decode cX7_item 97 = .ok (.getfield 147, 3) := by decide +kernel
theorem dX7_item_100 : decode cX7_item 100 = .ok (.istore_n 3, 1) := by decide +kernel
theorem dX7_item_101 : decode cX7_item 101 = .ok (.aload_n 0, 1) := by decide +kernel
theorem dX7_item_102 : decode cX7_item 102 = .ok (.invokevirtual 173, 3) := by decide +kernel
theorem dX7_item_105 : decode cX7_item 105 = .ok (.ifCond .ne 5, 3) := by decide +kernel
theorem dX7_item_108 : decode cX7_item 108 = .ok (.iconst 0, 1) := by decide +kernel
theorem dX7_item_109 : decode cX7_item 109 = .ok (.ireturn, 1) := by decide +kernel
theorem dX7_item_110 : decode cX7_item 110 = .ok (.aload_n 0, 1) := by decide +kernel
theorem dX7_item_111 : decode cX7_item 111 = .ok (.iload_n 1, 1) := by decide +kernel
theorem dX7_item_112 : decode cX7_item 112 = .ok (.iload_n 2, 1) := by decide +kernel
theorem dX7_item_113 : decode cX7_item 113 = .ok (.invokevirtual 176, 3) := by decide +kernel
theorem dX7_item_116 : decode cX7_item 116 = .ok (.ifCond .ne 9, 3) := by decide +kernel
theorem dX7_item_119 : decode cX7_item 119 = .ok (.aload_n 0, 1) := by decide +kernel
theorem dX7_item_120 : decode cX7_item 120 = .ok (.iload_n 3, 1) := by decide +kernel
theorem dX7_item_121 : decode cX7_item 121 = .ok (.invokevirtual 163, 3) := by decide +kernel
theorem dX7_item_124 : decode cX7_item 124 = .ok (.ireturn, 1) := by decide +kernel
theorem dX7_item_125 : decode cX7_item 125 = .ok (.aload_n 0, 1) := by decide +kernel
theorem dX7_item_126 : decode cX7_item 126 = .ok (.getfield 84, 3) := by decide +kernel
theorem dX7_item_129 : decode cX7_item 129 = .ok (.iload_n 2, 1) := by decide +kernel
theorem dX7_item_130 : decode cX7_item 130 = .ok (.aload_n 0, 1) := by decide +kernel
theorem dX7_item_131 : decode cX7_item 131 = .ok (.getfield 156, 3) := by decide +kernel
theorem dX7_item_134 : decode cX7_item 134 = .ok (.iastore, 1) := by decide +kernel
theorem dX7_item_135 : decode cX7_item 135 = .ok (.iinc 2 1, 3) := by decide +kernel
theorem dX7_item_138 : decode cX7_item 138 = .ok (.goto (-99), 3) := by decide +kernel
theorem dX7_item_141 : decode cX7_item 141 = .ok (.iload_n 1, 1) := by decide +kernel
theorem dX7_item_142 : decode cX7_item 142 = .ok (.ifCond .ne 35, 3) := by decide +kernel
theorem dX7_item_145 : decode cX7_item 145 = .ok (.aload_n 0, 1) := by decide +kernel
theorem dX7_item_146 : decode cX7_item 146 = .ok (.aload_n 0, 1) := by decide +kernel
theorem dX7_item_147 : decode cX7_item 147 = .ok (.getfield 84, 3) := by decide +kernel
theorem dX7_item_150 : decode cX7_item 150 = .ok (.iconst 0, 1) := by decide +kernel
theorem dX7_item_151 : decode cX7_item 151 = .ok (.iaload, 1) := by decide +kernel
theorem dX7_item_152 : decode cX7_item 152 = .ok (.aload_n 0, 1) := by decide +kernel
theorem dX7_item_153 : decode cX7_item 153 = .ok (.getfield 84, 3) := by decide +kernel
theorem dX7_item_156 : decode cX7_item 156 = .ok (.iconst 1, 1) := by decide +kernel
theorem dX7_item_157 : decode cX7_item 157 = .ok (.iaload, 1) := by decide +kernel
theorem dX7_item_158 : decode cX7_item 158 = .ok (.aload_n 0, 1) := by decide +kernel
theorem dX7_item_159 : decode cX7_item 159 = .ok (.getfield 84, 3) := by decide +kernel
theorem dX7_item_162 : decode cX7_item 162 = .ok (.iconst 2, 1) := by decide +kernel
theorem dX7_item_163 : decode cX7_item 163 = .ok (.iaload, 1) := by decide +kernel
theorem dX7_item_164 : decode cX7_item 164 = .ok (.aload_n 0, 1) := by decide +kernel
theorem dX7_item_165 : decode cX7_item 165 = .ok (.getfield 84, 3) := by decide +kernel
theorem dX7_item_168 : decode cX7_item 168 = .ok (.iconst 3, 1) := by decide +kernel
theorem dX7_item_169 : decode cX7_item 169 = .ok (.iaload, 1) := by decide +kernel
theorem dX7_item_170 : decode cX7_item 170 = .ok (.invokevirtual 124, 3) := by decide +kernel
theorem dX7_item_173 : decode cX7_item 173 = .ok (.pop, 1) := by decide +kernel
theorem dX7_item_174 : decode cX7_item 174 = .ok (.goto 62, 3) := by decide +kernel
theorem dX7_item_177 : decode cX7_item 177 = .ok (.iload_n 1, 1) := by decide +kernel
theorem dX7_item_178 : decode cX7_item 178 = .ok (.iconst 1, 1) := by decide +kernel
theorem dX7_item_179 : decode cX7_item 179 = .ok (.if_icmp .ne 23, 3) := by decide +kernel
theorem dX7_item_182 : decode cX7_item 182 = .ok (.aload_n 0, 1) := by decide +kernel
theorem dX7_item_183 : decode cX7_item 183 = .ok (.getfield 41, 3) := by decide +kernel
theorem dX7_item_186 : decode cX7_item 186 = .ok (.aload_n 0, 1) := by decide +kernel
theorem dX7_item_187 : decode cX7_item 187 = .ok (.getfield 84, 3) := by decide +kernel
theorem dX7_item_190 : decode cX7_item 190 = .ok (.iconst 0, 1) := by decide +kernel
theorem dX7_item_191 : decode cX7_item 191 = .ok (.iaload, 1) := by decide +kernel
theorem dX7_item_192 : decode cX7_item 192 = .ok (.aload_n 0, 1) := by decide +kernel
theorem dX7_item_193 : decode cX7_item 193 = .ok (.getfield 84, 3) := by decide +kernel
theorem dX7_item_196 : decode cX7_item 196 = .ok (.iconst 1, 1) := by decide +kernel
theorem dX7_item_197 : decode cX7_item 197 = .ok (.iaload, 1) := by decide +kernel
theorem dX7_item_198 : decode cX7_item 198 = .ok (.iastore, 1) := by decide +kernel
theorem dX7_item_199 : decode cX7_item 199 = .ok (.goto 37, 3) := by decide +kernel
theorem dX7_item_202 : decode cX7_item 202 = .ok (.iload_n 1, 1) := by decide +kernel
theorem dX7_item_203 : decode cX7_item 203 = .ok (.bipush 6, 2) := by decide +kernel
theorem dX7_item_205 : decode cX7_item 205 = .ok (.if_icmp .ne 18, 3) := by decide +kernel
theorem dX7_item_208 : decode cX7_item 208 = .ok (.aload_n 0, 1) := by decide +kernel
theorem dX7_item_209 : decode cX7_item 209 = .ok (.getfield 53, 3) := by decide +kernel
theorem dX7_item_212 : decode cX7_item 212 = .ok (.aload_n 0, 1) := by decide +kernel
theorem dX7_item_213 : decode cX7_item 213 = .ok (.getfield 84, 3) := by decide +kernel
theorem dX7_item_216 : decode cX7_item 216 = .ok (.iconst 0, 1) := by decide +kernel
theorem dX7_item_217 : decode cX7_item 217 = .ok (.iaload, 1) := by decide +kernel
theorem dX7_item_218 : decode cX7_item 218 = .ok (.iconst 1, 1) := by decide +kernel
theorem dX7_item_219 : decode cX7_item 219 = .ok (.iastore, 1) := by decide +kernel
theorem dX7_item_220 : decode cX7_item 220 = .ok (.goto 16, 3) := by decide +kernel
theorem dX7_item_223 : decode cX7_item 223 = .ok (.aload_n 0, 1) := by decide +kernel
theorem dX7_item_224 : decode cX7_item 224 = .ok (.iload_n 1, 1) := by decide +kernel
theorem dX7_item_225 : decode cX7_item 225 = .ok (.iconst 2, 1) := by decide +kernel
theorem dX7_item_226 : decode cX7_item 226 = .ok (.isub, 1) := by decide +kernel
theorem dX7_item_227 : decode cX7_item 227 = .ok (.aload_n 0, 1) := by decide +kernel
theorem dX7_item_228 : decode cX7_item 228 = .ok (.getfield 84, 3) := by decide +kernel
theorem dX7_item_231 : decode cX7_item 231 = .ok (.iconst 0, 1) := by decide +kernel
theorem dX7_item_232 : decode cX7_item 232 = .ok (.iaload, 1) := by decide +kernel
theorem dX7_item_233 : decode cX7_item 233 = .ok (.invokevirtual 137, 3) := by decide +kernel
theorem dX7_item_236 : decode cX7_item 236 = .ok (.iconst 1, 1) := by decide +kernel
theorem dX7_item_237 : decode cX7_item 237 = .ok (.ireturn, 1) := by decide +kernel
theorem dX7_carries_0 : decode cX7_carries 0 = .ok (.iconst 0, 1) := by decide +kernel
theorem dX7_carries_1 : decode cX7_carries 1 = .ok (.istore 5, 2) := by decide +kernel
theorem dX7_carries_3 : decode cX7_carries 3 = .ok (.iload 5, 2) := by decide +kernel
theorem dX7_carries_5 : decode cX7_carries 5 = .ok (.bipush 10, 2) := by decide +kernel
theorem dX7_carries_7 : decode cX7_carries 7 = .ok (.if_icmp .ge 37, 3) := by decide +kernel
theorem dX7_carries_10 : decode cX7_carries 10 = .ok (.iload 4, 2) := by decide +kernel
theorem dX7_carries_12 : decode cX7_carries 12 = .ok (.ifCond .eq 16, 3) := by decide +kernel
theorem dX7_carries_15 : decode cX7_carries 15 = .ok (.aload_n 1, 1) := by decide +kernel
theorem dX7_carries_16 : decode cX7_carries 16 = .ok (.iload 5, 2) := by decide +kernel
theorem dX7_carries_18 : decode cX7_carries 18 = .ok (.aload_n 2, 1) := by decide +kernel
theorem dX7_carries_19 : decode cX7_carries 19 = .ok (.iload_n 3, 1) := by decide +kernel
theorem dX7_carries_20 : decode cX7_carries 20 = .ok (.iload 5, 2) := by decide +kernel
theorem dX7_carries_22 : decode cX7_carries 22 = .ok (.iadd, 1) := by decide +kernel
theorem dX7_carries_23 : decode cX7_carries 23 = .ok (.iaload, 1) := by decide +kernel
theorem dX7_carries_24 : decode cX7_carries 24 = .ok (.iastore, 1) := by decide +kernel
theorem dX7_carries_25 : decode cX7_carries 25 = .ok (.goto 13, 3) := by decide +kernel
theorem dX7_carries_28 : decode cX7_carries 28 = .ok (.aload_n 2, 1) := by decide +kernel
theorem dX7_carries_29 : decode cX7_carries 29 = .ok (.iload_n 3, 1) := by decide +kernel
theorem dX7_carries_30 : decode cX7_carries 30 = .ok (.iload 5, 2) := by decide +kernel
theorem dX7_carries_32 : decode cX7_carries 32 = .ok (.iadd, 1) := by decide +kernel
theorem dX7_carries_33 : decode cX7_carries 33 = .ok (.aload_n 1, 1) := by decide +kernel
theorem dX7_carries_34 : decode cX7_carries 34 = .ok (.iload 5, 2) := by decide +kernel
theorem dX7_carries_36 : decode cX7_carries 36 = .ok (.iaload, 1) := by decide +kernel
theorem dX7_carries_37 : decode cX7_carries 37 = .ok (.iastore, 1) := by decide +kernel
theorem dX7_carries_38 : decode cX7_carries 38 = .ok (.iinc 5 1, 3) := by decide +kernel
theorem dX7_carries_41 : decode cX7_carries 41 = .ok (.goto (-38), 3) := by decide +kernel
theorem dX7_carries_44 : decode cX7_carries 44 = .ok (.iload_n 3, 1) := by decide +kernel
theorem dX7_carries_45 : decode cX7_carries 45 = .ok (.bipush 10, 2) := by decide +kernel
theorem dX7_carries_47 : decode cX7_carries 47 = .ok (.iadd, 1) := by decide +kernel
theorem dX7_carries_48 : decode cX7_carries 48 = .ok (.ireturn, 1) := by decide +kernel
theorem dX7_all_0 : decode cX7_all 0 = .ok (.aload_n 0, 1) := by decide +kernel
theorem dX7_all_1 : decode cX7_all 1 = .ok (.aload_n 0, 1) := by decide +kernel
theorem dX7_all_2 : decode cX7_all 2 = .ok (.getfield 29, 3) := by decide +kernel
theorem dX7_all_5 : decode cX7_all 5 = .ok (.aload_n 1, 1) := by decide +kernel
theorem dX7_all_6 : decode cX7_all 6 = .ok (.iconst 0, 1) := by decide +kernel
theorem dX7_all_7 : decode cX7_all 7 = .ok (.iload_n 2, 1) := by decide +kernel
theorem dX7_all_8 : decode cX7_all 8 = .ok (.invokevirtual 179, 3) := by decide +kernel
theorem dX7_all_11 : decode cX7_all 11 = .ok (.istore_n 3, 1) := by decide +kernel
theorem dX7_all_12 : decode cX7_all 12 = .ok (.aload_n 0, 1) := by decide +kernel
theorem dX7_all_13 : decode cX7_all 13 = .ok (.aload_n 0, 1) := by decide +kernel
theorem dX7_all_14 : decode cX7_all 14 = .ok (.getfield 32, 3) := by decide +kernel
theorem dX7_all_17 : decode cX7_all 17 = .ok (.aload_n 1, 1) := by decide +kernel
theorem dX7_all_18 : decode cX7_all 18 = .ok (.iload_n 3, 1) := by decide +kernel
theorem dX7_all_19 : decode cX7_all 19 = .ok (.iload_n 2, 1) := by decide +kernel
theorem dX7_all_20 : decode cX7_all 20 = .ok (.invokevirtual 179, 3) := by decide +kernel
theorem dX7_all_23 : decode cX7_all 23 = .ok (.istore_n 3, 1) := by decide +kernel
theorem dX7_all_24 : decode cX7_all 24 = .ok (.aload_n 0, 1) := by decide +kernel
theorem dX7_all_25 : decode cX7_all 25 = .ok (.aload_n 0, 1) := by decide +kernel
theorem dX7_all_26 : decode cX7_all 26 = .ok (.getfield 35, 3) := by decide +kernel
theorem dX7_all_29 : decode cX7_all 29 = .ok (.aload_n 1, 1) := by decide +kernel
theorem dX7_all_30 : decode cX7_all 30 = .ok (.iload_n 3, 1) := by decide +kernel
theorem dX7_all_31 : decode cX7_all 31 = .ok (.iload_n 2, 1) := by decide +kernel
theorem dX7_all_32 : decode cX7_all 32 = .ok (.invokevirtual 179, 3) := by decide +kernel
theorem dX7_all_35 : decode cX7_all 35 = .ok (.istore_n 3, 1) := by decide +kernel
theorem dX7_all_36 : decode cX7_all 36 = .ok (.aload_n 0, 1) := by decide +kernel
theorem dX7_all_37 : decode cX7_all 37 = .ok (.aload_n 0, 1) := by decide +kernel
theorem dX7_all_38 : decode cX7_all 38 = .ok (.getfield 38, 3) := by decide +kernel
theorem dX7_all_41 : decode cX7_all 41 = .ok (.aload_n 1, 1) := by decide +kernel
theorem dX7_all_42 : decode cX7_all 42 = .ok (.iload_n 3, 1) := by decide +kernel
theorem dX7_all_43 : decode cX7_all 43 = .ok (.iload_n 2, 1) := by decide +kernel
theorem dX7_all_44 : decode cX7_all 44 = .ok (.invokevirtual 179, 3) := by decide +kernel
theorem dX7_all_47 : decode cX7_all 47 = .ok (.istore_n 3, 1) := by decide +kernel
theorem dX7_all_48 : decode cX7_all 48 = .ok (.aload_n 0, 1) := by decide +kernel
theorem dX7_all_49 : decode cX7_all 49 = .ok (.aload_n 0, 1) := by decide +kernel
theorem dX7_all_50 : decode cX7_all 50 = .ok (.getfield 41, 3) := by decide +kernel
theorem dX7_all_53 : decode cX7_all 53 = .ok (.aload_n 1, 1) := by decide +kernel
theorem dX7_all_54 : decode cX7_all 54 = .ok (.iload_n 3, 1) := by decide +kernel
theorem dX7_all_55 : decode cX7_all 55 = .ok (.iload_n 2, 1) := by decide +kernel
theorem dX7_all_56 : decode cX7_all 56 = .ok (.invokevirtual 179, 3) := by decide +kernel
theorem dX7_all_59 : decode cX7_all 59 = .ok (.istore_n 3, 1) := by decide +kernel
theorem dX7_all_60 : decode cX7_all 60 = .ok (.aload_n 0, 1) := by decide +kernel
theorem dX7_all_61 : decode cX7_all 61 = .ok (.aload_n 0, 1) := by decide +kernel
theorem dX7_all_62 : decode cX7_all 62 = .ok (.getfield 44, 3) := by decide +kernel
theorem dX7_all_65 : decode cX7_all 65 = .ok (.aload_n 1, 1) := by decide +kernel
theorem dX7_all_66 : decode cX7_all 66 = .ok (.iload_n 3, 1) := by decide +kernel
theorem dX7_all_67 : decode cX7_all 67 = .ok (.iload_n 2, 1) := by decide +kernel
theorem dX7_all_68 : decode cX7_all 68 = .ok (.invokevirtual 179, 3) := by decide +kernel
theorem dX7_all_71 : decode cX7_all 71 = .ok (.istore_n 3, 1) := by decide +kernel
theorem dX7_all_72 : decode cX7_all 72 = .ok (.aload_n 0, 1) := by decide +kernel
theorem dX7_all_73 : decode cX7_all 73 = .ok (.aload_n 0, 1) := by decide +kernel
theorem dX7_all_74 : decode cX7_all 74 = .ok (.getfield 47, 3) := by decide +kernel
theorem dX7_all_77 : decode cX7_all 77 = .ok (.aload_n 1, 1) := by decide +kernel
theorem dX7_all_78 : decode cX7_all 78 = .ok (.iload_n 3, 1) := by decide +kernel
theorem dX7_all_79 : decode cX7_all 79 = .ok (.iload_n 2, 1) := by decide +kernel
theorem dX7_all_80 : decode cX7_all 80 = .ok (.invokevirtual 179, 3) := by decide +kernel
theorem dX7_all_83 : decode cX7_all 83 = .ok (.istore_n 3, 1) := by decide +kernel
theorem dX7_all_84 : decode cX7_all 84 = .ok (.aload_n 0, 1) := by decide +kernel
theorem dX7_all_85 : decode cX7_all 85 = .ok (.aload_n 0, 1) := by decide +kernel
theorem dX7_all_86 : decode cX7_all 86 = .ok (.getfield 50, 3) := by decide +kernel
theorem dX7_all_89 : decode cX7_all 89 = .ok (.aload_n 1, 1) := by decide +kernel
theorem dX7_all_90 : decode cX7_all 90 = .ok (.iload_n 3, 1) := by decide +kernel
theorem dX7_all_91 : decode cX7_all 91 = .ok (.iload_n 2, 1) := by decide +kernel
theorem dX7_all_92 : decode cX7_all 92 = .ok (.invokevirtual 179, 3) := by decide +kernel
theorem dX7_all_95 : decode cX7_all 95 = .ok (.istore_n 3, 1) := by decide +kernel
theorem dX7_all_96 : decode cX7_all 96 = .ok (.aload_n 0, 1) := by decide +kernel
theorem dX7_all_97 : decode cX7_all 97 = .ok (.aload_n 0, 1) := by decide +kernel
theorem dX7_all_98 : decode cX7_all 98 = .ok (.getfield 53, 3) := by decide +kernel
theorem dX7_all_101 : decode cX7_all 101 = .ok (.aload_n 1, 1) := by decide +kernel
theorem dX7_all_102 : decode cX7_all 102 = .ok (.iload_n 3, 1) := by decide +kernel
theorem dX7_all_103 : decode cX7_all 103 = .ok (.iload_n 2, 1) := by decide +kernel
theorem dX7_all_104 : decode cX7_all 104 = .ok (.invokevirtual 179, 3) := by decide +kernel
theorem dX7_all_107 : decode cX7_all 107 = .ok (.istore_n 3, 1) := by decide +kernel
theorem dX7_all_108 : decode cX7_all 108 = .ok (.iload_n 2, 1) := by decide +kernel
theorem dX7_all_109 : decode cX7_all 109 = .ok (.ifCond .eq 68, 3) := by decide +kernel
theorem dX7_all_112 : decode cX7_all 112 = .ok (.aload_n 0, 1) := by decide +kernel
theorem dX7_all_113 : decode cX7_all 113 = .ok (.aload_n 1, 1) := by decide +kernel
theorem dX7_all_114 : decode cX7_all 114 = .ok (.iload_n 3, 1) := by decide +kernel
theorem dX7_all_115 : decode cX7_all 115 = .ok (.iaload, 1) := by decide +kernel
theorem dX7_all_116 : decode cX7_all 116 = .ok (.putfield 102, 3) := by decide +kernel
theorem dX7_all_119 : decode cX7_all 119 = .ok (.aload_n 0, 1) := by decide +kernel
theorem dX7_all_120 : decode cX7_all 120 = .ok (.aload_n 1, 1) := by decide +kernel
theorem dX7_all_121 : decode cX7_all 121 = .ok (.iload_n 3, 1) := by decide +kernel
theorem dX7_all_122 : decode cX7_all 122 = .ok (.iconst 1, 1) := by decide +kernel
theorem dX7_all_123 : decode cX7_all 123 = .ok (.iadd, 1) := by decide +kernel
theorem dX7_all_124 : decode cX7_all 124 = .ok (.iaload, 1) := by decide +kernel
theorem dX7_all_125 : decode cX7_all 125 = .ok (.putfield 7, 3) := by decide +kernel
theorem dX7_all_128 : decode cX7_all 128 = .ok (.aload_n 0, 1) := by decide +kernel
theorem dX7_all_129 : decode cX7_all 129 = .ok (.aload_n 1, 1) := by decide +kernel
theorem dX7_all_130 : decode cX7_all 130 = .ok (.iload_n 3, 1) := by decide +kernel
theorem dX7_all_131 : decode cX7_all 131 = .ok (.iconst 2, 1) := by decide +kernel
theorem dX7_all_132 : decode cX7_all 132 = .ok (.iadd, 1) := by decide +kernel
theorem dX7_all_133 : decode cX7_all 133 = .ok (.iaload, 1) := by decide +kernel
theorem dX7_all_134 : decode cX7_all 134 = .ok (.putfield 131, 3) := by decide +kernel
theorem dX7_all_137 : decode cX7_all 137 = .ok (.aload_n 0, 1) := by decide +kernel
theorem dX7_all_138 : decode cX7_all 138 = .ok (.aload_n 1, 1) := by decide +kernel
theorem dX7_all_139 : decode cX7_all 139 = .ok (.iload_n 3, 1) := by decide +kernel
theorem dX7_all_140 : decode cX7_all 140 = .ok (.iconst 3, 1) := by decide +kernel
theorem dX7_all_141 : decode cX7_all 141 = .ok (.iadd, 1) := by decide +kernel
theorem dX7_all_142 : decode cX7_all 142 = .ok (.iaload, 1) := by decide +kernel
theorem dX7_all_143 : decode cX7_all 143 = .ok (.putfield 13, 3) := by decide +kernel
theorem dX7_all_146 : decode cX7_all 146 = .ok (.aload_n 0, 1) := by decide +kernel
theorem dX7_all_147 : decode cX7_all 147 = .ok (.aload_n 1, 1) := by decide +kernel
theorem dX7_all_148 : decode cX7_all 148 = .ok (.iload_n 3, 1) := by decide +kernel
theorem dX7_all_149 : decode cX7_all 149 = .ok (.iconst 4, 1) := by decide +kernel
theorem dX7_all_150 : decode cX7_all 150 = .ok (.iadd, 1) := by decide +kernel
theorem dX7_all_151 : decode cX7_all 151 = .ok (.iaload, 1) := by decide +kernel
theorem dX7_all_152 : decode cX7_all 152 = .ok (.putfield 16, 3) := by decide +kernel
theorem dX7_all_155 : decode cX7_all 155 = .ok (.aload_n 0, 1) := by decide +kernel
theorem dX7_all_156 : decode cX7_all 156 = .ok (.aload_n 1, 1) := by decide +kernel
theorem dX7_all_157 : decode cX7_all 157 = .ok (.iload_n 3, 1) := by decide +kernel
theorem dX7_all_158 : decode cX7_all 158 = .ok (.iconst 5, 1) := by decide +kernel
theorem dX7_all_159 : decode cX7_all 159 = .ok (.iadd, 1) := by decide +kernel
theorem dX7_all_160 : decode cX7_all 160 = .ok (.iaload, 1) := by decide +kernel
theorem dX7_all_161 : decode cX7_all 161 = .ok (.putfield 183, 3) := by decide +kernel
theorem dX7_all_164 : decode cX7_all 164 = .ok (.aload_n 0, 1) := by decide +kernel
theorem dX7_all_165 : decode cX7_all 165 = .ok (.aload_n 1, 1) := by decide +kernel
theorem dX7_all_166 : decode cX7_all 166 = .ok (.iload_n 3, 1) := by decide +kernel
theorem dX7_all_167 : decode cX7_all 167 = .ok (.bipush 6, 2) := by decide +kernel
theorem dX7_all_169 : decode cX7_all 169 = .ok (.iadd, 1) := by decide +kernel
theorem dX7_all_170 : decode cX7_all 170 = .ok (.iaload, 1) := by decide +kernel
theorem dX7_all_171 : decode cX7_all 171 = .ok (.putfield 19, 3) := by decide +kernel
theorem dX7_all_174 : decode cX7_all 174 = .ok (.goto 65, 3) := by decide +kernel
theorem dX7_all_177 : decode cX7_all 177 = .ok (.aload_n 1, 1) := by decide +kernel
theorem dX7_all_178 : decode cX7_all 178 = .ok (.iload_n 3, 1) := by decide +kernel
theorem dX7_all_179 : decode cX7_all 179 = .ok (.aload_n 0, 1) := by decide +kernel
theorem dX7_all_180 : decode cX7_all 180 = .ok (.getfield 102, 3) := by decide +kernel
theorem dX7_all_183 : decode cX7_all 183 = .ok (.iastore, 1) := by decide +kernel
theorem dX7_all_184 : decode cX7_all 184 = .ok (.aload_n 1, 1) := by decide +kernel
theorem dX7_all_185 : decode cX7_all 185 = .ok (.iload_n 3, 1) := by decide +kernel
theorem dX7_all_186 : decode cX7_all 186 = .ok (.iconst 1, 1) := by decide +kernel
theorem dX7_all_187 : decode cX7_all 187 = .ok (.iadd, 1) := by decide +kernel
theorem dX7_all_188 : decode cX7_all 188 = .ok (.aload_n 0, 1) := by decide +kernel
theorem dX7_all_189 : decode cX7_all 189 = .ok (.getfield 7, 3) := by decide +kernel
theorem dX7_all_192 : decode cX7_all 192 = .ok (.iastore, 1) := by decide +kernel
theorem dX7_all_193 : decode cX7_all 193 = .ok (.aload_n 1, 1) := by decide +kernel
theorem dX7_all_194 : decode cX7_all 194 = .ok (.iload_n 3, 1) := by decide +kernel
theorem dX7_all_195 : decode cX7_all 195 = .ok (.iconst 2, 1) := by decide +kernel
theorem dX7_all_196 : decode cX7_all 196 = .ok (.iadd, 1) := by decide +kernel
theorem dX7_all_197 : decode cX7_all 197 = .ok (.aload_n 0, 1) := by decide +kernel
theorem dX7_all_198 : decode cX7_all 198 = .ok (.getfield 131, 3) := by decide +kernel
theorem dX7_all_201 : decode cX7_all 201 = .ok (.iastore, 1) := by decide +kernel
theorem dX7_all_202 : decode cX7_all 202 = .ok (.aload_n 1, 1) := by decide +kernel
theorem dX7_all_203 : decode cX7_all 203 = .ok (.iload_n 3, 1) := by decide +kernel
theorem dX7_all_204 : decode cX7_all 204 = .ok (.iconst 3, 1) := by decide +kernel
theorem dX7_all_205 : decode cX7_all 205 = .ok (.iadd, 1) := by decide +kernel
theorem dX7_all_206 : decode cX7_all 206 = .ok (.aload_n 0, 1) := by decide +kernel
theorem dX7_all_207 : decode cX7_all 207 = .ok (.getfield 13, 3) := by decide +kernel
theorem dX7_all_210 : decode cX7_all 210 = .ok (.iastore, 1) := by decide +kernel
theorem dX7_all_211 : decode cX7_all 211 = .ok (.aload_n 1, 1) := by decide +kernel
theorem dX7_all_212 : decode cX7_all 212 = .ok (.iload_n 3, 1) := by decide +kernel
theorem dX7_all_213 : decode cX7_all 213 = .ok (.iconst 4, 1) := by decide +kernel
theorem dX7_all_214 : decode cX7_all 214 = .ok (.iadd, 1) := by decide +kernel
theorem dX7_all_215 : decode cX7_all 215 = .ok (.aload_n 0, 1) := by decide +kernel
theorem dX7_all_216 : decode cX7_all 216 = .ok (.getfield 16, 3) := by decide +kernel
theorem dX7_all_219 : decode cX7_all 219 = .ok (.iastore, 1) := by decide +kernel
theorem dX7_all_220 : decode cX7_all 220 = .ok (.aload_n 1, 1) := by decide +kernel
theorem dX7_all_221 : decode cX7_all 221 = .ok (.iload_n 3, 1) := by decide +kernel
theorem dX7_all_222 : decode cX7_all 222 = .ok (.iconst 5, 1) := by decide +kernel
theorem dX7_all_223 : decode cX7_all 223 = .ok (.iadd, 1) := by decide +kernel
theorem dX7_all_224 : decode cX7_all 224 = .ok (.aload_n 0, 1) := by decide +kernel
theorem dX7_all_225 : decode cX7_all 225 = .ok (.getfield 183, 3) := by decide +kernel
theorem dX7_all_228 : decode cX7_all 228 = .ok (.iastore, 1) := by decide +kernel
theorem dX7_all_229 : decode cX7_all 229 = .ok (.aload_n 1, 1) := by decide +kernel
theorem dX7_all_230 : decode cX7_all 230 = .ok (.iload_n 3, 1) := by decide +kernel
theorem dX7_all_231 : decode cX7_all 231 = .ok (.bipush 6, 2) := by decide +kernel
theorem dX7_all_233 : decode cX7_all 233 = .ok (.iadd, 1) := by decide +kernel
theorem dX7_all_234 : decode cX7_all 234 = .ok (.aload_n 0, 1) := by decide +kernel
theorem dX7_all_235 : decode cX7_all 235 = .ok (.getfield 19, 3) := by decide +kernel
theorem dX7_all_238 : decode cX7_all 238 = .ok (.iastore, 1) := by decide +kernel
theorem dX7_all_239 : decode cX7_all 239 = .ok (.return_, 1) := by decide +kernel
theorem dX7_school_0 : decode cX7_school 0 = .ok (.aload_n 0, 1) := by decide +kernel
theorem dX7_school_1 : decode cX7_school 1 = .ok (.iload_n 1, 1) := by decide +kernel
theorem dX7_school_2 : decode cX7_school 2 = .ok (.invokevirtual 186, 3) := by decide +kernel
theorem dX7_school_5 : decode cX7_school 5 = .ok (.istore_n 2, 1) := by decide +kernel
theorem dX7_school_6 : decode cX7_school 6 = .ok (.iload_n 2, 1) := by decide +kernel
theorem dX7_school_7 : decode cX7_school 7 = .ok (.ifCond .eq 9, 3) := by decide +kernel
theorem dX7_school_10 : decode cX7_school 10 = .ok (.aload_n 0, 1) := by decide +kernel
theorem dX7_school_11 : decode cX7_school 11 = .ok (.iload_n 2, 1) := by decide +kernel
theorem dX7_school_12 : decode cX7_school 12 = .ok (.invokevirtual 109, 3) := by decide +kernel
theorem dX7_school_15 : decode cX7_school 15 = .ok (.ireturn, 1) := by decide +kernel
theorem dX7_school_16 : decode cX7_school 16 = .ok (.aload_n 0, 1) := by decide +kernel
theorem dX7_school_17 : decode cX7_school 17 = .ok (.aload_n 0, 1) := by decide +kernel
theorem dX7_school_18 : decode cX7_school 18 = .ok (.getfield 87, 3) := by decide +kernel
theorem dX7_school_21 : decode cX7_school 21 = .ok (.iconst 0, 1) := by decide +kernel
theorem dX7_school_22 : decode cX7_school 22 = .ok (.invokevirtual 189, 3) := by decide +kernel
theorem dX7_school_25 : decode cX7_school 25 = .ok (.aload_n 0, 1) := by decide +kernel
theorem dX7_school_26 : decode cX7_school 26 = .ok (.sipush 160, 3) := by decide +kernel
theorem dX7_school_29 : decode cX7_school 29 = .ok (.iload_n 1, 1) := by decide +kernel
theorem dX7_school_30 : decode cX7_school 30 = .ok (.imul, 1) := by decide +kernel
theorem dX7_school_31 : decode cX7_school 31 = .ok (.putfield 144, 3) := by decide +kernel
theorem dX7_school_34 : decode cX7_school 34 = .ok (.aload_n 0, 1) := by decide +kernel
theorem dX7_school_35 : decode cX7_school 35 = .ok (.iconst 0, 1) := by decide +kernel
theorem dX7_school_36 : decode cX7_school 36 = .ok (.putfield 147, 3) := by decide +kernel
theorem dX7_school_39 : decode cX7_school 39 = .ok (.aload_n 0, 1) := by decide +kernel
theorem dX7_school_40 : decode cX7_school 40 = .ok (.aload_n 0, 1) := by decide +kernel
theorem dX7_school_41 : decode cX7_school 41 = .ok (.getfield 62, 3) := by decide +kernel
theorem dX7_school_44 : decode cX7_school 44 = .ok (.iload_n 1, 1) := by decide +kernel
theorem dX7_school_45 : decode cX7_school 45 = .ok (.iaload, 1) := by decide +kernel
theorem dX7_school_46 : decode cX7_school 46 = .ok (.putfield 150, 3) := by decide +kernel
theorem dX7_school_49 : decode cX7_school 49 = .ok (.aload_n 0, 1) := by decide +kernel
theorem dX7_school_50 : decode cX7_school 50 = .ok (.iconst (-1), 1) := by decide +kernel
theorem dX7_school_51 : decode cX7_school 51 = .ok (.putfield 22, 3) := by decide +kernel
theorem dX7_school_54 : decode cX7_school 54 = .ok (.iconst 1, 1) := by decide +kernel
theorem dX7_school_55 : decode cX7_school 55 = .ok (.istore_n 3, 1) := by decide +kernel
theorem dX7_school_56 : decode cX7_school 56 = .ok (.aload_n 0, 1) := by decide +kernel
theorem dX7_school_57 : decode cX7_school 57 = .ok (.invokevirtual 193, 3) := by decide +kernel
theorem dX7_school_60 : decode cX7_school 60 = .ok (.istore 4, 2) := by decide +kernel
theorem dX7_school_62 : decode cX7_school 62 = .ok (.iload 4, 2) := by decide +kernel
theorem dX7_school_64 : decode cX7_school 64 = .ok (.ifCond .eq 62, 3) := by decide +kernel
theorem dX7_school_67 : decode cX7_school 67 = .ok (.aload_n 0, 1) := by decide +kernel
theorem dX7_school_68 : decode cX7_school 68 = .ok (.getfield 147, 3) := by decide +kernel
theorem dX7_school_71 : decode cX7_school 71 = .ok (.aload_n 0, 1) := by decide +kernel
theorem dX7_school_72 : decode cX7_school 72 = .ok (.getfield 150, 3) := by decide +kernel
theorem dX7_school_75 : decode cX7_school 75 = .ok (.if_icmp .ge 51, 3) := by decide +kernel
theorem dX7_school_78 : decode cX7_school 78 = .ok (.aload_n 0, 1) := by decide +kernel
theorem dX7_school_79 : decode cX7_school 79 = .ok (.aload_n 0, 1) := by decide +kernel
theorem dX7_school_80 : decode cX7_school 80 = .ok (.getfield 147, 3) := by decide +kernel
theorem dX7_school_83 : decode cX7_school 83 = .ok (.invokevirtual 153, 3) := by decide +kernel
theorem dX7_school_86 : decode cX7_school 86 = .ok (.bipush 59, 2) := by decide +kernel
theorem dX7_school_88 : decode cX7_school 88 = .ok (.if_icmp .eq 16, 3) := by decide +kernel
theorem dX7_school_91 : decode cX7_school 91 = .ok (.aload_n 0, 1) := by decide +kernel
theorem dX7_school_92 : decode cX7_school 92 = .ok (.aload_n 0, 1) := by decide +kernel
theorem dX7_school_93 : decode cX7_school 93 = .ok (.getfield 147, 3) := by decide +kernel
theorem dX7_school_96 : decode cX7_school 96 = .ok (.invokevirtual 163, 3) := by decide +kernel
theorem dX7_school_99 : decode cX7_school 99 = .ok (.istore 4, 2) := by decide +kernel
theorem dX7_school_101 : decode cX7_school 101 = .ok (.goto (-39), 3) := by decide +kernel
theorem dX7_school_104 : decode cX7_school 104 = .ok (.aload_n 0, 1) := by decide +kernel
theorem dX7_school_105 : decode cX7_school 105 = .ok (.dup, 1) := by decide +kernel
theorem dX7_school_106 : decode cX7_school 106 = .ok (.getfield 147, 3) := by decide +kernel
theorem dX7_school_109 : decode cX7_school 109 = .ok (.iconst 1, 1) := by decide +kernel
theorem dX7_school_110 : decode cX7_school 110 = .ok (.iadd, 1) := by decide +kernel
theorem dX7_school_111 : decode cX7_school 111 = .ok (.putfield 147, 3) := by decide +kernel
theorem dX7_school_114 : decode cX7_school 114 = .ok (.iinc 3 1, 3) := by decide +kernel
theorem dX7_school_117 : decode cX7_school 117 = .ok (.aload_n 0, 1) := by decide +kernel
theorem dX7_school_118 : decode cX7_school 118 = .ok (.invokevirtual 193, 3) := by decide +kernel
theorem dX7_school_121 : decode cX7_school 121 = .ok (.istore 4, 2) := by decide +kernel
theorem dX7_school_123 : decode cX7_school 123 = .ok (.goto (-61), 3) := by decide +kernel
theorem dX7_school_126 : decode cX7_school 126 = .ok (.iload 4, 2) := by decide +kernel
theorem dX7_school_128 : decode cX7_school 128 = .ok (.ifCond .eq 5, 3) := by decide +kernel
theorem dX7_school_131 : decode cX7_school 131 = .ok (.iload_n 3, 1) := by decide +kernel
theorem dX7_school_132 : decode cX7_school 132 = .ok (.ireturn, 1) := by decide +kernel
theorem dX7_school_133 : decode cX7_school 133 = .ok (.aload_n 0, 1) := by decide +kernel
theorem dX7_school_134 : decode cX7_school 134 = .ok (.aload_n 0, 1) := by decide +kernel
theorem dX7_school_135 : decode cX7_school 135 = .ok (.getfield 87, 3) := by decide +kernel
theorem dX7_school_138 : decode cX7_school 138 = .ok (.iconst 1, 1) := by decide +kernel
theorem dX7_school_139 : decode cX7_school 139 = .ok (.invokevirtual 189, 3) := by decide +kernel
theorem dX7_school_142 : decode cX7_school 142 = .ok (.aload_n 0, 1) := by decide +kernel
theorem dX7_school_143 : decode cX7_school 143 = .ok (.aload_n 0, 1) := by decide +kernel
theorem dX7_school_144 : decode cX7_school 144 = .ok (.getfield 141, 3) := by decide +kernel
theorem dX7_school_147 : decode cX7_school 147 = .ok (.putfield 22, 3) := by decide +kernel
theorem dX7_school_150 : decode cX7_school 150 = .ok (.aload_n 0, 1) := by decide +kernel
theorem dX7_school_151 : decode cX7_school 151 = .ok (.bipush (-6), 2) := by decide +kernel
theorem dX7_school_153 : decode cX7_school 153 = .ok (.invokevirtual 109, 3) := by decide +kernel
theorem dX7_school_156 : decode cX7_school 156 = .ok (.ireturn, 1) := by decide +kernel
theorem dX7_fault_0 : decode cX7_fault 0 = .ok (.aload_n 0, 1) := by decide +kernel
theorem dX7_fault_1 : decode cX7_fault 1 = .ok (.getfield 22, 3) := by decide +kernel
theorem dX7_fault_4 : decode cX7_fault 4 = .ok (.ireturn, 1) := by decide +kernel
theorem dX7_wills_0 : decode cX7_wills 0 = .ok (.aload_n 0, 1) := by decide +kernel
theorem dX7_wills_1 : decode cX7_wills 1 = .ok (.getfield 7, 3) := by decide +kernel
theorem dX7_wills_4 : decode cX7_wills 4 = .ok (.aload_n 0, 1) := by decide +kernel
theorem dX7_wills_5 : decode cX7_wills 5 = .ok (.getfield 35, 3) := by decide +kernel
theorem dX7_wills_8 : decode cX7_wills 8 = .ok (.iload_n 1, 1) := by decide +kernel
theorem dX7_wills_9 : decode cX7_wills 9 = .ok (.iaload, 1) := by decide +kernel
theorem dX7_wills_10 : decode cX7_wills 10 = .ok (.if_icmp .le 17, 3) := by decide +kernel
theorem dX7_wills_13 : decode cX7_wills 13 = .ok (.aload_n 0, 1) := by decide +kernel
theorem dX7_wills_14 : decode cX7_wills 14 = .ok (.getfield 7, 3) := by decide +kernel
theorem dX7_wills_17 : decode cX7_wills 17 = .ok (.aload_n 0, 1) := by decide +kernel
theorem dX7_wills_18 : decode cX7_wills 18 = .ok (.getfield 35, 3) := by decide +kernel
theorem dX7_wills_21 : decode cX7_wills 21 = .ok (.iload_n 1, 1) := by decide +kernel
theorem dX7_wills_22 : decode cX7_wills 22 = .ok (.iaload, 1) := by decide +kernel
theorem dX7_wills_23 : decode cX7_wills 23 = .ok (.isub, 1) := by decide +kernel
theorem dX7_wills_24 : decode cX7_wills 24 = .ok (.goto 14, 3) := by decide +kernel
theorem dX7_wills_27 : decode cX7_wills 27 = .ok (.aload_n 0, 1) := by decide +kernel
theorem dX7_wills_28 : decode cX7_wills 28 = .ok (.getfield 35, 3) := by decide +kernel
theorem dX7_wills_31 : decode cX7_wills 31 = .ok (.iload_n 1, 1) := by decide +kernel
theorem dX7_wills_32 : decode cX7_wills 32 = .ok (.iaload, 1) := by decide +kernel
theorem dX7_wills_33 : decode cX7_wills 33 = .ok (.aload_n 0, 1) := by decide +kernel
theorem dX7_wills_34 : decode cX7_wills 34 = .ok (.getfield 7, 3) := by decide +kernel
theorem dX7_wills_37 : decode cX7_wills 37 = .ok (.isub, 1) := by decide +kernel
theorem dX7_wills_38 : decode cX7_wills 38 = .ok (.iconst 2, 1) := by decide +kernel
theorem dX7_wills_39 : decode cX7_wills 39 = .ok (.idiv, 1) := by decide +kernel
theorem dX7_wills_40 : decode cX7_wills 40 = .ok (.istore_n 2, 1) := by decide +kernel
theorem dX7_wills_41 : decode cX7_wills 41 = .ok (.iconst 4, 1) := by decide +kernel
theorem dX7_wills_42 : decode cX7_wills 42 = .ok (.aload_n 0, 1) := by decide +kernel
theorem dX7_wills_43 : decode cX7_wills 43 = .ok (.getfield 183, 3) := by decide +kernel
theorem dX7_wills_46 : decode cX7_wills 46 = .ok (.iconst 3, 1) := by decide +kernel
theorem dX7_wills_47 : decode cX7_wills 47 = .ok (.idiv, 1) := by decide +kernel
theorem dX7_wills_48 : decode cX7_wills 48 = .ok (.isub, 1) := by decide +kernel
theorem dX7_wills_49 : decode cX7_wills 49 = .ok (.istore_n 3, 1) := by decide +kernel
theorem dX7_wills_50 : decode cX7_wills 50 = .ok (.bipush 12, 2) := by decide +kernel
theorem dX7_wills_52 : decode cX7_wills 52 = .ok (.aload_n 0, 1) := by decide +kernel
theorem dX7_wills_53 : decode cX7_wills 53 = .ok (.getfield 131, 3) := by decide +kernel
theorem dX7_wills_56 : decode cX7_wills 56 = .ok (.isub, 1) := by decide +kernel
theorem dX7_wills_57 : decode cX7_wills 57 = .ok (.iload_n 2, 1) := by decide +kernel
theorem dX7_wills_58 : decode cX7_wills 58 = .ok (.isub, 1) := by decide +kernel
theorem dX7_wills_59 : decode cX7_wills 59 = .ok (.iconst 2, 1) := by decide +kernel
theorem dX7_wills_60 : decode cX7_wills 60 = .ok (.aload_n 0, 1) := by decide +kernel
theorem dX7_wills_61 : decode cX7_wills 61 = .ok (.getfield 44, 3) := by decide +kernel
theorem dX7_wills_64 : decode cX7_wills 64 = .ok (.iload_n 1, 1) := by decide +kernel
theorem dX7_wills_65 : decode cX7_wills 65 = .ok (.iaload, 1) := by decide +kernel
theorem dX7_wills_66 : decode cX7_wills 66 = .ok (.imul, 1) := by decide +kernel
theorem dX7_wills_67 : decode cX7_wills 67 = .ok (.isub, 1) := by decide +kernel
theorem dX7_wills_68 : decode cX7_wills 68 = .ok (.istore 4, 2) := by decide +kernel
theorem dX7_wills_70 : decode cX7_wills 70 = .ok (.aload_n 0, 1) := by decide +kernel
theorem dX7_wills_71 : decode cX7_wills 71 = .ok (.getfield 38, 3) := by decide +kernel
theorem dX7_wills_74 : decode cX7_wills 74 = .ok (.iload_n 1, 1) := by decide +kernel
theorem dX7_wills_75 : decode cX7_wills 75 = .ok (.iaload, 1) := by decide +kernel
theorem dX7_wills_76 : decode cX7_wills 76 = .ok (.iconst 1, 1) := by decide +kernel
theorem dX7_wills_77 : decode cX7_wills 77 = .ok (.if_icmp .ne 13, 3) := by decide +kernel
theorem dX7_wills_80 : decode cX7_wills 80 = .ok (.iload_n 3, 1) := by decide +kernel
theorem dX7_wills_81 : decode cX7_wills 81 = .ok (.ifCond .le 9, 3) := by decide +kernel
theorem dX7_wills_84 : decode cX7_wills 84 = .ok (.iload 4, 2) := by decide +kernel
theorem dX7_wills_86 : decode cX7_wills 86 = .ok (.iload_n 3, 1) := by decide +kernel
theorem dX7_wills_87 : decode cX7_wills 87 = .ok (.iadd, 1) := by decide +kernel
theorem dX7_wills_88 : decode cX7_wills 88 = .ok (.istore 4, 2) := by decide +kernel
theorem dX7_wills_90 : decode cX7_wills 90 = .ok (.aload_n 0, 1) := by decide +kernel
theorem dX7_wills_91 : decode cX7_wills 91 = .ok (.getfield 29, 3) := by decide +kernel
theorem dX7_wills_94 : decode cX7_wills 94 = .ok (.iload_n 1, 1) := by decide +kernel
theorem dX7_wills_95 : decode cX7_wills 95 = .ok (.iaload, 1) := by decide +kernel
theorem dX7_wills_96 : decode cX7_wills 96 = .ok (.tableswitch 111 1 6 #[40, 62, 50, 72, 84, 50], 40) := by decide +kernel
theorem dX7_wills_136 : decode cX7_wills 136 = .ok (.iload 4, 2) := by decide +kernel
theorem dX7_wills_138 : decode cX7_wills 138 = .ok (.aload_n 0, 1) := by decide +kernel
theorem dX7_wills_139 : decode cX7_wills 139 = .ok (.getfield 32, 3) := by decide +kernel
theorem dX7_wills_142 : decode cX7_wills 142 = .ok (.iload_n 1, 1) := by decide +kernel
theorem dX7_wills_143 : decode cX7_wills 143 = .ok (.iaload, 1) := by decide +kernel
theorem dX7_wills_144 : decode cX7_wills 144 = .ok (.iadd, 1) := by decide +kernel
theorem dX7_wills_145 : decode cX7_wills 145 = .ok (.ireturn, 1) := by decide +kernel
theorem dX7_wills_146 : decode cX7_wills 146 = .ok (.iload 4, 2) := by decide +kernel
theorem dX7_wills_148 : decode cX7_wills 148 = .ok (.aload_n 0, 1) := by decide +kernel
theorem dX7_wills_149 : decode cX7_wills 149 = .ok (.getfield 32, 3) := by decide +kernel
theorem dX7_wills_152 : decode cX7_wills 152 = .ok (.iload_n 1, 1) := by decide +kernel
theorem dX7_wills_153 : decode cX7_wills 153 = .ok (.iaload, 1) := by decide +kernel
theorem dX7_wills_154 : decode cX7_wills 154 = .ok (.iadd, 1) := by decide +kernel
theorem dX7_wills_155 : decode cX7_wills 155 = .ok (.iconst 2, 1) := by decide +kernel
theorem dX7_wills_156 : decode cX7_wills 156 = .ok (.iadd, 1) := by decide +kernel
theorem dX7_wills_157 : decode cX7_wills 157 = .ok (.ireturn, 1) := by decide +kernel
theorem dX7_wills_158 : decode cX7_wills 158 = .ok (.iload 4, 2) := by decide +kernel
theorem dX7_wills_160 : decode cX7_wills 160 = .ok (.aload_n 0, 1) := by decide +kernel
theorem dX7_wills_161 : decode cX7_wills 161 = .ok (.getfield 32, 3) := by decide +kernel
theorem dX7_wills_164 : decode cX7_wills 164 = .ok (.iload_n 1, 1) := by decide +kernel
theorem dX7_wills_165 : decode cX7_wills 165 = .ok (.iaload, 1) := by decide +kernel
theorem dX7_wills_166 : decode cX7_wills 166 = .ok (.isub, 1) := by decide +kernel
theorem dX7_wills_167 : decode cX7_wills 167 = .ok (.ireturn, 1) := by decide +kernel
theorem dX7_wills_168 : decode cX7_wills 168 = .ok (.iload 4, 2) := by decide +kernel
theorem dX7_wills_170 : decode cX7_wills 170 = .ok (.aload_n 0, 1) := by decide +kernel
theorem dX7_wills_171 : decode cX7_wills 171 = .ok (.getfield 32, 3) := by decide +kernel
theorem dX7_wills_174 : decode cX7_wills 174 = .ok (.iload_n 1, 1) := by decide +kernel
theorem dX7_wills_175 : decode cX7_wills 175 = .ok (.iaload, 1) := by decide +kernel
theorem dX7_wills_176 : decode cX7_wills 176 = .ok (.isub, 1) := by decide +kernel
theorem dX7_wills_177 : decode cX7_wills 177 = .ok (.iload_n 2, 1) := by decide +kernel
theorem dX7_wills_178 : decode cX7_wills 178 = .ok (.isub, 1) := by decide +kernel
theorem dX7_wills_179 : decode cX7_wills 179 = .ok (.ireturn, 1) := by decide +kernel
theorem dX7_wills_180 : decode cX7_wills 180 = .ok (.aload_n 0, 1) := by decide +kernel
theorem dX7_wills_181 : decode cX7_wills 181 = .ok (.getfield 183, 3) := by decide +kernel
theorem dX7_wills_184 : decode cX7_wills 184 = .ok (.aload_n 0, 1) := by decide +kernel
theorem dX7_wills_185 : decode cX7_wills 185 = .ok (.getfield 32, 3) := by decide +kernel
theorem dX7_wills_188 : decode cX7_wills 188 = .ok (.iload_n 1, 1) := by decide +kernel
theorem dX7_wills_189 : decode cX7_wills 189 = .ok (.iaload, 1) := by decide +kernel
theorem dX7_wills_190 : decode cX7_wills 190 = .ok (.iconst 2, 1) := by decide +kernel
theorem dX7_wills_191 : decode cX7_wills 191 = .ok (.iadd, 1) := by decide +kernel
theorem dX7_wills_192 : decode cX7_wills 192 = .ok (.irem, 1) := by decide +kernel
theorem dX7_wills_193 : decode cX7_wills 193 = .ok (.ifCond .ne 11, 3) := by decide +kernel
theorem dX7_wills_196 : decode cX7_wills 196 = .ok (.iload 4, 2) := by decide +kernel
theorem dX7_wills_198 : decode cX7_wills 198 = .ok (.bipush 20, 2) := by decide +kernel
theorem dX7_wills_200 : decode cX7_wills 200 = .ok (.isub, 1) := by decide +kernel
theorem dX7_wills_201 : decode cX7_wills 201 = .ok (.goto 5, 3) := by decide +kernel
theorem dX7_wills_204 : decode cX7_wills 204 = .ok (.iload 4, 2) := by decide +kernel
theorem dX7_wills_206 : decode cX7_wills 206 = .ok (.ireturn, 1) := by decide +kernel
theorem dX7_wills_207 : decode cX7_wills 207 = .ok (.iload 4, 2) := by decide +kernel
theorem dX7_wills_209 : decode cX7_wills 209 = .ok (.ireturn, 1) := by decide +kernel
theorem dX7_stillComes_0 : decode cX7_stillComes 0 = .ok (.aload_n 0, 1) := by decide +kernel
theorem dX7_stillComes_1 : decode cX7_stillComes 1 = .ok (.iload_n 1, 1) := by decide +kernel
theorem dX7_stillComes_2 : decode cX7_stillComes 2 = .ok (.invokevirtual 196, 3) := by decide +kernel
theorem dX7_stillComes_5 : decode cX7_stillComes 5 = .ok (.istore_n 3, 1) := by decide +kernel
theorem dX7_stillComes_6 : decode cX7_stillComes 6 = .ok (.aload_n 0, 1) := by decide +kernel
theorem dX7_stillComes_7 : decode cX7_stillComes 7 = .ok (.getfield 41, 3) := by decide +kernel
theorem dX7_stillComes_10 : decode cX7_stillComes 10 = .ok (.iload_n 1, 1) := by decide +kernel
theorem dX7_stillComes_11 : decode cX7_stillComes 11 = .ok (.iaload, 1) := by decide +kernel
theorem dX7_stillComes_12 : decode cX7_stillComes 12 = .ok (.istore 4, 2) := by decide +kernel
theorem dX7_stillComes_14 : decode cX7_stillComes 14 = .ok (.iload_n 2, 1) := by decide +kernel
theorem dX7_stillComes_15 : decode cX7_stillComes 15 = .ok (.iload_n 1, 1) := by decide +kernel
theorem dX7_stillComes_16 : decode cX7_stillComes 16 = .ok (.ishr, 1) := by decide +kernel
theorem dX7_stillComes_17 : decode cX7_stillComes 17 = .ok (.iconst 1, 1) := by decide +kernel
theorem dX7_stillComes_18 : decode cX7_stillComes 18 = .ok (.iand, 1) := by decide +kernel
theorem dX7_stillComes_19 : decode cX7_stillComes 19 = .ok (.iconst 1, 1) := by decide +kernel
theorem dX7_stillComes_20 : decode cX7_stillComes 20 = .ok (.if_icmp .ne 6, 3) := by decide +kernel
theorem dX7_stillComes_23 : decode cX7_stillComes 23 = .ok (.iinc 3 4, 3) := by decide +kernel
theorem dX7_stillComes_26 : decode cX7_stillComes 26 = .ok (.iload 4, 2) := by decide +kernel
theorem dX7_stillComes_28 : decode cX7_stillComes 28 = .ok (.iconst (-1), 1) := by decide +kernel
theorem dX7_stillComes_29 : decode cX7_stillComes 29 = .ok (.if_icmp .eq 20, 3) := by decide +kernel
theorem dX7_stillComes_32 : decode cX7_stillComes 32 = .ok (.aload_n 0, 1) := by decide +kernel
theorem dX7_stillComes_33 : decode cX7_stillComes 33 = .ok (.getfield 199, 3) := by decide +kernel
theorem dX7_stillComes_36 : decode cX7_stillComes 36 = .ok (.iload 4, 2) := by decide +kernel
theorem dX7_stillComes_38 : decode cX7_stillComes 38 = .ok (.ishr, 1) := by decide +kernel
theorem dX7_stillComes_39 : decode cX7_stillComes 39 = .ok (.iconst 1, 1) := by decide +kernel
theorem dX7_stillComes_40 : decode cX7_stillComes 40 = .ok (.iand, 1) := by decide +kernel
theorem dX7_stillComes_41 : decode cX7_stillComes 41 = .ok (.iconst 1, 1) := by decide +kernel
theorem dX7_stillComes_42 : decode cX7_stillComes 42 = .ok (.if_icmp .ne 7, 3) := by decide +kernel
theorem dX7_stillComes_45 : decode cX7_stillComes 45 = .ok (.iconst 1, 1) := by decide +kernel
theorem dX7_stillComes_46 : decode cX7_stillComes 46 = .ok (.goto 4, 3) := by decide +kernel
theorem dX7_stillComes_49 : decode cX7_stillComes 49 = .ok (.iconst 0, 1) := by decide +kernel
theorem dX7_stillComes_50 : decode cX7_stillComes 50 = .ok (.istore 5, 2) := by decide +kernel
theorem dX7_stillComes_52 : decode cX7_stillComes 52 = .ok (.iload 5, 2) := by decide +kernel
theorem dX7_stillComes_54 : decode cX7_stillComes 54 = .ok (.ifCond .eq 27, 3) := by decide +kernel
theorem dX7_stillComes_57 : decode cX7_stillComes 57 = .ok (.iload_n 3, 1) := by decide +kernel
theorem dX7_stillComes_58 : decode cX7_stillComes 58 = .ok (.aload_n 0, 1) := by decide +kernel
theorem dX7_stillComes_59 : decode cX7_stillComes 59 = .ok (.aload_n 0, 1) := by decide +kernel
theorem dX7_stillComes_60 : decode cX7_stillComes 60 = .ok (.getfield 29, 3) := by decide +kernel
theorem dX7_stillComes_63 : decode cX7_stillComes 63 = .ok (.iload 4, 2) := by decide +kernel
theorem dX7_stillComes_65 : decode cX7_stillComes 65 = .ok (.iaload, 1) := by decide +kernel
theorem dX7_stillComes_66 : decode cX7_stillComes 66 = .ok (.iconst 3, 1) := by decide +kernel
theorem dX7_stillComes_67 : decode cX7_stillComes 67 = .ok (.invokevirtual 116, 3) := by decide +kernel
theorem dX7_stillComes_70 : decode cX7_stillComes 70 = .ok (.ifCond .eq 8, 3) := by decide +kernel
theorem dX7_stillComes_73 : decode cX7_stillComes 73 = .ok (.bipush 6, 2) := by decide +kernel
theorem dX7_stillComes_75 : decode cX7_stillComes 75 = .ok (.goto 4, 3) := by decide +kernel
theorem dX7_stillComes_78 : decode cX7_stillComes 78 = .ok (.iconst 3, 1) := by decide +kernel
theorem dX7_stillComes_79 : decode cX7_stillComes 79 = .ok (.iadd, 1) := by decide +kernel
theorem dX7_stillComes_80 : decode cX7_stillComes 80 = .ok (.istore_n 3, 1) := by decide +kernel
theorem dX7_stillComes_81 : decode cX7_stillComes 81 = .ok (.iload_n 3, 1) := by decide +kernel
theorem dX7_stillComes_82 : decode cX7_stillComes 82 = .ok (.ifCond .le 29, 3) := by decide +kernel
theorem dX7_stillComes_85 : decode cX7_stillComes 85 = .ok (.aload_n 0, 1) := by decide +kernel
theorem dX7_stillComes_86 : decode cX7_stillComes 86 = .ok (.getfield 29, 3) := by decide +kernel
theorem dX7_stillComes_89 : decode cX7_stillComes 89 = .ok (.iload_n 1, 1) := by decide +kernel
theorem dX7_stillComes_90 : decode cX7_stillComes 90 = .ok (.iaload, 1) := by decide +kernel
theorem dX7_stillComes_91 : decode cX7_stillComes 91 = .ok (.bipush 6, 2) := by decide +kernel
theorem dX7_stillComes_93 : decode cX7_stillComes 93 = .ok (.if_icmp .ne 14, 3) := by decide +kernel
theorem dX7_stillComes_96 : decode cX7_stillComes 96 = .ok (.iload 4, 2) := by decide +kernel
theorem dX7_stillComes_98 : decode cX7_stillComes 98 = .ok (.iconst (-1), 1) := by decide +kernel
theorem dX7_stillComes_99 : decode cX7_stillComes 99 = .ok (.if_icmp .eq 8, 3) := by decide +kernel
theorem dX7_stillComes_102 : decode cX7_stillComes 102 = .ok (.iload 5, 2) := by decide +kernel
theorem dX7_stillComes_104 : decode cX7_stillComes 104 = .ok (.ifCond .eq 7, 3) := by decide +kernel
theorem dX7_stillComes_107 : decode cX7_stillComes 107 = .ok (.iconst 1, 1) := by decide +kernel
theorem dX7_stillComes_108 : decode cX7_stillComes 108 = .ok (.goto 4, 3) := by decide +kernel
theorem dX7_stillComes_111 : decode cX7_stillComes 111 = .ok (.iconst 0, 1) := by decide +kernel
theorem dX7_stillComes_112 : decode cX7_stillComes 112 = .ok (.ireturn, 1) := by decide +kernel
theorem dX7_comes_0 : decode cX7_comes 0 = .ok (.aload_n 0, 1) := by decide +kernel
theorem dX7_comes_1 : decode cX7_comes 1 = .ok (.iconst 0, 1) := by decide +kernel
theorem dX7_comes_2 : decode cX7_comes 2 = .ok (.putfield 199, 3) := by decide +kernel
theorem dX7_comes_5 : decode cX7_comes 5 = .ok (.iconst 0, 1) := by decide +kernel
theorem dX7_comes_6 : decode cX7_comes 6 = .ok (.istore_n 2, 1) := by decide +kernel
theorem dX7_comes_7 : decode cX7_comes 7 = .ok (.iload_n 2, 1) := by decide +kernel
theorem dX7_comes_8 : decode cX7_comes 8 = .ok (.aload_n 0, 1) := by decide +kernel
theorem dX7_comes_9 : decode cX7_comes 9 = .ok (.getfield 102, 3) := by decide +kernel
theorem dX7_comes_12 : decode cX7_comes 12 = .ok (.if_icmp .ge 30, 3) := by decide +kernel
theorem dX7_comes_15 : decode cX7_comes 15 = .ok (.aload_n 0, 1) := by decide +kernel
theorem dX7_comes_16 : decode cX7_comes 16 = .ok (.getfield 53, 3) := by decide +kernel
theorem dX7_comes_19 : decode cX7_comes 19 = .ok (.iload_n 2, 1) := by decide +kernel
theorem dX7_comes_20 : decode cX7_comes 20 = .ok (.iaload, 1) := by decide +kernel
theorem dX7_comes_21 : decode cX7_comes 21 = .ok (.ifCond .ne 15, 3) := by decide +kernel
theorem dX7_comes_24 : decode cX7_comes 24 = .ok (.aload_n 0, 1) := by decide +kernel
theorem dX7_comes_25 : decode cX7_comes 25 = .ok (.dup, 1) := by decide +kernel
theorem dX7_comes_26 : decode cX7_comes 26 = .ok (.getfield 199, 3) := by decide +kernel
theorem dX7_comes_29 : decode cX7_comes 29 = .ok (.iconst 1, 1) := by decide +kernel
theorem dX7_comes_30 : decode cX7_comes 30 = .ok (.iload_n 2, 1) := by decide +kernel
theorem dX7_comes_31 : decode cX7_comes 31 = .ok (.ishl, 1) := by decide +kernel
theorem dX7_comes_32 : decode cX7_comes 32 = .ok (.iadd, 1) := by decide +kernel
theorem dX7_comes_33 : decode cX7_comes 33 = .ok (.putfield 199, 3) := by decide +kernel
theorem dX7_comes_36 : decode cX7_comes 36 = .ok (.iinc 2 1, 3) := by decide +kernel
theorem dX7_comes_39 : decode cX7_comes 39 = .ok (.goto (-32), 3) := by decide +kernel
theorem dX7_comes_42 : decode cX7_comes 42 = .ok (.iconst 1, 1) := by decide +kernel
theorem dX7_comes_43 : decode cX7_comes 43 = .ok (.istore_n 2, 1) := by decide +kernel
theorem dX7_comes_44 : decode cX7_comes 44 = .ok (.iload_n 2, 1) := by decide +kernel
theorem dX7_comes_45 : decode cX7_comes 45 = .ok (.ifCond .eq 61, 3) := by decide +kernel
theorem dX7_comes_48 : decode cX7_comes 48 = .ok (.iconst 0, 1) := by decide +kernel
theorem dX7_comes_49 : decode cX7_comes 49 = .ok (.istore_n 2, 1) := by decide +kernel
theorem dX7_comes_50 : decode cX7_comes 50 = .ok (.iconst 0, 1) := by decide +kernel
theorem dX7_comes_51 : decode cX7_comes 51 = .ok (.istore_n 3, 1) := by decide +kernel
theorem dX7_comes_52 : decode cX7_comes 52 = .ok (.iload_n 3, 1) := by decide +kernel
theorem dX7_comes_53 : decode cX7_comes 53 = .ok (.aload_n 0, 1) := by decide +kernel
theorem dX7_comes_54 : decode cX7_comes 54 = .ok (.getfield 102, 3) := by decide +kernel
theorem dX7_comes_57 : decode cX7_comes 57 = .ok (.if_icmp .ge 46, 3) := by decide +kernel
theorem dX7_comes_60 : decode cX7_comes 60 = .ok (.aload_n 0, 1) := by decide +kernel
theorem dX7_comes_61 : decode cX7_comes 61 = .ok (.getfield 199, 3) := by decide +kernel
theorem dX7_comes_64 : decode cX7_comes 64 = .ok (.iload_n 3, 1) := by decide +kernel
theorem dX7_comes_65 : decode cX7_comes 65 = .ok (.ishr, 1) := by decide +kernel
theorem dX7_comes_66 : decode cX7_comes 66 = .ok (.iconst 1, 1) := by decide +kernel
theorem dX7_comes_67 : decode cX7_comes 67 = .ok (.iand, 1) := by decide +kernel
theorem dX7_comes_68 : decode cX7_comes 68 = .ok (.ifCond .eq 29, 3) := by decide +kernel
theorem dX7_comes_71 : decode cX7_comes 71 = .ok (.aload_n 0, 1) := by decide +kernel
theorem dX7_comes_72 : decode cX7_comes 72 = .ok (.iload_n 3, 1) := by decide +kernel
theorem dX7_comes_73 : decode cX7_comes 73 = .ok (.iload_n 1, 1) := by decide +kernel
theorem dX7_comes_74 : decode cX7_comes 74 = .ok (.invokevirtual 202, 3) := by decide +kernel
theorem dX7_comes_77 : decode cX7_comes 77 = .ok (.ifCond .eq 6, 3) := by decide +kernel
theorem dX7_comes_80 : decode cX7_comes 80 = .ok (.goto 17, 3) := by decide +kernel
theorem dX7_comes_83 : decode cX7_comes 83 = .ok (.aload_n 0, 1) := by decide +kernel
theorem dX7_comes_84 : decode cX7_comes 84 = .ok (.dup, 1) := by decide +kernel
theorem dX7_comes_85 : decode cX7_comes 85 = .ok (.getfield 199, 3) := by decide +kernel
theorem dX7_comes_88 : decode cX7_comes 88 = .ok (.iconst 1, 1) := by decide +kernel
theorem dX7_comes_89 : decode cX7_comes 89 = .ok (.iload_n 3, 1) := by decide +kernel
theorem dX7_comes_90 : decode cX7_comes 90 = .ok (.ishl, 1) := by decide +kernel
theorem dX7_comes_91 : decode cX7_comes 91 = .ok (.isub, 1) := by decide +kernel
theorem dX7_comes_92 : decode cX7_comes 92 = .ok (.putfield 199, 3) := by decide +kernel
theorem dX7_comes_95 : decode cX7_comes 95 = .ok (.iconst 1, 1) := by decide +kernel
theorem dX7_comes_96 : decode cX7_comes 96 = .ok (.istore_n 2, 1) := by decide +kernel
theorem dX7_comes_97 : decode cX7_comes 97 = .ok (.iinc 3 1, 3) := by decide +kernel
theorem dX7_comes_100 : decode cX7_comes 100 = .ok (.goto (-48), 3) := by decide +kernel
theorem dX7_comes_103 : decode cX7_comes 103 = .ok (.goto (-59), 3) := by decide +kernel
theorem dX7_comes_106 : decode cX7_comes 106 = .ok (.aload_n 0, 1) := by decide +kernel
theorem dX7_comes_107 : decode cX7_comes 107 = .ok (.iconst 0, 1) := by decide +kernel
theorem dX7_comes_108 : decode cX7_comes 108 = .ok (.putfield 205, 3) := by decide +kernel
theorem dX7_comes_111 : decode cX7_comes 111 = .ok (.aload_n 0, 1) := by decide +kernel
theorem dX7_comes_112 : decode cX7_comes 112 = .ok (.iconst 0, 1) := by decide +kernel
theorem dX7_comes_113 : decode cX7_comes 113 = .ok (.putfield 208, 3) := by decide +kernel
theorem dX7_comes_116 : decode cX7_comes 116 = .ok (.aload_n 0, 1) := by decide +kernel
theorem dX7_comes_117 : decode cX7_comes 117 = .ok (.iconst 0, 1) := by decide +kernel
theorem dX7_comes_118 : decode cX7_comes 118 = .ok (.putfield 211, 3) := by decide +kernel
theorem dX7_comes_121 : decode cX7_comes 121 = .ok (.iconst 0, 1) := by decide +kernel
theorem dX7_comes_122 : decode cX7_comes 122 = .ok (.istore_n 3, 1) := by decide +kernel
theorem dX7_comes_123 : decode cX7_comes 123 = .ok (.iload_n 3, 1) := by decide +kernel
theorem dX7_comes_124 : decode cX7_comes 124 = .ok (.aload_n 0, 1) := by decide +kernel
theorem dX7_comes_125 : decode cX7_comes 125 = .ok (.getfield 102, 3) := by decide +kernel
theorem dX7_comes_128 : decode cX7_comes 128 = .ok (.if_icmp .ge 69, 3) := by decide +kernel
theorem dX7_comes_131 : decode cX7_comes 131 = .ok (.aload_n 0, 1) := by decide +kernel
theorem dX7_comes_132 : decode cX7_comes 132 = .ok (.getfield 199, 3) := by decide +kernel
theorem dX7_comes_135 : decode cX7_comes 135 = .ok (.iload_n 3, 1) := by decide +kernel
theorem dX7_comes_136 : decode cX7_comes 136 = .ok (.ishr, 1) := by decide +kernel
theorem dX7_comes_137 : decode cX7_comes 137 = .ok (.iconst 1, 1) := by decide +kernel
theorem dX7_comes_138 : decode cX7_comes 138 = .ok (.iand, 1) := by decide +kernel
theorem dX7_comes_139 : decode cX7_comes 139 = .ok (.ifCond .ne 6, 3) := by decide +kernel
theorem dX7_comes_142 : decode cX7_comes 142 = .ok (.goto 49, 3) := by decide +kernel
theorem dX7_comes_145 : decode cX7_comes 145 = .ok (.aload_n 0, 1) := by decide +kernel
theorem dX7_comes_146 : decode cX7_comes 146 = .ok (.dup, 1) := by decide +kernel
theorem dX7_comes_147 : decode cX7_comes 147 = .ok (.getfield 208, 3) := by decide +kernel
theorem dX7_comes_150 : decode cX7_comes 150 = .ok (.iconst 1, 1) := by decide +kernel
theorem dX7_comes_151 : decode cX7_comes 151 = .ok (.iadd, 1) := by decide +kernel
theorem dX7_comes_152 : decode cX7_comes 152 = .ok (.putfield 208, 3) := by decide +kernel
theorem dX7_comes_155 : decode cX7_comes 155 = .ok (.aload_n 0, 1) := by decide +kernel
theorem dX7_comes_156 : decode cX7_comes 156 = .ok (.getfield 208, 3) := by decide +kernel
theorem dX7_comes_159 : decode cX7_comes 159 = .ok (.aload_n 0, 1) := by decide +kernel
theorem dX7_comes_160 : decode cX7_comes 160 = .ok (.getfield 13, 3) := by decide +kernel
theorem dX7_comes_163 : decode cX7_comes 163 = .ok (.if_icmp .le 6, 3) := by decide +kernel
theorem dX7_comes_166 : decode cX7_comes 166 = .ok (.goto 25, 3) := by decide +kernel
theorem dX7_comes_169 : decode cX7_comes 169 = .ok (.aload_n 0, 1) := by decide +kernel
theorem dX7_comes_170 : decode cX7_comes 170 = .ok (.dup, 1) := by decide +kernel
theorem dX7_comes_171 : decode cX7_comes 171 = .ok (.getfield 205, 3) := by decide +kernel
theorem dX7_comes_174 : decode cX7_comes 174 = .ok (.iconst 1, 1) := by decide +kernel
theorem dX7_comes_175 : decode cX7_comes 175 = .ok (.iload_n 3, 1) := by decide +kernel
theorem dX7_comes_176 : decode cX7_comes 176 = .ok (.ishl, 1) := by decide +kernel
theorem dX7_comes_177 : decode cX7_comes 177 = .ok (.iadd, 1) := by decide +kernel
theorem dX7_comes_178 : decode cX7_comes 178 = .ok (.putfield 205, 3) := by decide +kernel
theorem dX7_comes_181 : decode cX7_comes 181 = .ok (.aload_n 0, 1) := by decide +kernel
theorem dX7_comes_182 : decode cX7_comes 182 = .ok (.dup, 1) := by decide +kernel
theorem dX7_comes_183 : decode cX7_comes 183 = .ok (.getfield 211, 3) := by decide +kernel
theorem dX7_comes_186 : decode cX7_comes 186 = .ok (.iconst 1, 1) := by decide +kernel
theorem dX7_comes_187 : decode cX7_comes 187 = .ok (.iadd, 1) := by decide +kernel
theorem dX7_comes_188 : decode cX7_comes 188 = .ok (.putfield 211, 3) := by decide +kernel
theorem dX7_comes_191 : decode cX7_comes 191 = .ok (.iinc 3 1, 3) := by decide +kernel
theorem dX7_comes_194 : decode cX7_comes 194 = .ok (.goto (-71), 3) := by decide +kernel
theorem dX7_comes_197 : decode cX7_comes 197 = .ok (.return_, 1) := by decide +kernel
theorem dX7_passes_0 : decode cX7_passes 0 = .ok (.aload_n 0, 1) := by decide +kernel
theorem dX7_passes_1 : decode cX7_passes 1 = .ok (.iconst 0, 1) := by decide +kernel
theorem dX7_passes_2 : decode cX7_passes 2 = .ok (.invokevirtual 214, 3) := by decide +kernel
theorem dX7_passes_5 : decode cX7_passes 5 = .ok (.iconst 0, 1) := by decide +kernel
theorem dX7_passes_6 : decode cX7_passes 6 = .ok (.istore_n 1, 1) := by decide +kernel
theorem dX7_passes_7 : decode cX7_passes 7 = .ok (.iload_n 1, 1) := by decide +kernel
theorem dX7_passes_8 : decode cX7_passes 8 = .ok (.aload_n 0, 1) := by decide +kernel
theorem dX7_passes_9 : decode cX7_passes 9 = .ok (.getfield 102, 3) := by decide +kernel
theorem dX7_passes_12 : decode cX7_passes 12 = .ok (.if_icmp .ge 164, 3) := by decide +kernel
theorem dX7_passes_15 : decode cX7_passes 15 = .ok (.aload_n 0, 1) := by decide +kernel
theorem dX7_passes_16 : decode cX7_passes 16 = .ok (.getfield 205, 3) := by decide +kernel
theorem dX7_passes_19 : decode cX7_passes 19 = .ok (.iload_n 1, 1) := by decide +kernel
theorem dX7_passes_20 : decode cX7_passes 20 = .ok (.ishr, 1) := by decide +kernel
theorem dX7_passes_21 : decode cX7_passes 21 = .ok (.iconst 1, 1) := by decide +kernel
theorem dX7_passes_22 : decode cX7_passes 22 = .ok (.iand, 1) := by decide +kernel
theorem dX7_passes_23 : decode cX7_passes 23 = .ok (.iconst 1, 1) := by decide +kernel
theorem dX7_passes_24 : decode cX7_passes 24 = .ok (.if_icmp .ne 71, 3) := by decide +kernel
theorem dX7_passes_27 : decode cX7_passes 27 = .ok (.aload_n 0, 1) := by decide +kernel
theorem dX7_passes_28 : decode cX7_passes 28 = .ok (.getfield 50, 3) := by decide +kernel
theorem dX7_passes_31 : decode cX7_passes 31 = .ok (.iload_n 1, 1) := by decide +kernel
theorem dX7_passes_32 : decode cX7_passes 32 = .ok (.dup2, 1) := by decide +kernel
theorem dX7_passes_33 : decode cX7_passes 33 = .ok (.iaload, 1) := by decide +kernel
theorem dX7_passes_34 : decode cX7_passes 34 = .ok (.iconst 1, 1) := by decide +kernel
theorem dX7_passes_35 : decode cX7_passes 35 = .ok (.iadd, 1) := by decide +kernel
theorem dX7_passes_36 : decode cX7_passes 36 = .ok (.iastore, 1) := by decide +kernel
theorem dX7_passes_37 : decode cX7_passes 37 = .ok (.aload_n 0, 1) := by decide +kernel
theorem dX7_passes_38 : decode cX7_passes 38 = .ok (.getfield 44, 3) := by decide +kernel
theorem dX7_passes_41 : decode cX7_passes 41 = .ok (.iload_n 1, 1) := by decide +kernel
theorem dX7_passes_42 : decode cX7_passes 42 = .ok (.dup2, 1) := by decide +kernel
theorem dX7_passes_43 : decode cX7_passes 43 = .ok (.iaload, 1) := by decide +kernel
theorem dX7_passes_44 : decode cX7_passes 44 = .ok (.aload_n 0, 1) := by decide +kernel
theorem dX7_passes_45 : decode cX7_passes 45 = .ok (.getfield 44, 3) := by decide +kernel
theorem dX7_passes_48 : decode cX7_passes 48 = .ok (.iload_n 1, 1) := by decide +kernel
theorem dX7_passes_49 : decode cX7_passes 49 = .ok (.iaload, 1) := by decide +kernel
theorem dX7_passes_50 : decode cX7_passes 50 = .ok (.ifCond .le 7, 3) := by decide +kernel
theorem dX7_passes_53 : decode cX7_passes 53 = .ok (.iconst 1, 1) := by decide +kernel
theorem dX7_passes_54 : decode cX7_passes 54 = .ok (.goto 4, 3) := by decide +kernel
theorem dX7_passes_57 : decode cX7_passes 57 = .ok (.iconst 0, 1) := by decide +kernel
theorem dX7_passes_58 : decode cX7_passes 58 = .ok (.isub, 1) := by decide +kernel
theorem dX7_passes_59 : decode cX7_passes 59 = .ok (.iastore, 1) := by decide +kernel
theorem dX7_passes_60 : decode cX7_passes 60 = .ok (.aload_n 0, 1) := by decide +kernel
theorem dX7_passes_61 : decode cX7_passes 61 = .ok (.getfield 35, 3) := by decide +kernel
theorem dX7_passes_64 : decode cX7_passes 64 = .ok (.iload_n 1, 1) := by decide +kernel
theorem dX7_passes_65 : decode cX7_passes 65 = .ok (.dup2, 1) := by decide +kernel
theorem dX7_passes_66 : decode cX7_passes 66 = .ok (.iaload, 1) := by decide +kernel
theorem dX7_passes_67 : decode cX7_passes 67 = .ok (.aload_n 0, 1) := by decide +kernel
theorem dX7_passes_68 : decode cX7_passes 68 = .ok (.getfield 35, 3) := by decide +kernel
theorem dX7_passes_71 : decode cX7_passes 71 = .ok (.iload_n 1, 1) := by decide +kernel
theorem dX7_passes_72 : decode cX7_passes 72 = .ok (.iaload, 1) := by decide +kernel
theorem dX7_passes_73 : decode cX7_passes 73 = .ok (.bipush 20, 2) := by decide +kernel
theorem dX7_passes_75 : decode cX7_passes 75 = .ok (.if_icmp .ge 7, 3) := by decide +kernel
theorem dX7_passes_78 : decode cX7_passes 78 = .ok (.iconst 1, 1) := by decide +kernel
theorem dX7_passes_79 : decode cX7_passes 79 = .ok (.goto 4, 3) := by decide +kernel
theorem dX7_passes_82 : decode cX7_passes 82 = .ok (.iconst 0, 1) := by decide +kernel
theorem dX7_passes_83 : decode cX7_passes 83 = .ok (.iadd, 1) := by decide +kernel
theorem dX7_passes_84 : decode cX7_passes 84 = .ok (.iastore, 1) := by decide +kernel
theorem dX7_passes_85 : decode cX7_passes 85 = .ok (.aload_n 0, 1) := by decide +kernel
theorem dX7_passes_86 : decode cX7_passes 86 = .ok (.getfield 47, 3) := by decide +kernel
theorem dX7_passes_89 : decode cX7_passes 89 = .ok (.iload_n 1, 1) := by decide +kernel
theorem dX7_passes_90 : decode cX7_passes 90 = .ok (.iconst 0, 1) := by decide +kernel
theorem dX7_passes_91 : decode cX7_passes 91 = .ok (.iastore, 1) := by decide +kernel
theorem dX7_passes_92 : decode cX7_passes 92 = .ok (.goto 78, 3) := by decide +kernel
theorem dX7_passes_95 : decode cX7_passes 95 = .ok (.aload_n 0, 1) := by decide +kernel
theorem dX7_passes_96 : decode cX7_passes 96 = .ok (.getfield 53, 3) := by decide +kernel
theorem dX7_passes_99 : decode cX7_passes 99 = .ok (.iload_n 1, 1) := by decide +kernel
theorem dX7_passes_100 : decode cX7_passes 100 = .ok (.iaload, 1) := by decide +kernel
theorem dX7_passes_101 : decode cX7_passes 101 = .ok (.ifCond .ne 69, 3) := by decide +kernel
theorem dX7_passes_104 : decode cX7_passes 104 = .ok (.aload_n 0, 1) := by decide +kernel
theorem dX7_passes_105 : decode cX7_passes 105 = .ok (.getfield 44, 3) := by decide +kernel
theorem dX7_passes_108 : decode cX7_passes 108 = .ok (.iload_n 1, 1) := by decide +kernel
theorem dX7_passes_109 : decode cX7_passes 109 = .ok (.dup2, 1) := by decide +kernel
theorem dX7_passes_110 : decode cX7_passes 110 = .ok (.iaload, 1) := by decide +kernel
theorem dX7_passes_111 : decode cX7_passes 111 = .ok (.aload_n 0, 1) := by decide +kernel
theorem dX7_passes_112 : decode cX7_passes 112 = .ok (.getfield 44, 3) := by decide +kernel
theorem dX7_passes_115 : decode cX7_passes 115 = .ok (.iload_n 1, 1) := by decide +kernel
theorem dX7_passes_116 : decode cX7_passes 116 = .ok (.iaload, 1) := by decide +kernel
theorem dX7_passes_117 : decode cX7_passes 117 = .ok (.bipush 9, 2) := by decide +kernel
theorem dX7_passes_119 : decode cX7_passes 119 = .ok (.if_icmp .ge 7, 3) := by decide +kernel
theorem dX7_passes_122 : decode cX7_passes 122 = .ok (.iconst 1, 1) := by decide +kernel
theorem dX7_passes_123 : decode cX7_passes 123 = .ok (.goto 4, 3) := by decide +kernel
theorem dX7_passes_126 : decode cX7_passes 126 = .ok (.iconst 0, 1) := by decide +kernel
theorem dX7_passes_127 : decode cX7_passes 127 = .ok (.iadd, 1) := by decide +kernel
theorem dX7_passes_128 : decode cX7_passes 128 = .ok (.iastore, 1) := by decide +kernel
theorem dX7_passes_129 : decode cX7_passes 129 = .ok (.aload_n 0, 1) := by decide +kernel
theorem dX7_passes_130 : decode cX7_passes 130 = .ok (.getfield 47, 3) := by decide +kernel
theorem dX7_passes_133 : decode cX7_passes 133 = .ok (.iload_n 1, 1) := by decide +kernel
theorem dX7_passes_134 : decode cX7_passes 134 = .ok (.dup2, 1) := by decide +kernel
theorem dX7_passes_135 : decode cX7_passes 135 = .ok (.iaload, 1) := by decide +kernel
theorem dX7_passes_136 : decode cX7_passes 136 = .ok (.iconst 1, 1) := by decide +kernel
theorem dX7_passes_137 : decode cX7_passes 137 = .ok (.iadd, 1) := by decide +kernel
theorem dX7_passes_138 : decode cX7_passes 138 = .ok (.iastore, 1) := by decide +kernel
theorem dX7_passes_139 : decode cX7_passes 139 = .ok (.aload_n 0, 1) := by decide +kernel
theorem dX7_passes_140 : decode cX7_passes 140 = .ok (.getfield 47, 3) := by decide +kernel
theorem dX7_passes_143 : decode cX7_passes 143 = .ok (.iload_n 1, 1) := by decide +kernel
theorem dX7_passes_144 : decode cX7_passes 144 = .ok (.iaload, 1) := by decide +kernel
theorem dX7_passes_145 : decode cX7_passes 145 = .ok (.aload_n 0, 1) := by decide +kernel
theorem dX7_passes_146 : decode cX7_passes 146 = .ok (.getfield 38, 3) := by decide +kernel
theorem dX7_passes_149 : decode cX7_passes 149 = .ok (.iload_n 1, 1) := by decide +kernel
theorem dX7_passes_150 : decode cX7_passes 150 = .ok (.iaload, 1) := by decide +kernel
theorem dX7_passes_151 : decode cX7_passes 151 = .ok (.iconst 1, 1) := by decide +kernel
theorem dX7_passes_152 : decode cX7_passes 152 = .ok (.if_icmp .ne 7, 3) := by decide +kernel
theorem dX7_passes_155 : decode cX7_passes 155 = .ok (.iconst 3, 1) := by decide +kernel
theorem dX7_passes_156 : decode cX7_passes 156 = .ok (.goto 4, 3) := by decide +kernel
theorem dX7_passes_159 : decode cX7_passes 159 = .ok (.iconst 2, 1) := by decide +kernel
theorem dX7_passes_160 : decode cX7_passes 160 = .ok (.if_icmp .lt 10, 3) := by decide +kernel
theorem dX7_passes_163 : decode cX7_passes 163 = .ok (.aload_n 0, 1) := by decide +kernel
theorem dX7_passes_164 : decode cX7_passes 164 = .ok (.getfield 53, 3) := by decide +kernel
theorem dX7_passes_167 : decode cX7_passes 167 = .ok (.iload_n 1, 1) := by decide +kernel
theorem dX7_passes_168 : decode cX7_passes 168 = .ok (.iconst 1, 1) := by decide +kernel
theorem dX7_passes_169 : decode cX7_passes 169 = .ok (.iastore, 1) := by decide +kernel
theorem dX7_passes_170 : decode cX7_passes 170 = .ok (.iinc 1 1, 3) := by decide +kernel
theorem dX7_passes_173 : decode cX7_passes 173 = .ok (.goto (-166), 3) := by decide +kernel
theorem dX7_passes_176 : decode cX7_passes 176 = .ok (.aload_n 0, 1) := by decide +kernel
theorem dX7_passes_177 : decode cX7_passes 177 = .ok (.dup, 1) := by decide +kernel
theorem dX7_passes_178 : decode cX7_passes 178 = .ok (.getfield 183, 3) := by decide +kernel
theorem dX7_passes_181 : decode cX7_passes 181 = .ok (.iconst 1, 1) := by decide +kernel
theorem dX7_passes_182 : decode cX7_passes 182 = .ok (.iadd, 1) := by decide +kernel
theorem dX7_passes_183 : decode cX7_passes 183 = .ok (.putfield 183, 3) := by decide +kernel
theorem dX7_passes_186 : decode cX7_passes 186 = .ok (.return_, 1) := by decide +kernel
theorem dX7_will_0 : decode cX7_will 0 = .ok (.aload_n 0, 1) := by decide +kernel
theorem dX7_will_1 : decode cX7_will 1 = .ok (.iload_n 1, 1) := by decide +kernel
theorem dX7_will_2 : decode cX7_will 2 = .ok (.invokevirtual 113, 3) := by decide +kernel
theorem dX7_will_5 : decode cX7_will 5 = .ok (.ifCond .eq 11, 3) := by decide +kernel
theorem dX7_will_8 : decode cX7_will 8 = .ok (.aload_n 0, 1) := by decide +kernel
theorem dX7_will_9 : decode cX7_will 9 = .ok (.iload_n 1, 1) := by decide +kernel
theorem dX7_will_10 : decode cX7_will 10 = .ok (.invokevirtual 196, 3) := by decide +kernel
theorem dX7_will_13 : decode cX7_will 13 = .ok (.goto 12, 3) := by decide +kernel
theorem dX7_will_16 : decode cX7_will 16 = .ok (.aload_n 0, 1) := by decide +kernel
theorem dX7_will_17 : decode cX7_will 17 = .ok (.iconst (-1), 1) := by decide +kernel
theorem dX7_will_18 : decode cX7_will 18 = .ok (.invokevirtual 109, 3) := by decide +kernel
theorem dX7_will_21 : decode cX7_will 21 = .ok (.sipush 1000, 3) := by decide +kernel
theorem dX7_will_24 : decode cX7_will 24 = .ok (.isub, 1) := by decide +kernel
theorem dX7_will_25 : decode cX7_will 25 = .ok (.ireturn, 1) := by decide +kernel
theorem dX7_tonight_0 : decode cX7_tonight 0 = .ok (.iload_n 1, 1) := by decide +kernel
theorem dX7_tonight_1 : decode cX7_tonight 1 = .ok (.ifCond .lt 8, 3) := by decide +kernel
theorem dX7_tonight_4 : decode cX7_tonight 4 = .ok (.iload_n 1, 1) := by decide +kernel
theorem dX7_tonight_5 : decode cX7_tonight 5 = .ok (.iconst 2, 1) := by decide +kernel
theorem dX7_tonight_6 : decode cX7_tonight 6 = .ok (.if_icmp .le 10, 3) := by decide +kernel
theorem dX7_tonight_9 : decode cX7_tonight 9 = .ok (.aload_n 0, 1) := by decide +kernel
theorem dX7_tonight_10 : decode cX7_tonight 10 = .ok (.bipush (-5), 2) := by decide +kernel
theorem dX7_tonight_12 : decode cX7_tonight 12 = .ok (.invokevirtual 109, 3) := by decide +kernel
theorem dX7_tonight_15 : decode cX7_tonight 15 = .ok (.ireturn, 1) := by decide +kernel
theorem dX7_tonight_16 : decode cX7_tonight 16 = .ok (.aload_n 0, 1) := by decide +kernel
theorem dX7_tonight_17 : decode cX7_tonight 17 = .ok (.iconst 0, 1) := by decide +kernel
theorem dX7_tonight_18 : decode cX7_tonight 18 = .ok (.invokevirtual 214, 3) := by decide +kernel
theorem dX7_tonight_21 : decode cX7_tonight 21 = .ok (.iload_n 1, 1) := by decide +kernel
theorem dX7_tonight_22 : decode cX7_tonight 22 = .ok (.ifCond .ne 10, 3) := by decide +kernel
theorem dX7_tonight_25 : decode cX7_tonight 25 = .ok (.aload_n 0, 1) := by decide +kernel
theorem dX7_tonight_26 : decode cX7_tonight 26 = .ok (.getfield 199, 3) := by decide +kernel
theorem dX7_tonight_29 : decode cX7_tonight 29 = .ok (.goto 24, 3) := by decide +kernel
theorem dX7_tonight_32 : decode cX7_tonight 32 = .ok (.iload_n 1, 1) := by decide +kernel
theorem dX7_tonight_33 : decode cX7_tonight 33 = .ok (.iconst 1, 1) := by decide +kernel
theorem dX7_tonight_34 : decode cX7_tonight 34 = .ok (.if_icmp .ne 10, 3) := by decide +kernel
theorem dX7_tonight_37 : decode cX7_tonight 37 = .ok (.aload_n 0, 1) := by decide +kernel
theorem dX7_tonight_38 : decode cX7_tonight 38 = .ok (.getfield 205, 3) := by decide +kernel
theorem dX7_tonight_41 : decode cX7_tonight 41 = .ok (.goto 12, 3) := by decide +kernel
theorem dX7_tonight_44 : decode cX7_tonight 44 = .ok (.aload_n 0, 1) := by decide +kernel
theorem dX7_tonight_45 : decode cX7_tonight 45 = .ok (.getfield 199, 3) := by decide +kernel
theorem dX7_tonight_48 : decode cX7_tonight 48 = .ok (.aload_n 0, 1) := by decide +kernel
theorem dX7_tonight_49 : decode cX7_tonight 49 = .ok (.getfield 205, 3) := by decide +kernel
theorem dX7_tonight_52 : decode cX7_tonight 52 = .ok (.isub, 1) := by decide +kernel
theorem dX7_tonight_53 : decode cX7_tonight 53 = .ok (.ireturn, 1) := by decide +kernel
theorem dX7_here_0 : decode cX7_here 0 = .ok (.iconst 0, 1) := by decide +kernel
theorem dX7_here_1 : decode cX7_here 1 = .ok (.istore_n 1, 1) := by decide +kernel
theorem dX7_here_2 : decode cX7_here 2 = .ok (.iconst 0, 1) := by decide +kernel
theorem dX7_here_3 : decode cX7_here 3 = .ok (.istore_n 2, 1) := by decide +kernel
theorem dX7_here_4 : decode cX7_here 4 = .ok (.iload_n 2, 1) := by decide +kernel
theorem dX7_here_5 : decode cX7_here 5 = .ok (.aload_n 0, 1) := by decide +kernel
theorem dX7_here_6 : decode cX7_here 6 = .ok (.getfield 102, 3) := by decide +kernel
theorem dX7_here_9 : decode cX7_here 9 = .ok (.if_icmp .ge 20, 3) := by decide +kernel
theorem dX7_here_12 : decode cX7_here 12 = .ok (.iload_n 1, 1) := by decide +kernel
theorem dX7_here_13 : decode cX7_here 13 = .ok (.iconst 1, 1) := by decide +kernel
theorem dX7_here_14 : decode cX7_here 14 = .ok (.aload_n 0, 1) := by decide +kernel
theorem dX7_here_15 : decode cX7_here 15 = .ok (.getfield 53, 3) := by decide +kernel
theorem dX7_here_18 : decode cX7_here 18 = .ok (.iload_n 2, 1) := by decide +kernel
theorem dX7_here_19 : decode cX7_here 19 = .ok (.iaload, 1) := by decide +kernel
theorem dX7_here_20 : decode cX7_here 20 = .ok (.isub, 1) := by decide +kernel
theorem dX7_here_21 : decode cX7_here 21 = .ok (.iadd, 1) := by decide +kernel
theorem dX7_here_22 : decode cX7_here 22 = .ok (.istore_n 1, 1) := by decide +kernel
theorem dX7_here_23 : decode cX7_here 23 = .ok (.iinc 2 1, 3) := by decide +kernel
theorem dX7_here_26 : decode cX7_here 26 = .ok (.goto (-22), 3) := by decide +kernel
theorem dX7_here_29 : decode cX7_here 29 = .ok (.iload_n 1, 1) := by decide +kernel
theorem dX7_here_30 : decode cX7_here 30 = .ok (.ireturn, 1) := by decide +kernel
theorem dX7_runs_0 : decode cX7_runs 0 = .ok (.iconst 0, 1) := by decide +kernel
theorem dX7_runs_1 : decode cX7_runs 1 = .ok (.istore_n 2, 1) := by decide +kernel
theorem dX7_runs_2 : decode cX7_runs 2 = .ok (.aload_n 0, 1) := by decide +kernel
theorem dX7_runs_3 : decode cX7_runs 3 = .ok (.aload_n 0, 1) := by decide +kernel
theorem dX7_runs_4 : decode cX7_runs 4 = .ok (.getfield 93, 3) := by decide +kernel
theorem dX7_runs_7 : decode cX7_runs 7 = .ok (.iconst 0, 1) := by decide +kernel
theorem dX7_runs_8 : decode cX7_runs 8 = .ok (.invokevirtual 189, 3) := by decide +kernel
theorem dX7_runs_11 : decode cX7_runs 11 = .ok (.aload_n 0, 1) := by decide +kernel
theorem dX7_runs_12 : decode cX7_runs 12 = .ok (.iconst 0, 1) := by decide +kernel
theorem dX7_runs_13 : decode cX7_runs 13 = .ok (.putfield 218, 3) := by decide +kernel
theorem dX7_runs_16 : decode cX7_runs 16 = .ok (.aload_n 0, 1) := by decide +kernel
theorem dX7_runs_17 : decode cX7_runs 17 = .ok (.iconst 0, 1) := by decide +kernel
theorem dX7_runs_18 : decode cX7_runs 18 = .ok (.putfield 221, 3) := by decide +kernel
theorem dX7_runs_21 : decode cX7_runs 21 = .ok (.aload_n 0, 1) := by decide +kernel
theorem dX7_runs_22 : decode cX7_runs 22 = .ok (.iconst (-1), 1) := by decide +kernel
theorem dX7_runs_23 : decode cX7_runs 23 = .ok (.putfield 224, 3) := by decide +kernel
theorem dX7_runs_26 : decode cX7_runs 26 = .ok (.aload_n 0, 1) := by decide +kernel
theorem dX7_runs_27 : decode cX7_runs 27 = .ok (.iconst (-1), 1) := by decide +kernel
theorem dX7_runs_28 : decode cX7_runs 28 = .ok (.putfield 227, 3) := by decide +kernel
theorem dX7_runs_31 : decode cX7_runs 31 = .ok (.iconst 0, 1) := by decide +kernel
theorem dX7_runs_32 : decode cX7_runs 32 = .ok (.istore_n 3, 1) := by decide +kernel
theorem dX7_runs_33 : decode cX7_runs 33 = .ok (.iload_n 3, 1) := by decide +kernel
theorem dX7_runs_34 : decode cX7_runs 34 = .ok (.iload_n 1, 1) := by decide +kernel
theorem dX7_runs_35 : decode cX7_runs 35 = .ok (.if_icmp .ge 94, 3) := by decide +kernel
theorem dX7_runs_38 : decode cX7_runs 38 = .ok (.aload_n 0, 1) := by decide +kernel
theorem dX7_runs_39 : decode cX7_runs 39 = .ok (.invokevirtual 230, 3) := by decide +kernel
theorem dX7_runs_42 : decode cX7_runs 42 = .ok (.aload_n 0, 1) := by decide +kernel
theorem dX7_runs_43 : decode cX7_runs 43 = .ok (.dup, 1) := by decide +kernel
theorem dX7_runs_44 : decode cX7_runs 44 = .ok (.getfield 218, 3) := by decide +kernel
theorem dX7_runs_47 : decode cX7_runs 47 = .ok (.aload_n 0, 1) := by decide +kernel
theorem dX7_runs_48 : decode cX7_runs 48 = .ok (.getfield 211, 3) := by decide +kernel
theorem dX7_runs_51 : decode cX7_runs 51 = .ok (.iadd, 1) := by decide +kernel
theorem dX7_runs_52 : decode cX7_runs 52 = .ok (.putfield 218, 3) := by decide +kernel
theorem dX7_runs_55 : decode cX7_runs 55 = .ok (.aload_n 0, 1) := by decide +kernel
theorem dX7_runs_56 : decode cX7_runs 56 = .ok (.dup, 1) := by decide +kernel
theorem dX7_runs_57 : decode cX7_runs 57 = .ok (.getfield 221, 3) := by decide +kernel
theorem dX7_runs_60 : decode cX7_runs 60 = .ok (.aload_n 0, 1) := by decide +kernel
theorem dX7_runs_61 : decode cX7_runs 61 = .ok (.getfield 208, 3) := by decide +kernel
theorem dX7_runs_64 : decode cX7_runs 64 = .ok (.aload_n 0, 1) := by decide +kernel
theorem dX7_runs_65 : decode cX7_runs 65 = .ok (.getfield 211, 3) := by decide +kernel
theorem dX7_runs_68 : decode cX7_runs 68 = .ok (.isub, 1) := by decide +kernel
theorem dX7_runs_69 : decode cX7_runs 69 = .ok (.iadd, 1) := by decide +kernel
theorem dX7_runs_70 : decode cX7_runs 70 = .ok (.putfield 221, 3) := by decide +kernel
theorem dX7_runs_73 : decode cX7_runs 73 = .ok (.aload_n 0, 1) := by decide +kernel
theorem dX7_runs_74 : decode cX7_runs 74 = .ok (.getfield 224, 3) := by decide +kernel
theorem dX7_runs_77 : decode cX7_runs 77 = .ok (.iconst (-1), 1) := by decide +kernel
theorem dX7_runs_78 : decode cX7_runs 78 = .ok (.if_icmp .eq 11, 3) := by decide +kernel
theorem dX7_runs_81 : decode cX7_runs 81 = .ok (.aload_n 0, 1) := by decide +kernel
theorem dX7_runs_82 : decode cX7_runs 82 = .ok (.getfield 211, 3) := by decide +kernel
theorem dX7_runs_85 : decode cX7_runs 85 = .ok (.iload_n 2, 1) := by decide +kernel
theorem dX7_runs_86 : decode cX7_runs 86 = .ok (.if_icmp .ge 13, 3) := by decide +kernel
theorem dX7_runs_89 : decode cX7_runs 89 = .ok (.aload_n 0, 1) := by decide +kernel
theorem dX7_runs_90 : decode cX7_runs 90 = .ok (.iload_n 3, 1) := by decide +kernel
theorem dX7_runs_91 : decode cX7_runs 91 = .ok (.putfield 224, 3) := by decide +kernel
theorem dX7_runs_94 : decode cX7_runs 94 = .ok (.aload_n 0, 1) := by decide +kernel
theorem dX7_runs_95 : decode cX7_runs 95 = .ok (.getfield 211, 3) := by decide +kernel
theorem dX7_runs_98 : decode cX7_runs 98 = .ok (.istore_n 2, 1) := by decide +kernel
theorem dX7_runs_99 : decode cX7_runs 99 = .ok (.aload_n 0, 1) := by decide +kernel
theorem dX7_runs_100 : decode cX7_runs 100 = .ok (.getfield 227, 3) := by decide +kernel
theorem dX7_runs_103 : decode cX7_runs 103 = .ok (.iconst (-1), 1) := by decide +kernel
theorem dX7_runs_104 : decode cX7_runs 104 = .ok (.if_icmp .ne 19, 3) := by decide +kernel
theorem dX7_runs_107 : decode cX7_runs 107 = .ok (.aload_n 0, 1) := by decide +kernel
theorem dX7_runs_108 : decode cX7_runs 108 = .ok (.getfield 211, 3) := by decide +kernel
theorem dX7_runs_111 : decode cX7_runs 111 = .ok (.aload_n 0, 1) := by decide +kernel
theorem dX7_runs_112 : decode cX7_runs 112 = .ok (.getfield 16, 3) := by decide +kernel
theorem dX7_runs_115 : decode cX7_runs 115 = .ok (.if_icmp .ge 8, 3) := by decide +kernel
theorem dX7_runs_118 : decode cX7_runs 118 = .ok (.aload_n 0, 1) := by decide +kernel
theorem dX7_runs_119 : decode cX7_runs 119 = .ok (.iload_n 3, 1) := by decide +kernel
theorem dX7_runs_120 : decode cX7_runs 120 = .ok (.putfield 227, 3) := by decide +kernel
theorem dX7_runs_123 : decode cX7_runs 123 = .ok (.iinc 3 1, 3) := by decide +kernel
theorem dX7_runs_126 : decode cX7_runs 126 = .ok (.goto (-93), 3) := by decide +kernel
theorem dX7_runs_129 : decode cX7_runs 129 = .ok (.aload_n 0, 1) := by decide +kernel
theorem dX7_runs_130 : decode cX7_runs 130 = .ok (.aload_n 0, 1) := by decide +kernel
theorem dX7_runs_131 : decode cX7_runs 131 = .ok (.invokevirtual 233, 3) := by decide +kernel
theorem dX7_runs_134 : decode cX7_runs 134 = .ok (.putfield 236, 3) := by decide +kernel
theorem dX7_runs_137 : decode cX7_runs 137 = .ok (.aload_n 0, 1) := by decide +kernel
theorem dX7_runs_138 : decode cX7_runs 138 = .ok (.iconst 0, 1) := by decide +kernel
theorem dX7_runs_139 : decode cX7_runs 139 = .ok (.putfield 239, 3) := by decide +kernel
theorem dX7_runs_142 : decode cX7_runs 142 = .ok (.iconst 0, 1) := by decide +kernel
theorem dX7_runs_143 : decode cX7_runs 143 = .ok (.istore_n 3, 1) := by decide +kernel
theorem dX7_runs_144 : decode cX7_runs 144 = .ok (.iload_n 3, 1) := by decide +kernel
theorem dX7_runs_145 : decode cX7_runs 145 = .ok (.aload_n 0, 1) := by decide +kernel
theorem dX7_runs_146 : decode cX7_runs 146 = .ok (.getfield 102, 3) := by decide +kernel
theorem dX7_runs_149 : decode cX7_runs 149 = .ok (.if_icmp .ge 31, 3) := by decide +kernel
theorem dX7_runs_152 : decode cX7_runs 152 = .ok (.aload_n 0, 1) := by decide +kernel
theorem dX7_runs_153 : decode cX7_runs 153 = .ok (.getfield 53, 3) := by decide +kernel
theorem dX7_runs_156 : decode cX7_runs 156 = .ok (.iload_n 3, 1) := by decide +kernel
theorem dX7_runs_157 : decode cX7_runs 157 = .ok (.iaload, 1) := by decide +kernel
theorem dX7_runs_158 : decode cX7_runs 158 = .ok (.iconst 1, 1) := by decide +kernel
theorem dX7_runs_159 : decode cX7_runs 159 = .ok (.if_icmp .ne 15, 3) := by decide +kernel
theorem dX7_runs_162 : decode cX7_runs 162 = .ok (.aload_n 0, 1) := by decide +kernel
theorem dX7_runs_163 : decode cX7_runs 163 = .ok (.dup, 1) := by decide +kernel
theorem dX7_runs_164 : decode cX7_runs 164 = .ok (.getfield 239, 3) := by decide +kernel
theorem dX7_runs_167 : decode cX7_runs 167 = .ok (.iconst 1, 1) := by decide +kernel
theorem dX7_runs_168 : decode cX7_runs 168 = .ok (.iload_n 3, 1) := by decide +kernel
theorem dX7_runs_169 : decode cX7_runs 169 = .ok (.ishl, 1) := by decide +kernel
theorem dX7_runs_170 : decode cX7_runs 170 = .ok (.iadd, 1) := by decide +kernel
theorem dX7_runs_171 : decode cX7_runs 171 = .ok (.putfield 239, 3) := by decide +kernel
theorem dX7_runs_174 : decode cX7_runs 174 = .ok (.iinc 3 1, 3) := by decide +kernel
theorem dX7_runs_177 : decode cX7_runs 177 = .ok (.goto (-33), 3) := by decide +kernel
theorem dX7_runs_180 : decode cX7_runs 180 = .ok (.aload_n 0, 1) := by decide +kernel
theorem dX7_runs_181 : decode cX7_runs 181 = .ok (.aload_n 0, 1) := by decide +kernel
theorem dX7_runs_182 : decode cX7_runs 182 = .ok (.getfield 93, 3) := by decide +kernel
theorem dX7_runs_185 : decode cX7_runs 185 = .ok (.iconst 1, 1) := by decide +kernel
theorem dX7_runs_186 : decode cX7_runs 186 = .ok (.invokevirtual 189, 3) := by decide +kernel
theorem dX7_runs_189 : decode cX7_runs 189 = .ok (.return_, 1) := by decide +kernel
theorem dX7_isMany_0 : decode cX7_isMany 0 = .ok (.aload_n 0, 1) := by decide +kernel
theorem dX7_isMany_1 : decode cX7_isMany 1 = .ok (.iload_n 1, 1) := by decide +kernel
theorem dX7_isMany_2 : decode cX7_isMany 2 = .ok (.iconst 0, 1) := by decide +kernel
theorem dX7_isMany_3 : decode cX7_isMany 3 = .ok (.bipush 24, 2) := by decide +kernel
theorem dX7_isMany_5 : decode cX7_isMany 5 = .ok (.invokevirtual 120, 3) := by decide +kernel
theorem dX7_isMany_8 : decode cX7_isMany 8 = .ok (.ireturn, 1) := by decide +kernel
theorem dX7_ahead_0 : decode cX7_ahead 0 = .ok (.iload_n 2, 1) := by decide +kernel
theorem dX7_ahead_1 : decode cX7_ahead 1 = .ok (.ifCond .lt 8, 3) := by decide +kernel
theorem dX7_ahead_4 : decode cX7_ahead 4 = .ok (.iload_n 2, 1) := by decide +kernel
theorem dX7_ahead_5 : decode cX7_ahead 5 = .ok (.iconst 2, 1) := by decide +kernel
theorem dX7_ahead_6 : decode cX7_ahead 6 = .ok (.if_icmp .le 10, 3) := by decide +kernel
theorem dX7_ahead_9 : decode cX7_ahead 9 = .ok (.aload_n 0, 1) := by decide +kernel
theorem dX7_ahead_10 : decode cX7_ahead 10 = .ok (.bipush (-5), 2) := by decide +kernel
theorem dX7_ahead_12 : decode cX7_ahead 12 = .ok (.invokevirtual 109, 3) := by decide +kernel
theorem dX7_ahead_15 : decode cX7_ahead 15 = .ok (.ireturn, 1) := by decide +kernel
theorem dX7_ahead_16 : decode cX7_ahead 16 = .ok (.aload_n 0, 1) := by decide +kernel
theorem dX7_ahead_17 : decode cX7_ahead 17 = .ok (.iload_n 1, 1) := by decide +kernel
theorem dX7_ahead_18 : decode cX7_ahead 18 = .ok (.invokevirtual 242, 3) := by decide +kernel
theorem dX7_ahead_21 : decode cX7_ahead 21 = .ok (.ifCond .ne 10, 3) := by decide +kernel
theorem dX7_ahead_24 : decode cX7_ahead 24 = .ok (.aload_n 0, 1) := by decide +kernel
theorem dX7_ahead_25 : decode cX7_ahead 25 = .ok (.bipush (-6), 2) := by decide +kernel
theorem dX7_ahead_27 : decode cX7_ahead 27 = .ok (.invokevirtual 109, 3) := by decide +kernel
theorem dX7_ahead_30 : decode cX7_ahead 30 = .ok (.ireturn, 1) := by decide +kernel
theorem dX7_ahead_31 : decode cX7_ahead 31 = .ok (.aload_n 0, 1) := by decide +kernel
theorem dX7_ahead_32 : decode cX7_ahead 32 = .ok (.iload_n 1, 1) := by decide +kernel
theorem dX7_ahead_33 : decode cX7_ahead 33 = .ok (.invokevirtual 245, 3) := by decide +kernel
theorem dX7_ahead_36 : decode cX7_ahead 36 = .ok (.iload_n 2, 1) := by decide +kernel
theorem dX7_ahead_37 : decode cX7_ahead 37 = .ok (.ifCond .ne 10, 3) := by decide +kernel
theorem dX7_ahead_40 : decode cX7_ahead 40 = .ok (.aload_n 0, 1) := by decide +kernel
theorem dX7_ahead_41 : decode cX7_ahead 41 = .ok (.getfield 236, 3) := by decide +kernel
theorem dX7_ahead_44 : decode cX7_ahead 44 = .ok (.goto 19, 3) := by decide +kernel
theorem dX7_ahead_47 : decode cX7_ahead 47 = .ok (.iload_n 2, 1) := by decide +kernel
theorem dX7_ahead_48 : decode cX7_ahead 48 = .ok (.iconst 1, 1) := by decide +kernel
theorem dX7_ahead_49 : decode cX7_ahead 49 = .ok (.if_icmp .ne 10, 3) := by decide +kernel
theorem dX7_ahead_52 : decode cX7_ahead 52 = .ok (.aload_n 0, 1) := by decide +kernel
theorem dX7_ahead_53 : decode cX7_ahead 53 = .ok (.getfield 218, 3) := by decide +kernel
theorem dX7_ahead_56 : decode cX7_ahead 56 = .ok (.goto 7, 3) := by decide +kernel
theorem dX7_ahead_59 : decode cX7_ahead 59 = .ok (.aload_n 0, 1) := by decide +kernel
theorem dX7_ahead_60 : decode cX7_ahead 60 = .ok (.getfield 221, 3) := by decide +kernel
theorem dX7_ahead_63 : decode cX7_ahead 63 = .ok (.ireturn, 1) := by decide +kernel
theorem dX7_worst_0 : decode cX7_worst 0 = .ok (.iload_n 2, 1) := by decide +kernel
theorem dX7_worst_1 : decode cX7_worst 1 = .ok (.ifCond .lt 8, 3) := by decide +kernel
theorem dX7_worst_4 : decode cX7_worst 4 = .ok (.iload_n 2, 1) := by decide +kernel
theorem dX7_worst_5 : decode cX7_worst 5 = .ok (.iconst 1, 1) := by decide +kernel
theorem dX7_worst_6 : decode cX7_worst 6 = .ok (.if_icmp .le 10, 3) := by decide +kernel
theorem dX7_worst_9 : decode cX7_worst 9 = .ok (.aload_n 0, 1) := by decide +kernel
theorem dX7_worst_10 : decode cX7_worst 10 = .ok (.bipush (-5), 2) := by decide +kernel
theorem dX7_worst_12 : decode cX7_worst 12 = .ok (.invokevirtual 128, 3) := by decide +kernel
theorem dX7_worst_15 : decode cX7_worst 15 = .ok (.ireturn, 1) := by decide +kernel
theorem dX7_worst_16 : decode cX7_worst 16 = .ok (.aload_n 0, 1) := by decide +kernel
theorem dX7_worst_17 : decode cX7_worst 17 = .ok (.iload_n 1, 1) := by decide +kernel
theorem dX7_worst_18 : decode cX7_worst 18 = .ok (.iconst 1, 1) := by decide +kernel
theorem dX7_worst_19 : decode cX7_worst 19 = .ok (.bipush 24, 2) := by decide +kernel
theorem dX7_worst_21 : decode cX7_worst 21 = .ok (.invokevirtual 120, 3) := by decide +kernel
theorem dX7_worst_24 : decode cX7_worst 24 = .ok (.ifCond .ne 10, 3) := by decide +kernel
theorem dX7_worst_27 : decode cX7_worst 27 = .ok (.aload_n 0, 1) := by decide +kernel
theorem dX7_worst_28 : decode cX7_worst 28 = .ok (.bipush (-6), 2) := by decide +kernel
theorem dX7_worst_30 : decode cX7_worst 30 = .ok (.invokevirtual 128, 3) := by decide +kernel
theorem dX7_worst_33 : decode cX7_worst 33 = .ok (.ireturn, 1) := by decide +kernel
theorem dX7_worst_34 : decode cX7_worst 34 = .ok (.aload_n 0, 1) := by decide +kernel
theorem dX7_worst_35 : decode cX7_worst 35 = .ok (.iload_n 1, 1) := by decide +kernel
theorem dX7_worst_36 : decode cX7_worst 36 = .ok (.invokevirtual 245, 3) := by decide +kernel
theorem dX7_worst_39 : decode cX7_worst 39 = .ok (.iload_n 2, 1) := by decide +kernel
theorem dX7_worst_40 : decode cX7_worst 40 = .ok (.ifCond .ne 10, 3) := by decide +kernel
theorem dX7_worst_43 : decode cX7_worst 43 = .ok (.aload_n 0, 1) := by decide +kernel
theorem dX7_worst_44 : decode cX7_worst 44 = .ok (.getfield 224, 3) := by decide +kernel
theorem dX7_worst_47 : decode cX7_worst 47 = .ok (.goto 7, 3) := by decide +kernel
theorem dX7_worst_50 : decode cX7_worst 50 = .ok (.aload_n 0, 1) := by decide +kernel
theorem dX7_worst_51 : decode cX7_worst 51 = .ok (.getfield 227, 3) := by decide +kernel
theorem dX7_worst_54 : decode cX7_worst 54 = .ok (.ireturn, 1) := by decide +kernel
theorem dX7_ones_0 : decode cX7_ones 0 = .ok (.aload_n 0, 1) := by decide +kernel
theorem dX7_ones_1 : decode cX7_ones 1 = .ok (.iload_n 1, 1) := by decide +kernel
theorem dX7_ones_2 : decode cX7_ones 2 = .ok (.invokevirtual 113, 3) := by decide +kernel
theorem dX7_ones_5 : decode cX7_ones 5 = .ok (.ifCond .ne 9, 3) := by decide +kernel
theorem dX7_ones_8 : decode cX7_ones 8 = .ok (.aload_n 0, 1) := by decide +kernel
theorem dX7_ones_9 : decode cX7_ones 9 = .ok (.iconst (-1), 1) := by decide +kernel
theorem dX7_ones_10 : decode cX7_ones 10 = .ok (.invokevirtual 109, 3) := by decide +kernel
theorem dX7_ones_13 : decode cX7_ones 13 = .ok (.ireturn, 1) := by decide +kernel
theorem dX7_ones_14 : decode cX7_ones 14 = .ok (.iload_n 3, 1) := by decide +kernel
theorem dX7_ones_15 : decode cX7_ones 15 = .ok (.ifCond .lt 8, 3) := by decide +kernel
theorem dX7_ones_18 : decode cX7_ones 18 = .ok (.iload_n 3, 1) := by decide +kernel
theorem dX7_ones_19 : decode cX7_ones 19 = .ok (.iconst 1, 1) := by decide +kernel
theorem dX7_ones_20 : decode cX7_ones 20 = .ok (.if_icmp .le 10, 3) := by decide +kernel
theorem dX7_ones_23 : decode cX7_ones 23 = .ok (.aload_n 0, 1) := by decide +kernel
theorem dX7_ones_24 : decode cX7_ones 24 = .ok (.bipush (-5), 2) := by decide +kernel
theorem dX7_ones_26 : decode cX7_ones 26 = .ok (.invokevirtual 109, 3) := by decide +kernel
theorem dX7_ones_29 : decode cX7_ones 29 = .ok (.ireturn, 1) := by decide +kernel
theorem dX7_ones_30 : decode cX7_ones 30 = .ok (.aload_n 0, 1) := by decide +kernel
theorem dX7_ones_31 : decode cX7_ones 31 = .ok (.iload_n 2, 1) := by decide +kernel
theorem dX7_ones_32 : decode cX7_ones 32 = .ok (.invokevirtual 242, 3) := by decide +kernel
theorem dX7_ones_35 : decode cX7_ones 35 = .ok (.ifCond .ne 10, 3) := by decide +kernel
theorem dX7_ones_38 : decode cX7_ones 38 = .ok (.aload_n 0, 1) := by decide +kernel
theorem dX7_ones_39 : decode cX7_ones 39 = .ok (.bipush (-6), 2) := by decide +kernel
theorem dX7_ones_41 : decode cX7_ones 41 = .ok (.invokevirtual 109, 3) := by decide +kernel
theorem dX7_ones_44 : decode cX7_ones 44 = .ok (.ireturn, 1) := by decide +kernel
theorem dX7_ones_45 : decode cX7_ones 45 = .ok (.aload_n 0, 1) := by decide +kernel
theorem dX7_ones_46 : decode cX7_ones 46 = .ok (.aload_n 0, 1) := by decide +kernel
theorem dX7_ones_47 : decode cX7_ones 47 = .ok (.getfield 93, 3) := by decide +kernel
theorem dX7_ones_50 : decode cX7_ones 50 = .ok (.iconst 0, 1) := by decide +kernel
theorem dX7_ones_51 : decode cX7_ones 51 = .ok (.invokevirtual 189, 3) := by decide +kernel
theorem dX7_ones_54 : decode cX7_ones 54 = .ok (.iconst 0, 1) := by decide +kernel
theorem dX7_ones_55 : decode cX7_ones 55 = .ok (.istore 4, 2) := by decide +kernel
theorem dX7_ones_57 : decode cX7_ones 57 = .ok (.iload 4, 2) := by decide +kernel
theorem dX7_ones_59 : decode cX7_ones 59 = .ok (.iload_n 2, 1) := by decide +kernel
theorem dX7_ones_60 : decode cX7_ones 60 = .ok (.if_icmp .ge 13, 3) := by decide +kernel
theorem dX7_ones_63 : decode cX7_ones 63 = .ok (.aload_n 0, 1) := by decide +kernel
theorem dX7_ones_64 : decode cX7_ones 64 = .ok (.invokevirtual 230, 3) := by decide +kernel
theorem dX7_ones_67 : decode cX7_ones 67 = .ok (.iinc 4 1, 3) := by decide +kernel
theorem dX7_ones_70 : decode cX7_ones 70 = .ok (.goto (-13), 3) := by decide +kernel
theorem dX7_ones_73 : decode cX7_ones 73 = .ok (.iload_n 3, 1) := by decide +kernel
theorem dX7_ones_74 : decode cX7_ones 74 = .ok (.ifCond .ne 12, 3) := by decide +kernel
theorem dX7_ones_77 : decode cX7_ones 77 = .ok (.aload_n 0, 1) := by decide +kernel
theorem dX7_ones_78 : decode cX7_ones 78 = .ok (.getfield 50, 3) := by decide +kernel
theorem dX7_ones_81 : decode cX7_ones 81 = .ok (.iload_n 1, 1) := by decide +kernel
theorem dX7_ones_82 : decode cX7_ones 82 = .ok (.iaload, 1) := by decide +kernel
theorem dX7_ones_83 : decode cX7_ones 83 = .ok (.goto 9, 3) := by decide +kernel
theorem dX7_ones_86 : decode cX7_ones 86 = .ok (.aload_n 0, 1) := by decide +kernel
theorem dX7_ones_87 : decode cX7_ones 87 = .ok (.getfield 35, 3) := by decide +kernel
theorem dX7_ones_90 : decode cX7_ones 90 = .ok (.iload_n 1, 1) := by decide +kernel
theorem dX7_ones_91 : decode cX7_ones 91 = .ok (.iaload, 1) := by decide +kernel
theorem dX7_ones_92 : decode cX7_ones 92 = .ok (.istore 4, 2) := by decide +kernel
theorem dX7_ones_94 : decode cX7_ones 94 = .ok (.aload_n 0, 1) := by decide +kernel
theorem dX7_ones_95 : decode cX7_ones 95 = .ok (.aload_n 0, 1) := by decide +kernel
theorem dX7_ones_96 : decode cX7_ones 96 = .ok (.getfield 93, 3) := by decide +kernel
theorem dX7_ones_99 : decode cX7_ones 99 = .ok (.iconst 1, 1) := by decide +kernel
theorem dX7_ones_100 : decode cX7_ones 100 = .ok (.invokevirtual 189, 3) := by decide +kernel
theorem dX7_ones_103 : decode cX7_ones 103 = .ok (.iload 4, 2) := by decide +kernel
theorem dX7_ones_105 : decode cX7_ones 105 = .ok (.ireturn, 1) := by decide +kernel
theorem dX7_lost_0 : decode cX7_lost 0 = .ok (.aload_n 0, 1) := by decide +kernel
theorem dX7_lost_1 : decode cX7_lost 1 = .ok (.iload_n 1, 1) := by decide +kernel
theorem dX7_lost_2 : decode cX7_lost 2 = .ok (.invokevirtual 242, 3) := by decide +kernel
theorem dX7_lost_5 : decode cX7_lost 5 = .ok (.ifCond .ne 10, 3) := by decide +kernel
theorem dX7_lost_8 : decode cX7_lost 8 = .ok (.aload_n 0, 1) := by decide +kernel
theorem dX7_lost_9 : decode cX7_lost 9 = .ok (.bipush (-6), 2) := by decide +kernel
theorem dX7_lost_11 : decode cX7_lost 11 = .ok (.invokevirtual 109, 3) := by decide +kernel
theorem dX7_lost_14 : decode cX7_lost 14 = .ok (.ireturn, 1) := by decide +kernel
theorem dX7_lost_15 : decode cX7_lost 15 = .ok (.aload_n 0, 1) := by decide +kernel
theorem dX7_lost_16 : decode cX7_lost 16 = .ok (.iload_n 1, 1) := by decide +kernel
theorem dX7_lost_17 : decode cX7_lost 17 = .ok (.invokevirtual 245, 3) := by decide +kernel
theorem dX7_lost_20 : decode cX7_lost 20 = .ok (.iconst 0, 1) := by decide +kernel
theorem dX7_lost_21 : decode cX7_lost 21 = .ok (.istore_n 2, 1) := by decide +kernel
theorem dX7_lost_22 : decode cX7_lost 22 = .ok (.iconst 0, 1) := by decide +kernel
theorem dX7_lost_23 : decode cX7_lost 23 = .ok (.istore_n 3, 1) := by decide +kernel
theorem dX7_lost_24 : decode cX7_lost 24 = .ok (.iload_n 3, 1) := by decide +kernel
theorem dX7_lost_25 : decode cX7_lost 25 = .ok (.aload_n 0, 1) := by decide +kernel
theorem dX7_lost_26 : decode cX7_lost 26 = .ok (.getfield 102, 3) := by decide +kernel
theorem dX7_lost_29 : decode cX7_lost 29 = .ok (.if_icmp .ge 29, 3) := by decide +kernel
theorem dX7_lost_32 : decode cX7_lost 32 = .ok (.aload_n 0, 1) := by decide +kernel
theorem dX7_lost_33 : decode cX7_lost 33 = .ok (.getfield 53, 3) := by decide +kernel
theorem dX7_lost_36 : decode cX7_lost 36 = .ok (.iload_n 3, 1) := by decide +kernel
theorem dX7_lost_37 : decode cX7_lost 37 = .ok (.iaload, 1) := by decide +kernel
theorem dX7_lost_38 : decode cX7_lost 38 = .ok (.ifCond .ne 14, 3) := by decide +kernel
theorem dX7_lost_41 : decode cX7_lost 41 = .ok (.iload_n 2, 1) := by decide +kernel
theorem dX7_lost_42 : decode cX7_lost 42 = .ok (.aload_n 0, 1) := by decide +kernel
theorem dX7_lost_43 : decode cX7_lost 43 = .ok (.getfield 239, 3) := by decide +kernel
theorem dX7_lost_46 : decode cX7_lost 46 = .ok (.iconst 1, 1) := by decide +kernel
theorem dX7_lost_47 : decode cX7_lost 47 = .ok (.iload_n 3, 1) := by decide +kernel
theorem dX7_lost_48 : decode cX7_lost 48 = .ok (.ishl, 1) := by decide +kernel
theorem dX7_lost_49 : decode cX7_lost 49 = .ok (.iand, 1) := by decide +kernel
theorem dX7_lost_50 : decode cX7_lost 50 = .ok (.iadd, 1) := by decide +kernel
theorem dX7_lost_51 : decode cX7_lost 51 = .ok (.istore_n 2, 1) := by decide +kernel
theorem dX7_lost_52 : decode cX7_lost 52 = .ok (.iinc 3 1, 3) := by decide +kernel
theorem dX7_lost_55 : decode cX7_lost 55 = .ok (.goto (-31), 3) := by decide +kernel
theorem dX7_lost_58 : decode cX7_lost 58 = .ok (.iload_n 2, 1) := by decide +kernel
theorem dX7_lost_59 : decode cX7_lost 59 = .ok (.ireturn, 1) := by decide +kernel
theorem dX7_bits_0 : decode cX7_bits 0 = .ok (.iconst 0, 1) := by decide +kernel
theorem dX7_bits_1 : decode cX7_bits 1 = .ok (.istore_n 2, 1) := by decide +kernel
theorem dX7_bits_2 : decode cX7_bits 2 = .ok (.iconst 0, 1) := by decide +kernel
theorem dX7_bits_3 : decode cX7_bits 3 = .ok (.istore_n 3, 1) := by decide +kernel
theorem dX7_bits_4 : decode cX7_bits 4 = .ok (.iload_n 3, 1) := by decide +kernel
theorem dX7_bits_5 : decode cX7_bits 5 = .ok (.bipush 10, 2) := by decide +kernel
theorem dX7_bits_7 : decode cX7_bits 7 = .ok (.if_icmp .ge 17, 3) := by decide +kernel
theorem dX7_bits_10 : decode cX7_bits 10 = .ok (.iload_n 2, 1) := by decide +kernel
theorem dX7_bits_11 : decode cX7_bits 11 = .ok (.iload_n 1, 1) := by decide +kernel
theorem dX7_bits_12 : decode cX7_bits 12 = .ok (.iload_n 3, 1) := by decide +kernel
theorem dX7_bits_13 : decode cX7_bits 13 = .ok (.ishr, 1) := by decide +kernel
theorem dX7_bits_14 : decode cX7_bits 14 = .ok (.iconst 1, 1) := by decide +kernel
theorem dX7_bits_15 : decode cX7_bits 15 = .ok (.iand, 1) := by decide +kernel
theorem dX7_bits_16 : decode cX7_bits 16 = .ok (.iadd, 1) := by decide +kernel
theorem dX7_bits_17 : decode cX7_bits 17 = .ok (.istore_n 2, 1) := by decide +kernel
theorem dX7_bits_18 : decode cX7_bits 18 = .ok (.iinc 3 1, 3) := by decide +kernel
theorem dX7_bits_21 : decode cX7_bits 21 = .ok (.goto (-17), 3) := by decide +kernel
theorem dX7_bits_24 : decode cX7_bits 24 = .ok (.iload_n 2, 1) := by decide +kernel
theorem dX7_bits_25 : decode cX7_bits 25 = .ok (.ireturn, 1) := by decide +kernel
theorem dX7_ring_0 : decode cX7_ring 0 = .ok (.iload_n 2, 1) := by decide +kernel
theorem dX7_ring_1 : decode cX7_ring 1 = .ok (.ifCond .lt 8, 3) := by decide +kernel
theorem dX7_ring_4 : decode cX7_ring 4 = .ok (.iload_n 2, 1) := by decide +kernel
theorem dX7_ring_5 : decode cX7_ring 5 = .ok (.iconst 1, 1) := by decide +kernel
theorem dX7_ring_6 : decode cX7_ring 6 = .ok (.if_icmp .le 10, 3) := by decide +kernel
theorem dX7_ring_9 : decode cX7_ring 9 = .ok (.aload_n 0, 1) := by decide +kernel
theorem dX7_ring_10 : decode cX7_ring 10 = .ok (.bipush (-5), 2) := by decide +kernel
theorem dX7_ring_12 : decode cX7_ring 12 = .ok (.invokevirtual 128, 3) := by decide +kernel
theorem dX7_ring_15 : decode cX7_ring 15 = .ok (.ireturn, 1) := by decide +kernel
theorem dX7_ring_16 : decode cX7_ring 16 = .ok (.aload_n 0, 1) := by decide +kernel
theorem dX7_ring_17 : decode cX7_ring 17 = .ok (.iload_n 1, 1) := by decide +kernel
theorem dX7_ring_18 : decode cX7_ring 18 = .ok (.iconst 0, 1) := by decide +kernel
theorem dX7_ring_19 : decode cX7_ring 19 = .ok (.iconst 3, 1) := by decide +kernel
theorem dX7_ring_20 : decode cX7_ring 20 = .ok (.invokevirtual 120, 3) := by decide +kernel
theorem dX7_ring_23 : decode cX7_ring 23 = .ok (.ifCond .ne 10, 3) := by decide +kernel
theorem dX7_ring_26 : decode cX7_ring 26 = .ok (.aload_n 0, 1) := by decide +kernel
theorem dX7_ring_27 : decode cX7_ring 27 = .ok (.bipush (-6), 2) := by decide +kernel
theorem dX7_ring_29 : decode cX7_ring 29 = .ok (.invokevirtual 128, 3) := by decide +kernel
theorem dX7_ring_32 : decode cX7_ring 32 = .ok (.ireturn, 1) := by decide +kernel
theorem dX7_ring_33 : decode cX7_ring 33 = .ok (.iconst (-1), 1) := by decide +kernel
theorem dX7_ring_34 : decode cX7_ring 34 = .ok (.istore_n 3, 1) := by decide +kernel
theorem dX7_ring_35 : decode cX7_ring 35 = .ok (.iconst (-1), 1) := by decide +kernel
theorem dX7_ring_36 : decode cX7_ring 36 = .ok (.istore 4, 2) := by decide +kernel
theorem dX7_ring_38 : decode cX7_ring 38 = .ok (.iconst 0, 1) := by decide +kernel
theorem dX7_ring_39 : decode cX7_ring 39 = .ok (.istore 5, 2) := by decide +kernel
theorem dX7_ring_41 : decode cX7_ring 41 = .ok (.iconst 0, 1) := by decide +kernel
theorem dX7_ring_42 : decode cX7_ring 42 = .ok (.istore 6, 2) := by decide +kernel
theorem dX7_ring_44 : decode cX7_ring 44 = .ok (.iload 6, 2) := by decide +kernel
theorem dX7_ring_46 : decode cX7_ring 46 = .ok (.aload_n 0, 1) := by decide +kernel
theorem dX7_ring_47 : decode cX7_ring 47 = .ok (.getfield 102, 3) := by decide +kernel
theorem dX7_ring_50 : decode cX7_ring 50 = .ok (.if_icmp .ge 28, 3) := by decide +kernel
theorem dX7_ring_53 : decode cX7_ring 53 = .ok (.aload_n 0, 1) := by decide +kernel
theorem dX7_ring_54 : decode cX7_ring 54 = .ok (.getfield 53, 3) := by decide +kernel
theorem dX7_ring_57 : decode cX7_ring 57 = .ok (.iload 6, 2) := by decide +kernel
theorem dX7_ring_59 : decode cX7_ring 59 = .ok (.iaload, 1) := by decide +kernel
theorem dX7_ring_60 : decode cX7_ring 60 = .ok (.ifCond .ne 12, 3) := by decide +kernel
theorem dX7_ring_63 : decode cX7_ring 63 = .ok (.iload 5, 2) := by decide +kernel
theorem dX7_ring_65 : decode cX7_ring 65 = .ok (.iconst 1, 1) := by decide +kernel
theorem dX7_ring_66 : decode cX7_ring 66 = .ok (.iload 6, 2) := by decide +kernel
theorem dX7_ring_68 : decode cX7_ring 68 = .ok (.ishl, 1) := by decide +kernel
theorem dX7_ring_69 : decode cX7_ring 69 = .ok (.iadd, 1) := by decide +kernel
theorem dX7_ring_70 : decode cX7_ring 70 = .ok (.istore 5, 2) := by decide +kernel
theorem dX7_ring_72 : decode cX7_ring 72 = .ok (.iinc 6 1, 3) := by decide +kernel
theorem dX7_ring_75 : decode cX7_ring 75 = .ok (.goto (-31), 3) := by decide +kernel
theorem dX7_ring_78 : decode cX7_ring 78 = .ok (.iconst 0, 1) := by decide +kernel
theorem dX7_ring_79 : decode cX7_ring 79 = .ok (.istore 6, 2) := by decide +kernel
theorem dX7_ring_81 : decode cX7_ring 81 = .ok (.iload 6, 2) := by decide +kernel
theorem dX7_ring_83 : decode cX7_ring 83 = .ok (.iconst 1, 1) := by decide +kernel
theorem dX7_ring_84 : decode cX7_ring 84 = .ok (.aload_n 0, 1) := by decide +kernel
theorem dX7_ring_85 : decode cX7_ring 85 = .ok (.getfield 102, 3) := by decide +kernel
theorem dX7_ring_88 : decode cX7_ring 88 = .ok (.ishl, 1) := by decide +kernel
theorem dX7_ring_89 : decode cX7_ring 89 = .ok (.if_icmp .ge 59, 3) := by decide +kernel
theorem dX7_ring_92 : decode cX7_ring 92 = .ok (.aload_n 0, 1) := by decide +kernel
theorem dX7_ring_93 : decode cX7_ring 93 = .ok (.iload 6, 2) := by decide +kernel
theorem dX7_ring_95 : decode cX7_ring 95 = .ok (.invokevirtual 248, 3) := by decide +kernel
theorem dX7_ring_98 : decode cX7_ring 98 = .ok (.iload_n 1, 1) := by decide +kernel
theorem dX7_ring_99 : decode cX7_ring 99 = .ok (.if_icmp .ne 43, 3) := by decide +kernel
theorem dX7_ring_102 : decode cX7_ring 102 = .ok (.iload 6, 2) := by decide +kernel
theorem dX7_ring_104 : decode cX7_ring 104 = .ok (.iload 5, 2) := by decide +kernel
theorem dX7_ring_106 : decode cX7_ring 106 = .ok (.iand, 1) := by decide +kernel
theorem dX7_ring_107 : decode cX7_ring 107 = .ok (.iload 6, 2) := by decide +kernel
theorem dX7_ring_109 : decode cX7_ring 109 = .ok (.if_icmp .eq 6, 3) := by decide +kernel
theorem dX7_ring_112 : decode cX7_ring 112 = .ok (.goto 30, 3) := by decide +kernel
theorem dX7_ring_115 : decode cX7_ring 115 = .ok (.aload_n 0, 1) := by decide +kernel
theorem dX7_ring_116 : decode cX7_ring 116 = .ok (.iload 6, 2) := by decide +kernel
theorem dX7_ring_118 : decode cX7_ring 118 = .ok (.invokevirtual 214, 3) := by decide +kernel
theorem dX7_ring_121 : decode cX7_ring 121 = .ok (.aload_n 0, 1) := by decide +kernel
theorem dX7_ring_122 : decode cX7_ring 122 = .ok (.getfield 211, 3) := by decide +kernel
theorem dX7_ring_125 : decode cX7_ring 125 = .ok (.iload 4, 2) := by decide +kernel
theorem dX7_ring_127 : decode cX7_ring 127 = .ok (.if_icmp .gt 6, 3) := by decide +kernel
theorem dX7_ring_130 : decode cX7_ring 130 = .ok (.goto 12, 3) := by decide +kernel
theorem dX7_ring_133 : decode cX7_ring 133 = .ok (.iload 6, 2) := by decide +kernel
theorem dX7_ring_135 : decode cX7_ring 135 = .ok (.istore_n 3, 1) := by decide +kernel
theorem dX7_ring_136 : decode cX7_ring 136 = .ok (.aload_n 0, 1) := by decide +kernel
theorem dX7_ring_137 : decode cX7_ring 137 = .ok (.getfield 211, 3) := by decide +kernel
theorem dX7_ring_140 : decode cX7_ring 140 = .ok (.istore 4, 2) := by decide +kernel
theorem dX7_ring_142 : decode cX7_ring 142 = .ok (.iinc 6 1, 3) := by decide +kernel
theorem dX7_ring_145 : decode cX7_ring 145 = .ok (.goto (-64), 3) := by decide +kernel
theorem dX7_ring_148 : decode cX7_ring 148 = .ok (.iload_n 2, 1) := by decide +kernel
theorem dX7_ring_149 : decode cX7_ring 149 = .ok (.ifCond .ne 7, 3) := by decide +kernel
theorem dX7_ring_152 : decode cX7_ring 152 = .ok (.iload_n 3, 1) := by decide +kernel
theorem dX7_ring_153 : decode cX7_ring 153 = .ok (.goto 5, 3) := by decide +kernel
theorem dX7_ring_156 : decode cX7_ring 156 = .ok (.iload 4, 2) := by decide +kernel
theorem dX7_ring_158 : decode cX7_ring 158 = .ok (.ireturn, 1) := by decide +kernel
theorem dX7_begin_0 : decode cX7_begin 0 = .ok (.aload_n 0, 1) := by decide +kernel
theorem dX7_begin_1 : decode cX7_begin 1 = .ok (.iload_n 1, 1) := by decide +kernel
theorem dX7_begin_2 : decode cX7_begin 2 = .ok (.invokevirtual 242, 3) := by decide +kernel
theorem dX7_begin_5 : decode cX7_begin 5 = .ok (.ifCond .ne 10, 3) := by decide +kernel
theorem dX7_begin_8 : decode cX7_begin 8 = .ok (.aload_n 0, 1) := by decide +kernel
theorem dX7_begin_9 : decode cX7_begin 9 = .ok (.bipush (-6), 2) := by decide +kernel
theorem dX7_begin_11 : decode cX7_begin 11 = .ok (.invokevirtual 109, 3) := by decide +kernel
theorem dX7_begin_14 : decode cX7_begin 14 = .ok (.ireturn, 1) := by decide +kernel
theorem dX7_begin_15 : decode cX7_begin 15 = .ok (.aload_n 0, 1) := by decide +kernel
theorem dX7_begin_16 : decode cX7_begin 16 = .ok (.getfield 7, 3) := by decide +kernel
theorem dX7_begin_19 : decode cX7_begin 19 = .ok (.istore_n 2, 1) := by decide +kernel
theorem dX7_begin_20 : decode cX7_begin 20 = .ok (.iconst 0, 1) := by decide +kernel
theorem dX7_begin_21 : decode cX7_begin 21 = .ok (.istore_n 3, 1) := by decide +kernel
theorem dX7_begin_22 : decode cX7_begin 22 = .ok (.iconst (-1), 1) := by decide +kernel
theorem dX7_begin_23 : decode cX7_begin 23 = .ok (.istore 4, 2) := by decide +kernel
theorem dX7_begin_25 : decode cX7_begin 25 = .ok (.iconst 0, 1) := by decide +kernel
theorem dX7_begin_26 : decode cX7_begin 26 = .ok (.istore 5, 2) := by decide +kernel
theorem dX7_begin_28 : decode cX7_begin 28 = .ok (.iload 5, 2) := by decide +kernel
theorem dX7_begin_30 : decode cX7_begin 30 = .ok (.bipush 20, 2) := by decide +kernel
theorem dX7_begin_32 : decode cX7_begin 32 = .ok (.if_icmp .gt 41, 3) := by decide +kernel
theorem dX7_begin_35 : decode cX7_begin 35 = .ok (.aload_n 0, 1) := by decide +kernel
theorem dX7_begin_36 : decode cX7_begin 36 = .ok (.iload 5, 2) := by decide +kernel
theorem dX7_begin_38 : decode cX7_begin 38 = .ok (.putfield 7, 3) := by decide +kernel
theorem dX7_begin_41 : decode cX7_begin 41 = .ok (.aload_n 0, 1) := by decide +kernel
theorem dX7_begin_42 : decode cX7_begin 42 = .ok (.iload_n 1, 1) := by decide +kernel
theorem dX7_begin_43 : decode cX7_begin 43 = .ok (.invokevirtual 245, 3) := by decide +kernel
theorem dX7_begin_46 : decode cX7_begin 46 = .ok (.aload_n 0, 1) := by decide +kernel
theorem dX7_begin_47 : decode cX7_begin 47 = .ok (.getfield 218, 3) := by decide +kernel
theorem dX7_begin_50 : decode cX7_begin 50 = .ok (.iload 4, 2) := by decide +kernel
theorem dX7_begin_52 : decode cX7_begin 52 = .ok (.if_icmp .gt 6, 3) := by decide +kernel
theorem dX7_begin_55 : decode cX7_begin 55 = .ok (.goto 12, 3) := by decide +kernel
theorem dX7_begin_58 : decode cX7_begin 58 = .ok (.iload 5, 2) := by decide +kernel
theorem dX7_begin_60 : decode cX7_begin 60 = .ok (.istore_n 3, 1) := by decide +kernel
theorem dX7_begin_61 : decode cX7_begin 61 = .ok (.aload_n 0, 1) := by decide +kernel
theorem dX7_begin_62 : decode cX7_begin 62 = .ok (.getfield 218, 3) := by decide +kernel
theorem dX7_begin_65 : decode cX7_begin 65 = .ok (.istore 4, 2) := by decide +kernel
theorem dX7_begin_67 : decode cX7_begin 67 = .ok (.iinc 5 1, 3) := by decide +kernel
theorem dX7_begin_70 : decode cX7_begin 70 = .ok (.goto (-42), 3) := by decide +kernel
theorem dX7_begin_73 : decode cX7_begin 73 = .ok (.aload_n 0, 1) := by decide +kernel
theorem dX7_begin_74 : decode cX7_begin 74 = .ok (.iload_n 2, 1) := by decide +kernel
theorem dX7_begin_75 : decode cX7_begin 75 = .ok (.putfield 7, 3) := by decide +kernel
theorem dX7_begin_78 : decode cX7_begin 78 = .ok (.iload_n 3, 1) := by decide +kernel
theorem dX7_begin_79 : decode cX7_begin 79 = .ok (.ireturn, 1) := by decide +kernel
theorem dX7_room_0 : decode cX7_room 0 = .ok (.aload_n 0, 1) := by decide +kernel
theorem dX7_room_1 : decode cX7_room 1 = .ok (.iload_n 1, 1) := by decide +kernel
theorem dX7_room_2 : decode cX7_room 2 = .ok (.invokevirtual 242, 3) := by decide +kernel
theorem dX7_room_5 : decode cX7_room 5 = .ok (.ifCond .ne 10, 3) := by decide +kernel
theorem dX7_room_8 : decode cX7_room 8 = .ok (.aload_n 0, 1) := by decide +kernel
theorem dX7_room_9 : decode cX7_room 9 = .ok (.bipush (-6), 2) := by decide +kernel
theorem dX7_room_11 : decode cX7_room 11 = .ok (.invokevirtual 109, 3) := by decide +kernel
theorem dX7_room_14 : decode cX7_room 14 = .ok (.ireturn, 1) := by decide +kernel
theorem dX7_room_15 : decode cX7_room 15 = .ok (.aload_n 0, 1) := by decide +kernel
theorem dX7_room_16 : decode cX7_room 16 = .ok (.getfield 13, 3) := by decide +kernel
theorem dX7_room_19 : decode cX7_room 19 = .ok (.istore_n 2, 1) := by decide +kernel
theorem dX7_room_20 : decode cX7_room 20 = .ok (.iconst 0, 1) := by decide +kernel
theorem dX7_room_21 : decode cX7_room 21 = .ok (.istore_n 3, 1) := by decide +kernel
theorem dX7_room_22 : decode cX7_room 22 = .ok (.iinc 3 1, 3) := by decide +kernel
theorem dX7_room_25 : decode cX7_room 25 = .ok (.aload_n 0, 1) := by decide +kernel
theorem dX7_room_26 : decode cX7_room 26 = .ok (.iload_n 3, 1) := by decide +kernel
theorem dX7_room_27 : decode cX7_room 27 = .ok (.putfield 13, 3) := by decide +kernel
theorem dX7_room_30 : decode cX7_room 30 = .ok (.aload_n 0, 1) := by decide +kernel
theorem dX7_room_31 : decode cX7_room 31 = .ok (.iload_n 1, 1) := by decide +kernel
theorem dX7_room_32 : decode cX7_room 32 = .ok (.invokevirtual 245, 3) := by decide +kernel
theorem dX7_room_35 : decode cX7_room 35 = .ok (.aload_n 0, 1) := by decide +kernel
theorem dX7_room_36 : decode cX7_room 36 = .ok (.getfield 221, 3) := by decide +kernel
theorem dX7_room_39 : decode cX7_room 39 = .ok (.ifCond .gt (-17), 3) := by decide +kernel
theorem dX7_room_42 : decode cX7_room 42 = .ok (.aload_n 0, 1) := by decide +kernel
theorem dX7_room_43 : decode cX7_room 43 = .ok (.iload_n 2, 1) := by decide +kernel
theorem dX7_room_44 : decode cX7_room 44 = .ok (.putfield 13, 3) := by decide +kernel
theorem dX7_room_47 : decode cX7_room 47 = .ok (.iload_n 3, 1) := by decide +kernel
theorem dX7_room_48 : decode cX7_room 48 = .ok (.ireturn, 1) := by decide +kernel
theorem dX7_take_0 : decode cX7_take 0 = .ok (.aload_n 0, 1) := by decide +kernel
theorem dX7_take_1 : decode cX7_take 1 = .ok (.iload_n 1, 1) := by decide +kernel
theorem dX7_take_2 : decode cX7_take 2 = .ok (.invokevirtual 242, 3) := by decide +kernel
theorem dX7_take_5 : decode cX7_take 5 = .ok (.ifCond .ne 10, 3) := by decide +kernel
theorem dX7_take_8 : decode cX7_take 8 = .ok (.aload_n 0, 1) := by decide +kernel
theorem dX7_take_9 : decode cX7_take 9 = .ok (.bipush (-6), 2) := by decide +kernel
theorem dX7_take_11 : decode cX7_take 11 = .ok (.invokevirtual 109, 3) := by decide +kernel
theorem dX7_take_14 : decode cX7_take 14 = .ok (.ireturn, 1) := by decide +kernel
theorem dX7_take_15 : decode cX7_take 15 = .ok (.iconst 0, 1) := by decide +kernel
theorem dX7_take_16 : decode cX7_take 16 = .ok (.istore_n 2, 1) := by decide +kernel
theorem dX7_take_17 : decode cX7_take 17 = .ok (.iconst (-1), 1) := by decide +kernel
theorem dX7_take_18 : decode cX7_take 18 = .ok (.istore_n 3, 1) := by decide +kernel
theorem dX7_take_19 : decode cX7_take 19 = .ok (.iconst 0, 1) := by decide +kernel
theorem dX7_take_20 : decode cX7_take 20 = .ok (.istore 4, 2) := by decide +kernel
theorem dX7_take_22 : decode cX7_take 22 = .ok (.iload 4, 2) := by decide +kernel
theorem dX7_take_24 : decode cX7_take 24 = .ok (.aload_n 0, 1) := by decide +kernel
theorem dX7_take_25 : decode cX7_take 25 = .ok (.getfield 102, 3) := by decide +kernel
theorem dX7_take_28 : decode cX7_take 28 = .ok (.if_icmp .ge 23, 3) := by decide +kernel
theorem dX7_take_31 : decode cX7_take 31 = .ok (.aload_n 0, 1) := by decide +kernel
theorem dX7_take_32 : decode cX7_take 32 = .ok (.getfield 96, 3) := by decide +kernel
theorem dX7_take_35 : decode cX7_take 35 = .ok (.iload 4, 2) := by decide +kernel
theorem dX7_take_37 : decode cX7_take 37 = .ok (.aload_n 0, 1) := by decide +kernel
theorem dX7_take_38 : decode cX7_take 38 = .ok (.getfield 53, 3) := by decide +kernel
theorem dX7_take_41 : decode cX7_take 41 = .ok (.iload 4, 2) := by decide +kernel
theorem dX7_take_43 : decode cX7_take 43 = .ok (.iaload, 1) := by decide +kernel
theorem dX7_take_44 : decode cX7_take 44 = .ok (.iastore, 1) := by decide +kernel
theorem dX7_take_45 : decode cX7_take 45 = .ok (.iinc 4 1, 3) := by decide +kernel
theorem dX7_take_48 : decode cX7_take 48 = .ok (.goto (-26), 3) := by decide +kernel
theorem dX7_take_51 : decode cX7_take 51 = .ok (.iconst 0, 1) := by decide +kernel
theorem dX7_take_52 : decode cX7_take 52 = .ok (.istore 4, 2) := by decide +kernel
theorem dX7_take_54 : decode cX7_take 54 = .ok (.iload 4, 2) := by decide +kernel
theorem dX7_take_56 : decode cX7_take 56 = .ok (.aload_n 0, 1) := by decide +kernel
theorem dX7_take_57 : decode cX7_take 57 = .ok (.getfield 102, 3) := by decide +kernel
theorem dX7_take_60 : decode cX7_take 60 = .ok (.if_icmp .gt 76, 3) := by decide +kernel
theorem dX7_take_63 : decode cX7_take 63 = .ok (.iconst 0, 1) := by decide +kernel
theorem dX7_take_64 : decode cX7_take 64 = .ok (.istore 5, 2) := by decide +kernel
theorem dX7_take_66 : decode cX7_take 66 = .ok (.iload 5, 2) := by decide +kernel
theorem dX7_take_68 : decode cX7_take 68 = .ok (.aload_n 0, 1) := by decide +kernel
theorem dX7_take_69 : decode cX7_take 69 = .ok (.getfield 102, 3) := by decide +kernel
theorem dX7_take_72 : decode cX7_take 72 = .ok (.if_icmp .ge 34, 3) := by decide +kernel
theorem dX7_take_75 : decode cX7_take 75 = .ok (.aload_n 0, 1) := by decide +kernel
theorem dX7_take_76 : decode cX7_take 76 = .ok (.getfield 53, 3) := by decide +kernel
theorem dX7_take_79 : decode cX7_take 79 = .ok (.iload 5, 2) := by decide +kernel
theorem dX7_take_81 : decode cX7_take 81 = .ok (.iload 5, 2) := by decide +kernel
theorem dX7_take_83 : decode cX7_take 83 = .ok (.iload 4, 2) := by decide +kernel
theorem dX7_take_85 : decode cX7_take 85 = .ok (.if_icmp .ge 13, 3) := by decide +kernel
theorem dX7_take_88 : decode cX7_take 88 = .ok (.aload_n 0, 1) := by decide +kernel
theorem dX7_take_89 : decode cX7_take 89 = .ok (.getfield 96, 3) := by decide +kernel
theorem dX7_take_92 : decode cX7_take 92 = .ok (.iload 5, 2) := by decide +kernel
theorem dX7_take_94 : decode cX7_take 94 = .ok (.iaload, 1) := by decide +kernel
theorem dX7_take_95 : decode cX7_take 95 = .ok (.goto 4, 3) := by decide +kernel
theorem dX7_take_98 : decode cX7_take 98 = .ok (.iconst 1, 1) := by decide +kernel
theorem dX7_take_99 : decode cX7_take 99 = .ok (.iastore, 1) := by decide +kernel
theorem dX7_take_100 : decode cX7_take 100 = .ok (.iinc 5 1, 3) := by decide +kernel
theorem dX7_take_103 : decode cX7_take 103 = .ok (.goto (-37), 3) := by decide +kernel
theorem dX7_take_106 : decode cX7_take 106 = .ok (.aload_n 0, 1) := by decide +kernel
theorem dX7_take_107 : decode cX7_take 107 = .ok (.iload_n 1, 1) := by decide +kernel
theorem dX7_take_108 : decode cX7_take 108 = .ok (.invokevirtual 245, 3) := by decide +kernel
theorem dX7_take_111 : decode cX7_take 111 = .ok (.aload_n 0, 1) := by decide +kernel
theorem dX7_take_112 : decode cX7_take 112 = .ok (.getfield 236, 3) := by decide +kernel
theorem dX7_take_115 : decode cX7_take 115 = .ok (.iload_n 3, 1) := by decide +kernel
theorem dX7_take_116 : decode cX7_take 116 = .ok (.if_icmp .gt 6, 3) := by decide +kernel
theorem dX7_take_119 : decode cX7_take 119 = .ok (.goto 11, 3) := by decide +kernel
theorem dX7_take_122 : decode cX7_take 122 = .ok (.iload 4, 2) := by decide +kernel
theorem dX7_take_124 : decode cX7_take 124 = .ok (.istore_n 2, 1) := by decide +kernel
theorem dX7_take_125 : decode cX7_take 125 = .ok (.aload_n 0, 1) := by decide +kernel
theorem dX7_take_126 : decode cX7_take 126 = .ok (.getfield 236, 3) := by decide +kernel
theorem dX7_take_129 : decode cX7_take 129 = .ok (.istore_n 3, 1) := by decide +kernel
theorem dX7_take_130 : decode cX7_take 130 = .ok (.iinc 4 1, 3) := by decide +kernel
theorem dX7_take_133 : decode cX7_take 133 = .ok (.goto (-79), 3) := by decide +kernel
theorem dX7_take_136 : decode cX7_take 136 = .ok (.iconst 0, 1) := by decide +kernel
theorem dX7_take_137 : decode cX7_take 137 = .ok (.istore 4, 2) := by decide +kernel
theorem dX7_take_139 : decode cX7_take 139 = .ok (.iload 4, 2) := by decide +kernel
theorem dX7_take_141 : decode cX7_take 141 = .ok (.aload_n 0, 1) := by decide +kernel
theorem dX7_take_142 : decode cX7_take 142 = .ok (.getfield 102, 3) := by decide +kernel
theorem dX7_take_145 : decode cX7_take 145 = .ok (.if_icmp .ge 23, 3) := by decide +kernel
theorem dX7_take_148 : decode cX7_take 148 = .ok (.aload_n 0, 1) := by decide +kernel
theorem dX7_take_149 : decode cX7_take 149 = .ok (.getfield 53, 3) := by decide +kernel
theorem dX7_take_152 : decode cX7_take 152 = .ok (.iload 4, 2) := by decide +kernel
theorem dX7_take_154 : decode cX7_take 154 = .ok (.aload_n 0, 1) := by decide +kernel
theorem dX7_take_155 : decode cX7_take 155 = .ok (.getfield 96, 3) := by decide +kernel
theorem dX7_take_158 : decode cX7_take 158 = .ok (.iload 4, 2) := by decide +kernel
theorem dX7_take_160 : decode cX7_take 160 = .ok (.iaload, 1) := by decide +kernel
theorem dX7_take_161 : decode cX7_take 161 = .ok (.iastore, 1) := by decide +kernel
theorem dX7_take_162 : decode cX7_take 162 = .ok (.iinc 4 1, 3) := by decide +kernel
theorem dX7_take_165 : decode cX7_take 165 = .ok (.goto (-26), 3) := by decide +kernel
theorem dX7_take_168 : decode cX7_take 168 = .ok (.iload_n 2, 1) := by decide +kernel
theorem dX7_take_169 : decode cX7_take 169 = .ok (.ireturn, 1) := by decide +kernel
theorem dX7_satIfPaid_0 : decode cX7_satIfPaid 0 = .ok (.iconst 0, 1) := by decide +kernel
theorem dX7_satIfPaid_1 : decode cX7_satIfPaid 1 = .ok (.istore_n 3, 1) := by decide +kernel
theorem dX7_satIfPaid_2 : decode cX7_satIfPaid 2 = .ok (.iload_n 3, 1) := by decide +kernel
theorem dX7_satIfPaid_3 : decode cX7_satIfPaid 3 = .ok (.aload_n 0, 1) := by decide +kernel
theorem dX7_satIfPaid_4 : decode cX7_satIfPaid 4 = .ok (.getfield 102, 3) := by decide +kernel
theorem dX7_satIfPaid_7 : decode cX7_satIfPaid 7 = .ok (.if_icmp .ge 16, 3) := by decide +kernel
theorem dX7_satIfPaid_10 : decode cX7_satIfPaid 10 = .ok (.aload_n 0, 1) := by decide +kernel
theorem dX7_satIfPaid_11 : decode cX7_satIfPaid 11 = .ok (.getfield 38, 3) := by decide +kernel
theorem dX7_satIfPaid_14 : decode cX7_satIfPaid 14 = .ok (.iload_n 3, 1) := by decide +kernel
theorem dX7_satIfPaid_15 : decode cX7_satIfPaid 15 = .ok (.iload_n 2, 1) := by decide +kernel
theorem dX7_satIfPaid_16 : decode cX7_satIfPaid 16 = .ok (.iastore, 1) := by decide +kernel
theorem dX7_satIfPaid_17 : decode cX7_satIfPaid 17 = .ok (.iinc 3 1, 3) := by decide +kernel
theorem dX7_satIfPaid_20 : decode cX7_satIfPaid 20 = .ok (.goto (-18), 3) := by decide +kernel
theorem dX7_satIfPaid_23 : decode cX7_satIfPaid 23 = .ok (.aload_n 0, 1) := by decide +kernel
theorem dX7_satIfPaid_24 : decode cX7_satIfPaid 24 = .ok (.iload_n 1, 1) := by decide +kernel
theorem dX7_satIfPaid_25 : decode cX7_satIfPaid 25 = .ok (.invokevirtual 245, 3) := by decide +kernel
theorem dX7_satIfPaid_28 : decode cX7_satIfPaid 28 = .ok (.aload_n 0, 1) := by decide +kernel
theorem dX7_satIfPaid_29 : decode cX7_satIfPaid 29 = .ok (.getfield 218, 3) := by decide +kernel
theorem dX7_satIfPaid_32 : decode cX7_satIfPaid 32 = .ok (.ireturn, 1) := by decide +kernel
theorem dX7_price_0 : decode cX7_price 0 = .ok (.aload_n 0, 1) := by decide +kernel
theorem dX7_price_1 : decode cX7_price 1 = .ok (.iload_n 1, 1) := by decide +kernel
theorem dX7_price_2 : decode cX7_price 2 = .ok (.invokevirtual 242, 3) := by decide +kernel
theorem dX7_price_5 : decode cX7_price 5 = .ok (.ifCond .ne 14, 3) := by decide +kernel
theorem dX7_price_8 : decode cX7_price 8 = .ok (.aload_n 0, 1) := by decide +kernel
theorem dX7_price_9 : decode cX7_price 9 = .ok (.bipush (-6), 2) := by decide +kernel
theorem dX7_price_11 : decode cX7_price 11 = .ok (.invokevirtual 109, 3) := by decide +kernel
theorem dX7_price_14 : decode cX7_price 14 = .ok (.sipush 1000, 3) := by decide +kernel
theorem dX7_price_17 : decode cX7_price 17 = .ok (.isub, 1) := by decide +kernel
theorem dX7_price_18 : decode cX7_price 18 = .ok (.ireturn, 1) := by decide +kernel
theorem dX7_price_19 : decode cX7_price 19 = .ok (.iconst 0, 1) := by decide +kernel
theorem dX7_price_20 : decode cX7_price 20 = .ok (.istore_n 2, 1) := by decide +kernel
theorem dX7_price_21 : decode cX7_price 21 = .ok (.iload_n 2, 1) := by decide +kernel
theorem dX7_price_22 : decode cX7_price 22 = .ok (.aload_n 0, 1) := by decide +kernel
theorem dX7_price_23 : decode cX7_price 23 = .ok (.getfield 102, 3) := by decide +kernel
theorem dX7_price_26 : decode cX7_price 26 = .ok (.if_icmp .ge 21, 3) := by decide +kernel
theorem dX7_price_29 : decode cX7_price 29 = .ok (.aload_n 0, 1) := by decide +kernel
theorem dX7_price_30 : decode cX7_price 30 = .ok (.getfield 96, 3) := by decide +kernel
theorem dX7_price_33 : decode cX7_price 33 = .ok (.iload_n 2, 1) := by decide +kernel
theorem dX7_price_34 : decode cX7_price 34 = .ok (.aload_n 0, 1) := by decide +kernel
theorem dX7_price_35 : decode cX7_price 35 = .ok (.getfield 38, 3) := by decide +kernel
theorem dX7_price_38 : decode cX7_price 38 = .ok (.iload_n 2, 1) := by decide +kernel
theorem dX7_price_39 : decode cX7_price 39 = .ok (.iaload, 1) := by decide +kernel
theorem dX7_price_40 : decode cX7_price 40 = .ok (.iastore, 1) := by decide +kernel
theorem dX7_price_41 : decode cX7_price 41 = .ok (.iinc 2 1, 3) := by decide +kernel
theorem dX7_price_44 : decode cX7_price 44 = .ok (.goto (-23), 3) := by decide +kernel
theorem dX7_price_47 : decode cX7_price 47 = .ok (.aload_n 0, 1) := by decide +kernel
theorem dX7_price_48 : decode cX7_price 48 = .ok (.iload_n 1, 1) := by decide +kernel
theorem dX7_price_49 : decode cX7_price 49 = .ok (.iconst 1, 1) := by decide +kernel
theorem dX7_price_50 : decode cX7_price 50 = .ok (.invokevirtual 251, 3) := by decide +kernel
theorem dX7_price_53 : decode cX7_price 53 = .ok (.aload_n 0, 1) := by decide +kernel
theorem dX7_price_54 : decode cX7_price 54 = .ok (.iload_n 1, 1) := by decide +kernel
theorem dX7_price_55 : decode cX7_price 55 = .ok (.iconst 0, 1) := by decide +kernel
theorem dX7_price_56 : decode cX7_price 56 = .ok (.invokevirtual 251, 3) := by decide +kernel
theorem dX7_price_59 : decode cX7_price 59 = .ok (.isub, 1) := by decide +kernel
theorem dX7_price_60 : decode cX7_price 60 = .ok (.istore_n 2, 1) := by decide +kernel
theorem dX7_price_61 : decode cX7_price 61 = .ok (.iconst 0, 1) := by decide +kernel
theorem dX7_price_62 : decode cX7_price 62 = .ok (.istore_n 3, 1) := by decide +kernel
theorem dX7_price_63 : decode cX7_price 63 = .ok (.iload_n 3, 1) := by decide +kernel
theorem dX7_price_64 : decode cX7_price 64 = .ok (.aload_n 0, 1) := by decide +kernel
theorem dX7_price_65 : decode cX7_price 65 = .ok (.getfield 102, 3) := by decide +kernel
theorem dX7_price_68 : decode cX7_price 68 = .ok (.if_icmp .ge 21, 3) := by decide +kernel
theorem dX7_price_71 : decode cX7_price 71 = .ok (.aload_n 0, 1) := by decide +kernel
theorem dX7_price_72 : decode cX7_price 72 = .ok (.getfield 38, 3) := by decide +kernel
theorem dX7_price_75 : decode cX7_price 75 = .ok (.iload_n 3, 1) := by decide +kernel
theorem dX7_price_76 : decode cX7_price 76 = .ok (.aload_n 0, 1) := by decide +kernel
theorem dX7_price_77 : decode cX7_price 77 = .ok (.getfield 96, 3) := by decide +kernel
theorem dX7_price_80 : decode cX7_price 80 = .ok (.iload_n 3, 1) := by decide +kernel
theorem dX7_price_81 : decode cX7_price 81 = .ok (.iaload, 1) := by decide +kernel
theorem dX7_price_82 : decode cX7_price 82 = .ok (.iastore, 1) := by decide +kernel
theorem dX7_price_83 : decode cX7_price 83 = .ok (.iinc 3 1, 3) := by decide +kernel
theorem dX7_price_86 : decode cX7_price 86 = .ok (.goto (-23), 3) := by decide +kernel
theorem dX7_price_89 : decode cX7_price 89 = .ok (.iload_n 2, 1) := by decide +kernel
theorem dX7_price_90 : decode cX7_price 90 = .ok (.ireturn, 1) := by decide +kernel
theorem dX7_holdsBack_0 : decode cX7_holdsBack 0 = .ok (.aload_n 0, 1) := by decide +kernel
theorem dX7_holdsBack_1 : decode cX7_holdsBack 1 = .ok (.iconst 0, 1) := by decide +kernel
theorem dX7_holdsBack_2 : decode cX7_holdsBack 2 = .ok (.invokevirtual 214, 3) := by decide +kernel
theorem dX7_holdsBack_5 : decode cX7_holdsBack 5 = .ok (.aload_n 0, 1) := by decide +kernel
theorem dX7_holdsBack_6 : decode cX7_holdsBack 6 = .ok (.aload_n 0, 1) := by decide +kernel
theorem dX7_holdsBack_7 : decode cX7_holdsBack 7 = .ok (.getfield 199, 3) := by decide +kernel
theorem dX7_holdsBack_10 : decode cX7_holdsBack 10 = .ok (.invokevirtual 248, 3) := by decide +kernel
theorem dX7_holdsBack_13 : decode cX7_holdsBack 13 = .ok (.aload_n 0, 1) := by decide +kernel
theorem dX7_holdsBack_14 : decode cX7_holdsBack 14 = .ok (.getfield 199, 3) := by decide +kernel
theorem dX7_holdsBack_17 : decode cX7_holdsBack 17 = .ok (.iload_n 1, 1) := by decide +kernel
theorem dX7_holdsBack_18 : decode cX7_holdsBack 18 = .ok (.ishr, 1) := by decide +kernel
theorem dX7_holdsBack_19 : decode cX7_holdsBack 19 = .ok (.iconst 1, 1) := by decide +kernel
theorem dX7_holdsBack_20 : decode cX7_holdsBack 20 = .ok (.iand, 1) := by decide +kernel
theorem dX7_holdsBack_21 : decode cX7_holdsBack 21 = .ok (.isub, 1) := by decide +kernel
theorem dX7_holdsBack_22 : decode cX7_holdsBack 22 = .ok (.istore_n 2, 1) := by decide +kernel
theorem dX7_holdsBack_23 : decode cX7_holdsBack 23 = .ok (.aload_n 0, 1) := by decide +kernel
theorem dX7_holdsBack_24 : decode cX7_holdsBack 24 = .ok (.getfield 53, 3) := by decide +kernel
theorem dX7_holdsBack_27 : decode cX7_holdsBack 27 = .ok (.iload_n 1, 1) := by decide +kernel
theorem dX7_holdsBack_28 : decode cX7_holdsBack 28 = .ok (.iconst 1, 1) := by decide +kernel
theorem dX7_holdsBack_29 : decode cX7_holdsBack 29 = .ok (.iastore, 1) := by decide +kernel
theorem dX7_holdsBack_30 : decode cX7_holdsBack 30 = .ok (.aload_n 0, 1) := by decide +kernel
theorem dX7_holdsBack_31 : decode cX7_holdsBack 31 = .ok (.iconst 0, 1) := by decide +kernel
theorem dX7_holdsBack_32 : decode cX7_holdsBack 32 = .ok (.invokevirtual 214, 3) := by decide +kernel
theorem dX7_holdsBack_35 : decode cX7_holdsBack 35 = .ok (.aload_n 0, 1) := by decide +kernel
theorem dX7_holdsBack_36 : decode cX7_holdsBack 36 = .ok (.getfield 53, 3) := by decide +kernel
theorem dX7_holdsBack_39 : decode cX7_holdsBack 39 = .ok (.iload_n 1, 1) := by decide +kernel
theorem dX7_holdsBack_40 : decode cX7_holdsBack 40 = .ok (.iconst 0, 1) := by decide +kernel
theorem dX7_holdsBack_41 : decode cX7_holdsBack 41 = .ok (.iastore, 1) := by decide +kernel
theorem dX7_holdsBack_42 : decode cX7_holdsBack 42 = .ok (.iload_n 2, 1) := by decide +kernel
theorem dX7_holdsBack_43 : decode cX7_holdsBack 43 = .ok (.aload_n 0, 1) := by decide +kernel
theorem dX7_holdsBack_44 : decode cX7_holdsBack 44 = .ok (.aload_n 0, 1) := by decide +kernel
theorem dX7_holdsBack_45 : decode cX7_holdsBack 45 = .ok (.getfield 199, 3) := by decide +kernel
theorem dX7_holdsBack_48 : decode cX7_holdsBack 48 = .ok (.invokevirtual 248, 3) := by decide +kernel
theorem dX7_holdsBack_51 : decode cX7_holdsBack 51 = .ok (.isub, 1) := by decide +kernel
theorem dX7_holdsBack_52 : decode cX7_holdsBack 52 = .ok (.ireturn, 1) := by decide +kernel
theorem dX7_keeps_0 : decode cX7_keeps 0 = .ok (.aload_n 0, 1) := by decide +kernel
theorem dX7_keeps_1 : decode cX7_keeps 1 = .ok (.iload_n 1, 1) := by decide +kernel
theorem dX7_keeps_2 : decode cX7_keeps 2 = .ok (.invokevirtual 113, 3) := by decide +kernel
theorem dX7_keeps_5 : decode cX7_keeps 5 = .ok (.ifCond .ne 9, 3) := by decide +kernel
theorem dX7_keeps_8 : decode cX7_keeps 8 = .ok (.aload_n 0, 1) := by decide +kernel
theorem dX7_keeps_9 : decode cX7_keeps 9 = .ok (.iconst (-1), 1) := by decide +kernel
theorem dX7_keeps_10 : decode cX7_keeps 10 = .ok (.invokevirtual 109, 3) := by decide +kernel
theorem dX7_keeps_13 : decode cX7_keeps 13 = .ok (.ireturn, 1) := by decide +kernel
theorem dX7_keeps_14 : decode cX7_keeps 14 = .ok (.aload_n 0, 1) := by decide +kernel
theorem dX7_keeps_15 : decode cX7_keeps 15 = .ok (.getfield 53, 3) := by decide +kernel
theorem dX7_keeps_18 : decode cX7_keeps 18 = .ok (.iload_n 1, 1) := by decide +kernel
theorem dX7_keeps_19 : decode cX7_keeps 19 = .ok (.iaload, 1) := by decide +kernel
theorem dX7_keeps_20 : decode cX7_keeps 20 = .ok (.iconst 1, 1) := by decide +kernel
theorem dX7_keeps_21 : decode cX7_keeps 21 = .ok (.if_icmp .ne 12, 3) := by decide +kernel
theorem dX7_keeps_24 : decode cX7_keeps 24 = .ok (.aload_n 0, 1) := by decide +kernel
theorem dX7_keeps_25 : decode cX7_keeps 25 = .ok (.bipush (-6), 2) := by decide +kernel
theorem dX7_keeps_27 : decode cX7_keeps 27 = .ok (.invokevirtual 109, 3) := by decide +kernel
theorem dX7_keeps_30 : decode cX7_keeps 30 = .ok (.goto 8, 3) := by decide +kernel
theorem dX7_keeps_33 : decode cX7_keeps 33 = .ok (.aload_n 0, 1) := by decide +kernel
theorem dX7_keeps_34 : decode cX7_keeps 34 = .ok (.iload_n 1, 1) := by decide +kernel
theorem dX7_keeps_35 : decode cX7_keeps 35 = .ok (.invokevirtual 255, 3) := by decide +kernel
theorem dX7_keeps_38 : decode cX7_keeps 38 = .ok (.ireturn, 1) := by decide +kernel
theorem dX7_keep_0 : decode cX7_keep 0 = .ok (.iconst (-1), 1) := by decide +kernel
theorem dX7_keep_1 : decode cX7_keep 1 = .ok (.istore_n 1, 1) := by decide +kernel
theorem dX7_keep_2 : decode cX7_keep 2 = .ok (.iconst (-1), 1) := by decide +kernel
theorem dX7_keep_3 : decode cX7_keep 3 = .ok (.istore_n 2, 1) := by decide +kernel
theorem dX7_keep_4 : decode cX7_keep 4 = .ok (.iconst 0, 1) := by decide +kernel
theorem dX7_keep_5 : decode cX7_keep 5 = .ok (.istore_n 3, 1) := by decide +kernel
theorem dX7_keep_6 : decode cX7_keep 6 = .ok (.iload_n 3, 1) := by decide +kernel
theorem dX7_keep_7 : decode cX7_keep 7 = .ok (.aload_n 0, 1) := by decide +kernel
theorem dX7_keep_8 : decode cX7_keep 8 = .ok (.getfield 102, 3) := by decide +kernel
theorem dX7_keep_11 : decode cX7_keep 11 = .ok (.if_icmp .ge 44, 3) := by decide +kernel
theorem dX7_keep_14 : decode cX7_keep 14 = .ok (.aload_n 0, 1) := by decide +kernel
theorem dX7_keep_15 : decode cX7_keep 15 = .ok (.getfield 53, 3) := by decide +kernel
theorem dX7_keep_18 : decode cX7_keep 18 = .ok (.iload_n 3, 1) := by decide +kernel
theorem dX7_keep_19 : decode cX7_keep 19 = .ok (.iaload, 1) := by decide +kernel
theorem dX7_keep_20 : decode cX7_keep 20 = .ok (.iconst 1, 1) := by decide +kernel
theorem dX7_keep_21 : decode cX7_keep 21 = .ok (.if_icmp .ne 7, 3) := by decide +kernel
theorem dX7_keep_24 : decode cX7_keep 24 = .ok (.iconst (-1), 1) := by decide +kernel
theorem dX7_keep_25 : decode cX7_keep 25 = .ok (.goto 8, 3) := by decide +kernel
theorem dX7_keep_28 : decode cX7_keep 28 = .ok (.aload_n 0, 1) := by decide +kernel
theorem dX7_keep_29 : decode cX7_keep 29 = .ok (.iload_n 3, 1) := by decide +kernel
theorem dX7_keep_30 : decode cX7_keep 30 = .ok (.invokevirtual 255, 3) := by decide +kernel
theorem dX7_keep_33 : decode cX7_keep 33 = .ok (.istore 4, 2) := by decide +kernel
theorem dX7_keep_35 : decode cX7_keep 35 = .ok (.iload 4, 2) := by decide +kernel
theorem dX7_keep_37 : decode cX7_keep 37 = .ok (.iload_n 2, 1) := by decide +kernel
theorem dX7_keep_38 : decode cX7_keep 38 = .ok (.if_icmp .gt 6, 3) := by decide +kernel
theorem dX7_keep_41 : decode cX7_keep 41 = .ok (.goto 8, 3) := by decide +kernel
theorem dX7_keep_44 : decode cX7_keep 44 = .ok (.iload_n 3, 1) := by decide +kernel
theorem dX7_keep_45 : decode cX7_keep 45 = .ok (.istore_n 1, 1) := by decide +kernel
theorem dX7_keep_46 : decode cX7_keep 46 = .ok (.iload 4, 2) := by decide +kernel
theorem dX7_keep_48 : decode cX7_keep 48 = .ok (.istore_n 2, 1) := by decide +kernel
theorem dX7_keep_49 : decode cX7_keep 49 = .ok (.iinc 3 1, 3) := by decide +kernel
theorem dX7_keep_52 : decode cX7_keep 52 = .ok (.goto (-46), 3) := by decide +kernel
theorem dX7_keep_55 : decode cX7_keep 55 = .ok (.iload_n 1, 1) := by decide +kernel
theorem dX7_keep_56 : decode cX7_keep 56 = .ok (.ireturn, 1) := by decide +kernel
theorem dX7_pairs_0 : decode cX7_pairs 0 = .ok (.iconst 0, 1) := by decide +kernel
theorem dX7_pairs_1 : decode cX7_pairs 1 = .ok (.istore_n 1, 1) := by decide +kernel
theorem dX7_pairs_2 : decode cX7_pairs 2 = .ok (.iconst 0, 1) := by decide +kernel
theorem dX7_pairs_3 : decode cX7_pairs 3 = .ok (.istore_n 2, 1) := by decide +kernel
theorem dX7_pairs_4 : decode cX7_pairs 4 = .ok (.iload_n 2, 1) := by decide +kernel
theorem dX7_pairs_5 : decode cX7_pairs 5 = .ok (.aload_n 0, 1) := by decide +kernel
theorem dX7_pairs_6 : decode cX7_pairs 6 = .ok (.getfield 102, 3) := by decide +kernel
theorem dX7_pairs_9 : decode cX7_pairs 9 = .ok (.if_icmp .ge 37, 3) := by decide +kernel
theorem dX7_pairs_12 : decode cX7_pairs 12 = .ok (.aload_n 0, 1) := by decide +kernel
theorem dX7_pairs_13 : decode cX7_pairs 13 = .ok (.getfield 41, 3) := by decide +kernel
theorem dX7_pairs_16 : decode cX7_pairs 16 = .ok (.iload_n 2, 1) := by decide +kernel
theorem dX7_pairs_17 : decode cX7_pairs 17 = .ok (.iaload, 1) := by decide +kernel
theorem dX7_pairs_18 : decode cX7_pairs 18 = .ok (.iload_n 2, 1) := by decide +kernel
theorem dX7_pairs_19 : decode cX7_pairs 19 = .ok (.if_icmp .le 21, 3) := by decide +kernel
theorem dX7_pairs_22 : decode cX7_pairs 22 = .ok (.aload_n 0, 1) := by decide +kernel
theorem dX7_pairs_23 : decode cX7_pairs 23 = .ok (.getfield 41, 3) := by decide +kernel
theorem dX7_pairs_26 : decode cX7_pairs 26 = .ok (.aload_n 0, 1) := by decide +kernel
theorem dX7_pairs_27 : decode cX7_pairs 27 = .ok (.getfield 41, 3) := by decide +kernel
theorem dX7_pairs_30 : decode cX7_pairs 30 = .ok (.iload_n 2, 1) := by decide +kernel
theorem dX7_pairs_31 : decode cX7_pairs 31 = .ok (.iaload, 1) := by decide +kernel
theorem dX7_pairs_32 : decode cX7_pairs 32 = .ok (.iaload, 1) := by decide +kernel
theorem dX7_pairs_33 : decode cX7_pairs 33 = .ok (.iload_n 2, 1) := by decide +kernel
theorem dX7_pairs_34 : decode cX7_pairs 34 = .ok (.if_icmp .ne 6, 3) := by decide +kernel
theorem dX7_pairs_37 : decode cX7_pairs 37 = .ok (.iinc 1 1, 3) := by decide +kernel
theorem dX7_pairs_40 : decode cX7_pairs 40 = .ok (.iinc 2 1, 3) := by decide +kernel
theorem dX7_pairs_43 : decode cX7_pairs 43 = .ok (.goto (-39), 3) := by decide +kernel
theorem dX7_pairs_46 : decode cX7_pairs 46 = .ok (.iload_n 1, 1) := by decide +kernel
theorem dX7_pairs_47 : decode cX7_pairs 47 = .ok (.ireturn, 1) := by decide +kernel
theorem dX7_chain_0 : decode cX7_chain 0 = .ok (.aload_n 0, 1) := by decide +kernel
theorem dX7_chain_1 : decode cX7_chain 1 = .ok (.iload_n 1, 1) := by decide +kernel
theorem dX7_chain_2 : decode cX7_chain 2 = .ok (.invokevirtual 113, 3) := by decide +kernel
theorem dX7_chain_5 : decode cX7_chain 5 = .ok (.ifCond .ne 9, 3) := by decide +kernel
theorem dX7_chain_8 : decode cX7_chain 8 = .ok (.aload_n 0, 1) := by decide +kernel
theorem dX7_chain_9 : decode cX7_chain 9 = .ok (.iconst (-1), 1) := by decide +kernel
theorem dX7_chain_10 : decode cX7_chain 10 = .ok (.invokevirtual 109, 3) := by decide +kernel
theorem dX7_chain_13 : decode cX7_chain 13 = .ok (.ireturn, 1) := by decide +kernel
theorem dX7_chain_14 : decode cX7_chain 14 = .ok (.iconst 1, 1) := by decide +kernel
theorem dX7_chain_15 : decode cX7_chain 15 = .ok (.iload_n 1, 1) := by decide +kernel
theorem dX7_chain_16 : decode cX7_chain 16 = .ok (.ishl, 1) := by decide +kernel
theorem dX7_chain_17 : decode cX7_chain 17 = .ok (.istore_n 2, 1) := by decide +kernel
theorem dX7_chain_18 : decode cX7_chain 18 = .ok (.iconst 0, 1) := by decide +kernel
theorem dX7_chain_19 : decode cX7_chain 19 = .ok (.istore_n 3, 1) := by decide +kernel
theorem dX7_chain_20 : decode cX7_chain 20 = .ok (.aload_n 0, 1) := by decide +kernel
theorem dX7_chain_21 : decode cX7_chain 21 = .ok (.getfield 41, 3) := by decide +kernel
theorem dX7_chain_24 : decode cX7_chain 24 = .ok (.iload_n 1, 1) := by decide +kernel
theorem dX7_chain_25 : decode cX7_chain 25 = .ok (.iaload, 1) := by decide +kernel
theorem dX7_chain_26 : decode cX7_chain 26 = .ok (.istore 4, 2) := by decide +kernel
theorem dX7_chain_28 : decode cX7_chain 28 = .ok (.iload 4, 2) := by decide +kernel
theorem dX7_chain_30 : decode cX7_chain 30 = .ok (.iconst (-1), 1) := by decide +kernel
theorem dX7_chain_31 : decode cX7_chain 31 = .ok (.if_icmp .eq 34, 3) := by decide +kernel
theorem dX7_chain_34 : decode cX7_chain 34 = .ok (.iload_n 2, 1) := by decide +kernel
theorem dX7_chain_35 : decode cX7_chain 35 = .ok (.iload 4, 2) := by decide +kernel
theorem dX7_chain_37 : decode cX7_chain 37 = .ok (.ishr, 1) := by decide +kernel
theorem dX7_chain_38 : decode cX7_chain 38 = .ok (.iconst 1, 1) := by decide +kernel
theorem dX7_chain_39 : decode cX7_chain 39 = .ok (.iand, 1) := by decide +kernel
theorem dX7_chain_40 : decode cX7_chain 40 = .ok (.ifCond .ne 25, 3) := by decide +kernel
theorem dX7_chain_43 : decode cX7_chain 43 = .ok (.iload_n 2, 1) := by decide +kernel
theorem dX7_chain_44 : decode cX7_chain 44 = .ok (.iconst 1, 1) := by decide +kernel
theorem dX7_chain_45 : decode cX7_chain 45 = .ok (.iload 4, 2) := by decide +kernel
theorem dX7_chain_47 : decode cX7_chain 47 = .ok (.ishl, 1) := by decide +kernel
theorem dX7_chain_48 : decode cX7_chain 48 = .ok (.iadd, 1) := by decide +kernel
theorem dX7_chain_49 : decode cX7_chain 49 = .ok (.istore_n 2, 1) := by decide +kernel
theorem dX7_chain_50 : decode cX7_chain 50 = .ok (.iinc 3 1, 3) := by decide +kernel
theorem dX7_chain_53 : decode cX7_chain 53 = .ok (.aload_n 0, 1) := by decide +kernel
theorem dX7_chain_54 : decode cX7_chain 54 = .ok (.getfield 41, 3) := by decide +kernel
theorem dX7_chain_57 : decode cX7_chain 57 = .ok (.iload 4, 2) := by decide +kernel
theorem dX7_chain_59 : decode cX7_chain 59 = .ok (.iaload, 1) := by decide +kernel
theorem dX7_chain_60 : decode cX7_chain 60 = .ok (.istore 4, 2) := by decide +kernel
theorem dX7_chain_62 : decode cX7_chain 62 = .ok (.goto (-34), 3) := by decide +kernel
theorem dX7_chain_65 : decode cX7_chain 65 = .ok (.iload_n 3, 1) := by decide +kernel
theorem dX7_chain_66 : decode cX7_chain 66 = .ok (.ireturn, 1) := by decide +kernel
theorem dX7_wrongIn_0 : decode cX7_wrongIn 0 = .ok (.iconst (-1), 1) := by decide +kernel
theorem dX7_wrongIn_1 : decode cX7_wrongIn 1 = .ok (.istore_n 3, 1) := by decide +kernel
theorem dX7_wrongIn_2 : decode cX7_wrongIn 2 = .ok (.aload_n 0, 1) := by decide +kernel
theorem dX7_wrongIn_3 : decode cX7_wrongIn 3 = .ok (.aload_n 0, 1) := by decide +kernel
theorem dX7_wrongIn_4 : decode cX7_wrongIn 4 = .ok (.getfield 93, 3) := by decide +kernel
theorem dX7_wrongIn_7 : decode cX7_wrongIn 7 = .ok (.iconst 0, 1) := by decide +kernel
theorem dX7_wrongIn_8 : decode cX7_wrongIn 8 = .ok (.invokevirtual 189, 3) := by decide +kernel
theorem dX7_wrongIn_11 : decode cX7_wrongIn 11 = .ok (.iconst 0, 1) := by decide +kernel
theorem dX7_wrongIn_12 : decode cX7_wrongIn 12 = .ok (.istore 4, 2) := by decide +kernel
theorem dX7_wrongIn_14 : decode cX7_wrongIn 14 = .ok (.iload 4, 2) := by decide +kernel
theorem dX7_wrongIn_16 : decode cX7_wrongIn 16 = .ok (.iload_n 2, 1) := by decide +kernel
theorem dX7_wrongIn_17 : decode cX7_wrongIn 17 = .ok (.if_icmp .ge 35, 3) := by decide +kernel
theorem dX7_wrongIn_20 : decode cX7_wrongIn 20 = .ok (.iload_n 3, 1) := by decide +kernel
theorem dX7_wrongIn_21 : decode cX7_wrongIn 21 = .ok (.iconst (-1), 1) := by decide +kernel
theorem dX7_wrongIn_22 : decode cX7_wrongIn 22 = .ok (.if_icmp .ne 30, 3) := by decide +kernel
theorem dX7_wrongIn_25 : decode cX7_wrongIn 25 = .ok (.aload_n 0, 1) := by decide +kernel
theorem dX7_wrongIn_26 : decode cX7_wrongIn 26 = .ok (.invokevirtual 230, 3) := by decide +kernel
theorem dX7_wrongIn_29 : decode cX7_wrongIn 29 = .ok (.aload_n 0, 1) := by decide +kernel
theorem dX7_wrongIn_30 : decode cX7_wrongIn 30 = .ok (.getfield 205, 3) := by decide +kernel
theorem dX7_wrongIn_33 : decode cX7_wrongIn 33 = .ok (.aload_n 0, 1) := by decide +kernel
theorem dX7_wrongIn_34 : decode cX7_wrongIn 34 = .ok (.iload_n 1, 1) := by decide +kernel
theorem dX7_wrongIn_35 : decode cX7_wrongIn 35 = .ok (.iload 4, 2) := by decide +kernel
theorem dX7_wrongIn_37 : decode cX7_wrongIn 37 = .ok (.invokevirtual 258, 3) := by decide +kernel
theorem dX7_wrongIn_40 : decode cX7_wrongIn 40 = .ok (.if_icmp .eq 6, 3) := by decide +kernel
theorem dX7_wrongIn_43 : decode cX7_wrongIn 43 = .ok (.iload 4, 2) := by decide +kernel
theorem dX7_wrongIn_45 : decode cX7_wrongIn 45 = .ok (.istore_n 3, 1) := by decide +kernel
theorem dX7_wrongIn_46 : decode cX7_wrongIn 46 = .ok (.iinc 4 1, 3) := by decide +kernel
theorem dX7_wrongIn_49 : decode cX7_wrongIn 49 = .ok (.goto (-35), 3) := by decide +kernel
theorem dX7_wrongIn_52 : decode cX7_wrongIn 52 = .ok (.aload_n 0, 1) := by decide +kernel
theorem dX7_wrongIn_53 : decode cX7_wrongIn 53 = .ok (.aload_n 0, 1) := by decide +kernel
theorem dX7_wrongIn_54 : decode cX7_wrongIn 54 = .ok (.getfield 93, 3) := by decide +kernel
theorem dX7_wrongIn_57 : decode cX7_wrongIn 57 = .ok (.iconst 1, 1) := by decide +kernel
theorem dX7_wrongIn_58 : decode cX7_wrongIn 58 = .ok (.invokevirtual 189, 3) := by decide +kernel
theorem dX7_wrongIn_61 : decode cX7_wrongIn 61 = .ok (.iload_n 3, 1) := by decide +kernel
theorem dX7_wrongIn_62 : decode cX7_wrongIn 62 = .ok (.ireturn, 1) := by decide +kernel
theorem dX7_barsOf_0 : decode cX7_barsOf 0 = .ok (.aload_n 0, 1) := by decide +kernel
theorem dX7_barsOf_1 : decode cX7_barsOf 1 = .ok (.iload_n 1, 1) := by decide +kernel
theorem dX7_barsOf_2 : decode cX7_barsOf 2 = .ok (.invokevirtual 186, 3) := by decide +kernel
theorem dX7_barsOf_5 : decode cX7_barsOf 5 = .ok (.istore_n 3, 1) := by decide +kernel
theorem dX7_barsOf_6 : decode cX7_barsOf 6 = .ok (.iload_n 3, 1) := by decide +kernel
theorem dX7_barsOf_7 : decode cX7_barsOf 7 = .ok (.ifCond .eq 7, 3) := by decide +kernel
theorem dX7_barsOf_10 : decode cX7_barsOf 10 = .ok (.iload_n 3, 1) := by decide +kernel
theorem dX7_barsOf_11 : decode cX7_barsOf 11 = .ok (.goto 39, 3) := by decide +kernel
theorem dX7_barsOf_14 : decode cX7_barsOf 14 = .ok (.iload_n 2, 1) := by decide +kernel
theorem dX7_barsOf_15 : decode cX7_barsOf 15 = .ok (.ifCond .ge 8, 3) := by decide +kernel
theorem dX7_barsOf_18 : decode cX7_barsOf 18 = .ok (.bipush (-4), 2) := by decide +kernel
theorem dX7_barsOf_20 : decode cX7_barsOf 20 = .ok (.goto 30, 3) := by decide +kernel
theorem dX7_barsOf_23 : decode cX7_barsOf 23 = .ok (.iload_n 2, 1) := by decide +kernel
theorem dX7_barsOf_24 : decode cX7_barsOf 24 = .ok (.aload_n 0, 1) := by decide +kernel
theorem dX7_barsOf_25 : decode cX7_barsOf 25 = .ok (.getfield 62, 3) := by decide +kernel
theorem dX7_barsOf_28 : decode cX7_barsOf 28 = .ok (.iload_n 1, 1) := by decide +kernel
theorem dX7_barsOf_29 : decode cX7_barsOf 29 = .ok (.iaload, 1) := by decide +kernel
theorem dX7_barsOf_30 : decode cX7_barsOf 30 = .ok (.if_icmp .le 8, 3) := by decide +kernel
theorem dX7_barsOf_33 : decode cX7_barsOf 33 = .ok (.bipush (-5), 2) := by decide +kernel
theorem dX7_barsOf_35 : decode cX7_barsOf 35 = .ok (.goto 15, 3) := by decide +kernel
theorem dX7_barsOf_38 : decode cX7_barsOf 38 = .ok (.iload_n 2, 1) := by decide +kernel
theorem dX7_barsOf_39 : decode cX7_barsOf 39 = .ok (.bipush 24, 2) := by decide +kernel
theorem dX7_barsOf_41 : decode cX7_barsOf 41 = .ok (.if_icmp .le 8, 3) := by decide +kernel
theorem dX7_barsOf_44 : decode cX7_barsOf 44 = .ok (.bipush (-6), 2) := by decide +kernel
theorem dX7_barsOf_46 : decode cX7_barsOf 46 = .ok (.goto 4, 3) := by decide +kernel
theorem dX7_barsOf_49 : decode cX7_barsOf 49 = .ok (.iconst 0, 1) := by decide +kernel
theorem dX7_barsOf_50 : decode cX7_barsOf 50 = .ok (.ireturn, 1) := by decide +kernel
theorem dX7_friends_0 : decode cX7_friends 0 = .ok (.aload_n 0, 1) := by decide +kernel
theorem dX7_friends_1 : decode cX7_friends 1 = .ok (.iload_n 3, 1) := by decide +kernel
theorem dX7_friends_2 : decode cX7_friends 2 = .ok (.invokevirtual 113, 3) := by decide +kernel
theorem dX7_friends_5 : decode cX7_friends 5 = .ok (.ifCond .eq 12, 3) := by decide +kernel
theorem dX7_friends_8 : decode cX7_friends 8 = .ok (.aload_n 0, 1) := by decide +kernel
theorem dX7_friends_9 : decode cX7_friends 9 = .ok (.iload_n 1, 1) := by decide +kernel
theorem dX7_friends_10 : decode cX7_friends 10 = .ok (.iload_n 2, 1) := by decide +kernel
theorem dX7_friends_11 : decode cX7_friends 11 = .ok (.invokevirtual 261, 3) := by decide +kernel
theorem dX7_friends_14 : decode cX7_friends 14 = .ok (.goto 4, 3) := by decide +kernel
theorem dX7_friends_17 : decode cX7_friends 17 = .ok (.iconst (-1), 1) := by decide +kernel
theorem dX7_friends_18 : decode cX7_friends 18 = .ok (.istore 4, 2) := by decide +kernel
theorem dX7_friends_20 : decode cX7_friends 20 = .ok (.iload 4, 2) := by decide +kernel
theorem dX7_friends_22 : decode cX7_friends 22 = .ok (.ifCond .eq 10, 3) := by decide +kernel
theorem dX7_friends_25 : decode cX7_friends 25 = .ok (.aload_n 0, 1) := by decide +kernel
theorem dX7_friends_26 : decode cX7_friends 26 = .ok (.iload 4, 2) := by decide +kernel
theorem dX7_friends_28 : decode cX7_friends 28 = .ok (.invokevirtual 109, 3) := by decide +kernel
theorem dX7_friends_31 : decode cX7_friends 31 = .ok (.ireturn, 1) := by decide +kernel
theorem dX7_friends_32 : decode cX7_friends 32 = .ok (.aload_n 0, 1) := by decide +kernel
theorem dX7_friends_33 : decode cX7_friends 33 = .ok (.getfield 41, 3) := by decide +kernel
theorem dX7_friends_36 : decode cX7_friends 36 = .ok (.iload_n 3, 1) := by decide +kernel
theorem dX7_friends_37 : decode cX7_friends 37 = .ok (.iaload, 1) := by decide +kernel
theorem dX7_friends_38 : decode cX7_friends 38 = .ok (.istore 5, 2) := by decide +kernel
theorem dX7_friends_40 : decode cX7_friends 40 = .ok (.iconst 0, 1) := by decide +kernel
theorem dX7_friends_41 : decode cX7_friends 41 = .ok (.istore 6, 2) := by decide +kernel
theorem dX7_friends_43 : decode cX7_friends 43 = .ok (.iconst 0, 1) := by decide +kernel
theorem dX7_friends_44 : decode cX7_friends 44 = .ok (.istore 7, 2) := by decide +kernel
theorem dX7_friends_46 : decode cX7_friends 46 = .ok (.iload 7, 2) := by decide +kernel
theorem dX7_friends_48 : decode cX7_friends 48 = .ok (.aload_n 0, 1) := by decide +kernel
theorem dX7_friends_49 : decode cX7_friends 49 = .ok (.getfield 102, 3) := by decide +kernel
theorem dX7_friends_52 : decode cX7_friends 52 = .ok (.if_icmp .ge 45, 3) := by decide +kernel
theorem dX7_friends_55 : decode cX7_friends 55 = .ok (.iload 7, 2) := by decide +kernel
theorem dX7_friends_57 : decode cX7_friends 57 = .ok (.iload_n 3, 1) := by decide +kernel
theorem dX7_friends_58 : decode cX7_friends 58 = .ok (.if_icmp .ne 6, 3) := by decide +kernel
theorem dX7_friends_61 : decode cX7_friends 61 = .ok (.goto 30, 3) := by decide +kernel
theorem dX7_friends_64 : decode cX7_friends 64 = .ok (.aload_n 0, 1) := by decide +kernel
theorem dX7_friends_65 : decode cX7_friends 65 = .ok (.getfield 41, 3) := by decide +kernel
theorem dX7_friends_68 : decode cX7_friends 68 = .ok (.iload_n 3, 1) := by decide +kernel
theorem dX7_friends_69 : decode cX7_friends 69 = .ok (.iload 7, 2) := by decide +kernel
theorem dX7_friends_71 : decode cX7_friends 71 = .ok (.iastore, 1) := by decide +kernel
theorem dX7_friends_72 : decode cX7_friends 72 = .ok (.aload_n 0, 1) := by decide +kernel
theorem dX7_friends_73 : decode cX7_friends 73 = .ok (.iload_n 1, 1) := by decide +kernel
theorem dX7_friends_74 : decode cX7_friends 74 = .ok (.iload_n 2, 1) := by decide +kernel
theorem dX7_friends_75 : decode cX7_friends 75 = .ok (.invokevirtual 264, 3) := by decide +kernel
theorem dX7_friends_78 : decode cX7_friends 78 = .ok (.iconst (-1), 1) := by decide +kernel
theorem dX7_friends_79 : decode cX7_friends 79 = .ok (.if_icmp .ne 12, 3) := by decide +kernel
theorem dX7_friends_82 : decode cX7_friends 82 = .ok (.iload 6, 2) := by decide +kernel
theorem dX7_friends_84 : decode cX7_friends 84 = .ok (.iconst 1, 1) := by decide +kernel
theorem dX7_friends_85 : decode cX7_friends 85 = .ok (.iload 7, 2) := by decide +kernel
theorem dX7_friends_87 : decode cX7_friends 87 = .ok (.ishl, 1) := by decide +kernel
theorem dX7_friends_88 : decode cX7_friends 88 = .ok (.iadd, 1) := by decide +kernel
theorem dX7_friends_89 : decode cX7_friends 89 = .ok (.istore 6, 2) := by decide +kernel
theorem dX7_friends_91 : decode cX7_friends 91 = .ok (.iinc 7 1, 3) := by decide +kernel
theorem dX7_friends_94 : decode cX7_friends 94 = .ok (.goto (-48), 3) := by decide +kernel
theorem dX7_friends_97 : decode cX7_friends 97 = .ok (.aload_n 0, 1) := by decide +kernel
theorem dX7_friends_98 : decode cX7_friends 98 = .ok (.getfield 41, 3) := by decide +kernel
theorem dX7_friends_101 : decode cX7_friends 101 = .ok (.iload_n 3, 1) := by decide +kernel
theorem dX7_friends_102 : decode cX7_friends 102 = .ok (.iconst (-1), 1) := by decide +kernel
theorem dX7_friends_103 : decode cX7_friends 103 = .ok (.iastore, 1) := by decide +kernel
theorem dX7_friends_104 : decode cX7_friends 104 = .ok (.aload_n 0, 1) := by decide +kernel
theorem dX7_friends_105 : decode cX7_friends 105 = .ok (.iload_n 1, 1) := by decide +kernel
theorem dX7_friends_106 : decode cX7_friends 106 = .ok (.iload_n 2, 1) := by decide +kernel
theorem dX7_friends_107 : decode cX7_friends 107 = .ok (.invokevirtual 264, 3) := by decide +kernel
theorem dX7_friends_110 : decode cX7_friends 110 = .ok (.iconst (-1), 1) := by decide +kernel
theorem dX7_friends_111 : decode cX7_friends 111 = .ok (.if_icmp .ne 14, 3) := by decide +kernel
theorem dX7_friends_114 : decode cX7_friends 114 = .ok (.iload 6, 2) := by decide +kernel
theorem dX7_friends_116 : decode cX7_friends 116 = .ok (.iconst 1, 1) := by decide +kernel
theorem dX7_friends_117 : decode cX7_friends 117 = .ok (.aload_n 0, 1) := by decide +kernel
theorem dX7_friends_118 : decode cX7_friends 118 = .ok (.getfield 102, 3) := by decide +kernel
theorem dX7_friends_121 : decode cX7_friends 121 = .ok (.ishl, 1) := by decide +kernel
theorem dX7_friends_122 : decode cX7_friends 122 = .ok (.iadd, 1) := by decide +kernel
theorem dX7_friends_123 : decode cX7_friends 123 = .ok (.istore 6, 2) := by decide +kernel
theorem dX7_friends_125 : decode cX7_friends 125 = .ok (.aload_n 0, 1) := by decide +kernel
theorem dX7_friends_126 : decode cX7_friends 126 = .ok (.getfield 41, 3) := by decide +kernel
theorem dX7_friends_129 : decode cX7_friends 129 = .ok (.iload_n 3, 1) := by decide +kernel
theorem dX7_friends_130 : decode cX7_friends 130 = .ok (.iload 5, 2) := by decide +kernel
theorem dX7_friends_132 : decode cX7_friends 132 = .ok (.iastore, 1) := by decide +kernel
theorem dX7_friends_133 : decode cX7_friends 133 = .ok (.iload 6, 2) := by decide +kernel
theorem dX7_friends_135 : decode cX7_friends 135 = .ok (.ireturn, 1) := by decide +kernel
theorem dX7_judge_0 : decode cX7_judge 0 = .ok (.aload_n 0, 1) := by decide +kernel
theorem dX7_judge_1 : decode cX7_judge 1 = .ok (.iload_n 1, 1) := by decide +kernel
theorem dX7_judge_2 : decode cX7_judge 2 = .ok (.iload_n 2, 1) := by decide +kernel
theorem dX7_judge_3 : decode cX7_judge 3 = .ok (.invokevirtual 261, 3) := by decide +kernel
theorem dX7_judge_6 : decode cX7_judge 6 = .ok (.istore_n 3, 1) := by decide +kernel
theorem dX7_judge_7 : decode cX7_judge 7 = .ok (.iload_n 3, 1) := by decide +kernel
theorem dX7_judge_8 : decode cX7_judge 8 = .ok (.ifCond .eq 11, 3) := by decide +kernel
theorem dX7_judge_11 : decode cX7_judge 11 = .ok (.aload_n 0, 1) := by decide +kernel
theorem dX7_judge_12 : decode cX7_judge 12 = .ok (.iload_n 3, 1) := by decide +kernel
theorem dX7_judge_13 : decode cX7_judge 13 = .ok (.invokevirtual 128, 3) := by decide +kernel
theorem dX7_judge_16 : decode cX7_judge 16 = .ok (.goto 9, 3) := by decide +kernel
theorem dX7_judge_19 : decode cX7_judge 19 = .ok (.aload_n 0, 1) := by decide +kernel
theorem dX7_judge_20 : decode cX7_judge 20 = .ok (.iload_n 1, 1) := by decide +kernel
theorem dX7_judge_21 : decode cX7_judge 21 = .ok (.iload_n 2, 1) := by decide +kernel
theorem dX7_judge_22 : decode cX7_judge 22 = .ok (.invokevirtual 264, 3) := by decide +kernel
theorem dX7_judge_25 : decode cX7_judge 25 = .ok (.ireturn, 1) := by decide +kernel
theorem dX7_evenings_0 : decode cX7_evenings 0 = .ok (.aload_n 0, 1) := by decide +kernel
theorem dX7_evenings_1 : decode cX7_evenings 1 = .ok (.iload_n 1, 1) := by decide +kernel
theorem dX7_evenings_2 : decode cX7_evenings 2 = .ok (.iconst 1, 1) := by decide +kernel
theorem dX7_evenings_3 : decode cX7_evenings 3 = .ok (.bipush 24, 2) := by decide +kernel
theorem dX7_evenings_5 : decode cX7_evenings 5 = .ok (.invokevirtual 120, 3) := by decide +kernel
theorem dX7_evenings_8 : decode cX7_evenings 8 = .ok (.ifCond .ne 10, 3) := by decide +kernel
theorem dX7_evenings_11 : decode cX7_evenings 11 = .ok (.aload_n 0, 1) := by decide +kernel
theorem dX7_evenings_12 : decode cX7_evenings 12 = .ok (.bipush (-6), 2) := by decide +kernel
theorem dX7_evenings_14 : decode cX7_evenings 14 = .ok (.invokevirtual 109, 3) := by decide +kernel
theorem dX7_evenings_17 : decode cX7_evenings 17 = .ok (.ireturn, 1) := by decide +kernel
theorem dX7_evenings_18 : decode cX7_evenings 18 = .ok (.iconst 0, 1) := by decide +kernel
theorem dX7_evenings_19 : decode cX7_evenings 19 = .ok (.istore_n 2, 1) := by decide +kernel
theorem dX7_evenings_20 : decode cX7_evenings 20 = .ok (.iconst 0, 1) := by decide +kernel
theorem dX7_evenings_21 : decode cX7_evenings 21 = .ok (.istore_n 3, 1) := by decide +kernel
theorem dX7_evenings_22 : decode cX7_evenings 22 = .ok (.iload_n 3, 1) := by decide +kernel
theorem dX7_evenings_23 : decode cX7_evenings 23 = .ok (.iload_n 1, 1) := by decide +kernel
theorem dX7_evenings_24 : decode cX7_evenings 24 = .ok (.if_icmp .ge 20, 3) := by decide +kernel
theorem dX7_evenings_27 : decode cX7_evenings 27 = .ok (.aload_n 0, 1) := by decide +kernel
theorem dX7_evenings_28 : decode cX7_evenings 28 = .ok (.invokevirtual 230, 3) := by decide +kernel
theorem dX7_evenings_31 : decode cX7_evenings 31 = .ok (.iload_n 2, 1) := by decide +kernel
theorem dX7_evenings_32 : decode cX7_evenings 32 = .ok (.aload_n 0, 1) := by decide +kernel
theorem dX7_evenings_33 : decode cX7_evenings 33 = .ok (.getfield 211, 3) := by decide +kernel
theorem dX7_evenings_36 : decode cX7_evenings 36 = .ok (.iadd, 1) := by decide +kernel
theorem dX7_evenings_37 : decode cX7_evenings 37 = .ok (.istore_n 2, 1) := by decide +kernel
theorem dX7_evenings_38 : decode cX7_evenings 38 = .ok (.iinc 3 1, 3) := by decide +kernel
theorem dX7_evenings_41 : decode cX7_evenings 41 = .ok (.goto (-19), 3) := by decide +kernel
theorem dX7_evenings_44 : decode cX7_evenings 44 = .ok (.iload_n 2, 1) := by decide +kernel
theorem dX7_evenings_45 : decode cX7_evenings 45 = .ok (.ireturn, 1) := by decide +kernel
theorem dX7_draw_0 : decode cX7_draw 0 = .ok (.aload_n 0, 1) := by decide +kernel
theorem dX7_draw_1 : decode cX7_draw 1 = .ok (.aload_n 0, 1) := by decide +kernel
theorem dX7_draw_2 : decode cX7_draw 2 = .ok (.getfield 19, 3) := by decide +kernel
theorem dX7_draw_5 : decode cX7_draw 5 = .ok (.ldc_w 267, 3) := by decide +kernel
theorem dX7_draw_8 : decode cX7_draw 8 = .ok (.imul, 1) := by decide +kernel
theorem dX7_draw_9 : decode cX7_draw 9 = .ok (.sipush 12345, 3) := by decide +kernel
theorem dX7_draw_12 : decode cX7_draw 12 = .ok (.iadd, 1) := by decide +kernel
theorem dX7_draw_13 : decode cX7_draw 13 = .ok (.putfield 19, 3) := by decide +kernel
theorem dX7_draw_16 : decode cX7_draw 16 = .ok (.aload_n 0, 1) := by decide +kernel
theorem dX7_draw_17 : decode cX7_draw 17 = .ok (.getfield 19, 3) := by decide +kernel
theorem dX7_draw_20 : decode cX7_draw 20 = .ok (.bipush 16, 2) := by decide +kernel
theorem dX7_draw_22 : decode cX7_draw 22 = .ok (.iushr, 1) := by decide +kernel
theorem dX7_draw_23 : decode cX7_draw 23 = .ok (.iload_n 1, 1) := by decide +kernel
theorem dX7_draw_24 : decode cX7_draw 24 = .ok (.irem, 1) := by decide +kernel
theorem dX7_draw_25 : decode cX7_draw 25 = .ok (.ireturn, 1) := by decide +kernel
theorem dX7_drawn_0 : decode cX7_drawn 0 = .ok (.aload_n 0, 1) := by decide +kernel
theorem dX7_drawn_1 : decode cX7_drawn 1 = .ok (.iload_n 1, 1) := by decide +kernel
theorem dX7_drawn_2 : decode cX7_drawn 2 = .ok (.iconst 1, 1) := by decide +kernel
theorem dX7_drawn_3 : decode cX7_drawn 3 = .ok (.bipush 24, 2) := by decide +kernel
theorem dX7_drawn_5 : decode cX7_drawn 5 = .ok (.invokevirtual 120, 3) := by decide +kernel
theorem dX7_drawn_8 : decode cX7_drawn 8 = .ok (.ifCond .ne 10, 3) := by decide +kernel
theorem dX7_drawn_11 : decode cX7_drawn 11 = .ok (.aload_n 0, 1) := by decide +kernel
theorem dX7_drawn_12 : decode cX7_drawn 12 = .ok (.bipush (-6), 2) := by decide +kernel
theorem dX7_drawn_14 : decode cX7_drawn 14 = .ok (.invokevirtual 109, 3) := by decide +kernel
theorem dX7_drawn_17 : decode cX7_drawn 17 = .ok (.ireturn, 1) := by decide +kernel
theorem dX7_drawn_18 : decode cX7_drawn 18 = .ok (.iconst 0, 1) := by decide +kernel
theorem dX7_drawn_19 : decode cX7_drawn 19 = .ok (.istore_n 2, 1) := by decide +kernel
theorem dX7_drawn_20 : decode cX7_drawn 20 = .ok (.iconst 0, 1) := by decide +kernel
theorem dX7_drawn_21 : decode cX7_drawn 21 = .ok (.istore_n 3, 1) := by decide +kernel
theorem dX7_drawn_22 : decode cX7_drawn 22 = .ok (.iload_n 3, 1) := by decide +kernel
theorem dX7_drawn_23 : decode cX7_drawn 23 = .ok (.iload_n 1, 1) := by decide +kernel
theorem dX7_drawn_24 : decode cX7_drawn 24 = .ok (.if_icmp .ge 30, 3) := by decide +kernel
theorem dX7_drawn_27 : decode cX7_drawn 27 = .ok (.aload_n 0, 1) := by decide +kernel
theorem dX7_drawn_28 : decode cX7_drawn 28 = .ok (.aload_n 0, 1) := by decide +kernel
theorem dX7_drawn_29 : decode cX7_drawn 29 = .ok (.bipush 10, 2) := by decide +kernel
theorem dX7_drawn_31 : decode cX7_drawn 31 = .ok (.invokevirtual 268, 3) := by decide +kernel
theorem dX7_drawn_34 : decode cX7_drawn 34 = .ok (.putfield 131, 3) := by decide +kernel
theorem dX7_drawn_37 : decode cX7_drawn 37 = .ok (.aload_n 0, 1) := by decide +kernel
theorem dX7_drawn_38 : decode cX7_drawn 38 = .ok (.invokevirtual 230, 3) := by decide +kernel
theorem dX7_drawn_41 : decode cX7_drawn 41 = .ok (.iload_n 2, 1) := by decide +kernel
theorem dX7_drawn_42 : decode cX7_drawn 42 = .ok (.aload_n 0, 1) := by decide +kernel
theorem dX7_drawn_43 : decode cX7_drawn 43 = .ok (.getfield 211, 3) := by decide +kernel
theorem dX7_drawn_46 : decode cX7_drawn 46 = .ok (.iadd, 1) := by decide +kernel
theorem dX7_drawn_47 : decode cX7_drawn 47 = .ok (.istore_n 2, 1) := by decide +kernel
theorem dX7_drawn_48 : decode cX7_drawn 48 = .ok (.iinc 3 1, 3) := by decide +kernel
theorem dX7_drawn_51 : decode cX7_drawn 51 = .ok (.goto (-29), 3) := by decide +kernel
theorem dX7_drawn_54 : decode cX7_drawn 54 = .ok (.iload_n 2, 1) := by decide +kernel
theorem dX7_drawn_55 : decode cX7_drawn 55 = .ok (.ireturn, 1) := by decide +kernel
theorem dX7_seed_0 : decode cX7_seed 0 = .ok (.aload_n 0, 1) := by decide +kernel
theorem dX7_seed_1 : decode cX7_seed 1 = .ok (.getfield 19, 3) := by decide +kernel
theorem dX7_seed_4 : decode cX7_seed 4 = .ok (.istore_n 2, 1) := by decide +kernel
theorem dX7_seed_5 : decode cX7_seed 5 = .ok (.aload_n 0, 1) := by decide +kernel
theorem dX7_seed_6 : decode cX7_seed 6 = .ok (.iload_n 1, 1) := by decide +kernel
theorem dX7_seed_7 : decode cX7_seed 7 = .ok (.putfield 19, 3) := by decide +kernel
theorem dX7_seed_10 : decode cX7_seed 10 = .ok (.iload_n 2, 1) := by decide +kernel
theorem dX7_seed_11 : decode cX7_seed 11 = .ok (.ireturn, 1) := by decide +kernel
theorem dX7_body_0 : decode cX7_body 0 = .ok (.aload_n 0, 1) := by decide +kernel
theorem dX7_body_1 : decode cX7_body 1 = .ok (.getfield 271, 3) := by decide +kernel
theorem dX7_body_4 : decode cX7_body 4 = .ok (.bipush 20, 2) := by decide +kernel
theorem dX7_body_6 : decode cX7_body 6 = .ok (.if_icmp .ge 13, 3) := by decide +kernel
theorem dX7_body_9 : decode cX7_body 9 = .ok (.aload_n 0, 1) := by decide +kernel
theorem dX7_body_10 : decode cX7_body 10 = .ok (.getfield 99, 3) := by decide +kernel
theorem dX7_body_13 : decode cX7_body 13 = .ok (.aload_n 0, 1) := by decide +kernel
theorem dX7_body_14 : decode cX7_body 14 = .ok (.getfield 271, 3) := by decide +kernel
theorem dX7_body_17 : decode cX7_body 17 = .ok (.iload_n 1, 1) := by decide +kernel
theorem dX7_body_18 : decode cX7_body 18 = .ok (.iastore, 1) := by decide +kernel
theorem dX7_body_19 : decode cX7_body 19 = .ok (.aload_n 0, 1) := by decide +kernel
theorem dX7_body_20 : decode cX7_body 20 = .ok (.dup, 1) := by decide +kernel
theorem dX7_body_21 : decode cX7_body 21 = .ok (.getfield 271, 3) := by decide +kernel
theorem dX7_body_24 : decode cX7_body 24 = .ok (.iconst 1, 1) := by decide +kernel
theorem dX7_body_25 : decode cX7_body 25 = .ok (.iadd, 1) := by decide +kernel
theorem dX7_body_26 : decode cX7_body 26 = .ok (.putfield 271, 3) := by decide +kernel
theorem dX7_body_29 : decode cX7_body 29 = .ok (.return_, 1) := by decide +kernel
theorem dX7_coming_0 : decode cX7_coming 0 = .ok (.aload_n 0, 1) := by decide +kernel
theorem dX7_coming_1 : decode cX7_coming 1 = .ok (.getfield 29, 3) := by decide +kernel
theorem dX7_coming_4 : decode cX7_coming 4 = .ok (.iload_n 1, 1) := by decide +kernel
theorem dX7_coming_5 : decode cX7_coming 5 = .ok (.iaload, 1) := by decide +kernel
theorem dX7_coming_6 : decode cX7_coming 6 = .ok (.istore_n 3, 1) := by decide +kernel
theorem dX7_coming_7 : decode cX7_coming 7 = .ok (.iload_n 2, 1) := by decide +kernel
theorem dX7_coming_8 : decode cX7_coming 8 = .ok (.istore 4, 2) := by decide +kernel
theorem dX7_coming_10 : decode cX7_coming 10 = .ok (.aload_n 0, 1) := by decide +kernel
theorem dX7_coming_11 : decode cX7_coming 11 = .ok (.iload_n 3, 1) := by decide +kernel
theorem dX7_coming_12 : decode cX7_coming 12 = .ok (.iconst 1, 1) := by decide +kernel
theorem dX7_coming_13 : decode cX7_coming 13 = .ok (.invokevirtual 116, 3) := by decide +kernel
theorem dX7_coming_16 : decode cX7_coming 16 = .ok (.istore 5, 2) := by decide +kernel
theorem dX7_coming_18 : decode cX7_coming 18 = .ok (.aload_n 0, 1) := by decide +kernel
theorem dX7_coming_19 : decode cX7_coming 19 = .ok (.iload_n 3, 1) := by decide +kernel
theorem dX7_coming_20 : decode cX7_coming 20 = .ok (.iconst 3, 1) := by decide +kernel
theorem dX7_coming_21 : decode cX7_coming 21 = .ok (.invokevirtual 116, 3) := by decide +kernel
theorem dX7_coming_24 : decode cX7_coming 24 = .ok (.istore 6, 2) := by decide +kernel
theorem dX7_coming_26 : decode cX7_coming 26 = .ok (.iload_n 3, 1) := by decide +kernel
theorem dX7_coming_27 : decode cX7_coming 27 = .ok (.bipush 6, 2) := by decide +kernel
theorem dX7_coming_29 : decode cX7_coming 29 = .ok (.if_icmp .ne 9, 3) := by decide +kernel
theorem dX7_coming_32 : decode cX7_coming 32 = .ok (.aload_n 0, 1) := by decide +kernel
theorem dX7_coming_33 : decode cX7_coming 33 = .ok (.bipush 70, 2) := by decide +kernel
theorem dX7_coming_35 : decode cX7_coming 35 = .ok (.invokevirtual 274, 3) := by decide +kernel
theorem dX7_coming_38 : decode cX7_coming 38 = .ok (.iload 6, 2) := by decide +kernel
theorem dX7_coming_40 : decode cX7_coming 40 = .ok (.ifCond .eq 14, 3) := by decide +kernel
theorem dX7_coming_43 : decode cX7_coming 43 = .ok (.aload_n 0, 1) := by decide +kernel
theorem dX7_coming_44 : decode cX7_coming 44 = .ok (.bipush 40, 2) := by decide +kernel
theorem dX7_coming_46 : decode cX7_coming 46 = .ok (.invokevirtual 274, 3) := by decide +kernel
theorem dX7_coming_49 : decode cX7_coming 49 = .ok (.iload_n 2, 1) := by decide +kernel
theorem dX7_coming_50 : decode cX7_coming 50 = .ok (.iconst 1, 1) := by decide +kernel
theorem dX7_coming_51 : decode cX7_coming 51 = .ok (.iadd, 1) := by decide +kernel
theorem dX7_coming_52 : decode cX7_coming 52 = .ok (.istore 4, 2) := by decide +kernel
theorem dX7_coming_54 : decode cX7_coming 54 = .ok (.iload 5, 2) := by decide +kernel
theorem dX7_coming_56 : decode cX7_coming 56 = .ok (.ifCond .eq 9, 3) := by decide +kernel
theorem dX7_coming_59 : decode cX7_coming 59 = .ok (.aload_n 0, 1) := by decide +kernel
theorem dX7_coming_60 : decode cX7_coming 60 = .ok (.bipush 20, 2) := by decide +kernel
theorem dX7_coming_62 : decode cX7_coming 62 = .ok (.invokevirtual 274, 3) := by decide +kernel
theorem dX7_coming_65 : decode cX7_coming 65 = .ok (.iload_n 3, 1) := by decide +kernel
theorem dX7_coming_66 : decode cX7_coming 66 = .ok (.iconst 5, 1) := by decide +kernel
theorem dX7_coming_67 : decode cX7_coming 67 = .ok (.if_icmp .ne 9, 3) := by decide +kernel
theorem dX7_coming_70 : decode cX7_coming 70 = .ok (.aload_n 0, 1) := by decide +kernel
theorem dX7_coming_71 : decode cX7_coming 71 = .ok (.bipush 51, 2) := by decide +kernel
theorem dX7_coming_73 : decode cX7_coming 73 = .ok (.invokevirtual 274, 3) := by decide +kernel
theorem dX7_coming_76 : decode cX7_coming 76 = .ok (.aload_n 0, 1) := by decide +kernel
theorem dX7_coming_77 : decode cX7_coming 77 = .ok (.bipush 10, 2) := by decide +kernel
theorem dX7_coming_79 : decode cX7_coming 79 = .ok (.invokevirtual 274, 3) := by decide +kernel
theorem dX7_coming_82 : decode cX7_coming 82 = .ok (.iload 4, 2) := by decide +kernel
theorem dX7_coming_84 : decode cX7_coming 84 = .ok (.iload_n 1, 1) := by decide +kernel
theorem dX7_coming_85 : decode cX7_coming 85 = .ok (.iadd, 1) := by decide +kernel
theorem dX7_coming_86 : decode cX7_coming 86 = .ok (.istore 7, 2) := by decide +kernel
theorem dX7_coming_88 : decode cX7_coming 88 = .ok (.iload 5, 2) := by decide +kernel
theorem dX7_coming_90 : decode cX7_coming 90 = .ok (.ifCond .eq 14, 3) := by decide +kernel
theorem dX7_coming_93 : decode cX7_coming 93 = .ok (.iload 7, 2) := by decide +kernel
theorem dX7_coming_95 : decode cX7_coming 95 = .ok (.aload_n 0, 1) := by decide +kernel
theorem dX7_coming_96 : decode cX7_coming 96 = .ok (.getfield 32, 3) := by decide +kernel
theorem dX7_coming_99 : decode cX7_coming 99 = .ok (.iload_n 1, 1) := by decide +kernel
theorem dX7_coming_100 : decode cX7_coming 100 = .ok (.iaload, 1) := by decide +kernel
theorem dX7_coming_101 : decode cX7_coming 101 = .ok (.iadd, 1) := by decide +kernel
theorem dX7_coming_102 : decode cX7_coming 102 = .ok (.istore 7, 2) := by decide +kernel
theorem dX7_coming_104 : decode cX7_coming 104 = .ok (.iload_n 3, 1) := by decide +kernel
theorem dX7_coming_105 : decode cX7_coming 105 = .ok (.iconst 5, 1) := by decide +kernel
theorem dX7_coming_106 : decode cX7_coming 106 = .ok (.if_icmp .ne 9, 3) := by decide +kernel
theorem dX7_coming_109 : decode cX7_coming 109 = .ok (.iload 7, 2) := by decide +kernel
theorem dX7_coming_111 : decode cX7_coming 111 = .ok (.iload_n 1, 1) := by decide +kernel
theorem dX7_coming_112 : decode cX7_coming 112 = .ok (.isub, 1) := by decide +kernel
theorem dX7_coming_113 : decode cX7_coming 113 = .ok (.istore 7, 2) := by decide +kernel
theorem dX7_coming_115 : decode cX7_coming 115 = .ok (.iload_n 3, 1) := by decide +kernel
theorem dX7_coming_116 : decode cX7_coming 116 = .ok (.bipush 6, 2) := by decide +kernel
theorem dX7_coming_118 : decode cX7_coming 118 = .ok (.if_icmp .ne 10, 3) := by decide +kernel
theorem dX7_coming_121 : decode cX7_coming 121 = .ok (.iload 7, 2) := by decide +kernel
theorem dX7_coming_123 : decode cX7_coming 123 = .ok (.iconst 2, 1) := by decide +kernel
theorem dX7_coming_124 : decode cX7_coming 124 = .ok (.imul, 1) := by decide +kernel
theorem dX7_coming_125 : decode cX7_coming 125 = .ok (.goto 5, 3) := by decide +kernel
theorem dX7_coming_128 : decode cX7_coming 128 = .ok (.iload 7, 2) := by decide +kernel
theorem dX7_coming_130 : decode cX7_coming 130 = .ok (.ireturn, 1) := by decide +kernel
theorem dX7_sitting_0 : decode cX7_sitting 0 = .ok (.aload_n 0, 1) := by decide +kernel
theorem dX7_sitting_1 : decode cX7_sitting 1 = .ok (.getfield 29, 3) := by decide +kernel
theorem dX7_sitting_4 : decode cX7_sitting 4 = .ok (.iload_n 1, 1) := by decide +kernel
theorem dX7_sitting_5 : decode cX7_sitting 5 = .ok (.iaload, 1) := by decide +kernel
theorem dX7_sitting_6 : decode cX7_sitting 6 = .ok (.istore_n 3, 1) := by decide +kernel
theorem dX7_sitting_7 : decode cX7_sitting 7 = .ok (.iload_n 2, 1) := by decide +kernel
theorem dX7_sitting_8 : decode cX7_sitting 8 = .ok (.istore 4, 2) := by decide +kernel
theorem dX7_sitting_10 : decode cX7_sitting 10 = .ok (.iload_n 3, 1) := by decide +kernel
theorem dX7_sitting_11 : decode cX7_sitting 11 = .ok (.bipush 6, 2) := by decide +kernel
theorem dX7_sitting_13 : decode cX7_sitting 13 = .ok (.if_icmp .ne 19, 3) := by decide +kernel
theorem dX7_sitting_16 : decode cX7_sitting 16 = .ok (.aload_n 0, 1) := by decide +kernel
theorem dX7_sitting_17 : decode cX7_sitting 17 = .ok (.bipush 71, 2) := by decide +kernel
theorem dX7_sitting_19 : decode cX7_sitting 19 = .ok (.invokevirtual 274, 3) := by decide +kernel
theorem dX7_sitting_22 : decode cX7_sitting 22 = .ok (.iload_n 2, 1) := by decide +kernel
theorem dX7_sitting_23 : decode cX7_sitting 23 = .ok (.aload_n 0, 1) := by decide +kernel
theorem dX7_sitting_24 : decode cX7_sitting 24 = .ok (.getfield 32, 3) := by decide +kernel
theorem dX7_sitting_27 : decode cX7_sitting 27 = .ok (.iload_n 1, 1) := by decide +kernel
theorem dX7_sitting_28 : decode cX7_sitting 28 = .ok (.iaload, 1) := by decide +kernel
theorem dX7_sitting_29 : decode cX7_sitting 29 = .ok (.isub, 1) := by decide +kernel
theorem dX7_sitting_30 : decode cX7_sitting 30 = .ok (.istore 4, 2) := by decide +kernel
theorem dX7_sitting_32 : decode cX7_sitting 32 = .ok (.aload_n 0, 1) := by decide +kernel
theorem dX7_sitting_33 : decode cX7_sitting 33 = .ok (.iload_n 3, 1) := by decide +kernel
theorem dX7_sitting_34 : decode cX7_sitting 34 = .ok (.iconst 2, 1) := by decide +kernel
theorem dX7_sitting_35 : decode cX7_sitting 35 = .ok (.invokevirtual 116, 3) := by decide +kernel
theorem dX7_sitting_38 : decode cX7_sitting 38 = .ok (.istore 5, 2) := by decide +kernel
theorem dX7_sitting_40 : decode cX7_sitting 40 = .ok (.iload 5, 2) := by decide +kernel
theorem dX7_sitting_42 : decode cX7_sitting 42 = .ok (.ifCond .eq 9, 3) := by decide +kernel
theorem dX7_sitting_45 : decode cX7_sitting 45 = .ok (.aload_n 0, 1) := by decide +kernel
theorem dX7_sitting_46 : decode cX7_sitting 46 = .ok (.bipush 30, 2) := by decide +kernel
theorem dX7_sitting_48 : decode cX7_sitting 48 = .ok (.invokevirtual 274, 3) := by decide +kernel
theorem dX7_sitting_51 : decode cX7_sitting 51 = .ok (.aload_n 0, 1) := by decide +kernel
theorem dX7_sitting_52 : decode cX7_sitting 52 = .ok (.bipush 11, 2) := by decide +kernel
theorem dX7_sitting_54 : decode cX7_sitting 54 = .ok (.invokevirtual 274, 3) := by decide +kernel
theorem dX7_sitting_57 : decode cX7_sitting 57 = .ok (.aload_n 0, 1) := by decide +kernel
theorem dX7_sitting_58 : decode cX7_sitting 58 = .ok (.iload_n 1, 1) := by decide +kernel
theorem dX7_sitting_59 : decode cX7_sitting 59 = .ok (.iload 4, 2) := by decide +kernel
theorem dX7_sitting_61 : decode cX7_sitting 61 = .ok (.invokevirtual 277, 3) := by decide +kernel
theorem dX7_sitting_64 : decode cX7_sitting 64 = .ok (.iconst 2, 1) := by decide +kernel
theorem dX7_sitting_65 : decode cX7_sitting 65 = .ok (.imul, 1) := by decide +kernel
theorem dX7_sitting_66 : decode cX7_sitting 66 = .ok (.istore 6, 2) := by decide +kernel
theorem dX7_sitting_68 : decode cX7_sitting 68 = .ok (.iload 5, 2) := by decide +kernel
theorem dX7_sitting_70 : decode cX7_sitting 70 = .ok (.ifCond .eq 10, 3) := by decide +kernel
theorem dX7_sitting_73 : decode cX7_sitting 73 = .ok (.iload 6, 2) := by decide +kernel
theorem dX7_sitting_75 : decode cX7_sitting 75 = .ok (.iconst 3, 1) := by decide +kernel
theorem dX7_sitting_76 : decode cX7_sitting 76 = .ok (.imul, 1) := by decide +kernel
theorem dX7_sitting_77 : decode cX7_sitting 77 = .ok (.goto 5, 3) := by decide +kernel
theorem dX7_sitting_80 : decode cX7_sitting 80 = .ok (.iload 6, 2) := by decide +kernel
theorem dX7_sitting_82 : decode cX7_sitting 82 = .ok (.ireturn, 1) := by decide +kernel
theorem dX7_asking_0 : decode cX7_asking 0 = .ok (.aload_n 0, 1) := by decide +kernel
theorem dX7_asking_1 : decode cX7_asking 1 = .ok (.getfield 29, 3) := by decide +kernel
theorem dX7_asking_4 : decode cX7_asking 4 = .ok (.iload_n 1, 1) := by decide +kernel
theorem dX7_asking_5 : decode cX7_asking 5 = .ok (.iaload, 1) := by decide +kernel
theorem dX7_asking_6 : decode cX7_asking 6 = .ok (.istore_n 3, 1) := by decide +kernel
theorem dX7_asking_7 : decode cX7_asking 7 = .ok (.iload_n 3, 1) := by decide +kernel
theorem dX7_asking_8 : decode cX7_asking 8 = .ok (.iconst 4, 1) := by decide +kernel
theorem dX7_asking_9 : decode cX7_asking 9 = .ok (.if_icmp .ne 9, 3) := by decide +kernel
theorem dX7_asking_12 : decode cX7_asking 12 = .ok (.aload_n 0, 1) := by decide +kernel
theorem dX7_asking_13 : decode cX7_asking 13 = .ok (.bipush 60, 2) := by decide +kernel
theorem dX7_asking_15 : decode cX7_asking 15 = .ok (.invokevirtual 274, 3) := by decide +kernel
theorem dX7_asking_18 : decode cX7_asking 18 = .ok (.iload_n 3, 1) := by decide +kernel
theorem dX7_asking_19 : decode cX7_asking 19 = .ok (.iconst 5, 1) := by decide +kernel
theorem dX7_asking_20 : decode cX7_asking 20 = .ok (.if_icmp .ne 9, 3) := by decide +kernel
theorem dX7_asking_23 : decode cX7_asking 23 = .ok (.aload_n 0, 1) := by decide +kernel
theorem dX7_asking_24 : decode cX7_asking 24 = .ok (.bipush 50, 2) := by decide +kernel
theorem dX7_asking_26 : decode cX7_asking 26 = .ok (.invokevirtual 274, 3) := by decide +kernel
theorem dX7_asking_29 : decode cX7_asking 29 = .ok (.aload_n 0, 1) := by decide +kernel
theorem dX7_asking_30 : decode cX7_asking 30 = .ok (.bipush 12, 2) := by decide +kernel
theorem dX7_asking_32 : decode cX7_asking 32 = .ok (.invokevirtual 274, 3) := by decide +kernel
theorem dX7_asking_35 : decode cX7_asking 35 = .ok (.aload_n 0, 1) := by decide +kernel
theorem dX7_asking_36 : decode cX7_asking 36 = .ok (.iload_n 1, 1) := by decide +kernel
theorem dX7_asking_37 : decode cX7_asking 37 = .ok (.iload_n 2, 1) := by decide +kernel
theorem dX7_asking_38 : decode cX7_asking 38 = .ok (.invokevirtual 279, 3) := by decide +kernel
theorem dX7_asking_41 : decode cX7_asking 41 = .ok (.istore 4, 2) := by decide +kernel
theorem dX7_asking_43 : decode cX7_asking 43 = .ok (.iload 4, 2) := by decide +kernel
theorem dX7_asking_45 : decode cX7_asking 45 = .ok (.aload_n 0, 1) := by decide +kernel
theorem dX7_asking_46 : decode cX7_asking 46 = .ok (.iload_n 1, 1) := by decide +kernel
theorem dX7_asking_47 : decode cX7_asking 47 = .ok (.iload_n 2, 1) := by decide +kernel
theorem dX7_asking_48 : decode cX7_asking 48 = .ok (.aload_n 0, 1) := by decide +kernel
theorem dX7_asking_49 : decode cX7_asking 49 = .ok (.getfield 32, 3) := by decide +kernel
theorem dX7_asking_52 : decode cX7_asking 52 = .ok (.iload_n 1, 1) := by decide +kernel
theorem dX7_asking_53 : decode cX7_asking 53 = .ok (.iaload, 1) := by decide +kernel
theorem dX7_asking_54 : decode cX7_asking 54 = .ok (.isub, 1) := by decide +kernel
theorem dX7_asking_55 : decode cX7_asking 55 = .ok (.invokevirtual 277, 3) := by decide +kernel
theorem dX7_asking_58 : decode cX7_asking 58 = .ok (.ixor, 1) := by decide +kernel
theorem dX7_asking_59 : decode cX7_asking 59 = .ok (.istore 4, 2) := by decide +kernel
theorem dX7_asking_61 : decode cX7_asking 61 = .ok (.iload_n 3, 1) := by decide +kernel
theorem dX7_asking_62 : decode cX7_asking 62 = .ok (.iconst 5, 1) := by decide +kernel
theorem dX7_asking_63 : decode cX7_asking 63 = .ok (.if_icmp .ne 9, 3) := by decide +kernel
theorem dX7_asking_66 : decode cX7_asking 66 = .ok (.iload 4, 2) := by decide +kernel
theorem dX7_asking_68 : decode cX7_asking 68 = .ok (.ineg, 1) := by decide +kernel
theorem dX7_asking_69 : decode cX7_asking 69 = .ok (.goto 17, 3) := by decide +kernel
theorem dX7_asking_72 : decode cX7_asking 72 = .ok (.iload_n 3, 1) := by decide +kernel
theorem dX7_asking_73 : decode cX7_asking 73 = .ok (.iconst 4, 1) := by decide +kernel
theorem dX7_asking_74 : decode cX7_asking 74 = .ok (.if_icmp .ne 10, 3) := by decide +kernel
theorem dX7_asking_77 : decode cX7_asking 77 = .ok (.iload 4, 2) := by decide +kernel
theorem dX7_asking_79 : decode cX7_asking 79 = .ok (.iconst 5, 1) := by decide +kernel
theorem dX7_asking_80 : decode cX7_asking 80 = .ok (.ixor, 1) := by decide +kernel
theorem dX7_asking_81 : decode cX7_asking 81 = .ok (.goto 5, 3) := by decide +kernel
theorem dX7_asking_84 : decode cX7_asking 84 = .ok (.iload 4, 2) := by decide +kernel
theorem dX7_asking_86 : decode cX7_asking 86 = .ok (.ireturn, 1) := by decide +kernel
theorem dX7_act_0 : decode cX7_act 0 = .ok (.aload_n 0, 1) := by decide +kernel
theorem dX7_act_1 : decode cX7_act 1 = .ok (.iconst 0, 1) := by decide +kernel
theorem dX7_act_2 : decode cX7_act 2 = .ok (.putfield 271, 3) := by decide +kernel
theorem dX7_act_5 : decode cX7_act 5 = .ok (.aload_n 0, 1) := by decide +kernel
theorem dX7_act_6 : decode cX7_act 6 = .ok (.iload_n 1, 1) := by decide +kernel
theorem dX7_act_7 : decode cX7_act 7 = .ok (.invokevirtual 113, 3) := by decide +kernel
theorem dX7_act_10 : decode cX7_act 10 = .ok (.ifCond .eq 12, 3) := by decide +kernel
theorem dX7_act_13 : decode cX7_act 13 = .ok (.iload_n 2, 1) := by decide +kernel
theorem dX7_act_14 : decode cX7_act 14 = .ok (.ifCond .lt 8, 3) := by decide +kernel
theorem dX7_act_17 : decode cX7_act 17 = .ok (.iload_n 2, 1) := by decide +kernel
theorem dX7_act_18 : decode cX7_act 18 = .ok (.iconst 2, 1) := by decide +kernel
theorem dX7_act_19 : decode cX7_act 19 = .ok (.if_icmp .le 5, 3) := by decide +kernel
theorem dX7_act_22 : decode cX7_act 22 = .ok (.iconst 0, 1) := by decide +kernel
theorem dX7_act_23 : decode cX7_act 23 = .ok (.ireturn, 1) := by decide +kernel
theorem dX7_act_24 : decode cX7_act 24 = .ok (.iload_n 2, 1) := by decide +kernel
theorem dX7_act_25 : decode cX7_act 25 = .ok (.ifCond .ne 12, 3) := by decide +kernel
theorem dX7_act_28 : decode cX7_act 28 = .ok (.aload_n 0, 1) := by decide +kernel
theorem dX7_act_29 : decode cX7_act 29 = .ok (.iload_n 1, 1) := by decide +kernel
theorem dX7_act_30 : decode cX7_act 30 = .ok (.iload_n 3, 1) := by decide +kernel
theorem dX7_act_31 : decode cX7_act 31 = .ok (.invokevirtual 277, 3) := by decide +kernel
theorem dX7_act_34 : decode cX7_act 34 = .ok (.goto 23, 3) := by decide +kernel
theorem dX7_act_37 : decode cX7_act 37 = .ok (.iload_n 2, 1) := by decide +kernel
theorem dX7_act_38 : decode cX7_act 38 = .ok (.iconst 1, 1) := by decide +kernel
theorem dX7_act_39 : decode cX7_act 39 = .ok (.if_icmp .ne 12, 3) := by decide +kernel
theorem dX7_act_42 : decode cX7_act 42 = .ok (.aload_n 0, 1) := by decide +kernel
theorem dX7_act_43 : decode cX7_act 43 = .ok (.iload_n 1, 1) := by decide +kernel
theorem dX7_act_44 : decode cX7_act 44 = .ok (.iload_n 3, 1) := by decide +kernel
theorem dX7_act_45 : decode cX7_act 45 = .ok (.invokevirtual 279, 3) := by decide +kernel
theorem dX7_act_48 : decode cX7_act 48 = .ok (.goto 9, 3) := by decide +kernel
theorem dX7_act_51 : decode cX7_act 51 = .ok (.aload_n 0, 1) := by decide +kernel
theorem dX7_act_52 : decode cX7_act 52 = .ok (.iload_n 1, 1) := by decide +kernel
theorem dX7_act_53 : decode cX7_act 53 = .ok (.iload_n 3, 1) := by decide +kernel
theorem dX7_act_54 : decode cX7_act 54 = .ok (.invokevirtual 282, 3) := by decide +kernel
theorem dX7_act_57 : decode cX7_act 57 = .ok (.ireturn, 1) := by decide +kernel
theorem dX7_trace_0 : decode cX7_trace 0 = .ok (.iload_n 1, 1) := by decide +kernel
theorem dX7_trace_1 : decode cX7_trace 1 = .ok (.ifCond .lt 26, 3) := by decide +kernel
theorem dX7_trace_4 : decode cX7_trace 4 = .ok (.iload_n 1, 1) := by decide +kernel
theorem dX7_trace_5 : decode cX7_trace 5 = .ok (.bipush 20, 2) := by decide +kernel
theorem dX7_trace_7 : decode cX7_trace 7 = .ok (.if_icmp .ge 20, 3) := by decide +kernel
theorem dX7_trace_10 : decode cX7_trace 10 = .ok (.iload_n 1, 1) := by decide +kernel
theorem dX7_trace_11 : decode cX7_trace 11 = .ok (.aload_n 0, 1) := by decide +kernel
theorem dX7_trace_12 : decode cX7_trace 12 = .ok (.getfield 271, 3) := by decide +kernel
theorem dX7_trace_15 : decode cX7_trace 15 = .ok (.if_icmp .ge 12, 3) := by decide +kernel
theorem dX7_trace_18 : decode cX7_trace 18 = .ok (.aload_n 0, 1) := by decide +kernel
theorem dX7_trace_19 : decode cX7_trace 19 = .ok (.getfield 99, 3) := by decide +kernel
theorem dX7_trace_22 : decode cX7_trace 22 = .ok (.iload_n 1, 1) := by decide +kernel
theorem dX7_trace_23 : decode cX7_trace 23 = .ok (.iaload, 1) := by decide +kernel
theorem dX7_trace_24 : decode cX7_trace 24 = .ok (.goto 4, 3) := by decide +kernel
theorem dX7_trace_27 : decode cX7_trace 27 = .ok (.iconst (-1), 1) := by decide +kernel
theorem dX7_trace_28 : decode cX7_trace 28 = .ok (.ireturn, 1) := by decide +kernel
theorem dX7_image_0 : decode cX7_image 0 = .ok (.aload_n 0, 1) := by decide +kernel
theorem dX7_image_1 : decode cX7_image 1 = .ok (.iconst 1, 1) := by decide +kernel
theorem dX7_image_2 : decode cX7_image 2 = .ok (.putfield 285, 3) := by decide +kernel
theorem dX7_image_5 : decode cX7_image 5 = .ok (.aload_n 0, 1) := by decide +kernel
theorem dX7_image_6 : decode cX7_image 6 = .ok (.aload_n 0, 1) := by decide +kernel
theorem dX7_image_7 : decode cX7_image 7 = .ok (.getfield 90, 3) := by decide +kernel
theorem dX7_image_10 : decode cX7_image 10 = .ok (.iconst 0, 1) := by decide +kernel
theorem dX7_image_11 : decode cX7_image 11 = .ok (.invokevirtual 189, 3) := by decide +kernel
theorem dX7_image_14 : decode cX7_image 14 = .ok (.aload_n 0, 1) := by decide +kernel
theorem dX7_image_15 : decode cX7_image 15 = .ok (.getfield 102, 3) := by decide +kernel
theorem dX7_image_18 : decode cX7_image 18 = .ok (.ireturn, 1) := by decide +kernel
theorem dX7_restore_0 : decode cX7_restore 0 = .ok (.aload_n 0, 1) := by decide +kernel
theorem dX7_restore_1 : decode cX7_restore 1 = .ok (.getfield 285, 3) := by decide +kernel
theorem dX7_restore_4 : decode cX7_restore 4 = .ok (.ifCond .ne 10, 3) := by decide +kernel
theorem dX7_restore_7 : decode cX7_restore 7 = .ok (.aload_n 0, 1) := by decide +kernel
theorem dX7_restore_8 : decode cX7_restore 8 = .ok (.bipush (-6), 2) := by decide +kernel
theorem dX7_restore_10 : decode cX7_restore 10 = .ok (.invokevirtual 109, 3) := by decide +kernel
theorem dX7_restore_13 : decode cX7_restore 13 = .ok (.ireturn, 1) := by decide +kernel
theorem dX7_restore_14 : decode cX7_restore 14 = .ok (.aload_n 0, 1) := by decide +kernel
theorem dX7_restore_15 : decode cX7_restore 15 = .ok (.aload_n 0, 1) := by decide +kernel
theorem dX7_restore_16 : decode cX7_restore 16 = .ok (.getfield 90, 3) := by decide +kernel
theorem dX7_restore_19 : decode cX7_restore 19 = .ok (.iconst 1, 1) := by decide +kernel
theorem dX7_restore_20 : decode cX7_restore 20 = .ok (.invokevirtual 189, 3) := by decide +kernel
theorem dX7_restore_23 : decode cX7_restore 23 = .ok (.iconst 0, 1) := by decide +kernel
theorem dX7_restore_24 : decode cX7_restore 24 = .ok (.istore_n 1, 1) := by decide +kernel
theorem dX7_restore_25 : decode cX7_restore 25 = .ok (.iload_n 1, 1) := by decide +kernel
theorem dX7_restore_26 : decode cX7_restore 26 = .ok (.bipush 8, 2) := by decide +kernel
theorem dX7_restore_28 : decode cX7_restore 28 = .ok (.if_icmp .ge 39, 3) := by decide +kernel
theorem dX7_restore_31 : decode cX7_restore 31 = .ok (.aload_n 0, 1) := by decide +kernel
theorem dX7_restore_32 : decode cX7_restore 32 = .ok (.getfield 56, 3) := by decide +kernel
theorem dX7_restore_35 : decode cX7_restore 35 = .ok (.iload_n 1, 1) := by decide +kernel
theorem dX7_restore_36 : decode cX7_restore 36 = .ok (.iaload, 1) := by decide +kernel
theorem dX7_restore_37 : decode cX7_restore 37 = .ok (.iconst 2, 1) := by decide +kernel
theorem dX7_restore_38 : decode cX7_restore 38 = .ok (.if_icmp .ne 23, 3) := by decide +kernel
theorem dX7_restore_41 : decode cX7_restore 41 = .ok (.aload_n 0, 1) := by decide +kernel
theorem dX7_restore_42 : decode cX7_restore 42 = .ok (.getfield 65, 3) := by decide +kernel
theorem dX7_restore_45 : decode cX7_restore 45 = .ok (.iload_n 1, 1) := by decide +kernel
theorem dX7_restore_46 : decode cX7_restore 46 = .ok (.iaload, 1) := by decide +kernel
theorem dX7_restore_47 : decode cX7_restore 47 = .ok (.aload_n 0, 1) := by decide +kernel
theorem dX7_restore_48 : decode cX7_restore 48 = .ok (.getfield 102, 3) := by decide +kernel
theorem dX7_restore_51 : decode cX7_restore 51 = .ok (.if_icmp .lt 10, 3) := by decide +kernel
theorem dX7_restore_54 : decode cX7_restore 54 = .ok (.aload_n 0, 1) := by decide +kernel
theorem dX7_restore_55 : decode cX7_restore 55 = .ok (.getfield 56, 3) := by decide +kernel
theorem dX7_restore_58 : decode cX7_restore 58 = .ok (.iload_n 1, 1) := by decide +kernel
theorem dX7_restore_59 : decode cX7_restore 59 = .ok (.iconst 0, 1) := by decide +kernel
theorem dX7_restore_60 : decode cX7_restore 60 = .ok (.iastore, 1) := by decide +kernel
theorem dX7_restore_61 : decode cX7_restore 61 = .ok (.iinc 1 1, 3) := by decide +kernel
theorem dX7_restore_64 : decode cX7_restore 64 = .ok (.goto (-39), 3) := by decide +kernel
theorem dX7_restore_67 : decode cX7_restore 67 = .ok (.aload_n 0, 1) := by decide +kernel
theorem dX7_restore_68 : decode cX7_restore 68 = .ok (.getfield 102, 3) := by decide +kernel
theorem dX7_restore_71 : decode cX7_restore 71 = .ok (.ireturn, 1) := by decide +kernel
theorem dX7_together_0 : decode cX7_together 0 = .ok (.iconst 0, 1) := by decide +kernel
theorem dX7_together_1 : decode cX7_together 1 = .ok (.istore_n 2, 1) := by decide +kernel
theorem dX7_together_2 : decode cX7_together 2 = .ok (.iconst 0, 1) := by decide +kernel
theorem dX7_together_3 : decode cX7_together 3 = .ok (.istore_n 3, 1) := by decide +kernel
theorem dX7_together_4 : decode cX7_together 4 = .ok (.iload_n 3, 1) := by decide +kernel
theorem dX7_together_5 : decode cX7_together 5 = .ok (.aload_n 0, 1) := by decide +kernel
theorem dX7_together_6 : decode cX7_together 6 = .ok (.getfield 102, 3) := by decide +kernel
theorem dX7_together_9 : decode cX7_together 9 = .ok (.if_icmp .ge 15, 3) := by decide +kernel
theorem dX7_together_12 : decode cX7_together 12 = .ok (.iload_n 2, 1) := by decide +kernel
theorem dX7_together_13 : decode cX7_together 13 = .ok (.aload_n 1, 1) := by decide +kernel
theorem dX7_together_14 : decode cX7_together 14 = .ok (.iload_n 3, 1) := by decide +kernel
theorem dX7_together_15 : decode cX7_together 15 = .ok (.iaload, 1) := by decide +kernel
theorem dX7_together_16 : decode cX7_together 16 = .ok (.iadd, 1) := by decide +kernel
theorem dX7_together_17 : decode cX7_together 17 = .ok (.istore_n 2, 1) := by decide +kernel
theorem dX7_together_18 : decode cX7_together 18 = .ok (.iinc 3 1, 3) := by decide +kernel
theorem dX7_together_21 : decode cX7_together 21 = .ok (.goto (-17), 3) := by decide +kernel
theorem dX7_together_24 : decode cX7_together 24 = .ok (.iload_n 2, 1) := by decide +kernel
theorem dX7_together_25 : decode cX7_together 25 = .ok (.ireturn, 1) := by decide +kernel
theorem dX7_status_0 : decode cX7_status 0 = .ok (.iload_n 1, 1) := by decide +kernel
theorem dX7_status_1 : decode cX7_status 1 = .ok (.bipush 11, 2) := by decide +kernel
theorem dX7_status_3 : decode cX7_status 3 = .ok (.if_icmp .lt 19, 3) := by decide +kernel
theorem dX7_status_6 : decode cX7_status 6 = .ok (.iload_n 1, 1) := by decide +kernel
theorem dX7_status_7 : decode cX7_status 7 = .ok (.bipush 17, 2) := by decide +kernel
theorem dX7_status_9 : decode cX7_status 9 = .ok (.if_icmp .gt 13, 3) := by decide +kernel
theorem dX7_status_12 : decode cX7_status 12 = .ok (.aload_n 0, 1) := by decide +kernel
theorem dX7_status_13 : decode cX7_status 13 = .ok (.getfield 25, 3) := by decide +kernel
theorem dX7_status_16 : decode cX7_status 16 = .ok (.iload_n 1, 1) := by decide +kernel
theorem dX7_status_17 : decode cX7_status 17 = .ok (.bipush 10, 2) := by decide +kernel
theorem dX7_status_19 : decode cX7_status 19 = .ok (.isub, 1) := by decide +kernel
theorem dX7_status_20 : decode cX7_status 20 = .ok (.iaload, 1) := by decide +kernel
theorem dX7_status_21 : decode cX7_status 21 = .ok (.ireturn, 1) := by decide +kernel
theorem dX7_status_22 : decode cX7_status 22 = .ok (.iload_n 1, 1) := by decide +kernel
theorem dX7_status_23 : decode cX7_status 23 = .ok (.tableswitch 111 0 9 #[53, 58, 63, 68, 73, 78, 83, 92, 101, 106], 53) := by decide +kernel
theorem dX7_status_76 : decode cX7_status 76 = .ok (.aload_n 0, 1) := by decide +kernel
theorem dX7_status_77 : decode cX7_status 77 = .ok (.getfield 102, 3) := by decide +kernel
theorem dX7_status_80 : decode cX7_status 80 = .ok (.ireturn, 1) := by decide +kernel
theorem dX7_status_81 : decode cX7_status 81 = .ok (.aload_n 0, 1) := by decide +kernel
theorem dX7_status_82 : decode cX7_status 82 = .ok (.getfield 7, 3) := by decide +kernel
theorem dX7_status_85 : decode cX7_status 85 = .ok (.ireturn, 1) := by decide +kernel
theorem dX7_status_86 : decode cX7_status 86 = .ok (.aload_n 0, 1) := by decide +kernel
theorem dX7_status_87 : decode cX7_status 87 = .ok (.getfield 131, 3) := by decide +kernel
theorem dX7_status_90 : decode cX7_status 90 = .ok (.ireturn, 1) := by decide +kernel
theorem dX7_status_91 : decode cX7_status 91 = .ok (.aload_n 0, 1) := by decide +kernel
theorem dX7_status_92 : decode cX7_status 92 = .ok (.getfield 13, 3) := by decide +kernel
theorem dX7_status_95 : decode cX7_status 95 = .ok (.ireturn, 1) := by decide +kernel
theorem dX7_status_96 : decode cX7_status 96 = .ok (.aload_n 0, 1) := by decide +kernel
theorem dX7_status_97 : decode cX7_status 97 = .ok (.getfield 16, 3) := by decide +kernel
theorem dX7_status_100 : decode cX7_status 100 = .ok (.ireturn, 1) := by decide +kernel
theorem dX7_status_101 : decode cX7_status 101 = .ok (.aload_n 0, 1) := by decide +kernel
theorem dX7_status_102 : decode cX7_status 102 = .ok (.getfield 183, 3) := by decide +kernel
theorem dX7_status_105 : decode cX7_status 105 = .ok (.ireturn, 1) := by decide +kernel
theorem dX7_status_106 : decode cX7_status 106 = .ok (.aload_n 0, 1) := by decide +kernel
theorem dX7_status_107 : decode cX7_status 107 = .ok (.aload_n 0, 1) := by decide +kernel
theorem dX7_status_108 : decode cX7_status 108 = .ok (.getfield 53, 3) := by decide +kernel
theorem dX7_status_111 : decode cX7_status 111 = .ok (.invokevirtual 289, 3) := by decide +kernel
theorem dX7_status_114 : decode cX7_status 114 = .ok (.ireturn, 1) := by decide +kernel
theorem dX7_status_115 : decode cX7_status 115 = .ok (.aload_n 0, 1) := by decide +kernel
theorem dX7_status_116 : decode cX7_status 116 = .ok (.aload_n 0, 1) := by decide +kernel
theorem dX7_status_117 : decode cX7_status 117 = .ok (.getfield 50, 3) := by decide +kernel
theorem dX7_status_120 : decode cX7_status 120 = .ok (.invokevirtual 289, 3) := by decide +kernel
theorem dX7_status_123 : decode cX7_status 123 = .ok (.ireturn, 1) := by decide +kernel
theorem dX7_status_124 : decode cX7_status 124 = .ok (.aload_n 0, 1) := by decide +kernel
theorem dX7_status_125 : decode cX7_status 125 = .ok (.getfield 19, 3) := by decide +kernel
theorem dX7_status_128 : decode cX7_status 128 = .ok (.ireturn, 1) := by decide +kernel
theorem dX7_status_129 : decode cX7_status 129 = .ok (.aload_n 0, 1) := by decide +kernel
theorem dX7_status_130 : decode cX7_status 130 = .ok (.getfield 271, 3) := by decide +kernel
theorem dX7_status_133 : decode cX7_status 133 = .ok (.ireturn, 1) := by decide +kernel
theorem dX7_status_134 : decode cX7_status 134 = .ok (.iconst (-1), 1) := by decide +kernel
theorem dX7_status_135 : decode cX7_status 135 = .ok (.ireturn, 1) := by decide +kernel
end
section
/-! MATH, AND SMALL TOOLS OF WALKS -/
theorem mt_ini : Cond.initialized "java/lang/Math" ∈ TB := List.mem_filter.mpr (by decide +kernel : Cond.initialized "java/lang/Math" ∈ lw_tbl ∧ goodWord (Cond.initialized "java/lang/Math") = true)
theorem mt_abs : Cond.static Lib.Math.abs.name ∈ TB ∧ Cond.code Lib.Math.abs.name Lib.Math.abs.code 1 (some .int) ∈ TB := ⟨List.mem_filter.mpr (by decide +kernel), List.mem_filter.mpr (by decide +kernel)⟩
theorem mt_max : Cond.static Lib.Math.max.name ∈ TB ∧ Cond.code Lib.Math.max.name Lib.Math.max.code 2 (some .int) ∈ TB := ⟨List.mem_filter.mpr (by decide +kernel), List.mem_filter.mpr (by decide +kernel)⟩
theorem mt_min : Cond.static Lib.Math.min.name ∈ TB ∧ Cond.code Lib.Math.min.name Lib.Math.min.code 2 (some .int) ∈ TB := ⟨List.mem_filter.mpr (by decide +kernel), List.mem_filter.mpr (by decide +kernel)⟩
theorem cat_sum0 {E : Ev} {st : List AV} {n : Nat} (h : (st.map vcat).sum + 13 ≤ n) : ((st.map (cv E)).map fun v => v.category).sum + 13 ≤ n := by
  have : (st.map (cv E)).map (fun v => v.category) = st.map vcat := by rw [List.map_map]; congr 1; funext v; exact cv_vcat
  rw [this]; exact h
section RX
variable {E : Ev} {R : Room} {k : MK} {Z : ZT} {ca sl pc : Nat} {lv : List (Option AV)} {st : List AV} {M : Mem}
theorem n_mabs {idx : Nat} {x : Int32} (hd : decode k.2.1 pc = .ok (.invokestatic idx, 3)) (hl0 : Cond.methodLink k.1.cls idx Lib.Math.abs.name ∈ TB) (hR : 1 ≤ R.frames ∧ (st.map vcat).sum + 13 ≤ R.locals) (hf : ca ≤ R.cells ∧ sl ≤ R.slots) (h : G E R k Z ca sl (pc + 3) lv (vI (if 0 ≤ x then x else 0 - x) :: st) M) : G E R k Z ca sl pc lv (vI x :: st) M :=
  fun p l e s m args below meth c H locs ls C hw hy hS hl => va_mabs C.1 C.2.1 (C.2.2.1.trans hl.2.1.symm) C.2.2.2.2.2.1 (C.2.2.2.2.2.2.1 _ hl0) (C.2.2.2.2.2.2.1 _ mt_abs.1) (C.2.2.2.2.2.2.1 _ mt_ini) (C.2.2.2.2.2.2.1 _ mt_abs.2) hR.1 (cat_sum0 hR.2) hf.1 hf.2 hd (h p l e s m args below meth c H locs ls C hw hy hS hl)
theorem n_mmax {idx : Nat} {x y : Int32} (hd : decode k.2.1 pc = .ok (.invokestatic idx, 3)) (hl0 : Cond.methodLink k.1.cls idx Lib.Math.max.name ∈ TB) (hR : 1 ≤ R.frames ∧ (st.map vcat).sum + 13 ≤ R.locals) (hf : ca ≤ R.cells ∧ sl ≤ R.slots) (h : G E R k Z ca sl (pc + 3) lv (vI (if x < y then y else x) :: st) M) : G E R k Z ca sl pc lv (vI y :: vI x :: st) M :=
  fun p l e s m args below meth c H locs ls C hw hy hS hl => va_mmax C.1 C.2.1 (C.2.2.1.trans hl.2.1.symm) C.2.2.2.2.2.1 (C.2.2.2.2.2.2.1 _ hl0) (C.2.2.2.2.2.2.1 _ mt_max.1) (C.2.2.2.2.2.2.1 _ mt_ini) (C.2.2.2.2.2.2.1 _ mt_max.2) hR.1 (cat_sum0 hR.2) hf.1 hf.2 hd (h p l e s m args below meth c H locs ls C hw hy hS hl)
theorem n_mmin {idx : Nat} {x y : Int32} (hd : decode k.2.1 pc = .ok (.invokestatic idx, 3)) (hl0 : Cond.methodLink k.1.cls idx Lib.Math.min.name ∈ TB) (hR : 1 ≤ R.frames ∧ (st.map vcat).sum + 13 ≤ R.locals) (hf : ca ≤ R.cells ∧ sl ≤ R.slots) (h : G E R k Z ca sl (pc + 3) lv (vI (if y < x then y else x) :: st) M) : G E R k Z ca sl pc lv (vI y :: vI x :: st) M :=
  fun p l e s m args below meth c H locs ls C hw hy hS hl => va_mmin C.1 C.2.1 (C.2.2.1.trans hl.2.1.symm) C.2.2.2.2.2.1 (C.2.2.2.2.2.2.1 _ hl0) (C.2.2.2.2.2.2.1 _ mt_min.1) (C.2.2.2.2.2.2.1 _ mt_ini) (C.2.2.2.2.2.2.1 _ mt_min.2) hR.1 (cat_sum0 hR.2) hf.1 hf.2 hd (h p l e s m args below meth c H locs ls C hw hy hS hl)
theorem g_top {x : Int32} (h : ∀ y : Int32, y = x → G E R k Z ca sl pc lv (vI y :: st) M) : G E R k Z ca sl pc lv (vI x :: st) M := h x rfl
theorem g_topL {x : Int64} (h : ∀ y : Int64, y = x → G E R k Z ca sl pc lv (vL y :: st) M) : G E R k Z ca sl pc lv (vL x :: st) M := h x rfl
theorem g_mem (h : ∀ M', M' = M → G E R k Z ca sl pc lv st M') : G E R k Z ca sl pc lv st M := h M rfl
theorem n_alenS {t n : Nat} (hd : decode k.2.1 pc = .ok (.arraylength, 1)) (ht : t < 4) (hn : (roV t).length = n) (h : G E R k Z ca sl (pc + 1) lv (vI (nI n) :: st) M) : G E R k Z ca sl pc lv (vS t :: st) M := g_alenS hd ht (hn ▸ h)
theorem n_ialdS {t j : Nat} {i v : Int32} (hd : decode k.2.1 pc = .ok (.iaload, 1)) (ht : t < 4) (hi : i = nI j) (hj : j < (roV t).length) (hv : (roV t).getD j 0 = v) (h : G E R k Z ca sl (pc + 1) lv (vI v :: st) M) : G E R k Z ca sl pc lv (vI i :: vS t :: st) M := g_ialdS hd ht hi hj (hv ▸ h)
end RX
theorem qI {Q : QT} {M : Mem} {x y : Int32} (h : Q (some (vI x)) M) (e : y = x) : Q (some (vI y)) M := e ▸ h
theorem qL {Q : QT} {M : Mem} {x y : Int64} (h : Q (some (vL x)) M) (e : y = x) : Q (some (vL y)) M := e ▸ h
theorem qM {Q : QT} {r : Option AV} {M M' : Mem} (h : Q r M) (e : M' = M) : Q r M' := e ▸ h
theorem sw_out {x : Int32} {lo hi : Int} (h : ¬ (lo ≤ x.toInt ∧ x.toInt ≤ hi)) : x.toInt < lo ∨ hi < x.toInt := by omega
theorem sw_ne {x v : Int32} (h : ¬ x = v) : ¬ x.toInt = v.toInt := fun q => h (Int32.toInt_inj.mp q)
end
section
/-! SMALL METHODS OF THE CLASS -/
theorem zcs : ((-7) : Int32).toInt = -7 ∧ ((-6) : Int32).toInt = -6 ∧ ((-5) : Int32).toInt = -5 ∧ ((-4) : Int32).toInt = -4 ∧ ((-3) : Int32).toInt = -3 ∧ ((-2) : Int32).toInt = -2 ∧ ((-1) : Int32).toInt = -1 ∧ ((0) : Int32).toInt = 0 ∧ ((1) : Int32).toInt = 1 ∧ ((2) : Int32).toInt = 2 ∧ ((3) : Int32).toInt = 3 ∧ ((4) : Int32).toInt = 4 ∧ ((5) : Int32).toInt = 5 ∧ ((6) : Int32).toInt = 6 ∧ ((7) : Int32).toInt = 7 ∧ ((8) : Int32).toInt = 8 ∧ ((9) : Int32).toInt = 9 ∧ ((10) : Int32).toInt = 10 ∧ ((11) : Int32).toInt = 11 ∧ ((12) : Int32).toInt = 12 ∧ ((13) : Int32).toInt = 13 ∧ ((14) : Int32).toInt = 14 ∧ ((15) : Int32).toInt = 15 ∧ ((16) : Int32).toInt = 16 ∧ ((17) : Int32).toInt = 17 ∧ ((18) : Int32).toInt = 18 ∧ ((19) : Int32).toInt = 19 ∧ ((20) : Int32).toInt = 20 ∧ ((21) : Int32).toInt = 21 ∧ ((22) : Int32).toInt = 22 ∧ ((23) : Int32).toInt = 23 ∧ ((24) : Int32).toInt = 24 ∧ ((25) : Int32).toInt = 25 ∧ ((26) : Int32).toInt = 26 ∧ ((27) : Int32).toInt = 27 ∧ ((28) : Int32).toInt = 28 ∧ ((29) : Int32).toInt = 29 ∧ ((30) : Int32).toInt = 30 ∧ ((31) : Int32).toInt = 31 ∧ ((32) : Int32).toInt = 32 ∧ ((63) : Int32).toInt = 63 ∧ ((99) : Int32).toInt = 99 ∧ ((100) : Int32).toInt = 100 ∧ ((160) : Int32).toInt = 160 ∧ ((1000) : Int32).toInt = 1000 ∧ ((1024) : Int32).toInt = 1024 ∧ ((-10) : Int32).toInt = -10 ∧ ((-1000) : Int32).toInt = -1000 := by decide +kernel
theorem zn : (nI 0).toInt = 0 ∧ (nI 1).toInt = 1 ∧ (nI 2).toInt = 2 ∧ (nI 3).toInt = 3 ∧ (nI 4).toInt = 4 ∧ (nI 5).toInt = 5 ∧ (nI 6).toInt = 6 ∧ (nI 7).toInt = 7 ∧ (nI 8).toInt = 8 ∧ (nI 9).toInt = 9 ∧ (nI 10).toInt = 10 ∧ (nI 11).toInt = 11 ∧ (nI 12).toInt = 12 ∧ (nI 13).toInt = 13 ∧ (nI 14).toInt = 14 ∧ (nI 15).toInt = 15 ∧ (nI 16).toInt = 16 ∧ (nI 17).toInt = 17 ∧ (nI 18).toInt = 18 ∧ (nI 19).toInt = 19 ∧ (nI 20).toInt = 20 ∧ (nI 21).toInt = 21 ∧ (nI 22).toInt = 22 ∧ (nI 23).toInt = 23 ∧ (nI 24).toInt = 24 ∧ (nI 25).toInt = 25 ∧ (nI 26).toInt = 26 ∧ (nI 27).toInt = 27 ∧ (nI 28).toInt = 28 ∧ (nI 29).toInt = 29 ∧ (nI 30).toInt = 30 ∧ (nI 31).toInt = 31 ∧ (nI 32).toInt = 32 ∧ (nI 63).toInt = 63 ∧ (nI 99).toInt = 99 ∧ (nI 100).toInt = 100 ∧ (nI 160).toInt = 160 ∧ (nI 1000).toInt = 1000 ∧ (nI 1024).toInt = 1024 := by decide +kernel
def b2 (p : Prop) [Decidable p] : Int32 := if p then 1 else 0
theorem b2_t {p : Prop} [Decidable p] (h : p) : 1 = b2 p := (if_pos h).symm
theorem b2_f {p : Prop} [Decidable p] (h : ¬ p) : 0 = b2 p := (if_neg h).symm
theorem b2_1 {p : Prop} [Decidable p] : b2 p = 1 ↔ p := by unfold b2; split <;> simp [*]
theorem b2_0 {p : Prop} [Decidable p] : b2 p = 0 ↔ ¬ p := by unfold b2; split <;> simp [*]
/-- an int from 0 to below n -/
abbrev IN (x : Int32) (n : Nat) : Prop := 0 ≤ x.toInt ∧ x.toInt < (n : Int)
theorem IN_nI {x : Int32} {n : Nat} (h : IN x n) : x = nI x.toNatClampNeg ∧ x.toNatClampNeg < n := by
  have hc : x.toNatClampNeg = x.toInt.toNat := rfl
  have hx := Int32.toInt_lt x
  refine ⟨Int32.toInt_inj.mp ?_, by omega⟩
  rw [nI_toInt (by omega)]; omega
theorem IN_of {j n : Nat} (h : j < n) (hn : n ≤ 2 ^ 31) : IN (nI j) n := by
  unfold IN; rw [nI_toInt (by omega)]; omega
theorem clamp_eq {x : Int32} (h : ¬ x < 0) : x = nI x.toNatClampNeg := by
  obtain ⟨j, hj, rfl⟩ := nI_of h
  rw [nI_clamp hj]
theorem clamp_lt {x : Int32} {n : Nat} (h : ¬ x < 0) (h2 : ¬ nI n ≤ x) (hn : n < 2 ^ 31) : x.toNatClampNeg < n := by
  obtain ⟨j, hj, rfl⟩ := nI_of h
  rw [nI_clamp hj]
  rw [nI_leI hn hj] at h2; omega
def shx (s : Int32) : Nat := if IN s 8 then s.toNatClampNeg else 8
theorem shx_lt (s : Int32) : shx s < 9 := by
  unfold shx; split
  · rename_i h; have := (IN_nI h).2; omega
  · omega
def pix (i : Int32) : Nat := if IN i 10 then i.toNatClampNeg else 10
theorem pix_lt (s : Int32) : pix s < 11 := by
  unfold pix; split
  · rename_i h; have := (IN_nI h).2; omega
  · omega
theorem pix_nI {j : Nat} (h : j < 10) : pix (nI j) = j := by
  unfold pix; rw [if_pos (IN_of h (by decide)), nI_clamp (by omega)]
theorem shx_nI {j : Nat} (h : j < 8) : shx (nI j) = j := by
  unfold shx; rw [if_pos (IN_of h (by decide)), nI_clamp (by omega)]
/-- a count of refusals one more -/
def rfz (M : Mem) (j : Nat) : Mem := sI M (12, 0, 0) j (mI M (12, 0, 0) j + 1)
set_option maxHeartbeats 4000000 in
set_option maxRecDepth 100000 in
theorem wp_X6_isShelf {E : Ev} {M : Mem} {Q : QT} (hW : Wi M) {s : Int32} (h : Q (some (vI (b2 (IN s 8)))) M) : Mth E 0 0 0 kX6_isShelf [vR (0, 0, 0), vI s] M Q := by
  refine mth_of (by decide +kernel) [some (vR (0, 0, 0)), some (vI s)] (Nat.le_of_ble_eq_true rfl) rfl ?_
  refine g_iload_n dX6_isShelf_0 rfl rfl ?_
  refine g_if_lt (tgt := 17) dX6_isShelf_1 (by decide) (fun c1 => ?_) (fun c1 => ?_)
  · refine g_iconst dX6_isShelf_17 (v := 0) (by decide) ?_
    refine g_zret dX6_isShelf_18 rfl (Or.inl rfl) ?_
    exact qI h (b2_f (by simp only [IN, Int32.lt_iff_toInt_lt, Int32.le_iff_toInt_le, ← Int32.toInt_inj, zcs, zn] at *; omega))
  · refine g_iload_n dX6_isShelf_4 rfl rfl ?_
    refine g_aloadR_n dX6_isShelf_5 rfl rfl ?_
    refine n_getR dX6_isShelf_6 fX6_31 rfl hW vld_x0 rfl rfl ?_
    refine n_alen dX6_isShelf_9 rfl (by decide) hW vld_x7 ?_
    refine g_icmp_ge (tgt := 17) dX6_isShelf_10 (by decide) (fun c10 => ?_) (fun c10 => ?_)
    · refine g_iconst dX6_isShelf_17 (v := 0) (by decide) ?_
      refine g_zret dX6_isShelf_18 rfl (Or.inl rfl) ?_
      exact qI h (b2_f (by simp only [IN, Int32.lt_iff_toInt_lt, Int32.le_iff_toInt_le, ← Int32.toInt_inj, zcs, zn] at *; omega))
    · refine g_iconst dX6_isShelf_13 (v := 1) (by decide) ?_
      refine g_goto (tgt := 18) dX6_isShelf_14 (by decide) ?_
      refine g_zret dX6_isShelf_18 rfl (Or.inr rfl) ?_
      exact qI h (b2_t (by simp only [IN, Int32.lt_iff_toInt_lt, Int32.le_iff_toInt_le, ← Int32.toInt_inj, zcs, zn] at *; omega))

set_option maxHeartbeats 4000000 in
set_option maxRecDepth 100000 in
theorem wp_X6_shelfAt {E : Ev} {M : Mem} {Q : QT} (hW : Wi M) {s : Int32} (h : Q (some (vR (5, shx s, 0))) M) : Mth E 0 0 0 kX6_shelfAt [vR (0, 0, 0), vI s] M Q := by
  refine mth_of (by decide +kernel) [some (vR (0, 0, 0)), some (vI s)] (Nat.le_of_ble_eq_true rfl) rfl ?_
  refine g_iload_n dX6_shelfAt_0 rfl rfl ?_
  refine g_if_lt (tgt := 22) dX6_shelfAt_1 (by decide) (fun c1 => ?_) (fun c1 => ?_)
  · refine g_aloadR_n dX6_shelfAt_22 rfl rfl ?_
    refine n_getR dX6_shelfAt_23 fX6_36 rfl hW vld_x0 rfl rfl ?_
    refine g_aret dX6_shelfAt_26 rfl ?_
    have e : shx s = 8 := if_neg (by simp only [IN, Int32.lt_iff_toInt_lt, Int32.le_iff_toInt_le, ← Int32.toInt_inj, zcs, zn] at *; omega)
    rw [e] at h; exact h
  · refine g_iload_n dX6_shelfAt_4 rfl rfl ?_
    refine g_aloadR_n dX6_shelfAt_5 rfl rfl ?_
    refine n_getR dX6_shelfAt_6 fX6_31 rfl hW vld_x0 rfl rfl ?_
    refine n_alen dX6_shelfAt_9 rfl (by decide) hW vld_x7 ?_
    refine g_icmp_ge (tgt := 22) dX6_shelfAt_10 (by decide) (fun c10 => ?_) (fun c10 => ?_)
    · refine g_aloadR_n dX6_shelfAt_22 rfl rfl ?_
      refine n_getR dX6_shelfAt_23 fX6_36 rfl hW vld_x0 rfl rfl ?_
      refine g_aret dX6_shelfAt_26 rfl ?_
      have e : shx s = 8 := if_neg (by simp only [IN, Int32.lt_iff_toInt_lt, Int32.le_iff_toInt_le, ← Int32.toInt_inj, zcs, zn] at *; omega)
      rw [e] at h; exact h
    · refine g_aloadR_n dX6_shelfAt_13 rfl rfl ?_
      refine n_getR dX6_shelfAt_14 fX6_31 rfl hW vld_x0 rfl rfl ?_
      refine g_iload_n dX6_shelfAt_17 rfl rfl ?_
      refine n_aald4 (j := s.toNatClampNeg) dX6_shelfAt_18 rfl hW vld_x7 (by decide) (clamp_eq c1) (clamp_lt c1 c10 (by decide)) (by first | rfl | (simp only [wire]; rw [if_pos (clamp_lt c1 c10 (by decide))])) ?_
      refine g_goto (tgt := 26) dX6_shelfAt_19 (by decide) ?_
      refine g_aret dX6_shelfAt_26 rfl ?_
      have e : shx s = s.toNatClampNeg := if_pos (by simp only [IN, Int32.lt_iff_toInt_lt, Int32.le_iff_toInt_le, ← Int32.toInt_inj, zcs, zn] at *; omega)
      rw [e] at h; exact h
set_option maxHeartbeats 4000000 in
set_option maxRecDepth 100000 in
theorem wp_X6_isStretch {E : Ev} {M : Mem} {Q : QT} {n : Int32} (h : Q (some (vI (b2 (IN n 25)))) M) : Mth E 0 0 0 kX6_isStretch [vI n] M Q := by
  refine mth_of (by decide +kernel) [some (vI n)] (Nat.le_of_ble_eq_true rfl) rfl ?_
  refine g_iload_n dX6_isStretch_0 rfl rfl ?_
  refine g_if_lt (tgt := 14) dX6_isStretch_1 (by decide) (fun c1 => ?_) (fun c1 => ?_)
  · refine g_iconst dX6_isStretch_14 (v := 0) (by decide) ?_
    refine g_zret dX6_isStretch_15 rfl (Or.inl rfl) ?_
    exact qI h (b2_f (by simp only [IN, Int32.lt_iff_toInt_lt, Int32.le_iff_toInt_le, ← Int32.toInt_inj, zcs, zn] at *; omega))
  · refine g_iload_n dX6_isStretch_4 rfl rfl ?_
    refine g_bipush dX6_isStretch_5 (v := 24) (by decide) ?_
    refine g_icmp_gt (tgt := 14) dX6_isStretch_7 (by decide) (fun c7 => ?_) (fun c7 => ?_)
    · refine g_iconst dX6_isStretch_14 (v := 0) (by decide) ?_
      refine g_zret dX6_isStretch_15 rfl (Or.inl rfl) ?_
      exact qI h (b2_f (by simp only [IN, Int32.lt_iff_toInt_lt, Int32.le_iff_toInt_le, ← Int32.toInt_inj, zcs, zn] at *; omega))
    · refine g_iconst dX6_isStretch_10 (v := 1) (by decide) ?_
      refine g_goto (tgt := 15) dX6_isStretch_11 (by decide) ?_
      refine g_zret dX6_isStretch_15 rfl (Or.inr rfl) ?_
      exact qI h (b2_t (by simp only [IN, Int32.lt_iff_toInt_lt, Int32.le_iff_toInt_le, ← Int32.toInt_inj, zcs, zn] at *; omega))
set_option maxHeartbeats 4000000 in
set_option maxRecDepth 100000 in
theorem wp_X6_isKind {E : Ev} {M : Mem} {Q : QT} {n : Int32} (h : Q (some (vI (b2 (IN n 7)))) M) : Mth E 0 0 0 kX6_isKind [vI n] M Q := by
  refine mth_of (by decide +kernel) [some (vI n)] (Nat.le_of_ble_eq_true rfl) rfl ?_
  refine g_iload_n dX6_isKind_0 rfl rfl ?_
  refine g_if_lt (tgt := 16) dX6_isKind_1 (by decide) (fun c1 => ?_) (fun c1 => ?_)
  · refine g_iconst dX6_isKind_16 (v := 0) (by decide) ?_
    refine g_zret dX6_isKind_17 rfl (Or.inl rfl) ?_
    exact qI h (b2_f (by simp only [IN, Int32.lt_iff_toInt_lt, Int32.le_iff_toInt_le, ← Int32.toInt_inj, zcs, zn] at *; omega))
  · refine g_iload_n dX6_isKind_4 rfl rfl ?_
    refine g_gets (t := 0) dX6_isKind_5 (by decide) sX6_291 ?_
    refine n_alenS (n := 7) dX6_isKind_8 (by decide) rfl ?_
    refine g_icmp_ge (tgt := 16) dX6_isKind_9 (by decide) (fun c9 => ?_) (fun c9 => ?_)
    · refine g_iconst dX6_isKind_16 (v := 0) (by decide) ?_
      refine g_zret dX6_isKind_17 rfl (Or.inl rfl) ?_
      exact qI h (b2_f (by simp only [IN, Int32.lt_iff_toInt_lt, Int32.le_iff_toInt_le, ← Int32.toInt_inj, zcs, zn] at *; omega))
    · refine g_iconst dX6_isKind_12 (v := 1) (by decide) ?_
      refine g_goto (tgt := 17) dX6_isKind_13 (by decide) ?_
      refine g_zret dX6_isKind_17 rfl (Or.inr rfl) ?_
      exact qI h (b2_t (by simp only [IN, Int32.lt_iff_toInt_lt, Int32.le_iff_toInt_le, ← Int32.toInt_inj, zcs, zn] at *; omega))
theorem neg_eq {n : Int32} {j : Nat} (h : -n = nI j) (hj : j < 8) : ¬ (-n) < 0 ∧ ¬ nI 8 ≤ (-n) := by
  rw [h]; exact ⟨nI_pos (by omega), nI_ge hj (by decide)⟩
set_option maxHeartbeats 4000000 in
set_option maxRecDepth 100000 in
theorem wp_X6_refuse {E : Ev} {M : Mem} {Q : QT} (hW : Wi M) {n : Int32} {j : Nat} (hj : j < 8) (hn : -n = nI j) (h : Q (some (vI n)) (rfz M j)) : Mth E 0 0 0 kX6_refuse [vR (0, 0, 0), vI n] M Q := by
  refine mth_of (by decide +kernel) [some (vR (0, 0, 0)), some (vI n), none] (Nat.le_of_ble_eq_true rfl) rfl ?_
  refine g_iload_n dX6_refuse_0 rfl rfl ?_
  refine g_ineg dX6_refuse_1 ?_
  refine g_istore_2 dX6_refuse_2 rfl ?_
  refine g_iload_n dX6_refuse_3 rfl rfl ?_
  refine g_if_lt (tgt := 26) dX6_refuse_4 (by decide) (fun c4 => ?_) (fun c4 => ?_)
  · exact absurd c4 (neg_eq hn hj).1
  · refine g_iload_n dX6_refuse_7 rfl rfl ?_
    refine g_aloadR_n dX6_refuse_8 rfl rfl ?_
    refine n_getR dX6_refuse_9 fX6_54 rfl hW vld_x0 rfl rfl ?_
    refine n_alen dX6_refuse_12 rfl (by decide) hW vld_x12 ?_
    refine g_icmp_ge (tgt := 26) dX6_refuse_13 (by decide) (fun c13 => ?_) (fun c13 => ?_)
    · exact absurd c13 (neg_eq hn hj).2
    · refine g_aloadR_n dX6_refuse_16 rfl rfl ?_
      refine n_getR dX6_refuse_17 fX6_54 rfl hW vld_x0 rfl rfl ?_
      refine g_iload_n dX6_refuse_20 rfl rfl ?_
      refine g_dup2 dX6_refuse_21 rfl rfl ?_
      refine n_iald (j := j) dX6_refuse_22 rfl hW vld_x12 (by decide) hn hj ?_
      refine g_iconst dX6_refuse_23 (v := 1) (by decide) ?_
      refine g_iadd dX6_refuse_24 ?_
      refine n_iast (j := j) dX6_refuse_25 rfl hW vld_x12 (by decide) hn hj ?_
      refine g_iload_n dX6_refuse_26 rfl rfl ?_
      refine g_iret dX6_refuse_27 rfl ?_
      exact h
set_option maxHeartbeats 4000000 in
set_option maxRecDepth 100000 in
theorem wp_X4_has {E : Ev} {M : Mem} {Q : QT} (hW : Wi M) {k : Nat} (hk : k < 4) {i : Int32} {n : Nat} (hn : mI M (1, k, 0) 2 = nI n) (hn10 : n ≤ 10) (h : Q (some (vI (b2 (IN i n)))) M) : Mth E 0 0 0 kX4_has [vR (1, k, 0), vI i] M Q := by
  refine mth_of (by decide +kernel) [some (vR (1, k, 0)), some (vI i)] (Nat.le_of_ble_eq_true rfl) rfl ?_
  refine g_iload_n dX4_has_0 rfl rfl ?_
  refine g_if_lt (tgt := 16) dX4_has_1 (by decide) (fun c1 => ?_) (fun c1 => ?_)
  · refine g_iconst dX4_has_16 (v := 0) (by decide) ?_
    refine g_zret dX4_has_17 rfl (Or.inl rfl) ?_
    try rw [hn] at *
    exact qI h (b2_f (by have := nI_toInt (n := n) (by omega); simp only [IN, Int32.lt_iff_toInt_lt, Int32.le_iff_toInt_le, ← Int32.toInt_inj, zcs, zn] at *; omega))
  · refine g_iload_n dX4_has_4 rfl rfl ?_
    refine g_aloadR_n dX4_has_5 rfl rfl ?_
    refine n_getI dX4_has_6 fX4_35 rfl hW (vld_sc hk) (Or.inl rfl) ?_
    refine g_icmp_ge (tgt := 16) dX4_has_9 (by decide) (fun c9 => ?_) (fun c9 => ?_)
    · refine g_iconst dX4_has_16 (v := 0) (by decide) ?_
      refine g_zret dX4_has_17 rfl (Or.inl rfl) ?_
      try rw [hn] at *
      exact qI h (b2_f (by have := nI_toInt (n := n) (by omega); simp only [IN, Int32.lt_iff_toInt_lt, Int32.le_iff_toInt_le, ← Int32.toInt_inj, zcs, zn] at *; omega))
    · refine g_iconst dX4_has_12 (v := 1) (by decide) ?_
      refine g_goto (tgt := 17) dX4_has_13 (by decide) ?_
      refine g_zret dX4_has_17 rfl (Or.inr rfl) ?_
      try rw [hn] at *
      exact qI h (b2_t (by have := nI_toInt (n := n) (by omega); simp only [IN, Int32.lt_iff_toInt_lt, Int32.le_iff_toInt_le, ← Int32.toInt_inj, zcs, zn] at *; omega))
set_option maxHeartbeats 4000000 in
set_option maxRecDepth 100000 in
theorem wp_X4_one {E : Ev} {M : Mem} {Q : QT} (hW : Wi M) {k : Nat} (hk : k < 4) {i : Int32} (h : Q (some (vR (2, k, pix i))) M) : Mth E 0 0 0 kX4_one [vR (1, k, 0), vI i] M Q := by
  refine mth_of (by decide +kernel) [some (vR (1, k, 0)), some (vI i)] (Nat.le_of_ble_eq_true rfl) rfl ?_
  refine g_iload_n dX4_one_0 rfl rfl ?_
  refine g_if_lt (tgt := 22) dX4_one_1 (by decide) (fun c1 => ?_) (fun c1 => ?_)
  · refine g_aloadR_n dX4_one_22 rfl rfl ?_
    refine n_getR dX4_one_23 fX4_18 rfl hW (vld_sc hk) rfl rfl ?_
    refine g_aret dX4_one_26 rfl ?_
    have e : pix i = 10 := if_neg (by simp only [IN, Int32.lt_iff_toInt_lt, Int32.le_iff_toInt_le, ← Int32.toInt_inj, zcs, zn] at *; omega)
    rw [e] at h; exact h
  · refine g_iload_n dX4_one_4 rfl rfl ?_
    refine g_aloadR_n dX4_one_5 rfl rfl ?_
    refine n_getR dX4_one_6 fX4_11 rfl hW (vld_sc hk) rfl rfl ?_
    refine n_alen dX4_one_9 rfl (by decide) hW (vld_pp hk) ?_
    refine g_icmp_ge (tgt := 22) dX4_one_10 (by decide) (fun c10 => ?_) (fun c10 => ?_)
    · refine g_aloadR_n dX4_one_22 rfl rfl ?_
      refine n_getR dX4_one_23 fX4_18 rfl hW (vld_sc hk) rfl rfl ?_
      refine g_aret dX4_one_26 rfl ?_
      have e : pix i = 10 := if_neg (by simp only [IN, Int32.lt_iff_toInt_lt, Int32.le_iff_toInt_le, ← Int32.toInt_inj, zcs, zn] at *; omega)
      rw [e] at h; exact h
    · refine g_aloadR_n dX4_one_13 rfl rfl ?_
      refine n_getR dX4_one_14 fX4_11 rfl hW (vld_sc hk) rfl rfl ?_
      refine g_iload_n dX4_one_17 rfl rfl ?_
      refine n_aald3 (j := i.toNatClampNeg) dX4_one_18 rfl hW (vld_pp hk) (by decide) (clamp_eq c1) (clamp_lt c1 c10 (by decide)) (by first | rfl | (simp only [wire]; rw [if_pos (clamp_lt c1 c10 (by decide))])) ?_
      refine g_goto (tgt := 26) dX4_one_19 (by decide) ?_
      refine g_aret dX4_one_26 rfl ?_
      have e : pix i = i.toNatClampNeg := if_pos (by simp only [IN, Int32.lt_iff_toInt_lt, Int32.le_iff_toInt_le, ← Int32.toInt_inj, zcs, zn] at *; omega)
      rw [e] at h; exact h
end
section
/-! PERSON -/
/-- all fields of an object anew -/
def sP (M : Mem) (a : Id) (F : Nat → Int32) : Mem := (fun b j => if b = a then F j else M.1 b j, M.2)
theorem sI_sP {M : Mem} {a : Id} {k : Nat} {x : Int32} : sI M a k x = sP M a (fun j => if j = k then x else mI M a j) := by
  refine Prod.ext (funext fun b => funext fun j => ?_) rfl
  by_cases hb : b = a
  · subst hb; simp [sI, sP, mI]
  · simp [sI, sP, hb]
theorem sP_sP {M : Mem} {a : Id} {F F' : Nat → Int32} : sP (sP M a F) a F' = sP M a F' := by
  refine Prod.ext (funext fun b => funext fun j => ?_) rfl
  by_cases hb : b = a <;> simp [sP, hb]
theorem mI_sP {M : Mem} {a : Id} {F : Nat → Int32} {j : Nat} : mI (sP M a F) a j = F j := by simp [mI, sP]
theorem mI_sP_ne {M : Mem} {a b : Id} {F : Nat → Int32} (h : b ≠ a) : mI (sP M a F) b = mI M b := by funext j; simp [mI, sP, h]
theorem sP_self {M : Mem} {a : Id} : sP M a (mI M a) = M := by
  refine Prod.ext (funext fun b => funext fun j => ?_) rfl
  by_cases hb : b = a
  · subst hb; simp [sP, mI]
  · simp [sP, hb]
def mdF (a e : Int32) : Int32 := b2 (0 < a + 2 ∧ e - e / (a + 2) * (a + 2) = 0)
def pullF (f : Nat → Int32) (l r e : Int32) : Int32 :=
  let st := (if 0 ≤ l - f 2 then l - f 2 else 0 - (l - f 2)) / 2
  let w := 12 - r - st - 2 * f 5 + (if f 3 = 0 then 0 else (if 0 < 4 - e / 3 then 4 - e / 3 else 0))
  if f 0 = 1 then w + f 1 else if f 0 = 3 ∨ f 0 = 6 then w + f 1 + 2 else if f 0 = 2 then w - f 1 else if f 0 = 4 then w - f 1 - st else if f 0 = 5 then (if mdF (f 1) e = 0 then w else w - 20) else w
def satF (f : Nat → Int32) : Nat → Int32 := fun j => if j = 7 then f 7 + 1 else if j = 5 then (if 0 < f 5 - 1 then f 5 - 1 else 0) else if j = 2 then (if f 2 + 1 < 20 then f 2 + 1 else 20) else if j = 6 then 0 else f j
def awayF (f : Nat → Int32) : Nat → Int32 := fun j => if j = 5 then (if f 5 + 1 < 9 then f 5 + 1 else 9) else if j = 6 then f 6 + 1 else if j = 8 then (if (if f 3 = 0 then 2 else 3) ≤ f 6 + 1 then 1 else f 8) else f j
def entF (f : Nat → Int32) (kd a ow pd : Int32) : Nat → Int32 := fun j => if j = 0 then kd else if j = 1 then a else if j = 2 then ow else if j = 3 then pd else if j = 4 then -1 else if j = 5 then 0 else if j = 6 then 0 else if j = 7 then 0 else if j = 8 then 0 else f j
def markI (w : Nat) : Nat := [0, 1, 2, 3, 5, 6, 7, 8].getD w 8
set_option maxHeartbeats 4000000 in
set_option maxRecDepth 100000 in
theorem wp_X2_isMatchDay {E : Ev} {M : Mem} {Q : QT} (hW : Wi M) {k i : Nat} (hk : k < 4) (hi : i < 11) {e : Int32} (h : Q (some (vI (mdF (mI M (2, k, i) 1) e))) M) : Mth E 0 0 0 kX2_isMatchDay [vR (2, k, i), vI e] M Q := by
  refine mth_of (by decide +kernel) [some (vR (2, k, i)), some (vI e), none] (Nat.le_of_ble_eq_true rfl) rfl ?_
  refine g_aloadR_n dX2_isMatchDay_0 rfl rfl ?_
  refine n_getI dX2_isMatchDay_1 fX2_18 rfl hW (vld_pe hk hi) (Or.inl rfl) ?_
  refine g_iconst dX2_isMatchDay_4 (v := 2) (by decide) ?_
  refine g_iadd dX2_isMatchDay_5 ?_
  refine g_istore_2 dX2_isMatchDay_6 rfl ?_
  refine g_iload_n dX2_isMatchDay_7 rfl rfl ?_
  refine g_if_le (tgt := 21) dX2_isMatchDay_8 (by decide) (fun c8 => ?_) (fun c8 => ?_)
  · refine g_iconst dX2_isMatchDay_21 (v := 0) (by decide) ?_
    refine g_zret dX2_isMatchDay_22 rfl (Or.inl rfl) ?_
    exact qI h (by unfold mdF; first | exact b2_t ⟨by simpa using c8, by assumption⟩ | exact b2_f (fun q => c14 q.2) | exact b2_f (fun q => by have := c8; simp only [Int32.lt_iff_toInt_lt, Int32.le_iff_toInt_le] at this q; omega))
  · refine g_iload_n dX2_isMatchDay_11 rfl rfl ?_
    refine g_iload_n dX2_isMatchDay_12 rfl rfl ?_
    refine g_irem dX2_isMatchDay_13 (fun q => by rw [q] at c8; exact absurd c8 (by decide)) ?_
    refine g_if_ne (tgt := 21) dX2_isMatchDay_14 (by decide) (fun c14 => ?_) (fun c14 => ?_)
    · refine g_iconst dX2_isMatchDay_21 (v := 0) (by decide) ?_
      refine g_zret dX2_isMatchDay_22 rfl (Or.inl rfl) ?_
      exact qI h (by unfold mdF; first | exact b2_t ⟨by simpa using c8, by assumption⟩ | exact b2_f (fun q => c14 q.2) | exact b2_f (fun q => by have := c8; simp only [Int32.lt_iff_toInt_lt, Int32.le_iff_toInt_le] at this q; omega))
    · refine g_iconst dX2_isMatchDay_17 (v := 1) (by decide) ?_
      refine g_goto (tgt := 22) dX2_isMatchDay_18 (by decide) ?_
      refine g_zret dX2_isMatchDay_22 rfl (Or.inr rfl) ?_
      exact qI h (by unfold mdF; first | exact b2_t ⟨by simpa using c8, by assumption⟩ | exact b2_f (fun q => c14 q.2) | exact b2_f (fun q => by have := c8; simp only [Int32.lt_iff_toInt_lt, Int32.le_iff_toInt_le] at this q; omega))
set_option maxHeartbeats 4000000 in
set_option maxRecDepth 100000 in
theorem wp_X2_pullOn {E : Ev} {M : Mem} {Q : QT} (hW : Wi M) {k i : Nat} (hk : k < 4) (hi : i < 11) {l r e : Int32} (h : Q (some (vI (pullF (mI M (2, k, i)) l r e))) M) : Mth E 1 0 0 kX2_pullOn [vR (2, k, i), vI l, vI r, vI e] M Q := by
  refine mth_of (by decide +kernel) [some (vR (2, k, i)), some (vI l), some (vI r), some (vI e), none, none] (Nat.le_of_ble_eq_true rfl) rfl ?_
  refine g_iload_n dX2_pullOn_0 rfl rfl ?_
  refine g_aloadR_n dX2_pullOn_1 rfl rfl ?_
  refine n_getI dX2_pullOn_2 fX2_21 rfl hW (vld_pe hk hi) (Or.inl rfl) ?_
  refine g_isub dX2_pullOn_5 ?_
  refine n_mabs dX2_pullOn_6 lX2_40 ⟨Nat.le_of_ble_eq_true rfl, Nat.le_of_ble_eq_true rfl⟩ ⟨Nat.zero_le _, Nat.zero_le _⟩ ?_
  refine g_iconst dX2_pullOn_9 (v := 2) (by decide) ?_
  refine g_idiv dX2_pullOn_10 (by decide) ?_
  refine g_istore_4 dX2_pullOn_11 rfl ?_
  refine g_bipush dX2_pullOn_13 (v := 12) (by decide) ?_
  refine g_iload_n dX2_pullOn_15 rfl rfl ?_
  refine g_isub dX2_pullOn_16 ?_
  refine g_iload dX2_pullOn_17 rfl ?_
  refine g_isub dX2_pullOn_19 ?_
  refine g_iconst dX2_pullOn_20 (v := 2) (by decide) ?_
  refine g_aloadR_n dX2_pullOn_21 rfl rfl ?_
  refine n_getI dX2_pullOn_22 fX2_28 rfl hW (vld_pe hk hi) (Or.inl rfl) ?_
  refine g_imul dX2_pullOn_25 ?_
  refine g_isub dX2_pullOn_26 ?_
  refine g_istore_5 dX2_pullOn_27 rfl ?_
  refine g_aloadR_n dX2_pullOn_29 rfl rfl ?_
  refine n_getI dX2_pullOn_30 fX2_24 rfl hW (vld_pe hk hi) (Or.inr rfl) ?_
  refine g_if_eq (tgt := 50) dX2_pullOn_33 (by decide) (fun c33 => ?_) (fun c33 => ?_)
  · refine g_aloadR_n dX2_pullOn_50 rfl rfl ?_
    refine n_getI dX2_pullOn_51 fX2_15 rfl hW (vld_pe hk hi) (Or.inl rfl) ?_
    refine g_top (fun y54 e54 => ?_)
    by_cases s54_0 : y54 = 1
    · refine g_tableIn (tgt := 92) dX2_pullOn_54 (by rw [s54_0]; decide) (by rw [s54_0]; decide) (o := 38) (by rw [s54_0]; decide) (by decide) ?_
      refine g_iload dX2_pullOn_92 rfl ?_
      refine g_aloadR_n dX2_pullOn_94 rfl rfl ?_
      refine n_getI dX2_pullOn_95 fX2_18 rfl hW (vld_pe hk hi) (Or.inl rfl) ?_
      refine g_iadd dX2_pullOn_98 ?_
      refine g_iret dX2_pullOn_99 rfl ?_
      subst e54
      exact qI h (by simp only [pullF]; simp [*])
    by_cases s54_1 : y54 = 2
    · refine g_tableIn (tgt := 110) dX2_pullOn_54 (by rw [s54_1]; decide) (by rw [s54_1]; decide) (o := 56) (by rw [s54_1]; decide) (by decide) ?_
      refine g_iload dX2_pullOn_110 rfl ?_
      refine g_aloadR_n dX2_pullOn_112 rfl rfl ?_
      refine n_getI dX2_pullOn_113 fX2_18 rfl hW (vld_pe hk hi) (Or.inl rfl) ?_
      refine g_isub dX2_pullOn_116 ?_
      refine g_iret dX2_pullOn_117 rfl ?_
      subst e54
      exact qI h (by simp only [pullF]; simp [*])
    by_cases s54_2 : y54 = 3
    · refine g_tableIn (tgt := 100) dX2_pullOn_54 (by rw [s54_2]; decide) (by rw [s54_2]; decide) (o := 46) (by rw [s54_2]; decide) (by decide) ?_
      refine g_iload dX2_pullOn_100 rfl ?_
      refine g_aloadR_n dX2_pullOn_102 rfl rfl ?_
      refine n_getI dX2_pullOn_103 fX2_18 rfl hW (vld_pe hk hi) (Or.inl rfl) ?_
      refine g_iadd dX2_pullOn_106 ?_
      refine g_iconst dX2_pullOn_107 (v := 2) (by decide) ?_
      refine g_iadd dX2_pullOn_108 ?_
      refine g_iret dX2_pullOn_109 rfl ?_
      subst e54
      exact qI h (by simp only [pullF]; simp [*])
    by_cases s54_3 : y54 = 4
    · refine g_tableIn (tgt := 118) dX2_pullOn_54 (by rw [s54_3]; decide) (by rw [s54_3]; decide) (o := 64) (by rw [s54_3]; decide) (by decide) ?_
      refine g_iload dX2_pullOn_118 rfl ?_
      refine g_aloadR_n dX2_pullOn_120 rfl rfl ?_
      refine n_getI dX2_pullOn_121 fX2_18 rfl hW (vld_pe hk hi) (Or.inl rfl) ?_
      refine g_isub dX2_pullOn_124 ?_
      refine g_iload dX2_pullOn_125 rfl ?_
      refine g_isub dX2_pullOn_127 ?_
      refine g_iret dX2_pullOn_128 rfl ?_
      subst e54
      exact qI h (by simp only [pullF]; simp [*])
    by_cases s54_4 : y54 = 5
    · refine g_tableIn (tgt := 129) dX2_pullOn_54 (by rw [s54_4]; decide) (by rw [s54_4]; decide) (o := 75) (by rw [s54_4]; decide) (by decide) ?_
      refine g_aloadR_n dX2_pullOn_129 rfl rfl ?_
      refine g_iload_n dX2_pullOn_130 rfl rfl ?_
      refine n_v1i (n' := 0) dX2_pullOn_131 mX2_isMatchDay lX2_50 rfl hW (vld_pe hk hi) rfl rfl ⟨Nat.le_of_ble_eq_true rfl, Nat.le_of_ble_eq_true rfl⟩ ⟨Nat.zero_le _, Nat.zero_le _⟩ (Nat.le_of_ble_eq_true rfl) ?_
      refine wp_X2_isMatchDay hW hk hi ?_
      refine ⟨_, rfl, ?_⟩
      refine g_if_eq (tgt := 145) dX2_pullOn_134 (by decide) (fun c134 => ?_) (fun c134 => ?_)
      · refine g_iload dX2_pullOn_145 rfl ?_
        refine g_iret dX2_pullOn_147 rfl ?_
        subst e54
        exact qI h (by simp only [pullF]; simp [*])
      · refine g_iload dX2_pullOn_137 rfl ?_
        refine g_bipush dX2_pullOn_139 (v := 20) (by decide) ?_
        refine g_isub dX2_pullOn_141 ?_
        refine g_goto (tgt := 147) dX2_pullOn_142 (by decide) ?_
        refine g_iret dX2_pullOn_147 rfl ?_
        subst e54
        exact qI h (by simp only [pullF]; simp [*])
    by_cases s54_5 : y54 = 6
    · refine g_tableIn (tgt := 100) dX2_pullOn_54 (by rw [s54_5]; decide) (by rw [s54_5]; decide) (o := 46) (by rw [s54_5]; decide) (by decide) ?_
      refine g_iload dX2_pullOn_100 rfl ?_
      refine g_aloadR_n dX2_pullOn_102 rfl rfl ?_
      refine n_getI dX2_pullOn_103 fX2_18 rfl hW (vld_pe hk hi) (Or.inl rfl) ?_
      refine g_iadd dX2_pullOn_106 ?_
      refine g_iconst dX2_pullOn_107 (v := 2) (by decide) ?_
      refine g_iadd dX2_pullOn_108 ?_
      refine g_iret dX2_pullOn_109 rfl ?_
      subst e54
      exact qI h (by simp only [pullF]; simp [*])
    refine g_tableOut (tgt := 148) dX2_pullOn_54 (by have t0 : ¬ y54.toInt = 1 := sw_ne s54_0; have t1 : ¬ y54.toInt = 2 := sw_ne s54_1; have t2 : ¬ y54.toInt = 3 := sw_ne s54_2; have t3 : ¬ y54.toInt = 4 := sw_ne s54_3; have t4 : ¬ y54.toInt = 5 := sw_ne s54_4; have t5 : ¬ y54.toInt = 6 := sw_ne s54_5; omega) (by decide) ?_
    refine g_iload dX2_pullOn_148 rfl ?_
    refine g_iret dX2_pullOn_150 rfl ?_
    subst e54
    exact qI h (by simp only [pullF]; simp [*])
  · refine g_iload dX2_pullOn_36 rfl ?_
    refine g_iconst dX2_pullOn_38 (v := 0) (by decide) ?_
    refine g_iconst dX2_pullOn_39 (v := 4) (by decide) ?_
    refine g_iload_n dX2_pullOn_40 rfl rfl ?_
    refine g_iconst dX2_pullOn_41 (v := 3) (by decide) ?_
    refine g_idiv dX2_pullOn_42 (by decide) ?_
    refine g_isub dX2_pullOn_43 ?_
    refine n_mmax dX2_pullOn_44 lX2_46 ⟨Nat.le_of_ble_eq_true rfl, Nat.le_of_ble_eq_true rfl⟩ ⟨Nat.zero_le _, Nat.zero_le _⟩ ?_
    refine g_iadd dX2_pullOn_47 ?_
    refine g_istore_5 dX2_pullOn_48 rfl ?_
    refine g_aloadR_n dX2_pullOn_50 rfl rfl ?_
    refine n_getI dX2_pullOn_51 fX2_15 rfl hW (vld_pe hk hi) (Or.inl rfl) ?_
    refine g_top (fun y54 e54 => ?_)
    by_cases s54_0 : y54 = 1
    · refine g_tableIn (tgt := 92) dX2_pullOn_54 (by rw [s54_0]; decide) (by rw [s54_0]; decide) (o := 38) (by rw [s54_0]; decide) (by decide) ?_
      refine g_iload dX2_pullOn_92 rfl ?_
      refine g_aloadR_n dX2_pullOn_94 rfl rfl ?_
      refine n_getI dX2_pullOn_95 fX2_18 rfl hW (vld_pe hk hi) (Or.inl rfl) ?_
      refine g_iadd dX2_pullOn_98 ?_
      refine g_iret dX2_pullOn_99 rfl ?_
      subst e54
      exact qI h (by simp only [pullF]; simp [*])
    by_cases s54_1 : y54 = 2
    · refine g_tableIn (tgt := 110) dX2_pullOn_54 (by rw [s54_1]; decide) (by rw [s54_1]; decide) (o := 56) (by rw [s54_1]; decide) (by decide) ?_
      refine g_iload dX2_pullOn_110 rfl ?_
      refine g_aloadR_n dX2_pullOn_112 rfl rfl ?_
      refine n_getI dX2_pullOn_113 fX2_18 rfl hW (vld_pe hk hi) (Or.inl rfl) ?_
      refine g_isub dX2_pullOn_116 ?_
      refine g_iret dX2_pullOn_117 rfl ?_
      subst e54
      exact qI h (by simp only [pullF]; simp [*])
    by_cases s54_2 : y54 = 3
    · refine g_tableIn (tgt := 100) dX2_pullOn_54 (by rw [s54_2]; decide) (by rw [s54_2]; decide) (o := 46) (by rw [s54_2]; decide) (by decide) ?_
      refine g_iload dX2_pullOn_100 rfl ?_
      refine g_aloadR_n dX2_pullOn_102 rfl rfl ?_
      refine n_getI dX2_pullOn_103 fX2_18 rfl hW (vld_pe hk hi) (Or.inl rfl) ?_
      refine g_iadd dX2_pullOn_106 ?_
      refine g_iconst dX2_pullOn_107 (v := 2) (by decide) ?_
      refine g_iadd dX2_pullOn_108 ?_
      refine g_iret dX2_pullOn_109 rfl ?_
      subst e54
      exact qI h (by simp only [pullF]; simp [*])
    by_cases s54_3 : y54 = 4
    · refine g_tableIn (tgt := 118) dX2_pullOn_54 (by rw [s54_3]; decide) (by rw [s54_3]; decide) (o := 64) (by rw [s54_3]; decide) (by decide) ?_
      refine g_iload dX2_pullOn_118 rfl ?_
      refine g_aloadR_n dX2_pullOn_120 rfl rfl ?_
      refine n_getI dX2_pullOn_121 fX2_18 rfl hW (vld_pe hk hi) (Or.inl rfl) ?_
      refine g_isub dX2_pullOn_124 ?_
      refine g_iload dX2_pullOn_125 rfl ?_
      refine g_isub dX2_pullOn_127 ?_
      refine g_iret dX2_pullOn_128 rfl ?_
      subst e54
      exact qI h (by simp only [pullF]; simp [*])
    by_cases s54_4 : y54 = 5
    · refine g_tableIn (tgt := 129) dX2_pullOn_54 (by rw [s54_4]; decide) (by rw [s54_4]; decide) (o := 75) (by rw [s54_4]; decide) (by decide) ?_
      refine g_aloadR_n dX2_pullOn_129 rfl rfl ?_
      refine g_iload_n dX2_pullOn_130 rfl rfl ?_
      refine n_v1i (n' := 0) dX2_pullOn_131 mX2_isMatchDay lX2_50 rfl hW (vld_pe hk hi) rfl rfl ⟨Nat.le_of_ble_eq_true rfl, Nat.le_of_ble_eq_true rfl⟩ ⟨Nat.zero_le _, Nat.zero_le _⟩ (Nat.le_of_ble_eq_true rfl) ?_
      refine wp_X2_isMatchDay hW hk hi ?_
      refine ⟨_, rfl, ?_⟩
      refine g_if_eq (tgt := 145) dX2_pullOn_134 (by decide) (fun c134 => ?_) (fun c134 => ?_)
      · refine g_iload dX2_pullOn_145 rfl ?_
        refine g_iret dX2_pullOn_147 rfl ?_
        subst e54
        exact qI h (by simp only [pullF]; simp [*])
      · refine g_iload dX2_pullOn_137 rfl ?_
        refine g_bipush dX2_pullOn_139 (v := 20) (by decide) ?_
        refine g_isub dX2_pullOn_141 ?_
        refine g_goto (tgt := 147) dX2_pullOn_142 (by decide) ?_
        refine g_iret dX2_pullOn_147 rfl ?_
        subst e54
        exact qI h (by simp only [pullF]; simp [*])
    by_cases s54_5 : y54 = 6
    · refine g_tableIn (tgt := 100) dX2_pullOn_54 (by rw [s54_5]; decide) (by rw [s54_5]; decide) (o := 46) (by rw [s54_5]; decide) (by decide) ?_
      refine g_iload dX2_pullOn_100 rfl ?_
      refine g_aloadR_n dX2_pullOn_102 rfl rfl ?_
      refine n_getI dX2_pullOn_103 fX2_18 rfl hW (vld_pe hk hi) (Or.inl rfl) ?_
      refine g_iadd dX2_pullOn_106 ?_
      refine g_iconst dX2_pullOn_107 (v := 2) (by decide) ?_
      refine g_iadd dX2_pullOn_108 ?_
      refine g_iret dX2_pullOn_109 rfl ?_
      subst e54
      exact qI h (by simp only [pullF]; simp [*])
    refine g_tableOut (tgt := 148) dX2_pullOn_54 (by have t0 : ¬ y54.toInt = 1 := sw_ne s54_0; have t1 : ¬ y54.toInt = 2 := sw_ne s54_1; have t2 : ¬ y54.toInt = 3 := sw_ne s54_2; have t3 : ¬ y54.toInt = 4 := sw_ne s54_3; have t4 : ¬ y54.toInt = 5 := sw_ne s54_4; have t5 : ¬ y54.toInt = 6 := sw_ne s54_5; omega) (by decide) ?_
    refine g_iload dX2_pullOn_148 rfl ?_
    refine g_iret dX2_pullOn_150 rfl ?_
    subst e54
    exact qI h (by simp only [pullF]; simp [*])
set_option maxHeartbeats 4000000 in
set_option maxRecDepth 100000 in
theorem wp_X2_sat {E : Ev} {M : Mem} {Q : QT} (hW : Wi M) {k i : Nat} (hk : k < 4) (hi : i < 11) (h : Q none (sP M (2, k, i) (satF (mI M (2, k, i))))) : Mth E 1 0 0 kX2_sat [vR (2, k, i)] M Q := by
  refine mth_of (by decide +kernel) [some (vR (2, k, i))] (Nat.le_of_ble_eq_true rfl) rfl ?_
  refine g_aloadR_n dX2_sat_0 rfl rfl ?_
  refine g_dup dX2_sat_1 rfl ?_
  refine n_getI dX2_sat_2 fX2_34 rfl hW (vld_pe hk hi) (Or.inl rfl) ?_
  refine g_iconst dX2_sat_5 (v := 1) (by decide) ?_
  refine g_iadd dX2_sat_6 ?_
  refine n_putI dX2_sat_7 fX2_34 rfl hW (vld_pe hk hi) rfl ?_
  refine g_aloadR_n dX2_sat_10 rfl rfl ?_
  refine g_iconst dX2_sat_11 (v := 0) (by decide) ?_
  refine g_aloadR_n dX2_sat_12 rfl rfl ?_
  refine n_getI dX2_sat_13 fX2_28 rfl hW (vld_pe hk hi) (Or.inl rfl) ?_
  refine g_iconst dX2_sat_16 (v := 1) (by decide) ?_
  refine g_isub dX2_sat_17 ?_
  refine n_mmax dX2_sat_18 lX2_46 ⟨Nat.le_of_ble_eq_true rfl, Nat.le_of_ble_eq_true rfl⟩ ⟨Nat.zero_le _, Nat.zero_le _⟩ ?_
  refine n_putI dX2_sat_21 fX2_28 rfl hW (vld_pe hk hi) rfl ?_
  refine g_aloadR_n dX2_sat_24 rfl rfl ?_
  refine g_bipush dX2_sat_25 (v := 20) (by decide) ?_
  refine g_aloadR_n dX2_sat_27 rfl rfl ?_
  refine n_getI dX2_sat_28 fX2_21 rfl hW (vld_pe hk hi) (Or.inl rfl) ?_
  refine g_iconst dX2_sat_31 (v := 1) (by decide) ?_
  refine g_iadd dX2_sat_32 ?_
  refine n_mmin dX2_sat_33 lX2_54 ⟨Nat.le_of_ble_eq_true rfl, Nat.le_of_ble_eq_true rfl⟩ ⟨Nat.zero_le _, Nat.zero_le _⟩ ?_
  refine n_putI dX2_sat_36 fX2_21 rfl hW (vld_pe hk hi) rfl ?_
  refine g_aloadR_n dX2_sat_39 rfl rfl ?_
  refine g_iconst dX2_sat_40 (v := 0) (by decide) ?_
  refine n_putI dX2_sat_41 fX2_31 rfl hW (vld_pe hk hi) rfl ?_
  refine g_vret dX2_sat_44 rfl ?_
  refine qM h ?_
  try simp only [sI_sP, sP_sP, mI_sP]
  congr 1; funext j
  simp only [satF]
  by_cases j7 : j = 7
  · subst j7; simp_all
  by_cases j5 : j = 5
  · subst j5; simp_all
  by_cases j2 : j = 2
  · subst j2; simp_all
  by_cases j6 : j = 6
  · subst j6; simp_all
  simp_all
set_option maxHeartbeats 4000000 in
set_option maxRecDepth 100000 in
theorem wp_X2_stayedAway {E : Ev} {M : Mem} {Q : QT} (hW : Wi M) {k i : Nat} (hk : k < 4) (hi : i < 11) (h : Q none (sP M (2, k, i) (awayF (mI M (2, k, i))))) : Mth E 1 0 0 kX2_stayedAway [vR (2, k, i)] M Q := by
  refine mth_of (by decide +kernel) [some (vR (2, k, i))] (Nat.le_of_ble_eq_true rfl) rfl ?_
  refine g_aloadR_n dX2_stayedAway_0 rfl rfl ?_
  refine g_bipush dX2_stayedAway_1 (v := 9) (by decide) ?_
  refine g_aloadR_n dX2_stayedAway_3 rfl rfl ?_
  refine n_getI dX2_stayedAway_4 fX2_28 rfl hW (vld_pe hk hi) (Or.inl rfl) ?_
  refine g_iconst dX2_stayedAway_7 (v := 1) (by decide) ?_
  refine g_iadd dX2_stayedAway_8 ?_
  refine n_mmin dX2_stayedAway_9 lX2_54 ⟨Nat.le_of_ble_eq_true rfl, Nat.le_of_ble_eq_true rfl⟩ ⟨Nat.zero_le _, Nat.zero_le _⟩ ?_
  refine n_putI dX2_stayedAway_12 fX2_28 rfl hW (vld_pe hk hi) rfl ?_
  refine g_aloadR_n dX2_stayedAway_15 rfl rfl ?_
  refine g_dup dX2_stayedAway_16 rfl ?_
  refine n_getI dX2_stayedAway_17 fX2_31 rfl hW (vld_pe hk hi) (Or.inl rfl) ?_
  refine g_iconst dX2_stayedAway_20 (v := 1) (by decide) ?_
  refine g_iadd dX2_stayedAway_21 ?_
  refine n_putI dX2_stayedAway_22 fX2_31 rfl hW (vld_pe hk hi) rfl ?_
  refine g_aloadR_n dX2_stayedAway_25 rfl rfl ?_
  refine n_getI dX2_stayedAway_26 fX2_31 rfl hW (vld_pe hk hi) (Or.inl rfl) ?_
  refine g_aloadR_n dX2_stayedAway_29 rfl rfl ?_
  refine n_getI dX2_stayedAway_30 fX2_24 rfl hW (vld_pe hk hi) (Or.inr rfl) ?_
  refine g_if_eq (tgt := 40) dX2_stayedAway_33 (by decide) (fun c33 => ?_) (fun c33 => ?_)
  · refine g_iconst dX2_stayedAway_40 (v := 2) (by decide) ?_
    refine g_icmp_lt (tgt := 49) dX2_stayedAway_41 (by decide) (fun c41 => ?_) (fun c41 => ?_)
    · refine g_vret dX2_stayedAway_49 rfl ?_
      simp only [sI_sP, sP_sP, mI_sP] at *
      refine qM h ?_
      try simp only [sI_sP, sP_sP, mI_sP]
      congr 1; funext j
      simp only [awayF]
      by_cases j5 : j = 5
      · subst j5; first | (simp_all; done) | (simp_all; intro q; exact absurd q (Int32.not_le.mpr (by assumption)))
      by_cases j6 : j = 6
      · subst j6; first | (simp_all; done) | (simp_all; intro q; exact absurd q (Int32.not_le.mpr (by assumption)))
      by_cases j8 : j = 8
      · subst j8; first | (simp_all; done) | (simp_all; intro q; exact absurd q (Int32.not_le.mpr (by assumption)))
      first | (simp_all; done) | (simp_all; intro q; exact absurd q (Int32.not_le.mpr (by assumption)))
    · refine g_aloadR_n dX2_stayedAway_44 rfl rfl ?_
      refine g_iconst dX2_stayedAway_45 (v := 1) (by decide) ?_
      refine n_putZ dX2_stayedAway_46 fX2_37 rfl hW (vld_pe hk hi) rfl (Or.inr rfl) ?_
      refine g_vret dX2_stayedAway_49 rfl ?_
      simp only [sI_sP, sP_sP, mI_sP] at *
      refine qM h ?_
      try simp only [sI_sP, sP_sP, mI_sP]
      congr 1; funext j
      simp only [awayF]
      by_cases j5 : j = 5
      · subst j5; first | (simp_all; done) | (simp_all; intro q; exact absurd q (Int32.not_le.mpr (by assumption)))
      by_cases j6 : j = 6
      · subst j6; first | (simp_all; done) | (simp_all; intro q; exact absurd q (Int32.not_le.mpr (by assumption)))
      by_cases j8 : j = 8
      · subst j8; first | (simp_all; done) | (simp_all; intro q; exact absurd q (Int32.not_le.mpr (by assumption)))
      first | (simp_all; done) | (simp_all; intro q; exact absurd q (Int32.not_le.mpr (by assumption)))
  · refine g_iconst dX2_stayedAway_36 (v := 3) (by decide) ?_
    refine g_goto (tgt := 41) dX2_stayedAway_37 (by decide) ?_
    refine g_icmp_lt (tgt := 49) dX2_stayedAway_41 (by decide) (fun c41 => ?_) (fun c41 => ?_)
    · refine g_vret dX2_stayedAway_49 rfl ?_
      simp only [sI_sP, sP_sP, mI_sP] at *
      refine qM h ?_
      try simp only [sI_sP, sP_sP, mI_sP]
      congr 1; funext j
      simp only [awayF]
      by_cases j5 : j = 5
      · subst j5; first | (simp_all; done) | (simp_all; intro q; exact absurd q (Int32.not_le.mpr (by assumption)))
      by_cases j6 : j = 6
      · subst j6; first | (simp_all; done) | (simp_all; intro q; exact absurd q (Int32.not_le.mpr (by assumption)))
      by_cases j8 : j = 8
      · subst j8; first | (simp_all; done) | (simp_all; intro q; exact absurd q (Int32.not_le.mpr (by assumption)))
      first | (simp_all; done) | (simp_all; intro q; exact absurd q (Int32.not_le.mpr (by assumption)))
    · refine g_aloadR_n dX2_stayedAway_44 rfl rfl ?_
      refine g_iconst dX2_stayedAway_45 (v := 1) (by decide) ?_
      refine n_putZ dX2_stayedAway_46 fX2_37 rfl hW (vld_pe hk hi) rfl (Or.inr rfl) ?_
      refine g_vret dX2_stayedAway_49 rfl ?_
      simp only [sI_sP, sP_sP, mI_sP] at *
      refine qM h ?_
      try simp only [sI_sP, sP_sP, mI_sP]
      congr 1; funext j
      simp only [awayF]
      by_cases j5 : j = 5
      · subst j5; first | (simp_all; done) | (simp_all; intro q; exact absurd q (Int32.not_le.mpr (by assumption)))
      by_cases j6 : j = 6
      · subst j6; first | (simp_all; done) | (simp_all; intro q; exact absurd q (Int32.not_le.mpr (by assumption)))
      by_cases j8 : j = 8
      · subst j8; first | (simp_all; done) | (simp_all; intro q; exact absurd q (Int32.not_le.mpr (by assumption)))
      first | (simp_all; done) | (simp_all; intro q; exact absurd q (Int32.not_le.mpr (by assumption)))
set_option maxHeartbeats 4000000 in
set_option maxRecDepth 100000 in
theorem wp_X2_enter {E : Ev} {M : Mem} {Q : QT} (hW : Wi M) {k i : Nat} (hk : k < 4) (hi : i < 11) {kd a ow pd : Int32} (hpd : pd = 0 ∨ pd = 1) (h : Q none (sP M (2, k, i) (entF (mI M (2, k, i)) kd a ow pd))) : Mth E 0 0 0 kX2_enter [vR (2, k, i), vI kd, vI a, vI ow, vI pd] M Q := by
  refine mth_of (by decide +kernel) [some (vR (2, k, i)), some (vI kd), some (vI a), some (vI ow), some (vI pd)] (Nat.le_of_ble_eq_true rfl) rfl ?_
  refine g_aloadR_n dX2_enter_0 rfl rfl ?_
  refine g_iload_n dX2_enter_1 rfl rfl ?_
  refine n_putI dX2_enter_2 fX2_15 rfl hW (vld_pe hk hi) rfl ?_
  refine g_aloadR_n dX2_enter_5 rfl rfl ?_
  refine g_iload_n dX2_enter_6 rfl rfl ?_
  refine n_putI dX2_enter_7 fX2_18 rfl hW (vld_pe hk hi) rfl ?_
  refine g_aloadR_n dX2_enter_10 rfl rfl ?_
  refine g_iload_n dX2_enter_11 rfl rfl ?_
  refine n_putI dX2_enter_12 fX2_21 rfl hW (vld_pe hk hi) rfl ?_
  refine g_aloadR_n dX2_enter_15 rfl rfl ?_
  refine g_iload dX2_enter_16 rfl ?_
  refine n_putZ dX2_enter_18 fX2_24 rfl hW (vld_pe hk hi) rfl hpd ?_
  refine g_aloadR_n dX2_enter_21 rfl rfl ?_
  refine g_iconst dX2_enter_22 (v := (-1)) (by decide) ?_
  refine n_putI dX2_enter_23 fX2_9 rfl hW (vld_pe hk hi) rfl ?_
  refine g_aloadR_n dX2_enter_26 rfl rfl ?_
  refine g_iconst dX2_enter_27 (v := 0) (by decide) ?_
  refine n_putI dX2_enter_28 fX2_28 rfl hW (vld_pe hk hi) rfl ?_
  refine g_aloadR_n dX2_enter_31 rfl rfl ?_
  refine g_iconst dX2_enter_32 (v := 0) (by decide) ?_
  refine n_putI dX2_enter_33 fX2_31 rfl hW (vld_pe hk hi) rfl ?_
  refine g_aloadR_n dX2_enter_36 rfl rfl ?_
  refine g_iconst dX2_enter_37 (v := 0) (by decide) ?_
  refine n_putI dX2_enter_38 fX2_34 rfl hW (vld_pe hk hi) rfl ?_
  refine g_aloadR_n dX2_enter_41 rfl rfl ?_
  refine g_iconst dX2_enter_42 (v := 0) (by decide) ?_
  refine n_putZ dX2_enter_43 fX2_37 rfl hW (vld_pe hk hi) rfl (Or.inl rfl) ?_
  refine g_vret dX2_enter_46 rfl ?_
  refine qM h ?_
  try simp only [sI_sP, sP_sP, mI_sP]
  congr 1; funext j
  simp only [entF]
  by_cases j0 : j = 0
  · subst j0; simp_all
  by_cases j1 : j = 1
  · subst j1; simp_all
  by_cases j2 : j = 2
  · subst j2; simp_all
  by_cases j3 : j = 3
  · subst j3; simp_all
  by_cases j4 : j = 4
  · subst j4; simp_all
  by_cases j5 : j = 5
  · subst j5; simp_all
  by_cases j6 : j = 6
  · subst j6; simp_all
  by_cases j7 : j = 7
  · subst j7; simp_all
  by_cases j8 : j = 8
  · subst j8; simp_all
  simp_all
set_option maxHeartbeats 4000000 in
set_option maxRecDepth 100000 in
theorem wp_X2_become {E : Ev} {M : Mem} {Q : QT} (hW : Wi M) {k i : Nat} (hk : k < 4) (hi : i < 11) {k2 i2 : Nat} (hk2 : k2 < 4) (hi2 : i2 < 11) (hne : ((2, k2, i2) : Id) ≠ (2, k, i)) (hp : mI M (2, k2, i2) 3 = 0 ∨ mI M (2, k2, i2) 3 = 1) (hg : mI M (2, k2, i2) 8 = 0 ∨ mI M (2, k2, i2) 8 = 1) (h : Q none (sP M (2, k, i) (fun j => if j < 9 then mI M (2, k2, i2) j else mI M (2, k, i) j))) : Mth E 0 0 0 kX2_become [vR (2, k, i), vR (2, k2, i2)] M Q := by
  refine mth_of (by decide +kernel) [some (vR (2, k, i)), some (vR (2, k2, i2))] (Nat.le_of_ble_eq_true rfl) rfl ?_
  refine g_aloadR_n dX2_become_0 rfl rfl ?_
  refine g_aloadR_n dX2_become_1 rfl rfl ?_
  refine n_getI dX2_become_2 fX2_15 rfl hW (vld_pe hk2 hi2) (Or.inl rfl) ?_
  refine n_putI dX2_become_5 fX2_15 rfl hW (vld_pe hk hi) rfl ?_
  refine g_aloadR_n dX2_become_8 rfl rfl ?_
  refine g_aloadR_n dX2_become_9 rfl rfl ?_
  refine n_getI dX2_become_10 fX2_18 rfl hW (vld_pe hk2 hi2) (Or.inl rfl) ?_
  refine n_putI dX2_become_13 fX2_18 rfl hW (vld_pe hk hi) rfl ?_
  refine g_aloadR_n dX2_become_16 rfl rfl ?_
  refine g_aloadR_n dX2_become_17 rfl rfl ?_
  refine n_getI dX2_become_18 fX2_21 rfl hW (vld_pe hk2 hi2) (Or.inl rfl) ?_
  refine n_putI dX2_become_21 fX2_21 rfl hW (vld_pe hk hi) rfl ?_
  refine g_aloadR_n dX2_become_24 rfl rfl ?_
  refine g_aloadR_n dX2_become_25 rfl rfl ?_
  refine n_getI dX2_become_26 fX2_24 rfl hW (vld_pe hk2 hi2) (Or.inr rfl) ?_
  refine n_putZ dX2_become_29 fX2_24 rfl hW (vld_pe hk hi) rfl (by simpa only [sI_sP, sP_sP, mI_sP_ne hne] using hp) ?_
  refine g_aloadR_n dX2_become_32 rfl rfl ?_
  refine g_aloadR_n dX2_become_33 rfl rfl ?_
  refine n_getI dX2_become_34 fX2_9 rfl hW (vld_pe hk2 hi2) (Or.inl rfl) ?_
  refine n_putI dX2_become_37 fX2_9 rfl hW (vld_pe hk hi) rfl ?_
  refine g_aloadR_n dX2_become_40 rfl rfl ?_
  refine g_aloadR_n dX2_become_41 rfl rfl ?_
  refine n_getI dX2_become_42 fX2_28 rfl hW (vld_pe hk2 hi2) (Or.inl rfl) ?_
  refine n_putI dX2_become_45 fX2_28 rfl hW (vld_pe hk hi) rfl ?_
  refine g_aloadR_n dX2_become_48 rfl rfl ?_
  refine g_aloadR_n dX2_become_49 rfl rfl ?_
  refine n_getI dX2_become_50 fX2_31 rfl hW (vld_pe hk2 hi2) (Or.inl rfl) ?_
  refine n_putI dX2_become_53 fX2_31 rfl hW (vld_pe hk hi) rfl ?_
  refine g_aloadR_n dX2_become_56 rfl rfl ?_
  refine g_aloadR_n dX2_become_57 rfl rfl ?_
  refine n_getI dX2_become_58 fX2_34 rfl hW (vld_pe hk2 hi2) (Or.inl rfl) ?_
  refine n_putI dX2_become_61 fX2_34 rfl hW (vld_pe hk hi) rfl ?_
  refine g_aloadR_n dX2_become_64 rfl rfl ?_
  refine g_aloadR_n dX2_become_65 rfl rfl ?_
  refine n_getI dX2_become_66 fX2_37 rfl hW (vld_pe hk2 hi2) (Or.inr rfl) ?_
  refine n_putZ dX2_become_69 fX2_37 rfl hW (vld_pe hk hi) rfl (by simpa only [sI_sP, sP_sP, mI_sP_ne hne] using hg) ?_
  refine g_vret dX2_become_72 rfl ?_
  refine qM h ?_
  simp only [sI_sP, sP_sP, mI_sP, mI_sP_ne hne]
  congr 1; funext j
  by_cases hj : j < 9
  · rw [if_pos hj]
    rcases (by omega : j = 0 ∨ j = 1 ∨ j = 2 ∨ j = 3 ∨ j = 4 ∨ j = 5 ∨ j = 6 ∨ j = 7 ∨ j = 8) with rfl | rfl | rfl | rfl | rfl | rfl | rfl | rfl | rfl <;> simp
  · rw [if_neg hj]
    have a0 : j ≠ 0 := by omega
    have a1 : j ≠ 1 := by omega
    have a2 : j ≠ 2 := by omega
    have a3 : j ≠ 3 := by omega
    have a4 : j ≠ 4 := by omega
    have a5 : j ≠ 5 := by omega
    have a6 : j ≠ 6 := by omega
    have a7 : j ≠ 7 := by omega
    have a8 : j ≠ 8 := by omega
    simp only [if_neg a0, if_neg a1, if_neg a2, if_neg a3, if_neg a4, if_neg a5, if_neg a6, if_neg a7, if_neg a8]
set_option maxHeartbeats 4000000 in
set_option maxRecDepth 100000 in
theorem wp_X2_mark {E : Ev} {M : Mem} {Q : QT} (hW : Wi M) {k i : Nat} (hk : k < 4) (hi : i < 11) {x : Int32} (hx : IN x 8) (hp : mI M (2, k, i) 3 = 0 ∨ mI M (2, k, i) 3 = 1) (hg : mI M (2, k, i) 8 = 0 ∨ mI M (2, k, i) 8 = 1) (h : Q (some (vI (mI M (2, k, i) (markI x.toNatClampNeg)))) M) : Mth E 0 0 0 kX2_mark [vR (2, k, i), vI x] M Q := by
  refine mth_of (by decide +kernel) [some (vR (2, k, i)), some (vI x)] (Nat.le_of_ble_eq_true rfl) rfl ?_
  refine g_iload_n dX2_mark_0 rfl rfl ?_
  refine g_top (fun y1 e1 => ?_)
  by_cases s1_0 : y1 = 0
  · refine g_tableIn (tgt := 44) dX2_mark_1 (by rw [s1_0]; decide) (by rw [s1_0]; decide) (o := 43) (by rw [s1_0]; decide) (by decide) ?_
    refine g_aloadR_n dX2_mark_44 rfl rfl ?_
    refine n_getI dX2_mark_45 fX2_15 rfl hW (vld_pe hk hi) (Or.inl rfl) ?_
    refine g_iret dX2_mark_48 rfl ?_
    subst e1
    refine qI h ?_
    first | (rw [s1_0]; exact rfl) | (rw [s1_1]; exact rfl) | (rw [s1_2]; exact rfl) | (rw [s1_3]; exact rfl) | (rw [s1_4]; exact rfl) | (rw [s1_5]; exact rfl) | (rw [s1_6]; exact rfl) | (have e7 : y1 = 7 := (by obtain ⟨q1, q2⟩ := hx; have t0 := sw_ne s1_0; have t1 := sw_ne s1_1; have t2 := sw_ne s1_2; have t3 := sw_ne s1_3; have t4 := sw_ne s1_4; have t5 := sw_ne s1_5; have t6 := sw_ne s1_6; simp only [zcs] at t0 t1 t2 t3 t4 t5 t6; apply Int32.toInt_inj.mp; simp only [zcs]; omega); rw [e7]; exact rfl)
  by_cases s1_1 : y1 = 1
  · refine g_tableIn (tgt := 49) dX2_mark_1 (by rw [s1_1]; decide) (by rw [s1_1]; decide) (o := 48) (by rw [s1_1]; decide) (by decide) ?_
    refine g_aloadR_n dX2_mark_49 rfl rfl ?_
    refine n_getI dX2_mark_50 fX2_18 rfl hW (vld_pe hk hi) (Or.inl rfl) ?_
    refine g_iret dX2_mark_53 rfl ?_
    subst e1
    refine qI h ?_
    first | (rw [s1_0]; exact rfl) | (rw [s1_1]; exact rfl) | (rw [s1_2]; exact rfl) | (rw [s1_3]; exact rfl) | (rw [s1_4]; exact rfl) | (rw [s1_5]; exact rfl) | (rw [s1_6]; exact rfl) | (have e7 : y1 = 7 := (by obtain ⟨q1, q2⟩ := hx; have t0 := sw_ne s1_0; have t1 := sw_ne s1_1; have t2 := sw_ne s1_2; have t3 := sw_ne s1_3; have t4 := sw_ne s1_4; have t5 := sw_ne s1_5; have t6 := sw_ne s1_6; simp only [zcs] at t0 t1 t2 t3 t4 t5 t6; apply Int32.toInt_inj.mp; simp only [zcs]; omega); rw [e7]; exact rfl)
  by_cases s1_2 : y1 = 2
  · refine g_tableIn (tgt := 54) dX2_mark_1 (by rw [s1_2]; decide) (by rw [s1_2]; decide) (o := 53) (by rw [s1_2]; decide) (by decide) ?_
    refine g_aloadR_n dX2_mark_54 rfl rfl ?_
    refine n_getI dX2_mark_55 fX2_21 rfl hW (vld_pe hk hi) (Or.inl rfl) ?_
    refine g_iret dX2_mark_58 rfl ?_
    subst e1
    refine qI h ?_
    first | (rw [s1_0]; exact rfl) | (rw [s1_1]; exact rfl) | (rw [s1_2]; exact rfl) | (rw [s1_3]; exact rfl) | (rw [s1_4]; exact rfl) | (rw [s1_5]; exact rfl) | (rw [s1_6]; exact rfl) | (have e7 : y1 = 7 := (by obtain ⟨q1, q2⟩ := hx; have t0 := sw_ne s1_0; have t1 := sw_ne s1_1; have t2 := sw_ne s1_2; have t3 := sw_ne s1_3; have t4 := sw_ne s1_4; have t5 := sw_ne s1_5; have t6 := sw_ne s1_6; simp only [zcs] at t0 t1 t2 t3 t4 t5 t6; apply Int32.toInt_inj.mp; simp only [zcs]; omega); rw [e7]; exact rfl)
  by_cases s1_3 : y1 = 3
  · refine g_tableIn (tgt := 59) dX2_mark_1 (by rw [s1_3]; decide) (by rw [s1_3]; decide) (o := 58) (by rw [s1_3]; decide) (by decide) ?_
    refine g_aloadR_n dX2_mark_59 rfl rfl ?_
    refine n_getI dX2_mark_60 fX2_24 rfl hW (vld_pe hk hi) (Or.inr rfl) ?_
    refine g_if_eq (tgt := 70) dX2_mark_63 (by decide) (fun c63 => ?_) (fun c63 => ?_)
    · refine g_iconst dX2_mark_70 (v := 0) (by decide) ?_
      refine g_iret dX2_mark_71 rfl ?_
      subst e1
      refine qI h ?_
      first | (first | (rw [s1_0]; exact c63.symm) | (rw [s1_1]; exact c63.symm) | (rw [s1_2]; exact c63.symm) | (rw [s1_3]; exact c63.symm) | (rw [s1_4]; exact c63.symm) | (rw [s1_5]; exact c63.symm) | (rw [s1_6]; exact c63.symm) | (have e7 : y1 = 7 := (by obtain ⟨q1, q2⟩ := hx; have t0 := sw_ne s1_0; have t1 := sw_ne s1_1; have t2 := sw_ne s1_2; have t3 := sw_ne s1_3; have t4 := sw_ne s1_4; have t5 := sw_ne s1_5; have t6 := sw_ne s1_6; simp only [zcs] at t0 t1 t2 t3 t4 t5 t6; apply Int32.toInt_inj.mp; simp only [zcs]; omega); rw [e7]; exact c63.symm)) | (first | (rw [s1_0]; exact c91.symm) | (rw [s1_1]; exact c91.symm) | (rw [s1_2]; exact c91.symm) | (rw [s1_3]; exact c91.symm) | (rw [s1_4]; exact c91.symm) | (rw [s1_5]; exact c91.symm) | (rw [s1_6]; exact c91.symm) | (have e7 : y1 = 7 := (by obtain ⟨q1, q2⟩ := hx; have t0 := sw_ne s1_0; have t1 := sw_ne s1_1; have t2 := sw_ne s1_2; have t3 := sw_ne s1_3; have t4 := sw_ne s1_4; have t5 := sw_ne s1_5; have t6 := sw_ne s1_6; simp only [zcs] at t0 t1 t2 t3 t4 t5 t6; apply Int32.toInt_inj.mp; simp only [zcs]; omega); rw [e7]; exact c91.symm))
    · refine g_iconst dX2_mark_66 (v := 1) (by decide) ?_
      refine g_goto (tgt := 71) dX2_mark_67 (by decide) ?_
      refine g_iret dX2_mark_71 rfl ?_
      subst e1
      refine qI h ?_
      first | (first | (rw [s1_0]; exact (hp.resolve_left c63).symm) | (rw [s1_1]; exact (hp.resolve_left c63).symm) | (rw [s1_2]; exact (hp.resolve_left c63).symm) | (rw [s1_3]; exact (hp.resolve_left c63).symm) | (rw [s1_4]; exact (hp.resolve_left c63).symm) | (rw [s1_5]; exact (hp.resolve_left c63).symm) | (rw [s1_6]; exact (hp.resolve_left c63).symm) | (have e7 : y1 = 7 := (by obtain ⟨q1, q2⟩ := hx; have t0 := sw_ne s1_0; have t1 := sw_ne s1_1; have t2 := sw_ne s1_2; have t3 := sw_ne s1_3; have t4 := sw_ne s1_4; have t5 := sw_ne s1_5; have t6 := sw_ne s1_6; simp only [zcs] at t0 t1 t2 t3 t4 t5 t6; apply Int32.toInt_inj.mp; simp only [zcs]; omega); rw [e7]; exact (hp.resolve_left c63).symm)) | (first | (rw [s1_0]; exact (hg.resolve_left c91).symm) | (rw [s1_1]; exact (hg.resolve_left c91).symm) | (rw [s1_2]; exact (hg.resolve_left c91).symm) | (rw [s1_3]; exact (hg.resolve_left c91).symm) | (rw [s1_4]; exact (hg.resolve_left c91).symm) | (rw [s1_5]; exact (hg.resolve_left c91).symm) | (rw [s1_6]; exact (hg.resolve_left c91).symm) | (have e7 : y1 = 7 := (by obtain ⟨q1, q2⟩ := hx; have t0 := sw_ne s1_0; have t1 := sw_ne s1_1; have t2 := sw_ne s1_2; have t3 := sw_ne s1_3; have t4 := sw_ne s1_4; have t5 := sw_ne s1_5; have t6 := sw_ne s1_6; simp only [zcs] at t0 t1 t2 t3 t4 t5 t6; apply Int32.toInt_inj.mp; simp only [zcs]; omega); rw [e7]; exact (hg.resolve_left c91).symm))
  by_cases s1_4 : y1 = 4
  · refine g_tableIn (tgt := 72) dX2_mark_1 (by rw [s1_4]; decide) (by rw [s1_4]; decide) (o := 71) (by rw [s1_4]; decide) (by decide) ?_
    refine g_aloadR_n dX2_mark_72 rfl rfl ?_
    refine n_getI dX2_mark_73 fX2_28 rfl hW (vld_pe hk hi) (Or.inl rfl) ?_
    refine g_iret dX2_mark_76 rfl ?_
    subst e1
    refine qI h ?_
    first | (rw [s1_0]; exact rfl) | (rw [s1_1]; exact rfl) | (rw [s1_2]; exact rfl) | (rw [s1_3]; exact rfl) | (rw [s1_4]; exact rfl) | (rw [s1_5]; exact rfl) | (rw [s1_6]; exact rfl) | (have e7 : y1 = 7 := (by obtain ⟨q1, q2⟩ := hx; have t0 := sw_ne s1_0; have t1 := sw_ne s1_1; have t2 := sw_ne s1_2; have t3 := sw_ne s1_3; have t4 := sw_ne s1_4; have t5 := sw_ne s1_5; have t6 := sw_ne s1_6; simp only [zcs] at t0 t1 t2 t3 t4 t5 t6; apply Int32.toInt_inj.mp; simp only [zcs]; omega); rw [e7]; exact rfl)
  by_cases s1_5 : y1 = 5
  · refine g_tableIn (tgt := 77) dX2_mark_1 (by rw [s1_5]; decide) (by rw [s1_5]; decide) (o := 76) (by rw [s1_5]; decide) (by decide) ?_
    refine g_aloadR_n dX2_mark_77 rfl rfl ?_
    refine n_getI dX2_mark_78 fX2_31 rfl hW (vld_pe hk hi) (Or.inl rfl) ?_
    refine g_iret dX2_mark_81 rfl ?_
    subst e1
    refine qI h ?_
    first | (rw [s1_0]; exact rfl) | (rw [s1_1]; exact rfl) | (rw [s1_2]; exact rfl) | (rw [s1_3]; exact rfl) | (rw [s1_4]; exact rfl) | (rw [s1_5]; exact rfl) | (rw [s1_6]; exact rfl) | (have e7 : y1 = 7 := (by obtain ⟨q1, q2⟩ := hx; have t0 := sw_ne s1_0; have t1 := sw_ne s1_1; have t2 := sw_ne s1_2; have t3 := sw_ne s1_3; have t4 := sw_ne s1_4; have t5 := sw_ne s1_5; have t6 := sw_ne s1_6; simp only [zcs] at t0 t1 t2 t3 t4 t5 t6; apply Int32.toInt_inj.mp; simp only [zcs]; omega); rw [e7]; exact rfl)
  by_cases s1_6 : y1 = 6
  · refine g_tableIn (tgt := 82) dX2_mark_1 (by rw [s1_6]; decide) (by rw [s1_6]; decide) (o := 81) (by rw [s1_6]; decide) (by decide) ?_
    refine g_aloadR_n dX2_mark_82 rfl rfl ?_
    refine n_getI dX2_mark_83 fX2_34 rfl hW (vld_pe hk hi) (Or.inl rfl) ?_
    refine g_iret dX2_mark_86 rfl ?_
    subst e1
    refine qI h ?_
    first | (rw [s1_0]; exact rfl) | (rw [s1_1]; exact rfl) | (rw [s1_2]; exact rfl) | (rw [s1_3]; exact rfl) | (rw [s1_4]; exact rfl) | (rw [s1_5]; exact rfl) | (rw [s1_6]; exact rfl) | (have e7 : y1 = 7 := (by obtain ⟨q1, q2⟩ := hx; have t0 := sw_ne s1_0; have t1 := sw_ne s1_1; have t2 := sw_ne s1_2; have t3 := sw_ne s1_3; have t4 := sw_ne s1_4; have t5 := sw_ne s1_5; have t6 := sw_ne s1_6; simp only [zcs] at t0 t1 t2 t3 t4 t5 t6; apply Int32.toInt_inj.mp; simp only [zcs]; omega); rw [e7]; exact rfl)
  refine g_tableOut (tgt := 87) dX2_mark_1 (by have t0 : ¬ y1.toInt = 0 := sw_ne s1_0; have t1 : ¬ y1.toInt = 1 := sw_ne s1_1; have t2 : ¬ y1.toInt = 2 := sw_ne s1_2; have t3 : ¬ y1.toInt = 3 := sw_ne s1_3; have t4 : ¬ y1.toInt = 4 := sw_ne s1_4; have t5 : ¬ y1.toInt = 5 := sw_ne s1_5; have t6 : ¬ y1.toInt = 6 := sw_ne s1_6; omega) (by decide) ?_
  refine g_aloadR_n dX2_mark_87 rfl rfl ?_
  refine n_getI dX2_mark_88 fX2_37 rfl hW (vld_pe hk hi) (Or.inr rfl) ?_
  refine g_if_eq (tgt := 98) dX2_mark_91 (by decide) (fun c91 => ?_) (fun c91 => ?_)
  · refine g_iconst dX2_mark_98 (v := 0) (by decide) ?_
    refine g_iret dX2_mark_99 rfl ?_
    subst e1
    refine qI h ?_
    first | (first | (rw [s1_0]; exact c63.symm) | (rw [s1_1]; exact c63.symm) | (rw [s1_2]; exact c63.symm) | (rw [s1_3]; exact c63.symm) | (rw [s1_4]; exact c63.symm) | (rw [s1_5]; exact c63.symm) | (rw [s1_6]; exact c63.symm) | (have e7 : y1 = 7 := (by obtain ⟨q1, q2⟩ := hx; have t0 := sw_ne s1_0; have t1 := sw_ne s1_1; have t2 := sw_ne s1_2; have t3 := sw_ne s1_3; have t4 := sw_ne s1_4; have t5 := sw_ne s1_5; have t6 := sw_ne s1_6; simp only [zcs] at t0 t1 t2 t3 t4 t5 t6; apply Int32.toInt_inj.mp; simp only [zcs]; omega); rw [e7]; exact c63.symm)) | (first | (rw [s1_0]; exact c91.symm) | (rw [s1_1]; exact c91.symm) | (rw [s1_2]; exact c91.symm) | (rw [s1_3]; exact c91.symm) | (rw [s1_4]; exact c91.symm) | (rw [s1_5]; exact c91.symm) | (rw [s1_6]; exact c91.symm) | (have e7 : y1 = 7 := (by obtain ⟨q1, q2⟩ := hx; have t0 := sw_ne s1_0; have t1 := sw_ne s1_1; have t2 := sw_ne s1_2; have t3 := sw_ne s1_3; have t4 := sw_ne s1_4; have t5 := sw_ne s1_5; have t6 := sw_ne s1_6; simp only [zcs] at t0 t1 t2 t3 t4 t5 t6; apply Int32.toInt_inj.mp; simp only [zcs]; omega); rw [e7]; exact c91.symm))
  · refine g_iconst dX2_mark_94 (v := 1) (by decide) ?_
    refine g_goto (tgt := 99) dX2_mark_95 (by decide) ?_
    refine g_iret dX2_mark_99 rfl ?_
    subst e1
    refine qI h ?_
    first | (first | (rw [s1_0]; exact (hp.resolve_left c63).symm) | (rw [s1_1]; exact (hp.resolve_left c63).symm) | (rw [s1_2]; exact (hp.resolve_left c63).symm) | (rw [s1_3]; exact (hp.resolve_left c63).symm) | (rw [s1_4]; exact (hp.resolve_left c63).symm) | (rw [s1_5]; exact (hp.resolve_left c63).symm) | (rw [s1_6]; exact (hp.resolve_left c63).symm) | (have e7 : y1 = 7 := (by obtain ⟨q1, q2⟩ := hx; have t0 := sw_ne s1_0; have t1 := sw_ne s1_1; have t2 := sw_ne s1_2; have t3 := sw_ne s1_3; have t4 := sw_ne s1_4; have t5 := sw_ne s1_5; have t6 := sw_ne s1_6; simp only [zcs] at t0 t1 t2 t3 t4 t5 t6; apply Int32.toInt_inj.mp; simp only [zcs]; omega); rw [e7]; exact (hp.resolve_left c63).symm)) | (first | (rw [s1_0]; exact (hg.resolve_left c91).symm) | (rw [s1_1]; exact (hg.resolve_left c91).symm) | (rw [s1_2]; exact (hg.resolve_left c91).symm) | (rw [s1_3]; exact (hg.resolve_left c91).symm) | (rw [s1_4]; exact (hg.resolve_left c91).symm) | (rw [s1_5]; exact (hg.resolve_left c91).symm) | (rw [s1_6]; exact (hg.resolve_left c91).symm) | (have e7 : y1 = 7 := (by obtain ⟨q1, q2⟩ := hx; have t0 := sw_ne s1_0; have t1 := sw_ne s1_1; have t2 := sw_ne s1_2; have t3 := sw_ne s1_3; have t4 := sw_ne s1_4; have t5 := sw_ne s1_5; have t6 := sw_ne s1_6; simp only [zcs] at t0 t1 t2 t3 t4 t5 t6; apply Int32.toInt_inj.mp; simp only [zcs]; omega); rw [e7]; exact (hg.resolve_left c91).symm))
set_option maxHeartbeats 4000000 in
set_option maxRecDepth 100000 in
theorem wp_X2_sayingAs {E : Ev} {M : Mem} {Q : QT} (hW : Wi M) {k i : Nat} (hk : k < 4) (hi : i < 11) {x : Int32} (h : Q (some (vI (mI M (2, k, i) (if x = 1 ∨ x = 3 ∨ x = 6 then 7 else if x = 2 ∨ x = 4 then 5 else if x = 5 then 1 else 2)))) M) : Mth E 0 0 0 kX2_sayingAs [vR (2, k, i), vI x] M Q := by
  refine mth_of (by decide +kernel) [some (vR (2, k, i)), some (vI x)] (Nat.le_of_ble_eq_true rfl) rfl ?_
  refine g_iload_n dX2_sayingAs_0 rfl rfl ?_
  refine g_top (fun y1 e1 => ?_)
  by_cases s1_0 : y1 = 1
  · refine g_tableIn (tgt := 40) dX2_sayingAs_1 (by rw [s1_0]; decide) (by rw [s1_0]; decide) (o := 39) (by rw [s1_0]; decide) (by decide) ?_
    refine g_aloadR_n dX2_sayingAs_40 rfl rfl ?_
    refine n_getI dX2_sayingAs_41 fX2_34 rfl hW (vld_pe hk hi) (Or.inl rfl) ?_
    refine g_iret dX2_sayingAs_44 rfl ?_
    subst e1
    exact qI h (by simp [*])
  by_cases s1_1 : y1 = 2
  · refine g_tableIn (tgt := 45) dX2_sayingAs_1 (by rw [s1_1]; decide) (by rw [s1_1]; decide) (o := 44) (by rw [s1_1]; decide) (by decide) ?_
    refine g_aloadR_n dX2_sayingAs_45 rfl rfl ?_
    refine n_getI dX2_sayingAs_46 fX2_28 rfl hW (vld_pe hk hi) (Or.inl rfl) ?_
    refine g_iret dX2_sayingAs_49 rfl ?_
    subst e1
    exact qI h (by simp [*])
  by_cases s1_2 : y1 = 3
  · refine g_tableIn (tgt := 40) dX2_sayingAs_1 (by rw [s1_2]; decide) (by rw [s1_2]; decide) (o := 39) (by rw [s1_2]; decide) (by decide) ?_
    refine g_aloadR_n dX2_sayingAs_40 rfl rfl ?_
    refine n_getI dX2_sayingAs_41 fX2_34 rfl hW (vld_pe hk hi) (Or.inl rfl) ?_
    refine g_iret dX2_sayingAs_44 rfl ?_
    subst e1
    exact qI h (by simp [*])
  by_cases s1_3 : y1 = 4
  · refine g_tableIn (tgt := 45) dX2_sayingAs_1 (by rw [s1_3]; decide) (by rw [s1_3]; decide) (o := 44) (by rw [s1_3]; decide) (by decide) ?_
    refine g_aloadR_n dX2_sayingAs_45 rfl rfl ?_
    refine n_getI dX2_sayingAs_46 fX2_28 rfl hW (vld_pe hk hi) (Or.inl rfl) ?_
    refine g_iret dX2_sayingAs_49 rfl ?_
    subst e1
    exact qI h (by simp [*])
  by_cases s1_4 : y1 = 5
  · refine g_tableIn (tgt := 50) dX2_sayingAs_1 (by rw [s1_4]; decide) (by rw [s1_4]; decide) (o := 49) (by rw [s1_4]; decide) (by decide) ?_
    refine g_aloadR_n dX2_sayingAs_50 rfl rfl ?_
    refine n_getI dX2_sayingAs_51 fX2_18 rfl hW (vld_pe hk hi) (Or.inl rfl) ?_
    refine g_iret dX2_sayingAs_54 rfl ?_
    subst e1
    exact qI h (by simp [*])
  by_cases s1_5 : y1 = 6
  · refine g_tableIn (tgt := 40) dX2_sayingAs_1 (by rw [s1_5]; decide) (by rw [s1_5]; decide) (o := 39) (by rw [s1_5]; decide) (by decide) ?_
    refine g_aloadR_n dX2_sayingAs_40 rfl rfl ?_
    refine n_getI dX2_sayingAs_41 fX2_34 rfl hW (vld_pe hk hi) (Or.inl rfl) ?_
    refine g_iret dX2_sayingAs_44 rfl ?_
    subst e1
    exact qI h (by simp [*])
  refine g_tableOut (tgt := 55) dX2_sayingAs_1 (by have t0 : ¬ y1.toInt = 1 := sw_ne s1_0; have t1 : ¬ y1.toInt = 2 := sw_ne s1_1; have t2 : ¬ y1.toInt = 3 := sw_ne s1_2; have t3 : ¬ y1.toInt = 4 := sw_ne s1_3; have t4 : ¬ y1.toInt = 5 := sw_ne s1_4; have t5 : ¬ y1.toInt = 6 := sw_ne s1_5; omega) (by decide) ?_
  refine g_aloadR_n dX2_sayingAs_55 rfl rfl ?_
  refine n_getI dX2_sayingAs_56 fX2_21 rfl hW (vld_pe hk hi) (Or.inl rfl) ?_
  refine g_iret dX2_sayingAs_59 rfl ?_
  subst e1
  exact qI h (by simp [*])
end
section
/-! SETS OF PEOPLE AS BITS; LOOPS -/
theorem up_loop {P : Nat → Prop} (n : Nat) (step : ∀ j, j ≤ n → (j < n → P (j + 1)) → P j) : ∀ j, j ≤ n → P j := by
  have : ∀ d j, j + d = n → P j := by
    intro d
    induction d with
    | zero => intro j h; exact step j (by omega) (fun q => absurd q (by omega))
    | succ d ih => intro j h; exact step j (by omega) (fun _ => ih (j + 1) (by omega))
  intro j h
  exact this (n - j) j (by omega)
theorem nI_inc (j : Nat) : nI j + Int32.ofInt 1 = nI (j + 1) := nI_1 j
def mk (P : Nat → Bool) : Nat → Nat
  | 0 => 0
  | n + 1 => mk P n + (if P n then 2 ^ n else 0)
theorem mk_lt (P : Nat → Bool) : ∀ n, mk P n < 2 ^ n
  | 0 => by simp [mk]
  | n + 1 => by
    have := mk_lt P n
    simp only [mk, Nat.pow_succ]
    split <;> omega
theorem mk_bit (P : Nat → Bool) : ∀ (n i : Nat), (mk P n).testBit i = (decide (i < n) && P i) := by
  intro n
  induction n with
  | zero => intro i; simp [mk]
  | succ n ih =>
    intro i
    have hlt := mk_lt P n
    simp only [mk]
    by_cases hp : P n = true
    · have e : 2 ^ n + mk P n = 2 ^ n ||| mk P n := by have := Nat.two_pow_add_eq_or_of_lt hlt 1; simpa using this
      rw [if_pos hp, Nat.add_comm, e]
      rw [Nat.testBit_or, ih]
      by_cases hi : i = n
      · subst hi; simp [hp, Nat.testBit_two_pow_self]
      · rw [Nat.testBit_two_pow_of_ne (fun q => hi q.symm)]
        have : decide (i < n + 1) = decide (i < n) := by simp; omega
        rw [this]; simp
    · rw [if_neg hp, Nat.add_zero, ih]
      by_cases hi : i = n
      · subst hi; simp [hp]
      · have : decide (i < n + 1) = decide (i < n) := by simp; omega
        rw [this]
theorem mk_congr {P P' : Nat → Bool} : ∀ {n : Nat}, (∀ i, i < n → P i = P' i) → mk P n = mk P' n := by
  intro n
  induction n with
  | zero => intro _; rfl
  | succ n ih => intro h; simp only [mk]; rw [ih (fun i hi => h i (by omega)), h n (by omega)]
theorem bit_ext {a b n : Nat} (ha : a < 2 ^ n) (hb : b < 2 ^ n) (h : ∀ i, i < n → a.testBit i = b.testBit i) : a = b := by
  apply Nat.eq_of_testBit_eq
  intro i
  by_cases hi : i < n
  · exact h i hi
  · rw [Nat.testBit_lt_two_pow (Nat.lt_of_lt_of_le ha (Nat.pow_le_pow_right (by decide) (by omega))), Nat.testBit_lt_two_pow (Nat.lt_of_lt_of_le hb (Nat.pow_le_pow_right (by decide) (by omega)))]
/-- bits by ints: all of ten places -/
theorem bt_or0 : (List.range 11).all (fun j => (List.range (2 ^ j)).all fun m => nI m ||| (1 <<< (nI j &&& 31)) == nI (m + 2 ^ j)) = true := by decide +kernel
theorem bt_or {j m : Nat} (hj : j < 11) (hm : m < 2 ^ j) : nI m ||| (1 <<< (nI j &&& 31)) = nI (m + 2 ^ j) := by
  have h := List.all_eq_true.mp (List.all_eq_true.mp bt_or0 j (List.mem_range.mpr hj)) m (List.mem_range.mpr hm)
  simpa using h
theorem bt_sh0 : (List.range 11).all (fun j => (1 : Int32) <<< (nI j &&& 31) == nI (2 ^ j)) = true := by decide +kernel
theorem bt_sh {j : Nat} (hj : j < 11) : (1 : Int32) <<< (nI j &&& 31) = nI (2 ^ j) := by
  have h := List.all_eq_true.mp bt_sh0 j (List.mem_range.mpr hj)
  simpa using h
theorem bt_tb0 : (List.range 11).all (fun j => (List.range 2048).all fun m => ((nI m >>> (nI j &&& 31)) &&& 1) == (if m.testBit j then 1 else 0)) = true := by decide +kernel
theorem bt_tb {j m : Nat} (hj : j < 11) (hm : m < 2048) : (nI m >>> (nI j &&& 31)) &&& 1 = if m.testBit j then 1 else 0 := by
  have h := List.all_eq_true.mp (List.all_eq_true.mp bt_tb0 j (List.mem_range.mpr hj)) m (List.mem_range.mpr hm)
  simpa using h
/-- how many bits -/
def popc (m : Nat) : Nat := (List.range 11).foldl (fun s i => s + (if m.testBit i then 1 else 0)) 0
end
