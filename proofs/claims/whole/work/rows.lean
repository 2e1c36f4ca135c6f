section
-- ===== PART A: goes FIRST, ahead of the names: the tables' words, and 'selects' of the private methods out of them =====
/-- a private method of a class that the tables say can be made, by its rows of tables_1 -/
def lw_okq (q : MethodName × Nat) : Prop := (q.1.cls ≠ "java/lang/invoke/MethodHandle" ∧ q.1.cls ≠ "java/lang/invoke/VarHandle") ∧ Cond.instantiable q.1.cls q.2 ∈ tables_1 ∧ Cond.privateMethod q.1 ∈ tables_1 ∧ Cond.instanceMethod q.1 ∈ tables_1
theorem lw_p0 : lw_okq (⟨"HenHuts$Wood", "rowOf", "(I)[I"⟩, 12) := ⟨⟨by decide +kernel, by decide +kernel⟩, List.mem_of_getElem? (i := 26) (by decide +kernel), List.mem_of_getElem? (i := 359) (by decide +kernel), List.mem_of_getElem? (i := 360) (by decide +kernel)⟩
theorem lw_p1 : lw_okq (⟨"HenHuts$Evening", "begin", "(LHenHuts$Wood;)V"⟩, 7) := ⟨⟨by decide +kernel, by decide +kernel⟩, List.mem_of_getElem? (i := 127) (by decide +kernel), List.mem_of_getElem? (i := 434) (by decide +kernel), List.mem_of_getElem? (i := 435) (by decide +kernel)⟩
theorem lw_p2 : lw_okq (⟨"HenHuts$Evening", "knock", "(LHenHuts$Wood;II)I"⟩, 7) := ⟨⟨by decide +kernel, by decide +kernel⟩, List.mem_of_getElem? (i := 127) (by decide +kernel), List.mem_of_getElem? (i := 444) (by decide +kernel), List.mem_of_getElem? (i := 445) (by decide +kernel)⟩
theorem lw_p3 : lw_okq (⟨"HenHuts$Evening", "happen", "(LHenHuts$Wood;I)I"⟩, 7) := ⟨⟨by decide +kernel, by decide +kernel⟩, List.mem_of_getElem? (i := 127) (by decide +kernel), List.mem_of_getElem? (i := 449) (by decide +kernel), List.mem_of_getElem? (i := 450) (by decide +kernel)⟩
theorem lw_p4 : lw_okq (⟨"HenHuts$Evening", "thunder", "(LHenHuts$Wood;)V"⟩, 7) := ⟨⟨by decide +kernel, by decide +kernel⟩, List.mem_of_getElem? (i := 127) (by decide +kernel), List.mem_of_getElem? (i := 453) (by decide +kernel), List.mem_of_getElem? (i := 454) (by decide +kernel)⟩
theorem lw_p5 : lw_okq (⟨"HenHuts$Evening", "rest", "(LHenHuts$Wood;)V"⟩, 7) := ⟨⟨by decide +kernel, by decide +kernel⟩, List.mem_of_getElem? (i := 127) (by decide +kernel), List.mem_of_getElem? (i := 457) (by decide +kernel), List.mem_of_getElem? (i := 458) (by decide +kernel)⟩
theorem lw_p6 : lw_okq (⟨"HenHuts$Evening", "hear", "(LHenHuts$Wood;I)V"⟩, 7) := ⟨⟨by decide +kernel, by decide +kernel⟩, List.mem_of_getElem? (i := 127) (by decide +kernel), List.mem_of_getElem? (i := 462) (by decide +kernel), List.mem_of_getElem? (i := 463) (by decide +kernel)⟩
theorem lw_p7 : lw_okq (⟨"HenHuts", "playWhole", "()I"⟩, 11) := ⟨⟨by decide +kernel, by decide +kernel⟩, List.mem_of_getElem? (i := 18) (by decide +kernel), List.mem_of_getElem? (i := 478) (by decide +kernel), List.mem_of_getElem? (i := 479) (by decide +kernel)⟩
theorem lw_p8 : lw_okq (⟨"HenHuts$Paths", "reach", "(II)V"⟩, 5) := ⟨⟨by decide +kernel, by decide +kernel⟩, List.mem_of_getElem? (i := 162) (by decide +kernel), List.mem_of_getElem? (i := 529) (by decide +kernel), List.mem_of_getElem? (i := 530) (by decide +kernel)⟩
theorem lw_p9 : lw_okq (⟨"HenHuts$Steps", "step", "(II)I"⟩, 2) := ⟨⟨by decide +kernel, by decide +kernel⟩, List.mem_of_getElem? (i := 168) (by decide +kernel), List.mem_of_getElem? (i := 537) (by decide +kernel), List.mem_of_getElem? (i := 538) (by decide +kernel)⟩
theorem lw_p10 : lw_okq (⟨"HenHuts", "isAim", "(II)Z"⟩, 11) := ⟨⟨by decide +kernel, by decide +kernel⟩, List.mem_of_getElem? (i := 18) (by decide +kernel), List.mem_of_getElem? (i := 553) (by decide +kernel), List.mem_of_getElem? (i := 554) (by decide +kernel)⟩
theorem lw_p11 : lw_okq (⟨"HenHuts$Paths", "cheapen", "(II)I"⟩, 5) := ⟨⟨by decide +kernel, by decide +kernel⟩, List.mem_of_getElem? (i := 162) (by decide +kernel), List.mem_of_getElem? (i := 581) (by decide +kernel), List.mem_of_getElem? (i := 582) (by decide +kernel)⟩
theorem lw_p12 : lw_okq (⟨"HenHuts$Legwork", "hear", "(LHenHuts$Wood;IIZ)Z"⟩, 4) := ⟨⟨by decide +kernel, by decide +kernel⟩, List.mem_of_getElem? (i := 201) (by decide +kernel), List.mem_of_getElem? (i := 607) (by decide +kernel), List.mem_of_getElem? (i := 608) (by decide +kernel)⟩
theorem lw_p13 : lw_okq (⟨"HenHuts", "fewestWords", "(III)I"⟩, 11) := ⟨⟨by decide +kernel, by decide +kernel⟩, List.mem_of_getElem? (i := 18) (by decide +kernel), List.mem_of_getElem? (i := 621) (by decide +kernel), List.mem_of_getElem? (i := 622) (by decide +kernel)⟩
theorem lw_p14 : lw_okq (⟨"HenHuts", "looksOfSides", "(II)I"⟩, 11) := ⟨⟨by decide +kernel, by decide +kernel⟩, List.mem_of_getElem? (i := 18) (by decide +kernel), List.mem_of_getElem? (i := 629) (by decide +kernel), List.mem_of_getElem? (i := 630) (by decide +kernel)⟩
theorem lw_p15 : lw_okq (⟨"HenHuts$Postman", "knockAll", "(I)Z"⟩, 5) := ⟨⟨by decide +kernel, by decide +kernel⟩, List.mem_of_getElem? (i := 222) (by decide +kernel), List.mem_of_getElem? (i := 640) (by decide +kernel), List.mem_of_getElem? (i := 641) (by decide +kernel)⟩
def lw_privs_1 : List (MethodName × Nat) := [(⟨"HenHuts$Wood", "rowOf", "(I)[I"⟩, 12), (⟨"HenHuts$Evening", "begin", "(LHenHuts$Wood;)V"⟩, 7), (⟨"HenHuts$Evening", "knock", "(LHenHuts$Wood;II)I"⟩, 7), (⟨"HenHuts$Evening", "happen", "(LHenHuts$Wood;I)I"⟩, 7), (⟨"HenHuts$Evening", "thunder", "(LHenHuts$Wood;)V"⟩, 7), (⟨"HenHuts$Evening", "rest", "(LHenHuts$Wood;)V"⟩, 7), (⟨"HenHuts$Evening", "hear", "(LHenHuts$Wood;I)V"⟩, 7), (⟨"HenHuts", "playWhole", "()I"⟩, 11), (⟨"HenHuts$Paths", "reach", "(II)V"⟩, 5), (⟨"HenHuts$Steps", "step", "(II)I"⟩, 2), (⟨"HenHuts", "isAim", "(II)Z"⟩, 11), (⟨"HenHuts$Paths", "cheapen", "(II)I"⟩, 5), (⟨"HenHuts$Legwork", "hear", "(LHenHuts$Wood;IIZ)Z"⟩, 4), (⟨"HenHuts", "fewestWords", "(III)I"⟩, 11), (⟨"HenHuts", "looksOfSides", "(II)I"⟩, 11), (⟨"HenHuts$Postman", "knockAll", "(I)Z"⟩, 5)]
theorem lw_r1 : ∀ q ∈ lw_privs_1, lw_okq q := List.forall_mem_cons.mpr ⟨lw_p0, List.forall_mem_cons.mpr ⟨lw_p1, List.forall_mem_cons.mpr ⟨lw_p2, List.forall_mem_cons.mpr ⟨lw_p3, List.forall_mem_cons.mpr ⟨lw_p4, List.forall_mem_cons.mpr ⟨lw_p5, List.forall_mem_cons.mpr ⟨lw_p6, List.forall_mem_cons.mpr ⟨lw_p7, List.forall_mem_cons.mpr ⟨lw_p8, List.forall_mem_cons.mpr ⟨lw_p9, List.forall_mem_cons.mpr ⟨lw_p10, List.forall_mem_cons.mpr ⟨lw_p11, List.forall_mem_cons.mpr ⟨lw_p12, List.forall_mem_cons.mpr ⟨lw_p13, List.forall_mem_cons.mpr ⟨lw_p14, List.forall_mem_cons.mpr ⟨lw_p15, fun _ h => absurd h List.not_mem_nil⟩⟩⟩⟩⟩⟩⟩⟩⟩⟩⟩⟩⟩⟩⟩⟩
theorem lw_p16 : lw_okq (⟨"HenHuts$Postman", "doorsAt", "(I)I"⟩, 5) := ⟨⟨by decide +kernel, by decide +kernel⟩, List.mem_of_getElem? (i := 222) (by decide +kernel), List.mem_of_getElem? (i := 644) (by decide +kernel), List.mem_of_getElem? (i := 645) (by decide +kernel)⟩
theorem lw_p17 : lw_okq (⟨"HenHuts$Postman", "isServed", "(I)Z"⟩, 5) := ⟨⟨by decide +kernel, by decide +kernel⟩, List.mem_of_getElem? (i := 222) (by decide +kernel), List.mem_of_getElem? (i := 658) (by decide +kernel), List.mem_of_getElem? (i := 659) (by decide +kernel)⟩
theorem lw_p18 : lw_okq (⟨"HenHuts$Postman", "hear", "(LHenHuts$Steps;II)V"⟩, 5) := ⟨⟨by decide +kernel, by decide +kernel⟩, List.mem_of_getElem? (i := 222) (by decide +kernel), List.mem_of_getElem? (i := 663) (by decide +kernel), List.mem_of_getElem? (i := 664) (by decide +kernel)⟩
theorem lw_p19 : lw_okq (⟨"HenHuts$Callers", "settlePlace", "(LHenHuts$Wood;IIII)V"⟩, 2) := ⟨⟨by decide +kernel, by decide +kernel⟩, List.mem_of_getElem? (i := 244) (by decide +kernel), List.mem_of_getElem? (i := 680) (by decide +kernel), List.mem_of_getElem? (i := 681) (by decide +kernel)⟩
theorem lw_p20 : lw_okq (⟨"HenHuts", "votes", "(II)I"⟩, 11) := ⟨⟨by decide +kernel, by decide +kernel⟩, List.mem_of_getElem? (i := 18) (by decide +kernel), List.mem_of_getElem? (i := 715) (by decide +kernel), List.mem_of_getElem? (i := 716) (by decide +kernel)⟩
theorem lw_p21 : lw_okq (⟨"HenHuts", "isTrackable", "()Z"⟩, 11) := ⟨⟨by decide +kernel, by decide +kernel⟩, List.mem_of_getElem? (i := 18) (by decide +kernel), List.mem_of_getElem? (i := 740) (by decide +kernel), List.mem_of_getElem? (i := 741) (by decide +kernel)⟩
theorem lw_p22 : lw_okq (⟨"HenHuts", "toldOfHut", "(II)I"⟩, 11) := ⟨⟨by decide +kernel, by decide +kernel⟩, List.mem_of_getElem? (i := 18) (by decide +kernel), List.mem_of_getElem? (i := 815) (by decide +kernel), List.mem_of_getElem? (i := 816) (by decide +kernel)⟩
theorem lw_p23 : lw_okq (⟨"HenHuts", "toldOfWord", "(II)I"⟩, 11) := ⟨⟨by decide +kernel, by decide +kernel⟩, List.mem_of_getElem? (i := 18) (by decide +kernel), List.mem_of_getElem? (i := 819) (by decide +kernel), List.mem_of_getElem? (i := 820) (by decide +kernel)⟩
theorem lw_p24 : lw_okq (⟨"HenHutsModel", "begin", "(I)V"⟩, 41) := ⟨⟨by decide +kernel, by decide +kernel⟩, List.mem_of_getElem? (i := 823) (by decide +kernel), List.mem_of_getElem? (i := 830) (by decide +kernel), List.mem_of_getElem? (i := 831) (by decide +kernel)⟩
theorem lw_p25 : lw_okq (⟨"HenHutsModel", "isHut", "(I)Z"⟩, 41) := ⟨⟨by decide +kernel, by decide +kernel⟩, List.mem_of_getElem? (i := 823) (by decide +kernel), List.mem_of_getElem? (i := 970) (by decide +kernel), List.mem_of_getElem? (i := 971) (by decide +kernel)⟩
theorem lw_p26 : lw_okq (⟨"HenHutsModel", "isTaken", "(II)Z"⟩, 41) := ⟨⟨by decide +kernel, by decide +kernel⟩, List.mem_of_getElem? (i := 823) (by decide +kernel), List.mem_of_getElem? (i := 978) (by decide +kernel), List.mem_of_getElem? (i := 979) (by decide +kernel)⟩
theorem lw_p27 : lw_okq (⟨"HenHutsModel", "faultOfSpell", "()I"⟩, 41) := ⟨⟨by decide +kernel, by decide +kernel⟩, List.mem_of_getElem? (i := 823) (by decide +kernel), List.mem_of_getElem? (i := 996) (by decide +kernel), List.mem_of_getElem? (i := 997) (by decide +kernel)⟩
theorem lw_p28 : lw_okq (⟨"HenHutsModel", "faultOfEvening", "()I"⟩, 41) := ⟨⟨by decide +kernel, by decide +kernel⟩, List.mem_of_getElem? (i := 823) (by decide +kernel), List.mem_of_getElem? (i := 1002) (by decide +kernel), List.mem_of_getElem? (i := 1003) (by decide +kernel)⟩
theorem lw_p29 : lw_okq (⟨"HenHutsModel", "isKnown", "(I)Z"⟩, 41) := ⟨⟨by decide +kernel, by decide +kernel⟩, List.mem_of_getElem? (i := 823) (by decide +kernel), List.mem_of_getElem? (i := 1022) (by decide +kernel), List.mem_of_getElem? (i := 1023) (by decide +kernel)⟩
theorem lw_p30 : lw_okq (⟨"HenHutsModel", "keepNow", "()V"⟩, 41) := ⟨⟨by decide +kernel, by decide +kernel⟩, List.mem_of_getElem? (i := 823) (by decide +kernel), List.mem_of_getElem? (i := 1030) (by decide +kernel), List.mem_of_getElem? (i := 1031) (by decide +kernel)⟩
theorem lw_p31 : lw_okq (⟨"HenHutsModel", "goEvening", "()V"⟩, 41) := ⟨⟨by decide +kernel, by decide +kernel⟩, List.mem_of_getElem? (i := 823) (by decide +kernel), List.mem_of_getElem? (i := 1034) (by decide +kernel), List.mem_of_getElem? (i := 1035) (by decide +kernel)⟩
def lw_privs_2 : List (MethodName × Nat) := [(⟨"HenHuts$Postman", "doorsAt", "(I)I"⟩, 5), (⟨"HenHuts$Postman", "isServed", "(I)Z"⟩, 5), (⟨"HenHuts$Postman", "hear", "(LHenHuts$Steps;II)V"⟩, 5), (⟨"HenHuts$Callers", "settlePlace", "(LHenHuts$Wood;IIII)V"⟩, 2), (⟨"HenHuts", "votes", "(II)I"⟩, 11), (⟨"HenHuts", "isTrackable", "()Z"⟩, 11), (⟨"HenHuts", "toldOfHut", "(II)I"⟩, 11), (⟨"HenHuts", "toldOfWord", "(II)I"⟩, 11), (⟨"HenHutsModel", "begin", "(I)V"⟩, 41), (⟨"HenHutsModel", "isHut", "(I)Z"⟩, 41), (⟨"HenHutsModel", "isTaken", "(II)Z"⟩, 41), (⟨"HenHutsModel", "faultOfSpell", "()I"⟩, 41), (⟨"HenHutsModel", "faultOfEvening", "()I"⟩, 41), (⟨"HenHutsModel", "isKnown", "(I)Z"⟩, 41), (⟨"HenHutsModel", "keepNow", "()V"⟩, 41), (⟨"HenHutsModel", "goEvening", "()V"⟩, 41)]
theorem lw_r2 : ∀ q ∈ lw_privs_2, lw_okq q := List.forall_mem_cons.mpr ⟨lw_p16, List.forall_mem_cons.mpr ⟨lw_p17, List.forall_mem_cons.mpr ⟨lw_p18, List.forall_mem_cons.mpr ⟨lw_p19, List.forall_mem_cons.mpr ⟨lw_p20, List.forall_mem_cons.mpr ⟨lw_p21, List.forall_mem_cons.mpr ⟨lw_p22, List.forall_mem_cons.mpr ⟨lw_p23, List.forall_mem_cons.mpr ⟨lw_p24, List.forall_mem_cons.mpr ⟨lw_p25, List.forall_mem_cons.mpr ⟨lw_p26, List.forall_mem_cons.mpr ⟨lw_p27, List.forall_mem_cons.mpr ⟨lw_p28, List.forall_mem_cons.mpr ⟨lw_p29, List.forall_mem_cons.mpr ⟨lw_p30, List.forall_mem_cons.mpr ⟨lw_p31, fun _ h => absurd h List.not_mem_nil⟩⟩⟩⟩⟩⟩⟩⟩⟩⟩⟩⟩⟩⟩⟩⟩
theorem lw_p32 : lw_okq (⟨"HenHutsModel", "whyNot", "(I)I"⟩, 41) := ⟨⟨by decide +kernel, by decide +kernel⟩, List.mem_of_getElem? (i := 823) (by decide +kernel), List.mem_of_getElem? (i := 1038) (by decide +kernel), List.mem_of_getElem? (i := 1039) (by decide +kernel)⟩
theorem lw_p33 : lw_okq (⟨"HenHutsModel", "happen", "(I)V"⟩, 41) := ⟨⟨by decide +kernel, by decide +kernel⟩, List.mem_of_getElem? (i := 823) (by decide +kernel), List.mem_of_getElem? (i := 1042) (by decide +kernel), List.mem_of_getElem? (i := 1043) (by decide +kernel)⟩
theorem lw_p34 : lw_okq (⟨"HenHutsModel", "sayWord", "(I)V"⟩, 41) := ⟨⟨by decide +kernel, by decide +kernel⟩, List.mem_of_getElem? (i := 823) (by decide +kernel), List.mem_of_getElem? (i := 1046) (by decide +kernel), List.mem_of_getElem? (i := 1047) (by decide +kernel)⟩
theorem lw_p35 : lw_okq (⟨"HenHutsModel", "heeds", "(III)I"⟩, 41) := ⟨⟨by decide +kernel, by decide +kernel⟩, List.mem_of_getElem? (i := 823) (by decide +kernel), List.mem_of_getElem? (i := 1050) (by decide +kernel), List.mem_of_getElem? (i := 1051) (by decide +kernel)⟩
theorem lw_p36 : lw_okq (⟨"HenHutsModel", "turned", "(III)I"⟩, 41) := ⟨⟨by decide +kernel, by decide +kernel⟩, List.mem_of_getElem? (i := 823) (by decide +kernel), List.mem_of_getElem? (i := 1054) (by decide +kernel), List.mem_of_getElem? (i := 1055) (by decide +kernel)⟩
theorem lw_p37 : lw_okq (⟨"HenHutsModel", "thunder", "()V"⟩, 41) := ⟨⟨by decide +kernel, by decide +kernel⟩, List.mem_of_getElem? (i := 823) (by decide +kernel), List.mem_of_getElem? (i := 1058) (by decide +kernel), List.mem_of_getElem? (i := 1059) (by decide +kernel)⟩
theorem lw_p38 : lw_okq (⟨"HenHutsModel", "night", "()V"⟩, 41) := ⟨⟨by decide +kernel, by decide +kernel⟩, List.mem_of_getElem? (i := 823) (by decide +kernel), List.mem_of_getElem? (i := 1062) (by decide +kernel), List.mem_of_getElem? (i := 1063) (by decide +kernel)⟩
theorem lw_p39 : lw_okq (⟨"HenHutsModel", "putBack", "()V"⟩, 41) := ⟨⟨by decide +kernel, by decide +kernel⟩, List.mem_of_getElem? (i := 823) (by decide +kernel), List.mem_of_getElem? (i := 1066) (by decide +kernel), List.mem_of_getElem? (i := 1067) (by decide +kernel)⟩
theorem lw_p40 : lw_okq (⟨"HenHutsModel", "spread", "(I)V"⟩, 41) := ⟨⟨by decide +kernel, by decide +kernel⟩, List.mem_of_getElem? (i := 823) (by decide +kernel), List.mem_of_getElem? (i := 1090) (by decide +kernel), List.mem_of_getElem? (i := 1091) (by decide +kernel)⟩
theorem lw_p41 : lw_okq (⟨"HenHutsModel", "lookNow", "()I"⟩, 41) := ⟨⟨by decide +kernel, by decide +kernel⟩, List.mem_of_getElem? (i := 823) (by decide +kernel), List.mem_of_getElem? (i := 1094) (by decide +kernel), List.mem_of_getElem? (i := 1095) (by decide +kernel)⟩
theorem lw_p42 : lw_okq (⟨"HenHutsModel", "saidTo", "(II)I"⟩, 41) := ⟨⟨by decide +kernel, by decide +kernel⟩, List.mem_of_getElem? (i := 823) (by decide +kernel), List.mem_of_getElem? (i := 1098) (by decide +kernel), List.mem_of_getElem? (i := 1099) (by decide +kernel)⟩
theorem lw_p43 : lw_okq (⟨"HenHutsModel", "isNumber", "(I)Z"⟩, 41) := ⟨⟨by decide +kernel, by decide +kernel⟩, List.mem_of_getElem? (i := 823) (by decide +kernel), List.mem_of_getElem? (i := 1109) (by decide +kernel), List.mem_of_getElem? (i := 1110) (by decide +kernel)⟩
theorem lw_p44 : lw_okq (⟨"HenHutsModel", "all", "()I"⟩, 41) := ⟨⟨by decide +kernel, by decide +kernel⟩, List.mem_of_getElem? (i := 823) (by decide +kernel), List.mem_of_getElem? (i := 1113) (by decide +kernel), List.mem_of_getElem? (i := 1114) (by decide +kernel)⟩
theorem lw_p45 : lw_okq (⟨"HenHutsModel", "isSet", "(I)Z"⟩, 41) := ⟨⟨by decide +kernel, by decide +kernel⟩, List.mem_of_getElem? (i := 823) (by decide +kernel), List.mem_of_getElem? (i := 1121) (by decide +kernel), List.mem_of_getElem? (i := 1122) (by decide +kernel)⟩
theorem lw_p46 : lw_okq (⟨"HenHutsModel", "firstSo", "(III)I"⟩, 41) := ⟨⟨by decide +kernel, by decide +kernel⟩, List.mem_of_getElem? (i := 823) (by decide +kernel), List.mem_of_getElem? (i := 1125) (by decide +kernel), List.mem_of_getElem? (i := 1126) (by decide +kernel)⟩
theorem lw_p47 : lw_okq (⟨"HenHutsModel", "isSo", "(III)Z"⟩, 41) := ⟨⟨by decide +kernel, by decide +kernel⟩, List.mem_of_getElem? (i := 823) (by decide +kernel), List.mem_of_getElem? (i := 1129) (by decide +kernel), List.mem_of_getElem? (i := 1130) (by decide +kernel)⟩
def lw_privs_3 : List (MethodName × Nat) := [(⟨"HenHutsModel", "whyNot", "(I)I"⟩, 41), (⟨"HenHutsModel", "happen", "(I)V"⟩, 41), (⟨"HenHutsModel", "sayWord", "(I)V"⟩, 41), (⟨"HenHutsModel", "heeds", "(III)I"⟩, 41), (⟨"HenHutsModel", "turned", "(III)I"⟩, 41), (⟨"HenHutsModel", "thunder", "()V"⟩, 41), (⟨"HenHutsModel", "night", "()V"⟩, 41), (⟨"HenHutsModel", "putBack", "()V"⟩, 41), (⟨"HenHutsModel", "spread", "(I)V"⟩, 41), (⟨"HenHutsModel", "lookNow", "()I"⟩, 41), (⟨"HenHutsModel", "saidTo", "(II)I"⟩, 41), (⟨"HenHutsModel", "isNumber", "(I)Z"⟩, 41), (⟨"HenHutsModel", "all", "()I"⟩, 41), (⟨"HenHutsModel", "isSet", "(I)Z"⟩, 41), (⟨"HenHutsModel", "firstSo", "(III)I"⟩, 41), (⟨"HenHutsModel", "isSo", "(III)Z"⟩, 41)]
theorem lw_r3 : ∀ q ∈ lw_privs_3, lw_okq q := List.forall_mem_cons.mpr ⟨lw_p32, List.forall_mem_cons.mpr ⟨lw_p33, List.forall_mem_cons.mpr ⟨lw_p34, List.forall_mem_cons.mpr ⟨lw_p35, List.forall_mem_cons.mpr ⟨lw_p36, List.forall_mem_cons.mpr ⟨lw_p37, List.forall_mem_cons.mpr ⟨lw_p38, List.forall_mem_cons.mpr ⟨lw_p39, List.forall_mem_cons.mpr ⟨lw_p40, List.forall_mem_cons.mpr ⟨lw_p41, List.forall_mem_cons.mpr ⟨lw_p42, List.forall_mem_cons.mpr ⟨lw_p43, List.forall_mem_cons.mpr ⟨lw_p44, List.forall_mem_cons.mpr ⟨lw_p45, List.forall_mem_cons.mpr ⟨lw_p46, List.forall_mem_cons.mpr ⟨lw_p47, fun _ h => absurd h List.not_mem_nil⟩⟩⟩⟩⟩⟩⟩⟩⟩⟩⟩⟩⟩⟩⟩⟩
theorem lw_p48 : lw_okq (⟨"HenHutsModel", "quartersOf", "(II)I"⟩, 41) := ⟨⟨by decide +kernel, by decide +kernel⟩, List.mem_of_getElem? (i := 823) (by decide +kernel), List.mem_of_getElem? (i := 1138) (by decide +kernel), List.mem_of_getElem? (i := 1139) (by decide +kernel)⟩
theorem lw_p49 : lw_okq (⟨"HenHutsModel", "isAbleBy", "(IIII)Z"⟩, 41) := ⟨⟨by decide +kernel, by decide +kernel⟩, List.mem_of_getElem? (i := 823) (by decide +kernel), List.mem_of_getElem? (i := 1146) (by decide +kernel), List.mem_of_getElem? (i := 1147) (by decide +kernel)⟩
theorem lw_p50 : lw_okq (⟨"HenHutsModel", "layWanted", "(II)Z"⟩, 41) := ⟨⟨by decide +kernel, by decide +kernel⟩, List.mem_of_getElem? (i := 823) (by decide +kernel), List.mem_of_getElem? (i := 1158) (by decide +kernel), List.mem_of_getElem? (i := 1159) (by decide +kernel)⟩
theorem lw_p51 : lw_okq (⟨"HenHutsModel", "broughtBy", "(III)I"⟩, 41) := ⟨⟨by decide +kernel, by decide +kernel⟩, List.mem_of_getElem? (i := 823) (by decide +kernel), List.mem_of_getElem? (i := 1165) (by decide +kernel), List.mem_of_getElem? (i := 1166) (by decide +kernel)⟩
theorem lw_p52 : lw_okq (⟨"HenHutsModel", "beginTwo", "(II)V"⟩, 41) := ⟨⟨by decide +kernel, by decide +kernel⟩, List.mem_of_getElem? (i := 823) (by decide +kernel), List.mem_of_getElem? (i := 1174) (by decide +kernel), List.mem_of_getElem? (i := 1175) (by decide +kernel)⟩
theorem lw_p53 : lw_okq (⟨"HenHutsModel", "settle", "(IIII)V"⟩, 41) := ⟨⟨by decide +kernel, by decide +kernel⟩, List.mem_of_getElem? (i := 823) (by decide +kernel), List.mem_of_getElem? (i := 1178) (by decide +kernel), List.mem_of_getElem? (i := 1179) (by decide +kernel)⟩
theorem lw_p54 : lw_okq (⟨"HenHutsModel", "after", "(III)I"⟩, 41) := ⟨⟨by decide +kernel, by decide +kernel⟩, List.mem_of_getElem? (i := 823) (by decide +kernel), List.mem_of_getElem? (i := 1182) (by decide +kernel), List.mem_of_getElem? (i := 1183) (by decide +kernel)⟩
theorem lw_p55 : lw_okq (⟨"HenHutsModel", "pairsIn", "(I)I"⟩, 41) := ⟨⟨by decide +kernel, by decide +kernel⟩, List.mem_of_getElem? (i := 823) (by decide +kernel), List.mem_of_getElem? (i := 1190) (by decide +kernel), List.mem_of_getElem? (i := 1191) (by decide +kernel)⟩
theorem lw_p56 : lw_okq (⟨"HenHutsModel", "isClear", "(II)Z"⟩, 41) := ⟨⟨by decide +kernel, by decide +kernel⟩, List.mem_of_getElem? (i := 823) (by decide +kernel), List.mem_of_getElem? (i := 1197) (by decide +kernel), List.mem_of_getElem? (i := 1198) (by decide +kernel)⟩
theorem lw_p57 : lw_okq (⟨"HenHutsModel", "lookingIn", "(II)I"⟩, 41) := ⟨⟨by decide +kernel, by decide +kernel⟩, List.mem_of_getElem? (i := 823) (by decide +kernel), List.mem_of_getElem? (i := 1213) (by decide +kernel), List.mem_of_getElem? (i := 1214) (by decide +kernel)⟩
theorem lw_p58 : lw_okq (⟨"HenHutsModel", "isUnread", "()Z"⟩, 41) := ⟨⟨by decide +kernel, by decide +kernel⟩, List.mem_of_getElem? (i := 823) (by decide +kernel), List.mem_of_getElem? (i := 1234) (by decide +kernel), List.mem_of_getElem? (i := 1235) (by decide +kernel)⟩
theorem lw_p59 : lw_okq (⟨"HenHutsModel", "findTracks", "()V"⟩, 41) := ⟨⟨by decide +kernel, by decide +kernel⟩, List.mem_of_getElem? (i := 823) (by decide +kernel), List.mem_of_getElem? (i := 1238) (by decide +kernel), List.mem_of_getElem? (i := 1239) (by decide +kernel)⟩
theorem lw_p60 : lw_okq (⟨"HenHutsModel", "isTrack", "(I)Z"⟩, 41) := ⟨⟨by decide +kernel, by decide +kernel⟩, List.mem_of_getElem? (i := 823) (by decide +kernel), List.mem_of_getElem? (i := 1242) (by decide +kernel), List.mem_of_getElem? (i := 1243) (by decide +kernel)⟩
theorem lw_p61 : lw_okq (⟨"HenHutsModel", "isSeenSo", "(I)Z"⟩, 41) := ⟨⟨by decide +kernel, by decide +kernel⟩, List.mem_of_getElem? (i := 823) (by decide +kernel), List.mem_of_getElem? (i := 1246) (by decide +kernel), List.mem_of_getElem? (i := 1247) (by decide +kernel)⟩
theorem lw_p62 : lw_okq (⟨"HenHutsModel", "passAll", "()V"⟩, 41) := ⟨⟨by decide +kernel, by decide +kernel⟩, List.mem_of_getElem? (i := 823) (by decide +kernel), List.mem_of_getElem? (i := 1278) (by decide +kernel), List.mem_of_getElem? (i := 1279) (by decide +kernel)⟩
theorem lw_p63 : lw_okq (⟨"HenHutsModel", "pass", "(I)I"⟩, 41) := ⟨⟨by decide +kernel, by decide +kernel⟩, List.mem_of_getElem? (i := 823) (by decide +kernel), List.mem_of_getElem? (i := 1282) (by decide +kernel), List.mem_of_getElem? (i := 1283) (by decide +kernel)⟩
def lw_privs_4 : List (MethodName × Nat) := [(⟨"HenHutsModel", "quartersOf", "(II)I"⟩, 41), (⟨"HenHutsModel", "isAbleBy", "(IIII)Z"⟩, 41), (⟨"HenHutsModel", "layWanted", "(II)Z"⟩, 41), (⟨"HenHutsModel", "broughtBy", "(III)I"⟩, 41), (⟨"HenHutsModel", "beginTwo", "(II)V"⟩, 41), (⟨"HenHutsModel", "settle", "(IIII)V"⟩, 41), (⟨"HenHutsModel", "after", "(III)I"⟩, 41), (⟨"HenHutsModel", "pairsIn", "(I)I"⟩, 41), (⟨"HenHutsModel", "isClear", "(II)Z"⟩, 41), (⟨"HenHutsModel", "lookingIn", "(II)I"⟩, 41), (⟨"HenHutsModel", "isUnread", "()Z"⟩, 41), (⟨"HenHutsModel", "findTracks", "()V"⟩, 41), (⟨"HenHutsModel", "isTrack", "(I)Z"⟩, 41), (⟨"HenHutsModel", "isSeenSo", "(I)Z"⟩, 41), (⟨"HenHutsModel", "passAll", "()V"⟩, 41), (⟨"HenHutsModel", "pass", "(I)I"⟩, 41)]
theorem lw_r4 : ∀ q ∈ lw_privs_4, lw_okq q := List.forall_mem_cons.mpr ⟨lw_p48, List.forall_mem_cons.mpr ⟨lw_p49, List.forall_mem_cons.mpr ⟨lw_p50, List.forall_mem_cons.mpr ⟨lw_p51, List.forall_mem_cons.mpr ⟨lw_p52, List.forall_mem_cons.mpr ⟨lw_p53, List.forall_mem_cons.mpr ⟨lw_p54, List.forall_mem_cons.mpr ⟨lw_p55, List.forall_mem_cons.mpr ⟨lw_p56, List.forall_mem_cons.mpr ⟨lw_p57, List.forall_mem_cons.mpr ⟨lw_p58, List.forall_mem_cons.mpr ⟨lw_p59, List.forall_mem_cons.mpr ⟨lw_p60, List.forall_mem_cons.mpr ⟨lw_p61, List.forall_mem_cons.mpr ⟨lw_p62, List.forall_mem_cons.mpr ⟨lw_p63, fun _ h => absurd h List.not_mem_nil⟩⟩⟩⟩⟩⟩⟩⟩⟩⟩⟩⟩⟩⟩⟩⟩
theorem lw_p64 : lw_okq (⟨"HenHutsModel", "toldOfHut", "(II)I"⟩, 41) := ⟨⟨by decide +kernel, by decide +kernel⟩, List.mem_of_getElem? (i := 823) (by decide +kernel), List.mem_of_getElem? (i := 1297) (by decide +kernel), List.mem_of_getElem? (i := 1298) (by decide +kernel)⟩
def lw_privs_5 : List (MethodName × Nat) := [(⟨"HenHutsModel", "toldOfHut", "(II)I"⟩, 41)]
theorem lw_r5 : ∀ q ∈ lw_privs_5, lw_okq q := List.forall_mem_cons.mpr ⟨lw_p64, fun _ h => absurd h List.not_mem_nil⟩
def lw_privs : List (MethodName × Nat) := lw_privs_1 ++ (lw_privs_2 ++ (lw_privs_3 ++ (lw_privs_4 ++ (lw_privs_5))))
def lw_tbl : List Cond := k2_sels lw_privs ++ tables_1
theorem lw_privs_ok : ∀ q ∈ lw_privs, lw_okq q := by
  show ∀ q ∈ lw_privs_1 ++ (lw_privs_2 ++ (lw_privs_3 ++ (lw_privs_4 ++ (lw_privs_5)))), lw_okq q
  exact List.forall_mem_append.mpr ⟨lw_r1, List.forall_mem_append.mpr ⟨lw_r2, List.forall_mem_append.mpr ⟨lw_r3, List.forall_mem_append.mpr ⟨lw_r4, lw_r5⟩⟩⟩⟩
def RX0 : String := "HenHuts$Callers"
def TX0 : u_T := fun k => match k with
  | 0 => ("HenHuts$Callers", "who", "[I", true)
  | _ => ("HenHuts$Callers", "after", "[I", true)
def tyX0 : Nat → FieldType := fun k => match k with
  | 0 => .array .int
  | _ => .array .int
theorem nmX0 : ∀ a, a < 2 → ∀ b, b < 2 → a ≠ b → (TX0 a).2.1 ≠ (TX0 b).2.1 := by decide +kernel
theorem tyX0_ok : ∀ k, k < 2 → parseFieldDescriptor (TX0 k).2.2.1 = some (tyX0 k) := by decide +kernel
abbrev cX0_init : ByteArray := prog_2_method_1_code
def yX0_init : MethodName := ⟨RX0, "<init>", "()V"⟩
abbrev cX0_settle : ByteArray := prog_2_method_2_code
def yX0_settle : MethodName := ⟨RX0, "settle", "(LHenHuts$Wood;IIIII)V"⟩
abbrev cX0_settlePlace : ByteArray := prog_2_method_3_code
def yX0_settlePlace : MethodName := ⟨RX0, "settlePlace", "(LHenHuts$Wood;IIII)V"⟩
def RX1 : String := "HenHuts$Dance"
def TX1 : u_T := fun k => match k with
  | 0 => ("HenHuts$Dance", "lines", "I", false)
  | 1 => ("HenHuts$Dance", "first", "[I", true)
  | 2 => ("HenHuts$Dance", "second", "[I", true)
  | _ => ("HenHuts$Dance", "ways", "[I", true)
def tyX1 : Nat → FieldType := fun k => match k with
  | 0 => .int
  | 1 => .array .int
  | 2 => .array .int
  | _ => .array .int
theorem nmX1 : ∀ a, a < 4 → ∀ b, b < 4 → a ≠ b → (TX1 a).2.1 ≠ (TX1 b).2.1 := by decide +kernel
theorem tyX1_ok : ∀ k, k < 4 → parseFieldDescriptor (TX1 k).2.2.1 = some (tyX1 k) := by decide +kernel
abbrev cX1_init : ByteArray := prog_3_method_1_code
def yX1_init : MethodName := ⟨RX1, "<init>", "()V"⟩
abbrev cX1_survey : ByteArray := prog_3_method_2_code
def yX1_survey : MethodName := ⟨RX1, "survey", "(LHenHuts$Wood;)V"⟩
abbrev cX1_pairsIn : ByteArray := prog_3_method_3_code
def yX1_pairsIn : MethodName := ⟨RX1, "pairsIn", "(I)I"⟩
abbrev cX1_wayBetween : ByteArray := prog_3_method_4_code
def yX1_wayBetween : MethodName := ⟨RX1, "wayBetween", "(II)I"⟩
abbrev cX1_isFree : ByteArray := prog_3_method_5_code
def yX1_isFree : MethodName := ⟨RX1, "isFree", "(LHenHuts$Wood;III)Z"⟩
def RX2 : String := "HenHuts$Evening"
def TX2 : u_T := fun k => match k with
  | 0 => ("HenHuts$Evening", "quarters", "I", false)
  | 1 => ("HenHuts$Evening", "sat", "I", false)
  | 2 => ("HenHuts$Evening", "letIn", "I", false)
  | 3 => ("HenHuts$Evening", "events", "I", false)
  | 4 => ("HenHuts$Evening", "why", "I", false)
  | 5 => ("HenHuts$Evening", "looks", "[I", true)
  | _ => ("HenHuts$Evening", "legs", "[I", true)
def tyX2 : Nat → FieldType := fun k => match k with
  | 0 => .int
  | 1 => .int
  | 2 => .int
  | 3 => .int
  | 4 => .int
  | 5 => .array .int
  | _ => .array .int
theorem nmX2 : ∀ a, a < 7 → ∀ b, b < 7 → a ≠ b → (TX2 a).2.1 ≠ (TX2 b).2.1 := by decide +kernel
theorem tyX2_ok : ∀ k, k < 7 → parseFieldDescriptor (TX2 k).2.2.1 = some (tyX2 k) := by decide +kernel
abbrev cX2_init : ByteArray := prog_4_method_1_code
def yX2_init : MethodName := ⟨RX2, "<init>", "()V"⟩
abbrev cX2_begin : ByteArray := prog_4_method_2_code
def yX2_begin : MethodName := ⟨RX2, "begin", "(LHenHuts$Wood;)V"⟩
abbrev cX2_play : ByteArray := prog_4_method_3_code
def yX2_play : MethodName := ⟨RX2, "play", "(LHenHuts$Wood;LHenHuts$Pad;)V"⟩
abbrev cX2_playDraws : ByteArray := prog_4_method_4_code
def yX2_playDraws : MethodName := ⟨RX2, "playDraws", "(LHenHuts$Wood;II)V"⟩
abbrev cX2_leaveTo : ByteArray := prog_4_method_5_code
def yX2_leaveTo : MethodName := ⟨RX2, "leaveTo", "(LHenHuts$Wood;)V"⟩
abbrev cX2_knock : ByteArray := prog_4_method_6_code
def yX2_knock : MethodName := ⟨RX2, "knock", "(LHenHuts$Wood;II)I"⟩
abbrev cX2_happen : ByteArray := prog_4_method_7_code
def yX2_happen : MethodName := ⟨RX2, "happen", "(LHenHuts$Wood;I)I"⟩
abbrev cX2_hear : ByteArray := prog_4_method_8_code
def yX2_hear : MethodName := ⟨RX2, "hear", "(LHenHuts$Wood;I)V"⟩
abbrev cX2_thunder : ByteArray := prog_4_method_9_code
def yX2_thunder : MethodName := ⟨RX2, "thunder", "(LHenHuts$Wood;)V"⟩
abbrev cX2_rest : ByteArray := prog_4_method_10_code
def yX2_rest : MethodName := ⟨RX2, "rest", "(LHenHuts$Wood;)V"⟩
def RX3 : String := "HenHuts$Legwork"
def TX3 : u_T := fun k => match k with
  | 0 => ("HenHuts$Legwork", "set", "I", false)
  | 1 => ("HenHuts$Legwork", "aim", "I", false)
  | 2 => ("HenHuts$Legwork", "looks", "[[I", true)
  | _ => ("HenHuts$Legwork", "legs", "[[I", true)
def tyX3 : Nat → FieldType := fun k => match k with
  | 0 => .int
  | 1 => .int
  | 2 => .array (.array .int)
  | _ => .array (.array .int)
theorem nmX3 : ∀ a, a < 4 → ∀ b, b < 4 → a ≠ b → (TX3 a).2.1 ≠ (TX3 b).2.1 := by decide +kernel
theorem tyX3_ok : ∀ k, k < 4 → parseFieldDescriptor (TX3 k).2.2.1 = some (tyX3 k) := by decide +kernel
abbrev cX3_init : ByteArray := prog_5_method_1_code
def yX3_init : MethodName := ⟨RX3, "<init>", "()V"⟩
abbrev cX3_fewestWords : ByteArray := prog_5_method_2_code
def yX3_fewestWords : MethodName := ⟨RX3, "fewestWords", "(LHenHuts$Wood;II)I"⟩
abbrev cX3_isMet : ByteArray := prog_5_method_3_code
def yX3_isMet : MethodName := ⟨RX3, "isMet", "(LHenHuts$Legwork;LHenHuts$Wood;II)Z"⟩
abbrev cX3_hear : ByteArray := prog_5_method_4_code
def yX3_hear : MethodName := ⟨RX3, "hear", "(LHenHuts$Wood;IIZ)Z"⟩
def RX4 : String := "HenHuts$Pad"
def TX4 : u_T := fun k => match k with
  | 0 => ("HenHuts$Pad", "count", "I", false)
  | _ => ("HenHuts$Pad", "signs", "[I", true)
def tyX4 : Nat → FieldType := fun k => match k with
  | 0 => .int
  | _ => .array .int
theorem nmX4 : ∀ a, a < 2 → ∀ b, b < 2 → a ≠ b → (TX4 a).2.1 ≠ (TX4 b).2.1 := by decide +kernel
theorem tyX4_ok : ∀ k, k < 2 → parseFieldDescriptor (TX4 k).2.2.1 = some (tyX4 k) := by decide +kernel
abbrev cX4_init : ByteArray := prog_6_method_1_code
def yX4_init : MethodName := ⟨RX4, "<init>", "()V"⟩
abbrev cX4_add : ByteArray := prog_6_method_2_code
def yX4_add : MethodName := ⟨RX4, "add", "(I)I"⟩
abbrev cX4_clear : ByteArray := prog_6_method_3_code
def yX4_clear : MethodName := ⟨RX4, "clear", "()I"⟩
abbrev cX4_signAt : ByteArray := prog_6_method_4_code
def yX4_signAt : MethodName := ⟨RX4, "signAt", "(I)I"⟩
abbrev cX4_spellFault : ByteArray := prog_6_method_5_code
def yX4_spellFault : MethodName := ⟨RX4, "spellFault", "(I)I"⟩
abbrev cX4_eveningFault : ByteArray := prog_6_method_6_code
def yX4_eveningFault : MethodName := ⟨RX4, "eveningFault", "(I)I"⟩
abbrev cX4_hasOnlyWords : ByteArray := prog_6_method_7_code
def yX4_hasOnlyWords : MethodName := ⟨RX4, "hasOnlyWords", "(LHenHuts$Wood;)Z"⟩
def RX5 : String := "HenHuts$Paths"
def TX5 : u_T := fun k => match k with
  | 0 => ("HenHuts$Paths", "found", "I", false)
  | 1 => ("HenHuts$Paths", "steps", "LHenHuts$Steps;", true)
  | 2 => ("HenHuts$Paths", "order", "[I", true)
  | 3 => ("HenHuts$Paths", "depth", "[I", true)
  | _ => ("HenHuts$Paths", "last", "[I", true)
def tyX5 : Nat → FieldType := fun k => match k with
  | 0 => .int
  | 1 => .object "HenHuts$Steps"
  | 2 => .array .int
  | 3 => .array .int
  | _ => .array .int
theorem nmX5 : ∀ a, a < 5 → ∀ b, b < 5 → a ≠ b → (TX5 a).2.1 ≠ (TX5 b).2.1 := by decide +kernel
theorem tyX5_ok : ∀ k, k < 5 → parseFieldDescriptor (TX5 k).2.2.1 = some (tyX5 k) := by decide +kernel
abbrev cX5_init : ByteArray := prog_7_method_1_code
def yX5_init : MethodName := ⟨RX5, "<init>", "()V"⟩
abbrev cX5_explore : ByteArray := prog_7_method_2_code
def yX5_explore : MethodName := ⟨RX5, "explore", "(LHenHuts$Wood;I)V"⟩
abbrev cX5_reach : ByteArray := prog_7_method_3_code
def yX5_reach : MethodName := ⟨RX5, "reach", "(II)V"⟩
abbrev cX5_firstLooking : ByteArray := prog_7_method_4_code
def yX5_firstLooking : MethodName := ⟨RX5, "firstLooking", "(II)I"⟩
abbrev cX5_wordOfRow : ByteArray := prog_7_method_5_code
def yX5_wordOfRow : MethodName := ⟨RX5, "wordOfRow", "(II)I"⟩
abbrev cX5_leastQuarters : ByteArray := prog_7_method_6_code
def yX5_leastQuarters : MethodName := ⟨RX5, "leastQuarters", "(LHenHuts$Wood;II)I"⟩
abbrev cX5_cheapen : ByteArray := prog_7_method_7_code
def yX5_cheapen : MethodName := ⟨RX5, "cheapen", "(II)I"⟩
def RX6 : String := "HenHuts$Postman"
def TX6 : u_T := fun k => match k with
  | 0 => ("HenHuts$Postman", "set", "I", false)
  | 1 => ("HenHuts$Postman", "aim", "I", false)
  | 2 => ("HenHuts$Postman", "now", "[I", true)
  | 3 => ("HenHuts$Postman", "next", "[I", true)
  | _ => ("HenHuts$Postman", "been", "[I", true)
def tyX6 : Nat → FieldType := fun k => match k with
  | 0 => .int
  | 1 => .int
  | 2 => .array .int
  | 3 => .array .int
  | _ => .array .int
theorem nmX6 : ∀ a, a < 5 → ∀ b, b < 5 → a ≠ b → (TX6 a).2.1 ≠ (TX6 b).2.1 := by decide +kernel
theorem tyX6_ok : ∀ k, k < 5 → parseFieldDescriptor (TX6 k).2.2.1 = some (tyX6 k) := by decide +kernel
abbrev cX6_init : ByteArray := prog_8_method_1_code
def yX6_init : MethodName := ⟨RX6, "<init>", "()V"⟩
abbrev cX6_fewestMinutes : ByteArray := prog_8_method_2_code
def yX6_fewestMinutes : MethodName := ⟨RX6, "fewestMinutes", "(LHenHuts$Wood;LHenHuts$Steps;II)I"⟩
abbrev cX6_isServed : ByteArray := prog_8_method_3_code
def yX6_isServed : MethodName := ⟨RX6, "isServed", "(I)Z"⟩
abbrev cX6_hear : ByteArray := prog_8_method_4_code
def yX6_hear : MethodName := ⟨RX6, "hear", "(LHenHuts$Steps;II)V"⟩
abbrev cX6_knockAll : ByteArray := prog_8_method_5_code
def yX6_knockAll : MethodName := ⟨RX6, "knockAll", "(I)Z"⟩
abbrev cX6_doorsAt : ByteArray := prog_8_method_6_code
def yX6_doorsAt : MethodName := ⟨RX6, "doorsAt", "(I)I"⟩
abbrev cX6_withDoors : ByteArray := prog_8_method_7_code
def yX6_withDoors : MethodName := ⟨RX6, "withDoors", "(II)I"⟩
def RX7 : String := "HenHuts$Steps"
def TX7 : u_T := fun k => match k with
  | 0 => ("HenHuts$Steps", "near", "[I", true)
  | _ => ("HenHuts$Steps", "far", "[I", true)
def tyX7 : Nat → FieldType := fun k => match k with
  | 0 => .array .int
  | _ => .array .int
theorem nmX7 : ∀ a, a < 2 → ∀ b, b < 2 → a ≠ b → (TX7 a).2.1 ≠ (TX7 b).2.1 := by decide +kernel
theorem tyX7_ok : ∀ k, k < 2 → parseFieldDescriptor (TX7 k).2.2.1 = some (tyX7 k) := by decide +kernel
abbrev cX7_init : ByteArray := prog_9_method_1_code
def yX7_init : MethodName := ⟨RX7, "<init>", "()V"⟩
abbrev cX7_tabulate : ByteArray := prog_9_method_2_code
def yX7_tabulate : MethodName := ⟨RX7, "tabulate", "(LHenHuts$Wood;I)V"⟩
abbrev cX7_looksBehind : ByteArray := prog_9_method_3_code
def yX7_looksBehind : MethodName := ⟨RX7, "looksBehind", "(II)I"⟩
abbrev cX7_quartersOf : ByteArray := prog_9_method_4_code
def yX7_quartersOf : MethodName := ⟨RX7, "quartersOf", "(II)I"⟩
abbrev cX7_step : ByteArray := prog_9_method_5_code
def yX7_step : MethodName := ⟨RX7, "step", "(II)I"⟩
abbrev cX7_fill : ByteArray := prog_9_method_6_code
def yX7_fill : MethodName := ⟨RX7, "fill", "([IILHenHuts$Wood;II)V"⟩
def RX8 : String := "HenHuts$Trail"
def TX8 : u_T := fun k => match k with
  | 0 => ("HenHuts$Trail", "many", "I", false)
  | 1 => ("HenHuts$Trail", "least", "I", false)
  | _ => ("HenHuts$Trail", "ways", "[I", true)
def tyX8 : Nat → FieldType := fun k => match k with
  | 0 => .int
  | 1 => .int
  | _ => .array .int
theorem nmX8 : ∀ a, a < 3 → ∀ b, b < 3 → a ≠ b → (TX8 a).2.1 ≠ (TX8 b).2.1 := by decide +kernel
theorem tyX8_ok : ∀ k, k < 3 → parseFieldDescriptor (TX8 k).2.2.1 = some (tyX8 k) := by decide +kernel
abbrev cX8_init : ByteArray := prog_10_method_1_code
def yX8_init : MethodName := ⟨RX8, "<init>", "()V"⟩
abbrev cX8_follow : ByteArray := prog_10_method_2_code
def yX8_follow : MethodName := ⟨RX8, "follow", "(LHenHuts$Wood;LHenHuts$Pad;)V"⟩
abbrev cX8_fits : ByteArray := prog_10_method_3_code
def yX8_fits : MethodName := ⟨RX8, "fits", "(LHenHuts$Wood;LHenHuts$Pad;II)Z"⟩
abbrev cX8_isSo : ByteArray := prog_10_method_4_code
def yX8_isSo : MethodName := ⟨RX8, "isSo", "(LHenHuts$Wood;III)Z"⟩
abbrev cX8_isSeenLater : ByteArray := prog_10_method_5_code
def yX8_isSeenLater : MethodName := ⟨RX8, "isSeenLater", "(LHenHuts$Wood;II)Z"⟩
def RX9 : String := "HenHuts$Wood"
def TX9 : u_T := fun k => match k with
  | 0 => ("HenHuts$Wood", "huts", "I", false)
  | 1 => ("HenHuts$Wood", "known", "I", false)
  | 2 => ("HenHuts$Wood", "sights", "I", false)
  | 3 => ("HenHuts$Wood", "looks", "[I", true)
  | 4 => ("HenHuts$Wood", "legs", "[I", true)
  | 5 => ("HenHuts$Wood", "most", "[I", true)
  | 6 => ("HenHuts$Wood", "kinds", "[I", true)
  | 7 => ("HenHuts$Wood", "cells", "[I", true)
  | 8 => ("HenHuts$Wood", "turns", "[I", true)
  | 9 => ("HenHuts$Wood", "sightHuts", "[I", true)
  | 10 => ("HenHuts$Wood", "sightEvents", "[I", true)
  | _ => ("HenHuts$Wood", "sightWays", "[I", true)
def tyX9 : Nat → FieldType := fun k => match k with
  | 0 => .int
  | 1 => .int
  | 2 => .int
  | 3 => .array .int
  | 4 => .array .int
  | 5 => .array .int
  | 6 => .array .int
  | 7 => .array .int
  | 8 => .array .int
  | 9 => .array .int
  | 10 => .array .int
  | _ => .array .int
theorem nmX9 : ∀ a, a < 12 → ∀ b, b < 12 → a ≠ b → (TX9 a).2.1 ≠ (TX9 b).2.1 := by decide +kernel
theorem tyX9_ok : ∀ k, k < 12 → parseFieldDescriptor (TX9 k).2.2.1 = some (tyX9 k) := by decide +kernel
abbrev cX9_init : ByteArray := prog_11_method_1_code
def yX9_init : MethodName := ⟨RX9, "<init>", "()V"⟩
abbrev cX9_plant : ByteArray := prog_11_method_2_code
def yX9_plant : MethodName := ⟨RX9, "plant", "(I)V"⟩
abbrev cX9_copyFrom : ByteArray := prog_11_method_3_code
def yX9_copyFrom : MethodName := ⟨RX9, "copyFrom", "(LHenHuts$Wood;)V"⟩
abbrev cX9_hasHut : ByteArray := prog_11_method_4_code
def yX9_hasHut : MethodName := ⟨RX9, "hasHut", "(I)Z"⟩
abbrev cX9_hasSet : ByteArray := prog_11_method_5_code
def yX9_hasSet : MethodName := ⟨RX9, "hasSet", "(I)Z"⟩
abbrev cX9_hasLooks : ByteArray := prog_11_method_6_code
def yX9_hasLooks : MethodName := ⟨RX9, "hasLooks", "(I)Z"⟩
abbrev cX9_knows : ByteArray := prog_11_method_7_code
def yX9_knows : MethodName := ⟨RX9, "knows", "(I)Z"⟩
abbrev cX9_knowsAll : ByteArray := prog_11_method_8_code
def yX9_knowsAll : MethodName := ⟨RX9, "knowsAll", "(I)Z"⟩
abbrev cX9_isTaken : ByteArray := prog_11_method_9_code
def yX9_isTaken : MethodName := ⟨RX9, "isTaken", "(II)Z"⟩
abbrev cX9_alter : ByteArray := prog_11_method_10_code
def yX9_alter : MethodName := ⟨RX9, "alter", "(III)I"⟩
abbrev cX9_rowOf : ByteArray := prog_11_method_11_code
def yX9_rowOf : MethodName := ⟨RX9, "rowOf", "(I)[I"⟩
abbrev cX9_addSight : ByteArray := prog_11_method_12_code
def yX9_addSight : MethodName := ⟨RX9, "addSight", "(III)I"⟩
abbrev cX9_number : ByteArray := prog_11_method_13_code
def yX9_number : MethodName := ⟨RX9, "number", "()I"⟩
abbrev cX9_quarters : ByteArray := prog_11_method_14_code
def yX9_quarters : MethodName := ⟨RX9, "quarters", "(III)I"⟩
abbrev cX9_turned : ByteArray := prog_11_method_15_code
def yX9_turned : MethodName := ⟨RX9, "turned", "(III)I"⟩
def RX10 : String := "HenHuts"
def TX10 : u_T := fun k => match k with
  | 0 => ("HenHuts", "wood", "LHenHuts$Wood;", true)
  | 1 => ("HenHuts", "images", "[LHenHuts$Wood;", true)
  | 2 => ("HenHuts", "kept", "[Z", true)
  | 3 => ("HenHuts", "pad", "LHenHuts$Pad;", true)
  | 4 => ("HenHuts", "evening", "LHenHuts$Evening;", true)
  | 5 => ("HenHuts", "paths", "LHenHuts$Paths;", true)
  | 6 => ("HenHuts", "legwork", "LHenHuts$Legwork;", true)
  | 7 => ("HenHuts", "postman", "LHenHuts$Postman;", true)
  | 8 => ("HenHuts", "callers", "LHenHuts$Callers;", true)
  | 9 => ("HenHuts", "dance", "LHenHuts$Dance;", true)
  | _ => ("HenHuts", "trail", "LHenHuts$Trail;", true)
def tyX10 : Nat → FieldType := fun k => match k with
  | 0 => .object "HenHuts$Wood"
  | 1 => .array (.object "HenHuts$Wood")
  | 2 => .array .boolean
  | 3 => .object "HenHuts$Pad"
  | 4 => .object "HenHuts$Evening"
  | 5 => .object "HenHuts$Paths"
  | 6 => .object "HenHuts$Legwork"
  | 7 => .object "HenHuts$Postman"
  | 8 => .object "HenHuts$Callers"
  | 9 => .object "HenHuts$Dance"
  | _ => .object "HenHuts$Trail"
theorem nmX10 : ∀ a, a < 11 → ∀ b, b < 11 → a ≠ b → (TX10 a).2.1 ≠ (TX10 b).2.1 := by decide +kernel
theorem tyX10_ok : ∀ k, k < 11 → parseFieldDescriptor (TX10 k).2.2.1 = some (tyX10 k) := by decide +kernel
abbrev cX10_init : ByteArray := prog_1_method_1_code
def yX10_init : MethodName := ⟨RX10, "<init>", "()V"⟩
abbrev cX10_huts : ByteArray := prog_1_method_2_code
def yX10_huts : MethodName := ⟨RX10, "huts", "(I)I"⟩
abbrev cX10_hut : ByteArray := prog_1_method_3_code
def yX10_hut : MethodName := ⟨RX10, "hut", "(III)I"⟩
abbrev cX10_say : ByteArray := prog_1_method_4_code
def yX10_say : MethodName := ⟨RX10, "say", "(I)I"⟩
abbrev cX10_wipe : ByteArray := prog_1_method_5_code
def yX10_wipe : MethodName := ⟨RX10, "wipe", "()I"⟩
abbrev cX10_fault : ByteArray := prog_1_method_6_code
def yX10_fault : MethodName := ⟨RX10, "fault", "(I)I"⟩
abbrev cX10_word : ByteArray := prog_1_method_7_code
def yX10_word : MethodName := ⟨RX10, "word", "(I)I"⟩
abbrev cX10_unword : ByteArray := prog_1_method_8_code
def yX10_unword : MethodName := ⟨RX10, "unword", "(I)I"⟩
abbrev cX10_judge : ByteArray := prog_1_method_9_code
def yX10_judge : MethodName := ⟨RX10, "judge", "(I)I"⟩
abbrev cX10_behind : ByteArray := prog_1_method_10_code
def yX10_behind : MethodName := ⟨RX10, "behind", "(II)I"⟩
abbrev cX10_done : ByteArray := prog_1_method_11_code
def yX10_done : MethodName := ⟨RX10, "done", "()I"⟩
abbrev cX10_state : ByteArray := prog_1_method_12_code
def yX10_state : MethodName := ⟨RX10, "state", "(II)I"⟩
abbrev cX10_bare : ByteArray := prog_1_method_13_code
def yX10_bare : MethodName := ⟨RX10, "bare", "(II)I"⟩
abbrev cX10_reached : ByteArray := prog_1_method_14_code
def yX10_reached : MethodName := ⟨RX10, "reached", "()I"⟩
abbrev cX10_can : ByteArray := prog_1_method_15_code
def yX10_can : MethodName := ⟨RX10, "can", "(I)I"⟩
abbrev cX10_spelled : ByteArray := prog_1_method_16_code
def yX10_spelled : MethodName := ⟨RX10, "spelled", "(III)I"⟩
abbrev cX10_tired : ByteArray := prog_1_method_17_code
def yX10_tired : MethodName := ⟨RX10, "tired", "(II)I"⟩
abbrev cX10_able : ByteArray := prog_1_method_18_code
def yX10_able : MethodName := ⟨RX10, "able", "(II)I"⟩
abbrev cX10_without : ByteArray := prog_1_method_19_code
def yX10_without : MethodName := ⟨RX10, "without", "(III)I"⟩
abbrev cX10_round : ByteArray := prog_1_method_20_code
def yX10_round : MethodName := ⟨RX10, "round", "(II)I"⟩
abbrev cX10_two : ByteArray := prog_1_method_21_code
def yX10_two : MethodName := ⟨RX10, "two", "(IIIIII)I"⟩
abbrev cX10_pairs : ByteArray := prog_1_method_22_code
def yX10_pairs : MethodName := ⟨RX10, "pairs", "()I"⟩
abbrev cX10_danced : ByteArray := prog_1_method_23_code
def yX10_danced : MethodName := ⟨RX10, "danced", "(I)I"⟩
abbrev cX10_elected : ByteArray := prog_1_method_24_code
def yX10_elected : MethodName := ⟨RX10, "elected", "()I"⟩
abbrev cX10_majority : ByteArray := prog_1_method_25_code
def yX10_majority : MethodName := ⟨RX10, "majority", "(I)I"⟩
abbrev cX10_seen : ByteArray := prog_1_method_26_code
def yX10_seen : MethodName := ⟨RX10, "seen", "(III)I"⟩
abbrev cX10_forget : ByteArray := prog_1_method_27_code
def yX10_forget : MethodName := ⟨RX10, "forget", "()I"⟩
abbrev cX10_tracks : ByteArray := prog_1_method_28_code
def yX10_tracks : MethodName := ⟨RX10, "tracks", "(I)I"⟩
abbrev cX10_looked : ByteArray := prog_1_method_29_code
def yX10_looked : MethodName := ⟨RX10, "looked", "(I)I"⟩
abbrev cX10_storm : ByteArray := prog_1_method_30_code
def yX10_storm : MethodName := ⟨RX10, "storm", "(IIIII)J"⟩
abbrev cX10_ninety : ByteArray := prog_1_method_31_code
def yX10_ninety : MethodName := ⟨RX10, "ninety", "(III)I"⟩
abbrev cX10_image : ByteArray := prog_1_method_32_code
def yX10_image : MethodName := ⟨RX10, "image", "(I)I"⟩
abbrev cX10_restore : ByteArray := prog_1_method_33_code
def yX10_restore : MethodName := ⟨RX10, "restore", "(I)I"⟩
abbrev cX10_told : ByteArray := prog_1_method_34_code
def yX10_told : MethodName := ⟨RX10, "told", "(I)I"⟩
abbrev cX10_toldOfHut : ByteArray := prog_1_method_35_code
def yX10_toldOfHut : MethodName := ⟨RX10, "toldOfHut", "(II)I"⟩
abbrev cX10_toldOfWord : ByteArray := prog_1_method_36_code
def yX10_toldOfWord : MethodName := ⟨RX10, "toldOfWord", "(II)I"⟩
abbrev cX10_playWhole : ByteArray := prog_1_method_37_code
def yX10_playWhole : MethodName := ⟨RX10, "playWhole", "()I"⟩
abbrev cX10_isTrackable : ByteArray := prog_1_method_38_code
def yX10_isTrackable : MethodName := ⟨RX10, "isTrackable", "()Z"⟩
abbrev cX10_isAim : ByteArray := prog_1_method_39_code
def yX10_isAim : MethodName := ⟨RX10, "isAim", "(II)Z"⟩
abbrev cX10_fewestWords : ByteArray := prog_1_method_40_code
def yX10_fewestWords : MethodName := ⟨RX10, "fewestWords", "(III)I"⟩
abbrev cX10_votes : ByteArray := prog_1_method_41_code
def yX10_votes : MethodName := ⟨RX10, "votes", "(II)I"⟩
abbrev cX10_looksOfSides : ByteArray := prog_1_method_42_code
def yX10_looksOfSides : MethodName := ⟨RX10, "looksOfSides", "(II)I"⟩
abbrev cX10_mostOf : ByteArray := prog_1_method_43_code
def yX10_mostOf : MethodName := ⟨RX10, "mostOf", "(I)I"⟩
abbrev cX10_isWithin : ByteArray := prog_1_method_44_code
def yX10_isWithin : MethodName := ⟨RX10, "isWithin", "(III)Z"⟩
abbrev cX10_isIn : ByteArray := prog_1_method_45_code
def yX10_isIn : MethodName := ⟨RX10, "isIn", "(II)Z"⟩
abbrev cX10_lookIn : ByteArray := prog_1_method_46_code
def yX10_lookIn : MethodName := ⟨RX10, "lookIn", "(II)I"⟩
abbrev cX10_numberOf : ByteArray := prog_1_method_47_code
def yX10_numberOf : MethodName := ⟨RX10, "numberOf", "([II)I"⟩
abbrev cX10_maskOf : ByteArray := prog_1_method_48_code
def yX10_maskOf : MethodName := ⟨RX10, "maskOf", "(I)I"⟩
abbrev cX10_stormUpper : ByteArray := prog_1_method_49_code
def yX10_stormUpper : MethodName := ⟨RX10, "stormUpper", "(III)J"⟩
abbrev cX10_commonDivisor : ByteArray := prog_1_method_50_code
def yX10_commonDivisor : MethodName := ⟨RX10, "commonDivisor", "(JJ)J"⟩
abbrev cX10_wayOf : ByteArray := prog_1_method_51_code
def yX10_wayOf : MethodName := ⟨RX10, "wayOf", "(I)I"⟩
abbrev cX10_isDigit : ByteArray := prog_1_method_52_code
def yX10_isDigit : MethodName := ⟨RX10, "isDigit", "(I)Z"⟩
abbrev cX10_isLetter : ByteArray := prog_1_method_53_code
def yX10_isLetter : MethodName := ⟨RX10, "isLetter", "(I)Z"⟩
def RX11 : String := "HenHutsModel"
def TX11 : u_T := fun k => match k with
  | 0 => ("HenHutsModel", "huts", "I", false)
  | 1 => ("HenHutsModel", "look", "[I", true)
  | 2 => ("HenHutsModel", "legs", "[I", true)
  | 3 => ("HenHutsModel", "most", "[I", true)
  | 4 => ("HenHutsModel", "kind", "[I", true)
  | 5 => ("HenHutsModel", "cell", "[I", true)
  | 6 => ("HenHutsModel", "words", "I", false)
  | 7 => ("HenHutsModel", "turn", "[I", true)
  | 8 => ("HenHutsModel", "sightHut", "[I", true)
  | 9 => ("HenHutsModel", "sightEvents", "[I", true)
  | 10 => ("HenHutsModel", "sightWay", "[I", true)
  | 11 => ("HenHutsModel", "sights", "I", false)
  | 12 => ("HenHutsModel", "pad", "[I", true)
  | 13 => ("HenHutsModel", "padMany", "I", false)
  | 14 => ("HenHutsModel", "event", "[I", true)
  | 15 => ("HenHutsModel", "events", "I", false)
  | 16 => ("HenHutsModel", "turns", "I", false)
  | 17 => ("HenHutsModel", "letIn", "I", false)
  | 18 => ("HenHutsModel", "sat", "I", false)
  | 19 => ("HenHutsModel", "hadLook", "[I", true)
  | 20 => ("HenHutsModel", "hadLegs", "[I", true)
  | 21 => ("HenHutsModel", "badEvent", "I", false)
  | 22 => ("HenHutsModel", "badWhy", "I", false)
  | 23 => ("HenHutsModel", "row", "[I", true)
  | 24 => ("HenHutsModel", "rowMany", "I", false)
  | 25 => ("HenHutsModel", "far", "[I", true)
  | 26 => ("HenHutsModel", "from", "[I", true)
  | 27 => ("HenHutsModel", "by", "[I", true)
  | 28 => ("HenHutsModel", "cost", "[I", true)
  | 29 => ("HenHutsModel", "wordsTo", "[I", true)
  | 30 => ("HenHutsModel", "queue", "[I", true)
  | 31 => ("HenHutsModel", "wanted", "[I", true)
  | 32 => ("HenHutsModel", "winner", "[I", true)
  | 33 => ("HenHutsModel", "behindWords", "[I", true)
  | 34 => ("HenHutsModel", "trackMany", "I", false)
  | 35 => ("HenHutsModel", "trackLeast", "I", false)
  | 36 => ("HenHutsModel", "tracked", "[I", true)
  | 37 => ("HenHutsModel", "kept", "[I", true)
  | 38 => ("HenHutsModel", "isKept", "[Z", true)
  | 39 => ("HenHutsModel", "keptAt", "I", false)
  | _ => ("HenHutsModel", "isWriting", "Z", false)
def tyX11 : Nat → FieldType := fun k => match k with
  | 0 => .int
  | 1 => .array .int
  | 2 => .array .int
  | 3 => .array .int
  | 4 => .array .int
  | 5 => .array .int
  | 6 => .int
  | 7 => .array .int
  | 8 => .array .int
  | 9 => .array .int
  | 10 => .array .int
  | 11 => .int
  | 12 => .array .int
  | 13 => .int
  | 14 => .array .int
  | 15 => .int
  | 16 => .int
  | 17 => .int
  | 18 => .int
  | 19 => .array .int
  | 20 => .array .int
  | 21 => .int
  | 22 => .int
  | 23 => .array .int
  | 24 => .int
  | 25 => .array .int
  | 26 => .array .int
  | 27 => .array .int
  | 28 => .array .int
  | 29 => .array .int
  | 30 => .array .int
  | 31 => .array .int
  | 32 => .array .int
  | 33 => .array .int
  | 34 => .int
  | 35 => .int
  | 36 => .array .int
  | 37 => .array .int
  | 38 => .array .boolean
  | 39 => .int
  | _ => .boolean
theorem nmX11 : ∀ a, a < 41 → ∀ b, b < 41 → a ≠ b → (TX11 a).2.1 ≠ (TX11 b).2.1 := by decide +kernel
theorem tyX11_ok : ∀ k, k < 41 → parseFieldDescriptor (TX11 k).2.2.1 = some (tyX11 k) := by decide +kernel
abbrev cX11_init : ByteArray := prog_13_method_1_code
def yX11_init : MethodName := ⟨RX11, "<init>", "()V"⟩
abbrev cX11_in : ByteArray := prog_13_method_3_code
def yX11_in : MethodName := ⟨RX11, "in", "(JJJ)Z"⟩
abbrev cX11_ones : ByteArray := prog_13_method_4_code
def yX11_ones : MethodName := ⟨RX11, "ones", "(I)I"⟩
abbrev cX11_begin : ByteArray := prog_13_method_5_code
def yX11_begin : MethodName := ⟨RX11, "begin", "(I)V"⟩
abbrev cX11_isHut : ByteArray := prog_13_method_6_code
def yX11_isHut : MethodName := ⟨RX11, "isHut", "(I)Z"⟩
abbrev cX11_isWay : ByteArray := prog_13_method_7_code
def yX11_isWay : MethodName := ⟨RX11, "isWay", "(I)Z"⟩
abbrev cX11_isKnown : ByteArray := prog_13_method_8_code
def yX11_isKnown : MethodName := ⟨RX11, "isKnown", "(I)Z"⟩
abbrev cX11_huts : ByteArray := prog_13_method_9_code
def yX11_huts : MethodName := ⟨RX11, "huts", "(I)I"⟩
abbrev cX11_greatest : ByteArray := prog_13_method_10_code
def yX11_greatest : MethodName := ⟨RX11, "greatest", "(I)I"⟩
abbrev cX11_isTaken : ByteArray := prog_13_method_11_code
def yX11_isTaken : MethodName := ⟨RX11, "isTaken", "(II)Z"⟩
abbrev cX11_hut : ByteArray := prog_13_method_12_code
def yX11_hut : MethodName := ⟨RX11, "hut", "(III)I"⟩
abbrev cX11_say : ByteArray := prog_13_method_13_code
def yX11_say : MethodName := ⟨RX11, "say", "(I)I"⟩
abbrev cX11_wipe : ByteArray := prog_13_method_14_code
def yX11_wipe : MethodName := ⟨RX11, "wipe", "()I"⟩
abbrev cX11_faultOfSpell : ByteArray := prog_13_method_15_code
def yX11_faultOfSpell : MethodName := ⟨RX11, "faultOfSpell", "()I"⟩
abbrev cX11_wayOf : ByteArray := prog_13_method_16_code
def yX11_wayOf : MethodName := ⟨RX11, "wayOf", "(I)I"⟩
abbrev cX11_faultOfEvening : ByteArray := prog_13_method_17_code
def yX11_faultOfEvening : MethodName := ⟨RX11, "faultOfEvening", "()I"⟩
abbrev cX11_fault : ByteArray := prog_13_method_18_code
def yX11_fault : MethodName := ⟨RX11, "fault", "(I)I"⟩
abbrev cX11_word : ByteArray := prog_13_method_19_code
def yX11_word : MethodName := ⟨RX11, "word", "(I)I"⟩
abbrev cX11_unword : ByteArray := prog_13_method_20_code
def yX11_unword : MethodName := ⟨RX11, "unword", "(I)I"⟩
abbrev cX11_heeds : ByteArray := prog_13_method_21_code
def yX11_heeds : MethodName := ⟨RX11, "heeds", "(III)I"⟩
abbrev cX11_turned : ByteArray := prog_13_method_22_code
def yX11_turned : MethodName := ⟨RX11, "turned", "(III)I"⟩
abbrev cX11_sayWord : ByteArray := prog_13_method_23_code
def yX11_sayWord : MethodName := ⟨RX11, "sayWord", "(I)V"⟩
abbrev cX11_thunder : ByteArray := prog_13_method_24_code
def yX11_thunder : MethodName := ⟨RX11, "thunder", "()V"⟩
abbrev cX11_night : ByteArray := prog_13_method_25_code
def yX11_night : MethodName := ⟨RX11, "night", "()V"⟩
abbrev cX11_keepNow : ByteArray := prog_13_method_26_code
def yX11_keepNow : MethodName := ⟨RX11, "keepNow", "()V"⟩
abbrev cX11_putBack : ByteArray := prog_13_method_27_code
def yX11_putBack : MethodName := ⟨RX11, "putBack", "()V"⟩
abbrev cX11_happen : ByteArray := prog_13_method_28_code
def yX11_happen : MethodName := ⟨RX11, "happen", "(I)V"⟩
abbrev cX11_whyNot : ByteArray := prog_13_method_29_code
def yX11_whyNot : MethodName := ⟨RX11, "whyNot", "(I)I"⟩
abbrev cX11_goEvening : ByteArray := prog_13_method_30_code
def yX11_goEvening : MethodName := ⟨RX11, "goEvening", "()V"⟩
abbrev cX11_judge : ByteArray := prog_13_method_31_code
def yX11_judge : MethodName := ⟨RX11, "judge", "(I)I"⟩
abbrev cX11_behind : ByteArray := prog_13_method_32_code
def yX11_behind : MethodName := ⟨RX11, "behind", "(II)I"⟩
abbrev cX11_done : ByteArray := prog_13_method_33_code
def yX11_done : MethodName := ⟨RX11, "done", "()I"⟩
abbrev cX11_state : ByteArray := prog_13_method_34_code
def yX11_state : MethodName := ⟨RX11, "state", "(II)I"⟩
abbrev cX11_bare : ByteArray := prog_13_method_35_code
def yX11_bare : MethodName := ⟨RX11, "bare", "(II)I"⟩
abbrev cX11_all : ByteArray := prog_13_method_36_code
def yX11_all : MethodName := ⟨RX11, "all", "()I"⟩
abbrev cX11_lookNow : ByteArray := prog_13_method_37_code
def yX11_lookNow : MethodName := ⟨RX11, "lookNow", "()I"⟩
abbrev cX11_wayIn : ByteArray := prog_13_method_38_code
def yX11_wayIn : MethodName := ⟨RX11, "wayIn", "(II)I"⟩
abbrev cX11_saidTo : ByteArray := prog_13_method_39_code
def yX11_saidTo : MethodName := ⟨RX11, "saidTo", "(II)I"⟩
abbrev cX11_quartersOf : ByteArray := prog_13_method_40_code
def yX11_quartersOf : MethodName := ⟨RX11, "quartersOf", "(II)I"⟩
abbrev cX11_spread : ByteArray := prog_13_method_41_code
def yX11_spread : MethodName := ⟨RX11, "spread", "(I)V"⟩
abbrev cX11_reached : ByteArray := prog_13_method_42_code
def yX11_reached : MethodName := ⟨RX11, "reached", "()I"⟩
abbrev cX11_isNumber : ByteArray := prog_13_method_43_code
def yX11_isNumber : MethodName := ⟨RX11, "isNumber", "(I)Z"⟩
abbrev cX11_can : ByteArray := prog_13_method_44_code
def yX11_can : MethodName := ⟨RX11, "can", "(I)I"⟩
abbrev cX11_isSet : ByteArray := prog_13_method_45_code
def yX11_isSet : MethodName := ⟨RX11, "isSet", "(I)Z"⟩
abbrev cX11_isSo : ByteArray := prog_13_method_46_code
def yX11_isSo : MethodName := ⟨RX11, "isSo", "(III)Z"⟩
abbrev cX11_firstSo : ByteArray := prog_13_method_47_code
def yX11_firstSo : MethodName := ⟨RX11, "firstSo", "(III)I"⟩
abbrev cX11_spelled : ByteArray := prog_13_method_48_code
def yX11_spelled : MethodName := ⟨RX11, "spelled", "(III)I"⟩
abbrev cX11_tired : ByteArray := prog_13_method_49_code
def yX11_tired : MethodName := ⟨RX11, "tired", "(II)I"⟩
abbrev cX11_isAbleBy : ByteArray := prog_13_method_50_code
def yX11_isAbleBy : MethodName := ⟨RX11, "isAbleBy", "(IIII)Z"⟩
abbrev cX11_able : ByteArray := prog_13_method_51_code
def yX11_able : MethodName := ⟨RX11, "able", "(II)I"⟩
abbrev cX11_without : ByteArray := prog_13_method_52_code
def yX11_without : MethodName := ⟨RX11, "without", "(III)I"⟩
abbrev cX11_layWanted : ByteArray := prog_13_method_53_code
def yX11_layWanted : MethodName := ⟨RX11, "layWanted", "(II)Z"⟩
abbrev cX11_broughtBy : ByteArray := prog_13_method_54_code
def yX11_broughtBy : MethodName := ⟨RX11, "broughtBy", "(III)I"⟩
abbrev cX11_round : ByteArray := prog_13_method_55_code
def yX11_round : MethodName := ⟨RX11, "round", "(II)I"⟩
abbrev cX11_after : ByteArray := prog_13_method_56_code
def yX11_after : MethodName := ⟨RX11, "after", "(III)I"⟩
abbrev cX11_beginTwo : ByteArray := prog_13_method_57_code
def yX11_beginTwo : MethodName := ⟨RX11, "beginTwo", "(II)V"⟩
abbrev cX11_settle : ByteArray := prog_13_method_58_code
def yX11_settle : MethodName := ⟨RX11, "settle", "(IIII)V"⟩
abbrev cX11_two : ByteArray := prog_13_method_59_code
def yX11_two : MethodName := ⟨RX11, "two", "(IIIIII)I"⟩
abbrev cX11_wayTo : ByteArray := prog_13_method_60_code
def yX11_wayTo : MethodName := ⟨RX11, "wayTo", "(II)I"⟩
abbrev cX11_distance : ByteArray := prog_13_method_61_code
def yX11_distance : MethodName := ⟨RX11, "distance", "(II)I"⟩
abbrev cX11_isClear : ByteArray := prog_13_method_62_code
def yX11_isClear : MethodName := ⟨RX11, "isClear", "(II)Z"⟩
abbrev cX11_pairsIn : ByteArray := prog_13_method_63_code
def yX11_pairsIn : MethodName := ⟨RX11, "pairsIn", "(I)I"⟩
abbrev cX11_pairs : ByteArray := prog_13_method_64_code
def yX11_pairs : MethodName := ⟨RX11, "pairs", "()I"⟩
abbrev cX11_danced : ByteArray := prog_13_method_65_code
def yX11_danced : MethodName := ⟨RX11, "danced", "(I)I"⟩
abbrev cX11_lookingIn : ByteArray := prog_13_method_66_code
def yX11_lookingIn : MethodName := ⟨RX11, "lookingIn", "(II)I"⟩
abbrev cX11_elected : ByteArray := prog_13_method_67_code
def yX11_elected : MethodName := ⟨RX11, "elected", "()I"⟩
abbrev cX11_majority : ByteArray := prog_13_method_68_code
def yX11_majority : MethodName := ⟨RX11, "majority", "(I)I"⟩
abbrev cX11_seen : ByteArray := prog_13_method_69_code
def yX11_seen : MethodName := ⟨RX11, "seen", "(III)I"⟩
abbrev cX11_forget : ByteArray := prog_13_method_70_code
def yX11_forget : MethodName := ⟨RX11, "forget", "()I"⟩
abbrev cX11_isSeenSo : ByteArray := prog_13_method_71_code
def yX11_isSeenSo : MethodName := ⟨RX11, "isSeenSo", "(I)Z"⟩
abbrev cX11_isTrack : ByteArray := prog_13_method_72_code
def yX11_isTrack : MethodName := ⟨RX11, "isTrack", "(I)Z"⟩
abbrev cX11_isUnread : ByteArray := prog_13_method_73_code
def yX11_isUnread : MethodName := ⟨RX11, "isUnread", "()Z"⟩
abbrev cX11_findTracks : ByteArray := prog_13_method_74_code
def yX11_findTracks : MethodName := ⟨RX11, "findTracks", "()V"⟩
abbrev cX11_tracks : ByteArray := prog_13_method_75_code
def yX11_tracks : MethodName := ⟨RX11, "tracks", "(I)I"⟩
abbrev cX11_looked : ByteArray := prog_13_method_76_code
def yX11_looked : MethodName := ⟨RX11, "looked", "(I)I"⟩
abbrev cX11_lowest : ByteArray := prog_13_method_77_code
def yX11_lowest : MethodName := ⟨RX11, "lowest", "(JJI)J"⟩
abbrev cX11_storm : ByteArray := prog_13_method_78_code
def yX11_storm : MethodName := ⟨RX11, "storm", "(IIIII)J"⟩
abbrev cX11_ninety : ByteArray := prog_13_method_79_code
def yX11_ninety : MethodName := ⟨RX11, "ninety", "(III)I"⟩
abbrev cX11_pass : ByteArray := prog_13_method_80_code
def yX11_pass : MethodName := ⟨RX11, "pass", "(I)I"⟩
abbrev cX11_passAll : ByteArray := prog_13_method_81_code
def yX11_passAll : MethodName := ⟨RX11, "passAll", "()V"⟩
abbrev cX11_image : ByteArray := prog_13_method_82_code
def yX11_image : MethodName := ⟨RX11, "image", "(I)I"⟩
abbrev cX11_restore : ByteArray := prog_13_method_83_code
def yX11_restore : MethodName := ⟨RX11, "restore", "(I)I"⟩
abbrev cX11_toldOfHut : ByteArray := prog_13_method_84_code
def yX11_toldOfHut : MethodName := ⟨RX11, "toldOfHut", "(II)I"⟩
abbrev cX11_told : ByteArray := prog_13_method_85_code
def yX11_told : MethodName := ⟨RX11, "told", "(I)I"⟩
def RJ6 : String := "java/lang/Integer"
def TJ6 : u_T := fun k => match k with
  | _ => ("", "", "", false)
def tyJ6 : Nat → FieldType := fun k => match k with
  | _ => .int
theorem nmJ6 : ∀ a, a < 0 → ∀ b, b < 0 → a ≠ b → (TJ6 a).2.1 ≠ (TJ6 b).2.1 := by decide +kernel
theorem tyJ6_ok : ∀ k, k < 0 → parseFieldDescriptor (TJ6 k).2.2.1 = some (tyJ6 k) := by decide +kernel
abbrev cJ6_numberOfTrailingZeros_0f7a4 : ByteArray := prog_14_method_48_code
def yJ6_numberOfTrailingZeros_0f7a4 : MethodName := ⟨RJ6, "numberOfTrailingZeros", "(I)I"⟩
abbrev cJ6_bitCount_0f7a4 : ByteArray := prog_14_method_49_code
def yJ6_bitCount_0f7a4 : MethodName := ⟨RJ6, "bitCount", "(I)I"⟩
def RJ9 : String := "java/lang/Math"
def TJ9 : u_T := fun k => match k with
  | _ => ("", "", "", false)
def tyJ9 : Nat → FieldType := fun k => match k with
  | _ => .int
theorem nmJ9 : ∀ a, a < 0 → ∀ b, b < 0 → a ≠ b → (TJ9 a).2.1 ≠ (TJ9 b).2.1 := by decide +kernel
theorem tyJ9_ok : ∀ k, k < 0 → parseFieldDescriptor (TJ9 k).2.2.1 = some (tyJ9 k) := by decide +kernel
abbrev cJ9_max_7cf53 : ByteArray := prog_15_method_65_code
def yJ9_max_7cf53 : MethodName := ⟨RJ9, "max", "(II)I"⟩
abbrev cJ9_max_f86c9 : ByteArray := prog_15_method_66_code
def yJ9_max_f86c9 : MethodName := ⟨RJ9, "max", "(JJ)J"⟩
abbrev cJ9_min_7cf53 : ByteArray := prog_15_method_69_code
def yJ9_min_7cf53 : MethodName := ⟨RJ9, "min", "(II)I"⟩
def RJ10 : String := "java/lang/System"
def TJ10 : u_T := fun k => match k with
  | _ => ("", "", "", false)
def tyJ10 : Nat → FieldType := fun k => match k with
  | _ => .int
theorem nmJ10 : ∀ a, a < 0 → ∀ b, b < 0 → a ≠ b → (TJ10 a).2.1 ≠ (TJ10 b).2.1 := by decide +kernel
theorem tyJ10_ok : ∀ k, k < 0 → parseFieldDescriptor (TJ10 k).2.2.1 = some (tyJ10 k) := by decide +kernel
def RJ7 : String := "java/util/Arrays"
def TJ7 : u_T := fun k => match k with
  | _ => ("", "", "", false)
def tyJ7 : Nat → FieldType := fun k => match k with
  | _ => .int
theorem nmJ7 : ∀ a, a < 0 → ∀ b, b < 0 → a ≠ b → (TJ7 a).2.1 ≠ (TJ7 b).2.1 := by decide +kernel
theorem tyJ7_ok : ∀ k, k < 0 → parseFieldDescriptor (TJ7 k).2.2.1 = some (tyJ7 k) := by decide +kernel
abbrev cJ7_fill_53178 : ByteArray := prog_17_method_103_code
def yJ7_fill_53178 : MethodName := ⟨RJ7, "fill", "([II)V"⟩
def RL : String := "HenHutsLaw"
abbrev cL_law : ByteArray := code
def yL_law : MethodName := ⟨RL, "law", "([I)Z"⟩
abbrev vwCl : List vw_C := [(RX0, TX0, 2), (RX1, TX1, 4), (RX2, TX2, 7), (RX3, TX3, 4), (RX4, TX4, 2), (RX5, TX5, 5), (RX6, TX6, 5), (RX7, TX7, 2), (RX8, TX8, 3), (RX9, TX9, 12), (RX10, TX10, 11), (RX11, TX11, 41)]
end
section
/-! the core: worlds as a layout and a table of numbers; a judgement over the kit's W -/
abbrev Hp : Type := Nat → Nat → Int32
abbrev FdT : Type := Option (Option Nat)
abbrev ShT : Type := (Nat × List FdT) ⊕ ((Nat × Nat) ⊕ (Nat × List (Option Nat)))
abbrev Ly : Type := List (Nat × ShT)
def up2 (h : Hp) (a k : Nat) (v : Int32) : Hp := va_up h a (upd (h a) k v)
def fdV (f : Nat → Int32) (k : Nat) (x : FdT) : Value := match x with
  | none => .int (f k)
  | some r => va_rf r
def shE (cA : Nat → ClassId) (x : ShT) (f : Nat → Int32) : va_E := match x with
  | .inl o => .inr (o.1, o.2.mapIdx (fdV f))
  | .inr (.inl a) => .inl (cA a.1, a.2, .inl f)
  | .inr (.inr r) => .inl (cA r.1, r.2.length, .inr (.inr (.inr (.inr (fun j => r.2.getD j none)))))
def cel (cA : Nat → ClassId) (L : Ly) (h : Hp) : va_W := L.mapIdx (fun a x => (x.1, shE cA x.2 (h a)))
theorem cel_at {cA : Nat → ClassId} {L : Ly} {h : Hp} {a : Nat} {q : Nat} {x : ShT} (e : L[a]? = some (q, x)) : (cel cA L h)[a]? = some (q, shE cA x (h a)) := by
  unfold cel
  rw [List.getElem?_mapIdx, e]
  rfl
theorem cel_any {cA : Nat → ClassId} {L : Ly} {h : Hp} {a : Nat} : (cel cA L h)[a]? = (L[a]?).map (fun x => (x.1, shE cA x.2 (h a))) := by
  unfold cel
  rw [List.getElem?_mapIdx]
theorem cel_len {cA : Nat → ClassId} {L : Ly} {h : Hp} : (cel cA L h).length = L.length := by
  unfold cel
  rw [List.length_mapIdx]
theorem fd_set {fs : List FdT} {f : Nat → Int32} {k : Nat} {v : Int32} (e : fs[k]? = some none) : (fs.mapIdx (fdV f)).set k (.int v) = fs.mapIdx (fdV (upd f k v)) := by
  apply List.ext_getElem?
  intro j
  have hk : k < fs.length := (List.getElem?_eq_some_iff.mp e).1
  by_cases hj : j = k
  · subst hj
    rw [List.getElem?_set_self (by rw [List.length_mapIdx]; exact hk), List.getElem?_mapIdx, e]
    simp [fdV, upd]
  · rw [List.getElem?_set_ne (Ne.symm hj), List.getElem?_mapIdx, List.getElem?_mapIdx]
    cases h1 : fs[j]? with
    | none => rfl
    | some x =>
      cases x with
      | none => simp [fdV, upd, hj]
      | some r => simp [fdV]
theorem fd_setR {fs : List FdT} {f : Nat → Int32} {k : Nat} {r : Option Nat} (hk : k < fs.length) : (fs.mapIdx (fdV f)).set k (va_rf r) = (fs.set k (some r)).mapIdx (fdV f) := by
  apply List.ext_getElem?
  intro j
  by_cases hj : j = k
  · subst hj
    rw [List.getElem?_set_self (by rw [List.length_mapIdx]; exact hk), List.getElem?_mapIdx, List.getElem?_set_self hk]
    simp [fdV]
  · rw [List.getElem?_set_ne (Ne.symm hj), List.getElem?_mapIdx, List.getElem?_mapIdx, List.getElem?_set_ne (Ne.symm hj)]
theorem cel_set {cA : Nat → ClassId} {L : Ly} {h : Hp} {a q : Nat} {x : ShT} {g : Nat → Int32} {e : va_E} (hL : L[a]? = some (q, x)) (he : e = shE cA x g) : (cel cA L h).set a (q, e) = cel cA L (va_up h a g) := by
  subst he
  apply List.ext_getElem?
  intro j
  have hk : a < L.length := (List.getElem?_eq_some_iff.mp hL).1
  by_cases hj : j = a
  · subst hj
    rw [List.getElem?_set_self (by rw [cel_len]; exact hk), cel_at hL]
    simp [va_up]
  · rw [List.getElem?_set_ne (Ne.symm hj), cel_any, cel_any]
    cases h1 : L[j]? with
    | none => rfl
    | some y => simp [va_up, hj]
theorem cel_setL {cA : Nat → ClassId} {L : Ly} {h : Hp} {a q : Nat} {x y : ShT} {e : va_E} (hL : L[a]? = some (q, x)) (he : e = shE cA y (h a)) : (cel cA L h).set a (q, e) = cel cA (L.set a (q, y)) h := by
  subst he
  apply List.ext_getElem?
  intro j
  have hk : a < L.length := (List.getElem?_eq_some_iff.mp hL).1
  by_cases hj : j = a
  · subst hj
    rw [List.getElem?_set_self (by rw [cel_len]; exact hk), cel_at (List.getElem?_set_self hk)]
  · rw [List.getElem?_set_ne (Ne.symm hj), cel_any, cel_any, List.getElem?_set_ne (Ne.symm hj)]
theorem cel_push {cA : Nat → ClassId} {L : Ly} {h : Hp} {q : Nat} {x : ShT} {g : Nat → Int32} {e : va_E} (he : e = shE cA x g) : cel cA L h ++ [(q, e)] = cel cA (L ++ [(q, x)]) (va_up h L.length g) := by
  subst he
  apply List.ext_getElem?
  intro j
  rw [cel_any]
  rcases Nat.lt_trichotomy j L.length with hj | hj | hj
  · rw [List.getElem?_append_left (by rw [cel_len]; exact hj), List.getElem?_append_left hj, cel_any]
    have : j ≠ L.length := by omega
    simp [va_up, this]
  · subst hj
    rw [List.getElem?_append_right (by rw [cel_len]; exact Nat.le_refl _), List.getElem?_append_right (Nat.le_refl _), cel_len]
    simp [va_up]
  · rw [List.getElem?_eq_none (by rw [List.length_append, cel_len]; simp; omega), List.getElem?_eq_none (by rw [List.length_append]; simp; omega)]
    rfl
-- the words that all methods share
def lwG : List Cond := lw_tbl.filter goodWord
theorem mG {w : Cond} (i : Nat) (h : lw_tbl[i]? = some w) (g : goodWord w = true) : w ∈ lwG := List.mem_filter.mpr ⟨List.mem_of_getElem? h, g⟩
theorem lwG_good {w : Cond} (hw : w ∈ lwG) : goodWord w = true := (List.mem_filter.mp hw).2
theorem lwG_in {y : MethodName} {b : ByteArray} {n : Nat} {r : Option FieldType} (h : Cond.code y b n r ∈ lwG) {Ts : List Cond} (hT : ∀ w ∈ lwG, w ∈ Ts) : GoodIn Ts (Cond.code y b n r :: lwG) := by
  intro w hw
  have hm : w ∈ lwG := by
    rcases List.mem_cons.mp hw with e | e
    · rw [e]; exact h
    · exact e
  exact ⟨hT w hm, good_of_word (lwG_good hm)⟩
-- what holds of the machine's tables beside the words
abbrev tysO (cA : Nat → ClassId) : List (ClassId × FieldType) := [(cA 0, .int), (cA 1, .boolean), (cA 2, .object "HenHuts$Wood"), (cA 3, .array .int)]
def isNest (w : Cond) : Bool := match w with
  | .methodLinkNest _ _ _ _ => true
  | _ => false
def lwN : List Cond := lw_tbl.filter isNest
theorem mN {w : Cond} (i : Nat) (h : lw_tbl[i]? = some w) (g : isNest w = true) : w ∈ lwN := List.mem_filter.mpr ⟨List.mem_of_getElem? h, g⟩
def AOA (U : State) : Prop := (Cond.arrayOver (.array .int)).before #[] U = true
def K9 (D : va_G) (cA : Nat → ClassId) (U : State) : Prop := va_K D vwCl (tysO cA) U ∧ (∀ w ∈ lwN, va_Nw w U) ∧ va_AO "HenHuts$Wood" U ∧ AOA U
theorem AOA.moved {u U : State} (hvm : u.vm.Alike U.vm) (h : AOA u) : AOA U := by
  unfold AOA Cond.before Cond.holds at h ⊢
  simp only [Cond.value, beq_iff_eq] at h ⊢
  cases hc : u.vm.findClass (FieldType.array FieldType.int).toString with
  | none => rw [hc] at h; cases h
  | some comp =>
    rw [hc] at h
    rw [hvm.findClass, hc]
    simp only [Option.bind_some] at h ⊢
    have hi : (U.vm.classes.findIdx? fun (x : Class) => match x.kind with | .array component _ => component == comp | _ => false) = (u.vm.classes.findIdx? fun (x : Class) => match x.kind with | .array component _ => component == comp | _ => false) := by
      have e1 := va_idx_bare U.vm comp
      have e2 := va_idx_bare u.vm comp
      have e3 : U.vm.bare = u.vm.bare := by first | exact hvm.bare_eq | exact hvm.bare_eq.symm
      rw [e3] at e1
      exact e1.symm.trans e2
    refine Eq.trans ?_ h
    refine Eq.trans (congrArg (fun o : Option Nat => (o.bind (fun c => (U.vm.classes[c]?).map fun (k : Class) => match k.kind with | .array _ ty => decide (ty = FieldType.array FieldType.int) && decide (U.vm.findClass ("[" ++ (FieldType.array FieldType.int).toString) = some c) | _ => false))) hi) ?_
    cases hf : (u.vm.classes.findIdx? fun (x : Class) => match x.kind with | .array component _ => component == comp | _ => false) with
    | none => rfl
    | some c =>
      simp only [Option.bind_some]
      cases hk : u.vm.classes[c]? with
      | none =>
        obtain ⟨hlt, -⟩ := Array.findIdx?_eq_some_iff_getElem.mp hf
        exact absurd (Array.getElem?_eq_none_iff.mp hk) (Nat.not_le.mpr hlt)
      | some k =>
        obtain ⟨k', hk', he⟩ := hvm.2.2 _ _ hk
        rw [hk', he, hvm.findClass]
        rfl
theorem K9.warm {D : va_G} {cA : Nat → ClassId} {s U : State} (hW : s.WarmedH U.vm) (h : K9 D cA s) : K9 D cA U := by
  refine ⟨va_K.moved hW.alike h.1, fun w hw => ?_, va_AO.moved hW.alike h.2.2.1, AOA.moved hW.alike h.2.2.2⟩
  have h1 := h.2.1 w hw
  have h2 := (List.mem_filter.mp hw).2
  cases w with
  | methodLinkNest a i x k => exact va_Nw.warmM hW h1
  | _ => cases h2
theorem K9.calling {D : va_G} {cA : Nat → ClassId} {U : State} {g : JFrame} {mk : MethodId} {a : Array Value} (h : K9 D cA U) : K9 D cA (U.calling g mk a) := by
  refine ⟨va_K.moved (u := U) (U := U.calling g mk a) (Vm.Alike.refl U.vm) h.1, fun w hw => ?_, va_AO.moved (u := U) (U := U.calling g mk a) (Vm.Alike.refl U.vm) h.2.2.1, AOA.moved (u := U) (U := U.calling g mk a) (Vm.Alike.refl U.vm) h.2.2.2⟩
  have h1 := h.2.1 w hw
  have h2 := (List.mem_filter.mp hw).2
  cases w with
  | methodLinkNest a i x k => exact va_Nw.same rfl (u := U) rfl h1
  | _ => cases h2
end
section
/-! the judgement Rn over W; a rule an instruction -/
abbrev RX : Type := Program × Launch × Env × Room × State × MethodId × Array Value × List Frame × Method × Code × va_G × (Nat → ClassId) × (Nat → Prop) × (State → Prop) × (Nat → Nat)
def xp (X : RX) : Program := X.1
def xl (X : RX) : Launch := X.2.1
def xe (X : RX) : Env := X.2.2.1
def xR (X : RX) : Room := X.2.2.2.1
def xs (X : RX) : State := X.2.2.2.2.1
def xm (X : RX) : MethodId := X.2.2.2.2.2.1
def xa (X : RX) : Array Value := X.2.2.2.2.2.2.1
def xb (X : RX) : List Frame := X.2.2.2.2.2.2.2.1
def xM (X : RX) : Method := X.2.2.2.2.2.2.2.2.1
def xc (X : RX) : Code := X.2.2.2.2.2.2.2.2.2.1
def xD (X : RX) : va_G := X.2.2.2.2.2.2.2.2.2.2.1
def xA (X : RX) : Nat → ClassId := X.2.2.2.2.2.2.2.2.2.2.2.1
def xF (X : RX) : Nat → Prop := X.2.2.2.2.2.2.2.2.2.2.2.2.1
def xZ (X : RX) : State → Prop := X.2.2.2.2.2.2.2.2.2.2.2.2.2.1
def xr (X : RX) : Nat → Nat := X.2.2.2.2.2.2.2.2.2.2.2.2.2.2
def lvH (ls : Array Slot) (n : Nat) (lv : List (Option Value)) : Prop := ls.size = n ∧ lv_wf ls ∧ ∀ (i : Nat) (v : Value), lv[i]? = some (some v) → ls[i]? = some (.val v)
def toL (lv : List (Option Value)) : List (Nat × Value) := (List.range lv.length).filterMap (fun i => ((lv[i]?).getD none).map (fun v => (i, v)))
theorem toL_mem {lv : List (Option Value)} {i : Nat} {v : Value} : (i, v) ∈ toL lv ↔ lv[i]? = some (some v) := by
  unfold toL
  rw [List.mem_filterMap]
  constructor
  · rintro ⟨j, hj, e⟩
    cases h1 : lv[j]? with
    | none => rw [h1] at e; cases e
    | some o =>
      rw [h1] at e
      cases o with
      | none => cases e
      | some w =>
        simp only [Option.getD_some, Option.map_some, Option.some.injEq, Prod.mk.injEq] at e
        obtain ⟨rfl, rfl⟩ := e
        exact h1
  · intro h1
    refine ⟨i, List.mem_range.mpr (List.getElem?_eq_some_iff.mp h1).1, ?_⟩
    rw [h1]
    rfl
theorem lvH.list {ls : Array Slot} {n : Nat} {lv : List (Option Value)} (h : lvH ls n lv) : lv_has ls n (toL lv) := ⟨h.1, h.2.1, fun q hq => h.2.2 q.1 q.2 (toL_mem.mp hq)⟩
theorem lvH.set1 {ls : Array Slot} {n i : Nat} {v : Value} {lv : List (Option Value)} (h : lv_has ls n ((i, v) :: (toL lv).filter (fun q => !(q.1 == i) && !(q.1 + 1 == i && q.2.category == 2)))) (hp : ∀ j, j + 1 = i → ∀ w, lv[j]? = some (some w) → ¬ w.category = 2) : lvH ls n (lv.set i (some v)) := by
  refine ⟨h.1, h.2.1, fun j w hj => ?_⟩
  by_cases e : j = i
  · subst e
    have hl : j < lv.length := by
      have := (List.getElem?_eq_some_iff.mp hj).1
      rwa [List.length_set] at this
    rw [List.getElem?_set_self hl] at hj
    cases hj
    exact h.2.2 (j, v) List.mem_cons_self
  · rw [List.getElem?_set_ne (Ne.symm e)] at hj
    refine h.2.2 (j, w) (List.mem_cons_of_mem _ (List.mem_filter.mpr ⟨toL_mem.mpr hj, ?_⟩))
    by_cases e2 : j + 1 = i
    · have := hp j e2 w hj
      simp [e, this]
    · simp [e, e2]
theorem lvH.set2 {ls : Array Slot} {n i : Nat} {v : Value} {lv : List (Option Value)} (h : lv_has ls n ((i, v) :: (toL lv).filter (fun q => !(q.1 == i) && (!(q.1 == i + 1) && !(q.1 + 1 == i && q.2.category == 2))))) (hp : ∀ j, j + 1 = i → ∀ w, lv[j]? = some (some w) → ¬ w.category = 2) : lvH ls n ((lv.set i (some v)).set (i + 1) none) := by
  refine ⟨h.1, h.2.1, fun j w hj => ?_⟩
  by_cases e1 : j = i + 1
  · subst e1
    by_cases hl : i + 1 < (lv.set i (some v)).length
    · rw [List.getElem?_set_self hl] at hj
      cases hj
    · rw [List.getElem?_eq_none (by rw [List.length_set]; omega)] at hj
      cases hj
  · rw [List.getElem?_set_ne (Ne.symm e1)] at hj
    by_cases e : j = i
    · subst e
      have hl : j < lv.length := by
        have := (List.getElem?_eq_some_iff.mp hj).1
        rwa [List.length_set] at this
      rw [List.getElem?_set_self hl] at hj
      cases hj
      exact h.2.2 (j, v) List.mem_cons_self
    · rw [List.getElem?_set_ne (Ne.symm e)] at hj
      refine h.2.2 (j, w) (List.mem_cons_of_mem _ (List.mem_filter.mpr ⟨toL_mem.mpr hj, ?_⟩))
      by_cases e2 : j + 1 = i
      · have := hp j e2 w hj
        simp [e, e1, this]
      · simp [e, e1, e2]
def Rn (X : RX) (nc ns pc : Nat) (lv : List (Option Value)) (st : List Value) (L : Ly) (h : Hp) : Prop :=
  ∀ (H : Heap) (locs : List Loc) (ls : Array Slot), va_P (xD X) vwCl (cel (xA X) L h) H → va_D (xF X) (cel (xA X) L h) → va_S (xF X) (xs X).heap H locs → lvH ls (xc X).maxLocals lv →
    W (xp X) (xl X) (xe X) (xR X) (xs X) (xm X) (xa X) (xb X) (xM X) (xc X) H locs nc ns (xZ X) (F0 (xm X) pc ls st)
def Ok (X : RX) (cc : ByteArray) (own : String) (nL fr mc ms : Nat) : Prop :=
  (xp X).tables.exec = Jvm.exec ∧ (xc X).code = cc ∧ (xc X).maxLocals = nL ∧ (xs X).vm.findClass own = some (xm X).cls ∧ (∀ w ∈ lwG, w.before (xa X) (xs X) = true) ∧ K9 (xD X) (xA X) (xs X) ∧
  (∀ q, (xs X).heap.size ≤ q → xF X q) ∧ (xM X).locks = false ∧ fr ≤ (xR X).frames ∧ mc ≤ (xR X).cells ∧ ms ≤ (xR X).slots ∧ 64 * fr ≤ (xR X).locals
def nlg (o : Option Value) : Bool := match o with
  | some v => !(v.category == 2)
  | none => true
theorem nlg_ok {lv : List (Option Value)} {i : Nat} {p : Option Value} (hp : nlg p = true) (h : ∀ j, j + 1 = i → lv[j]? = some p) : ∀ j, j + 1 = i → ∀ w, lv[j]? = some (some w) → ¬ w.category = 2 := by
  intro j hj w hw hc
  rw [h j hj] at hw
  cases hw
  simp [nlg, hc] at hp
section Rules
variable {X : RX} {cc : ByteArray} {own : String} {nL fr mc ms nc ns pc n : Nat} {lv : List (Option Value)} {st : List Value} {L : Ly} {h : Hp}

theorem R_ic (C : Ok X cc own nL fr mc ms) {c : Int} {v : Int32} (d : decode cc pc = .ok (.iconst c, 1)) (hv : Int32.ofInt c = v) (hn : pc + 1 = n) (K : Rn X nc ns n lv (.int v :: st) L h) : Rn X nc ns pc lv (st) L h := by
  subst hn
  intro H locs ls hP hD hS hl
  exact lv_iconst C.1 C.2.1 d hv (K H locs ls hP hD hS hl)
theorem R_bp (C : Ok X cc own nL fr mc ms) {c : Int} {v : Int32} (d : decode cc pc = .ok (.bipush c, 2)) (hv : (Int8.ofInt c).toInt32 = v) (hn : pc + 2 = n) (K : Rn X nc ns n lv (.int v :: st) L h) : Rn X nc ns pc lv (st) L h := by
  subst hn
  intro H locs ls hP hD hS hl
  exact lv_bipush C.1 C.2.1 d hv (K H locs ls hP hD hS hl)
theorem R_sp (C : Ok X cc own nL fr mc ms) {c : Int} {v : Int32} (d : decode cc pc = .ok (.sipush c, 3)) (hv : (Int16.ofInt c).toInt32 = v) (hn : pc + 3 = n) (K : Rn X nc ns n lv (.int v :: st) L h) : Rn X nc ns pc lv (st) L h := by
  subst hn
  intro H locs ls hP hD hS hl
  exact lv_sipush C.1 C.2.1 d hv (K H locs ls hP hD hS hl)
theorem R_lc (C : Ok X cc own nL fr mc ms) {c : Fin 2} {v : Int64} (d : decode cc pc = .ok (.lconst c, 1)) (hv : Int64.ofNat (c : Nat) = v) (hn : pc + 1 = n) (K : Rn X nc ns n lv (.long v :: st) L h) : Rn X nc ns pc lv (st) L h := by
  subst hn
  intro H locs ls hP hD hS hl
  exact lv_lconst C.1 C.2.1 d hv (K H locs ls hP hD hS hl)
theorem R_iadd (C : Ok X cc own nL fr mc ms) {x y : Int32} (d : decode cc pc = .ok (.iadd, 1)) (hn : pc + 1 = n) (K : Rn X nc ns n lv (.int (x + y) :: st) L h) : Rn X nc ns pc lv (.int y :: .int x :: st) L h := by
  subst hn
  intro H locs ls hP hD hS hl
  exact lv_iadd C.1 C.2.1 d (K H locs ls hP hD hS hl)
theorem R_isub (C : Ok X cc own nL fr mc ms) {x y : Int32} (d : decode cc pc = .ok (.isub, 1)) (hn : pc + 1 = n) (K : Rn X nc ns n lv (.int (x - y) :: st) L h) : Rn X nc ns pc lv (.int y :: .int x :: st) L h := by
  subst hn
  intro H locs ls hP hD hS hl
  exact lv_isub C.1 C.2.1 d (K H locs ls hP hD hS hl)
theorem R_imul (C : Ok X cc own nL fr mc ms) {x y : Int32} (d : decode cc pc = .ok (.imul, 1)) (hn : pc + 1 = n) (K : Rn X nc ns n lv (.int (x * y) :: st) L h) : Rn X nc ns pc lv (.int y :: .int x :: st) L h := by
  subst hn
  intro H locs ls hP hD hS hl
  exact lv_imul C.1 C.2.1 d (K H locs ls hP hD hS hl)
theorem R_iand (C : Ok X cc own nL fr mc ms) {x y : Int32} (d : decode cc pc = .ok (.iand, 1)) (hn : pc + 1 = n) (K : Rn X nc ns n lv (.int (x &&& y) :: st) L h) : Rn X nc ns pc lv (.int y :: .int x :: st) L h := by
  subst hn
  intro H locs ls hP hD hS hl
  exact lv_iand C.1 C.2.1 d (K H locs ls hP hD hS hl)
theorem R_ior (C : Ok X cc own nL fr mc ms) {x y : Int32} (d : decode cc pc = .ok (.ior, 1)) (hn : pc + 1 = n) (K : Rn X nc ns n lv (.int (x ||| y) :: st) L h) : Rn X nc ns pc lv (.int y :: .int x :: st) L h := by
  subst hn
  intro H locs ls hP hD hS hl
  exact lv_ior C.1 C.2.1 d (K H locs ls hP hD hS hl)
theorem R_ixor (C : Ok X cc own nL fr mc ms) {x y : Int32} (d : decode cc pc = .ok (.ixor, 1)) (hn : pc + 1 = n) (K : Rn X nc ns n lv (.int (x ^^^ y) :: st) L h) : Rn X nc ns pc lv (.int y :: .int x :: st) L h := by
  subst hn
  intro H locs ls hP hD hS hl
  exact lv_ixor C.1 C.2.1 d (K H locs ls hP hD hS hl)
theorem R_idiv (C : Ok X cc own nL fr mc ms) {x y : Int32} (d : decode cc pc = .ok (.idiv, 1)) (h0 : ¬ y = 0) (hn : pc + 1 = n) (K : Rn X nc ns n lv (.int (x / y) :: st) L h) : Rn X nc ns pc lv (.int y :: .int x :: st) L h := by
  subst hn
  intro H locs ls hP hD hS hl
  exact lv_idiv C.1 C.2.1 d h0 (K H locs ls hP hD hS hl)
theorem R_irem (C : Ok X cc own nL fr mc ms) {x y : Int32} (d : decode cc pc = .ok (.irem, 1)) (h0 : ¬ y = 0) (hn : pc + 1 = n) (K : Rn X nc ns n lv (.int (x - x / y * y) :: st) L h) : Rn X nc ns pc lv (.int y :: .int x :: st) L h := by
  subst hn
  intro H locs ls hP hD hS hl
  exact lv_irem C.1 C.2.1 d h0 (K H locs ls hP hD hS hl)
theorem R_ineg (C : Ok X cc own nL fr mc ms) {x : Int32} (d : decode cc pc = .ok (.ineg, 1)) (hn : pc + 1 = n) (K : Rn X nc ns n lv (.int (-x) :: st) L h) : Rn X nc ns pc lv (.int x :: st) L h := by
  subst hn
  intro H locs ls hP hD hS hl
  exact lv_ineg C.1 C.2.1 d (K H locs ls hP hD hS hl)
theorem R_ishl (C : Ok X cc own nL fr mc ms) {x y : Int32} (d : decode cc pc = .ok (.ishl, 1)) (hn : pc + 1 = n) (K : Rn X nc ns n lv (.int (x <<< (y &&& 31)) :: st) L h) : Rn X nc ns pc lv (.int y :: .int x :: st) L h := by
  subst hn
  intro H locs ls hP hD hS hl
  exact lv_ishl C.1 C.2.1 d (K H locs ls hP hD hS hl)
theorem R_ishr (C : Ok X cc own nL fr mc ms) {x y : Int32} (d : decode cc pc = .ok (.ishr, 1)) (hn : pc + 1 = n) (K : Rn X nc ns n lv (.int (x >>> (y &&& 31)) :: st) L h) : Rn X nc ns pc lv (.int y :: .int x :: st) L h := by
  subst hn
  intro H locs ls hP hD hS hl
  exact lv_ishr C.1 C.2.1 d (K H locs ls hP hD hS hl)
theorem R_iushr (C : Ok X cc own nL fr mc ms) {x y v : Int32} (d : decode cc pc = .ok (.iushr, 1)) (hv : (x.toUInt32 >>> (y.toUInt32 &&& Int32.toUInt32 31)).toInt32 = v) (hn : pc + 1 = n) (K : Rn X nc ns n lv (.int v :: st) L h) : Rn X nc ns pc lv (.int y :: .int x :: st) L h := by
  subst hn
  intro H locs ls hP hD hS hl
  exact lv_iushr C.1 C.2.1 d hv (K H locs ls hP hD hS hl)
theorem R_ladd (C : Ok X cc own nL fr mc ms) {x y : Int64} (d : decode cc pc = .ok (.ladd, 1)) (hn : pc + 1 = n) (K : Rn X nc ns n lv (.long (x + y) :: st) L h) : Rn X nc ns pc lv (.long y :: .long x :: st) L h := by
  subst hn
  intro H locs ls hP hD hS hl
  exact lv_ladd C.1 C.2.1 d (K H locs ls hP hD hS hl)
theorem R_lmul (C : Ok X cc own nL fr mc ms) {x y : Int64} (d : decode cc pc = .ok (.lmul, 1)) (hn : pc + 1 = n) (K : Rn X nc ns n lv (.long (x * y) :: st) L h) : Rn X nc ns pc lv (.long y :: .long x :: st) L h := by
  subst hn
  intro H locs ls hP hD hS hl
  exact lv_lmul C.1 C.2.1 d (K H locs ls hP hD hS hl)
theorem R_ldiv (C : Ok X cc own nL fr mc ms) {x y : Int64} (d : decode cc pc = .ok (.ldiv, 1)) (h0 : ¬ y = 0) (hn : pc + 1 = n) (K : Rn X nc ns n lv (.long (x / y) :: st) L h) : Rn X nc ns pc lv (.long y :: .long x :: st) L h := by
  subst hn
  intro H locs ls hP hD hS hl
  exact lv_ldiv C.1 C.2.1 d h0 (K H locs ls hP hD hS hl)
theorem R_lrem (C : Ok X cc own nL fr mc ms) {x y : Int64} (d : decode cc pc = .ok (.lrem, 1)) (h0 : ¬ y = 0) (hn : pc + 1 = n) (K : Rn X nc ns n lv (.long (x - x / y * y) :: st) L h) : Rn X nc ns pc lv (.long y :: .long x :: st) L h := by
  subst hn
  intro H locs ls hP hD hS hl
  exact lv_lrem C.1 C.2.1 d h0 (K H locs ls hP hD hS hl)
theorem R_lcmp (C : Ok X cc own nL fr mc ms) {x y : Int64} (d : decode cc pc = .ok (.lcmp, 1)) (hn : pc + 1 = n) (K : Rn X nc ns n lv (.int (lg_cmp x y) :: st) L h) : Rn X nc ns pc lv (.long y :: .long x :: st) L h := by
  subst hn
  intro H locs ls hP hD hS hl
  exact W.lcmp C.1 C.2.1 d (K H locs ls hP hD hS hl)
theorem R_i2l (C : Ok X cc own nL fr mc ms) {x : Int32} {v : Int64} (d : decode cc pc = .ok (.i2l, 1)) (hv : x.toInt64 = v) (hn : pc + 1 = n) (K : Rn X nc ns n lv (.long v :: st) L h) : Rn X nc ns pc lv (.int x :: st) L h := by
  subst hn
  intro H locs ls hP hD hS hl
  exact lv_i2l C.1 C.2.1 d hv (K H locs ls hP hD hS hl)
theorem R_l2i (C : Ok X cc own nL fr mc ms) {x : Int64} {v : Int32} (d : decode cc pc = .ok (.l2i, 1)) (hv : x.toInt32 = v) (hn : pc + 1 = n) (K : Rn X nc ns n lv (.int v :: st) L h) : Rn X nc ns pc lv (.long x :: st) L h := by
  subst hn
  intro H locs ls hP hD hS hl
  exact lv_l2i C.1 C.2.1 d hv (K H locs ls hP hD hS hl)
theorem R_dup (C : Ok X cc own nL fr mc ms) {v : Value} (d : decode cc pc = .ok (.dup, 1)) (hc : v.category = 1) (hn : pc + 1 = n) (K : Rn X nc ns n lv (v :: v :: st) L h) : Rn X nc ns pc lv (v :: st) L h := by
  subst hn
  intro H locs ls hP hD hS hl
  exact lv_dup C.1 C.2.1 d hc (K H locs ls hP hD hS hl)
theorem R_pop (C : Ok X cc own nL fr mc ms) {v : Value} (d : decode cc pc = .ok (.pop, 1)) (hc : v.category = 1) (hn : pc + 1 = n) (K : Rn X nc ns n lv (st) L h) : Rn X nc ns pc lv (v :: st) L h := by
  subst hn
  intro H locs ls hP hD hS hl
  exact lv_pop C.1 C.2.1 d hc (K H locs ls hP hD hS hl)
theorem R_dup2 (C : Ok X cc own nL fr mc ms) {v w : Value} (d : decode cc pc = .ok (.dup2, 1)) (hc : v.category = 1) (hw : w.category = 1) (hn : pc + 1 = n) (K : Rn X nc ns n lv (v :: w :: v :: w :: st) L h) : Rn X nc ns pc lv (v :: w :: st) L h := by
  subst hn
  intro H locs ls hP hD hS hl
  exact lv_dup2_11 C.1 C.2.1 d hc hw (K H locs ls hP hD hS hl)
theorem R_ldc (C : Ok X cc own nL fr mc ms) {i : Nat} {v : Int32} (d : decode cc pc = .ok (.ldc i, 2)) (hw : Cond.constant own i v ∈ lwG) (hn : pc + 2 = n) (K : Rn X nc ns n lv (.int v :: st) L h) : Rn X nc ns pc lv st L h := by
  subst hn
  intro H locs ls hP hD hS hl
  exact lv_ldc C.1 C.2.1 C.2.2.2.1 (C.2.2.2.2.1 _ hw) d (K H locs ls hP hD hS hl)
theorem R_ldcw (C : Ok X cc own nL fr mc ms) {i : Nat} {v : Int32} (d : decode cc pc = .ok (.ldc_w i, 3)) (hw : Cond.constant own i v ∈ lwG) (hn : pc + 3 = n) (K : Rn X nc ns n lv (.int v :: st) L h) : Rn X nc ns pc lv st L h := by
  subst hn
  intro H locs ls hP hD hS hl
  exact lv_ldcw C.1 C.2.1 C.2.2.2.1 (C.2.2.2.2.1 _ hw) d (K H locs ls hP hD hS hl)
theorem R_ldc2 (C : Ok X cc own nL fr mc ms) {i : Nat} {v : Int64} (d : decode cc pc = .ok (.ldc2_w i, 3)) (hw : Cond.constantLong own i v ∈ lwG) (hn : pc + 3 = n) (K : Rn X nc ns n lv (.long v :: st) L h) : Rn X nc ns pc lv st L h := by
  subst hn
  intro H locs ls hP hD hS hl
  exact lv_ldc2 C.1 C.2.1 C.2.2.2.1 (C.2.2.2.2.1 _ hw) d (K H locs ls hP hD hS hl)
theorem R_goto (C : Ok X cc own nL fr mc ms) {off : Int} (d : decode cc pc = .ok (.goto off, 3)) (ht : (pc : Int) + off = (n : Int)) (K : Rn X nc ns n lv st L h) : Rn X nc ns pc lv st L h := by
  intro H locs ls hP hD hS hl
  exact lv_goto C.1 C.2.1 d ht (K H locs ls hP hD hS hl)
theorem R_topi {x : Int32} (K : ∀ y : Int32, y = x → Rn X nc ns pc lv (.int y :: st) L h) : Rn X nc ns pc lv (.int x :: st) L h := K x rfl
theorem R_eq {x y : Int32} (e : x = y) (K : Rn X nc ns pc lv (.int y :: st) L h) : Rn X nc ns pc lv (.int x :: st) L h := e ▸ K
theorem R_eql {x y : Int64} (e : x = y) (K : Rn X nc ns pc lv (.long y :: st) L h) : Rn X nc ns pc lv (.long x :: st) L h := e ▸ K
theorem R_heq {h' : Hp} (e : h = h') (K : Rn X nc ns pc lv st L h') : Rn X nc ns pc lv st L h := e ▸ K
theorem R_weak {lv' : List (Option Value)} (e : ∀ (i : Nat) (v : Value), lv'[i]? = some (some v) → lv[i]? = some (some v)) (K : Rn X nc ns pc lv' st L h) : Rn X nc ns pc lv st L h := fun H locs ls hP hD hS hl => K H locs ls hP hD hS ⟨hl.1, hl.2.1, fun i v q => hl.2.2 i v (e i v q)⟩
theorem R_widen {nc' ns' : Nat} (h1 : nc ≤ nc') (h2 : ns ≤ ns') (K : Rn X nc' ns' pc lv st L h) : Rn X nc ns pc lv st L h := fun H locs ls hP hD hS hl => W.widen h1 h2 (K H locs ls hP hD hS hl)
theorem R_if_eq (C : Ok X cc own nL fr mc ms) {x : Int32} {off : Int} {tgt : Nat} (d : decode cc pc = .ok (.ifCond .eq off, 3)) (ht : (pc : Int) + off = (tgt : Int)) (hn : pc + 3 = n) (kt : x = 0 → Rn X nc ns tgt lv st L h) (kf : ¬ x = 0 → Rn X nc ns n lv st L h) : Rn X nc ns pc lv (.int x :: st) L h := by
  subst hn
  intro H locs ls hP hD hS hl
  exact lv_if_eq C.1 C.2.1 d ht (fun q => kt q H locs ls hP hD hS hl) (fun q => kf q H locs ls hP hD hS hl)
theorem R_if_ne (C : Ok X cc own nL fr mc ms) {x : Int32} {off : Int} {tgt : Nat} (d : decode cc pc = .ok (.ifCond .ne off, 3)) (ht : (pc : Int) + off = (tgt : Int)) (hn : pc + 3 = n) (kt : ¬ x = 0 → Rn X nc ns tgt lv st L h) (kf : x = 0 → Rn X nc ns n lv st L h) : Rn X nc ns pc lv (.int x :: st) L h := by
  subst hn
  intro H locs ls hP hD hS hl
  exact lv_if_ne C.1 C.2.1 d ht (fun q => kt q H locs ls hP hD hS hl) (fun q => kf q H locs ls hP hD hS hl)
theorem R_if_lt (C : Ok X cc own nL fr mc ms) {x : Int32} {off : Int} {tgt : Nat} (d : decode cc pc = .ok (.ifCond .lt off, 3)) (ht : (pc : Int) + off = (tgt : Int)) (hn : pc + 3 = n) (kt : x < 0 → Rn X nc ns tgt lv st L h) (kf : ¬ x < 0 → Rn X nc ns n lv st L h) : Rn X nc ns pc lv (.int x :: st) L h := by
  subst hn
  intro H locs ls hP hD hS hl
  exact lv_if_lt C.1 C.2.1 d ht (fun q => kt q H locs ls hP hD hS hl) (fun q => kf q H locs ls hP hD hS hl)
theorem R_if_ge (C : Ok X cc own nL fr mc ms) {x : Int32} {off : Int} {tgt : Nat} (d : decode cc pc = .ok (.ifCond .ge off, 3)) (ht : (pc : Int) + off = (tgt : Int)) (hn : pc + 3 = n) (kt : 0 ≤ x → Rn X nc ns tgt lv st L h) (kf : ¬ 0 ≤ x → Rn X nc ns n lv st L h) : Rn X nc ns pc lv (.int x :: st) L h := by
  subst hn
  intro H locs ls hP hD hS hl
  exact lv_if_ge C.1 C.2.1 d ht (fun q => kt q H locs ls hP hD hS hl) (fun q => kf q H locs ls hP hD hS hl)
theorem R_if_gt (C : Ok X cc own nL fr mc ms) {x : Int32} {off : Int} {tgt : Nat} (d : decode cc pc = .ok (.ifCond .gt off, 3)) (ht : (pc : Int) + off = (tgt : Int)) (hn : pc + 3 = n) (kt : 0 < x → Rn X nc ns tgt lv st L h) (kf : ¬ 0 < x → Rn X nc ns n lv st L h) : Rn X nc ns pc lv (.int x :: st) L h := by
  subst hn
  intro H locs ls hP hD hS hl
  exact lv_if_gt C.1 C.2.1 d ht (fun q => kt q H locs ls hP hD hS hl) (fun q => kf q H locs ls hP hD hS hl)
theorem R_if_le (C : Ok X cc own nL fr mc ms) {x : Int32} {off : Int} {tgt : Nat} (d : decode cc pc = .ok (.ifCond .le off, 3)) (ht : (pc : Int) + off = (tgt : Int)) (hn : pc + 3 = n) (kt : x ≤ 0 → Rn X nc ns tgt lv st L h) (kf : ¬ x ≤ 0 → Rn X nc ns n lv st L h) : Rn X nc ns pc lv (.int x :: st) L h := by
  subst hn
  intro H locs ls hP hD hS hl
  exact lv_if_le C.1 C.2.1 d ht (fun q => kt q H locs ls hP hD hS hl) (fun q => kf q H locs ls hP hD hS hl)
theorem R_icmp_eq (C : Ok X cc own nL fr mc ms) {x y : Int32} {off : Int} {tgt : Nat} (d : decode cc pc = .ok (.if_icmp .eq off, 3)) (ht : (pc : Int) + off = (tgt : Int)) (hn : pc + 3 = n) (kt : x = y → Rn X nc ns tgt lv st L h) (kf : ¬ x = y → Rn X nc ns n lv st L h) : Rn X nc ns pc lv (.int y :: .int x :: st) L h := by
  subst hn
  intro H locs ls hP hD hS hl
  exact lv_icmp_eq C.1 C.2.1 d ht (fun q => kt q H locs ls hP hD hS hl) (fun q => kf q H locs ls hP hD hS hl)
theorem R_icmp_ne (C : Ok X cc own nL fr mc ms) {x y : Int32} {off : Int} {tgt : Nat} (d : decode cc pc = .ok (.if_icmp .ne off, 3)) (ht : (pc : Int) + off = (tgt : Int)) (hn : pc + 3 = n) (kt : ¬ x = y → Rn X nc ns tgt lv st L h) (kf : x = y → Rn X nc ns n lv st L h) : Rn X nc ns pc lv (.int y :: .int x :: st) L h := by
  subst hn
  intro H locs ls hP hD hS hl
  exact lv_icmp_ne C.1 C.2.1 d ht (fun q => kt q H locs ls hP hD hS hl) (fun q => kf q H locs ls hP hD hS hl)
theorem R_icmp_lt (C : Ok X cc own nL fr mc ms) {x y : Int32} {off : Int} {tgt : Nat} (d : decode cc pc = .ok (.if_icmp .lt off, 3)) (ht : (pc : Int) + off = (tgt : Int)) (hn : pc + 3 = n) (kt : x < y → Rn X nc ns tgt lv st L h) (kf : ¬ x < y → Rn X nc ns n lv st L h) : Rn X nc ns pc lv (.int y :: .int x :: st) L h := by
  subst hn
  intro H locs ls hP hD hS hl
  exact lv_icmp_lt C.1 C.2.1 d ht (fun q => kt q H locs ls hP hD hS hl) (fun q => kf q H locs ls hP hD hS hl)
theorem R_icmp_ge (C : Ok X cc own nL fr mc ms) {x y : Int32} {off : Int} {tgt : Nat} (d : decode cc pc = .ok (.if_icmp .ge off, 3)) (ht : (pc : Int) + off = (tgt : Int)) (hn : pc + 3 = n) (kt : y ≤ x → Rn X nc ns tgt lv st L h) (kf : ¬ y ≤ x → Rn X nc ns n lv st L h) : Rn X nc ns pc lv (.int y :: .int x :: st) L h := by
  subst hn
  intro H locs ls hP hD hS hl
  exact lv_icmp_ge C.1 C.2.1 d ht (fun q => kt q H locs ls hP hD hS hl) (fun q => kf q H locs ls hP hD hS hl)
theorem R_icmp_gt (C : Ok X cc own nL fr mc ms) {x y : Int32} {off : Int} {tgt : Nat} (d : decode cc pc = .ok (.if_icmp .gt off, 3)) (ht : (pc : Int) + off = (tgt : Int)) (hn : pc + 3 = n) (kt : y < x → Rn X nc ns tgt lv st L h) (kf : ¬ y < x → Rn X nc ns n lv st L h) : Rn X nc ns pc lv (.int y :: .int x :: st) L h := by
  subst hn
  intro H locs ls hP hD hS hl
  exact lv_icmp_gt C.1 C.2.1 d ht (fun q => kt q H locs ls hP hD hS hl) (fun q => kf q H locs ls hP hD hS hl)
theorem R_icmp_le (C : Ok X cc own nL fr mc ms) {x y : Int32} {off : Int} {tgt : Nat} (d : decode cc pc = .ok (.if_icmp .le off, 3)) (ht : (pc : Int) + off = (tgt : Int)) (hn : pc + 3 = n) (kt : x ≤ y → Rn X nc ns tgt lv st L h) (kf : ¬ x ≤ y → Rn X nc ns n lv st L h) : Rn X nc ns pc lv (.int y :: .int x :: st) L h := by
  subst hn
  intro H locs ls hP hD hS hl
  exact lv_icmp_le C.1 C.2.1 d ht (fun q => kt q H locs ls hP hD hS hl) (fun q => kf q H locs ls hP hD hS hl)
theorem R_tabOut (C : Ok X cc own nL fr mc ms) {dflt lo hi : Int} {offs : Array Int} {len : Nat} {x : Int32} (d : decode cc pc = .ok (.tableswitch dflt lo hi offs, len)) (hx : x.toInt < lo ∨ hi < x.toInt) (ht : (pc : Int) + dflt = (n : Int)) (K : Rn X nc ns n lv st L h) : Rn X nc ns pc lv (.int x :: st) L h := by
  intro H locs ls hP hD hS hl
  exact lv_tableOut C.1 C.2.1 d hx ht (K H locs ls hP hD hS hl)
theorem R_tabIn (C : Ok X cc own nL fr mc ms) {dflt lo hi : Int} {offs : Array Int} {len : Nat} {x : Int32} {off : Int} (d : decode cc pc = .ok (.tableswitch dflt lo hi offs, len)) (h1 : ¬ x.toInt < lo) (h2 : ¬ hi < x.toInt) (ho : offs[(x.toInt - lo).toNat]? = some off) (ht : (pc : Int) + off = (n : Int)) (K : Rn X nc ns n lv st L h) : Rn X nc ns pc lv (.int x :: st) L h := by
  intro H locs ls hP hD hS hl
  exact lv_tableIn C.1 C.2.1 d h1 h2 ho ht (K H locs ls hP hD hS hl)
theorem R_look (C : Ok X cc own nL fr mc ms) {dflt : Int} {ps : Array (Int × Int)} {len : Nat} {x : Int32} {off : Int} (d : decode cc pc = .ok (.lookupswitch dflt ps, len)) (hp : (ps.toList.zip (ps.toList.drop 1)).all (fun (a, next) => a.1 < next.1) = true) (ho : Op.lookupswitch.offset ps.toList dflt x.toInt = off) (ht : (pc : Int) + off = (n : Int)) (K : Rn X nc ns n lv st L h) : Rn X nc ns pc lv (.int x :: st) L h := by
  intro H locs ls hP hD hS hl
  exact lv_lookup C.1 C.2.1 d hp ho ht (K H locs ls hP hD hS hl)

theorem R_il0 (C : Ok X cc own nL fr mc ms) {t : List (Option Value)} {x : Int32} (d : decode cc pc = .ok (.iload_n 0, 1)) (hn : pc + 1 = n) (K : Rn X nc ns n (some (.int x) :: t) (.int x :: st) L h) : Rn X nc ns pc (some (.int x) :: t) st L h := by
  subst hn
  intro H locs ls hP hD hS hl
  exact lv_iload_n C.1 C.2.1 d rfl (hl.2.2 0 _ rfl) (K H locs ls hP hD hS hl)
theorem R_is0 (C : Ok X cc own nL fr mc ms) {c : Option Value} {t : List (Option Value)} {x : Int32} (d : decode cc pc = .ok (.istore_n 0, 1)) (hi : 0 < nL) (hn : pc + 1 = n) (K : Rn X nc ns n (some (.int x) :: t) st L h) : Rn X nc ns pc (c :: t) (.int x :: st) L h := by
  subst hn
  intro H locs ls hP hD hS hl
  exact lv_istore_n C.1 C.2.1 d rfl hl.list (by rw [C.2.2.1]; exact hi) rfl (fun ls' hl' => K H locs ls' hP hD hS (lvH.set1 hl' (fun j hj => absurd hj (Nat.succ_ne_zero j))))
theorem R_al0 (C : Ok X cc own nL fr mc ms) {t : List (Option Value)} {x : Nat} (d : decode cc pc = .ok (.aload_n 0, 1)) (hn : pc + 1 = n) (K : Rn X nc ns n (some (.ref x) :: t) (.ref x :: st) L h) : Rn X nc ns pc (some (.ref x) :: t) st L h := by
  subst hn
  intro H locs ls hP hD hS hl
  exact lv_aload_n C.1 C.2.1 d rfl (hl.2.2 0 _ rfl) (K H locs ls hP hD hS hl)
theorem R_as0 (C : Ok X cc own nL fr mc ms) {c : Option Value} {t : List (Option Value)} {x : Nat} (d : decode cc pc = .ok (.astore_n 0, 1)) (hi : 0 < nL) (hn : pc + 1 = n) (K : Rn X nc ns n (some (.ref x) :: t) st L h) : Rn X nc ns pc (c :: t) (.ref x :: st) L h := by
  subst hn
  intro H locs ls hP hD hS hl
  exact lv_astore_n C.1 C.2.1 d rfl hl.list (by rw [C.2.2.1]; exact hi) rfl (fun ls' hl' => K H locs ls' hP hD hS (lvH.set1 hl' (fun j hj => absurd hj (Nat.succ_ne_zero j))))
theorem R_ll0 (C : Ok X cc own nL fr mc ms) {t : List (Option Value)} {x : Int64} (d : decode cc pc = .ok (.lload_n 0, 1)) (hn : pc + 1 = n) (K : Rn X nc ns n (some (.long x) :: t) (.long x :: st) L h) : Rn X nc ns pc (some (.long x) :: t) st L h := by
  subst hn
  intro H locs ls hP hD hS hl
  exact lv_lload_n C.1 C.2.1 d rfl (hl.2.2 0 _ rfl) (K H locs ls hP hD hS hl)
theorem R_ls0 (C : Ok X cc own nL fr mc ms) {c c2 : Option Value} {t : List (Option Value)} {x : Int64} (d : decode cc pc = .ok (.lstore_n 0, 1)) (hi : 0 + 1 < nL) (hn : pc + 1 = n) (K : Rn X nc ns n (some (.long x) :: none :: t) st L h) : Rn X nc ns pc (c :: c2 :: t) (.long x :: st) L h := by
  subst hn
  intro H locs ls hP hD hS hl
  exact lv_lstore_n C.1 C.2.1 d rfl hl.list (by rw [C.2.2.1]; exact hi) rfl (fun ls' hl' => K H locs ls' hP hD hS (lvH.set2 hl' (fun j hj => absurd hj (Nat.succ_ne_zero j))))
theorem R_inc0 (C : Ok X cc own nL fr mc ms) {t : List (Option Value)} {c : Int} {x v : Int32} (d : decode cc pc = .ok (.iinc 0 c, 3)) (hi : 0 < nL) (hv : x + Int32.ofInt c = v) (hn : pc + 3 = n) (K : Rn X nc ns n (some (.int v) :: t) st L h) : Rn X nc ns pc (some (.int x) :: t) st L h := by
  subst hn
  intro H locs ls hP hD hS hl
  obtain ⟨k, hk⟩ := List.getElem?_of_mem (toL_mem.mpr (show (some (.int x) :: t)[0]? = some (some (Value.int x)) from rfl))
  exact lv_iinc C.1 C.2.1 d hl.list hk hv (by rw [C.2.2.1]; exact hi) rfl (fun ls' hl' => K H locs ls' hP hD hS (lvH.set1 hl' (fun j hj => absurd hj (Nat.succ_ne_zero j))))
theorem R_forg0 {c : Option Value} {t : List (Option Value)} (K : Rn X nc ns pc (none :: t) st L h) : Rn X nc ns pc (c :: t) st L h := by
  refine R_weak (fun j v q => ?_) K
  rcases Nat.lt_trichotomy j 0 with e | e | e
  · match j, e, q with
    | j, e, q => exact absurd e (Nat.not_lt_zero j)
  · subst e; cases q
  · obtain ⟨k, rfl⟩ : ∃ k, j = 0 + 1 + k := ⟨j - 1, by omega⟩
    rw [show 0 + 1 + k = k + 1 by omega] at q ⊢
    exact q
theorem R_il1 (C : Ok X cc own nL fr mc ms) {o0 : Option Value} {t : List (Option Value)} {x : Int32} (d : decode cc pc = .ok (.iload_n 1, 1)) (hn : pc + 1 = n) (K : Rn X nc ns n (o0 :: some (.int x) :: t) (.int x :: st) L h) : Rn X nc ns pc (o0 :: some (.int x) :: t) st L h := by
  subst hn
  intro H locs ls hP hD hS hl
  exact lv_iload_n C.1 C.2.1 d rfl (hl.2.2 1 _ rfl) (K H locs ls hP hD hS hl)
theorem R_is1 (C : Ok X cc own nL fr mc ms) {o0 : Option Value} {c : Option Value} {t : List (Option Value)} {x : Int32} (d : decode cc pc = .ok (.istore_n 1, 1)) (hp : nlg o0 = true) (hi : 1 < nL) (hn : pc + 1 = n) (K : Rn X nc ns n (o0 :: some (.int x) :: t) st L h) : Rn X nc ns pc (o0 :: c :: t) (.int x :: st) L h := by
  subst hn
  intro H locs ls hP hD hS hl
  exact lv_istore_n C.1 C.2.1 d rfl hl.list (by rw [C.2.2.1]; exact hi) rfl (fun ls' hl' => K H locs ls' hP hD hS (lvH.set1 hl' (nlg_ok hp (fun j hj => by cases hj; rfl))))
theorem R_al1 (C : Ok X cc own nL fr mc ms) {o0 : Option Value} {t : List (Option Value)} {x : Nat} (d : decode cc pc = .ok (.aload_n 1, 1)) (hn : pc + 1 = n) (K : Rn X nc ns n (o0 :: some (.ref x) :: t) (.ref x :: st) L h) : Rn X nc ns pc (o0 :: some (.ref x) :: t) st L h := by
  subst hn
  intro H locs ls hP hD hS hl
  exact lv_aload_n C.1 C.2.1 d rfl (hl.2.2 1 _ rfl) (K H locs ls hP hD hS hl)
theorem R_as1 (C : Ok X cc own nL fr mc ms) {o0 : Option Value} {c : Option Value} {t : List (Option Value)} {x : Nat} (d : decode cc pc = .ok (.astore_n 1, 1)) (hp : nlg o0 = true) (hi : 1 < nL) (hn : pc + 1 = n) (K : Rn X nc ns n (o0 :: some (.ref x) :: t) st L h) : Rn X nc ns pc (o0 :: c :: t) (.ref x :: st) L h := by
  subst hn
  intro H locs ls hP hD hS hl
  exact lv_astore_n C.1 C.2.1 d rfl hl.list (by rw [C.2.2.1]; exact hi) rfl (fun ls' hl' => K H locs ls' hP hD hS (lvH.set1 hl' (nlg_ok hp (fun j hj => by cases hj; rfl))))
theorem R_ll1 (C : Ok X cc own nL fr mc ms) {o0 : Option Value} {t : List (Option Value)} {x : Int64} (d : decode cc pc = .ok (.lload_n 1, 1)) (hn : pc + 1 = n) (K : Rn X nc ns n (o0 :: some (.long x) :: t) (.long x :: st) L h) : Rn X nc ns pc (o0 :: some (.long x) :: t) st L h := by
  subst hn
  intro H locs ls hP hD hS hl
  exact lv_lload_n C.1 C.2.1 d rfl (hl.2.2 1 _ rfl) (K H locs ls hP hD hS hl)
theorem R_ls1 (C : Ok X cc own nL fr mc ms) {o0 : Option Value} {c c2 : Option Value} {t : List (Option Value)} {x : Int64} (d : decode cc pc = .ok (.lstore_n 1, 1)) (hp : nlg o0 = true) (hi : 1 + 1 < nL) (hn : pc + 1 = n) (K : Rn X nc ns n (o0 :: some (.long x) :: none :: t) st L h) : Rn X nc ns pc (o0 :: c :: c2 :: t) (.long x :: st) L h := by
  subst hn
  intro H locs ls hP hD hS hl
  exact lv_lstore_n C.1 C.2.1 d rfl hl.list (by rw [C.2.2.1]; exact hi) rfl (fun ls' hl' => K H locs ls' hP hD hS (lvH.set2 hl' (nlg_ok hp (fun j hj => by cases hj; rfl))))
theorem R_inc1 (C : Ok X cc own nL fr mc ms) {o0 : Option Value} {t : List (Option Value)} {c : Int} {x v : Int32} (d : decode cc pc = .ok (.iinc 1 c, 3)) (hp : nlg o0 = true) (hi : 1 < nL) (hv : x + Int32.ofInt c = v) (hn : pc + 3 = n) (K : Rn X nc ns n (o0 :: some (.int v) :: t) st L h) : Rn X nc ns pc (o0 :: some (.int x) :: t) st L h := by
  subst hn
  intro H locs ls hP hD hS hl
  obtain ⟨k, hk⟩ := List.getElem?_of_mem (toL_mem.mpr (show (o0 :: some (.int x) :: t)[1]? = some (some (Value.int x)) from rfl))
  exact lv_iinc C.1 C.2.1 d hl.list hk hv (by rw [C.2.2.1]; exact hi) rfl (fun ls' hl' => K H locs ls' hP hD hS (lvH.set1 hl' (nlg_ok hp (fun j hj => by cases hj; rfl))))
theorem R_forg1 {o0 : Option Value} {c : Option Value} {t : List (Option Value)} (K : Rn X nc ns pc (o0 :: none :: t) st L h) : Rn X nc ns pc (o0 :: c :: t) st L h := by
  refine R_weak (fun j v q => ?_) K
  rcases Nat.lt_trichotomy j 1 with e | e | e
  · match j, e, q with
    | 0, _, q => exact q
  · subst e; cases q
  · obtain ⟨k, rfl⟩ : ∃ k, j = 1 + 1 + k := ⟨j - 2, by omega⟩
    rw [show 1 + 1 + k = k + 2 by omega] at q ⊢
    exact q
theorem R_il2 (C : Ok X cc own nL fr mc ms) {o0 o1 : Option Value} {t : List (Option Value)} {x : Int32} (d : decode cc pc = .ok (.iload_n 2, 1)) (hn : pc + 1 = n) (K : Rn X nc ns n (o0 :: o1 :: some (.int x) :: t) (.int x :: st) L h) : Rn X nc ns pc (o0 :: o1 :: some (.int x) :: t) st L h := by
  subst hn
  intro H locs ls hP hD hS hl
  exact lv_iload_n C.1 C.2.1 d rfl (hl.2.2 2 _ rfl) (K H locs ls hP hD hS hl)
theorem R_is2 (C : Ok X cc own nL fr mc ms) {o0 o1 : Option Value} {c : Option Value} {t : List (Option Value)} {x : Int32} (d : decode cc pc = .ok (.istore_n 2, 1)) (hp : nlg o1 = true) (hi : 2 < nL) (hn : pc + 1 = n) (K : Rn X nc ns n (o0 :: o1 :: some (.int x) :: t) st L h) : Rn X nc ns pc (o0 :: o1 :: c :: t) (.int x :: st) L h := by
  subst hn
  intro H locs ls hP hD hS hl
  exact lv_istore_n C.1 C.2.1 d rfl hl.list (by rw [C.2.2.1]; exact hi) rfl (fun ls' hl' => K H locs ls' hP hD hS (lvH.set1 hl' (nlg_ok hp (fun j hj => by cases hj; rfl))))
theorem R_al2 (C : Ok X cc own nL fr mc ms) {o0 o1 : Option Value} {t : List (Option Value)} {x : Nat} (d : decode cc pc = .ok (.aload_n 2, 1)) (hn : pc + 1 = n) (K : Rn X nc ns n (o0 :: o1 :: some (.ref x) :: t) (.ref x :: st) L h) : Rn X nc ns pc (o0 :: o1 :: some (.ref x) :: t) st L h := by
  subst hn
  intro H locs ls hP hD hS hl
  exact lv_aload_n C.1 C.2.1 d rfl (hl.2.2 2 _ rfl) (K H locs ls hP hD hS hl)
theorem R_as2 (C : Ok X cc own nL fr mc ms) {o0 o1 : Option Value} {c : Option Value} {t : List (Option Value)} {x : Nat} (d : decode cc pc = .ok (.astore_n 2, 1)) (hp : nlg o1 = true) (hi : 2 < nL) (hn : pc + 1 = n) (K : Rn X nc ns n (o0 :: o1 :: some (.ref x) :: t) st L h) : Rn X nc ns pc (o0 :: o1 :: c :: t) (.ref x :: st) L h := by
  subst hn
  intro H locs ls hP hD hS hl
  exact lv_astore_n C.1 C.2.1 d rfl hl.list (by rw [C.2.2.1]; exact hi) rfl (fun ls' hl' => K H locs ls' hP hD hS (lvH.set1 hl' (nlg_ok hp (fun j hj => by cases hj; rfl))))
theorem R_ll2 (C : Ok X cc own nL fr mc ms) {o0 o1 : Option Value} {t : List (Option Value)} {x : Int64} (d : decode cc pc = .ok (.lload_n 2, 1)) (hn : pc + 1 = n) (K : Rn X nc ns n (o0 :: o1 :: some (.long x) :: t) (.long x :: st) L h) : Rn X nc ns pc (o0 :: o1 :: some (.long x) :: t) st L h := by
  subst hn
  intro H locs ls hP hD hS hl
  exact lv_lload_n C.1 C.2.1 d rfl (hl.2.2 2 _ rfl) (K H locs ls hP hD hS hl)
theorem R_ls2 (C : Ok X cc own nL fr mc ms) {o0 o1 : Option Value} {c c2 : Option Value} {t : List (Option Value)} {x : Int64} (d : decode cc pc = .ok (.lstore_n 2, 1)) (hp : nlg o1 = true) (hi : 2 + 1 < nL) (hn : pc + 1 = n) (K : Rn X nc ns n (o0 :: o1 :: some (.long x) :: none :: t) st L h) : Rn X nc ns pc (o0 :: o1 :: c :: c2 :: t) (.long x :: st) L h := by
  subst hn
  intro H locs ls hP hD hS hl
  exact lv_lstore_n C.1 C.2.1 d rfl hl.list (by rw [C.2.2.1]; exact hi) rfl (fun ls' hl' => K H locs ls' hP hD hS (lvH.set2 hl' (nlg_ok hp (fun j hj => by cases hj; rfl))))
theorem R_inc2 (C : Ok X cc own nL fr mc ms) {o0 o1 : Option Value} {t : List (Option Value)} {c : Int} {x v : Int32} (d : decode cc pc = .ok (.iinc 2 c, 3)) (hp : nlg o1 = true) (hi : 2 < nL) (hv : x + Int32.ofInt c = v) (hn : pc + 3 = n) (K : Rn X nc ns n (o0 :: o1 :: some (.int v) :: t) st L h) : Rn X nc ns pc (o0 :: o1 :: some (.int x) :: t) st L h := by
  subst hn
  intro H locs ls hP hD hS hl
  obtain ⟨k, hk⟩ := List.getElem?_of_mem (toL_mem.mpr (show (o0 :: o1 :: some (.int x) :: t)[2]? = some (some (Value.int x)) from rfl))
  exact lv_iinc C.1 C.2.1 d hl.list hk hv (by rw [C.2.2.1]; exact hi) rfl (fun ls' hl' => K H locs ls' hP hD hS (lvH.set1 hl' (nlg_ok hp (fun j hj => by cases hj; rfl))))
theorem R_forg2 {o0 o1 : Option Value} {c : Option Value} {t : List (Option Value)} (K : Rn X nc ns pc (o0 :: o1 :: none :: t) st L h) : Rn X nc ns pc (o0 :: o1 :: c :: t) st L h := by
  refine R_weak (fun j v q => ?_) K
  rcases Nat.lt_trichotomy j 2 with e | e | e
  · match j, e, q with
    | 0, _, q => exact q
    | 1, _, q => exact q
  · subst e; cases q
  · obtain ⟨k, rfl⟩ : ∃ k, j = 2 + 1 + k := ⟨j - 3, by omega⟩
    rw [show 2 + 1 + k = k + 3 by omega] at q ⊢
    exact q
theorem R_il3 (C : Ok X cc own nL fr mc ms) {o0 o1 o2 : Option Value} {t : List (Option Value)} {x : Int32} (d : decode cc pc = .ok (.iload_n 3, 1)) (hn : pc + 1 = n) (K : Rn X nc ns n (o0 :: o1 :: o2 :: some (.int x) :: t) (.int x :: st) L h) : Rn X nc ns pc (o0 :: o1 :: o2 :: some (.int x) :: t) st L h := by
  subst hn
  intro H locs ls hP hD hS hl
  exact lv_iload_n C.1 C.2.1 d rfl (hl.2.2 3 _ rfl) (K H locs ls hP hD hS hl)
theorem R_is3 (C : Ok X cc own nL fr mc ms) {o0 o1 o2 : Option Value} {c : Option Value} {t : List (Option Value)} {x : Int32} (d : decode cc pc = .ok (.istore_n 3, 1)) (hp : nlg o2 = true) (hi : 3 < nL) (hn : pc + 1 = n) (K : Rn X nc ns n (o0 :: o1 :: o2 :: some (.int x) :: t) st L h) : Rn X nc ns pc (o0 :: o1 :: o2 :: c :: t) (.int x :: st) L h := by
  subst hn
  intro H locs ls hP hD hS hl
  exact lv_istore_n C.1 C.2.1 d rfl hl.list (by rw [C.2.2.1]; exact hi) rfl (fun ls' hl' => K H locs ls' hP hD hS (lvH.set1 hl' (nlg_ok hp (fun j hj => by cases hj; rfl))))
theorem R_al3 (C : Ok X cc own nL fr mc ms) {o0 o1 o2 : Option Value} {t : List (Option Value)} {x : Nat} (d : decode cc pc = .ok (.aload_n 3, 1)) (hn : pc + 1 = n) (K : Rn X nc ns n (o0 :: o1 :: o2 :: some (.ref x) :: t) (.ref x :: st) L h) : Rn X nc ns pc (o0 :: o1 :: o2 :: some (.ref x) :: t) st L h := by
  subst hn
  intro H locs ls hP hD hS hl
  exact lv_aload_n C.1 C.2.1 d rfl (hl.2.2 3 _ rfl) (K H locs ls hP hD hS hl)
theorem R_as3 (C : Ok X cc own nL fr mc ms) {o0 o1 o2 : Option Value} {c : Option Value} {t : List (Option Value)} {x : Nat} (d : decode cc pc = .ok (.astore_n 3, 1)) (hp : nlg o2 = true) (hi : 3 < nL) (hn : pc + 1 = n) (K : Rn X nc ns n (o0 :: o1 :: o2 :: some (.ref x) :: t) st L h) : Rn X nc ns pc (o0 :: o1 :: o2 :: c :: t) (.ref x :: st) L h := by
  subst hn
  intro H locs ls hP hD hS hl
  exact lv_astore_n C.1 C.2.1 d rfl hl.list (by rw [C.2.2.1]; exact hi) rfl (fun ls' hl' => K H locs ls' hP hD hS (lvH.set1 hl' (nlg_ok hp (fun j hj => by cases hj; rfl))))
theorem R_ll3 (C : Ok X cc own nL fr mc ms) {o0 o1 o2 : Option Value} {t : List (Option Value)} {x : Int64} (d : decode cc pc = .ok (.lload_n 3, 1)) (hn : pc + 1 = n) (K : Rn X nc ns n (o0 :: o1 :: o2 :: some (.long x) :: t) (.long x :: st) L h) : Rn X nc ns pc (o0 :: o1 :: o2 :: some (.long x) :: t) st L h := by
  subst hn
  intro H locs ls hP hD hS hl
  exact lv_lload_n C.1 C.2.1 d rfl (hl.2.2 3 _ rfl) (K H locs ls hP hD hS hl)
theorem R_ls3 (C : Ok X cc own nL fr mc ms) {o0 o1 o2 : Option Value} {c c2 : Option Value} {t : List (Option Value)} {x : Int64} (d : decode cc pc = .ok (.lstore_n 3, 1)) (hp : nlg o2 = true) (hi : 3 + 1 < nL) (hn : pc + 1 = n) (K : Rn X nc ns n (o0 :: o1 :: o2 :: some (.long x) :: none :: t) st L h) : Rn X nc ns pc (o0 :: o1 :: o2 :: c :: c2 :: t) (.long x :: st) L h := by
  subst hn
  intro H locs ls hP hD hS hl
  exact lv_lstore_n C.1 C.2.1 d rfl hl.list (by rw [C.2.2.1]; exact hi) rfl (fun ls' hl' => K H locs ls' hP hD hS (lvH.set2 hl' (nlg_ok hp (fun j hj => by cases hj; rfl))))
theorem R_inc3 (C : Ok X cc own nL fr mc ms) {o0 o1 o2 : Option Value} {t : List (Option Value)} {c : Int} {x v : Int32} (d : decode cc pc = .ok (.iinc 3 c, 3)) (hp : nlg o2 = true) (hi : 3 < nL) (hv : x + Int32.ofInt c = v) (hn : pc + 3 = n) (K : Rn X nc ns n (o0 :: o1 :: o2 :: some (.int v) :: t) st L h) : Rn X nc ns pc (o0 :: o1 :: o2 :: some (.int x) :: t) st L h := by
  subst hn
  intro H locs ls hP hD hS hl
  obtain ⟨k, hk⟩ := List.getElem?_of_mem (toL_mem.mpr (show (o0 :: o1 :: o2 :: some (.int x) :: t)[3]? = some (some (Value.int x)) from rfl))
  exact lv_iinc C.1 C.2.1 d hl.list hk hv (by rw [C.2.2.1]; exact hi) rfl (fun ls' hl' => K H locs ls' hP hD hS (lvH.set1 hl' (nlg_ok hp (fun j hj => by cases hj; rfl))))
theorem R_forg3 {o0 o1 o2 : Option Value} {c : Option Value} {t : List (Option Value)} (K : Rn X nc ns pc (o0 :: o1 :: o2 :: none :: t) st L h) : Rn X nc ns pc (o0 :: o1 :: o2 :: c :: t) st L h := by
  refine R_weak (fun j v q => ?_) K
  rcases Nat.lt_trichotomy j 3 with e | e | e
  · match j, e, q with
    | 0, _, q => exact q
    | 1, _, q => exact q
    | 2, _, q => exact q
  · subst e; cases q
  · obtain ⟨k, rfl⟩ : ∃ k, j = 3 + 1 + k := ⟨j - 4, by omega⟩
    rw [show 3 + 1 + k = k + 4 by omega] at q ⊢
    exact q
theorem R_il4 (C : Ok X cc own nL fr mc ms) {o0 o1 o2 o3 : Option Value} {t : List (Option Value)} {x : Int32} (d : decode cc pc = .ok (.iload 4, 2)) (hn : pc + 2 = n) (K : Rn X nc ns n (o0 :: o1 :: o2 :: o3 :: some (.int x) :: t) (.int x :: st) L h) : Rn X nc ns pc (o0 :: o1 :: o2 :: o3 :: some (.int x) :: t) st L h := by
  subst hn
  intro H locs ls hP hD hS hl
  exact lv_iload C.1 C.2.1 d (hl.2.2 4 _ rfl) (K H locs ls hP hD hS hl)
theorem R_is4 (C : Ok X cc own nL fr mc ms) {o0 o1 o2 o3 : Option Value} {c : Option Value} {t : List (Option Value)} {x : Int32} (d : decode cc pc = .ok (.istore 4, 2)) (hp : nlg o3 = true) (hi : 4 < nL) (hn : pc + 2 = n) (K : Rn X nc ns n (o0 :: o1 :: o2 :: o3 :: some (.int x) :: t) st L h) : Rn X nc ns pc (o0 :: o1 :: o2 :: o3 :: c :: t) (.int x :: st) L h := by
  subst hn
  intro H locs ls hP hD hS hl
  exact lv_istore C.1 C.2.1 d hl.list (by rw [C.2.2.1]; exact hi) rfl (fun ls' hl' => K H locs ls' hP hD hS (lvH.set1 hl' (nlg_ok hp (fun j hj => by cases hj; rfl))))
theorem R_al4 (C : Ok X cc own nL fr mc ms) {o0 o1 o2 o3 : Option Value} {t : List (Option Value)} {x : Nat} (d : decode cc pc = .ok (.aload 4, 2)) (hn : pc + 2 = n) (K : Rn X nc ns n (o0 :: o1 :: o2 :: o3 :: some (.ref x) :: t) (.ref x :: st) L h) : Rn X nc ns pc (o0 :: o1 :: o2 :: o3 :: some (.ref x) :: t) st L h := by
  subst hn
  intro H locs ls hP hD hS hl
  exact lv_aload C.1 C.2.1 d (hl.2.2 4 _ rfl) (K H locs ls hP hD hS hl)
theorem R_as4 (C : Ok X cc own nL fr mc ms) {o0 o1 o2 o3 : Option Value} {c : Option Value} {t : List (Option Value)} {x : Nat} (d : decode cc pc = .ok (.astore 4, 2)) (hp : nlg o3 = true) (hi : 4 < nL) (hn : pc + 2 = n) (K : Rn X nc ns n (o0 :: o1 :: o2 :: o3 :: some (.ref x) :: t) st L h) : Rn X nc ns pc (o0 :: o1 :: o2 :: o3 :: c :: t) (.ref x :: st) L h := by
  subst hn
  intro H locs ls hP hD hS hl
  exact lv_astore C.1 C.2.1 d hl.list (by rw [C.2.2.1]; exact hi) rfl (fun ls' hl' => K H locs ls' hP hD hS (lvH.set1 hl' (nlg_ok hp (fun j hj => by cases hj; rfl))))
theorem R_ll4 (C : Ok X cc own nL fr mc ms) {o0 o1 o2 o3 : Option Value} {t : List (Option Value)} {x : Int64} (d : decode cc pc = .ok (.lload 4, 2)) (hn : pc + 2 = n) (K : Rn X nc ns n (o0 :: o1 :: o2 :: o3 :: some (.long x) :: t) (.long x :: st) L h) : Rn X nc ns pc (o0 :: o1 :: o2 :: o3 :: some (.long x) :: t) st L h := by
  subst hn
  intro H locs ls hP hD hS hl
  exact lv_lload C.1 C.2.1 d (hl.2.2 4 _ rfl) (K H locs ls hP hD hS hl)
theorem R_ls4 (C : Ok X cc own nL fr mc ms) {o0 o1 o2 o3 : Option Value} {c c2 : Option Value} {t : List (Option Value)} {x : Int64} (d : decode cc pc = .ok (.lstore 4, 2)) (hp : nlg o3 = true) (hi : 4 + 1 < nL) (hn : pc + 2 = n) (K : Rn X nc ns n (o0 :: o1 :: o2 :: o3 :: some (.long x) :: none :: t) st L h) : Rn X nc ns pc (o0 :: o1 :: o2 :: o3 :: c :: c2 :: t) (.long x :: st) L h := by
  subst hn
  intro H locs ls hP hD hS hl
  exact lv_lstore C.1 C.2.1 d hl.list (by rw [C.2.2.1]; exact hi) rfl (fun ls' hl' => K H locs ls' hP hD hS (lvH.set2 hl' (nlg_ok hp (fun j hj => by cases hj; rfl))))
theorem R_inc4 (C : Ok X cc own nL fr mc ms) {o0 o1 o2 o3 : Option Value} {t : List (Option Value)} {c : Int} {x v : Int32} (d : decode cc pc = .ok (.iinc 4 c, 3)) (hp : nlg o3 = true) (hi : 4 < nL) (hv : x + Int32.ofInt c = v) (hn : pc + 3 = n) (K : Rn X nc ns n (o0 :: o1 :: o2 :: o3 :: some (.int v) :: t) st L h) : Rn X nc ns pc (o0 :: o1 :: o2 :: o3 :: some (.int x) :: t) st L h := by
  subst hn
  intro H locs ls hP hD hS hl
  obtain ⟨k, hk⟩ := List.getElem?_of_mem (toL_mem.mpr (show (o0 :: o1 :: o2 :: o3 :: some (.int x) :: t)[4]? = some (some (Value.int x)) from rfl))
  exact lv_iinc C.1 C.2.1 d hl.list hk hv (by rw [C.2.2.1]; exact hi) rfl (fun ls' hl' => K H locs ls' hP hD hS (lvH.set1 hl' (nlg_ok hp (fun j hj => by cases hj; rfl))))
theorem R_forg4 {o0 o1 o2 o3 : Option Value} {c : Option Value} {t : List (Option Value)} (K : Rn X nc ns pc (o0 :: o1 :: o2 :: o3 :: none :: t) st L h) : Rn X nc ns pc (o0 :: o1 :: o2 :: o3 :: c :: t) st L h := by
  refine R_weak (fun j v q => ?_) K
  rcases Nat.lt_trichotomy j 4 with e | e | e
  · match j, e, q with
    | 0, _, q => exact q
    | 1, _, q => exact q
    | 2, _, q => exact q
    | 3, _, q => exact q
  · subst e; cases q
  · obtain ⟨k, rfl⟩ : ∃ k, j = 4 + 1 + k := ⟨j - 5, by omega⟩
    rw [show 4 + 1 + k = k + 5 by omega] at q ⊢
    exact q
theorem R_il5 (C : Ok X cc own nL fr mc ms) {o0 o1 o2 o3 o4 : Option Value} {t : List (Option Value)} {x : Int32} (d : decode cc pc = .ok (.iload 5, 2)) (hn : pc + 2 = n) (K : Rn X nc ns n (o0 :: o1 :: o2 :: o3 :: o4 :: some (.int x) :: t) (.int x :: st) L h) : Rn X nc ns pc (o0 :: o1 :: o2 :: o3 :: o4 :: some (.int x) :: t) st L h := by
  subst hn
  intro H locs ls hP hD hS hl
  exact lv_iload C.1 C.2.1 d (hl.2.2 5 _ rfl) (K H locs ls hP hD hS hl)
theorem R_is5 (C : Ok X cc own nL fr mc ms) {o0 o1 o2 o3 o4 : Option Value} {c : Option Value} {t : List (Option Value)} {x : Int32} (d : decode cc pc = .ok (.istore 5, 2)) (hp : nlg o4 = true) (hi : 5 < nL) (hn : pc + 2 = n) (K : Rn X nc ns n (o0 :: o1 :: o2 :: o3 :: o4 :: some (.int x) :: t) st L h) : Rn X nc ns pc (o0 :: o1 :: o2 :: o3 :: o4 :: c :: t) (.int x :: st) L h := by
  subst hn
  intro H locs ls hP hD hS hl
  exact lv_istore C.1 C.2.1 d hl.list (by rw [C.2.2.1]; exact hi) rfl (fun ls' hl' => K H locs ls' hP hD hS (lvH.set1 hl' (nlg_ok hp (fun j hj => by cases hj; rfl))))
theorem R_al5 (C : Ok X cc own nL fr mc ms) {o0 o1 o2 o3 o4 : Option Value} {t : List (Option Value)} {x : Nat} (d : decode cc pc = .ok (.aload 5, 2)) (hn : pc + 2 = n) (K : Rn X nc ns n (o0 :: o1 :: o2 :: o3 :: o4 :: some (.ref x) :: t) (.ref x :: st) L h) : Rn X nc ns pc (o0 :: o1 :: o2 :: o3 :: o4 :: some (.ref x) :: t) st L h := by
  subst hn
  intro H locs ls hP hD hS hl
  exact lv_aload C.1 C.2.1 d (hl.2.2 5 _ rfl) (K H locs ls hP hD hS hl)
theorem R_as5 (C : Ok X cc own nL fr mc ms) {o0 o1 o2 o3 o4 : Option Value} {c : Option Value} {t : List (Option Value)} {x : Nat} (d : decode cc pc = .ok (.astore 5, 2)) (hp : nlg o4 = true) (hi : 5 < nL) (hn : pc + 2 = n) (K : Rn X nc ns n (o0 :: o1 :: o2 :: o3 :: o4 :: some (.ref x) :: t) st L h) : Rn X nc ns pc (o0 :: o1 :: o2 :: o3 :: o4 :: c :: t) (.ref x :: st) L h := by
  subst hn
  intro H locs ls hP hD hS hl
  exact lv_astore C.1 C.2.1 d hl.list (by rw [C.2.2.1]; exact hi) rfl (fun ls' hl' => K H locs ls' hP hD hS (lvH.set1 hl' (nlg_ok hp (fun j hj => by cases hj; rfl))))
theorem R_ll5 (C : Ok X cc own nL fr mc ms) {o0 o1 o2 o3 o4 : Option Value} {t : List (Option Value)} {x : Int64} (d : decode cc pc = .ok (.lload 5, 2)) (hn : pc + 2 = n) (K : Rn X nc ns n (o0 :: o1 :: o2 :: o3 :: o4 :: some (.long x) :: t) (.long x :: st) L h) : Rn X nc ns pc (o0 :: o1 :: o2 :: o3 :: o4 :: some (.long x) :: t) st L h := by
  subst hn
  intro H locs ls hP hD hS hl
  exact lv_lload C.1 C.2.1 d (hl.2.2 5 _ rfl) (K H locs ls hP hD hS hl)
theorem R_ls5 (C : Ok X cc own nL fr mc ms) {o0 o1 o2 o3 o4 : Option Value} {c c2 : Option Value} {t : List (Option Value)} {x : Int64} (d : decode cc pc = .ok (.lstore 5, 2)) (hp : nlg o4 = true) (hi : 5 + 1 < nL) (hn : pc + 2 = n) (K : Rn X nc ns n (o0 :: o1 :: o2 :: o3 :: o4 :: some (.long x) :: none :: t) st L h) : Rn X nc ns pc (o0 :: o1 :: o2 :: o3 :: o4 :: c :: c2 :: t) (.long x :: st) L h := by
  subst hn
  intro H locs ls hP hD hS hl
  exact lv_lstore C.1 C.2.1 d hl.list (by rw [C.2.2.1]; exact hi) rfl (fun ls' hl' => K H locs ls' hP hD hS (lvH.set2 hl' (nlg_ok hp (fun j hj => by cases hj; rfl))))
theorem R_inc5 (C : Ok X cc own nL fr mc ms) {o0 o1 o2 o3 o4 : Option Value} {t : List (Option Value)} {c : Int} {x v : Int32} (d : decode cc pc = .ok (.iinc 5 c, 3)) (hp : nlg o4 = true) (hi : 5 < nL) (hv : x + Int32.ofInt c = v) (hn : pc + 3 = n) (K : Rn X nc ns n (o0 :: o1 :: o2 :: o3 :: o4 :: some (.int v) :: t) st L h) : Rn X nc ns pc (o0 :: o1 :: o2 :: o3 :: o4 :: some (.int x) :: t) st L h := by
  subst hn
  intro H locs ls hP hD hS hl
  obtain ⟨k, hk⟩ := List.getElem?_of_mem (toL_mem.mpr (show (o0 :: o1 :: o2 :: o3 :: o4 :: some (.int x) :: t)[5]? = some (some (Value.int x)) from rfl))
  exact lv_iinc C.1 C.2.1 d hl.list hk hv (by rw [C.2.2.1]; exact hi) rfl (fun ls' hl' => K H locs ls' hP hD hS (lvH.set1 hl' (nlg_ok hp (fun j hj => by cases hj; rfl))))
theorem R_forg5 {o0 o1 o2 o3 o4 : Option Value} {c : Option Value} {t : List (Option Value)} (K : Rn X nc ns pc (o0 :: o1 :: o2 :: o3 :: o4 :: none :: t) st L h) : Rn X nc ns pc (o0 :: o1 :: o2 :: o3 :: o4 :: c :: t) st L h := by
  refine R_weak (fun j v q => ?_) K
  rcases Nat.lt_trichotomy j 5 with e | e | e
  · match j, e, q with
    | 0, _, q => exact q
    | 1, _, q => exact q
    | 2, _, q => exact q
    | 3, _, q => exact q
    | 4, _, q => exact q
  · subst e; cases q
  · obtain ⟨k, rfl⟩ : ∃ k, j = 5 + 1 + k := ⟨j - 6, by omega⟩
    rw [show 5 + 1 + k = k + 6 by omega] at q ⊢
    exact q
theorem R_il6 (C : Ok X cc own nL fr mc ms) {o0 o1 o2 o3 o4 o5 : Option Value} {t : List (Option Value)} {x : Int32} (d : decode cc pc = .ok (.iload 6, 2)) (hn : pc + 2 = n) (K : Rn X nc ns n (o0 :: o1 :: o2 :: o3 :: o4 :: o5 :: some (.int x) :: t) (.int x :: st) L h) : Rn X nc ns pc (o0 :: o1 :: o2 :: o3 :: o4 :: o5 :: some (.int x) :: t) st L h := by
  subst hn
  intro H locs ls hP hD hS hl
  exact lv_iload C.1 C.2.1 d (hl.2.2 6 _ rfl) (K H locs ls hP hD hS hl)
theorem R_is6 (C : Ok X cc own nL fr mc ms) {o0 o1 o2 o3 o4 o5 : Option Value} {c : Option Value} {t : List (Option Value)} {x : Int32} (d : decode cc pc = .ok (.istore 6, 2)) (hp : nlg o5 = true) (hi : 6 < nL) (hn : pc + 2 = n) (K : Rn X nc ns n (o0 :: o1 :: o2 :: o3 :: o4 :: o5 :: some (.int x) :: t) st L h) : Rn X nc ns pc (o0 :: o1 :: o2 :: o3 :: o4 :: o5 :: c :: t) (.int x :: st) L h := by
  subst hn
  intro H locs ls hP hD hS hl
  exact lv_istore C.1 C.2.1 d hl.list (by rw [C.2.2.1]; exact hi) rfl (fun ls' hl' => K H locs ls' hP hD hS (lvH.set1 hl' (nlg_ok hp (fun j hj => by cases hj; rfl))))
theorem R_al6 (C : Ok X cc own nL fr mc ms) {o0 o1 o2 o3 o4 o5 : Option Value} {t : List (Option Value)} {x : Nat} (d : decode cc pc = .ok (.aload 6, 2)) (hn : pc + 2 = n) (K : Rn X nc ns n (o0 :: o1 :: o2 :: o3 :: o4 :: o5 :: some (.ref x) :: t) (.ref x :: st) L h) : Rn X nc ns pc (o0 :: o1 :: o2 :: o3 :: o4 :: o5 :: some (.ref x) :: t) st L h := by
  subst hn
  intro H locs ls hP hD hS hl
  exact lv_aload C.1 C.2.1 d (hl.2.2 6 _ rfl) (K H locs ls hP hD hS hl)
theorem R_as6 (C : Ok X cc own nL fr mc ms) {o0 o1 o2 o3 o4 o5 : Option Value} {c : Option Value} {t : List (Option Value)} {x : Nat} (d : decode cc pc = .ok (.astore 6, 2)) (hp : nlg o5 = true) (hi : 6 < nL) (hn : pc + 2 = n) (K : Rn X nc ns n (o0 :: o1 :: o2 :: o3 :: o4 :: o5 :: some (.ref x) :: t) st L h) : Rn X nc ns pc (o0 :: o1 :: o2 :: o3 :: o4 :: o5 :: c :: t) (.ref x :: st) L h := by
  subst hn
  intro H locs ls hP hD hS hl
  exact lv_astore C.1 C.2.1 d hl.list (by rw [C.2.2.1]; exact hi) rfl (fun ls' hl' => K H locs ls' hP hD hS (lvH.set1 hl' (nlg_ok hp (fun j hj => by cases hj; rfl))))
theorem R_ll6 (C : Ok X cc own nL fr mc ms) {o0 o1 o2 o3 o4 o5 : Option Value} {t : List (Option Value)} {x : Int64} (d : decode cc pc = .ok (.lload 6, 2)) (hn : pc + 2 = n) (K : Rn X nc ns n (o0 :: o1 :: o2 :: o3 :: o4 :: o5 :: some (.long x) :: t) (.long x :: st) L h) : Rn X nc ns pc (o0 :: o1 :: o2 :: o3 :: o4 :: o5 :: some (.long x) :: t) st L h := by
  subst hn
  intro H locs ls hP hD hS hl
  exact lv_lload C.1 C.2.1 d (hl.2.2 6 _ rfl) (K H locs ls hP hD hS hl)
theorem R_ls6 (C : Ok X cc own nL fr mc ms) {o0 o1 o2 o3 o4 o5 : Option Value} {c c2 : Option Value} {t : List (Option Value)} {x : Int64} (d : decode cc pc = .ok (.lstore 6, 2)) (hp : nlg o5 = true) (hi : 6 + 1 < nL) (hn : pc + 2 = n) (K : Rn X nc ns n (o0 :: o1 :: o2 :: o3 :: o4 :: o5 :: some (.long x) :: none :: t) st L h) : Rn X nc ns pc (o0 :: o1 :: o2 :: o3 :: o4 :: o5 :: c :: c2 :: t) (.long x :: st) L h := by
  subst hn
  intro H locs ls hP hD hS hl
  exact lv_lstore C.1 C.2.1 d hl.list (by rw [C.2.2.1]; exact hi) rfl (fun ls' hl' => K H locs ls' hP hD hS (lvH.set2 hl' (nlg_ok hp (fun j hj => by cases hj; rfl))))
theorem R_inc6 (C : Ok X cc own nL fr mc ms) {o0 o1 o2 o3 o4 o5 : Option Value} {t : List (Option Value)} {c : Int} {x v : Int32} (d : decode cc pc = .ok (.iinc 6 c, 3)) (hp : nlg o5 = true) (hi : 6 < nL) (hv : x + Int32.ofInt c = v) (hn : pc + 3 = n) (K : Rn X nc ns n (o0 :: o1 :: o2 :: o3 :: o4 :: o5 :: some (.int v) :: t) st L h) : Rn X nc ns pc (o0 :: o1 :: o2 :: o3 :: o4 :: o5 :: some (.int x) :: t) st L h := by
  subst hn
  intro H locs ls hP hD hS hl
  obtain ⟨k, hk⟩ := List.getElem?_of_mem (toL_mem.mpr (show (o0 :: o1 :: o2 :: o3 :: o4 :: o5 :: some (.int x) :: t)[6]? = some (some (Value.int x)) from rfl))
  exact lv_iinc C.1 C.2.1 d hl.list hk hv (by rw [C.2.2.1]; exact hi) rfl (fun ls' hl' => K H locs ls' hP hD hS (lvH.set1 hl' (nlg_ok hp (fun j hj => by cases hj; rfl))))
theorem R_forg6 {o0 o1 o2 o3 o4 o5 : Option Value} {c : Option Value} {t : List (Option Value)} (K : Rn X nc ns pc (o0 :: o1 :: o2 :: o3 :: o4 :: o5 :: none :: t) st L h) : Rn X nc ns pc (o0 :: o1 :: o2 :: o3 :: o4 :: o5 :: c :: t) st L h := by
  refine R_weak (fun j v q => ?_) K
  rcases Nat.lt_trichotomy j 6 with e | e | e
  · match j, e, q with
    | 0, _, q => exact q
    | 1, _, q => exact q
    | 2, _, q => exact q
    | 3, _, q => exact q
    | 4, _, q => exact q
    | 5, _, q => exact q
  · subst e; cases q
  · obtain ⟨k, rfl⟩ : ∃ k, j = 6 + 1 + k := ⟨j - 7, by omega⟩
    rw [show 6 + 1 + k = k + 7 by omega] at q ⊢
    exact q
theorem R_il7 (C : Ok X cc own nL fr mc ms) {o0 o1 o2 o3 o4 o5 o6 : Option Value} {t : List (Option Value)} {x : Int32} (d : decode cc pc = .ok (.iload 7, 2)) (hn : pc + 2 = n) (K : Rn X nc ns n (o0 :: o1 :: o2 :: o3 :: o4 :: o5 :: o6 :: some (.int x) :: t) (.int x :: st) L h) : Rn X nc ns pc (o0 :: o1 :: o2 :: o3 :: o4 :: o5 :: o6 :: some (.int x) :: t) st L h := by
  subst hn
  intro H locs ls hP hD hS hl
  exact lv_iload C.1 C.2.1 d (hl.2.2 7 _ rfl) (K H locs ls hP hD hS hl)
theorem R_is7 (C : Ok X cc own nL fr mc ms) {o0 o1 o2 o3 o4 o5 o6 : Option Value} {c : Option Value} {t : List (Option Value)} {x : Int32} (d : decode cc pc = .ok (.istore 7, 2)) (hp : nlg o6 = true) (hi : 7 < nL) (hn : pc + 2 = n) (K : Rn X nc ns n (o0 :: o1 :: o2 :: o3 :: o4 :: o5 :: o6 :: some (.int x) :: t) st L h) : Rn X nc ns pc (o0 :: o1 :: o2 :: o3 :: o4 :: o5 :: o6 :: c :: t) (.int x :: st) L h := by
  subst hn
  intro H locs ls hP hD hS hl
  exact lv_istore C.1 C.2.1 d hl.list (by rw [C.2.2.1]; exact hi) rfl (fun ls' hl' => K H locs ls' hP hD hS (lvH.set1 hl' (nlg_ok hp (fun j hj => by cases hj; rfl))))
theorem R_al7 (C : Ok X cc own nL fr mc ms) {o0 o1 o2 o3 o4 o5 o6 : Option Value} {t : List (Option Value)} {x : Nat} (d : decode cc pc = .ok (.aload 7, 2)) (hn : pc + 2 = n) (K : Rn X nc ns n (o0 :: o1 :: o2 :: o3 :: o4 :: o5 :: o6 :: some (.ref x) :: t) (.ref x :: st) L h) : Rn X nc ns pc (o0 :: o1 :: o2 :: o3 :: o4 :: o5 :: o6 :: some (.ref x) :: t) st L h := by
  subst hn
  intro H locs ls hP hD hS hl
  exact lv_aload C.1 C.2.1 d (hl.2.2 7 _ rfl) (K H locs ls hP hD hS hl)
theorem R_as7 (C : Ok X cc own nL fr mc ms) {o0 o1 o2 o3 o4 o5 o6 : Option Value} {c : Option Value} {t : List (Option Value)} {x : Nat} (d : decode cc pc = .ok (.astore 7, 2)) (hp : nlg o6 = true) (hi : 7 < nL) (hn : pc + 2 = n) (K : Rn X nc ns n (o0 :: o1 :: o2 :: o3 :: o4 :: o5 :: o6 :: some (.ref x) :: t) st L h) : Rn X nc ns pc (o0 :: o1 :: o2 :: o3 :: o4 :: o5 :: o6 :: c :: t) (.ref x :: st) L h := by
  subst hn
  intro H locs ls hP hD hS hl
  exact lv_astore C.1 C.2.1 d hl.list (by rw [C.2.2.1]; exact hi) rfl (fun ls' hl' => K H locs ls' hP hD hS (lvH.set1 hl' (nlg_ok hp (fun j hj => by cases hj; rfl))))
theorem R_ll7 (C : Ok X cc own nL fr mc ms) {o0 o1 o2 o3 o4 o5 o6 : Option Value} {t : List (Option Value)} {x : Int64} (d : decode cc pc = .ok (.lload 7, 2)) (hn : pc + 2 = n) (K : Rn X nc ns n (o0 :: o1 :: o2 :: o3 :: o4 :: o5 :: o6 :: some (.long x) :: t) (.long x :: st) L h) : Rn X nc ns pc (o0 :: o1 :: o2 :: o3 :: o4 :: o5 :: o6 :: some (.long x) :: t) st L h := by
  subst hn
  intro H locs ls hP hD hS hl
  exact lv_lload C.1 C.2.1 d (hl.2.2 7 _ rfl) (K H locs ls hP hD hS hl)
theorem R_ls7 (C : Ok X cc own nL fr mc ms) {o0 o1 o2 o3 o4 o5 o6 : Option Value} {c c2 : Option Value} {t : List (Option Value)} {x : Int64} (d : decode cc pc = .ok (.lstore 7, 2)) (hp : nlg o6 = true) (hi : 7 + 1 < nL) (hn : pc + 2 = n) (K : Rn X nc ns n (o0 :: o1 :: o2 :: o3 :: o4 :: o5 :: o6 :: some (.long x) :: none :: t) st L h) : Rn X nc ns pc (o0 :: o1 :: o2 :: o3 :: o4 :: o5 :: o6 :: c :: c2 :: t) (.long x :: st) L h := by
  subst hn
  intro H locs ls hP hD hS hl
  exact lv_lstore C.1 C.2.1 d hl.list (by rw [C.2.2.1]; exact hi) rfl (fun ls' hl' => K H locs ls' hP hD hS (lvH.set2 hl' (nlg_ok hp (fun j hj => by cases hj; rfl))))
theorem R_inc7 (C : Ok X cc own nL fr mc ms) {o0 o1 o2 o3 o4 o5 o6 : Option Value} {t : List (Option Value)} {c : Int} {x v : Int32} (d : decode cc pc = .ok (.iinc 7 c, 3)) (hp : nlg o6 = true) (hi : 7 < nL) (hv : x + Int32.ofInt c = v) (hn : pc + 3 = n) (K : Rn X nc ns n (o0 :: o1 :: o2 :: o3 :: o4 :: o5 :: o6 :: some (.int v) :: t) st L h) : Rn X nc ns pc (o0 :: o1 :: o2 :: o3 :: o4 :: o5 :: o6 :: some (.int x) :: t) st L h := by
  subst hn
  intro H locs ls hP hD hS hl
  obtain ⟨k, hk⟩ := List.getElem?_of_mem (toL_mem.mpr (show (o0 :: o1 :: o2 :: o3 :: o4 :: o5 :: o6 :: some (.int x) :: t)[7]? = some (some (Value.int x)) from rfl))
  exact lv_iinc C.1 C.2.1 d hl.list hk hv (by rw [C.2.2.1]; exact hi) rfl (fun ls' hl' => K H locs ls' hP hD hS (lvH.set1 hl' (nlg_ok hp (fun j hj => by cases hj; rfl))))
theorem R_forg7 {o0 o1 o2 o3 o4 o5 o6 : Option Value} {c : Option Value} {t : List (Option Value)} (K : Rn X nc ns pc (o0 :: o1 :: o2 :: o3 :: o4 :: o5 :: o6 :: none :: t) st L h) : Rn X nc ns pc (o0 :: o1 :: o2 :: o3 :: o4 :: o5 :: o6 :: c :: t) st L h := by
  refine R_weak (fun j v q => ?_) K
  rcases Nat.lt_trichotomy j 7 with e | e | e
  · match j, e, q with
    | 0, _, q => exact q
    | 1, _, q => exact q
    | 2, _, q => exact q
    | 3, _, q => exact q
    | 4, _, q => exact q
    | 5, _, q => exact q
    | 6, _, q => exact q
  · subst e; cases q
  · obtain ⟨k, rfl⟩ : ∃ k, j = 7 + 1 + k := ⟨j - 8, by omega⟩
    rw [show 7 + 1 + k = k + 8 by omega] at q ⊢
    exact q
theorem R_il8 (C : Ok X cc own nL fr mc ms) {o0 o1 o2 o3 o4 o5 o6 o7 : Option Value} {t : List (Option Value)} {x : Int32} (d : decode cc pc = .ok (.iload 8, 2)) (hn : pc + 2 = n) (K : Rn X nc ns n (o0 :: o1 :: o2 :: o3 :: o4 :: o5 :: o6 :: o7 :: some (.int x) :: t) (.int x :: st) L h) : Rn X nc ns pc (o0 :: o1 :: o2 :: o3 :: o4 :: o5 :: o6 :: o7 :: some (.int x) :: t) st L h := by
  subst hn
  intro H locs ls hP hD hS hl
  exact lv_iload C.1 C.2.1 d (hl.2.2 8 _ rfl) (K H locs ls hP hD hS hl)
theorem R_is8 (C : Ok X cc own nL fr mc ms) {o0 o1 o2 o3 o4 o5 o6 o7 : Option Value} {c : Option Value} {t : List (Option Value)} {x : Int32} (d : decode cc pc = .ok (.istore 8, 2)) (hp : nlg o7 = true) (hi : 8 < nL) (hn : pc + 2 = n) (K : Rn X nc ns n (o0 :: o1 :: o2 :: o3 :: o4 :: o5 :: o6 :: o7 :: some (.int x) :: t) st L h) : Rn X nc ns pc (o0 :: o1 :: o2 :: o3 :: o4 :: o5 :: o6 :: o7 :: c :: t) (.int x :: st) L h := by
  subst hn
  intro H locs ls hP hD hS hl
  exact lv_istore C.1 C.2.1 d hl.list (by rw [C.2.2.1]; exact hi) rfl (fun ls' hl' => K H locs ls' hP hD hS (lvH.set1 hl' (nlg_ok hp (fun j hj => by cases hj; rfl))))
theorem R_al8 (C : Ok X cc own nL fr mc ms) {o0 o1 o2 o3 o4 o5 o6 o7 : Option Value} {t : List (Option Value)} {x : Nat} (d : decode cc pc = .ok (.aload 8, 2)) (hn : pc + 2 = n) (K : Rn X nc ns n (o0 :: o1 :: o2 :: o3 :: o4 :: o5 :: o6 :: o7 :: some (.ref x) :: t) (.ref x :: st) L h) : Rn X nc ns pc (o0 :: o1 :: o2 :: o3 :: o4 :: o5 :: o6 :: o7 :: some (.ref x) :: t) st L h := by
  subst hn
  intro H locs ls hP hD hS hl
  exact lv_aload C.1 C.2.1 d (hl.2.2 8 _ rfl) (K H locs ls hP hD hS hl)
theorem R_as8 (C : Ok X cc own nL fr mc ms) {o0 o1 o2 o3 o4 o5 o6 o7 : Option Value} {c : Option Value} {t : List (Option Value)} {x : Nat} (d : decode cc pc = .ok (.astore 8, 2)) (hp : nlg o7 = true) (hi : 8 < nL) (hn : pc + 2 = n) (K : Rn X nc ns n (o0 :: o1 :: o2 :: o3 :: o4 :: o5 :: o6 :: o7 :: some (.ref x) :: t) st L h) : Rn X nc ns pc (o0 :: o1 :: o2 :: o3 :: o4 :: o5 :: o6 :: o7 :: c :: t) (.ref x :: st) L h := by
  subst hn
  intro H locs ls hP hD hS hl
  exact lv_astore C.1 C.2.1 d hl.list (by rw [C.2.2.1]; exact hi) rfl (fun ls' hl' => K H locs ls' hP hD hS (lvH.set1 hl' (nlg_ok hp (fun j hj => by cases hj; rfl))))
theorem R_ll8 (C : Ok X cc own nL fr mc ms) {o0 o1 o2 o3 o4 o5 o6 o7 : Option Value} {t : List (Option Value)} {x : Int64} (d : decode cc pc = .ok (.lload 8, 2)) (hn : pc + 2 = n) (K : Rn X nc ns n (o0 :: o1 :: o2 :: o3 :: o4 :: o5 :: o6 :: o7 :: some (.long x) :: t) (.long x :: st) L h) : Rn X nc ns pc (o0 :: o1 :: o2 :: o3 :: o4 :: o5 :: o6 :: o7 :: some (.long x) :: t) st L h := by
  subst hn
  intro H locs ls hP hD hS hl
  exact lv_lload C.1 C.2.1 d (hl.2.2 8 _ rfl) (K H locs ls hP hD hS hl)
theorem R_ls8 (C : Ok X cc own nL fr mc ms) {o0 o1 o2 o3 o4 o5 o6 o7 : Option Value} {c c2 : Option Value} {t : List (Option Value)} {x : Int64} (d : decode cc pc = .ok (.lstore 8, 2)) (hp : nlg o7 = true) (hi : 8 + 1 < nL) (hn : pc + 2 = n) (K : Rn X nc ns n (o0 :: o1 :: o2 :: o3 :: o4 :: o5 :: o6 :: o7 :: some (.long x) :: none :: t) st L h) : Rn X nc ns pc (o0 :: o1 :: o2 :: o3 :: o4 :: o5 :: o6 :: o7 :: c :: c2 :: t) (.long x :: st) L h := by
  subst hn
  intro H locs ls hP hD hS hl
  exact lv_lstore C.1 C.2.1 d hl.list (by rw [C.2.2.1]; exact hi) rfl (fun ls' hl' => K H locs ls' hP hD hS (lvH.set2 hl' (nlg_ok hp (fun j hj => by cases hj; rfl))))
theorem R_inc8 (C : Ok X cc own nL fr mc ms) {o0 o1 o2 o3 o4 o5 o6 o7 : Option Value} {t : List (Option Value)} {c : Int} {x v : Int32} (d : decode cc pc = .ok (.iinc 8 c, 3)) (hp : nlg o7 = true) (hi : 8 < nL) (hv : x + Int32.ofInt c = v) (hn : pc + 3 = n) (K : Rn X nc ns n (o0 :: o1 :: o2 :: o3 :: o4 :: o5 :: o6 :: o7 :: some (.int v) :: t) st L h) : Rn X nc ns pc (o0 :: o1 :: o2 :: o3 :: o4 :: o5 :: o6 :: o7 :: some (.int x) :: t) st L h := by
  subst hn
  intro H locs ls hP hD hS hl
  obtain ⟨k, hk⟩ := List.getElem?_of_mem (toL_mem.mpr (show (o0 :: o1 :: o2 :: o3 :: o4 :: o5 :: o6 :: o7 :: some (.int x) :: t)[8]? = some (some (Value.int x)) from rfl))
  exact lv_iinc C.1 C.2.1 d hl.list hk hv (by rw [C.2.2.1]; exact hi) rfl (fun ls' hl' => K H locs ls' hP hD hS (lvH.set1 hl' (nlg_ok hp (fun j hj => by cases hj; rfl))))
theorem R_forg8 {o0 o1 o2 o3 o4 o5 o6 o7 : Option Value} {c : Option Value} {t : List (Option Value)} (K : Rn X nc ns pc (o0 :: o1 :: o2 :: o3 :: o4 :: o5 :: o6 :: o7 :: none :: t) st L h) : Rn X nc ns pc (o0 :: o1 :: o2 :: o3 :: o4 :: o5 :: o6 :: o7 :: c :: t) st L h := by
  refine R_weak (fun j v q => ?_) K
  rcases Nat.lt_trichotomy j 8 with e | e | e
  · match j, e, q with
    | 0, _, q => exact q
    | 1, _, q => exact q
    | 2, _, q => exact q
    | 3, _, q => exact q
    | 4, _, q => exact q
    | 5, _, q => exact q
    | 6, _, q => exact q
    | 7, _, q => exact q
  · subst e; cases q
  · obtain ⟨k, rfl⟩ : ∃ k, j = 8 + 1 + k := ⟨j - 9, by omega⟩
    rw [show 8 + 1 + k = k + 9 by omega] at q ⊢
    exact q
theorem R_il9 (C : Ok X cc own nL fr mc ms) {o0 o1 o2 o3 o4 o5 o6 o7 o8 : Option Value} {t : List (Option Value)} {x : Int32} (d : decode cc pc = .ok (.iload 9, 2)) (hn : pc + 2 = n) (K : Rn X nc ns n (o0 :: o1 :: o2 :: o3 :: o4 :: o5 :: o6 :: o7 :: o8 :: some (.int x) :: t) (.int x :: st) L h) : Rn X nc ns pc (o0 :: o1 :: o2 :: o3 :: o4 :: o5 :: o6 :: o7 :: o8 :: some (.int x) :: t) st L h := by
  subst hn
  intro H locs ls hP hD hS hl
  exact lv_iload C.1 C.2.1 d (hl.2.2 9 _ rfl) (K H locs ls hP hD hS hl)
theorem R_is9 (C : Ok X cc own nL fr mc ms) {o0 o1 o2 o3 o4 o5 o6 o7 o8 : Option Value} {c : Option Value} {t : List (Option Value)} {x : Int32} (d : decode cc pc = .ok (.istore 9, 2)) (hp : nlg o8 = true) (hi : 9 < nL) (hn : pc + 2 = n) (K : Rn X nc ns n (o0 :: o1 :: o2 :: o3 :: o4 :: o5 :: o6 :: o7 :: o8 :: some (.int x) :: t) st L h) : Rn X nc ns pc (o0 :: o1 :: o2 :: o3 :: o4 :: o5 :: o6 :: o7 :: o8 :: c :: t) (.int x :: st) L h := by
  subst hn
  intro H locs ls hP hD hS hl
  exact lv_istore C.1 C.2.1 d hl.list (by rw [C.2.2.1]; exact hi) rfl (fun ls' hl' => K H locs ls' hP hD hS (lvH.set1 hl' (nlg_ok hp (fun j hj => by cases hj; rfl))))
theorem R_al9 (C : Ok X cc own nL fr mc ms) {o0 o1 o2 o3 o4 o5 o6 o7 o8 : Option Value} {t : List (Option Value)} {x : Nat} (d : decode cc pc = .ok (.aload 9, 2)) (hn : pc + 2 = n) (K : Rn X nc ns n (o0 :: o1 :: o2 :: o3 :: o4 :: o5 :: o6 :: o7 :: o8 :: some (.ref x) :: t) (.ref x :: st) L h) : Rn X nc ns pc (o0 :: o1 :: o2 :: o3 :: o4 :: o5 :: o6 :: o7 :: o8 :: some (.ref x) :: t) st L h := by
  subst hn
  intro H locs ls hP hD hS hl
  exact lv_aload C.1 C.2.1 d (hl.2.2 9 _ rfl) (K H locs ls hP hD hS hl)
theorem R_as9 (C : Ok X cc own nL fr mc ms) {o0 o1 o2 o3 o4 o5 o6 o7 o8 : Option Value} {c : Option Value} {t : List (Option Value)} {x : Nat} (d : decode cc pc = .ok (.astore 9, 2)) (hp : nlg o8 = true) (hi : 9 < nL) (hn : pc + 2 = n) (K : Rn X nc ns n (o0 :: o1 :: o2 :: o3 :: o4 :: o5 :: o6 :: o7 :: o8 :: some (.ref x) :: t) st L h) : Rn X nc ns pc (o0 :: o1 :: o2 :: o3 :: o4 :: o5 :: o6 :: o7 :: o8 :: c :: t) (.ref x :: st) L h := by
  subst hn
  intro H locs ls hP hD hS hl
  exact lv_astore C.1 C.2.1 d hl.list (by rw [C.2.2.1]; exact hi) rfl (fun ls' hl' => K H locs ls' hP hD hS (lvH.set1 hl' (nlg_ok hp (fun j hj => by cases hj; rfl))))
theorem R_ll9 (C : Ok X cc own nL fr mc ms) {o0 o1 o2 o3 o4 o5 o6 o7 o8 : Option Value} {t : List (Option Value)} {x : Int64} (d : decode cc pc = .ok (.lload 9, 2)) (hn : pc + 2 = n) (K : Rn X nc ns n (o0 :: o1 :: o2 :: o3 :: o4 :: o5 :: o6 :: o7 :: o8 :: some (.long x) :: t) (.long x :: st) L h) : Rn X nc ns pc (o0 :: o1 :: o2 :: o3 :: o4 :: o5 :: o6 :: o7 :: o8 :: some (.long x) :: t) st L h := by
  subst hn
  intro H locs ls hP hD hS hl
  exact lv_lload C.1 C.2.1 d (hl.2.2 9 _ rfl) (K H locs ls hP hD hS hl)
theorem R_ls9 (C : Ok X cc own nL fr mc ms) {o0 o1 o2 o3 o4 o5 o6 o7 o8 : Option Value} {c c2 : Option Value} {t : List (Option Value)} {x : Int64} (d : decode cc pc = .ok (.lstore 9, 2)) (hp : nlg o8 = true) (hi : 9 + 1 < nL) (hn : pc + 2 = n) (K : Rn X nc ns n (o0 :: o1 :: o2 :: o3 :: o4 :: o5 :: o6 :: o7 :: o8 :: some (.long x) :: none :: t) st L h) : Rn X nc ns pc (o0 :: o1 :: o2 :: o3 :: o4 :: o5 :: o6 :: o7 :: o8 :: c :: c2 :: t) (.long x :: st) L h := by
  subst hn
  intro H locs ls hP hD hS hl
  exact lv_lstore C.1 C.2.1 d hl.list (by rw [C.2.2.1]; exact hi) rfl (fun ls' hl' => K H locs ls' hP hD hS (lvH.set2 hl' (nlg_ok hp (fun j hj => by cases hj; rfl))))
theorem R_inc9 (C : Ok X cc own nL fr mc ms) {o0 o1 o2 o3 o4 o5 o6 o7 o8 : Option Value} {t : List (Option Value)} {c : Int} {x v : Int32} (d : decode cc pc = .ok (.iinc 9 c, 3)) (hp : nlg o8 = true) (hi : 9 < nL) (hv : x + Int32.ofInt c = v) (hn : pc + 3 = n) (K : Rn X nc ns n (o0 :: o1 :: o2 :: o3 :: o4 :: o5 :: o6 :: o7 :: o8 :: some (.int v) :: t) st L h) : Rn X nc ns pc (o0 :: o1 :: o2 :: o3 :: o4 :: o5 :: o6 :: o7 :: o8 :: some (.int x) :: t) st L h := by
  subst hn
  intro H locs ls hP hD hS hl
  obtain ⟨k, hk⟩ := List.getElem?_of_mem (toL_mem.mpr (show (o0 :: o1 :: o2 :: o3 :: o4 :: o5 :: o6 :: o7 :: o8 :: some (.int x) :: t)[9]? = some (some (Value.int x)) from rfl))
  exact lv_iinc C.1 C.2.1 d hl.list hk hv (by rw [C.2.2.1]; exact hi) rfl (fun ls' hl' => K H locs ls' hP hD hS (lvH.set1 hl' (nlg_ok hp (fun j hj => by cases hj; rfl))))
theorem R_forg9 {o0 o1 o2 o3 o4 o5 o6 o7 o8 : Option Value} {c : Option Value} {t : List (Option Value)} (K : Rn X nc ns pc (o0 :: o1 :: o2 :: o3 :: o4 :: o5 :: o6 :: o7 :: o8 :: none :: t) st L h) : Rn X nc ns pc (o0 :: o1 :: o2 :: o3 :: o4 :: o5 :: o6 :: o7 :: o8 :: c :: t) st L h := by
  refine R_weak (fun j v q => ?_) K
  rcases Nat.lt_trichotomy j 9 with e | e | e
  · match j, e, q with
    | 0, _, q => exact q
    | 1, _, q => exact q
    | 2, _, q => exact q
    | 3, _, q => exact q
    | 4, _, q => exact q
    | 5, _, q => exact q
    | 6, _, q => exact q
    | 7, _, q => exact q
    | 8, _, q => exact q
  · subst e; cases q
  · obtain ⟨k, rfl⟩ : ∃ k, j = 9 + 1 + k := ⟨j - 10, by omega⟩
    rw [show 9 + 1 + k = k + 10 by omega] at q ⊢
    exact q
theorem R_il10 (C : Ok X cc own nL fr mc ms) {o0 o1 o2 o3 o4 o5 o6 o7 o8 o9 : Option Value} {t : List (Option Value)} {x : Int32} (d : decode cc pc = .ok (.iload 10, 2)) (hn : pc + 2 = n) (K : Rn X nc ns n (o0 :: o1 :: o2 :: o3 :: o4 :: o5 :: o6 :: o7 :: o8 :: o9 :: some (.int x) :: t) (.int x :: st) L h) : Rn X nc ns pc (o0 :: o1 :: o2 :: o3 :: o4 :: o5 :: o6 :: o7 :: o8 :: o9 :: some (.int x) :: t) st L h := by
  subst hn
  intro H locs ls hP hD hS hl
  exact lv_iload C.1 C.2.1 d (hl.2.2 10 _ rfl) (K H locs ls hP hD hS hl)
theorem R_is10 (C : Ok X cc own nL fr mc ms) {o0 o1 o2 o3 o4 o5 o6 o7 o8 o9 : Option Value} {c : Option Value} {t : List (Option Value)} {x : Int32} (d : decode cc pc = .ok (.istore 10, 2)) (hp : nlg o9 = true) (hi : 10 < nL) (hn : pc + 2 = n) (K : Rn X nc ns n (o0 :: o1 :: o2 :: o3 :: o4 :: o5 :: o6 :: o7 :: o8 :: o9 :: some (.int x) :: t) st L h) : Rn X nc ns pc (o0 :: o1 :: o2 :: o3 :: o4 :: o5 :: o6 :: o7 :: o8 :: o9 :: c :: t) (.int x :: st) L h := by
  subst hn
  intro H locs ls hP hD hS hl
  exact lv_istore C.1 C.2.1 d hl.list (by rw [C.2.2.1]; exact hi) rfl (fun ls' hl' => K H locs ls' hP hD hS (lvH.set1 hl' (nlg_ok hp (fun j hj => by cases hj; rfl))))
theorem R_al10 (C : Ok X cc own nL fr mc ms) {o0 o1 o2 o3 o4 o5 o6 o7 o8 o9 : Option Value} {t : List (Option Value)} {x : Nat} (d : decode cc pc = .ok (.aload 10, 2)) (hn : pc + 2 = n) (K : Rn X nc ns n (o0 :: o1 :: o2 :: o3 :: o4 :: o5 :: o6 :: o7 :: o8 :: o9 :: some (.ref x) :: t) (.ref x :: st) L h) : Rn X nc ns pc (o0 :: o1 :: o2 :: o3 :: o4 :: o5 :: o6 :: o7 :: o8 :: o9 :: some (.ref x) :: t) st L h := by
  subst hn
  intro H locs ls hP hD hS hl
  exact lv_aload C.1 C.2.1 d (hl.2.2 10 _ rfl) (K H locs ls hP hD hS hl)
theorem R_as10 (C : Ok X cc own nL fr mc ms) {o0 o1 o2 o3 o4 o5 o6 o7 o8 o9 : Option Value} {c : Option Value} {t : List (Option Value)} {x : Nat} (d : decode cc pc = .ok (.astore 10, 2)) (hp : nlg o9 = true) (hi : 10 < nL) (hn : pc + 2 = n) (K : Rn X nc ns n (o0 :: o1 :: o2 :: o3 :: o4 :: o5 :: o6 :: o7 :: o8 :: o9 :: some (.ref x) :: t) st L h) : Rn X nc ns pc (o0 :: o1 :: o2 :: o3 :: o4 :: o5 :: o6 :: o7 :: o8 :: o9 :: c :: t) (.ref x :: st) L h := by
  subst hn
  intro H locs ls hP hD hS hl
  exact lv_astore C.1 C.2.1 d hl.list (by rw [C.2.2.1]; exact hi) rfl (fun ls' hl' => K H locs ls' hP hD hS (lvH.set1 hl' (nlg_ok hp (fun j hj => by cases hj; rfl))))
theorem R_ll10 (C : Ok X cc own nL fr mc ms) {o0 o1 o2 o3 o4 o5 o6 o7 o8 o9 : Option Value} {t : List (Option Value)} {x : Int64} (d : decode cc pc = .ok (.lload 10, 2)) (hn : pc + 2 = n) (K : Rn X nc ns n (o0 :: o1 :: o2 :: o3 :: o4 :: o5 :: o6 :: o7 :: o8 :: o9 :: some (.long x) :: t) (.long x :: st) L h) : Rn X nc ns pc (o0 :: o1 :: o2 :: o3 :: o4 :: o5 :: o6 :: o7 :: o8 :: o9 :: some (.long x) :: t) st L h := by
  subst hn
  intro H locs ls hP hD hS hl
  exact lv_lload C.1 C.2.1 d (hl.2.2 10 _ rfl) (K H locs ls hP hD hS hl)
theorem R_ls10 (C : Ok X cc own nL fr mc ms) {o0 o1 o2 o3 o4 o5 o6 o7 o8 o9 : Option Value} {c c2 : Option Value} {t : List (Option Value)} {x : Int64} (d : decode cc pc = .ok (.lstore 10, 2)) (hp : nlg o9 = true) (hi : 10 + 1 < nL) (hn : pc + 2 = n) (K : Rn X nc ns n (o0 :: o1 :: o2 :: o3 :: o4 :: o5 :: o6 :: o7 :: o8 :: o9 :: some (.long x) :: none :: t) st L h) : Rn X nc ns pc (o0 :: o1 :: o2 :: o3 :: o4 :: o5 :: o6 :: o7 :: o8 :: o9 :: c :: c2 :: t) (.long x :: st) L h := by
  subst hn
  intro H locs ls hP hD hS hl
  exact lv_lstore C.1 C.2.1 d hl.list (by rw [C.2.2.1]; exact hi) rfl (fun ls' hl' => K H locs ls' hP hD hS (lvH.set2 hl' (nlg_ok hp (fun j hj => by cases hj; rfl))))
theorem R_inc10 (C : Ok X cc own nL fr mc ms) {o0 o1 o2 o3 o4 o5 o6 o7 o8 o9 : Option Value} {t : List (Option Value)} {c : Int} {x v : Int32} (d : decode cc pc = .ok (.iinc 10 c, 3)) (hp : nlg o9 = true) (hi : 10 < nL) (hv : x + Int32.ofInt c = v) (hn : pc + 3 = n) (K : Rn X nc ns n (o0 :: o1 :: o2 :: o3 :: o4 :: o5 :: o6 :: o7 :: o8 :: o9 :: some (.int v) :: t) st L h) : Rn X nc ns pc (o0 :: o1 :: o2 :: o3 :: o4 :: o5 :: o6 :: o7 :: o8 :: o9 :: some (.int x) :: t) st L h := by
  subst hn
  intro H locs ls hP hD hS hl
  obtain ⟨k, hk⟩ := List.getElem?_of_mem (toL_mem.mpr (show (o0 :: o1 :: o2 :: o3 :: o4 :: o5 :: o6 :: o7 :: o8 :: o9 :: some (.int x) :: t)[10]? = some (some (Value.int x)) from rfl))
  exact lv_iinc C.1 C.2.1 d hl.list hk hv (by rw [C.2.2.1]; exact hi) rfl (fun ls' hl' => K H locs ls' hP hD hS (lvH.set1 hl' (nlg_ok hp (fun j hj => by cases hj; rfl))))
theorem R_forg10 {o0 o1 o2 o3 o4 o5 o6 o7 o8 o9 : Option Value} {c : Option Value} {t : List (Option Value)} (K : Rn X nc ns pc (o0 :: o1 :: o2 :: o3 :: o4 :: o5 :: o6 :: o7 :: o8 :: o9 :: none :: t) st L h) : Rn X nc ns pc (o0 :: o1 :: o2 :: o3 :: o4 :: o5 :: o6 :: o7 :: o8 :: o9 :: c :: t) st L h := by
  refine R_weak (fun j v q => ?_) K
  rcases Nat.lt_trichotomy j 10 with e | e | e
  · match j, e, q with
    | 0, _, q => exact q
    | 1, _, q => exact q
    | 2, _, q => exact q
    | 3, _, q => exact q
    | 4, _, q => exact q
    | 5, _, q => exact q
    | 6, _, q => exact q
    | 7, _, q => exact q
    | 8, _, q => exact q
    | 9, _, q => exact q
  · subst e; cases q
  · obtain ⟨k, rfl⟩ : ∃ k, j = 10 + 1 + k := ⟨j - 11, by omega⟩
    rw [show 10 + 1 + k = k + 11 by omega] at q ⊢
    exact q
theorem R_il11 (C : Ok X cc own nL fr mc ms) {o0 o1 o2 o3 o4 o5 o6 o7 o8 o9 o10 : Option Value} {t : List (Option Value)} {x : Int32} (d : decode cc pc = .ok (.iload 11, 2)) (hn : pc + 2 = n) (K : Rn X nc ns n (o0 :: o1 :: o2 :: o3 :: o4 :: o5 :: o6 :: o7 :: o8 :: o9 :: o10 :: some (.int x) :: t) (.int x :: st) L h) : Rn X nc ns pc (o0 :: o1 :: o2 :: o3 :: o4 :: o5 :: o6 :: o7 :: o8 :: o9 :: o10 :: some (.int x) :: t) st L h := by
  subst hn
  intro H locs ls hP hD hS hl
  exact lv_iload C.1 C.2.1 d (hl.2.2 11 _ rfl) (K H locs ls hP hD hS hl)
theorem R_is11 (C : Ok X cc own nL fr mc ms) {o0 o1 o2 o3 o4 o5 o6 o7 o8 o9 o10 : Option Value} {c : Option Value} {t : List (Option Value)} {x : Int32} (d : decode cc pc = .ok (.istore 11, 2)) (hp : nlg o10 = true) (hi : 11 < nL) (hn : pc + 2 = n) (K : Rn X nc ns n (o0 :: o1 :: o2 :: o3 :: o4 :: o5 :: o6 :: o7 :: o8 :: o9 :: o10 :: some (.int x) :: t) st L h) : Rn X nc ns pc (o0 :: o1 :: o2 :: o3 :: o4 :: o5 :: o6 :: o7 :: o8 :: o9 :: o10 :: c :: t) (.int x :: st) L h := by
  subst hn
  intro H locs ls hP hD hS hl
  exact lv_istore C.1 C.2.1 d hl.list (by rw [C.2.2.1]; exact hi) rfl (fun ls' hl' => K H locs ls' hP hD hS (lvH.set1 hl' (nlg_ok hp (fun j hj => by cases hj; rfl))))
theorem R_al11 (C : Ok X cc own nL fr mc ms) {o0 o1 o2 o3 o4 o5 o6 o7 o8 o9 o10 : Option Value} {t : List (Option Value)} {x : Nat} (d : decode cc pc = .ok (.aload 11, 2)) (hn : pc + 2 = n) (K : Rn X nc ns n (o0 :: o1 :: o2 :: o3 :: o4 :: o5 :: o6 :: o7 :: o8 :: o9 :: o10 :: some (.ref x) :: t) (.ref x :: st) L h) : Rn X nc ns pc (o0 :: o1 :: o2 :: o3 :: o4 :: o5 :: o6 :: o7 :: o8 :: o9 :: o10 :: some (.ref x) :: t) st L h := by
  subst hn
  intro H locs ls hP hD hS hl
  exact lv_aload C.1 C.2.1 d (hl.2.2 11 _ rfl) (K H locs ls hP hD hS hl)
theorem R_as11 (C : Ok X cc own nL fr mc ms) {o0 o1 o2 o3 o4 o5 o6 o7 o8 o9 o10 : Option Value} {c : Option Value} {t : List (Option Value)} {x : Nat} (d : decode cc pc = .ok (.astore 11, 2)) (hp : nlg o10 = true) (hi : 11 < nL) (hn : pc + 2 = n) (K : Rn X nc ns n (o0 :: o1 :: o2 :: o3 :: o4 :: o5 :: o6 :: o7 :: o8 :: o9 :: o10 :: some (.ref x) :: t) st L h) : Rn X nc ns pc (o0 :: o1 :: o2 :: o3 :: o4 :: o5 :: o6 :: o7 :: o8 :: o9 :: o10 :: c :: t) (.ref x :: st) L h := by
  subst hn
  intro H locs ls hP hD hS hl
  exact lv_astore C.1 C.2.1 d hl.list (by rw [C.2.2.1]; exact hi) rfl (fun ls' hl' => K H locs ls' hP hD hS (lvH.set1 hl' (nlg_ok hp (fun j hj => by cases hj; rfl))))
theorem R_ll11 (C : Ok X cc own nL fr mc ms) {o0 o1 o2 o3 o4 o5 o6 o7 o8 o9 o10 : Option Value} {t : List (Option Value)} {x : Int64} (d : decode cc pc = .ok (.lload 11, 2)) (hn : pc + 2 = n) (K : Rn X nc ns n (o0 :: o1 :: o2 :: o3 :: o4 :: o5 :: o6 :: o7 :: o8 :: o9 :: o10 :: some (.long x) :: t) (.long x :: st) L h) : Rn X nc ns pc (o0 :: o1 :: o2 :: o3 :: o4 :: o5 :: o6 :: o7 :: o8 :: o9 :: o10 :: some (.long x) :: t) st L h := by
  subst hn
  intro H locs ls hP hD hS hl
  exact lv_lload C.1 C.2.1 d (hl.2.2 11 _ rfl) (K H locs ls hP hD hS hl)
theorem R_ls11 (C : Ok X cc own nL fr mc ms) {o0 o1 o2 o3 o4 o5 o6 o7 o8 o9 o10 : Option Value} {c c2 : Option Value} {t : List (Option Value)} {x : Int64} (d : decode cc pc = .ok (.lstore 11, 2)) (hp : nlg o10 = true) (hi : 11 + 1 < nL) (hn : pc + 2 = n) (K : Rn X nc ns n (o0 :: o1 :: o2 :: o3 :: o4 :: o5 :: o6 :: o7 :: o8 :: o9 :: o10 :: some (.long x) :: none :: t) st L h) : Rn X nc ns pc (o0 :: o1 :: o2 :: o3 :: o4 :: o5 :: o6 :: o7 :: o8 :: o9 :: o10 :: c :: c2 :: t) (.long x :: st) L h := by
  subst hn
  intro H locs ls hP hD hS hl
  exact lv_lstore C.1 C.2.1 d hl.list (by rw [C.2.2.1]; exact hi) rfl (fun ls' hl' => K H locs ls' hP hD hS (lvH.set2 hl' (nlg_ok hp (fun j hj => by cases hj; rfl))))
theorem R_inc11 (C : Ok X cc own nL fr mc ms) {o0 o1 o2 o3 o4 o5 o6 o7 o8 o9 o10 : Option Value} {t : List (Option Value)} {c : Int} {x v : Int32} (d : decode cc pc = .ok (.iinc 11 c, 3)) (hp : nlg o10 = true) (hi : 11 < nL) (hv : x + Int32.ofInt c = v) (hn : pc + 3 = n) (K : Rn X nc ns n (o0 :: o1 :: o2 :: o3 :: o4 :: o5 :: o6 :: o7 :: o8 :: o9 :: o10 :: some (.int v) :: t) st L h) : Rn X nc ns pc (o0 :: o1 :: o2 :: o3 :: o4 :: o5 :: o6 :: o7 :: o8 :: o9 :: o10 :: some (.int x) :: t) st L h := by
  subst hn
  intro H locs ls hP hD hS hl
  obtain ⟨k, hk⟩ := List.getElem?_of_mem (toL_mem.mpr (show (o0 :: o1 :: o2 :: o3 :: o4 :: o5 :: o6 :: o7 :: o8 :: o9 :: o10 :: some (.int x) :: t)[11]? = some (some (Value.int x)) from rfl))
  exact lv_iinc C.1 C.2.1 d hl.list hk hv (by rw [C.2.2.1]; exact hi) rfl (fun ls' hl' => K H locs ls' hP hD hS (lvH.set1 hl' (nlg_ok hp (fun j hj => by cases hj; rfl))))
theorem R_forg11 {o0 o1 o2 o3 o4 o5 o6 o7 o8 o9 o10 : Option Value} {c : Option Value} {t : List (Option Value)} (K : Rn X nc ns pc (o0 :: o1 :: o2 :: o3 :: o4 :: o5 :: o6 :: o7 :: o8 :: o9 :: o10 :: none :: t) st L h) : Rn X nc ns pc (o0 :: o1 :: o2 :: o3 :: o4 :: o5 :: o6 :: o7 :: o8 :: o9 :: o10 :: c :: t) st L h := by
  refine R_weak (fun j v q => ?_) K
  rcases Nat.lt_trichotomy j 11 with e | e | e
  · match j, e, q with
    | 0, _, q => exact q
    | 1, _, q => exact q
    | 2, _, q => exact q
    | 3, _, q => exact q
    | 4, _, q => exact q
    | 5, _, q => exact q
    | 6, _, q => exact q
    | 7, _, q => exact q
    | 8, _, q => exact q
    | 9, _, q => exact q
    | 10, _, q => exact q
  · subst e; cases q
  · obtain ⟨k, rfl⟩ : ∃ k, j = 11 + 1 + k := ⟨j - 12, by omega⟩
    rw [show 11 + 1 + k = k + 12 by omega] at q ⊢
    exact q
theorem R_il12 (C : Ok X cc own nL fr mc ms) {o0 o1 o2 o3 o4 o5 o6 o7 o8 o9 o10 o11 : Option Value} {t : List (Option Value)} {x : Int32} (d : decode cc pc = .ok (.iload 12, 2)) (hn : pc + 2 = n) (K : Rn X nc ns n (o0 :: o1 :: o2 :: o3 :: o4 :: o5 :: o6 :: o7 :: o8 :: o9 :: o10 :: o11 :: some (.int x) :: t) (.int x :: st) L h) : Rn X nc ns pc (o0 :: o1 :: o2 :: o3 :: o4 :: o5 :: o6 :: o7 :: o8 :: o9 :: o10 :: o11 :: some (.int x) :: t) st L h := by
  subst hn
  intro H locs ls hP hD hS hl
  exact lv_iload C.1 C.2.1 d (hl.2.2 12 _ rfl) (K H locs ls hP hD hS hl)
theorem R_is12 (C : Ok X cc own nL fr mc ms) {o0 o1 o2 o3 o4 o5 o6 o7 o8 o9 o10 o11 : Option Value} {c : Option Value} {t : List (Option Value)} {x : Int32} (d : decode cc pc = .ok (.istore 12, 2)) (hp : nlg o11 = true) (hi : 12 < nL) (hn : pc + 2 = n) (K : Rn X nc ns n (o0 :: o1 :: o2 :: o3 :: o4 :: o5 :: o6 :: o7 :: o8 :: o9 :: o10 :: o11 :: some (.int x) :: t) st L h) : Rn X nc ns pc (o0 :: o1 :: o2 :: o3 :: o4 :: o5 :: o6 :: o7 :: o8 :: o9 :: o10 :: o11 :: c :: t) (.int x :: st) L h := by
  subst hn
  intro H locs ls hP hD hS hl
  exact lv_istore C.1 C.2.1 d hl.list (by rw [C.2.2.1]; exact hi) rfl (fun ls' hl' => K H locs ls' hP hD hS (lvH.set1 hl' (nlg_ok hp (fun j hj => by cases hj; rfl))))
theorem R_al12 (C : Ok X cc own nL fr mc ms) {o0 o1 o2 o3 o4 o5 o6 o7 o8 o9 o10 o11 : Option Value} {t : List (Option Value)} {x : Nat} (d : decode cc pc = .ok (.aload 12, 2)) (hn : pc + 2 = n) (K : Rn X nc ns n (o0 :: o1 :: o2 :: o3 :: o4 :: o5 :: o6 :: o7 :: o8 :: o9 :: o10 :: o11 :: some (.ref x) :: t) (.ref x :: st) L h) : Rn X nc ns pc (o0 :: o1 :: o2 :: o3 :: o4 :: o5 :: o6 :: o7 :: o8 :: o9 :: o10 :: o11 :: some (.ref x) :: t) st L h := by
  subst hn
  intro H locs ls hP hD hS hl
  exact lv_aload C.1 C.2.1 d (hl.2.2 12 _ rfl) (K H locs ls hP hD hS hl)
theorem R_as12 (C : Ok X cc own nL fr mc ms) {o0 o1 o2 o3 o4 o5 o6 o7 o8 o9 o10 o11 : Option Value} {c : Option Value} {t : List (Option Value)} {x : Nat} (d : decode cc pc = .ok (.astore 12, 2)) (hp : nlg o11 = true) (hi : 12 < nL) (hn : pc + 2 = n) (K : Rn X nc ns n (o0 :: o1 :: o2 :: o3 :: o4 :: o5 :: o6 :: o7 :: o8 :: o9 :: o10 :: o11 :: some (.ref x) :: t) st L h) : Rn X nc ns pc (o0 :: o1 :: o2 :: o3 :: o4 :: o5 :: o6 :: o7 :: o8 :: o9 :: o10 :: o11 :: c :: t) (.ref x :: st) L h := by
  subst hn
  intro H locs ls hP hD hS hl
  exact lv_astore C.1 C.2.1 d hl.list (by rw [C.2.2.1]; exact hi) rfl (fun ls' hl' => K H locs ls' hP hD hS (lvH.set1 hl' (nlg_ok hp (fun j hj => by cases hj; rfl))))
theorem R_ll12 (C : Ok X cc own nL fr mc ms) {o0 o1 o2 o3 o4 o5 o6 o7 o8 o9 o10 o11 : Option Value} {t : List (Option Value)} {x : Int64} (d : decode cc pc = .ok (.lload 12, 2)) (hn : pc + 2 = n) (K : Rn X nc ns n (o0 :: o1 :: o2 :: o3 :: o4 :: o5 :: o6 :: o7 :: o8 :: o9 :: o10 :: o11 :: some (.long x) :: t) (.long x :: st) L h) : Rn X nc ns pc (o0 :: o1 :: o2 :: o3 :: o4 :: o5 :: o6 :: o7 :: o8 :: o9 :: o10 :: o11 :: some (.long x) :: t) st L h := by
  subst hn
  intro H locs ls hP hD hS hl
  exact lv_lload C.1 C.2.1 d (hl.2.2 12 _ rfl) (K H locs ls hP hD hS hl)
theorem R_ls12 (C : Ok X cc own nL fr mc ms) {o0 o1 o2 o3 o4 o5 o6 o7 o8 o9 o10 o11 : Option Value} {c c2 : Option Value} {t : List (Option Value)} {x : Int64} (d : decode cc pc = .ok (.lstore 12, 2)) (hp : nlg o11 = true) (hi : 12 + 1 < nL) (hn : pc + 2 = n) (K : Rn X nc ns n (o0 :: o1 :: o2 :: o3 :: o4 :: o5 :: o6 :: o7 :: o8 :: o9 :: o10 :: o11 :: some (.long x) :: none :: t) st L h) : Rn X nc ns pc (o0 :: o1 :: o2 :: o3 :: o4 :: o5 :: o6 :: o7 :: o8 :: o9 :: o10 :: o11 :: c :: c2 :: t) (.long x :: st) L h := by
  subst hn
  intro H locs ls hP hD hS hl
  exact lv_lstore C.1 C.2.1 d hl.list (by rw [C.2.2.1]; exact hi) rfl (fun ls' hl' => K H locs ls' hP hD hS (lvH.set2 hl' (nlg_ok hp (fun j hj => by cases hj; rfl))))
theorem R_inc12 (C : Ok X cc own nL fr mc ms) {o0 o1 o2 o3 o4 o5 o6 o7 o8 o9 o10 o11 : Option Value} {t : List (Option Value)} {c : Int} {x v : Int32} (d : decode cc pc = .ok (.iinc 12 c, 3)) (hp : nlg o11 = true) (hi : 12 < nL) (hv : x + Int32.ofInt c = v) (hn : pc + 3 = n) (K : Rn X nc ns n (o0 :: o1 :: o2 :: o3 :: o4 :: o5 :: o6 :: o7 :: o8 :: o9 :: o10 :: o11 :: some (.int v) :: t) st L h) : Rn X nc ns pc (o0 :: o1 :: o2 :: o3 :: o4 :: o5 :: o6 :: o7 :: o8 :: o9 :: o10 :: o11 :: some (.int x) :: t) st L h := by
  subst hn
  intro H locs ls hP hD hS hl
  obtain ⟨k, hk⟩ := List.getElem?_of_mem (toL_mem.mpr (show (o0 :: o1 :: o2 :: o3 :: o4 :: o5 :: o6 :: o7 :: o8 :: o9 :: o10 :: o11 :: some (.int x) :: t)[12]? = some (some (Value.int x)) from rfl))
  exact lv_iinc C.1 C.2.1 d hl.list hk hv (by rw [C.2.2.1]; exact hi) rfl (fun ls' hl' => K H locs ls' hP hD hS (lvH.set1 hl' (nlg_ok hp (fun j hj => by cases hj; rfl))))
theorem R_forg12 {o0 o1 o2 o3 o4 o5 o6 o7 o8 o9 o10 o11 : Option Value} {c : Option Value} {t : List (Option Value)} (K : Rn X nc ns pc (o0 :: o1 :: o2 :: o3 :: o4 :: o5 :: o6 :: o7 :: o8 :: o9 :: o10 :: o11 :: none :: t) st L h) : Rn X nc ns pc (o0 :: o1 :: o2 :: o3 :: o4 :: o5 :: o6 :: o7 :: o8 :: o9 :: o10 :: o11 :: c :: t) st L h := by
  refine R_weak (fun j v q => ?_) K
  rcases Nat.lt_trichotomy j 12 with e | e | e
  · match j, e, q with
    | 0, _, q => exact q
    | 1, _, q => exact q
    | 2, _, q => exact q
    | 3, _, q => exact q
    | 4, _, q => exact q
    | 5, _, q => exact q
    | 6, _, q => exact q
    | 7, _, q => exact q
    | 8, _, q => exact q
    | 9, _, q => exact q
    | 10, _, q => exact q
    | 11, _, q => exact q
  · subst e; cases q
  · obtain ⟨k, rfl⟩ : ∃ k, j = 12 + 1 + k := ⟨j - 13, by omega⟩
    rw [show 12 + 1 + k = k + 13 by omega] at q ⊢
    exact q
theorem R_il13 (C : Ok X cc own nL fr mc ms) {o0 o1 o2 o3 o4 o5 o6 o7 o8 o9 o10 o11 o12 : Option Value} {t : List (Option Value)} {x : Int32} (d : decode cc pc = .ok (.iload 13, 2)) (hn : pc + 2 = n) (K : Rn X nc ns n (o0 :: o1 :: o2 :: o3 :: o4 :: o5 :: o6 :: o7 :: o8 :: o9 :: o10 :: o11 :: o12 :: some (.int x) :: t) (.int x :: st) L h) : Rn X nc ns pc (o0 :: o1 :: o2 :: o3 :: o4 :: o5 :: o6 :: o7 :: o8 :: o9 :: o10 :: o11 :: o12 :: some (.int x) :: t) st L h := by
  subst hn
  intro H locs ls hP hD hS hl
  exact lv_iload C.1 C.2.1 d (hl.2.2 13 _ rfl) (K H locs ls hP hD hS hl)
theorem R_is13 (C : Ok X cc own nL fr mc ms) {o0 o1 o2 o3 o4 o5 o6 o7 o8 o9 o10 o11 o12 : Option Value} {c : Option Value} {t : List (Option Value)} {x : Int32} (d : decode cc pc = .ok (.istore 13, 2)) (hp : nlg o12 = true) (hi : 13 < nL) (hn : pc + 2 = n) (K : Rn X nc ns n (o0 :: o1 :: o2 :: o3 :: o4 :: o5 :: o6 :: o7 :: o8 :: o9 :: o10 :: o11 :: o12 :: some (.int x) :: t) st L h) : Rn X nc ns pc (o0 :: o1 :: o2 :: o3 :: o4 :: o5 :: o6 :: o7 :: o8 :: o9 :: o10 :: o11 :: o12 :: c :: t) (.int x :: st) L h := by
  subst hn
  intro H locs ls hP hD hS hl
  exact lv_istore C.1 C.2.1 d hl.list (by rw [C.2.2.1]; exact hi) rfl (fun ls' hl' => K H locs ls' hP hD hS (lvH.set1 hl' (nlg_ok hp (fun j hj => by cases hj; rfl))))
theorem R_al13 (C : Ok X cc own nL fr mc ms) {o0 o1 o2 o3 o4 o5 o6 o7 o8 o9 o10 o11 o12 : Option Value} {t : List (Option Value)} {x : Nat} (d : decode cc pc = .ok (.aload 13, 2)) (hn : pc + 2 = n) (K : Rn X nc ns n (o0 :: o1 :: o2 :: o3 :: o4 :: o5 :: o6 :: o7 :: o8 :: o9 :: o10 :: o11 :: o12 :: some (.ref x) :: t) (.ref x :: st) L h) : Rn X nc ns pc (o0 :: o1 :: o2 :: o3 :: o4 :: o5 :: o6 :: o7 :: o8 :: o9 :: o10 :: o11 :: o12 :: some (.ref x) :: t) st L h := by
  subst hn
  intro H locs ls hP hD hS hl
  exact lv_aload C.1 C.2.1 d (hl.2.2 13 _ rfl) (K H locs ls hP hD hS hl)
theorem R_as13 (C : Ok X cc own nL fr mc ms) {o0 o1 o2 o3 o4 o5 o6 o7 o8 o9 o10 o11 o12 : Option Value} {c : Option Value} {t : List (Option Value)} {x : Nat} (d : decode cc pc = .ok (.astore 13, 2)) (hp : nlg o12 = true) (hi : 13 < nL) (hn : pc + 2 = n) (K : Rn X nc ns n (o0 :: o1 :: o2 :: o3 :: o4 :: o5 :: o6 :: o7 :: o8 :: o9 :: o10 :: o11 :: o12 :: some (.ref x) :: t) st L h) : Rn X nc ns pc (o0 :: o1 :: o2 :: o3 :: o4 :: o5 :: o6 :: o7 :: o8 :: o9 :: o10 :: o11 :: o12 :: c :: t) (.ref x :: st) L h := by
  subst hn
  intro H locs ls hP hD hS hl
  exact lv_astore C.1 C.2.1 d hl.list (by rw [C.2.2.1]; exact hi) rfl (fun ls' hl' => K H locs ls' hP hD hS (lvH.set1 hl' (nlg_ok hp (fun j hj => by cases hj; rfl))))
theorem R_ll13 (C : Ok X cc own nL fr mc ms) {o0 o1 o2 o3 o4 o5 o6 o7 o8 o9 o10 o11 o12 : Option Value} {t : List (Option Value)} {x : Int64} (d : decode cc pc = .ok (.lload 13, 2)) (hn : pc + 2 = n) (K : Rn X nc ns n (o0 :: o1 :: o2 :: o3 :: o4 :: o5 :: o6 :: o7 :: o8 :: o9 :: o10 :: o11 :: o12 :: some (.long x) :: t) (.long x :: st) L h) : Rn X nc ns pc (o0 :: o1 :: o2 :: o3 :: o4 :: o5 :: o6 :: o7 :: o8 :: o9 :: o10 :: o11 :: o12 :: some (.long x) :: t) st L h := by
  subst hn
  intro H locs ls hP hD hS hl
  exact lv_lload C.1 C.2.1 d (hl.2.2 13 _ rfl) (K H locs ls hP hD hS hl)
theorem R_inc13 (C : Ok X cc own nL fr mc ms) {o0 o1 o2 o3 o4 o5 o6 o7 o8 o9 o10 o11 o12 : Option Value} {t : List (Option Value)} {c : Int} {x v : Int32} (d : decode cc pc = .ok (.iinc 13 c, 3)) (hp : nlg o12 = true) (hi : 13 < nL) (hv : x + Int32.ofInt c = v) (hn : pc + 3 = n) (K : Rn X nc ns n (o0 :: o1 :: o2 :: o3 :: o4 :: o5 :: o6 :: o7 :: o8 :: o9 :: o10 :: o11 :: o12 :: some (.int v) :: t) st L h) : Rn X nc ns pc (o0 :: o1 :: o2 :: o3 :: o4 :: o5 :: o6 :: o7 :: o8 :: o9 :: o10 :: o11 :: o12 :: some (.int x) :: t) st L h := by
  subst hn
  intro H locs ls hP hD hS hl
  obtain ⟨k, hk⟩ := List.getElem?_of_mem (toL_mem.mpr (show (o0 :: o1 :: o2 :: o3 :: o4 :: o5 :: o6 :: o7 :: o8 :: o9 :: o10 :: o11 :: o12 :: some (.int x) :: t)[13]? = some (some (Value.int x)) from rfl))
  exact lv_iinc C.1 C.2.1 d hl.list hk hv (by rw [C.2.2.1]; exact hi) rfl (fun ls' hl' => K H locs ls' hP hD hS (lvH.set1 hl' (nlg_ok hp (fun j hj => by cases hj; rfl))))
theorem R_forg13 {o0 o1 o2 o3 o4 o5 o6 o7 o8 o9 o10 o11 o12 : Option Value} {c : Option Value} {t : List (Option Value)} (K : Rn X nc ns pc (o0 :: o1 :: o2 :: o3 :: o4 :: o5 :: o6 :: o7 :: o8 :: o9 :: o10 :: o11 :: o12 :: none :: t) st L h) : Rn X nc ns pc (o0 :: o1 :: o2 :: o3 :: o4 :: o5 :: o6 :: o7 :: o8 :: o9 :: o10 :: o11 :: o12 :: c :: t) st L h := by
  refine R_weak (fun j v q => ?_) K
  rcases Nat.lt_trichotomy j 13 with e | e | e
  · match j, e, q with
    | 0, _, q => exact q
    | 1, _, q => exact q
    | 2, _, q => exact q
    | 3, _, q => exact q
    | 4, _, q => exact q
    | 5, _, q => exact q
    | 6, _, q => exact q
    | 7, _, q => exact q
    | 8, _, q => exact q
    | 9, _, q => exact q
    | 10, _, q => exact q
    | 11, _, q => exact q
    | 12, _, q => exact q
  · subst e; cases q
  · obtain ⟨k, rfl⟩ : ∃ k, j = 13 + 1 + k := ⟨j - 14, by omega⟩
    rw [show 13 + 1 + k = k + 14 by omega] at q ⊢
    exact q
end Rules
end
section
/-! rules for the heap: fields, arrays, what is made -/
def tyXX (ci : Nat) : Nat → FieldType := match ci with
  | 0 => tyX0
  | 1 => tyX1
  | 2 => tyX2
  | 3 => tyX3
  | 4 => tyX4
  | 5 => tyX5
  | 6 => tyX6
  | 7 => tyX7
  | 8 => tyX8
  | 9 => tyX9
  | 10 => tyX10
  | _ => tyX11
def inTabs (q : vw_C) : Prop := ∀ w ∈ u_ws q.1 q.2.1 q.2.2, w ∈ lw_tbl ∧ goodWord w = true
theorem inT0 : inTabs (RX0, TX0, 2) := by unfold inTabs; decide +kernel
theorem inT1 : inTabs (RX1, TX1, 4) := by unfold inTabs; decide +kernel
theorem inT2 : inTabs (RX2, TX2, 7) := by unfold inTabs; decide +kernel
theorem inT3 : inTabs (RX3, TX3, 4) := by unfold inTabs; decide +kernel
theorem inT4 : inTabs (RX4, TX4, 2) := by unfold inTabs; decide +kernel
theorem inT5 : inTabs (RX5, TX5, 5) := by unfold inTabs; decide +kernel
theorem inT6 : inTabs (RX6, TX6, 5) := by unfold inTabs; decide +kernel
theorem inT7 : inTabs (RX7, TX7, 2) := by unfold inTabs; decide +kernel
theorem inT8 : inTabs (RX8, TX8, 3) := by unfold inTabs; decide +kernel
theorem inT9 : inTabs (RX9, TX9, 12) := by unfold inTabs; decide +kernel
theorem inT10 : inTabs (RX10, TX10, 11) := by unfold inTabs; decide +kernel
theorem inT11 : inTabs (RX11, TX11, 41) := by unfold inTabs; decide +kernel
def ClOk (ci : Nat) (q : vw_C) : Prop := inTabs q ∧ (∀ k, k < q.2.2 → parseFieldDescriptor (q.2.1 k).2.2.1 = some (tyXX ci k)) ∧ (∀ a, a < q.2.2 → ∀ b, b < q.2.2 → a ≠ b → (q.2.1 a).2.1 ≠ (q.2.1 b).2.1)
theorem clOk : ∀ (ci : Nat) (q : vw_C), vwCl[ci]? = some q → ClOk ci q
  | 0, q, hq => by cases hq; exact ⟨inT0, tyX0_ok, nmX0⟩
  | 1, q, hq => by cases hq; exact ⟨inT1, tyX1_ok, nmX1⟩
  | 2, q, hq => by cases hq; exact ⟨inT2, tyX2_ok, nmX2⟩
  | 3, q, hq => by cases hq; exact ⟨inT3, tyX3_ok, nmX3⟩
  | 4, q, hq => by cases hq; exact ⟨inT4, tyX4_ok, nmX4⟩
  | 5, q, hq => by cases hq; exact ⟨inT5, tyX5_ok, nmX5⟩
  | 6, q, hq => by cases hq; exact ⟨inT6, tyX6_ok, nmX6⟩
  | 7, q, hq => by cases hq; exact ⟨inT7, tyX7_ok, nmX7⟩
  | 8, q, hq => by cases hq; exact ⟨inT8, tyX8_ok, nmX8⟩
  | 9, q, hq => by cases hq; exact ⟨inT9, tyX9_ok, nmX9⟩
  | 10, q, hq => by cases hq; exact ⟨inT10, tyX10_ok, nmX10⟩
  | 11, q, hq => by cases hq; exact ⟨inT11, tyX11_ok, nmX11⟩
  | n + 12, q, hq => by simp [vwCl] at hq
theorem ClOk.words {ci : Nat} {q : vw_C} (h : ClOk ci q) : ∀ w ∈ u_ws q.1 q.2.1 q.2.2, w ∈ lwG := fun w hw => List.mem_filter.mpr (h.1 w hw)
/-- own's pool entry idx is field k of class ci -/
def FL (own : String) (idx ci k : Nat) : Prop := ∃ q : vw_C, vwCl[ci]? = some q ∧ k < q.2.2 ∧ Cond.fieldLink own idx (q.2.1 k).1 (q.2.1 k).2.1 (q.2.1 k).2.2.1 ∈ lwG
theorem FL.mk {own : String} {idx ci k : Nat} {q : vw_C} (i : Nat) (hq : vwCl[ci]? = some q) (hk : k < q.2.2) (h : lw_tbl[i]? = some (Cond.fieldLink own idx (q.2.1 k).1 (q.2.1 k).2.1 (q.2.1 k).2.2.1)) : FL own idx ci k := ⟨q, hq, hk, mG i h rfl⟩
def isFin (ci k : Nat) : Bool := match vwCl[ci]? with
  | some q => (q.2.1 k).2.2.2
  | none => false
section Heap5
variable {X : RX} {cc : ByteArray} {own : String} {nL fr mc ms nc ns pc n : Nat} {lv : List (Option Value)} {st : List Value} {L : Ly} {h : Hp}
theorem G_getI (C : Ok X cc own nL fr mc ms) {q idx ci k : Nat} {fs : List FdT} {v : Int32} (a : Nat) (fl : FL own idx ci k) (d : decode cc pc = .ok (.getfield idx, 3)) (hL : L[a]? = some (q, .inl (ci, fs))) (hf : fs[k]? = some none) (hv : h a k = v) (hn : pc + 3 = n) (K : Rn X nc ns n lv (.int v :: st) L h) : Rn X nc ns pc lv (.ref q :: st) L h := by
  subst hn
  subst hv
  intro H locs ls hP hD hS hl
  obtain ⟨r, hr, hk, hlk⟩ := fl
  have hc := clOk ci r hr
  exact va_get (D := xD X) (C := r.1) (T := r.2.1) (N := r.2.2) C.1 C.2.1 C.2.2.2.2.1 hc.words C.2.2.2.1 C.2.2.2.2.2.1.1 hP a (cel_at hL) hr k hk (C.2.2.2.2.1 _ hlk) (fun _ h9 => h9) (by rw [List.getElem?_mapIdx, hf]; rfl) d (K H locs ls hP hD hS hl)
theorem G_getR (C : Ok X cc own nL fr mc ms) {q idx ci k r0 : Nat} {fs : List FdT} (a : Nat) (fl : FL own idx ci k) (d : decode cc pc = .ok (.getfield idx, 3)) (hL : L[a]? = some (q, .inl (ci, fs))) (hf : fs[k]? = some (some (some r0))) (hn : pc + 3 = n) (K : Rn X nc ns n lv (.ref r0 :: st) L h) : Rn X nc ns pc lv (.ref q :: st) L h := by
  subst hn
  intro H locs ls hP hD hS hl
  obtain ⟨r, hr, hk, hlk⟩ := fl
  have hc := clOk ci r hr
  exact va_get (D := xD X) (v := .ref r0) (C := r.1) (T := r.2.1) (N := r.2.2) C.1 C.2.1 C.2.2.2.2.1 hc.words C.2.2.2.1 C.2.2.2.2.2.1.1 hP a (cel_at hL) hr k hk (C.2.2.2.2.1 _ hlk) (fun _ h9 => h9) (by rw [List.getElem?_mapIdx, hf]; rfl) d (K H locs ls hP hD hS hl)
theorem G_putW (C : Ok X cc own nL fr mc ms) {q idx ci k : Nat} {fs : List FdT} {v : Int32} (a : Nat) (fl : FL own idx ci k) (hfin : isFin ci k = false) {ty : FieldType} (hty : tyXX ci k = ty) (hnr : narrow ty (.int v) = .int v) (hfit : fits ty (.int v) = true) (d : decode cc pc = .ok (.putfield idx, 3)) (hL : L[a]? = some (q, .inl (ci, fs))) (hf : fs[k]? = some none) (hn : pc + 3 = n) (K : Rn X nc ns n lv st L (up2 h a k v)) : Rn X nc ns pc lv (.int v :: .ref q :: st) L h := by
  subst hn
  intro H locs ls hP hD hS hl
  obtain ⟨r, hr, hk, hlk⟩ := fl
  have hc := clOk ci r hr
  have hfin' : (r.2.1 k).2.2.2 = false := by unfold isFin at hfin; rw [hr] at hfin; exact hfin
  have hlen : k < (fs.mapIdx (fdV (h a))).length := by rw [List.length_mapIdx]; exact (List.getElem?_eq_some_iff.mp hf).1
  refine va_put (D := xD X) (C := r.1) (T := r.2.1) (N := r.2.2) (ty := ty) C.1 C.2.1 C.2.2.2.2.1 hc.words (tyXX ci) hc.2.1 hc.2.2 C.2.2.2.1 C.2.2.2.2.2.1.1 hP hD hS a (cel_at hL) hr k hk (C.2.2.2.2.1 _ hlk) (fun _ h9 => h9) hfin' (by rw [← hty]; exact hc.2.1 k hk) hnr hfit hlen d (fun H1 locs1 hP1 hD1 hS1 => ?_)
  have e : (cel (xA X) L h).set a (q, .inr (ci, (fs.mapIdx (fdV (h a))).set k (.int v))) = cel (xA X) L (up2 h a k v) := cel_set hL (by rw [fd_set hf]; rfl)
  rw [e] at hP1 hD1
  exact K H1 locs1 ls hP1 hD1 hS1 hl
theorem G_putI (C : Ok X cc own nL fr mc ms) {q idx ci k : Nat} {fs : List FdT} {v : Int32} (a : Nat) (fl : FL own idx ci k) (hfin : isFin ci k = false) (hty : tyXX ci k = .int) (d : decode cc pc = .ok (.putfield idx, 3)) (hL : L[a]? = some (q, .inl (ci, fs))) (hf : fs[k]? = some none) (hn : pc + 3 = n) (K : Rn X nc ns n lv st L (up2 h a k v)) : Rn X nc ns pc lv (.int v :: .ref q :: st) L h :=
  G_putW C a fl hfin hty rfl rfl d hL hf hn K
theorem G_putZ (C : Ok X cc own nL fr mc ms) {q idx ci k : Nat} {fs : List FdT} {v : Int32} (a : Nat) (fl : FL own idx ci k) (hfin : isFin ci k = false) (hty : tyXX ci k = .boolean) (hv : v = 0 ∨ v = 1) (d : decode cc pc = .ok (.putfield idx, 3)) (hL : L[a]? = some (q, .inl (ci, fs))) (hf : fs[k]? = some none) (hn : pc + 3 = n) (K : Rn X nc ns n lv st L (up2 h a k v)) : Rn X nc ns pc lv (.int v :: .ref q :: st) L h :=
  G_putW C a fl hfin hty (by rcases hv with rfl | rfl <;> rfl) (by rcases hv with rfl | rfl <;> rfl) d hL hf hn K
theorem G_putF (C : Ok X cc own nL fr mc ms) (hin : (xM X).name = "<init>") {q idx ci k r0 : Nat} {fs : List FdT} {r : vw_C} (a : Nat) (fl : FL own idx ci k) (hr : vwCl[ci]? = some r) (hfin : (r.2.1 k).2.2.2 = true) (hdecl : (r.2.1 k).1 = own) {ty : FieldType} (hty : tyXX ci k = ty) (hnr : narrow ty (.ref r0) = .ref r0) (hfit : fits ty (.ref r0) = true) (d : decode cc pc = .ok (.putfield idx, 3)) (hL : L[a]? = some (q, .inl (ci, fs))) (hf : k < fs.length) (hn : pc + 3 = n) {L' : Ly} (hL' : L.set a (q, .inl (ci, fs.set k (some (some r0)))) = L') (K : Rn X nc ns n lv st L' h) : Rn X nc ns pc lv (.ref r0 :: .ref q :: st) L h := by
  subst hn
  subst hL'
  intro H locs ls hP hD hS hl
  obtain ⟨r2, hr2, hk, hlk⟩ := fl
  obtain rfl : r2 = r := Option.some.inj (hr2.symm.trans hr)
  have hc := clOk ci r2 hr
  have hlen : k < (fs.mapIdx (fdV (h a))).length := by rw [List.length_mapIdx]; exact hf
  refine va_putF (D := xD X) (C := r2.1) (T := r2.2.1) (N := r2.2.2) (ty := ty) C.1 C.2.1 C.2.2.2.2.1 hc.words (tyXX ci) hc.2.1 hc.2.2 C.2.2.2.1 C.2.2.2.2.2.1.1 hP hD hS a (cel_at hL) hr k hk (C.2.2.2.2.1 _ hlk) (fun _ h9 => h9) hfin hin hdecl (by rw [← hty]; exact hc.2.1 k hk) hnr hfit hlen d (fun H1 locs1 hP1 hD1 hS1 => ?_)
  have e : (cel (xA X) L h).set a (q, .inr (ci, (fs.mapIdx (fdV (h a))).set k (.ref r0))) = cel (xA X) (L.set a (q, .inl (ci, fs.set k (some (some r0))))) h := cel_setL hL (by rw [show (Value.ref r0) = va_rf (some r0) from rfl, fd_setR hf]; rfl)
  rw [e] at hP1 hD1
  exact K H1 locs1 ls hP1 hD1 hS1 hl
theorem G_iald (C : Ok X cc own nL fr mc ms) {q k len : Nat} {v : Int32} (a : Nat) (d : decode cc pc = .ok (.iaload, 1)) (hL : L[a]? = some (q, .inr (.inl (0, len)))) (h31 : len < 2 ^ 31) (hk : k < len) (hv : h a k = v) (hn : pc + 1 = n) (K : Rn X nc ns n lv (.int v :: st) L h) : Rn X nc ns pc lv (.int (nI k) :: .ref q :: st) L h := by
  subst hn
  subst hv
  intro H locs ls hP hD hS hl
  refine va_iald C.1 C.2.1 C.2.2.2.2.2.1.1 hP a 0 (cel_at hL) rfl (vp_in_nI hk h31) d ?_
  rw [nI_clamp (by omega)]
  exact K H locs ls hP hD hS hl
theorem G_iast (C : Ok X cc own nL fr mc ms) {q k len : Nat} {v : Int32} (a : Nat) (d : decode cc pc = .ok (.iastore, 1)) (hL : L[a]? = some (q, .inr (.inl (0, len)))) (h31 : len < 2 ^ 31) (hk : k < len) (hn : pc + 1 = n) (K : Rn X nc ns n lv st L (up2 h a k v)) : Rn X nc ns pc lv (.int v :: .int (nI k) :: .ref q :: st) L h := by
  subst hn
  intro H locs ls hP hD hS hl
  refine va_iast C.1 C.2.1 C.2.2.2.2.2.1.1 hP hD hS a 0 (cel_at hL) rfl (vp_in_nI hk h31) d (fun H1 locs1 hP1 hD1 hS1 => ?_)
  rw [nI_clamp (by omega)] at hP1 hD1
  have e : (cel (xA X) L h).set a (q, .inl (xA X 0, len, .inl (upd (h a) k v))) = cel (xA X) L (up2 h a k v) := cel_set hL rfl
  rw [e] at hP1 hD1
  exact K H1 locs1 ls hP1 hD1 hS1 hl
theorem G_zald (C : Ok X cc own nL fr mc ms) {q k len : Nat} {v : Int32} (a : Nat) (d : decode cc pc = .ok (.baload, 1)) (hL : L[a]? = some (q, .inr (.inl (1, len)))) (h31 : len < 2 ^ 31) (hk : k < len) (hv : h a k = v) (hn : pc + 1 = n) (K : Rn X nc ns n lv (.int v :: st) L h) : Rn X nc ns pc lv (.int (nI k) :: .ref q :: st) L h := by
  subst hn
  subst hv
  intro H locs ls hP hD hS hl
  refine va_zald C.1 C.2.1 C.2.2.2.2.2.1.1 hP a 1 (cel_at hL) rfl (vp_in_nI hk h31) d ?_
  rw [nI_clamp (by omega)]
  exact K H locs ls hP hD hS hl
theorem G_zast (C : Ok X cc own nL fr mc ms) {q k len : Nat} {v : Int32} (a : Nat) (hv : v = 0 ∨ v = 1) (d : decode cc pc = .ok (.bastore, 1)) (hL : L[a]? = some (q, .inr (.inl (1, len)))) (h31 : len < 2 ^ 31) (hk : k < len) (hn : pc + 1 = n) (K : Rn X nc ns n lv st L (up2 h a k v)) : Rn X nc ns pc lv (.int v :: .int (nI k) :: .ref q :: st) L h := by
  subst hn
  intro H locs ls hP hD hS hl
  refine va_zast C.1 C.2.1 C.2.2.2.2.2.1.1 hP hD hS a 1 (cel_at hL) rfl (vp_in_nI hk h31) d (fun H1 locs1 hP1 hD1 hS1 => ?_)
  rw [nI_clamp (by omega), show vp_nar .boolean v = v from by rcases hv with rfl | rfl <;> rfl] at hP1 hD1
  have e : (cel (xA X) L h).set a (q, .inl (xA X 1, len, .inl (upd (h a) k v))) = cel (xA X) L (up2 h a k v) := cel_set hL rfl
  rw [e] at hP1 hD1
  exact K H1 locs1 ls hP1 hD1 hS1 hl
theorem G_aald (C : Ok X cc own nL fr mc ms) {q k r0 : Nat} {rs : List (Option Nat)} (a : Nat) (d : decode cc pc = .ok (.aaload, 1)) (hL : L[a]? = some (q, .inr (.inr (2, rs)))) (h31 : rs.length < 2 ^ 31) (hk : rs[k]? = some (some r0)) (hn : pc + 1 = n) (K : Rn X nc ns n lv (.ref r0 :: st) L h) : Rn X nc ns pc lv (.int (nI k) :: .ref q :: st) L h := by
  subst hn
  intro H locs ls hP hD hS hl
  have hk' := (List.getElem?_eq_some_iff.mp hk).1
  refine va_aldq C.1 C.2.1 C.2.2.2.2.2.1.1 hP a 2 (cel_at hL) rfl (vp_in_nI hk' h31) d ?_
  rw [nI_clamp (by omega), List.getD_eq_getElem?_getD, hk]
  exact K H locs ls hP hD hS hl
theorem G_aaldA (C : Ok X cc own nL fr mc ms) {q k r0 : Nat} {rs : List (Option Nat)} (a : Nat) (d : decode cc pc = .ok (.aaload, 1)) (hL : L[a]? = some (q, .inr (.inr (3, rs)))) (h31 : rs.length < 2 ^ 31) (hk : rs[k]? = some (some r0)) (hn : pc + 1 = n) (K : Rn X nc ns n lv (.ref r0 :: st) L h) : Rn X nc ns pc lv (.int (nI k) :: .ref q :: st) L h := by
  subst hn
  intro H locs ls hP hD hS hl
  have hk' := (List.getElem?_eq_some_iff.mp hk).1
  have hlt : (nI k).toNatClampNeg < rs.length := by rw [nI_clamp (by omega)]; exact hk'
  have hin := vp_in_nI hk' h31
  refine W.aald (v := va_rf (rs.getD (nI k).toNatClampNeg none)) (ty := .array .int) C.1 C.2.1 (hP a _ (cel_at hL)) ((C.2.2.2.2.2.1.1.2 3 _ rfl).1 rs.length (fun j => va_rf (rs.getD j none))) rfl (fun q => by cases q) (by show ¬ (nI k < 0 ∨ (arrV _ _ _).slots.size ≤ _); rw [arrV_size]; exact hin) (by show (arrV _ _ _).slots[_]? = _; rw [arrV_read _ _ hlt]) rfl rfl d ?_
  rw [nI_clamp (by omega), List.getD_eq_getElem?_getD, hk]
  exact K H locs ls hP hD hS hl
theorem G_aast (C : Ok X cc own nL fr mc ms) {q k r0 : Nat} {rs : List (Option Nat)} {fs : List FdT} (a b : Nat) (d : decode cc pc = .ok (.aastore, 1)) (hL : L[a]? = some (q, .inr (.inr (2, rs)))) (hV : L[b]? = some (r0, .inl (9, fs))) (h31 : rs.length < 2 ^ 31) (hk : k < rs.length) (hn : pc + 1 = n) {L' : Ly} (hL' : L.set a (q, .inr (.inr (2, rs.set k (some r0)))) = L') (K : Rn X nc ns n lv st L' h) : Rn X nc ns pc lv (.ref r0 :: .int (nI k) :: .ref q :: st) L h := by
  subst hn
  subst hL'
  intro H locs ls hP hD hS hl
  refine va_astq C.1 C.2.1 C.2.2.2.2.2.1.1 hP hD hS a 2 b 9 (cel_at hL) (r := (RX9, TX9, 12)) rfl (cel_at hV) rfl (vp_in_nI hk h31) d (fun H1 locs1 hP1 hD1 hS1 => ?_)
  rw [nI_clamp (by omega)] at hP1 hD1
  have e : (cel (xA X) L h).set a (q, .inl (xA X 2, rs.length, .inr (.inr (.inr (.inr (va_up (fun j => rs.getD j none) k (some r0))))))) = cel (xA X) (L.set a (q, .inr (.inr (2, rs.set k (some r0))))) h := by
    refine cel_setL hL ?_
    unfold shE
    simp only [List.length_set]
    congr 7
    funext j
    by_cases hj : j = k
    · subst hj
      simp [va_up, List.getD_eq_getElem?_getD, List.getElem?_set_self hk]
    · simp [va_up, hj, List.getD_eq_getElem?_getD, List.getElem?_set_ne (Ne.symm hj)]
  rw [e] at hP1 hD1
  exact K H1 locs1 ls hP1 hD1 hS1 hl
theorem G_alen (C : Ok X cc own nL fr mc ms) {q len : Nat} (a : Nat) (d : decode cc pc = .ok (.arraylength, 1)) (hL : L[a]? = some (q, .inr (.inl (0, len)))) (hn : pc + 1 = n) (K : Rn X nc ns n lv (.int (nI len) :: st) L h) : Rn X nc ns pc lv (.ref q :: st) L h := by
  subst hn
  intro H locs ls hP hD hS hl
  exact va_alen C.1 C.2.1 C.2.2.2.2.2.1.1 hP a 0 (cel_at hL) (ty := .int) rfl rfl d (K H locs ls hP hD hS hl)
def cpL (idx : Nat) (own : String) : Prop := Cond.methodLink own idx arraycopyName ∈ lwG ∧ Cond.native arraycopyName ∈ lwG ∧ Cond.static arraycopyName ∈ lwG ∧ Cond.initialized "java/lang/System" ∈ lwG
theorem G_copy (C : Ok X cc own nL fr mc ms) {idx q0 q1 n0 n1 sp dp m : Nat} (a0 a1 : Nat) (cl : cpL idx own) (d : decode cc pc = .ok (.invokestatic idx, 3)) (h0 : L[a0]? = some (q0, .inr (.inl (0, n0)))) (h1 : L[a1]? = some (q1, .inr (.inl (0, n1)))) (hb0 : sp + m ≤ n0) (hb1 : dp + m ≤ n1) (h31 : n0 < 2 ^ 31) (h32 : n1 < 2 ^ 31) (hst : (st.map fun v => v.category).sum ≤ 8) (hfr : 1 ≤ fr) (hn : pc + 3 = n) (K : Rn X nc ns n lv st L (va_up h a1 (va_cpy (h a0) (h a1) sp dp m))) : Rn X nc ns pc lv (.int (nI m) :: .int (nI dp) :: .ref q1 :: .int (nI sp) :: .ref q0 :: st) L h := by
  subst hn
  intro H locs ls hP hD hS hl
  obtain ⟨c1, c2, c3, c4⟩ := cl
  have hw : nativeFrameWords "java/lang/System" "arraycopy" 5 + 11 ≤ 56 := by decide +kernel
  refine va_copyi C.1 C.2.1 hl.1.symm C.2.2.2.1 (C.2.2.2.2.1 _ c1) (C.2.2.2.2.1 _ c2) (C.2.2.2.2.1 _ c3) (C.2.2.2.2.1 _ c4) C.2.2.2.2.2.1.1 hP hD hS a0 a1 0 0 (cel_at h0) (cel_at h1) rfl rfl rfl (nI_pos (by omega)) (nI_pos (by omega)) (nI_pos (by omega)) (by rw [nI_clamp (by omega), nI_clamp (by omega)]; exact hb0) (by rw [nI_clamp (by omega), nI_clamp (by omega)]; exact hb1) (fun _ _ => rfl) (Nat.le_trans hfr C.2.2.2.2.2.2.2.2.1) (by have := C.2.2.2.2.2.2.2.2.2.2.2; omega) d (fun H1 locs1 hP1 hD1 hS1 => ?_)
  rw [nI_clamp (by omega), nI_clamp (by omega), nI_clamp (by omega)] at hP1 hD1
  have e : (cel (xA X) L h).set a1 (q1, .inl (xA X 0, n1, .inl (va_cpy (h a0) (h a1) sp dp m))) = cel (xA X) L (va_up h a1 (va_cpy (h a0) (h a1) sp dp m)) := cel_set h1 rfl
  rw [e] at hP1 hD1
  exact K H1 locs1 ls hP1 hD1 hS1 hl
end Heap5
end
section
/-! contracts over the whole world; calls, returns -/
def cnP (D : va_G) (cA : Nat → ClassId) (args : List Value) (L : Ly) (h : Hp) (sz : Nat) : Array Value → State → Prop := va_Pc args (fun U => U.heap.size = sz ∧ va_P D vwCl (cel cA L h) U.heap ∧ K9 D cA U ∧ va_D (fun _ => True) (cel cA L h))
def cnQ (D : va_G) (cA : Nat → ClassId) (L : Ly) (h : Hp) (sz : Nat) (post : Option Value → Ly → Hp → Prop) : Array Value → State → Outcome → State → Prop := fun _ st oc t =>
  (∃ (r : Option Value) (L' : Ly) (h' : Hp), oc = .returned r ∧ post r L' h' ∧ va_P D vwCl (cel cA L' h') t.heap ∧ va_D (va_A (cel cA L h) sz) (cel cA L' h')) ∧ va_F (va_A (cel cA L h) sz) st t
abbrev rmO (fr mc ms : Nat) : Room := { frames := fr, cells := mc, slots := ms, locals := 64 * fr }
def Cn (l : Launch) (D : va_G) (cA : Nat → ClassId) (y : MethodName) (cc : ByteArray) (mL : Nat) (ret : Option FieldType) (fr mc ms : Nat) (args : List Value) (L : Ly) (h : Hp) (post : Option Value → Ly → Hp → Prop) : Prop :=
  ∀ sz : Nat, Met l y (.code y cc mL ret :: lwG) (rmO fr mc ms) (cnP D cA args L h sz) (cnQ D cA L h sz post) mc ms (va_A (cel cA L h) sz)
def lvA : List Value → List (Option Value)
  | [] => []
  | v :: t => if v.category = 2 then some v :: none :: lvA t else some v :: lvA t
def lvE (args : List Value) (n : Nat) : List (Option Value) := lvA args ++ List.replicate (n - (lvA args).length) none
theorem lvA_mem : ∀ (args : List Value) (i0 i : Nat) (v : Value), (lvA args)[i]? = some (some v) → (i0 + i, v) ∈ lv_args i0 args
  | [], i0, i, v, h => by simp [lvA] at h
  | w :: t, i0, i, v, h => by
    unfold lvA at h
    unfold lv_args
    by_cases hc : w.category = 2
    · rw [if_pos hc] at h
      rw [if_pos hc]
      match i, h with
      | 0, h =>
        simp at h
        subst h
        exact List.mem_cons_self
      | 1, h => simp at h
      | i + 2, h =>
        have := lvA_mem t (i0 + 2) i v (by simpa using h)
        rw [show i0 + 2 + i = i0 + (i + 2) by omega] at this
        exact List.mem_cons_of_mem _ this
    · rw [if_neg hc] at h
      rw [if_neg hc]
      match i, h with
      | 0, h =>
        simp at h
        subst h
        exact List.mem_cons_self
      | i + 1, h =>
        have := lvA_mem t (i0 + 1) i v (by simpa using h)
        rw [show i0 + 1 + i = i0 + (i + 1) by omega] at this
        exact List.mem_cons_of_mem _ this
theorem lvE_mem {args : List Value} {n i : Nat} {v : Value} (h : (lvE args n)[i]? = some (some v)) : (i, v) ∈ lv_args 0 args := by
  unfold lvE at h
  by_cases hl : i < (lvA args).length
  · rw [List.getElem?_append_left hl] at h
    have := lvA_mem args 0 i v h
    rwa [Nat.zero_add] at this
  · rw [List.getElem?_append_right (by omega), List.getElem?_replicate] at h
    split at h <;> simp at h
def OkR (X : RX) (ret : Option FieldType) (mc ms : Nat) (post : Option Value → Ly → Hp → Prop) : Prop :=
  ∃ (L0 : Ly) (h0 : Hp) (sz : Nat), xZ X = MQ (xb X) (cnQ (xD X) (xA X) L0 h0 sz post) (xa X) (xs X) mc ms (va_A (cel (xA X) L0 h0) sz) ∧ xF X = va_A (cel (xA X) L0 h0) sz ∧ (xM X).sig.returnType = ret
theorem Cn.of {l : Launch} {D : va_G} {cA : Nat → ClassId} {y : MethodName} {cc : ByteArray} {mL : Nat} {ret : Option FieldType} {fr mc ms : Nat} {args : List Value} {L : Ly} {h : Hp} {post : Option Value → Ly → Hp → Prop} {lv : List (Option Value)}
    (hy : plainName y.cls = true) (hlen : (lg_sl args).length ≤ mL) (hlv : lvE args mL = lv)
    (body : ∀ X : RX, (xM X).name = y.name → Ok X cc y.cls mL fr mc ms → OkR X ret mc ms post → Rn X 0 0 0 lv [] L h) : Cn l D cA y cc mL ret fr mc ms args L h post := by
  intro sz
  refine Met.ofW (cc := cc) (maxL := mL) (ret := ret) hy rfl ?_
  intro p e s m args2 below meth c s₁ B hml hv
  obtain ⟨rfl, hsz, hP, hK, hD0⟩ := hv
  subst hsz
  have hD := hD0.self (sz := s.heap.size)
  have hts := atoms_spec (ws := .code y cc mL ret :: lwG) B.pre
  have hl := lv_entry args (n := mL) hlen
  have b := body (p, l, e, rmO fr mc ms, s, m, args.toArray, below, meth, c, D, cA, va_A (cel cA L h) s.heap.size, MQ below (cnQ D cA L h s.heap.size post) args.toArray s mc ms (va_A (cel cA L h) s.heap.size), fun n => n)
    (name_of_methodNamed B.named B.method).1
    ⟨B.exec, B.bytes, hml, findClass_of_methodNamed B.named, fun w hw => hts w (List.mem_cons_of_mem _ hw), hK, fun q hq => Or.inr hq, B.notSynchronized, Nat.le_refl _, Nat.le_refl _, Nat.le_refl _, Nat.le_refl _⟩
    ⟨L, h, s.heap.size, rfl, rfl, B.returns⟩
  rw [lg_entry_eq]
  refine b s.heap [] _ hP hD va_S.rf ⟨?_, hl.2.1, fun i v hi => ?_⟩
  · exact hl.1.trans hml.symm
  · rw [← hlv] at hi
    exact hl.2.2 (i, v) (lvE_mem hi)
section Calls6
variable {X : RX} {cc : ByteArray} {own : String} {nL fr mc ms nc ns pc n : Nat} {lv : List (Option Value)} {st : List Value} {L : Ly} {h : Hp}
theorem R_iret (C : Ok X cc own nL fr mc ms) {mc' ms' : Nat} {post : Option Value → Ly → Hp → Prop} {v : Int32} (CR : OkR X (some .int) mc' ms' post) (h1 : nc ≤ mc') (h2 : ns ≤ ms') (d : decode cc pc = .ok (.ireturn, 1)) (hp : post (some (.int v)) L h) : Rn X nc ns pc lv [.int v] L h := by
  intro H locs ls hP hD hS hl
  obtain ⟨L0, h0, sz, hZ, hF, hr⟩ := CR
  rw [hZ]
  rw [hF] at hD hS
  refine W.widen h1 h2 ?_
  exact W.iret C.1 C.2.1 hr (fun t ht hW => ⟨⟨_, L, h, rfl, hp, by rw [ht]; exact hP, hD⟩, hS.F ht⟩) hS.2.2 d C.2.2.2.2.2.2.2.1
theorem R_zret (C : Ok X cc own nL fr mc ms) {mc' ms' : Nat} {post : Option Value → Ly → Hp → Prop} {v : Int32} (CR : OkR X (some .boolean) mc' ms' post) (hv : v = 0 ∨ v = 1) (h1 : nc ≤ mc') (h2 : ns ≤ ms') (d : decode cc pc = .ok (.ireturn, 1)) (hp : post (some (.int v)) L h) : Rn X nc ns pc lv [.int v] L h := by
  intro H locs ls hP hD hS hl
  obtain ⟨L0, h0, sz, hZ, hF, hr⟩ := CR
  rw [hZ]
  rw [hF] at hD hS
  refine W.widen h1 h2 ?_
  exact W.zret C.1 C.2.1 hr (by rcases hv with rfl | rfl <;> rfl) (fun t ht hW => ⟨⟨_, L, h, rfl, hp, by rw [ht]; exact hP, hD⟩, hS.F ht⟩) hS.2.2 d C.2.2.2.2.2.2.2.1
theorem R_vret (C : Ok X cc own nL fr mc ms) {mc' ms' : Nat} {post : Option Value → Ly → Hp → Prop} (CR : OkR X none mc' ms' post) (h1 : nc ≤ mc') (h2 : ns ≤ ms') (d : decode cc pc = .ok (.return_, 1)) (hp : post none L h) : Rn X nc ns pc lv [] L h := by
  intro H locs ls hP hD hS hl
  obtain ⟨L0, h0, sz, hZ, hF, hr⟩ := CR
  rw [hZ]
  rw [hF] at hD hS
  refine W.widen h1 h2 ?_
  exact W.vret C.1 C.2.1 hr (fun t ht hW => ⟨⟨_, L, h, rfl, hp, by rw [ht]; exact hP, hD⟩, hS.F ht⟩) hS.2.2 d C.2.2.2.2.2.2.2.1
theorem R_lret (C : Ok X cc own nL fr mc ms) {mc' ms' : Nat} {post : Option Value → Ly → Hp → Prop} {v : Int64} (CR : OkR X (some .long) mc' ms' post) (h1 : nc ≤ mc') (h2 : ns ≤ ms') (d : decode cc pc = .ok (.lreturn, 1)) (hp : post (some (.long v)) L h) : Rn X nc ns pc lv [.long v] L h := by
  intro H locs ls hP hD hS hl
  obtain ⟨L0, h0, sz, hZ, hF, hr⟩ := CR
  rw [hZ]
  rw [hF] at hD hS
  refine W.widen h1 h2 ?_
  exact W.lret C.1 C.2.1 hr (fun t ht hW => ⟨⟨_, L, h, rfl, hp, by rw [ht]; exact hP, hD⟩, hS.F ht⟩) hS.2.2 d C.2.2.2.2.2.2.2.1
theorem R_aret (C : Ok X cc own nL fr mc ms) {mc' ms' : Nat} {post : Option Value → Ly → Hp → Prop} {q : Nat} (CR : OkR X (some (.array .int)) mc' ms' post) (h1 : nc ≤ mc') (h2 : ns ≤ ms') (d : decode cc pc = .ok (.areturn, 1)) (hp : post (some (.ref q)) L h) : Rn X nc ns pc lv [.ref q] L h := by
  intro H locs ls hP hD hS hl
  obtain ⟨L0, h0, sz, hZ, hF, hr⟩ := CR
  rw [hZ]
  rw [hF] at hD hS
  refine W.widen h1 h2 ?_
  exact W.aret C.1 C.2.1 hr (Or.inr ⟨_, rfl⟩) (Or.inr ⟨_, rfl⟩) (fun t ht hW => ⟨⟨_, L, h, rfl, hp, by rw [ht]; exact hP, hD⟩, hS.F ht⟩) hS.2.2 d C.2.2.2.2.2.2.2.1
theorem R_run (C : Ok X cc own nL fr mc ms) {mc1 ms1 : Nat} {st0 rest : List Value} {post : Option Value → Ly → Hp → Prop} {a : Array Value}
    (hr : ∀ (H : Heap) (locs : List Loc) (ls : Array Slot), va_P (xD X) vwCl (cel (xA X) L h) H → va_D (xF X) (cel (xA X) L h) → lvH ls (xc X).maxLocals lv → va_Run (xp X) (xl X) (xe X) (xR X) (xs X) (xm X) (xa X) (xb X) (xM X) (xc X) H locs nc ns mc1 ms1 (F0 (xm X) pc ls st0) rest (cnQ (xD X) (xA X) L h H.size post a) (va_A (cel (xA X) L h) H.size))
    (hn : pc + 3 = n) (K : ∀ (r : Option Value) (L' : Ly) (h' : Hp), post r L' h' → Rn X (nc + mc1) (ns + ms1) n lv (r.toList ++ rest) L' h') : Rn X nc ns pc lv st0 L h := by
  subst hn
  intro H locs ls hP hD hS hl T hT Xs
  obtain ⟨v, st₀, t, T', L1, h0, X', hL1, e1, e2, ⟨⟨r, L', h', hv, hp, hP', hD'⟩, hz, hk⟩, stp⟩ := hr H locs ls hP hD hl T hT Xs
  cases hv
  rw [h0] at hz hk
  have hF : ∀ q, va_A (cel (xA X) L h) H.size q → xF X q := fun q hq => by
    rcases hq with ⟨k, e, hk⟩ | hq
    · exact hD.2 k (q, e) hk
    · exact C.2.2.2.2.2.2.1 q (Nat.le_trans hS.1 hq)
  obtain ⟨t2, a1, b1⟩ := K v L' h' hp T'.heap (locs ++ L1) ls (by rw [e1]; exact hP') (hD'.weaken (fun _ _ _ hh => hF _ hh))
    ⟨Nat.le_trans hS.1 (by rw [e1]; exact hz), fun q h1 h2 => by rw [e1, hk q (Nat.lt_of_lt_of_le h1 hS.1) (fun z => h2 (hF q z))]; exact hS.2.1 q h1 h2, fun q hq => by
      rcases List.mem_append.mp hq with h | h
      · exact hS.2.2 q h
      · exact hF _ (hL1 q h)⟩ hl T' rfl X'
  exact ⟨t2, stp t2 a1, b1⟩
/-- a method's words -/
def MW (y : MethodName) (b : ByteArray) (mL : Nat) (ret : Option FieldType) (np : Nat) : Prop := Cond.code y b mL ret ∈ lwG ∧ Cond.initialized y.cls ∈ lwG ∧ y.cls ≠ "java/lang/invoke/MethodHandle" ∧ y.cls ≠ "java/lang/invoke/VarHandle" ∧ (parseMethodDescriptor y.desc).map (fun d => d.parameters.length) = some np
theorem cnP_blind {D : va_G} {cA : Nat → ClassId} {args : List Value} {h : Hp} {sz : Nat} : FrameBlind (cnP D cA args L h sz) := by
  intro a U g mk q
  obtain ⟨q0, q1, qP, qK, qD⟩ := q
  exact ⟨q0, q1, qP, qK.calling, qD⟩
theorem callB_O (C : Ok X cc own nL fr mc ms) {y : MethodName} {b : ByteArray} {mL np idx fr1 mc1 ms1 : Nat} {ret : Option FieldType} (mw : MW y b mL ret np) (lk : Cond.methodLink own idx y ∈ lwG) (hroom : fr1 + 1 ≤ fr ∧ mL + 19 ≤ 64) : CallB (xR X) (xs X) (xa X) own idx y b mL ret (.code y b mL ret :: lwG) (rmO fr1 mc1 ms1) mc1 ms1 np :=
  callB_of np C.2.2.2.2.1 (lwG_in mw.1 (fun _ hw => hw)) rfl rfl rfl (C.2.2.2.2.1 _ mw.2.1) (C.2.2.2.2.1 _ lk) mw.2.2 ⟨Nat.le_trans hroom.1 C.2.2.2.2.2.2.2.2.1, by have h1 := C.2.2.2.2.2.2.2.2.2.2.2; have h2 := hroom.1; have h3 := hroom.2; show 8 + (mL + 11) + 64 * fr1 ≤ _; omega⟩
theorem callN_O (C : Ok X cc own nL fr mc ms) {y : MethodName} {b : ByteArray} {mL np idx fr1 mc1 ms1 : Nat} {ret : Option FieldType} {host : String} (mw : MW y b mL ret np) (lk : Cond.methodLinkNest own idx y host ∈ lwN) (hroom : fr1 + 1 ≤ fr ∧ mL + 19 ≤ 64) : va_CN (xR X) (xs X) (xa X) own idx y host b mL ret (.code y b mL ret :: lwG) (rmO fr1 mc1 ms1) mc1 ms1 np :=
  va_cnB np C.2.2.2.2.1 (lwG_in mw.1 (fun _ hw => hw)) rfl rfl rfl (C.2.2.2.2.2.1.2.1 _ lk) (C.2.2.2.2.1 _ mw.2.1) mw.2.2 ⟨Nat.le_trans hroom.1 C.2.2.2.2.2.2.2.2.1, by have h1 := C.2.2.2.2.2.2.2.2.2.2.2; have h2 := hroom.1; have h3 := hroom.2; show 8 + (mL + 11) + 64 * fr1 ≤ _; omega⟩
theorem cnP_pre {H : Heap} {args : List Value} {D : va_G} {cA : Nat → ClassId} {A : Nat → Prop} {s : State} (hK : K9 D cA s) (hP : va_P D vwCl (cel cA L h) H) (hD : va_D A (cel cA L h)) : ∀ U : State, U.heap = H → s.WarmedH U.vm → cnP D cA args L h H.size args.toArray U := fun U hU hW => ⟨rfl, by rw [hU], by rw [hU]; exact hP, hK.warm hW, hD.weaken (fun _ _ _ _ => trivial)⟩
theorem R_callV (C : Ok X cc own nL fr mc ms) {y : MethodName} {b : ByteArray} {mL np idx fr1 mc1 ms1 q ci : Nat} {ret : Option FieldType} {As st0 rest : List Value} {fs : List FdT} {post : Option Value → Ly → Hp → Prop} (a : Nat) (hM : Cn (xl X) (xD X) (xA X) y b mL ret fr1 mc1 ms1 (.ref q :: As) L h post) (mw : MW y b mL ret np) (lk : Cond.methodLink own idx y ∈ lwG) (vi : Cond.instanceMethod y ∈ lwG ∧ Cond.selects y.cls y y ∈ lwG) (d : decode cc pc = .ok (.invokevirtual idx, 3))
    (hL : L[a]? = some (q, .inl (ci, fs))) (hc : (vwCl[ci]?).map (fun z => z.1) = some y.cls) (hAs : As.length = np) (hst : st0 = As.reverse ++ .ref q :: rest) (hw8 : (rest.map fun v => v.category).sum ≤ 8) (hroom : fr1 + 1 ≤ fr ∧ mL + 19 ≤ 64) (hcell : nc + mc1 ≤ mc ∧ ns + ms1 ≤ ms) (hn : pc + 3 = n)
    (K : ∀ (r : Option Value) (L' : Ly) (h' : Hp), post r L' h' → Rn X (nc + mc1) (ns + ms1) n lv (r.toList ++ rest) L' h') : Rn X nc ns pc lv st0 L h := by
  refine R_run (a := (Value.ref q :: As).toArray) C (fun H locs ls hP hD hl => ?_) hn K
  obtain ⟨r, hr, hrc⟩ := Option.map_eq_some_iff.mp hc
  refine va_runV (C := y.cls) (b := q) (As := As) (rest := rest) (nL := (xc X).maxLocals) ⟨C.1, C.2.1, rfl, C.2.2.2.1, C.2.2.2.2.1⟩ (hM H.size) ⟨callB_O C mw lk hroom, C.2.2.2.2.1 _ vi.1, C.2.2.2.2.1 _ vi.2⟩ ⟨cnP_blind, ?_, cnP_pre C.2.2.2.2.2.1 hP hD⟩ rfl hAs hl.1 hst (lv_room hw8) d ⟨Nat.le_trans hcell.1 C.2.2.2.2.2.2.2.2.2.1, Nat.le_trans hcell.2 C.2.2.2.2.2.2.2.2.2.2.1⟩
  rw [← hrc]
  exact va_recv C.2.2.2.2.2.1.1 hP hr (cel_at hL)
theorem R_callS (C : Ok X cc own nL fr mc ms) {y : MethodName} {b : ByteArray} {mL np idx fr1 mc1 ms1 : Nat} {ret : Option FieldType} {As st0 rest : List Value} {post : Option Value → Ly → Hp → Prop} (hM : Cn (xl X) (xD X) (xA X) y b mL ret fr1 mc1 ms1 As L h post) (mw : MW y b mL ret np) (lk : Cond.methodLink own idx y ∈ lwG) (vi : Cond.static y ∈ lwG) (d : decode cc pc = .ok (.invokestatic idx, 3))
    (hAs : As.length = np) (hst : st0 = As.reverse ++ rest) (hw8 : (rest.map fun v => v.category).sum ≤ 8) (hroom : fr1 + 1 ≤ fr ∧ mL + 19 ≤ 64) (hcell : nc + mc1 ≤ mc ∧ ns + ms1 ≤ ms) (hn : pc + 3 = n)
    (K : ∀ (r : Option Value) (L' : Ly) (h' : Hp), post r L' h' → Rn X (nc + mc1) (ns + ms1) n lv (r.toList ++ rest) L' h') : Rn X nc ns pc lv st0 L h := by
  refine R_run (a := As.toArray) C (fun H locs ls hP hD hl => ?_) hn K
  exact va_runS (As := As) (rest := rest) (nL := (xc X).maxLocals) ⟨C.1, C.2.1, rfl, C.2.2.2.1, C.2.2.2.2.1⟩ (hM H.size) ⟨callB_O C mw lk hroom, C.2.2.2.2.1 _ vi⟩ ⟨cnP_blind, cnP_pre C.2.2.2.2.2.1 hP hD⟩ rfl hAs hl.1 hst (lv_room hw8) d ⟨Nat.le_trans hcell.1 C.2.2.2.2.2.2.2.2.2.1, Nat.le_trans hcell.2 C.2.2.2.2.2.2.2.2.2.2.1⟩
theorem R_callSN (C : Ok X cc own nL fr mc ms) {y : MethodName} {b : ByteArray} {mL np idx fr1 mc1 ms1 : Nat} {ret : Option FieldType} {As st0 rest : List Value} {host : String} {post : Option Value → Ly → Hp → Prop} (hM : Cn (xl X) (xD X) (xA X) y b mL ret fr1 mc1 ms1 As L h post) (mw : MW y b mL ret np) (lk : Cond.methodLinkNest own idx y host ∈ lwN) (vi : Cond.static y ∈ lwG) (d : decode cc pc = .ok (.invokestatic idx, 3))
    (hAs : As.length = np) (hst : st0 = As.reverse ++ rest) (hw8 : (rest.map fun v => v.category).sum ≤ 8) (hroom : fr1 + 1 ≤ fr ∧ mL + 19 ≤ 64) (hcell : nc + mc1 ≤ mc ∧ ns + ms1 ≤ ms) (hn : pc + 3 = n)
    (K : ∀ (r : Option Value) (L' : Ly) (h' : Hp), post r L' h' → Rn X (nc + mc1) (ns + ms1) n lv (r.toList ++ rest) L' h') : Rn X nc ns pc lv st0 L h := by
  refine R_run (a := As.toArray) C (fun H locs ls hP hD hl => ?_) hn K
  exact va_runSN (As := As) (rest := rest) (nL := (xc X).maxLocals) ⟨C.1, C.2.1, rfl, C.2.2.2.1, C.2.2.2.2.1⟩ (hM H.size) ⟨callN_O C mw lk hroom, C.2.2.2.2.1 _ vi, trivial⟩ ⟨cnP_blind, cnP_pre C.2.2.2.2.2.1 hP hD⟩ rfl hAs hl.1 hst (lv_room hw8) d ⟨Nat.le_trans hcell.1 C.2.2.2.2.2.2.2.2.2.1, Nat.le_trans hcell.2 C.2.2.2.2.2.2.2.2.2.2.1⟩
theorem R_callI (C : Ok X cc own nL fr mc ms) {y : MethodName} {b : ByteArray} {mL np idx fr1 mc1 ms1 q : Nat} {As st0 rest : List Value} {post : Option Value → Ly → Hp → Prop} (hM : Cn (xl X) (xD X) (xA X) y b mL none fr1 mc1 ms1 (.ref q :: As) L h post) (mw : MW y b mL none np) (hy : y.name = "<init>") (lk : Cond.methodLink own idx y ∈ lwG) (vi : Cond.instanceMethod y ∈ lwG) (d : decode cc pc = .ok (.invokespecial idx, 3))
    (hAs : As.length = np) (hst : st0 = As.reverse ++ .ref q :: rest) (hw8 : (rest.map fun v => v.category).sum ≤ 8) (hroom : fr1 + 1 ≤ fr ∧ mL + 19 ≤ 64) (hcell : nc + mc1 ≤ mc ∧ ns + ms1 ≤ ms) (hn : pc + 3 = n)
    (K : ∀ (r : Option Value) (L' : Ly) (h' : Hp), post r L' h' → Rn X (nc + mc1) (ns + ms1) n lv (r.toList ++ rest) L' h') : Rn X nc ns pc lv st0 L h := by
  refine R_run (a := (Value.ref q :: As).toArray) C (fun H locs ls hP hD hl => ?_) hn K
  exact va_runI (b := q) (As := As) (rest := rest) (nL := (xc X).maxLocals) ⟨C.1, C.2.1, rfl, C.2.2.2.1, C.2.2.2.2.1⟩ (hM H.size) ⟨callB_O C mw lk hroom, hy, C.2.2.2.2.1 _ vi⟩ ⟨cnP_blind, cnP_pre C.2.2.2.2.2.1 hP hD⟩ rfl hAs hl.1 hst (lv_room hw8) d ⟨Nat.le_trans hcell.1 C.2.2.2.2.2.2.2.2.2.1, Nat.le_trans hcell.2 C.2.2.2.2.2.2.2.2.2.2.1⟩
theorem R_callIN (C : Ok X cc own nL fr mc ms) {y : MethodName} {b : ByteArray} {mL np idx fr1 mc1 ms1 q : Nat} {As st0 rest : List Value} {host : String} {post : Option Value → Ly → Hp → Prop} (hM : Cn (xl X) (xD X) (xA X) y b mL none fr1 mc1 ms1 (.ref q :: As) L h post) (mw : MW y b mL none np) (hy : y.name = "<init>") (lk : Cond.methodLinkNest own idx y host ∈ lwN) (vi : Cond.instanceMethod y ∈ lwG) (d : decode cc pc = .ok (.invokespecial idx, 3))
    (hAs : As.length = np) (hst : st0 = As.reverse ++ .ref q :: rest) (hw8 : (rest.map fun v => v.category).sum ≤ 8) (hroom : fr1 + 1 ≤ fr ∧ mL + 19 ≤ 64) (hcell : nc + mc1 ≤ mc ∧ ns + ms1 ≤ ms) (hn : pc + 3 = n)
    (K : ∀ (r : Option Value) (L' : Ly) (h' : Hp), post r L' h' → Rn X (nc + mc1) (ns + ms1) n lv (r.toList ++ rest) L' h') : Rn X nc ns pc lv st0 L h := by
  refine R_run (a := (Value.ref q :: As).toArray) C (fun H locs ls hP hD hl => ?_) hn K
  exact va_runIN (b := q) (As := As) (rest := rest) (nL := (xc X).maxLocals) ⟨C.1, C.2.1, rfl, C.2.2.2.1, C.2.2.2.2.1⟩ (hM H.size) ⟨callN_O C mw lk hroom, hy, C.2.2.2.2.1 _ vi⟩ ⟨cnP_blind, cnP_pre C.2.2.2.2.2.1 hP hD⟩ rfl hAs hl.1 hst (lv_room hw8) d ⟨Nat.le_trans hcell.1 C.2.2.2.2.2.2.2.2.2.1, Nat.le_trans hcell.2 C.2.2.2.2.2.2.2.2.2.2.1⟩
end Calls6
end
section
/-! links and words, by their places in the tables (printed by links.py) -/
theorem mw_X0_init : MW yX0_init cX0_init 1 none 0 := ⟨mG 312 (by decide +kernel) rfl, mG 75 (by decide +kernel) rfl, (by decide +kernel), (by decide +kernel), (by decide +kernel)⟩
theorem nv_X0_init : Cond.instanceMethod yX0_init ∈ lwG := mG 311 (by decide +kernel) rfl
theorem mw_X0_settle : MW yX0_settle cX0_settle 9 none 6 := ⟨mG 743 (by decide +kernel) rfl, mG 75 (by decide +kernel) rfl, (by decide +kernel), (by decide +kernel), (by decide +kernel)⟩
theorem iv_X0_settle : Cond.instanceMethod yX0_settle ∈ lwG ∧ Cond.selects yX0_settle.cls yX0_settle yX0_settle ∈ lwG := ⟨mG 741 (by decide +kernel) rfl, mG 742 (by decide +kernel) rfl⟩
theorem mw_X0_settlePlace : MW yX0_settlePlace cX0_settlePlace 13 none 5 := ⟨mG 747 (by decide +kernel) rfl, mG 75 (by decide +kernel) rfl, (by decide +kernel), (by decide +kernel), (by decide +kernel)⟩
theorem iv_X0_settlePlace : Cond.instanceMethod yX0_settlePlace ∈ lwG ∧ Cond.selects yX0_settlePlace.cls yX0_settlePlace yX0_settlePlace ∈ lwG := ⟨mG 746 (by decide +kernel) rfl, mG 19 (by decide +kernel) rfl⟩
theorem mw_X1_init : MW yX1_init cX1_init 1 none 0 := ⟨mG 327 (by decide +kernel) rfl, mG 76 (by decide +kernel) rfl, (by decide +kernel), (by decide +kernel), (by decide +kernel)⟩
theorem nv_X1_init : Cond.instanceMethod yX1_init ∈ lwG := mG 326 (by decide +kernel) rfl
theorem mw_X1_survey : MW yX1_survey cX1_survey 5 none 1 := ⟨mG 758 (by decide +kernel) rfl, mG 76 (by decide +kernel) rfl, (by decide +kernel), (by decide +kernel), (by decide +kernel)⟩
theorem iv_X1_survey : Cond.instanceMethod yX1_survey ∈ lwG ∧ Cond.selects yX1_survey.cls yX1_survey yX1_survey ∈ lwG := ⟨mG 756 (by decide +kernel) rfl, mG 757 (by decide +kernel) rfl⟩
theorem mw_X1_pairsIn : MW yX1_pairsIn cX1_pairsIn 4 (some .int) 1 := ⟨mG 769 (by decide +kernel) rfl, mG 76 (by decide +kernel) rfl, (by decide +kernel), (by decide +kernel), (by decide +kernel)⟩
theorem iv_X1_pairsIn : Cond.instanceMethod yX1_pairsIn ∈ lwG ∧ Cond.selects yX1_pairsIn.cls yX1_pairsIn yX1_pairsIn ∈ lwG := ⟨mG 767 (by decide +kernel) rfl, mG 768 (by decide +kernel) rfl⟩
theorem mw_X1_wayBetween : MW yX1_wayBetween cX1_wayBetween 2 (some .int) 2 := ⟨mG 761 (by decide +kernel) rfl, mG 76 (by decide +kernel) rfl, (by decide +kernel), (by decide +kernel), (by decide +kernel)⟩
theorem sv_X1_wayBetween : Cond.static yX1_wayBetween ∈ lwG := mG 760 (by decide +kernel) rfl
theorem mw_X1_isFree : MW yX1_isFree cX1_isFree 5 (some .boolean) 4 := ⟨mG 764 (by decide +kernel) rfl, mG 76 (by decide +kernel) rfl, (by decide +kernel), (by decide +kernel), (by decide +kernel)⟩
theorem sv_X1_isFree : Cond.static yX1_isFree ∈ lwG := mG 763 (by decide +kernel) rfl
theorem mw_X2_init : MW yX2_init cX2_init 1 none 0 := ⟨mG 195 (by decide +kernel) rfl, mG 70 (by decide +kernel) rfl, (by decide +kernel), (by decide +kernel), (by decide +kernel)⟩
theorem nv_X2_init : Cond.instanceMethod yX2_init ∈ lwG := mG 194 (by decide +kernel) rfl
theorem mw_X2_begin : MW yX2_begin cX2_begin 2 none 1 := ⟨mG 501 (by decide +kernel) rfl, mG 70 (by decide +kernel) rfl, (by decide +kernel), (by decide +kernel), (by decide +kernel)⟩
theorem iv_X2_begin : Cond.instanceMethod yX2_begin ∈ lwG ∧ Cond.selects yX2_begin.cls yX2_begin yX2_begin ∈ lwG := ⟨mG 500 (by decide +kernel) rfl, mG 1 (by decide +kernel) rfl⟩
theorem mw_X2_play : MW yX2_play cX2_play 5 none 2 := ⟨mG 497 (by decide +kernel) rfl, mG 70 (by decide +kernel) rfl, (by decide +kernel), (by decide +kernel), (by decide +kernel)⟩
theorem iv_X2_play : Cond.instanceMethod yX2_play ∈ lwG ∧ Cond.selects yX2_play.cls yX2_play yX2_play ∈ lwG := ⟨mG 495 (by decide +kernel) rfl, mG 496 (by decide +kernel) rfl⟩
theorem mw_X2_playDraws : MW yX2_playDraws cX2_playDraws 6 none 3 := ⟨mG 859 (by decide +kernel) rfl, mG 70 (by decide +kernel) rfl, (by decide +kernel), (by decide +kernel), (by decide +kernel)⟩
theorem iv_X2_playDraws : Cond.instanceMethod yX2_playDraws ∈ lwG ∧ Cond.selects yX2_playDraws.cls yX2_playDraws yX2_playDraws ∈ lwG := ⟨mG 857 (by decide +kernel) rfl, mG 858 (by decide +kernel) rfl⟩
theorem mw_X2_leaveTo : MW yX2_leaveTo cX2_leaveTo 2 none 1 := ⟨mG 553 (by decide +kernel) rfl, mG 70 (by decide +kernel) rfl, (by decide +kernel), (by decide +kernel), (by decide +kernel)⟩
theorem iv_X2_leaveTo : Cond.instanceMethod yX2_leaveTo ∈ lwG ∧ Cond.selects yX2_leaveTo.cls yX2_leaveTo yX2_leaveTo ∈ lwG := ⟨mG 551 (by decide +kernel) rfl, mG 552 (by decide +kernel) rfl⟩
theorem mw_X2_knock : MW yX2_knock cX2_knock 4 (some .int) 3 := ⟨mG 511 (by decide +kernel) rfl, mG 70 (by decide +kernel) rfl, (by decide +kernel), (by decide +kernel), (by decide +kernel)⟩
theorem iv_X2_knock : Cond.instanceMethod yX2_knock ∈ lwG ∧ Cond.selects yX2_knock.cls yX2_knock yX2_knock ∈ lwG := ⟨mG 510 (by decide +kernel) rfl, mG 2 (by decide +kernel) rfl⟩
theorem mw_X2_happen : MW yX2_happen cX2_happen 3 (some .int) 2 := ⟨mG 516 (by decide +kernel) rfl, mG 70 (by decide +kernel) rfl, (by decide +kernel), (by decide +kernel), (by decide +kernel)⟩
theorem iv_X2_happen : Cond.instanceMethod yX2_happen ∈ lwG ∧ Cond.selects yX2_happen.cls yX2_happen yX2_happen ∈ lwG := ⟨mG 515 (by decide +kernel) rfl, mG 3 (by decide +kernel) rfl⟩
theorem mw_X2_hear : MW yX2_hear cX2_hear 5 none 2 := ⟨mG 529 (by decide +kernel) rfl, mG 70 (by decide +kernel) rfl, (by decide +kernel), (by decide +kernel), (by decide +kernel)⟩
theorem iv_X2_hear : Cond.instanceMethod yX2_hear ∈ lwG ∧ Cond.selects yX2_hear.cls yX2_hear yX2_hear ∈ lwG := ⟨mG 528 (by decide +kernel) rfl, mG 6 (by decide +kernel) rfl⟩
theorem mw_X2_thunder : MW yX2_thunder cX2_thunder 3 none 1 := ⟨mG 520 (by decide +kernel) rfl, mG 70 (by decide +kernel) rfl, (by decide +kernel), (by decide +kernel), (by decide +kernel)⟩
theorem iv_X2_thunder : Cond.instanceMethod yX2_thunder ∈ lwG ∧ Cond.selects yX2_thunder.cls yX2_thunder yX2_thunder ∈ lwG := ⟨mG 519 (by decide +kernel) rfl, mG 4 (by decide +kernel) rfl⟩
theorem mw_X2_rest : MW yX2_rest cX2_rest 2 none 1 := ⟨mG 524 (by decide +kernel) rfl, mG 70 (by decide +kernel) rfl, (by decide +kernel), (by decide +kernel), (by decide +kernel)⟩
theorem iv_X2_rest : Cond.instanceMethod yX2_rest ∈ lwG ∧ Cond.selects yX2_rest.cls yX2_rest yX2_rest ∈ lwG := ⟨mG 523 (by decide +kernel) rfl, mG 5 (by decide +kernel) rfl⟩
theorem mw_X3_init : MW yX3_init cX3_init 1 none 0 := ⟨mG 269 (by decide +kernel) rfl, mG 73 (by decide +kernel) rfl, (by decide +kernel), (by decide +kernel), (by decide +kernel)⟩
theorem nv_X3_init : Cond.instanceMethod yX3_init ∈ lwG := mG 268 (by decide +kernel) rfl
theorem mw_X3_fewestWords : MW yX3_fewestWords cX3_fewestWords 5 (some .int) 3 := ⟨mG 663 (by decide +kernel) rfl, mG 73 (by decide +kernel) rfl, (by decide +kernel), (by decide +kernel), (by decide +kernel)⟩
theorem iv_X3_fewestWords : Cond.instanceMethod yX3_fewestWords ∈ lwG ∧ Cond.selects yX3_fewestWords.cls yX3_fewestWords yX3_fewestWords ∈ lwG := ⟨mG 661 (by decide +kernel) rfl, mG 662 (by decide +kernel) rfl⟩
theorem mw_X3_isMet : MW yX3_isMet cX3_isMet 5 (some .boolean) 4 := ⟨mG 669 (by decide +kernel) rfl, mG 73 (by decide +kernel) rfl, (by decide +kernel), (by decide +kernel), (by decide +kernel)⟩
theorem sv_X3_isMet : Cond.static yX3_isMet ∈ lwG := mG 668 (by decide +kernel) rfl
theorem mw_X3_hear : MW yX3_hear cX3_hear 9 (some .boolean) 4 := ⟨mG 674 (by decide +kernel) rfl, mG 73 (by decide +kernel) rfl, (by decide +kernel), (by decide +kernel), (by decide +kernel)⟩
theorem iv_X3_hear : Cond.instanceMethod yX3_hear ∈ lwG ∧ Cond.selects yX3_hear.cls yX3_hear yX3_hear ∈ lwG := ⟨mG 673 (by decide +kernel) rfl, mG 12 (by decide +kernel) rfl⟩
theorem mw_X4_init : MW yX4_init cX4_init 1 none 0 := ⟨mG 176 (by decide +kernel) rfl, mG 69 (by decide +kernel) rfl, (by decide +kernel), (by decide +kernel), (by decide +kernel)⟩
theorem nv_X4_init : Cond.instanceMethod yX4_init ∈ lwG := mG 175 (by decide +kernel) rfl
theorem mw_X4_add : MW yX4_add cX4_add 2 (some .int) 1 := ⟨mG 434 (by decide +kernel) rfl, mG 69 (by decide +kernel) rfl, (by decide +kernel), (by decide +kernel), (by decide +kernel)⟩
theorem iv_X4_add : Cond.instanceMethod yX4_add ∈ lwG ∧ Cond.selects yX4_add.cls yX4_add yX4_add ∈ lwG := ⟨mG 432 (by decide +kernel) rfl, mG 433 (by decide +kernel) rfl⟩
theorem mw_X4_clear : MW yX4_clear cX4_clear 2 (some .int) 0 := ⟨mG 442 (by decide +kernel) rfl, mG 69 (by decide +kernel) rfl, (by decide +kernel), (by decide +kernel), (by decide +kernel)⟩
theorem iv_X4_clear : Cond.instanceMethod yX4_clear ∈ lwG ∧ Cond.selects yX4_clear.cls yX4_clear yX4_clear ∈ lwG := ⟨mG 440 (by decide +kernel) rfl, mG 441 (by decide +kernel) rfl⟩
theorem mw_X4_signAt : MW yX4_signAt cX4_signAt 2 (some .int) 1 := ⟨mG 472 (by decide +kernel) rfl, mG 69 (by decide +kernel) rfl, (by decide +kernel), (by decide +kernel), (by decide +kernel)⟩
theorem iv_X4_signAt : Cond.instanceMethod yX4_signAt ∈ lwG ∧ Cond.selects yX4_signAt.cls yX4_signAt yX4_signAt ∈ lwG := ⟨mG 470 (by decide +kernel) rfl, mG 471 (by decide +kernel) rfl⟩
theorem mw_X4_spellFault : MW yX4_spellFault cX4_spellFault 3 (some .int) 1 := ⟨mG 450 (by decide +kernel) rfl, mG 69 (by decide +kernel) rfl, (by decide +kernel), (by decide +kernel), (by decide +kernel)⟩
theorem iv_X4_spellFault : Cond.instanceMethod yX4_spellFault ∈ lwG ∧ Cond.selects yX4_spellFault.cls yX4_spellFault yX4_spellFault ∈ lwG := ⟨mG 448 (by decide +kernel) rfl, mG 449 (by decide +kernel) rfl⟩
theorem mw_X4_eveningFault : MW yX4_eveningFault cX4_eveningFault 5 (some .int) 1 := ⟨mG 455 (by decide +kernel) rfl, mG 69 (by decide +kernel) rfl, (by decide +kernel), (by decide +kernel), (by decide +kernel)⟩
theorem iv_X4_eveningFault : Cond.instanceMethod yX4_eveningFault ∈ lwG ∧ Cond.selects yX4_eveningFault.cls yX4_eveningFault yX4_eveningFault ∈ lwG := ⟨mG 453 (by decide +kernel) rfl, mG 454 (by decide +kernel) rfl⟩
theorem mw_X4_hasOnlyWords : MW yX4_hasOnlyWords cX4_hasOnlyWords 3 (some .boolean) 1 := ⟨mG 811 (by decide +kernel) rfl, mG 69 (by decide +kernel) rfl, (by decide +kernel), (by decide +kernel), (by decide +kernel)⟩
theorem iv_X4_hasOnlyWords : Cond.instanceMethod yX4_hasOnlyWords ∈ lwG ∧ Cond.selects yX4_hasOnlyWords.cls yX4_hasOnlyWords yX4_hasOnlyWords ∈ lwG := ⟨mG 809 (by decide +kernel) rfl, mG 810 (by decide +kernel) rfl⟩
theorem mw_X5_init : MW yX5_init cX5_init 1 none 0 := ⟨mG 230 (by decide +kernel) rfl, mG 71 (by decide +kernel) rfl, (by decide +kernel), (by decide +kernel), (by decide +kernel)⟩
theorem nv_X5_init : Cond.instanceMethod yX5_init ∈ lwG := mG 229 (by decide +kernel) rfl
theorem mw_X5_explore : MW yX5_explore cX5_explore 5 none 2 := ⟨mG 570 (by decide +kernel) rfl, mG 71 (by decide +kernel) rfl, (by decide +kernel), (by decide +kernel), (by decide +kernel)⟩
theorem iv_X5_explore : Cond.instanceMethod yX5_explore ∈ lwG ∧ Cond.selects yX5_explore.cls yX5_explore yX5_explore ∈ lwG := ⟨mG 568 (by decide +kernel) rfl, mG 569 (by decide +kernel) rfl⟩
theorem mw_X5_reach : MW yX5_reach cX5_reach 4 none 2 := ⟨mG 596 (by decide +kernel) rfl, mG 71 (by decide +kernel) rfl, (by decide +kernel), (by decide +kernel), (by decide +kernel)⟩
theorem iv_X5_reach : Cond.instanceMethod yX5_reach ∈ lwG ∧ Cond.selects yX5_reach.cls yX5_reach yX5_reach ∈ lwG := ⟨mG 595 (by decide +kernel) rfl, mG 8 (by decide +kernel) rfl⟩
theorem mw_X5_firstLooking : MW yX5_firstLooking cX5_firstLooking 5 (some .int) 2 := ⟨mG 628 (by decide +kernel) rfl, mG 71 (by decide +kernel) rfl, (by decide +kernel), (by decide +kernel), (by decide +kernel)⟩
theorem iv_X5_firstLooking : Cond.instanceMethod yX5_firstLooking ∈ lwG ∧ Cond.selects yX5_firstLooking.cls yX5_firstLooking yX5_firstLooking ∈ lwG := ⟨mG 626 (by decide +kernel) rfl, mG 627 (by decide +kernel) rfl⟩
theorem mw_X5_wordOfRow : MW yX5_wordOfRow cX5_wordOfRow 5 (some .int) 2 := ⟨mG 636 (by decide +kernel) rfl, mG 71 (by decide +kernel) rfl, (by decide +kernel), (by decide +kernel), (by decide +kernel)⟩
theorem iv_X5_wordOfRow : Cond.instanceMethod yX5_wordOfRow ∈ lwG ∧ Cond.selects yX5_wordOfRow.cls yX5_wordOfRow yX5_wordOfRow ∈ lwG := ⟨mG 634 (by decide +kernel) rfl, mG 635 (by decide +kernel) rfl⟩
theorem mw_X5_leastQuarters : MW yX5_leastQuarters cX5_leastQuarters 9 (some .int) 3 := ⟨mG 644 (by decide +kernel) rfl, mG 71 (by decide +kernel) rfl, (by decide +kernel), (by decide +kernel), (by decide +kernel)⟩
theorem iv_X5_leastQuarters : Cond.instanceMethod yX5_leastQuarters ∈ lwG ∧ Cond.selects yX5_leastQuarters.cls yX5_leastQuarters yX5_leastQuarters ∈ lwG := ⟨mG 642 (by decide +kernel) rfl, mG 643 (by decide +kernel) rfl⟩
theorem mw_X5_cheapen : MW yX5_cheapen cX5_cheapen 7 (some .int) 2 := ⟨mG 648 (by decide +kernel) rfl, mG 71 (by decide +kernel) rfl, (by decide +kernel), (by decide +kernel), (by decide +kernel)⟩
theorem iv_X5_cheapen : Cond.instanceMethod yX5_cheapen ∈ lwG ∧ Cond.selects yX5_cheapen.cls yX5_cheapen yX5_cheapen ∈ lwG := ⟨mG 647 (by decide +kernel) rfl, mG 11 (by decide +kernel) rfl⟩
theorem mw_X6_init : MW yX6_init cX6_init 1 none 0 := ⟨mG 290 (by decide +kernel) rfl, mG 74 (by decide +kernel) rfl, (by decide +kernel), (by decide +kernel), (by decide +kernel)⟩
theorem nv_X6_init : Cond.instanceMethod yX6_init ∈ lwG := mG 289 (by decide +kernel) rfl
theorem mw_X6_fewestMinutes : MW yX6_fewestMinutes cX6_fewestMinutes 8 (some .int) 4 := ⟨mG 700 (by decide +kernel) rfl, mG 74 (by decide +kernel) rfl, (by decide +kernel), (by decide +kernel), (by decide +kernel)⟩
theorem iv_X6_fewestMinutes : Cond.instanceMethod yX6_fewestMinutes ∈ lwG ∧ Cond.selects yX6_fewestMinutes.cls yX6_fewestMinutes yX6_fewestMinutes ∈ lwG := ⟨mG 698 (by decide +kernel) rfl, mG 699 (by decide +kernel) rfl⟩
theorem mw_X6_isServed : MW yX6_isServed cX6_isServed 3 (some .boolean) 1 := ⟨mG 725 (by decide +kernel) rfl, mG 74 (by decide +kernel) rfl, (by decide +kernel), (by decide +kernel), (by decide +kernel)⟩
theorem iv_X6_isServed : Cond.instanceMethod yX6_isServed ∈ lwG ∧ Cond.selects yX6_isServed.cls yX6_isServed yX6_isServed ∈ lwG := ⟨mG 724 (by decide +kernel) rfl, mG 17 (by decide +kernel) rfl⟩
theorem mw_X6_hear : MW yX6_hear cX6_hear 6 none 3 := ⟨mG 730 (by decide +kernel) rfl, mG 74 (by decide +kernel) rfl, (by decide +kernel), (by decide +kernel), (by decide +kernel)⟩
theorem iv_X6_hear : Cond.instanceMethod yX6_hear ∈ lwG ∧ Cond.selects yX6_hear.cls yX6_hear yX6_hear ∈ lwG := ⟨mG 729 (by decide +kernel) rfl, mG 18 (by decide +kernel) rfl⟩
theorem mw_X6_knockAll : MW yX6_knockAll cX6_knockAll 4 (some .boolean) 1 := ⟨mG 707 (by decide +kernel) rfl, mG 74 (by decide +kernel) rfl, (by decide +kernel), (by decide +kernel), (by decide +kernel)⟩
theorem iv_X6_knockAll : Cond.instanceMethod yX6_knockAll ∈ lwG ∧ Cond.selects yX6_knockAll.cls yX6_knockAll yX6_knockAll ∈ lwG := ⟨mG 706 (by decide +kernel) rfl, mG 15 (by decide +kernel) rfl⟩
theorem mw_X6_doorsAt : MW yX6_doorsAt cX6_doorsAt 4 (some .int) 1 := ⟨mG 711 (by decide +kernel) rfl, mG 74 (by decide +kernel) rfl, (by decide +kernel), (by decide +kernel), (by decide +kernel)⟩
theorem iv_X6_doorsAt : Cond.instanceMethod yX6_doorsAt ∈ lwG ∧ Cond.selects yX6_doorsAt.cls yX6_doorsAt yX6_doorsAt ∈ lwG := ⟨mG 710 (by decide +kernel) rfl, mG 16 (by decide +kernel) rfl⟩
theorem mw_X6_withDoors : MW yX6_withDoors cX6_withDoors 5 (some .int) 2 := ⟨mG 716 (by decide +kernel) rfl, mG 74 (by decide +kernel) rfl, (by decide +kernel), (by decide +kernel), (by decide +kernel)⟩
theorem sv_X6_withDoors : Cond.static yX6_withDoors ∈ lwG := mG 715 (by decide +kernel) rfl
theorem mw_X7_init : MW yX7_init cX7_init 1 none 0 := ⟨mG 236 (by decide +kernel) rfl, mG 72 (by decide +kernel) rfl, (by decide +kernel), (by decide +kernel), (by decide +kernel)⟩
theorem nv_X7_init : Cond.instanceMethod yX7_init ∈ lwG := mG 235 (by decide +kernel) rfl
theorem mw_X7_tabulate : MW yX7_tabulate cX7_tabulate 4 none 2 := ⟨mG 574 (by decide +kernel) rfl, mG 72 (by decide +kernel) rfl, (by decide +kernel), (by decide +kernel), (by decide +kernel)⟩
theorem iv_X7_tabulate : Cond.instanceMethod yX7_tabulate ∈ lwG ∧ Cond.selects yX7_tabulate.cls yX7_tabulate yX7_tabulate ∈ lwG := ⟨mG 572 (by decide +kernel) rfl, mG 573 (by decide +kernel) rfl⟩
theorem mw_X7_looksBehind : MW yX7_looksBehind cX7_looksBehind 3 (some .int) 2 := ⟨mG 600 (by decide +kernel) rfl, mG 72 (by decide +kernel) rfl, (by decide +kernel), (by decide +kernel), (by decide +kernel)⟩
theorem iv_X7_looksBehind : Cond.instanceMethod yX7_looksBehind ∈ lwG ∧ Cond.selects yX7_looksBehind.cls yX7_looksBehind yX7_looksBehind ∈ lwG := ⟨mG 598 (by decide +kernel) rfl, mG 599 (by decide +kernel) rfl⟩
theorem mw_X7_quartersOf : MW yX7_quartersOf cX7_quartersOf 3 (some .int) 2 := ⟨mG 652 (by decide +kernel) rfl, mG 72 (by decide +kernel) rfl, (by decide +kernel), (by decide +kernel), (by decide +kernel)⟩
theorem iv_X7_quartersOf : Cond.instanceMethod yX7_quartersOf ∈ lwG ∧ Cond.selects yX7_quartersOf.cls yX7_quartersOf yX7_quartersOf ∈ lwG := ⟨mG 650 (by decide +kernel) rfl, mG 651 (by decide +kernel) rfl⟩
theorem mw_X7_step : MW yX7_step cX7_step 3 (some .int) 2 := ⟨mG 604 (by decide +kernel) rfl, mG 72 (by decide +kernel) rfl, (by decide +kernel), (by decide +kernel), (by decide +kernel)⟩
theorem iv_X7_step : Cond.instanceMethod yX7_step ∈ lwG ∧ Cond.selects yX7_step.cls yX7_step yX7_step ∈ lwG := ⟨mG 603 (by decide +kernel) rfl, mG 9 (by decide +kernel) rfl⟩
theorem mw_X7_fill : MW yX7_fill cX7_fill 12 none 5 := ⟨mG 578 (by decide +kernel) rfl, mG 72 (by decide +kernel) rfl, (by decide +kernel), (by decide +kernel), (by decide +kernel)⟩
theorem sv_X7_fill : Cond.static yX7_fill ∈ lwG := mG 577 (by decide +kernel) rfl
theorem mw_X8_init : MW yX8_init cX8_init 1 none 0 := ⟨mG 346 (by decide +kernel) rfl, mG 77 (by decide +kernel) rfl, (by decide +kernel), (by decide +kernel), (by decide +kernel)⟩
theorem nv_X8_init : Cond.instanceMethod yX8_init ∈ lwG := mG 345 (by decide +kernel) rfl
theorem mw_X8_follow : MW yX8_follow cX8_follow 5 none 2 := ⟨mG 816 (by decide +kernel) rfl, mG 77 (by decide +kernel) rfl, (by decide +kernel), (by decide +kernel), (by decide +kernel)⟩
theorem iv_X8_follow : Cond.instanceMethod yX8_follow ∈ lwG ∧ Cond.selects yX8_follow.cls yX8_follow yX8_follow ∈ lwG := ⟨mG 814 (by decide +kernel) rfl, mG 815 (by decide +kernel) rfl⟩
theorem mw_X8_fits : MW yX8_fits cX8_fits 11 (some .boolean) 4 := ⟨mG 819 (by decide +kernel) rfl, mG 77 (by decide +kernel) rfl, (by decide +kernel), (by decide +kernel), (by decide +kernel)⟩
theorem sv_X8_fits : Cond.static yX8_fits ∈ lwG := mG 818 (by decide +kernel) rfl
theorem mw_X8_isSo : MW yX8_isSo cX8_isSo 5 (some .boolean) 4 := ⟨mG 822 (by decide +kernel) rfl, mG 77 (by decide +kernel) rfl, (by decide +kernel), (by decide +kernel), (by decide +kernel)⟩
theorem sv_X8_isSo : Cond.static yX8_isSo ∈ lwG := mG 821 (by decide +kernel) rfl
theorem mw_X8_isSeenLater : MW yX8_isSeenLater cX8_isSeenLater 4 (some .boolean) 3 := ⟨mG 829 (by decide +kernel) rfl, mG 77 (by decide +kernel) rfl, (by decide +kernel), (by decide +kernel), (by decide +kernel)⟩
theorem sv_X8_isSeenLater : Cond.static yX8_isSeenLater ∈ lwG := mG 828 (by decide +kernel) rfl
theorem mw_X9_init : MW yX9_init cX9_init 1 none 0 := ⟨mG 94 (by decide +kernel) rfl, mG 67 (by decide +kernel) rfl, (by decide +kernel), (by decide +kernel), (by decide +kernel)⟩
theorem nv_X9_init : Cond.instanceMethod yX9_init ∈ lwG := mG 93 (by decide +kernel) rfl
theorem mw_X9_plant : MW yX9_plant cX9_plant 3 none 1 := ⟨mG 99 (by decide +kernel) rfl, mG 67 (by decide +kernel) rfl, (by decide +kernel), (by decide +kernel), (by decide +kernel)⟩
theorem iv_X9_plant : Cond.instanceMethod yX9_plant ∈ lwG ∧ Cond.selects yX9_plant.cls yX9_plant yX9_plant ∈ lwG := ⟨mG 97 (by decide +kernel) rfl, mG 98 (by decide +kernel) rfl⟩
theorem mw_X9_copyFrom : MW yX9_copyFrom cX9_copyFrom 2 none 1 := ⟨mG 869 (by decide +kernel) rfl, mG 67 (by decide +kernel) rfl, (by decide +kernel), (by decide +kernel), (by decide +kernel)⟩
theorem iv_X9_copyFrom : Cond.instanceMethod yX9_copyFrom ∈ lwG ∧ Cond.selects yX9_copyFrom.cls yX9_copyFrom yX9_copyFrom ∈ lwG := ⟨mG 867 (by decide +kernel) rfl, mG 868 (by decide +kernel) rfl⟩
theorem mw_X9_hasHut : MW yX9_hasHut cX9_hasHut 2 (some .boolean) 1 := ⟨mG 407 (by decide +kernel) rfl, mG 67 (by decide +kernel) rfl, (by decide +kernel), (by decide +kernel), (by decide +kernel)⟩
theorem iv_X9_hasHut : Cond.instanceMethod yX9_hasHut ∈ lwG ∧ Cond.selects yX9_hasHut.cls yX9_hasHut yX9_hasHut ∈ lwG := ⟨mG 405 (by decide +kernel) rfl, mG 406 (by decide +kernel) rfl⟩
theorem mw_X9_hasSet : MW yX9_hasSet cX9_hasSet 2 (some .boolean) 1 := ⟨mG 624 (by decide +kernel) rfl, mG 67 (by decide +kernel) rfl, (by decide +kernel), (by decide +kernel), (by decide +kernel)⟩
theorem iv_X9_hasSet : Cond.instanceMethod yX9_hasSet ∈ lwG ∧ Cond.selects yX9_hasSet.cls yX9_hasSet yX9_hasSet ∈ lwG := ⟨mG 622 (by decide +kernel) rfl, mG 623 (by decide +kernel) rfl⟩
theorem mw_X9_hasLooks : MW yX9_hasLooks cX9_hasLooks 2 (some .boolean) 1 := ⟨mG 612 (by decide +kernel) rfl, mG 67 (by decide +kernel) rfl, (by decide +kernel), (by decide +kernel), (by decide +kernel)⟩
theorem iv_X9_hasLooks : Cond.instanceMethod yX9_hasLooks ∈ lwG ∧ Cond.selects yX9_hasLooks.cls yX9_hasLooks yX9_hasLooks ∈ lwG := ⟨mG 610 (by decide +kernel) rfl, mG 611 (by decide +kernel) rfl⟩
theorem mw_X9_knows : MW yX9_knows cX9_knows 2 (some .boolean) 1 := ⟨mG 486 (by decide +kernel) rfl, mG 67 (by decide +kernel) rfl, (by decide +kernel), (by decide +kernel), (by decide +kernel)⟩
theorem iv_X9_knows : Cond.instanceMethod yX9_knows ∈ lwG ∧ Cond.selects yX9_knows.cls yX9_knows yX9_knows ∈ lwG := ⟨mG 484 (by decide +kernel) rfl, mG 485 (by decide +kernel) rfl⟩
theorem mw_X9_knowsAll : MW yX9_knowsAll cX9_knowsAll 2 (some .boolean) 1 := ⟨mG 739 (by decide +kernel) rfl, mG 67 (by decide +kernel) rfl, (by decide +kernel), (by decide +kernel), (by decide +kernel)⟩
theorem iv_X9_knowsAll : Cond.instanceMethod yX9_knowsAll ∈ lwG ∧ Cond.selects yX9_knowsAll.cls yX9_knowsAll yX9_knowsAll ∈ lwG := ⟨mG 737 (by decide +kernel) rfl, mG 738 (by decide +kernel) rfl⟩
theorem mw_X9_isTaken : MW yX9_isTaken cX9_isTaken 4 (some .boolean) 2 := ⟨mG 418 (by decide +kernel) rfl, mG 67 (by decide +kernel) rfl, (by decide +kernel), (by decide +kernel), (by decide +kernel)⟩
theorem iv_X9_isTaken : Cond.instanceMethod yX9_isTaken ∈ lwG ∧ Cond.selects yX9_isTaken.cls yX9_isTaken yX9_isTaken ∈ lwG := ⟨mG 416 (by decide +kernel) rfl, mG 417 (by decide +kernel) rfl⟩
theorem mw_X9_alter : MW yX9_alter cX9_alter 6 (some .int) 3 := ⟨mG 422 (by decide +kernel) rfl, mG 67 (by decide +kernel) rfl, (by decide +kernel), (by decide +kernel), (by decide +kernel)⟩
theorem iv_X9_alter : Cond.instanceMethod yX9_alter ∈ lwG ∧ Cond.selects yX9_alter.cls yX9_alter yX9_alter ∈ lwG := ⟨mG 420 (by decide +kernel) rfl, mG 421 (by decide +kernel) rfl⟩
theorem mw_X9_rowOf : MW yX9_rowOf cX9_rowOf 2 (some (.array .int)) 1 := ⟨mG 426 (by decide +kernel) rfl, mG 67 (by decide +kernel) rfl, (by decide +kernel), (by decide +kernel), (by decide +kernel)⟩
theorem iv_X9_rowOf : Cond.instanceMethod yX9_rowOf ∈ lwG ∧ Cond.selects yX9_rowOf.cls yX9_rowOf yX9_rowOf ∈ lwG := ⟨mG 425 (by decide +kernel) rfl, mG 0 (by decide +kernel) rfl⟩
theorem mw_X9_addSight : MW yX9_addSight cX9_addSight 4 (some .int) 3 := ⟨mG 795 (by decide +kernel) rfl, mG 67 (by decide +kernel) rfl, (by decide +kernel), (by decide +kernel), (by decide +kernel)⟩
theorem iv_X9_addSight : Cond.instanceMethod yX9_addSight ∈ lwG ∧ Cond.selects yX9_addSight.cls yX9_addSight yX9_addSight ∈ lwG := ⟨mG 793 (by decide +kernel) rfl, mG 794 (by decide +kernel) rfl⟩
theorem mw_X9_number : MW yX9_number cX9_number 1 (some .int) 0 := ⟨mG 588 (by decide +kernel) rfl, mG 67 (by decide +kernel) rfl, (by decide +kernel), (by decide +kernel), (by decide +kernel)⟩
theorem iv_X9_number : Cond.instanceMethod yX9_number ∈ lwG ∧ Cond.selects yX9_number.cls yX9_number yX9_number ∈ lwG := ⟨mG 586 (by decide +kernel) rfl, mG 587 (by decide +kernel) rfl⟩
theorem mw_X9_quarters : MW yX9_quarters cX9_quarters 5 (some .int) 3 := ⟨mG 533 (by decide +kernel) rfl, mG 67 (by decide +kernel) rfl, (by decide +kernel), (by decide +kernel), (by decide +kernel)⟩
theorem iv_X9_quarters : Cond.instanceMethod yX9_quarters ∈ lwG ∧ Cond.selects yX9_quarters.cls yX9_quarters yX9_quarters ∈ lwG := ⟨mG 531 (by decide +kernel) rfl, mG 532 (by decide +kernel) rfl⟩
theorem mw_X9_turned : MW yX9_turned cX9_turned 4 (some .int) 3 := ⟨mG 537 (by decide +kernel) rfl, mG 67 (by decide +kernel) rfl, (by decide +kernel), (by decide +kernel), (by decide +kernel)⟩
theorem iv_X9_turned : Cond.instanceMethod yX9_turned ∈ lwG ∧ Cond.selects yX9_turned.cls yX9_turned yX9_turned ∈ lwG := ⟨mG 535 (by decide +kernel) rfl, mG 536 (by decide +kernel) rfl⟩
theorem mw_X10_init : MW yX10_init cX10_init 2 none 0 := ⟨mG 86 (by decide +kernel) rfl, mG 66 (by decide +kernel) rfl, (by decide +kernel), (by decide +kernel), (by decide +kernel)⟩
theorem nv_X10_init : Cond.instanceMethod yX10_init ∈ lwG := mG 85 (by decide +kernel) rfl
theorem mw_X10_huts : MW yX10_huts cX10_huts 3 (some .int) 1 := ⟨mG 398 (by decide +kernel) rfl, mG 66 (by decide +kernel) rfl, (by decide +kernel), (by decide +kernel), (by decide +kernel)⟩
theorem iv_X10_huts : Cond.instanceMethod yX10_huts ∈ lwG ∧ Cond.selects yX10_huts.cls yX10_huts yX10_huts ∈ lwG := ⟨mG 396 (by decide +kernel) rfl, mG 397 (by decide +kernel) rfl⟩
theorem mw_X10_hut : MW yX10_hut cX10_hut 4 (some .int) 3 := ⟨mG 403 (by decide +kernel) rfl, mG 66 (by decide +kernel) rfl, (by decide +kernel), (by decide +kernel), (by decide +kernel)⟩
theorem iv_X10_hut : Cond.instanceMethod yX10_hut ∈ lwG ∧ Cond.selects yX10_hut.cls yX10_hut yX10_hut ∈ lwG := ⟨mG 401 (by decide +kernel) rfl, mG 402 (by decide +kernel) rfl⟩
theorem mw_X10_say : MW yX10_say cX10_say 2 (some .int) 1 := ⟨mG 430 (by decide +kernel) rfl, mG 66 (by decide +kernel) rfl, (by decide +kernel), (by decide +kernel), (by decide +kernel)⟩
theorem iv_X10_say : Cond.instanceMethod yX10_say ∈ lwG ∧ Cond.selects yX10_say.cls yX10_say yX10_say ∈ lwG := ⟨mG 428 (by decide +kernel) rfl, mG 429 (by decide +kernel) rfl⟩
theorem mw_X10_wipe : MW yX10_wipe cX10_wipe 1 (some .int) 0 := ⟨mG 438 (by decide +kernel) rfl, mG 66 (by decide +kernel) rfl, (by decide +kernel), (by decide +kernel), (by decide +kernel)⟩
theorem iv_X10_wipe : Cond.instanceMethod yX10_wipe ∈ lwG ∧ Cond.selects yX10_wipe.cls yX10_wipe yX10_wipe ∈ lwG := ⟨mG 436 (by decide +kernel) rfl, mG 437 (by decide +kernel) rfl⟩
theorem mw_X10_fault : MW yX10_fault cX10_fault 2 (some .int) 1 := ⟨mG 446 (by decide +kernel) rfl, mG 66 (by decide +kernel) rfl, (by decide +kernel), (by decide +kernel), (by decide +kernel)⟩
theorem iv_X10_fault : Cond.instanceMethod yX10_fault ∈ lwG ∧ Cond.selects yX10_fault.cls yX10_fault yX10_fault ∈ lwG := ⟨mG 444 (by decide +kernel) rfl, mG 445 (by decide +kernel) rfl⟩
theorem mw_X10_word : MW yX10_word cX10_word 3 (some .int) 1 := ⟨mG 468 (by decide +kernel) rfl, mG 66 (by decide +kernel) rfl, (by decide +kernel), (by decide +kernel), (by decide +kernel)⟩
theorem iv_X10_word : Cond.instanceMethod yX10_word ∈ lwG ∧ Cond.selects yX10_word.cls yX10_word yX10_word ∈ lwG := ⟨mG 466 (by decide +kernel) rfl, mG 467 (by decide +kernel) rfl⟩
theorem mw_X10_unword : MW yX10_unword cX10_unword 2 (some .int) 1 := ⟨mG 482 (by decide +kernel) rfl, mG 66 (by decide +kernel) rfl, (by decide +kernel), (by decide +kernel), (by decide +kernel)⟩
theorem iv_X10_unword : Cond.instanceMethod yX10_unword ∈ lwG ∧ Cond.selects yX10_unword.cls yX10_unword yX10_unword ∈ lwG := ⟨mG 480 (by decide +kernel) rfl, mG 481 (by decide +kernel) rfl⟩
theorem mw_X10_judge : MW yX10_judge cX10_judge 2 (some .int) 1 := ⟨mG 493 (by decide +kernel) rfl, mG 66 (by decide +kernel) rfl, (by decide +kernel), (by decide +kernel), (by decide +kernel)⟩
theorem iv_X10_judge : Cond.instanceMethod yX10_judge ∈ lwG ∧ Cond.selects yX10_judge.cls yX10_judge yX10_judge ∈ lwG := ⟨mG 491 (by decide +kernel) rfl, mG 492 (by decide +kernel) rfl⟩
theorem mw_X10_behind : MW yX10_behind cX10_behind 4 (some .int) 2 := ⟨mG 541 (by decide +kernel) rfl, mG 66 (by decide +kernel) rfl, (by decide +kernel), (by decide +kernel), (by decide +kernel)⟩
theorem iv_X10_behind : Cond.instanceMethod yX10_behind ∈ lwG ∧ Cond.selects yX10_behind.cls yX10_behind yX10_behind ∈ lwG := ⟨mG 539 (by decide +kernel) rfl, mG 540 (by decide +kernel) rfl⟩
theorem mw_X10_done : MW yX10_done cX10_done 2 (some .int) 0 := ⟨mG 549 (by decide +kernel) rfl, mG 66 (by decide +kernel) rfl, (by decide +kernel), (by decide +kernel), (by decide +kernel)⟩
theorem iv_X10_done : Cond.instanceMethod yX10_done ∈ lwG ∧ Cond.selects yX10_done.cls yX10_done yX10_done ∈ lwG := ⟨mG 547 (by decide +kernel) rfl, mG 548 (by decide +kernel) rfl⟩
theorem mw_X10_state : MW yX10_state cX10_state 3 (some .int) 2 := ⟨mG 557 (by decide +kernel) rfl, mG 66 (by decide +kernel) rfl, (by decide +kernel), (by decide +kernel), (by decide +kernel)⟩
theorem iv_X10_state : Cond.instanceMethod yX10_state ∈ lwG ∧ Cond.selects yX10_state.cls yX10_state yX10_state ∈ lwG := ⟨mG 555 (by decide +kernel) rfl, mG 556 (by decide +kernel) rfl⟩
theorem mw_X10_bare : MW yX10_bare cX10_bare 4 (some .int) 2 := ⟨mG 561 (by decide +kernel) rfl, mG 66 (by decide +kernel) rfl, (by decide +kernel), (by decide +kernel), (by decide +kernel)⟩
theorem iv_X10_bare : Cond.instanceMethod yX10_bare ∈ lwG ∧ Cond.selects yX10_bare.cls yX10_bare yX10_bare ∈ lwG := ⟨mG 559 (by decide +kernel) rfl, mG 560 (by decide +kernel) rfl⟩
theorem mw_X10_reached : MW yX10_reached cX10_reached 1 (some .int) 0 := ⟨mG 566 (by decide +kernel) rfl, mG 66 (by decide +kernel) rfl, (by decide +kernel), (by decide +kernel), (by decide +kernel)⟩
theorem iv_X10_reached : Cond.instanceMethod yX10_reached ∈ lwG ∧ Cond.selects yX10_reached.cls yX10_reached yX10_reached ∈ lwG := ⟨mG 564 (by decide +kernel) rfl, mG 565 (by decide +kernel) rfl⟩
theorem mw_X10_can : MW yX10_can cX10_can 2 (some .int) 1 := ⟨mG 608 (by decide +kernel) rfl, mG 66 (by decide +kernel) rfl, (by decide +kernel), (by decide +kernel), (by decide +kernel)⟩
theorem iv_X10_can : Cond.instanceMethod yX10_can ∈ lwG ∧ Cond.selects yX10_can.cls yX10_can yX10_can ∈ lwG := ⟨mG 606 (by decide +kernel) rfl, mG 607 (by decide +kernel) rfl⟩
theorem mw_X10_spelled : MW yX10_spelled cX10_spelled 5 (some .int) 3 := ⟨mG 616 (by decide +kernel) rfl, mG 66 (by decide +kernel) rfl, (by decide +kernel), (by decide +kernel), (by decide +kernel)⟩
theorem iv_X10_spelled : Cond.instanceMethod yX10_spelled ∈ lwG ∧ Cond.selects yX10_spelled.cls yX10_spelled yX10_spelled ∈ lwG := ⟨mG 614 (by decide +kernel) rfl, mG 615 (by decide +kernel) rfl⟩
theorem mw_X10_tired : MW yX10_tired cX10_tired 3 (some .int) 2 := ⟨mG 640 (by decide +kernel) rfl, mG 66 (by decide +kernel) rfl, (by decide +kernel), (by decide +kernel), (by decide +kernel)⟩
theorem iv_X10_tired : Cond.instanceMethod yX10_tired ∈ lwG ∧ Cond.selects yX10_tired.cls yX10_tired yX10_tired ∈ lwG := ⟨mG 638 (by decide +kernel) rfl, mG 639 (by decide +kernel) rfl⟩
theorem mw_X10_able : MW yX10_able cX10_able 3 (some .int) 2 := ⟨mG 659 (by decide +kernel) rfl, mG 66 (by decide +kernel) rfl, (by decide +kernel), (by decide +kernel), (by decide +kernel)⟩
theorem iv_X10_able : Cond.instanceMethod yX10_able ∈ lwG ∧ Cond.selects yX10_able.cls yX10_able yX10_able ∈ lwG := ⟨mG 657 (by decide +kernel) rfl, mG 658 (by decide +kernel) rfl⟩
theorem mw_X10_without : MW yX10_without cX10_without 5 (some .int) 3 := ⟨mG 684 (by decide +kernel) rfl, mG 66 (by decide +kernel) rfl, (by decide +kernel), (by decide +kernel), (by decide +kernel)⟩
theorem iv_X10_without : Cond.instanceMethod yX10_without ∈ lwG ∧ Cond.selects yX10_without.cls yX10_without yX10_without ∈ lwG := ⟨mG 682 (by decide +kernel) rfl, mG 683 (by decide +kernel) rfl⟩
theorem mw_X10_round : MW yX10_round cX10_round 4 (some .int) 2 := ⟨mG 692 (by decide +kernel) rfl, mG 66 (by decide +kernel) rfl, (by decide +kernel), (by decide +kernel), (by decide +kernel)⟩
theorem iv_X10_round : Cond.instanceMethod yX10_round ∈ lwG ∧ Cond.selects yX10_round.cls yX10_round yX10_round ∈ lwG := ⟨mG 690 (by decide +kernel) rfl, mG 691 (by decide +kernel) rfl⟩
theorem mw_X10_two : MW yX10_two cX10_two 8 (some .int) 6 := ⟨mG 735 (by decide +kernel) rfl, mG 66 (by decide +kernel) rfl, (by decide +kernel), (by decide +kernel), (by decide +kernel)⟩
theorem iv_X10_two : Cond.instanceMethod yX10_two ∈ lwG ∧ Cond.selects yX10_two.cls yX10_two yX10_two ∈ lwG := ⟨mG 733 (by decide +kernel) rfl, mG 734 (by decide +kernel) rfl⟩
theorem mw_X10_pairs : MW yX10_pairs cX10_pairs 1 (some .int) 0 := ⟨mG 754 (by decide +kernel) rfl, mG 66 (by decide +kernel) rfl, (by decide +kernel), (by decide +kernel), (by decide +kernel)⟩
theorem iv_X10_pairs : Cond.instanceMethod yX10_pairs ∈ lwG ∧ Cond.selects yX10_pairs.cls yX10_pairs yX10_pairs ∈ lwG := ⟨mG 752 (by decide +kernel) rfl, mG 753 (by decide +kernel) rfl⟩
theorem mw_X10_danced : MW yX10_danced cX10_danced 3 (some .int) 1 := ⟨mG 774 (by decide +kernel) rfl, mG 66 (by decide +kernel) rfl, (by decide +kernel), (by decide +kernel), (by decide +kernel)⟩
theorem iv_X10_danced : Cond.instanceMethod yX10_danced ∈ lwG ∧ Cond.selects yX10_danced.cls yX10_danced yX10_danced ∈ lwG := ⟨mG 772 (by decide +kernel) rfl, mG 773 (by decide +kernel) rfl⟩
theorem mw_X10_elected : MW yX10_elected cX10_elected 4 (some .int) 0 := ⟨mG 778 (by decide +kernel) rfl, mG 66 (by decide +kernel) rfl, (by decide +kernel), (by decide +kernel), (by decide +kernel)⟩
theorem iv_X10_elected : Cond.instanceMethod yX10_elected ∈ lwG ∧ Cond.selects yX10_elected.cls yX10_elected yX10_elected ∈ lwG := ⟨mG 776 (by decide +kernel) rfl, mG 777 (by decide +kernel) rfl⟩
theorem mw_X10_majority : MW yX10_majority cX10_majority 3 (some .int) 1 := ⟨mG 787 (by decide +kernel) rfl, mG 66 (by decide +kernel) rfl, (by decide +kernel), (by decide +kernel), (by decide +kernel)⟩
theorem iv_X10_majority : Cond.instanceMethod yX10_majority ∈ lwG ∧ Cond.selects yX10_majority.cls yX10_majority yX10_majority ∈ lwG := ⟨mG 785 (by decide +kernel) rfl, mG 786 (by decide +kernel) rfl⟩
theorem mw_X10_seen : MW yX10_seen cX10_seen 4 (some .int) 3 := ⟨mG 791 (by decide +kernel) rfl, mG 66 (by decide +kernel) rfl, (by decide +kernel), (by decide +kernel), (by decide +kernel)⟩
theorem iv_X10_seen : Cond.instanceMethod yX10_seen ∈ lwG ∧ Cond.selects yX10_seen.cls yX10_seen yX10_seen ∈ lwG := ⟨mG 789 (by decide +kernel) rfl, mG 790 (by decide +kernel) rfl⟩
theorem mw_X10_forget : MW yX10_forget cX10_forget 2 (some .int) 0 := ⟨mG 799 (by decide +kernel) rfl, mG 66 (by decide +kernel) rfl, (by decide +kernel), (by decide +kernel), (by decide +kernel)⟩
theorem iv_X10_forget : Cond.instanceMethod yX10_forget ∈ lwG ∧ Cond.selects yX10_forget.cls yX10_forget yX10_forget ∈ lwG := ⟨mG 797 (by decide +kernel) rfl, mG 798 (by decide +kernel) rfl⟩
theorem mw_X10_tracks : MW yX10_tracks cX10_tracks 2 (some .int) 1 := ⟨mG 803 (by decide +kernel) rfl, mG 66 (by decide +kernel) rfl, (by decide +kernel), (by decide +kernel), (by decide +kernel)⟩
theorem iv_X10_tracks : Cond.instanceMethod yX10_tracks ∈ lwG ∧ Cond.selects yX10_tracks.cls yX10_tracks yX10_tracks ∈ lwG := ⟨mG 801 (by decide +kernel) rfl, mG 802 (by decide +kernel) rfl⟩
theorem mw_X10_looked : MW yX10_looked cX10_looked 2 (some .int) 1 := ⟨mG 835 (by decide +kernel) rfl, mG 66 (by decide +kernel) rfl, (by decide +kernel), (by decide +kernel), (by decide +kernel)⟩
theorem iv_X10_looked : Cond.instanceMethod yX10_looked ∈ lwG ∧ Cond.selects yX10_looked.cls yX10_looked yX10_looked ∈ lwG := ⟨mG 833 (by decide +kernel) rfl, mG 834 (by decide +kernel) rfl⟩
theorem mw_X10_storm : MW yX10_storm cX10_storm 12 (some .long) 5 := ⟨mG 839 (by decide +kernel) rfl, mG 66 (by decide +kernel) rfl, (by decide +kernel), (by decide +kernel), (by decide +kernel)⟩
theorem iv_X10_storm : Cond.instanceMethod yX10_storm ∈ lwG ∧ Cond.selects yX10_storm.cls yX10_storm yX10_storm ∈ lwG := ⟨mG 837 (by decide +kernel) rfl, mG 838 (by decide +kernel) rfl⟩
theorem mw_X10_ninety : MW yX10_ninety cX10_ninety 4 (some .int) 3 := ⟨mG 855 (by decide +kernel) rfl, mG 66 (by decide +kernel) rfl, (by decide +kernel), (by decide +kernel), (by decide +kernel)⟩
theorem iv_X10_ninety : Cond.instanceMethod yX10_ninety ∈ lwG ∧ Cond.selects yX10_ninety.cls yX10_ninety yX10_ninety ∈ lwG := ⟨mG 853 (by decide +kernel) rfl, mG 854 (by decide +kernel) rfl⟩
theorem mw_X10_image : MW yX10_image cX10_image 2 (some .int) 1 := ⟨mG 865 (by decide +kernel) rfl, mG 66 (by decide +kernel) rfl, (by decide +kernel), (by decide +kernel), (by decide +kernel)⟩
theorem iv_X10_image : Cond.instanceMethod yX10_image ∈ lwG ∧ Cond.selects yX10_image.cls yX10_image yX10_image ∈ lwG := ⟨mG 863 (by decide +kernel) rfl, mG 864 (by decide +kernel) rfl⟩
theorem mw_X10_restore : MW yX10_restore cX10_restore 2 (some .int) 1 := ⟨mG 874 (by decide +kernel) rfl, mG 66 (by decide +kernel) rfl, (by decide +kernel), (by decide +kernel), (by decide +kernel)⟩
theorem iv_X10_restore : Cond.instanceMethod yX10_restore ∈ lwG ∧ Cond.selects yX10_restore.cls yX10_restore yX10_restore ∈ lwG := ⟨mG 872 (by decide +kernel) rfl, mG 873 (by decide +kernel) rfl⟩
theorem mw_X10_told : MW yX10_told cX10_told 2 (some .int) 1 := ⟨mG 878 (by decide +kernel) rfl, mG 66 (by decide +kernel) rfl, (by decide +kernel), (by decide +kernel), (by decide +kernel)⟩
theorem iv_X10_told : Cond.instanceMethod yX10_told ∈ lwG ∧ Cond.selects yX10_told.cls yX10_told yX10_told ∈ lwG := ⟨mG 876 (by decide +kernel) rfl, mG 877 (by decide +kernel) rfl⟩
theorem mw_X10_toldOfHut : MW yX10_toldOfHut cX10_toldOfHut 3 (some .int) 2 := ⟨mG 882 (by decide +kernel) rfl, mG 66 (by decide +kernel) rfl, (by decide +kernel), (by decide +kernel), (by decide +kernel)⟩
theorem iv_X10_toldOfHut : Cond.instanceMethod yX10_toldOfHut ∈ lwG ∧ Cond.selects yX10_toldOfHut.cls yX10_toldOfHut yX10_toldOfHut ∈ lwG := ⟨mG 881 (by decide +kernel) rfl, mG 22 (by decide +kernel) rfl⟩
theorem mw_X10_toldOfWord : MW yX10_toldOfWord cX10_toldOfWord 3 (some .int) 2 := ⟨mG 886 (by decide +kernel) rfl, mG 66 (by decide +kernel) rfl, (by decide +kernel), (by decide +kernel), (by decide +kernel)⟩
theorem iv_X10_toldOfWord : Cond.instanceMethod yX10_toldOfWord ∈ lwG ∧ Cond.selects yX10_toldOfWord.cls yX10_toldOfWord yX10_toldOfWord ∈ lwG := ⟨mG 885 (by decide +kernel) rfl, mG 23 (by decide +kernel) rfl⟩
theorem mw_X10_playWhole : MW yX10_playWhole cX10_playWhole 1 (some .int) 0 := ⟨mG 545 (by decide +kernel) rfl, mG 66 (by decide +kernel) rfl, (by decide +kernel), (by decide +kernel), (by decide +kernel)⟩
theorem iv_X10_playWhole : Cond.instanceMethod yX10_playWhole ∈ lwG ∧ Cond.selects yX10_playWhole.cls yX10_playWhole yX10_playWhole ∈ lwG := ⟨mG 544 (by decide +kernel) rfl, mG 7 (by decide +kernel) rfl⟩
theorem mw_X10_isTrackable : MW yX10_isTrackable cX10_isTrackable 1 (some .boolean) 0 := ⟨mG 807 (by decide +kernel) rfl, mG 66 (by decide +kernel) rfl, (by decide +kernel), (by decide +kernel), (by decide +kernel)⟩
theorem iv_X10_isTrackable : Cond.instanceMethod yX10_isTrackable ∈ lwG ∧ Cond.selects yX10_isTrackable.cls yX10_isTrackable yX10_isTrackable ∈ lwG := ⟨mG 806 (by decide +kernel) rfl, mG 21 (by decide +kernel) rfl⟩
theorem mw_X10_isAim : MW yX10_isAim cX10_isAim 3 (some .boolean) 2 := ⟨mG 620 (by decide +kernel) rfl, mG 66 (by decide +kernel) rfl, (by decide +kernel), (by decide +kernel), (by decide +kernel)⟩
theorem iv_X10_isAim : Cond.instanceMethod yX10_isAim ∈ lwG ∧ Cond.selects yX10_isAim.cls yX10_isAim yX10_isAim ∈ lwG := ⟨mG 619 (by decide +kernel) rfl, mG 10 (by decide +kernel) rfl⟩
theorem mw_X10_fewestWords : MW yX10_fewestWords cX10_fewestWords 5 (some .int) 3 := ⟨mG 688 (by decide +kernel) rfl, mG 66 (by decide +kernel) rfl, (by decide +kernel), (by decide +kernel), (by decide +kernel)⟩
theorem iv_X10_fewestWords : Cond.instanceMethod yX10_fewestWords ∈ lwG ∧ Cond.selects yX10_fewestWords.cls yX10_fewestWords yX10_fewestWords ∈ lwG := ⟨mG 687 (by decide +kernel) rfl, mG 13 (by decide +kernel) rfl⟩
theorem mw_X10_votes : MW yX10_votes cX10_votes 5 (some .int) 2 := ⟨mG 782 (by decide +kernel) rfl, mG 66 (by decide +kernel) rfl, (by decide +kernel), (by decide +kernel), (by decide +kernel)⟩
theorem iv_X10_votes : Cond.instanceMethod yX10_votes ∈ lwG ∧ Cond.selects yX10_votes.cls yX10_votes yX10_votes ∈ lwG := ⟨mG 781 (by decide +kernel) rfl, mG 20 (by decide +kernel) rfl⟩
theorem mw_X10_looksOfSides : MW yX10_looksOfSides cX10_looksOfSides 6 (some .int) 2 := ⟨mG 696 (by decide +kernel) rfl, mG 66 (by decide +kernel) rfl, (by decide +kernel), (by decide +kernel), (by decide +kernel)⟩
theorem iv_X10_looksOfSides : Cond.instanceMethod yX10_looksOfSides ∈ lwG ∧ Cond.selects yX10_looksOfSides.cls yX10_looksOfSides yX10_looksOfSides ∈ lwG := ⟨mG 695 (by decide +kernel) rfl, mG 14 (by decide +kernel) rfl⟩
theorem mw_X10_mostOf : MW yX10_mostOf cX10_mostOf 1 (some .int) 1 := ⟨mG 414 (by decide +kernel) rfl, mG 66 (by decide +kernel) rfl, (by decide +kernel), (by decide +kernel), (by decide +kernel)⟩
theorem sv_X10_mostOf : Cond.static yX10_mostOf ∈ lwG := mG 413 (by decide +kernel) rfl
theorem mw_X10_isWithin : MW yX10_isWithin cX10_isWithin 3 (some .boolean) 3 := ⟨mG 410 (by decide +kernel) rfl, mG 66 (by decide +kernel) rfl, (by decide +kernel), (by decide +kernel), (by decide +kernel)⟩
theorem sv_X10_isWithin : Cond.static yX10_isWithin ∈ lwG := mG 409 (by decide +kernel) rfl
theorem mw_X10_isIn : MW yX10_isIn cX10_isIn 2 (some .boolean) 2 := ⟨mG 489 (by decide +kernel) rfl, mG 66 (by decide +kernel) rfl, (by decide +kernel), (by decide +kernel), (by decide +kernel)⟩
theorem sv_X10_isIn : Cond.static yX10_isIn ∈ lwG := mG 488 (by decide +kernel) rfl
theorem mw_X10_lookIn : MW yX10_lookIn cX10_lookIn 2 (some .int) 2 := ⟨mG 680 (by decide +kernel) rfl, mG 66 (by decide +kernel) rfl, (by decide +kernel), (by decide +kernel), (by decide +kernel)⟩
theorem sv_X10_lookIn : Cond.static yX10_lookIn ∈ lwG := mG 679 (by decide +kernel) rfl
theorem mw_X10_numberOf : MW yX10_numberOf cX10_numberOf 4 (some .int) 2 := ⟨mG 591 (by decide +kernel) rfl, mG 66 (by decide +kernel) rfl, (by decide +kernel), (by decide +kernel), (by decide +kernel)⟩
theorem sv_X10_numberOf : Cond.static yX10_numberOf ∈ lwG := mG 590 (by decide +kernel) rfl
theorem mw_X10_maskOf : MW yX10_maskOf cX10_maskOf 3 (some .int) 1 := ⟨mG 631 (by decide +kernel) rfl, mG 66 (by decide +kernel) rfl, (by decide +kernel), (by decide +kernel), (by decide +kernel)⟩
theorem sv_X10_maskOf : Cond.static yX10_maskOf ∈ lwG := mG 630 (by decide +kernel) rfl
theorem mw_X10_stormUpper : MW yX10_stormUpper cX10_stormUpper 10 (some .long) 3 := ⟨mG 844 (by decide +kernel) rfl, mG 66 (by decide +kernel) rfl, (by decide +kernel), (by decide +kernel), (by decide +kernel)⟩
theorem sv_X10_stormUpper : Cond.static yX10_stormUpper ∈ lwG := mG 843 (by decide +kernel) rfl
theorem mw_X10_commonDivisor : MW yX10_commonDivisor cX10_commonDivisor 11 (some .long) 2 := ⟨mG 848 (by decide +kernel) rfl, mG 66 (by decide +kernel) rfl, (by decide +kernel), (by decide +kernel), (by decide +kernel)⟩
theorem sv_X10_commonDivisor : Cond.static yX10_commonDivisor ∈ lwG := mG 847 (by decide +kernel) rfl
theorem mw_X10_wayOf : MW yX10_wayOf cX10_wayOf 1 (some .int) 1 := ⟨mG 458 (by decide +kernel) rfl, mG 66 (by decide +kernel) rfl, (by decide +kernel), (by decide +kernel), (by decide +kernel)⟩
theorem sv_X10_wayOf : Cond.static yX10_wayOf ∈ lwG := mG 457 (by decide +kernel) rfl
theorem mw_X10_isDigit : MW yX10_isDigit cX10_isDigit 1 (some .boolean) 1 := ⟨mG 461 (by decide +kernel) rfl, mG 66 (by decide +kernel) rfl, (by decide +kernel), (by decide +kernel), (by decide +kernel)⟩
theorem sv_X10_isDigit : Cond.static yX10_isDigit ∈ lwG := mG 460 (by decide +kernel) rfl
theorem mw_X10_isLetter : MW yX10_isLetter cX10_isLetter 1 (some .boolean) 1 := ⟨mG 464 (by decide +kernel) rfl, mG 66 (by decide +kernel) rfl, (by decide +kernel), (by decide +kernel), (by decide +kernel)⟩
theorem sv_X10_isLetter : Cond.static yX10_isLetter ∈ lwG := mG 463 (by decide +kernel) rfl
theorem mw_X11_init : MW yX11_init cX11_init 1 none 0 := ⟨mG 891 (by decide +kernel) rfl, mG 78 (by decide +kernel) rfl, (by decide +kernel), (by decide +kernel), (by decide +kernel)⟩
theorem nv_X11_init : Cond.instanceMethod yX11_init ∈ lwG := mG 890 (by decide +kernel) rfl
theorem mw_X11_in : MW yX11_in cX11_in 6 (some .boolean) 3 := ⟨mG 1029 (by decide +kernel) rfl, mG 78 (by decide +kernel) rfl, (by decide +kernel), (by decide +kernel), (by decide +kernel)⟩
theorem sv_X11_in : Cond.static yX11_in ∈ lwG := mG 1028 (by decide +kernel) rfl
theorem mw_X11_ones : MW yX11_ones cX11_ones 3 (some .int) 1 := ⟨mG 1081 (by decide +kernel) rfl, mG 78 (by decide +kernel) rfl, (by decide +kernel), (by decide +kernel), (by decide +kernel)⟩
theorem sv_X11_ones : Cond.static yX11_ones ∈ lwG := mG 1080 (by decide +kernel) rfl
theorem mw_X11_begin : MW yX11_begin cX11_begin 3 none 1 := ⟨mG 897 (by decide +kernel) rfl, mG 78 (by decide +kernel) rfl, (by decide +kernel), (by decide +kernel), (by decide +kernel)⟩
theorem iv_X11_begin : Cond.instanceMethod yX11_begin ∈ lwG ∧ Cond.selects yX11_begin.cls yX11_begin yX11_begin ∈ lwG := ⟨mG 896 (by decide +kernel) rfl, mG 24 (by decide +kernel) rfl⟩
theorem mw_X11_isHut : MW yX11_isHut cX11_isHut 2 (some .boolean) 1 := ⟨mG 1037 (by decide +kernel) rfl, mG 78 (by decide +kernel) rfl, (by decide +kernel), (by decide +kernel), (by decide +kernel)⟩
theorem iv_X11_isHut : Cond.instanceMethod yX11_isHut ∈ lwG ∧ Cond.selects yX11_isHut.cls yX11_isHut yX11_isHut ∈ lwG := ⟨mG 1036 (by decide +kernel) rfl, mG 25 (by decide +kernel) rfl⟩
theorem mw_X11_isWay : MW yX11_isWay cX11_isWay 1 (some .boolean) 1 := ⟨mG 1228 (by decide +kernel) rfl, mG 78 (by decide +kernel) rfl, (by decide +kernel), (by decide +kernel), (by decide +kernel)⟩
theorem sv_X11_isWay : Cond.static yX11_isWay ∈ lwG := mG 1227 (by decide +kernel) rfl
theorem mw_X11_isKnown : MW yX11_isKnown cX11_isKnown 2 (some .boolean) 1 := ⟨mG 1089 (by decide +kernel) rfl, mG 78 (by decide +kernel) rfl, (by decide +kernel), (by decide +kernel), (by decide +kernel)⟩
theorem iv_X11_isKnown : Cond.instanceMethod yX11_isKnown ∈ lwG ∧ Cond.selects yX11_isKnown.cls yX11_isKnown yX11_isKnown ∈ lwG := ⟨mG 1088 (by decide +kernel) rfl, mG 29 (by decide +kernel) rfl⟩
theorem mw_X11_huts : MW yX11_huts cX11_huts 3 (some .int) 1 := ⟨mG 1025 (by decide +kernel) rfl, mG 78 (by decide +kernel) rfl, (by decide +kernel), (by decide +kernel), (by decide +kernel)⟩
theorem iv_X11_huts : Cond.instanceMethod yX11_huts ∈ lwG ∧ Cond.selects yX11_huts.cls yX11_huts yX11_huts ∈ lwG := ⟨mG 1023 (by decide +kernel) rfl, mG 1024 (by decide +kernel) rfl⟩
theorem mw_X11_greatest : MW yX11_greatest cX11_greatest 1 (some .int) 1 := ⟨mG 1041 (by decide +kernel) rfl, mG 78 (by decide +kernel) rfl, (by decide +kernel), (by decide +kernel), (by decide +kernel)⟩
theorem sv_X11_greatest : Cond.static yX11_greatest ∈ lwG := mG 1040 (by decide +kernel) rfl
theorem mw_X11_isTaken : MW yX11_isTaken cX11_isTaken 5 (some .boolean) 2 := ⟨mG 1045 (by decide +kernel) rfl, mG 78 (by decide +kernel) rfl, (by decide +kernel), (by decide +kernel), (by decide +kernel)⟩
theorem iv_X11_isTaken : Cond.instanceMethod yX11_isTaken ∈ lwG ∧ Cond.selects yX11_isTaken.cls yX11_isTaken yX11_isTaken ∈ lwG := ⟨mG 1044 (by decide +kernel) rfl, mG 26 (by decide +kernel) rfl⟩
theorem mw_X11_hut : MW yX11_hut cX11_hut 5 (some .int) 3 := ⟨mG 1033 (by decide +kernel) rfl, mG 78 (by decide +kernel) rfl, (by decide +kernel), (by decide +kernel), (by decide +kernel)⟩
theorem iv_X11_hut : Cond.instanceMethod yX11_hut ∈ lwG ∧ Cond.selects yX11_hut.cls yX11_hut yX11_hut ∈ lwG := ⟨mG 1031 (by decide +kernel) rfl, mG 1032 (by decide +kernel) rfl⟩
theorem mw_X11_say : MW yX11_say cX11_say 2 (some .int) 1 := ⟨mG 1049 (by decide +kernel) rfl, mG 78 (by decide +kernel) rfl, (by decide +kernel), (by decide +kernel), (by decide +kernel)⟩
theorem iv_X11_say : Cond.instanceMethod yX11_say ∈ lwG ∧ Cond.selects yX11_say.cls yX11_say yX11_say ∈ lwG := ⟨mG 1047 (by decide +kernel) rfl, mG 1048 (by decide +kernel) rfl⟩
theorem mw_X11_wipe : MW yX11_wipe cX11_wipe 2 (some .int) 0 := ⟨mG 1055 (by decide +kernel) rfl, mG 78 (by decide +kernel) rfl, (by decide +kernel), (by decide +kernel), (by decide +kernel)⟩
theorem iv_X11_wipe : Cond.instanceMethod yX11_wipe ∈ lwG ∧ Cond.selects yX11_wipe.cls yX11_wipe yX11_wipe ∈ lwG := ⟨mG 1053 (by decide +kernel) rfl, mG 1054 (by decide +kernel) rfl⟩
theorem mw_X11_faultOfSpell : MW yX11_faultOfSpell cX11_faultOfSpell 2 (some .int) 0 := ⟨mG 1063 (by decide +kernel) rfl, mG 78 (by decide +kernel) rfl, (by decide +kernel), (by decide +kernel), (by decide +kernel)⟩
theorem iv_X11_faultOfSpell : Cond.instanceMethod yX11_faultOfSpell ∈ lwG ∧ Cond.selects yX11_faultOfSpell.cls yX11_faultOfSpell yX11_faultOfSpell ∈ lwG := ⟨mG 1062 (by decide +kernel) rfl, mG 27 (by decide +kernel) rfl⟩
theorem mw_X11_wayOf : MW yX11_wayOf cX11_wayOf 1 (some .int) 1 := ⟨mG 1072 (by decide +kernel) rfl, mG 78 (by decide +kernel) rfl, (by decide +kernel), (by decide +kernel), (by decide +kernel)⟩
theorem sv_X11_wayOf : Cond.static yX11_wayOf ∈ lwG := mG 1071 (by decide +kernel) rfl
theorem mw_X11_faultOfEvening : MW yX11_faultOfEvening cX11_faultOfEvening 5 (some .int) 0 := ⟨mG 1069 (by decide +kernel) rfl, mG 78 (by decide +kernel) rfl, (by decide +kernel), (by decide +kernel), (by decide +kernel)⟩
theorem iv_X11_faultOfEvening : Cond.instanceMethod yX11_faultOfEvening ∈ lwG ∧ Cond.selects yX11_faultOfEvening.cls yX11_faultOfEvening yX11_faultOfEvening ∈ lwG := ⟨mG 1068 (by decide +kernel) rfl, mG 28 (by decide +kernel) rfl⟩
theorem mw_X11_fault : MW yX11_fault cX11_fault 2 (some .int) 1 := ⟨mG 1059 (by decide +kernel) rfl, mG 78 (by decide +kernel) rfl, (by decide +kernel), (by decide +kernel), (by decide +kernel)⟩
theorem iv_X11_fault : Cond.instanceMethod yX11_fault ∈ lwG ∧ Cond.selects yX11_fault.cls yX11_fault yX11_fault ∈ lwG := ⟨mG 1057 (by decide +kernel) rfl, mG 1058 (by decide +kernel) rfl⟩
theorem mw_X11_word : MW yX11_word cX11_word 3 (some .int) 1 := ⟨mG 1078 (by decide +kernel) rfl, mG 78 (by decide +kernel) rfl, (by decide +kernel), (by decide +kernel), (by decide +kernel)⟩
theorem iv_X11_word : Cond.instanceMethod yX11_word ∈ lwG ∧ Cond.selects yX11_word.cls yX11_word yX11_word ∈ lwG := ⟨mG 1076 (by decide +kernel) rfl, mG 1077 (by decide +kernel) rfl⟩
theorem mw_X11_unword : MW yX11_unword cX11_unword 2 (some .int) 1 := ⟨mG 1085 (by decide +kernel) rfl, mG 78 (by decide +kernel) rfl, (by decide +kernel), (by decide +kernel), (by decide +kernel)⟩
theorem iv_X11_unword : Cond.instanceMethod yX11_unword ∈ lwG ∧ Cond.selects yX11_unword.cls yX11_unword yX11_unword ∈ lwG := ⟨mG 1083 (by decide +kernel) rfl, mG 1084 (by decide +kernel) rfl⟩
theorem mw_X11_heeds : MW yX11_heeds cX11_heeds 5 (some .int) 3 := ⟨mG 1117 (by decide +kernel) rfl, mG 78 (by decide +kernel) rfl, (by decide +kernel), (by decide +kernel), (by decide +kernel)⟩
theorem iv_X11_heeds : Cond.instanceMethod yX11_heeds ∈ lwG ∧ Cond.selects yX11_heeds.cls yX11_heeds yX11_heeds ∈ lwG := ⟨mG 1116 (by decide +kernel) rfl, mG 35 (by decide +kernel) rfl⟩
theorem mw_X11_turned : MW yX11_turned cX11_turned 4 (some .int) 3 := ⟨mG 1121 (by decide +kernel) rfl, mG 78 (by decide +kernel) rfl, (by decide +kernel), (by decide +kernel), (by decide +kernel)⟩
theorem iv_X11_turned : Cond.instanceMethod yX11_turned ∈ lwG ∧ Cond.selects yX11_turned.cls yX11_turned yX11_turned ∈ lwG := ⟨mG 1120 (by decide +kernel) rfl, mG 36 (by decide +kernel) rfl⟩
theorem mw_X11_sayWord : MW yX11_sayWord cX11_sayWord 5 none 1 := ⟨mG 1113 (by decide +kernel) rfl, mG 78 (by decide +kernel) rfl, (by decide +kernel), (by decide +kernel), (by decide +kernel)⟩
theorem iv_X11_sayWord : Cond.instanceMethod yX11_sayWord ∈ lwG ∧ Cond.selects yX11_sayWord.cls yX11_sayWord yX11_sayWord ∈ lwG := ⟨mG 1112 (by decide +kernel) rfl, mG 34 (by decide +kernel) rfl⟩
theorem mw_X11_thunder : MW yX11_thunder cX11_thunder 2 none 0 := ⟨mG 1125 (by decide +kernel) rfl, mG 78 (by decide +kernel) rfl, (by decide +kernel), (by decide +kernel), (by decide +kernel)⟩
theorem iv_X11_thunder : Cond.instanceMethod yX11_thunder ∈ lwG ∧ Cond.selects yX11_thunder.cls yX11_thunder yX11_thunder ∈ lwG := ⟨mG 1124 (by decide +kernel) rfl, mG 37 (by decide +kernel) rfl⟩
theorem mw_X11_night : MW yX11_night cX11_night 2 none 0 := ⟨mG 1129 (by decide +kernel) rfl, mG 78 (by decide +kernel) rfl, (by decide +kernel), (by decide +kernel), (by decide +kernel)⟩
theorem iv_X11_night : Cond.instanceMethod yX11_night ∈ lwG ∧ Cond.selects yX11_night.cls yX11_night yX11_night ∈ lwG := ⟨mG 1128 (by decide +kernel) rfl, mG 38 (by decide +kernel) rfl⟩
theorem mw_X11_keepNow : MW yX11_keepNow cX11_keepNow 2 none 0 := ⟨mG 1097 (by decide +kernel) rfl, mG 78 (by decide +kernel) rfl, (by decide +kernel), (by decide +kernel), (by decide +kernel)⟩
theorem iv_X11_keepNow : Cond.instanceMethod yX11_keepNow ∈ lwG ∧ Cond.selects yX11_keepNow.cls yX11_keepNow yX11_keepNow ∈ lwG := ⟨mG 1096 (by decide +kernel) rfl, mG 30 (by decide +kernel) rfl⟩
theorem mw_X11_putBack : MW yX11_putBack cX11_putBack 2 none 0 := ⟨mG 1133 (by decide +kernel) rfl, mG 78 (by decide +kernel) rfl, (by decide +kernel), (by decide +kernel), (by decide +kernel)⟩
theorem iv_X11_putBack : Cond.instanceMethod yX11_putBack ∈ lwG ∧ Cond.selects yX11_putBack.cls yX11_putBack yX11_putBack ∈ lwG := ⟨mG 1132 (by decide +kernel) rfl, mG 39 (by decide +kernel) rfl⟩
theorem mw_X11_happen : MW yX11_happen cX11_happen 2 none 1 := ⟨mG 1109 (by decide +kernel) rfl, mG 78 (by decide +kernel) rfl, (by decide +kernel), (by decide +kernel), (by decide +kernel)⟩
theorem iv_X11_happen : Cond.instanceMethod yX11_happen ∈ lwG ∧ Cond.selects yX11_happen.cls yX11_happen yX11_happen ∈ lwG := ⟨mG 1108 (by decide +kernel) rfl, mG 33 (by decide +kernel) rfl⟩
theorem mw_X11_whyNot : MW yX11_whyNot cX11_whyNot 2 (some .int) 1 := ⟨mG 1105 (by decide +kernel) rfl, mG 78 (by decide +kernel) rfl, (by decide +kernel), (by decide +kernel), (by decide +kernel)⟩
theorem iv_X11_whyNot : Cond.instanceMethod yX11_whyNot ∈ lwG ∧ Cond.selects yX11_whyNot.cls yX11_whyNot yX11_whyNot ∈ lwG := ⟨mG 1104 (by decide +kernel) rfl, mG 32 (by decide +kernel) rfl⟩
theorem mw_X11_goEvening : MW yX11_goEvening cX11_goEvening 3 none 0 := ⟨mG 1101 (by decide +kernel) rfl, mG 78 (by decide +kernel) rfl, (by decide +kernel), (by decide +kernel), (by decide +kernel)⟩
theorem iv_X11_goEvening : Cond.instanceMethod yX11_goEvening ∈ lwG ∧ Cond.selects yX11_goEvening.cls yX11_goEvening yX11_goEvening ∈ lwG := ⟨mG 1100 (by decide +kernel) rfl, mG 31 (by decide +kernel) rfl⟩
theorem mw_X11_judge : MW yX11_judge cX11_judge 2 (some .int) 1 := ⟨mG 1093 (by decide +kernel) rfl, mG 78 (by decide +kernel) rfl, (by decide +kernel), (by decide +kernel), (by decide +kernel)⟩
theorem iv_X11_judge : Cond.instanceMethod yX11_judge ∈ lwG ∧ Cond.selects yX11_judge.cls yX11_judge yX11_judge ∈ lwG := ⟨mG 1091 (by decide +kernel) rfl, mG 1092 (by decide +kernel) rfl⟩
theorem mw_X11_behind : MW yX11_behind cX11_behind 4 (some .int) 2 := ⟨mG 1137 (by decide +kernel) rfl, mG 78 (by decide +kernel) rfl, (by decide +kernel), (by decide +kernel), (by decide +kernel)⟩
theorem iv_X11_behind : Cond.instanceMethod yX11_behind ∈ lwG ∧ Cond.selects yX11_behind.cls yX11_behind yX11_behind ∈ lwG := ⟨mG 1135 (by decide +kernel) rfl, mG 1136 (by decide +kernel) rfl⟩
theorem mw_X11_done : MW yX11_done cX11_done 1 (some .int) 0 := ⟨mG 1141 (by decide +kernel) rfl, mG 78 (by decide +kernel) rfl, (by decide +kernel), (by decide +kernel), (by decide +kernel)⟩
theorem iv_X11_done : Cond.instanceMethod yX11_done ∈ lwG ∧ Cond.selects yX11_done.cls yX11_done yX11_done ∈ lwG := ⟨mG 1139 (by decide +kernel) rfl, mG 1140 (by decide +kernel) rfl⟩
theorem mw_X11_state : MW yX11_state cX11_state 3 (some .int) 2 := ⟨mG 1145 (by decide +kernel) rfl, mG 78 (by decide +kernel) rfl, (by decide +kernel), (by decide +kernel), (by decide +kernel)⟩
theorem iv_X11_state : Cond.instanceMethod yX11_state ∈ lwG ∧ Cond.selects yX11_state.cls yX11_state yX11_state ∈ lwG := ⟨mG 1143 (by decide +kernel) rfl, mG 1144 (by decide +kernel) rfl⟩
theorem mw_X11_bare : MW yX11_bare cX11_bare 4 (some .int) 2 := ⟨mG 1149 (by decide +kernel) rfl, mG 78 (by decide +kernel) rfl, (by decide +kernel), (by decide +kernel), (by decide +kernel)⟩
theorem iv_X11_bare : Cond.instanceMethod yX11_bare ∈ lwG ∧ Cond.selects yX11_bare.cls yX11_bare yX11_bare ∈ lwG := ⟨mG 1147 (by decide +kernel) rfl, mG 1148 (by decide +kernel) rfl⟩
theorem mw_X11_all : MW yX11_all cX11_all 1 (some .int) 0 := ⟨mG 1180 (by decide +kernel) rfl, mG 78 (by decide +kernel) rfl, (by decide +kernel), (by decide +kernel), (by decide +kernel)⟩
theorem iv_X11_all : Cond.instanceMethod yX11_all ∈ lwG ∧ Cond.selects yX11_all.cls yX11_all yX11_all ∈ lwG := ⟨mG 1179 (by decide +kernel) rfl, mG 44 (by decide +kernel) rfl⟩
theorem mw_X11_lookNow : MW yX11_lookNow cX11_lookNow 3 (some .int) 0 := ⟨mG 1161 (by decide +kernel) rfl, mG 78 (by decide +kernel) rfl, (by decide +kernel), (by decide +kernel), (by decide +kernel)⟩
theorem iv_X11_lookNow : Cond.instanceMethod yX11_lookNow ∈ lwG ∧ Cond.selects yX11_lookNow.cls yX11_lookNow yX11_lookNow ∈ lwG := ⟨mG 1160 (by decide +kernel) rfl, mG 41 (by decide +kernel) rfl⟩
theorem mw_X11_wayIn : MW yX11_wayIn cX11_wayIn 2 (some .int) 2 := ⟨mG 1168 (by decide +kernel) rfl, mG 78 (by decide +kernel) rfl, (by decide +kernel), (by decide +kernel), (by decide +kernel)⟩
theorem sv_X11_wayIn : Cond.static yX11_wayIn ∈ lwG := mG 1167 (by decide +kernel) rfl
theorem mw_X11_saidTo : MW yX11_saidTo cX11_saidTo 6 (some .int) 2 := ⟨mG 1165 (by decide +kernel) rfl, mG 78 (by decide +kernel) rfl, (by decide +kernel), (by decide +kernel), (by decide +kernel)⟩
theorem iv_X11_saidTo : Cond.instanceMethod yX11_saidTo ∈ lwG ∧ Cond.selects yX11_saidTo.cls yX11_saidTo yX11_saidTo ∈ lwG := ⟨mG 1164 (by decide +kernel) rfl, mG 42 (by decide +kernel) rfl⟩
theorem mw_X11_quartersOf : MW yX11_quartersOf cX11_quartersOf 5 (some .int) 2 := ⟨mG 1205 (by decide +kernel) rfl, mG 78 (by decide +kernel) rfl, (by decide +kernel), (by decide +kernel), (by decide +kernel)⟩
theorem iv_X11_quartersOf : Cond.instanceMethod yX11_quartersOf ∈ lwG ∧ Cond.selects yX11_quartersOf.cls yX11_quartersOf yX11_quartersOf ∈ lwG := ⟨mG 1204 (by decide +kernel) rfl, mG 48 (by decide +kernel) rfl⟩
theorem mw_X11_spread : MW yX11_spread cX11_spread 5 none 1 := ⟨mG 1157 (by decide +kernel) rfl, mG 78 (by decide +kernel) rfl, (by decide +kernel), (by decide +kernel), (by decide +kernel)⟩
theorem iv_X11_spread : Cond.instanceMethod yX11_spread ∈ lwG ∧ Cond.selects yX11_spread.cls yX11_spread yX11_spread ∈ lwG := ⟨mG 1156 (by decide +kernel) rfl, mG 40 (by decide +kernel) rfl⟩
theorem mw_X11_reached : MW yX11_reached cX11_reached 1 (some .int) 0 := ⟨mG 1153 (by decide +kernel) rfl, mG 78 (by decide +kernel) rfl, (by decide +kernel), (by decide +kernel), (by decide +kernel)⟩
theorem iv_X11_reached : Cond.instanceMethod yX11_reached ∈ lwG ∧ Cond.selects yX11_reached.cls yX11_reached yX11_reached ∈ lwG := ⟨mG 1151 (by decide +kernel) rfl, mG 1152 (by decide +kernel) rfl⟩
theorem mw_X11_isNumber : MW yX11_isNumber cX11_isNumber 2 (some .boolean) 1 := ⟨mG 1176 (by decide +kernel) rfl, mG 78 (by decide +kernel) rfl, (by decide +kernel), (by decide +kernel), (by decide +kernel)⟩
theorem iv_X11_isNumber : Cond.instanceMethod yX11_isNumber ∈ lwG ∧ Cond.selects yX11_isNumber.cls yX11_isNumber yX11_isNumber ∈ lwG := ⟨mG 1175 (by decide +kernel) rfl, mG 43 (by decide +kernel) rfl⟩
theorem mw_X11_can : MW yX11_can cX11_can 2 (some .int) 1 := ⟨mG 1172 (by decide +kernel) rfl, mG 78 (by decide +kernel) rfl, (by decide +kernel), (by decide +kernel), (by decide +kernel)⟩
theorem iv_X11_can : Cond.instanceMethod yX11_can ∈ lwG ∧ Cond.selects yX11_can.cls yX11_can yX11_can ∈ lwG := ⟨mG 1170 (by decide +kernel) rfl, mG 1171 (by decide +kernel) rfl⟩
theorem mw_X11_isSet : MW yX11_isSet cX11_isSet 2 (some .boolean) 1 := ⟨mG 1188 (by decide +kernel) rfl, mG 78 (by decide +kernel) rfl, (by decide +kernel), (by decide +kernel), (by decide +kernel)⟩
theorem iv_X11_isSet : Cond.instanceMethod yX11_isSet ∈ lwG ∧ Cond.selects yX11_isSet.cls yX11_isSet yX11_isSet ∈ lwG := ⟨mG 1187 (by decide +kernel) rfl, mG 45 (by decide +kernel) rfl⟩
theorem mw_X11_isSo : MW yX11_isSo cX11_isSo 6 (some .boolean) 3 := ⟨mG 1196 (by decide +kernel) rfl, mG 78 (by decide +kernel) rfl, (by decide +kernel), (by decide +kernel), (by decide +kernel)⟩
theorem iv_X11_isSo : Cond.instanceMethod yX11_isSo ∈ lwG ∧ Cond.selects yX11_isSo.cls yX11_isSo yX11_isSo ∈ lwG := ⟨mG 1195 (by decide +kernel) rfl, mG 47 (by decide +kernel) rfl⟩
theorem mw_X11_firstSo : MW yX11_firstSo cX11_firstSo 5 (some .int) 3 := ⟨mG 1192 (by decide +kernel) rfl, mG 78 (by decide +kernel) rfl, (by decide +kernel), (by decide +kernel), (by decide +kernel)⟩
theorem iv_X11_firstSo : Cond.instanceMethod yX11_firstSo ∈ lwG ∧ Cond.selects yX11_firstSo.cls yX11_firstSo yX11_firstSo ∈ lwG := ⟨mG 1191 (by decide +kernel) rfl, mG 46 (by decide +kernel) rfl⟩
theorem mw_X11_spelled : MW yX11_spelled cX11_spelled 6 (some .int) 3 := ⟨mG 1184 (by decide +kernel) rfl, mG 78 (by decide +kernel) rfl, (by decide +kernel), (by decide +kernel), (by decide +kernel)⟩
theorem iv_X11_spelled : Cond.instanceMethod yX11_spelled ∈ lwG ∧ Cond.selects yX11_spelled.cls yX11_spelled yX11_spelled ∈ lwG := ⟨mG 1182 (by decide +kernel) rfl, mG 1183 (by decide +kernel) rfl⟩
theorem mw_X11_tired : MW yX11_tired cX11_tired 8 (some .int) 2 := ⟨mG 1200 (by decide +kernel) rfl, mG 78 (by decide +kernel) rfl, (by decide +kernel), (by decide +kernel), (by decide +kernel)⟩
theorem iv_X11_tired : Cond.instanceMethod yX11_tired ∈ lwG ∧ Cond.selects yX11_tired.cls yX11_tired yX11_tired ∈ lwG := ⟨mG 1198 (by decide +kernel) rfl, mG 1199 (by decide +kernel) rfl⟩
theorem mw_X11_isAbleBy : MW yX11_isAbleBy cX11_isAbleBy 8 (some .boolean) 4 := ⟨mG 1213 (by decide +kernel) rfl, mG 78 (by decide +kernel) rfl, (by decide +kernel), (by decide +kernel), (by decide +kernel)⟩
theorem iv_X11_isAbleBy : Cond.instanceMethod yX11_isAbleBy ∈ lwG ∧ Cond.selects yX11_isAbleBy.cls yX11_isAbleBy yX11_isAbleBy ∈ lwG := ⟨mG 1212 (by decide +kernel) rfl, mG 49 (by decide +kernel) rfl⟩
theorem mw_X11_able : MW yX11_able cX11_able 6 (some .int) 2 := ⟨mG 1209 (by decide +kernel) rfl, mG 78 (by decide +kernel) rfl, (by decide +kernel), (by decide +kernel), (by decide +kernel)⟩
theorem iv_X11_able : Cond.instanceMethod yX11_able ∈ lwG ∧ Cond.selects yX11_able.cls yX11_able yX11_able ∈ lwG := ⟨mG 1207 (by decide +kernel) rfl, mG 1208 (by decide +kernel) rfl⟩
theorem mw_X11_without : MW yX11_without cX11_without 6 (some .int) 3 := ⟨mG 1217 (by decide +kernel) rfl, mG 78 (by decide +kernel) rfl, (by decide +kernel), (by decide +kernel), (by decide +kernel)⟩
theorem iv_X11_without : Cond.instanceMethod yX11_without ∈ lwG ∧ Cond.selects yX11_without.cls yX11_without yX11_without ∈ lwG := ⟨mG 1215 (by decide +kernel) rfl, mG 1216 (by decide +kernel) rfl⟩
theorem mw_X11_layWanted : MW yX11_layWanted cX11_layWanted 6 (some .boolean) 2 := ⟨mG 1225 (by decide +kernel) rfl, mG 78 (by decide +kernel) rfl, (by decide +kernel), (by decide +kernel), (by decide +kernel)⟩
theorem iv_X11_layWanted : Cond.instanceMethod yX11_layWanted ∈ lwG ∧ Cond.selects yX11_layWanted.cls yX11_layWanted yX11_layWanted ∈ lwG := ⟨mG 1224 (by decide +kernel) rfl, mG 50 (by decide +kernel) rfl⟩
theorem mw_X11_broughtBy : MW yX11_broughtBy cX11_broughtBy 6 (some .int) 3 := ⟨mG 1232 (by decide +kernel) rfl, mG 78 (by decide +kernel) rfl, (by decide +kernel), (by decide +kernel), (by decide +kernel)⟩
theorem iv_X11_broughtBy : Cond.instanceMethod yX11_broughtBy ∈ lwG ∧ Cond.selects yX11_broughtBy.cls yX11_broughtBy yX11_broughtBy ∈ lwG := ⟨mG 1231 (by decide +kernel) rfl, mG 51 (by decide +kernel) rfl⟩
theorem mw_X11_round : MW yX11_round cX11_round 9 (some .int) 2 := ⟨mG 1221 (by decide +kernel) rfl, mG 78 (by decide +kernel) rfl, (by decide +kernel), (by decide +kernel), (by decide +kernel)⟩
theorem iv_X11_round : Cond.instanceMethod yX11_round ∈ lwG ∧ Cond.selects yX11_round.cls yX11_round yX11_round ∈ lwG := ⟨mG 1219 (by decide +kernel) rfl, mG 1220 (by decide +kernel) rfl⟩
theorem mw_X11_after : MW yX11_after cX11_after 4 (some .int) 3 := ⟨mG 1249 (by decide +kernel) rfl, mG 78 (by decide +kernel) rfl, (by decide +kernel), (by decide +kernel), (by decide +kernel)⟩
theorem iv_X11_after : Cond.instanceMethod yX11_after ∈ lwG ∧ Cond.selects yX11_after.cls yX11_after yX11_after ∈ lwG := ⟨mG 1248 (by decide +kernel) rfl, mG 54 (by decide +kernel) rfl⟩
theorem mw_X11_beginTwo : MW yX11_beginTwo cX11_beginTwo 5 none 2 := ⟨mG 1241 (by decide +kernel) rfl, mG 78 (by decide +kernel) rfl, (by decide +kernel), (by decide +kernel), (by decide +kernel)⟩
theorem iv_X11_beginTwo : Cond.instanceMethod yX11_beginTwo ∈ lwG ∧ Cond.selects yX11_beginTwo.cls yX11_beginTwo yX11_beginTwo ∈ lwG := ⟨mG 1240 (by decide +kernel) rfl, mG 52 (by decide +kernel) rfl⟩
theorem mw_X11_settle : MW yX11_settle cX11_settle 11 none 4 := ⟨mG 1245 (by decide +kernel) rfl, mG 78 (by decide +kernel) rfl, (by decide +kernel), (by decide +kernel), (by decide +kernel)⟩
theorem iv_X11_settle : Cond.instanceMethod yX11_settle ∈ lwG ∧ Cond.selects yX11_settle.cls yX11_settle yX11_settle ∈ lwG := ⟨mG 1244 (by decide +kernel) rfl, mG 53 (by decide +kernel) rfl⟩
theorem mw_X11_two : MW yX11_two cX11_two 11 (some .int) 6 := ⟨mG 1236 (by decide +kernel) rfl, mG 78 (by decide +kernel) rfl, (by decide +kernel), (by decide +kernel), (by decide +kernel)⟩
theorem iv_X11_two : Cond.instanceMethod yX11_two ∈ lwG ∧ Cond.selects yX11_two.cls yX11_two yX11_two ∈ lwG := ⟨mG 1234 (by decide +kernel) rfl, mG 1235 (by decide +kernel) rfl⟩
theorem mw_X11_wayTo : MW yX11_wayTo cX11_wayTo 4 (some .int) 2 := ⟨mG 1260 (by decide +kernel) rfl, mG 78 (by decide +kernel) rfl, (by decide +kernel), (by decide +kernel), (by decide +kernel)⟩
theorem sv_X11_wayTo : Cond.static yX11_wayTo ∈ lwG := mG 1259 (by decide +kernel) rfl
theorem mw_X11_distance : MW yX11_distance cX11_distance 5 (some .int) 2 := ⟨mG 1267 (by decide +kernel) rfl, mG 78 (by decide +kernel) rfl, (by decide +kernel), (by decide +kernel), (by decide +kernel)⟩
theorem sv_X11_distance : Cond.static yX11_distance ∈ lwG := mG 1266 (by decide +kernel) rfl
theorem mw_X11_isClear : MW yX11_isClear cX11_isClear 6 (some .boolean) 2 := ⟨mG 1264 (by decide +kernel) rfl, mG 78 (by decide +kernel) rfl, (by decide +kernel), (by decide +kernel), (by decide +kernel)⟩
theorem iv_X11_isClear : Cond.instanceMethod yX11_isClear ∈ lwG ∧ Cond.selects yX11_isClear.cls yX11_isClear yX11_isClear ∈ lwG := ⟨mG 1263 (by decide +kernel) rfl, mG 56 (by decide +kernel) rfl⟩
theorem mw_X11_pairsIn : MW yX11_pairsIn cX11_pairsIn 7 (some .int) 1 := ⟨mG 1257 (by decide +kernel) rfl, mG 78 (by decide +kernel) rfl, (by decide +kernel), (by decide +kernel), (by decide +kernel)⟩
theorem iv_X11_pairsIn : Cond.instanceMethod yX11_pairsIn ∈ lwG ∧ Cond.selects yX11_pairsIn.cls yX11_pairsIn yX11_pairsIn ∈ lwG := ⟨mG 1256 (by decide +kernel) rfl, mG 55 (by decide +kernel) rfl⟩
theorem mw_X11_pairs : MW yX11_pairs cX11_pairs 1 (some .int) 0 := ⟨mG 1253 (by decide +kernel) rfl, mG 78 (by decide +kernel) rfl, (by decide +kernel), (by decide +kernel), (by decide +kernel)⟩
theorem iv_X11_pairs : Cond.instanceMethod yX11_pairs ∈ lwG ∧ Cond.selects yX11_pairs.cls yX11_pairs yX11_pairs ∈ lwG := ⟨mG 1251 (by decide +kernel) rfl, mG 1252 (by decide +kernel) rfl⟩
theorem mw_X11_danced : MW yX11_danced cX11_danced 3 (some .int) 1 := ⟨mG 1271 (by decide +kernel) rfl, mG 78 (by decide +kernel) rfl, (by decide +kernel), (by decide +kernel), (by decide +kernel)⟩
theorem iv_X11_danced : Cond.instanceMethod yX11_danced ∈ lwG ∧ Cond.selects yX11_danced.cls yX11_danced yX11_danced ∈ lwG := ⟨mG 1269 (by decide +kernel) rfl, mG 1270 (by decide +kernel) rfl⟩
theorem mw_X11_lookingIn : MW yX11_lookingIn cX11_lookingIn 5 (some .int) 2 := ⟨mG 1280 (by decide +kernel) rfl, mG 78 (by decide +kernel) rfl, (by decide +kernel), (by decide +kernel), (by decide +kernel)⟩
theorem iv_X11_lookingIn : Cond.instanceMethod yX11_lookingIn ∈ lwG ∧ Cond.selects yX11_lookingIn.cls yX11_lookingIn yX11_lookingIn ∈ lwG := ⟨mG 1279 (by decide +kernel) rfl, mG 57 (by decide +kernel) rfl⟩
theorem mw_X11_elected : MW yX11_elected cX11_elected 3 (some .int) 0 := ⟨mG 1276 (by decide +kernel) rfl, mG 78 (by decide +kernel) rfl, (by decide +kernel), (by decide +kernel), (by decide +kernel)⟩
theorem iv_X11_elected : Cond.instanceMethod yX11_elected ∈ lwG ∧ Cond.selects yX11_elected.cls yX11_elected yX11_elected ∈ lwG := ⟨mG 1274 (by decide +kernel) rfl, mG 1275 (by decide +kernel) rfl⟩
theorem mw_X11_majority : MW yX11_majority cX11_majority 3 (some .int) 1 := ⟨mG 1284 (by decide +kernel) rfl, mG 78 (by decide +kernel) rfl, (by decide +kernel), (by decide +kernel), (by decide +kernel)⟩
theorem iv_X11_majority : Cond.instanceMethod yX11_majority ∈ lwG ∧ Cond.selects yX11_majority.cls yX11_majority yX11_majority ∈ lwG := ⟨mG 1282 (by decide +kernel) rfl, mG 1283 (by decide +kernel) rfl⟩
theorem mw_X11_seen : MW yX11_seen cX11_seen 4 (some .int) 3 := ⟨mG 1288 (by decide +kernel) rfl, mG 78 (by decide +kernel) rfl, (by decide +kernel), (by decide +kernel), (by decide +kernel)⟩
theorem iv_X11_seen : Cond.instanceMethod yX11_seen ∈ lwG ∧ Cond.selects yX11_seen.cls yX11_seen yX11_seen ∈ lwG := ⟨mG 1286 (by decide +kernel) rfl, mG 1287 (by decide +kernel) rfl⟩
theorem mw_X11_forget : MW yX11_forget cX11_forget 2 (some .int) 0 := ⟨mG 1293 (by decide +kernel) rfl, mG 78 (by decide +kernel) rfl, (by decide +kernel), (by decide +kernel), (by decide +kernel)⟩
theorem iv_X11_forget : Cond.instanceMethod yX11_forget ∈ lwG ∧ Cond.selects yX11_forget.cls yX11_forget yX11_forget ∈ lwG := ⟨mG 1291 (by decide +kernel) rfl, mG 1292 (by decide +kernel) rfl⟩
theorem mw_X11_isSeenSo : MW yX11_isSeenSo cX11_isSeenSo 4 (some .boolean) 1 := ⟨mG 1313 (by decide +kernel) rfl, mG 78 (by decide +kernel) rfl, (by decide +kernel), (by decide +kernel), (by decide +kernel)⟩
theorem iv_X11_isSeenSo : Cond.instanceMethod yX11_isSeenSo ∈ lwG ∧ Cond.selects yX11_isSeenSo.cls yX11_isSeenSo yX11_isSeenSo ∈ lwG := ⟨mG 1312 (by decide +kernel) rfl, mG 61 (by decide +kernel) rfl⟩
theorem mw_X11_isTrack : MW yX11_isTrack cX11_isTrack 4 (some .boolean) 1 := ⟨mG 1309 (by decide +kernel) rfl, mG 78 (by decide +kernel) rfl, (by decide +kernel), (by decide +kernel), (by decide +kernel)⟩
theorem iv_X11_isTrack : Cond.instanceMethod yX11_isTrack ∈ lwG ∧ Cond.selects yX11_isTrack.cls yX11_isTrack yX11_isTrack ∈ lwG := ⟨mG 1308 (by decide +kernel) rfl, mG 60 (by decide +kernel) rfl⟩
theorem mw_X11_isUnread : MW yX11_isUnread cX11_isUnread 3 (some .boolean) 0 := ⟨mG 1301 (by decide +kernel) rfl, mG 78 (by decide +kernel) rfl, (by decide +kernel), (by decide +kernel), (by decide +kernel)⟩
theorem iv_X11_isUnread : Cond.instanceMethod yX11_isUnread ∈ lwG ∧ Cond.selects yX11_isUnread.cls yX11_isUnread yX11_isUnread ∈ lwG := ⟨mG 1300 (by decide +kernel) rfl, mG 58 (by decide +kernel) rfl⟩
theorem mw_X11_findTracks : MW yX11_findTracks cX11_findTracks 3 none 0 := ⟨mG 1305 (by decide +kernel) rfl, mG 78 (by decide +kernel) rfl, (by decide +kernel), (by decide +kernel), (by decide +kernel)⟩
theorem iv_X11_findTracks : Cond.instanceMethod yX11_findTracks ∈ lwG ∧ Cond.selects yX11_findTracks.cls yX11_findTracks yX11_findTracks ∈ lwG := ⟨mG 1304 (by decide +kernel) rfl, mG 59 (by decide +kernel) rfl⟩
theorem mw_X11_tracks : MW yX11_tracks cX11_tracks 2 (some .int) 1 := ⟨mG 1297 (by decide +kernel) rfl, mG 78 (by decide +kernel) rfl, (by decide +kernel), (by decide +kernel), (by decide +kernel)⟩
theorem iv_X11_tracks : Cond.instanceMethod yX11_tracks ∈ lwG ∧ Cond.selects yX11_tracks.cls yX11_tracks yX11_tracks ∈ lwG := ⟨mG 1295 (by decide +kernel) rfl, mG 1296 (by decide +kernel) rfl⟩
theorem mw_X11_looked : MW yX11_looked cX11_looked 2 (some .int) 1 := ⟨mG 1317 (by decide +kernel) rfl, mG 78 (by decide +kernel) rfl, (by decide +kernel), (by decide +kernel), (by decide +kernel)⟩
theorem iv_X11_looked : Cond.instanceMethod yX11_looked ∈ lwG ∧ Cond.selects yX11_looked.cls yX11_looked yX11_looked ∈ lwG := ⟨mG 1315 (by decide +kernel) rfl, mG 1316 (by decide +kernel) rfl⟩
theorem mw_X11_lowest : MW yX11_lowest cX11_lowest 11 (some .long) 3 := ⟨mG 1328 (by decide +kernel) rfl, mG 78 (by decide +kernel) rfl, (by decide +kernel), (by decide +kernel), (by decide +kernel)⟩
theorem sv_X11_lowest : Cond.static yX11_lowest ∈ lwG := mG 1327 (by decide +kernel) rfl
theorem mw_X11_storm : MW yX11_storm cX11_storm 15 (some .long) 5 := ⟨mG 1321 (by decide +kernel) rfl, mG 78 (by decide +kernel) rfl, (by decide +kernel), (by decide +kernel), (by decide +kernel)⟩
theorem iv_X11_storm : Cond.instanceMethod yX11_storm ∈ lwG ∧ Cond.selects yX11_storm.cls yX11_storm yX11_storm ∈ lwG := ⟨mG 1319 (by decide +kernel) rfl, mG 1320 (by decide +kernel) rfl⟩
theorem mw_X11_ninety : MW yX11_ninety cX11_ninety 6 (some .int) 3 := ⟨mG 1332 (by decide +kernel) rfl, mG 78 (by decide +kernel) rfl, (by decide +kernel), (by decide +kernel), (by decide +kernel)⟩
theorem iv_X11_ninety : Cond.instanceMethod yX11_ninety ∈ lwG ∧ Cond.selects yX11_ninety.cls yX11_ninety yX11_ninety ∈ lwG := ⟨mG 1330 (by decide +kernel) rfl, mG 1331 (by decide +kernel) rfl⟩
theorem mw_X11_pass : MW yX11_pass cX11_pass 3 (some .int) 1 := ⟨mG 1349 (by decide +kernel) rfl, mG 78 (by decide +kernel) rfl, (by decide +kernel), (by decide +kernel), (by decide +kernel)⟩
theorem iv_X11_pass : Cond.instanceMethod yX11_pass ∈ lwG ∧ Cond.selects yX11_pass.cls yX11_pass yX11_pass ∈ lwG := ⟨mG 1348 (by decide +kernel) rfl, mG 63 (by decide +kernel) rfl⟩
theorem mw_X11_passAll : MW yX11_passAll cX11_passAll 2 none 0 := ⟨mG 1345 (by decide +kernel) rfl, mG 78 (by decide +kernel) rfl, (by decide +kernel), (by decide +kernel), (by decide +kernel)⟩
theorem iv_X11_passAll : Cond.instanceMethod yX11_passAll ∈ lwG ∧ Cond.selects yX11_passAll.cls yX11_passAll yX11_passAll ∈ lwG := ⟨mG 1344 (by decide +kernel) rfl, mG 62 (by decide +kernel) rfl⟩
theorem mw_X11_image : MW yX11_image cX11_image 2 (some .int) 1 := ⟨mG 1341 (by decide +kernel) rfl, mG 78 (by decide +kernel) rfl, (by decide +kernel), (by decide +kernel), (by decide +kernel)⟩
theorem iv_X11_image : Cond.instanceMethod yX11_image ∈ lwG ∧ Cond.selects yX11_image.cls yX11_image yX11_image ∈ lwG := ⟨mG 1339 (by decide +kernel) rfl, mG 1340 (by decide +kernel) rfl⟩
theorem mw_X11_restore : MW yX11_restore cX11_restore 2 (some .int) 1 := ⟨mG 1353 (by decide +kernel) rfl, mG 78 (by decide +kernel) rfl, (by decide +kernel), (by decide +kernel), (by decide +kernel)⟩
theorem iv_X11_restore : Cond.instanceMethod yX11_restore ∈ lwG ∧ Cond.selects yX11_restore.cls yX11_restore yX11_restore ∈ lwG := ⟨mG 1351 (by decide +kernel) rfl, mG 1352 (by decide +kernel) rfl⟩
theorem mw_X11_toldOfHut : MW yX11_toldOfHut cX11_toldOfHut 3 (some .int) 2 := ⟨mG 1364 (by decide +kernel) rfl, mG 78 (by decide +kernel) rfl, (by decide +kernel), (by decide +kernel), (by decide +kernel)⟩
theorem iv_X11_toldOfHut : Cond.instanceMethod yX11_toldOfHut ∈ lwG ∧ Cond.selects yX11_toldOfHut.cls yX11_toldOfHut yX11_toldOfHut ∈ lwG := ⟨mG 1363 (by decide +kernel) rfl, mG 64 (by decide +kernel) rfl⟩
theorem mw_X11_told : MW yX11_told cX11_told 4 (some .int) 1 := ⟨mG 1357 (by decide +kernel) rfl, mG 78 (by decide +kernel) rfl, (by decide +kernel), (by decide +kernel), (by decide +kernel)⟩
theorem iv_X11_told : Cond.instanceMethod yX11_told ∈ lwG ∧ Cond.selects yX11_told.cls yX11_told yX11_told ∈ lwG := ⟨mG 1355 (by decide +kernel) rfl, mG 1356 (by decide +kernel) rfl⟩
theorem mw_J6_numberOfTrailingZeros_0f7a4 : MW yJ6_numberOfTrailingZeros_0f7a4 cJ6_numberOfTrailingZeros_0f7a4 2 (some .int) 1 := ⟨mG 719 (by decide +kernel) rfl, mG 79 (by decide +kernel) rfl, (by decide +kernel), (by decide +kernel), (by decide +kernel)⟩
theorem sv_J6_numberOfTrailingZeros_0f7a4 : Cond.static yJ6_numberOfTrailingZeros_0f7a4 ∈ lwG := mG 718 (by decide +kernel) rfl
theorem mw_J6_bitCount_0f7a4 : MW yJ6_bitCount_0f7a4 cJ6_bitCount_0f7a4 1 (some .int) 1 := ⟨mG 475 (by decide +kernel) rfl, mG 79 (by decide +kernel) rfl, (by decide +kernel), (by decide +kernel), (by decide +kernel)⟩
theorem sv_J6_bitCount_0f7a4 : Cond.static yJ6_bitCount_0f7a4 ∈ lwG := mG 474 (by decide +kernel) rfl
theorem mw_J9_max_7cf53 : MW yJ9_max_7cf53 cJ9_max_7cf53 2 (some .int) 2 := ⟨mG 655 (by decide +kernel) rfl, mG 81 (by decide +kernel) rfl, (by decide +kernel), (by decide +kernel), (by decide +kernel)⟩
theorem sv_J9_max_7cf53 : Cond.static yJ9_max_7cf53 ∈ lwG := mG 654 (by decide +kernel) rfl
theorem mw_J9_max_f86c9 : MW yJ9_max_f86c9 cJ9_max_f86c9 4 (some .long) 2 := ⟨mG 851 (by decide +kernel) rfl, mG 81 (by decide +kernel) rfl, (by decide +kernel), (by decide +kernel), (by decide +kernel)⟩
theorem sv_J9_max_f86c9 : Cond.static yJ9_max_f86c9 ∈ lwG := mG 850 (by decide +kernel) rfl
theorem mw_J9_min_7cf53 : MW yJ9_min_7cf53 cJ9_min_7cf53 2 (some .int) 2 := ⟨mG 581 (by decide +kernel) rfl, mG 81 (by decide +kernel) rfl, (by decide +kernel), (by decide +kernel), (by decide +kernel)⟩
theorem sv_J9_min_7cf53 : Cond.static yJ9_min_7cf53 ∈ lwG := mG 580 (by decide +kernel) rfl
theorem mw_J7_fill_53178 : MW yJ7_fill_53178 cJ7_fill_53178 4 none 2 := ⟨mG 102 (by decide +kernel) rfl, mG 68 (by decide +kernel) rfl, (by decide +kernel), (by decide +kernel), (by decide +kernel)⟩
theorem sv_J7_fill_53178 : Cond.static yJ7_fill_53178 ∈ lwG := mG 101 (by decide +kernel) rfl
theorem cl_L_7 : Cond.classLink RL 7 RX10 ∈ lwG := mG 82 (by decide +kernel) rfl
theorem in_X10 : Cond.instantiable RX10 11 ∈ lwG ∧ Cond.initialized RX10 ∈ lwG := ⟨mG 83 (by decide +kernel) rfl, mG 66 (by decide +kernel) rfl⟩
theorem ml_L_9 : Cond.methodLink RL 9 yX10_init ∈ lwG := mG 84 (by decide +kernel) rfl
theorem oi_X10 : Cond.methodLink RX10 3 objectInit ∈ lwG := mG 87 (by decide +kernel) rfl
theorem cl_X10_9 : Cond.classLink RX10 9 RX9 ∈ lwG := mG 90 (by decide +kernel) rfl
theorem in_X9 : Cond.instantiable RX9 12 ∈ lwG ∧ Cond.initialized RX9 ∈ lwG := ⟨mG 91 (by decide +kernel) rfl, mG 67 (by decide +kernel) rfl⟩
theorem ml_X10_11 : Cond.methodLink RX10 11 yX9_init ∈ lwG := mG 92 (by decide +kernel) rfl
theorem oi_X9 : Cond.methodLink RX9 3 objectInit ∈ lwG := mG 95 (by decide +kernel) rfl
theorem ml_X9_39 : Cond.methodLink RX9 39 yX9_plant ∈ lwG := mG 96 (by decide +kernel) rfl
theorem ml_X9_53 : Cond.methodLink RX9 53 yJ7_fill_53178 ∈ lwG := mG 100 (by decide +kernel) rfl
theorem fl_X9_43 : FL RX9 43 9 0 := FL.mk (q := (RX9, TX9, 12)) 103 rfl (by decide) (by decide +kernel)
theorem fl_X1_25 : FL RX1 25 9 0 := FL.mk (q := (RX9, TX9, 12)) 104 rfl (by decide) (by decide +kernel)
theorem fl_X6_28 : FL RX6 28 9 0 := FL.mk (q := (RX9, TX9, 12)) 105 rfl (by decide) (by decide +kernel)
theorem fl_X8_22 : FL RX8 22 9 0 := FL.mk (q := (RX9, TX9, 12)) 106 rfl (by decide) (by decide +kernel)
theorem fl_X10_80 : FL RX10 80 9 0 := FL.mk (q := (RX9, TX9, 12)) 107 rfl (by decide) (by decide +kernel)
theorem fl_X3_59 : FL RX3 59 9 0 := FL.mk (q := (RX9, TX9, 12)) 108 rfl (by decide) (by decide +kernel)
theorem fl_X7_30 : FL RX7 30 9 0 := FL.mk (q := (RX9, TX9, 12)) 109 rfl (by decide) (by decide +kernel)
theorem fl_X5_67 : FL RX5 67 9 0 := FL.mk (q := (RX9, TX9, 12)) 110 rfl (by decide) (by decide +kernel)
theorem fl_X2_92 : FL RX2 92 9 0 := FL.mk (q := (RX9, TX9, 12)) 111 rfl (by decide) (by decide +kernel)
theorem fl_X9_47 : FL RX9 47 9 1 := FL.mk (q := (RX9, TX9, 12)) 112 rfl (by decide) (by decide +kernel)
theorem fl_X6_33 : FL RX6 33 9 1 := FL.mk (q := (RX9, TX9, 12)) 113 rfl (by decide) (by decide +kernel)
theorem fl_X5_64 : FL RX5 64 9 1 := FL.mk (q := (RX9, TX9, 12)) 114 rfl (by decide) (by decide +kernel)
theorem fl_X10_128 : FL RX10 128 9 1 := FL.mk (q := (RX9, TX9, 12)) 115 rfl (by decide) (by decide +kernel)
theorem fl_X9_50 : FL RX9 50 9 2 := FL.mk (q := (RX9, TX9, 12)) 116 rfl (by decide) (by decide +kernel)
theorem fl_X8_76 : FL RX8 76 9 2 := FL.mk (q := (RX9, TX9, 12)) 117 rfl (by decide) (by decide +kernel)
theorem fl_X10_249 : FL RX10 249 9 2 := FL.mk (q := (RX9, TX9, 12)) 118 rfl (by decide) (by decide +kernel)
theorem fl_X9_9 : FL RX9 9 9 3 := FL.mk (q := (RX9, TX9, 12)) 119 rfl (by decide) (by decide +kernel)
theorem fl_X3_26 : FL RX3 26 9 3 := FL.mk (q := (RX9, TX9, 12)) 120 rfl (by decide) (by decide +kernel)
theorem fl_X2_34 : FL RX2 34 9 3 := FL.mk (q := (RX9, TX9, 12)) 121 rfl (by decide) (by decide +kernel)
theorem fl_X10_168 : FL RX10 168 9 3 := FL.mk (q := (RX9, TX9, 12)) 122 rfl (by decide) (by decide +kernel)
theorem fl_X9_15 : FL RX9 15 9 4 := FL.mk (q := (RX9, TX9, 12)) 123 rfl (by decide) (by decide +kernel)
theorem fl_X3_37 : FL RX3 37 9 4 := FL.mk (q := (RX9, TX9, 12)) 124 rfl (by decide) (by decide +kernel)
theorem fl_X2_43 : FL RX2 43 9 4 := FL.mk (q := (RX9, TX9, 12)) 125 rfl (by decide) (by decide +kernel)
theorem fl_X8_40 : FL RX8 40 9 4 := FL.mk (q := (RX9, TX9, 12)) 126 rfl (by decide) (by decide +kernel)
theorem fl_X10_169 : FL RX10 169 9 4 := FL.mk (q := (RX9, TX9, 12)) 127 rfl (by decide) (by decide +kernel)
theorem fl_X9_18 : FL RX9 18 9 5 := FL.mk (q := (RX9, TX9, 12)) 128 rfl (by decide) (by decide +kernel)
theorem fl_X8_59 : FL RX8 59 9 5 := FL.mk (q := (RX9, TX9, 12)) 129 rfl (by decide) (by decide +kernel)
theorem fl_X2_101 : FL RX2 101 9 5 := FL.mk (q := (RX9, TX9, 12)) 130 rfl (by decide) (by decide +kernel)
theorem fl_X10_310 : FL RX10 310 9 5 := FL.mk (q := (RX9, TX9, 12)) 131 rfl (by decide) (by decide +kernel)
theorem fl_X9_21 : FL RX9 21 9 6 := FL.mk (q := (RX9, TX9, 12)) 132 rfl (by decide) (by decide +kernel)
theorem fl_X10_313 : FL RX10 313 9 6 := FL.mk (q := (RX9, TX9, 12)) 133 rfl (by decide) (by decide +kernel)
theorem fl_X9_24 : FL RX9 24 9 7 := FL.mk (q := (RX9, TX9, 12)) 134 rfl (by decide) (by decide +kernel)
theorem fl_X1_30 : FL RX1 30 9 7 := FL.mk (q := (RX9, TX9, 12)) 135 rfl (by decide) (by decide +kernel)
theorem fl_X10_316 : FL RX10 316 9 7 := FL.mk (q := (RX9, TX9, 12)) 136 rfl (by decide) (by decide +kernel)
theorem fl_X9_27 : FL RX9 27 9 8 := FL.mk (q := (RX9, TX9, 12)) 137 rfl (by decide) (by decide +kernel)
theorem fl_X10_121 : FL RX10 121 9 8 := FL.mk (q := (RX9, TX9, 12)) 138 rfl (by decide) (by decide +kernel)
theorem fl_X9_30 : FL RX9 30 9 9 := FL.mk (q := (RX9, TX9, 12)) 139 rfl (by decide) (by decide +kernel)
theorem fl_X8_79 : FL RX8 79 9 9 := FL.mk (q := (RX9, TX9, 12)) 140 rfl (by decide) (by decide +kernel)
theorem fl_X9_33 : FL RX9 33 9 10 := FL.mk (q := (RX9, TX9, 12)) 141 rfl (by decide) (by decide +kernel)
theorem fl_X8_82 : FL RX8 82 9 10 := FL.mk (q := (RX9, TX9, 12)) 142 rfl (by decide) (by decide +kernel)
theorem fl_X9_36 : FL RX9 36 9 11 := FL.mk (q := (RX9, TX9, 12)) 143 rfl (by decide) (by decide +kernel)
theorem fl_X8_85 : FL RX8 85 9 11 := FL.mk (q := (RX9, TX9, 12)) 144 rfl (by decide) (by decide +kernel)
theorem ac_int : Cond.arrayClass .int ∈ lwG := mG 170 (by decide +kernel) rfl
theorem cl_X10_24 : Cond.classLink RX10 24 RX4 ∈ lwG := mG 172 (by decide +kernel) rfl
theorem in_X4 : Cond.instantiable RX4 2 ∈ lwG ∧ Cond.initialized RX4 ∈ lwG := ⟨mG 173 (by decide +kernel) rfl, mG 69 (by decide +kernel) rfl⟩
theorem mn_X10_26 : Cond.methodLinkNest RX10 26 yX4_init "HenHuts" ∈ lwN := mN 174 (by decide +kernel) rfl
theorem oi_X4 : Cond.methodLink RX4 3 objectInit ∈ lwG := mG 177 (by decide +kernel) rfl
theorem fl_X4_15 : FL RX4 15 4 0 := FL.mk (q := (RX4, TX4, 2)) 178 rfl (by decide) (by decide +kernel)
theorem fl_X2_48 : FL RX2 48 4 0 := FL.mk (q := (RX4, TX4, 2)) 179 rfl (by decide) (by decide +kernel)
theorem fl_X8_47 : FL RX8 47 4 0 := FL.mk (q := (RX4, TX4, 2)) 180 rfl (by decide) (by decide +kernel)
theorem fl_X10_301 : FL RX10 301 4 0 := FL.mk (q := (RX4, TX4, 2)) 181 rfl (by decide) (by decide +kernel)
theorem fl_X4_9 : FL RX4 9 4 1 := FL.mk (q := (RX4, TX4, 2)) 182 rfl (by decide) (by decide +kernel)
theorem fl_X2_53 : FL RX2 53 4 1 := FL.mk (q := (RX4, TX4, 2)) 183 rfl (by decide) (by decide +kernel)
theorem fl_X8_52 : FL RX8 52 4 1 := FL.mk (q := (RX4, TX4, 2)) 184 rfl (by decide) (by decide +kernel)
theorem ac_boolean : Cond.arrayClass .boolean ∈ lwG := mG 190 (by decide +kernel) rfl
theorem cl_X10_31 : Cond.classLink RX10 31 RX2 ∈ lwG := mG 191 (by decide +kernel) rfl
theorem in_X2 : Cond.instantiable RX2 7 ∈ lwG ∧ Cond.initialized RX2 ∈ lwG := ⟨mG 192 (by decide +kernel) rfl, mG 70 (by decide +kernel) rfl⟩
theorem mn_X10_33 : Cond.methodLinkNest RX10 33 yX2_init "HenHuts" ∈ lwN := mN 193 (by decide +kernel) rfl
theorem oi_X2 : Cond.methodLink RX2 3 objectInit ∈ lwG := mG 196 (by decide +kernel) rfl
theorem fl_X2_18 : FL RX2 18 2 0 := FL.mk (q := (RX2, TX2, 7)) 197 rfl (by decide) (by decide +kernel)
theorem fl_X10_149 : FL RX10 149 2 0 := FL.mk (q := (RX2, TX2, 7)) 198 rfl (by decide) (by decide +kernel)
theorem fl_X2_22 : FL RX2 22 2 1 := FL.mk (q := (RX2, TX2, 7)) 199 rfl (by decide) (by decide +kernel)
theorem fl_X10_295 : FL RX10 295 2 1 := FL.mk (q := (RX2, TX2, 7)) 200 rfl (by decide) (by decide +kernel)
theorem fl_X2_25 : FL RX2 25 2 2 := FL.mk (q := (RX2, TX2, 7)) 201 rfl (by decide) (by decide +kernel)
theorem fl_X10_152 : FL RX10 152 2 2 := FL.mk (q := (RX2, TX2, 7)) 202 rfl (by decide) (by decide +kernel)
theorem fl_X2_28 : FL RX2 28 2 3 := FL.mk (q := (RX2, TX2, 7)) 203 rfl (by decide) (by decide +kernel)
theorem fl_X10_146 : FL RX10 146 2 3 := FL.mk (q := (RX2, TX2, 7)) 204 rfl (by decide) (by decide +kernel)
theorem fl_X2_31 : FL RX2 31 2 4 := FL.mk (q := (RX2, TX2, 7)) 205 rfl (by decide) (by decide +kernel)
theorem fl_X10_143 : FL RX10 143 2 4 := FL.mk (q := (RX2, TX2, 7)) 206 rfl (by decide) (by decide +kernel)
theorem fl_X2_9 : FL RX2 9 2 5 := FL.mk (q := (RX2, TX2, 7)) 207 rfl (by decide) (by decide +kernel)
theorem fl_X10_158 : FL RX10 158 2 5 := FL.mk (q := (RX2, TX2, 7)) 208 rfl (by decide) (by decide +kernel)
theorem fl_X2_15 : FL RX2 15 2 6 := FL.mk (q := (RX2, TX2, 7)) 209 rfl (by decide) (by decide +kernel)
theorem fl_X10_161 : FL RX10 161 2 6 := FL.mk (q := (RX2, TX2, 7)) 210 rfl (by decide) (by decide +kernel)
theorem cl_X10_38 : Cond.classLink RX10 38 RX5 ∈ lwG := mG 226 (by decide +kernel) rfl
theorem in_X5 : Cond.instantiable RX5 5 ∈ lwG ∧ Cond.initialized RX5 ∈ lwG := ⟨mG 227 (by decide +kernel) rfl, mG 71 (by decide +kernel) rfl⟩
theorem mn_X10_40 : Cond.methodLinkNest RX10 40 yX5_init "HenHuts" ∈ lwN := mN 228 (by decide +kernel) rfl
theorem oi_X5 : Cond.methodLink RX5 3 objectInit ∈ lwG := mG 231 (by decide +kernel) rfl
theorem cl_X5_9 : Cond.classLink RX5 9 RX7 ∈ lwG := mG 232 (by decide +kernel) rfl
theorem in_X7 : Cond.instantiable RX7 2 ∈ lwG ∧ Cond.initialized RX7 ∈ lwG := ⟨mG 233 (by decide +kernel) rfl, mG 72 (by decide +kernel) rfl⟩
theorem mn_X5_11 : Cond.methodLinkNest RX5 11 yX7_init "HenHuts" ∈ lwN := mN 234 (by decide +kernel) rfl
theorem oi_X7 : Cond.methodLink RX7 3 objectInit ∈ lwG := mG 237 (by decide +kernel) rfl
theorem fl_X7_9 : FL RX7 9 7 0 := FL.mk (q := (RX7, TX7, 2)) 238 rfl (by decide) (by decide +kernel)
theorem fl_X7_15 : FL RX7 15 7 1 := FL.mk (q := (RX7, TX7, 2)) 239 rfl (by decide) (by decide +kernel)
theorem fl_X5_44 : FL RX5 44 5 0 := FL.mk (q := (RX5, TX5, 5)) 245 rfl (by decide) (by decide +kernel)
theorem fl_X10_176 : FL RX10 176 5 0 := FL.mk (q := (RX5, TX5, 5)) 246 rfl (by decide) (by decide +kernel)
theorem fl_X5_12 : FL RX5 12 5 1 := FL.mk (q := (RX5, TX5, 5)) 247 rfl (by decide) (by decide +kernel)
theorem fl_X10_210 : FL RX10 210 5 1 := FL.mk (q := (RX5, TX5, 5)) 248 rfl (by decide) (by decide +kernel)
theorem fl_X5_18 : FL RX5 18 5 2 := FL.mk (q := (RX5, TX5, 5)) 249 rfl (by decide) (by decide +kernel)
theorem fl_X10_240 : FL RX10 240 5 2 := FL.mk (q := (RX5, TX5, 5)) 250 rfl (by decide) (by decide +kernel)
theorem fl_X5_22 : FL RX5 22 5 3 := FL.mk (q := (RX5, TX5, 5)) 251 rfl (by decide) (by decide +kernel)
theorem fl_X10_182 : FL RX10 182 5 3 := FL.mk (q := (RX5, TX5, 5)) 252 rfl (by decide) (by decide +kernel)
theorem fl_X5_25 : FL RX5 25 5 4 := FL.mk (q := (RX5, TX5, 5)) 253 rfl (by decide) (by decide +kernel)
theorem cl_X10_45 : Cond.classLink RX10 45 RX3 ∈ lwG := mG 265 (by decide +kernel) rfl
theorem in_X3 : Cond.instantiable RX3 4 ∈ lwG ∧ Cond.initialized RX3 ∈ lwG := ⟨mG 266 (by decide +kernel) rfl, mG 73 (by decide +kernel) rfl⟩
theorem mn_X10_47 : Cond.methodLinkNest RX10 47 yX3_init "HenHuts" ∈ lwN := mN 267 (by decide +kernel) rfl
theorem oi_X3 : Cond.methodLink RX3 3 objectInit ∈ lwG := mG 270 (by decide +kernel) rfl
theorem cl_X3_9 : Cond.classLink RX3 9 "[[I" ∈ lwG := mG 271 (by decide +kernel) rfl
theorem fl_X3_19 : FL RX3 19 3 0 := FL.mk (q := (RX3, TX3, 4)) 273 rfl (by decide) (by decide +kernel)
theorem fl_X3_23 : FL RX3 23 3 1 := FL.mk (q := (RX3, TX3, 4)) 274 rfl (by decide) (by decide +kernel)
theorem fl_X3_11 : FL RX3 11 3 2 := FL.mk (q := (RX3, TX3, 4)) 275 rfl (by decide) (by decide +kernel)
theorem fl_X3_16 : FL RX3 16 3 3 := FL.mk (q := (RX3, TX3, 4)) 276 rfl (by decide) (by decide +kernel)
theorem cl_X10_52 : Cond.classLink RX10 52 RX6 ∈ lwG := mG 286 (by decide +kernel) rfl
theorem in_X6 : Cond.instantiable RX6 5 ∈ lwG ∧ Cond.initialized RX6 ∈ lwG := ⟨mG 287 (by decide +kernel) rfl, mG 74 (by decide +kernel) rfl⟩
theorem mn_X10_54 : Cond.methodLinkNest RX10 54 yX6_init "HenHuts" ∈ lwN := mN 288 (by decide +kernel) rfl
theorem oi_X6 : Cond.methodLink RX6 3 objectInit ∈ lwG := mG 291 (by decide +kernel) rfl
theorem fl_X6_21 : FL RX6 21 6 0 := FL.mk (q := (RX6, TX6, 5)) 292 rfl (by decide) (by decide +kernel)
theorem fl_X6_25 : FL RX6 25 6 1 := FL.mk (q := (RX6, TX6, 5)) 293 rfl (by decide) (by decide +kernel)
theorem fl_X6_9 : FL RX6 9 6 2 := FL.mk (q := (RX6, TX6, 5)) 294 rfl (by decide) (by decide +kernel)
theorem fl_X6_15 : FL RX6 15 6 3 := FL.mk (q := (RX6, TX6, 5)) 295 rfl (by decide) (by decide +kernel)
theorem fl_X6_18 : FL RX6 18 6 4 := FL.mk (q := (RX6, TX6, 5)) 296 rfl (by decide) (by decide +kernel)
theorem cl_X10_59 : Cond.classLink RX10 59 RX0 ∈ lwG := mG 308 (by decide +kernel) rfl
theorem in_X0 : Cond.instantiable RX0 2 ∈ lwG ∧ Cond.initialized RX0 ∈ lwG := ⟨mG 309 (by decide +kernel) rfl, mG 75 (by decide +kernel) rfl⟩
theorem mn_X10_61 : Cond.methodLinkNest RX10 61 yX0_init "HenHuts" ∈ lwN := mN 310 (by decide +kernel) rfl
theorem oi_X0 : Cond.methodLink RX0 3 objectInit ∈ lwG := mG 313 (by decide +kernel) rfl
theorem fl_X0_9 : FL RX0 9 0 0 := FL.mk (q := (RX0, TX0, 2)) 314 rfl (by decide) (by decide +kernel)
theorem fl_X10_225 : FL RX10 225 0 0 := FL.mk (q := (RX0, TX0, 2)) 315 rfl (by decide) (by decide +kernel)
theorem fl_X0_15 : FL RX0 15 0 1 := FL.mk (q := (RX0, TX0, 2)) 316 rfl (by decide) (by decide +kernel)
theorem fl_X10_228 : FL RX10 228 0 1 := FL.mk (q := (RX0, TX0, 2)) 317 rfl (by decide) (by decide +kernel)
theorem cl_X10_66 : Cond.classLink RX10 66 RX1 ∈ lwG := mG 323 (by decide +kernel) rfl
theorem in_X1 : Cond.instantiable RX1 4 ∈ lwG ∧ Cond.initialized RX1 ∈ lwG := ⟨mG 324 (by decide +kernel) rfl, mG 76 (by decide +kernel) rfl⟩
theorem mn_X10_68 : Cond.methodLinkNest RX10 68 yX1_init "HenHuts" ∈ lwN := mN 325 (by decide +kernel) rfl
theorem oi_X1 : Cond.methodLink RX1 3 objectInit ∈ lwG := mG 328 (by decide +kernel) rfl
theorem fl_X1_21 : FL RX1 21 1 0 := FL.mk (q := (RX1, TX1, 4)) 329 rfl (by decide) (by decide +kernel)
theorem fl_X1_9 : FL RX1 9 1 1 := FL.mk (q := (RX1, TX1, 4)) 330 rfl (by decide) (by decide +kernel)
theorem fl_X1_15 : FL RX1 15 1 2 := FL.mk (q := (RX1, TX1, 4)) 331 rfl (by decide) (by decide +kernel)
theorem fl_X1_18 : FL RX1 18 1 3 := FL.mk (q := (RX1, TX1, 4)) 332 rfl (by decide) (by decide +kernel)
theorem cl_X10_73 : Cond.classLink RX10 73 RX8 ∈ lwG := mG 342 (by decide +kernel) rfl
theorem in_X8 : Cond.instantiable RX8 3 ∈ lwG ∧ Cond.initialized RX8 ∈ lwG := ⟨mG 343 (by decide +kernel) rfl, mG 77 (by decide +kernel) rfl⟩
theorem mn_X10_75 : Cond.methodLinkNest RX10 75 yX8_init "HenHuts" ∈ lwN := mN 344 (by decide +kernel) rfl
theorem oi_X8 : Cond.methodLink RX8 3 objectInit ∈ lwG := mG 347 (by decide +kernel) rfl
theorem fl_X8_15 : FL RX8 15 8 0 := FL.mk (q := (RX8, TX8, 3)) 348 rfl (by decide) (by decide +kernel)
theorem fl_X10_259 : FL RX10 259 8 0 := FL.mk (q := (RX8, TX8, 3)) 349 rfl (by decide) (by decide +kernel)
theorem fl_X8_19 : FL RX8 19 8 1 := FL.mk (q := (RX8, TX8, 3)) 350 rfl (by decide) (by decide +kernel)
theorem fl_X10_262 : FL RX10 262 8 1 := FL.mk (q := (RX8, TX8, 3)) 351 rfl (by decide) (by decide +kernel)
theorem fl_X8_9 : FL RX8 9 8 2 := FL.mk (q := (RX8, TX8, 3)) 352 rfl (by decide) (by decide +kernel)
theorem fl_X10_265 : FL RX10 265 8 2 := FL.mk (q := (RX8, TX8, 3)) 353 rfl (by decide) (by decide +kernel)
theorem fl_X10_12 : FL RX10 12 10 0 := FL.mk (q := (RX10, TX10, 11)) 361 rfl (by decide) (by decide +kernel)
theorem fl_X10_16 : FL RX10 16 10 1 := FL.mk (q := (RX10, TX10, 11)) 362 rfl (by decide) (by decide +kernel)
theorem fl_X10_20 : FL RX10 20 10 2 := FL.mk (q := (RX10, TX10, 11)) 363 rfl (by decide) (by decide +kernel)
theorem fl_X10_27 : FL RX10 27 10 3 := FL.mk (q := (RX10, TX10, 11)) 364 rfl (by decide) (by decide +kernel)
theorem fl_X10_34 : FL RX10 34 10 4 := FL.mk (q := (RX10, TX10, 11)) 365 rfl (by decide) (by decide +kernel)
theorem fl_X10_41 : FL RX10 41 10 5 := FL.mk (q := (RX10, TX10, 11)) 366 rfl (by decide) (by decide +kernel)
theorem fl_X10_48 : FL RX10 48 10 6 := FL.mk (q := (RX10, TX10, 11)) 367 rfl (by decide) (by decide +kernel)
theorem fl_X10_55 : FL RX10 55 10 7 := FL.mk (q := (RX10, TX10, 11)) 368 rfl (by decide) (by decide +kernel)
theorem fl_X10_62 : FL RX10 62 10 8 := FL.mk (q := (RX10, TX10, 11)) 369 rfl (by decide) (by decide +kernel)
theorem fl_X10_69 : FL RX10 69 10 9 := FL.mk (q := (RX10, TX10, 11)) 370 rfl (by decide) (by decide +kernel)
theorem fl_X10_76 : FL RX10 76 10 10 := FL.mk (q := (RX10, TX10, 11)) 371 rfl (by decide) (by decide +kernel)
theorem ml_L_13 : Cond.methodLink RL 13 yX10_huts ∈ lwG := mG 395 (by decide +kernel) rfl
theorem ml_X10_84 : Cond.methodLink RX10 84 yX9_plant ∈ lwG := mG 399 (by decide +kernel) rfl
theorem ml_L_18 : Cond.methodLink RL 18 yX10_hut ∈ lwG := mG 400 (by decide +kernel) rfl
theorem ml_X10_88 : Cond.methodLink RX10 88 yX9_hasHut ∈ lwG := mG 404 (by decide +kernel) rfl
theorem mn_X9_65 : Cond.methodLinkNest RX9 65 yX10_isWithin "HenHuts" ∈ lwN := mN 408 (by decide +kernel) rfl
theorem ml_X10_92 : Cond.methodLink RX10 92 yX10_isWithin ∈ lwG := mG 411 (by decide +kernel) rfl
theorem ml_X10_96 : Cond.methodLink RX10 96 yX10_mostOf ∈ lwG := mG 412 (by decide +kernel) rfl
theorem ml_X10_100 : Cond.methodLink RX10 100 yX9_isTaken ∈ lwG := mG 415 (by decide +kernel) rfl
theorem ml_X10_104 : Cond.methodLink RX10 104 yX9_alter ∈ lwG := mG 419 (by decide +kernel) rfl
theorem ml_X9_73 : Cond.methodLink RX9 73 yX9_rowOf ∈ lwG := mG 423 (by decide +kernel) rfl
theorem ml_L_23 : Cond.methodLink RL 23 yX10_say ∈ lwG := mG 427 (by decide +kernel) rfl
theorem ml_X10_108 : Cond.methodLink RX10 108 yX4_add ∈ lwG := mG 431 (by decide +kernel) rfl
theorem ml_L_27 : Cond.methodLink RL 27 yX10_wipe ∈ lwG := mG 435 (by decide +kernel) rfl
theorem ml_X10_111 : Cond.methodLink RX10 111 yX4_clear ∈ lwG := mG 439 (by decide +kernel) rfl
theorem ml_L_32 : Cond.methodLink RL 32 yX10_fault ∈ lwG := mG 443 (by decide +kernel) rfl
theorem ml_X10_115 : Cond.methodLink RX10 115 yX4_spellFault ∈ lwG := mG 447 (by decide +kernel) rfl
theorem mn_X4_19 : Cond.methodLinkNest RX4 19 yX10_isWithin "HenHuts" ∈ lwN := mN 451 (by decide +kernel) rfl
theorem ml_X10_118 : Cond.methodLink RX10 118 yX4_eveningFault ∈ lwG := mG 452 (by decide +kernel) rfl
theorem mn_X4_23 : Cond.methodLinkNest RX4 23 yX10_wayOf "HenHuts" ∈ lwN := mN 456 (by decide +kernel) rfl
theorem mn_X4_27 : Cond.methodLinkNest RX4 27 yX10_isDigit "HenHuts" ∈ lwN := mN 459 (by decide +kernel) rfl
theorem mn_X4_31 : Cond.methodLinkNest RX4 31 yX10_isLetter "HenHuts" ∈ lwN := mN 462 (by decide +kernel) rfl
theorem ml_L_36 : Cond.methodLink RL 36 yX10_word ∈ lwG := mG 465 (by decide +kernel) rfl
theorem ml_X10_125 : Cond.methodLink RX10 125 yX4_signAt ∈ lwG := mG 469 (by decide +kernel) rfl
theorem ml_X10_131 : Cond.methodLink RX10 131 yJ6_bitCount_0f7a4 ∈ lwG := mG 473 (by decide +kernel) rfl
theorem kc_J6_265 : Cond.constant RJ6 265 (1431655765) ∈ lwG := mG 476 (by decide +kernel) rfl
theorem kc_J6_266 : Cond.constant RJ6 266 (858993459) ∈ lwG := mG 477 (by decide +kernel) rfl
theorem kc_J6_267 : Cond.constant RJ6 267 (252645135) ∈ lwG := mG 478 (by decide +kernel) rfl
theorem ml_L_40 : Cond.methodLink RL 40 yX10_unword ∈ lwG := mG 479 (by decide +kernel) rfl
theorem ml_X10_136 : Cond.methodLink RX10 136 yX9_knows ∈ lwG := mG 483 (by decide +kernel) rfl
theorem mn_X9_69 : Cond.methodLinkNest RX9 69 yX10_isIn "HenHuts" ∈ lwN := mN 487 (by decide +kernel) rfl
theorem ml_L_44 : Cond.methodLink RL 44 yX10_judge ∈ lwG := mG 490 (by decide +kernel) rfl
theorem ml_X10_139 : Cond.methodLink RX10 139 yX2_play ∈ lwG := mG 494 (by decide +kernel) rfl
theorem ml_X2_44 : Cond.methodLink RX2 44 yX2_begin ∈ lwG := mG 498 (by decide +kernel) rfl
theorem cp_X2_37 : cpL 37 RX2 := ⟨mG 502 (by decide +kernel) rfl, mG 504 (by decide +kernel) rfl, mG 503 (by decide +kernel) rfl, mG 80 (by decide +kernel) rfl⟩
theorem mn_X2_56 : Cond.methodLinkNest RX2 56 yX10_isDigit "HenHuts" ∈ lwN := mN 505 (by decide +kernel) rfl
theorem ml_X2_60 : Cond.methodLink RX2 60 yX4_signAt ∈ lwG := mG 506 (by decide +kernel) rfl
theorem mn_X2_64 : Cond.methodLinkNest RX2 64 yX10_wayOf "HenHuts" ∈ lwN := mN 507 (by decide +kernel) rfl
theorem ml_X2_67 : Cond.methodLink RX2 67 yX2_knock ∈ lwG := mG 508 (by decide +kernel) rfl
theorem ml_X2_89 : Cond.methodLink RX2 89 yX9_hasHut ∈ lwG := mG 512 (by decide +kernel) rfl
theorem ml_X2_71 : Cond.methodLink RX2 71 yX2_happen ∈ lwG := mG 513 (by decide +kernel) rfl
theorem ml_X2_83 : Cond.methodLink RX2 83 yX2_thunder ∈ lwG := mG 517 (by decide +kernel) rfl
theorem ml_X2_86 : Cond.methodLink RX2 86 yX2_rest ∈ lwG := mG 521 (by decide +kernel) rfl
theorem ml_X2_76 : Cond.methodLink RX2 76 yX9_knows ∈ lwG := mG 525 (by decide +kernel) rfl
theorem ml_X2_79 : Cond.methodLink RX2 79 yX2_hear ∈ lwG := mG 526 (by decide +kernel) rfl
theorem ml_X2_95 : Cond.methodLink RX2 95 yX9_quarters ∈ lwG := mG 530 (by decide +kernel) rfl
theorem ml_X2_98 : Cond.methodLink RX2 98 yX9_turned ∈ lwG := mG 534 (by decide +kernel) rfl
theorem ml_L_48 : Cond.methodLink RL 48 yX10_behind ∈ lwG := mG 538 (by decide +kernel) rfl
theorem ml_X10_155 : Cond.methodLink RX10 155 yX10_playWhole ∈ lwG := mG 542 (by decide +kernel) rfl
theorem ml_L_53 : Cond.methodLink RL 53 yX10_done ∈ lwG := mG 546 (by decide +kernel) rfl
theorem ml_X10_164 : Cond.methodLink RX10 164 yX2_leaveTo ∈ lwG := mG 550 (by decide +kernel) rfl
theorem ml_L_57 : Cond.methodLink RL 57 yX10_state ∈ lwG := mG 554 (by decide +kernel) rfl
theorem ml_L_61 : Cond.methodLink RL 61 yX10_bare ∈ lwG := mG 558 (by decide +kernel) rfl
theorem ml_X10_170 : Cond.methodLink RX10 170 yX9_quarters ∈ lwG := mG 562 (by decide +kernel) rfl
theorem ml_L_65 : Cond.methodLink RL 65 yX10_reached ∈ lwG := mG 563 (by decide +kernel) rfl
theorem ml_X10_172 : Cond.methodLink RX10 172 yX5_explore ∈ lwG := mG 567 (by decide +kernel) rfl
theorem ml_X5_28 : Cond.methodLink RX5 28 yX7_tabulate ∈ lwG := mG 571 (by decide +kernel) rfl
theorem mn_X7_18 : Cond.methodLinkNest RX7 18 yX10_isIn "HenHuts" ∈ lwN := mN 575 (by decide +kernel) rfl
theorem ml_X7_22 : Cond.methodLink RX7 22 yX7_fill ∈ lwG := mG 576 (by decide +kernel) rfl
theorem ml_X7_36 : Cond.methodLink RX7 36 yJ9_min_7cf53 ∈ lwG := mG 579 (by decide +kernel) rfl
theorem ml_X7_41 : Cond.methodLink RX7 41 yX9_quarters ∈ lwG := mG 582 (by decide +kernel) rfl
theorem ml_X7_45 : Cond.methodLink RX7 45 yX9_turned ∈ lwG := mG 583 (by decide +kernel) rfl
theorem ml_X5_32 : Cond.methodLink RX5 32 yJ7_fill_53178 ∈ lwG := mG 584 (by decide +kernel) rfl
theorem ml_X5_38 : Cond.methodLink RX5 38 yX9_number ∈ lwG := mG 585 (by decide +kernel) rfl
theorem mn_X9_77 : Cond.methodLinkNest RX9 77 yX10_numberOf "HenHuts" ∈ lwN := mN 589 (by decide +kernel) rfl
theorem mn_X5_48 : Cond.methodLinkNest RX5 48 yX10_isIn "HenHuts" ∈ lwN := mN 592 (by decide +kernel) rfl
theorem ml_X5_52 : Cond.methodLink RX5 52 yX5_reach ∈ lwG := mG 593 (by decide +kernel) rfl
theorem ml_X5_56 : Cond.methodLink RX5 56 yX7_looksBehind ∈ lwG := mG 597 (by decide +kernel) rfl
theorem ml_X7_26 : Cond.methodLink RX7 26 yX7_step ∈ lwG := mG 601 (by decide +kernel) rfl
theorem ml_L_69 : Cond.methodLink RL 69 yX10_can ∈ lwG := mG 605 (by decide +kernel) rfl
theorem ml_X10_179 : Cond.methodLink RX10 179 yX9_hasLooks ∈ lwG := mG 609 (by decide +kernel) rfl
theorem ml_L_73 : Cond.methodLink RL 73 yX10_spelled ∈ lwG := mG 613 (by decide +kernel) rfl
theorem ml_X10_185 : Cond.methodLink RX10 185 yX10_isAim ∈ lwG := mG 617 (by decide +kernel) rfl
theorem ml_X10_204 : Cond.methodLink RX10 204 yX9_hasSet ∈ lwG := mG 621 (by decide +kernel) rfl
theorem ml_X10_188 : Cond.methodLink RX10 188 yX5_firstLooking ∈ lwG := mG 625 (by decide +kernel) rfl
theorem mn_X5_60 : Cond.methodLinkNest RX5 60 yX10_maskOf "HenHuts" ∈ lwN := mN 629 (by decide +kernel) rfl
theorem ml_X10_326 : Cond.methodLink RX10 326 yX10_isIn ∈ lwG := mG 632 (by decide +kernel) rfl
theorem ml_X10_192 : Cond.methodLink RX10 192 yX5_wordOfRow ∈ lwG := mG 633 (by decide +kernel) rfl
theorem ml_L_77 : Cond.methodLink RL 77 yX10_tired ∈ lwG := mG 637 (by decide +kernel) rfl
theorem ml_X10_195 : Cond.methodLink RX10 195 yX5_leastQuarters ∈ lwG := mG 641 (by decide +kernel) rfl
theorem ml_X5_70 : Cond.methodLink RX5 70 yX5_cheapen ∈ lwG := mG 645 (by decide +kernel) rfl
theorem ml_X5_78 : Cond.methodLink RX5 78 yX7_quartersOf ∈ lwG := mG 649 (by decide +kernel) rfl
theorem ml_X5_73 : Cond.methodLink RX5 73 yJ9_max_7cf53 ∈ lwG := mG 653 (by decide +kernel) rfl
theorem ml_L_81 : Cond.methodLink RL 81 yX10_able ∈ lwG := mG 656 (by decide +kernel) rfl
theorem ml_X10_199 : Cond.methodLink RX10 199 yX3_fewestWords ∈ lwG := mG 660 (by decide +kernel) rfl
theorem cp_X3_31 : cpL 31 RX3 := ⟨mG 664 (by decide +kernel) rfl, mG 504 (by decide +kernel) rfl, mG 503 (by decide +kernel) rfl, mG 80 (by decide +kernel) rfl⟩
theorem ml_X3_39 : Cond.methodLink RX3 39 yX9_number ∈ lwG := mG 665 (by decide +kernel) rfl
theorem mn_X3_43 : Cond.methodLinkNest RX3 43 yX10_maskOf "HenHuts" ∈ lwN := mN 666 (by decide +kernel) rfl
theorem ml_X3_47 : Cond.methodLink RX3 47 yX3_isMet ∈ lwG := mG 667 (by decide +kernel) rfl
theorem ml_X3_51 : Cond.methodLink RX3 51 yX9_knows ∈ lwG := mG 670 (by decide +kernel) rfl
theorem ml_X3_55 : Cond.methodLink RX3 55 yX3_hear ∈ lwG := mG 671 (by decide +kernel) rfl
theorem mn_X3_62 : Cond.methodLinkNest RX3 62 yX10_isIn "HenHuts" ∈ lwN := mN 675 (by decide +kernel) rfl
theorem ml_X3_66 : Cond.methodLink RX3 66 yX9_quarters ∈ lwG := mG 676 (by decide +kernel) rfl
theorem ml_X3_70 : Cond.methodLink RX3 70 yX9_turned ∈ lwG := mG 677 (by decide +kernel) rfl
theorem mn_X3_73 : Cond.methodLinkNest RX3 73 yX10_lookIn "HenHuts" ∈ lwN := mN 678 (by decide +kernel) rfl
theorem ml_L_85 : Cond.methodLink RL 85 yX10_without ∈ lwG := mG 681 (by decide +kernel) rfl
theorem ml_X10_202 : Cond.methodLink RX10 202 yX10_fewestWords ∈ lwG := mG 685 (by decide +kernel) rfl
theorem ml_L_89 : Cond.methodLink RL 89 yX10_round ∈ lwG := mG 689 (by decide +kernel) rfl
theorem ml_X10_207 : Cond.methodLink RX10 207 yX10_looksOfSides ∈ lwG := mG 693 (by decide +kernel) rfl
theorem ml_X10_214 : Cond.methodLink RX10 214 yX6_fewestMinutes ∈ lwG := mG 697 (by decide +kernel) rfl
theorem ml_X6_36 : Cond.methodLink RX6 36 yX7_tabulate ∈ lwG := mG 701 (by decide +kernel) rfl
theorem ml_X6_42 : Cond.methodLink RX6 42 yJ7_fill_53178 ∈ lwG := mG 702 (by decide +kernel) rfl
theorem ml_X6_48 : Cond.methodLink RX6 48 yX9_number ∈ lwG := mG 703 (by decide +kernel) rfl
theorem ml_X6_52 : Cond.methodLink RX6 52 yX6_knockAll ∈ lwG := mG 704 (by decide +kernel) rfl
theorem ml_X6_78 : Cond.methodLink RX6 78 yX6_doorsAt ∈ lwG := mG 708 (by decide +kernel) rfl
theorem mn_X6_70 : Cond.methodLinkNest RX6 70 yX10_isIn "HenHuts" ∈ lwN := mN 712 (by decide +kernel) rfl
theorem mn_X6_84 : Cond.methodLinkNest RX6 84 yX10_lookIn "HenHuts" ∈ lwN := mN 713 (by decide +kernel) rfl
theorem ml_X6_81 : Cond.methodLink RX6 81 yX6_withDoors ∈ lwG := mG 714 (by decide +kernel) rfl
theorem ml_X6_87 : Cond.methodLink RX6 87 yJ6_numberOfTrailingZeros_0f7a4 ∈ lwG := mG 717 (by decide +kernel) rfl
theorem kc_J6_264 : Cond.constant RJ6 264 (65536) ∈ lwG := mG 720 (by decide +kernel) rfl
theorem kc_X6_56 : Cond.constant RX6 56 (32768) ∈ lwG := mG 721 (by decide +kernel) rfl
theorem ml_X6_57 : Cond.methodLink RX6 57 yX6_isServed ∈ lwG := mG 722 (by decide +kernel) rfl
theorem ml_X6_60 : Cond.methodLink RX6 60 yJ6_bitCount_0f7a4 ∈ lwG := mG 726 (by decide +kernel) rfl
theorem ml_X6_66 : Cond.methodLink RX6 66 yX6_hear ∈ lwG := mG 727 (by decide +kernel) rfl
theorem ml_X6_74 : Cond.methodLink RX6 74 yX7_looksBehind ∈ lwG := mG 731 (by decide +kernel) rfl
theorem ml_L_93 : Cond.methodLink RL 93 yX10_two ∈ lwG := mG 732 (by decide +kernel) rfl
theorem ml_X10_218 : Cond.methodLink RX10 218 yX9_knowsAll ∈ lwG := mG 736 (by decide +kernel) rfl
theorem ml_X10_221 : Cond.methodLink RX10 221 yX0_settle ∈ lwG := mG 740 (by decide +kernel) rfl
theorem ml_X0_18 : Cond.methodLink RX0 18 yX0_settlePlace ∈ lwG := mG 744 (by decide +kernel) rfl
theorem mn_X0_22 : Cond.methodLinkNest RX0 22 yX10_isIn "HenHuts" ∈ lwN := mN 748 (by decide +kernel) rfl
theorem ml_X0_26 : Cond.methodLink RX0 26 yX9_quarters ∈ lwG := mG 749 (by decide +kernel) rfl
theorem ml_X0_32 : Cond.methodLink RX0 32 yX9_turned ∈ lwG := mG 750 (by decide +kernel) rfl
theorem ml_L_98 : Cond.methodLink RL 98 yX10_pairs ∈ lwG := mG 751 (by decide +kernel) rfl
theorem ml_X10_231 : Cond.methodLink RX10 231 yX1_survey ∈ lwG := mG 755 (by decide +kernel) rfl
theorem ml_X1_33 : Cond.methodLink RX1 33 yX1_wayBetween ∈ lwG := mG 759 (by decide +kernel) rfl
theorem ml_X1_37 : Cond.methodLink RX1 37 yX1_isFree ∈ lwG := mG 762 (by decide +kernel) rfl
theorem ml_X10_234 : Cond.methodLink RX10 234 yX9_number ∈ lwG := mG 765 (by decide +kernel) rfl
theorem ml_X10_237 : Cond.methodLink RX10 237 yX1_pairsIn ∈ lwG := mG 766 (by decide +kernel) rfl
theorem mn_X1_41 : Cond.methodLinkNest RX1 41 yX10_lookIn "HenHuts" ∈ lwN := mN 770 (by decide +kernel) rfl
theorem ml_L_102 : Cond.methodLink RL 102 yX10_danced ∈ lwG := mG 771 (by decide +kernel) rfl
theorem ml_L_106 : Cond.methodLink RL 106 yX10_elected ∈ lwG := mG 775 (by decide +kernel) rfl
theorem ml_X10_243 : Cond.methodLink RX10 243 yX10_votes ∈ lwG := mG 779 (by decide +kernel) rfl
theorem ml_X10_323 : Cond.methodLink RX10 323 yX10_lookIn ∈ lwG := mG 783 (by decide +kernel) rfl
theorem ml_L_110 : Cond.methodLink RL 110 yX10_majority ∈ lwG := mG 784 (by decide +kernel) rfl
theorem ml_L_114 : Cond.methodLink RL 114 yX10_seen ∈ lwG := mG 788 (by decide +kernel) rfl
theorem ml_X10_246 : Cond.methodLink RX10 246 yX9_addSight ∈ lwG := mG 792 (by decide +kernel) rfl
theorem ml_L_118 : Cond.methodLink RL 118 yX10_forget ∈ lwG := mG 796 (by decide +kernel) rfl
theorem ml_L_122 : Cond.methodLink RL 122 yX10_tracks ∈ lwG := mG 800 (by decide +kernel) rfl
theorem ml_X10_252 : Cond.methodLink RX10 252 yX10_isTrackable ∈ lwG := mG 804 (by decide +kernel) rfl
theorem ml_X10_319 : Cond.methodLink RX10 319 yX4_hasOnlyWords ∈ lwG := mG 808 (by decide +kernel) rfl
theorem ml_X4_34 : Cond.methodLink RX4 34 yX9_knows ∈ lwG := mG 812 (by decide +kernel) rfl
theorem ml_X10_256 : Cond.methodLink RX10 256 yX8_follow ∈ lwG := mG 813 (by decide +kernel) rfl
theorem ml_X8_27 : Cond.methodLink RX8 27 yX8_fits ∈ lwG := mG 817 (by decide +kernel) rfl
theorem ml_X8_43 : Cond.methodLink RX8 43 yX8_isSo ∈ lwG := mG 820 (by decide +kernel) rfl
theorem mn_X8_55 : Cond.methodLinkNest RX8 55 yX10_isDigit "HenHuts" ∈ lwN := mN 823 (by decide +kernel) rfl
theorem ml_X8_62 : Cond.methodLink RX8 62 yX9_knows ∈ lwG := mG 824 (by decide +kernel) rfl
theorem ml_X8_65 : Cond.methodLink RX8 65 yX9_quarters ∈ lwG := mG 825 (by decide +kernel) rfl
theorem ml_X8_69 : Cond.methodLink RX8 69 yX9_turned ∈ lwG := mG 826 (by decide +kernel) rfl
theorem ml_X8_72 : Cond.methodLink RX8 72 yX8_isSeenLater ∈ lwG := mG 827 (by decide +kernel) rfl
theorem ml_X8_31 : Cond.methodLink RX8 31 yJ6_bitCount_0f7a4 ∈ lwG := mG 830 (by decide +kernel) rfl
theorem ml_X8_37 : Cond.methodLink RX8 37 yJ6_numberOfTrailingZeros_0f7a4 ∈ lwG := mG 831 (by decide +kernel) rfl
theorem ml_L_126 : Cond.methodLink RL 126 yX10_looked ∈ lwG := mG 832 (by decide +kernel) rfl
theorem ml_L_130 : Cond.methodLink RL 130 yX10_storm ∈ lwG := mG 836 (by decide +kernel) rfl
theorem kl_X10_268 : Cond.constantLong RX10 268 (-1000000000000000001) ∈ lwG := mG 840 (by decide +kernel) rfl
theorem kl_X10_270 : Cond.constantLong RX10 270 (-1000000000000000002) ∈ lwG := mG 841 (by decide +kernel) rfl
theorem ml_X10_272 : Cond.methodLink RX10 272 yX10_stormUpper ∈ lwG := mG 842 (by decide +kernel) rfl
theorem kl_X10_276 : Cond.constantLong RX10 276 (10) ∈ lwG := mG 845 (by decide +kernel) rfl
theorem ml_X10_278 : Cond.methodLink RX10 278 yX10_commonDivisor ∈ lwG := mG 846 (by decide +kernel) rfl
theorem ml_X10_282 : Cond.methodLink RX10 282 yJ9_max_f86c9 ∈ lwG := mG 849 (by decide +kernel) rfl
theorem ml_L_135 : Cond.methodLink RL 135 yX10_ninety ∈ lwG := mG 852 (by decide +kernel) rfl
theorem ml_X10_287 : Cond.methodLink RX10 287 yX2_playDraws ∈ lwG := mG 856 (by decide +kernel) rfl
theorem kc_X2_75 : Cond.constant RX2 75 (65537) ∈ lwG := mG 860 (by decide +kernel) rfl
theorem ml_X10_291 : Cond.methodLink RX10 291 yX10_numberOf ∈ lwG := mG 861 (by decide +kernel) rfl
theorem ml_L_139 : Cond.methodLink RL 139 yX10_image ∈ lwG := mG 862 (by decide +kernel) rfl
theorem ml_X10_298 : Cond.methodLink RX10 298 yX9_copyFrom ∈ lwG := mG 866 (by decide +kernel) rfl
theorem cp_X9_59 : cpL 59 RX9 := ⟨mG 870 (by decide +kernel) rfl, mG 504 (by decide +kernel) rfl, mG 503 (by decide +kernel) rfl, mG 80 (by decide +kernel) rfl⟩
theorem ml_L_143 : Cond.methodLink RL 143 yX10_restore ∈ lwG := mG 871 (by decide +kernel) rfl
theorem ml_L_147 : Cond.methodLink RL 147 yX10_told ∈ lwG := mG 875 (by decide +kernel) rfl
theorem ml_X10_304 : Cond.methodLink RX10 304 yX10_toldOfHut ∈ lwG := mG 879 (by decide +kernel) rfl
theorem ml_X10_307 : Cond.methodLink RX10 307 yX10_toldOfWord ∈ lwG := mG 883 (by decide +kernel) rfl
theorem cl_L_10 : Cond.classLink RL 10 RX11 ∈ lwG := mG 887 (by decide +kernel) rfl
theorem in_X11 : Cond.instantiable RX11 41 ∈ lwG ∧ Cond.initialized RX11 ∈ lwG := ⟨mG 888 (by decide +kernel) rfl, mG 78 (by decide +kernel) rfl⟩
theorem ml_L_12 : Cond.methodLink RL 12 yX11_init ∈ lwG := mG 889 (by decide +kernel) rfl
theorem oi_X11 : Cond.methodLink RX11 1 objectInit ∈ lwG := mG 892 (by decide +kernel) rfl
theorem kc_X11_64 : Cond.constant RX11 64 (32768) ∈ lwG := mG 893 (by decide +kernel) rfl
theorem ml_X11_90 : Cond.methodLink RX11 90 yX11_begin ∈ lwG := mG 894 (by decide +kernel) rfl
theorem fl_X11_94 : FL RX11 94 11 0 := FL.mk (q := (RX11, TX11, 41)) 898 rfl (by decide) (by decide +kernel)
theorem fl_X11_7 : FL RX11 7 11 1 := FL.mk (q := (RX11, TX11, 41)) 899 rfl (by decide) (by decide +kernel)
theorem fl_X11_13 : FL RX11 13 11 2 := FL.mk (q := (RX11, TX11, 41)) 900 rfl (by decide) (by decide +kernel)
theorem fl_X11_16 : FL RX11 16 11 3 := FL.mk (q := (RX11, TX11, 41)) 901 rfl (by decide) (by decide +kernel)
theorem fl_X11_19 : FL RX11 19 11 4 := FL.mk (q := (RX11, TX11, 41)) 902 rfl (by decide) (by decide +kernel)
theorem fl_X11_22 : FL RX11 22 11 5 := FL.mk (q := (RX11, TX11, 41)) 903 rfl (by decide) (by decide +kernel)
theorem fl_X11_98 : FL RX11 98 11 6 := FL.mk (q := (RX11, TX11, 41)) 904 rfl (by decide) (by decide +kernel)
theorem fl_X11_25 : FL RX11 25 11 7 := FL.mk (q := (RX11, TX11, 41)) 905 rfl (by decide) (by decide +kernel)
theorem fl_X11_28 : FL RX11 28 11 8 := FL.mk (q := (RX11, TX11, 41)) 906 rfl (by decide) (by decide +kernel)
theorem fl_X11_31 : FL RX11 31 11 9 := FL.mk (q := (RX11, TX11, 41)) 907 rfl (by decide) (by decide +kernel)
theorem fl_X11_34 : FL RX11 34 11 10 := FL.mk (q := (RX11, TX11, 41)) 908 rfl (by decide) (by decide +kernel)
theorem fl_X11_101 : FL RX11 101 11 11 := FL.mk (q := (RX11, TX11, 41)) 909 rfl (by decide) (by decide +kernel)
theorem fl_X11_37 : FL RX11 37 11 12 := FL.mk (q := (RX11, TX11, 41)) 910 rfl (by decide) (by decide +kernel)
theorem fl_X11_128 : FL RX11 128 11 13 := FL.mk (q := (RX11, TX11, 41)) 911 rfl (by decide) (by decide +kernel)
theorem fl_X11_40 : FL RX11 40 11 14 := FL.mk (q := (RX11, TX11, 41)) 912 rfl (by decide) (by decide +kernel)
theorem fl_X11_135 : FL RX11 135 11 15 := FL.mk (q := (RX11, TX11, 41)) 913 rfl (by decide) (by decide +kernel)
theorem fl_X11_165 : FL RX11 165 11 16 := FL.mk (q := (RX11, TX11, 41)) 914 rfl (by decide) (by decide +kernel)
theorem fl_X11_180 : FL RX11 180 11 17 := FL.mk (q := (RX11, TX11, 41)) 915 rfl (by decide) (by decide +kernel)
theorem fl_X11_162 : FL RX11 162 11 18 := FL.mk (q := (RX11, TX11, 41)) 916 rfl (by decide) (by decide +kernel)
theorem fl_X11_43 : FL RX11 43 11 19 := FL.mk (q := (RX11, TX11, 41)) 917 rfl (by decide) (by decide +kernel)
theorem fl_X11_46 : FL RX11 46 11 20 := FL.mk (q := (RX11, TX11, 41)) 918 rfl (by decide) (by decide +kernel)
theorem fl_X11_183 : FL RX11 183 11 21 := FL.mk (q := (RX11, TX11, 41)) 919 rfl (by decide) (by decide +kernel)
theorem fl_X11_186 : FL RX11 186 11 22 := FL.mk (q := (RX11, TX11, 41)) 920 rfl (by decide) (by decide +kernel)
theorem fl_X11_49 : FL RX11 49 11 23 := FL.mk (q := (RX11, TX11, 41)) 921 rfl (by decide) (by decide +kernel)
theorem fl_X11_208 : FL RX11 208 11 24 := FL.mk (q := (RX11, TX11, 41)) 922 rfl (by decide) (by decide +kernel)
theorem fl_X11_52 : FL RX11 52 11 25 := FL.mk (q := (RX11, TX11, 41)) 923 rfl (by decide) (by decide +kernel)
theorem fl_X11_55 : FL RX11 55 11 26 := FL.mk (q := (RX11, TX11, 41)) 924 rfl (by decide) (by decide +kernel)
theorem fl_X11_58 : FL RX11 58 11 27 := FL.mk (q := (RX11, TX11, 41)) 925 rfl (by decide) (by decide +kernel)
theorem fl_X11_61 : FL RX11 61 11 28 := FL.mk (q := (RX11, TX11, 41)) 926 rfl (by decide) (by decide +kernel)
theorem fl_X11_65 : FL RX11 65 11 29 := FL.mk (q := (RX11, TX11, 41)) 927 rfl (by decide) (by decide +kernel)
theorem fl_X11_68 : FL RX11 68 11 30 := FL.mk (q := (RX11, TX11, 41)) 928 rfl (by decide) (by decide +kernel)
theorem fl_X11_71 : FL RX11 71 11 31 := FL.mk (q := (RX11, TX11, 41)) 929 rfl (by decide) (by decide +kernel)
theorem fl_X11_74 : FL RX11 74 11 32 := FL.mk (q := (RX11, TX11, 41)) 930 rfl (by decide) (by decide +kernel)
theorem fl_X11_77 : FL RX11 77 11 33 := FL.mk (q := (RX11, TX11, 41)) 931 rfl (by decide) (by decide +kernel)
theorem fl_X11_288 : FL RX11 288 11 34 := FL.mk (q := (RX11, TX11, 41)) 932 rfl (by decide) (by decide +kernel)
theorem fl_X11_291 : FL RX11 291 11 35 := FL.mk (q := (RX11, TX11, 41)) 933 rfl (by decide) (by decide +kernel)
theorem fl_X11_80 : FL RX11 80 11 36 := FL.mk (q := (RX11, TX11, 41)) 934 rfl (by decide) (by decide +kernel)
theorem fl_X11_83 : FL RX11 83 11 37 := FL.mk (q := (RX11, TX11, 41)) 935 rfl (by decide) (by decide +kernel)
theorem fl_X11_86 : FL RX11 86 11 38 := FL.mk (q := (RX11, TX11, 41)) 936 rfl (by decide) (by decide +kernel)
theorem fl_X11_330 : FL RX11 330 11 39 := FL.mk (q := (RX11, TX11, 41)) 937 rfl (by decide) (by decide +kernel)
theorem fl_X11_326 : FL RX11 326 11 40 := FL.mk (q := (RX11, TX11, 41)) 938 rfl (by decide) (by decide +kernel)
theorem ml_L_17 : Cond.methodLink RL 17 yX11_huts ∈ lwG := mG 1022 (by decide +kernel) rfl
theorem kl_X11_110 : Cond.constantLong RX11 110 (5) ∈ lwG := mG 1026 (by decide +kernel) rfl
theorem ml_X11_104 : Cond.methodLink RX11 104 yX11_in ∈ lwG := mG 1027 (by decide +kernel) rfl
theorem ml_L_22 : Cond.methodLink RL 22 yX11_hut ∈ lwG := mG 1030 (by decide +kernel) rfl
theorem ml_X11_112 : Cond.methodLink RX11 112 yX11_isHut ∈ lwG := mG 1034 (by decide +kernel) rfl
theorem kl_X11_108 : Cond.constantLong RX11 108 (3) ∈ lwG := mG 1038 (by decide +kernel) rfl
theorem ml_X11_116 : Cond.methodLink RX11 116 yX11_greatest ∈ lwG := mG 1039 (by decide +kernel) rfl
theorem ml_X11_120 : Cond.methodLink RX11 120 yX11_isTaken ∈ lwG := mG 1042 (by decide +kernel) rfl
theorem ml_L_26 : Cond.methodLink RL 26 yX11_say ∈ lwG := mG 1046 (by decide +kernel) rfl
theorem kl_X11_124 : Cond.constantLong RX11 124 (33) ∈ lwG := mG 1050 (by decide +kernel) rfl
theorem kl_X11_126 : Cond.constantLong RX11 126 (126) ∈ lwG := mG 1051 (by decide +kernel) rfl
theorem ml_L_31 : Cond.methodLink RL 31 yX11_wipe ∈ lwG := mG 1052 (by decide +kernel) rfl
theorem ml_L_35 : Cond.methodLink RL 35 yX11_fault ∈ lwG := mG 1056 (by decide +kernel) rfl
theorem ml_X11_145 : Cond.methodLink RX11 145 yX11_faultOfSpell ∈ lwG := mG 1060 (by decide +kernel) rfl
theorem kl_X11_131 : Cond.constantLong RX11 131 (48) ∈ lwG := mG 1064 (by decide +kernel) rfl
theorem kl_X11_133 : Cond.constantLong RX11 133 (51) ∈ lwG := mG 1065 (by decide +kernel) rfl
theorem ml_X11_149 : Cond.methodLink RX11 149 yX11_faultOfEvening ∈ lwG := mG 1066 (by decide +kernel) rfl
theorem ml_X11_138 : Cond.methodLink RX11 138 yX11_wayOf ∈ lwG := mG 1070 (by decide +kernel) rfl
theorem kl_X11_141 : Cond.constantLong RX11 141 (97) ∈ lwG := mG 1073 (by decide +kernel) rfl
theorem kl_X11_143 : Cond.constantLong RX11 143 (102) ∈ lwG := mG 1074 (by decide +kernel) rfl
theorem ml_L_39 : Cond.methodLink RL 39 yX11_word ∈ lwG := mG 1075 (by decide +kernel) rfl
theorem ml_X11_152 : Cond.methodLink RX11 152 yX11_ones ∈ lwG := mG 1079 (by decide +kernel) rfl
theorem ml_L_43 : Cond.methodLink RL 43 yX11_unword ∈ lwG := mG 1082 (by decide +kernel) rfl
theorem ml_X11_155 : Cond.methodLink RX11 155 yX11_isKnown ∈ lwG := mG 1086 (by decide +kernel) rfl
theorem ml_L_47 : Cond.methodLink RL 47 yX11_judge ∈ lwG := mG 1090 (by decide +kernel) rfl
theorem ml_X11_195 : Cond.methodLink RX11 195 yX11_keepNow ∈ lwG := mG 1094 (by decide +kernel) rfl
theorem ml_X11_198 : Cond.methodLink RX11 198 yX11_goEvening ∈ lwG := mG 1098 (by decide +kernel) rfl
theorem ml_X11_189 : Cond.methodLink RX11 189 yX11_whyNot ∈ lwG := mG 1102 (by decide +kernel) rfl
theorem ml_X11_192 : Cond.methodLink RX11 192 yX11_happen ∈ lwG := mG 1106 (by decide +kernel) rfl
theorem ml_X11_171 : Cond.methodLink RX11 171 yX11_sayWord ∈ lwG := mG 1110 (by decide +kernel) rfl
theorem ml_X11_158 : Cond.methodLink RX11 158 yX11_heeds ∈ lwG := mG 1114 (by decide +kernel) rfl
theorem ml_X11_168 : Cond.methodLink RX11 168 yX11_turned ∈ lwG := mG 1118 (by decide +kernel) rfl
theorem ml_X11_174 : Cond.methodLink RX11 174 yX11_thunder ∈ lwG := mG 1122 (by decide +kernel) rfl
theorem ml_X11_177 : Cond.methodLink RX11 177 yX11_night ∈ lwG := mG 1126 (by decide +kernel) rfl
theorem ml_X11_201 : Cond.methodLink RX11 201 yX11_putBack ∈ lwG := mG 1130 (by decide +kernel) rfl
theorem ml_L_52 : Cond.methodLink RL 52 yX11_behind ∈ lwG := mG 1134 (by decide +kernel) rfl
theorem ml_L_56 : Cond.methodLink RL 56 yX11_done ∈ lwG := mG 1138 (by decide +kernel) rfl
theorem ml_L_60 : Cond.methodLink RL 60 yX11_state ∈ lwG := mG 1142 (by decide +kernel) rfl
theorem ml_L_64 : Cond.methodLink RL 64 yX11_bare ∈ lwG := mG 1146 (by decide +kernel) rfl
theorem ml_L_68 : Cond.methodLink RL 68 yX11_reached ∈ lwG := mG 1150 (by decide +kernel) rfl
theorem ml_X11_217 : Cond.methodLink RX11 217 yX11_spread ∈ lwG := mG 1154 (by decide +kernel) rfl
theorem ml_X11_211 : Cond.methodLink RX11 211 yX11_lookNow ∈ lwG := mG 1158 (by decide +kernel) rfl
theorem ml_X11_214 : Cond.methodLink RX11 214 yX11_saidTo ∈ lwG := mG 1162 (by decide +kernel) rfl
theorem ml_X11_204 : Cond.methodLink RX11 204 yX11_wayIn ∈ lwG := mG 1166 (by decide +kernel) rfl
theorem ml_L_72 : Cond.methodLink RL 72 yX11_can ∈ lwG := mG 1169 (by decide +kernel) rfl
theorem ml_X11_223 : Cond.methodLink RX11 223 yX11_isNumber ∈ lwG := mG 1173 (by decide +kernel) rfl
theorem ml_X11_220 : Cond.methodLink RX11 220 yX11_all ∈ lwG := mG 1177 (by decide +kernel) rfl
theorem ml_L_76 : Cond.methodLink RL 76 yX11_spelled ∈ lwG := mG 1181 (by decide +kernel) rfl
theorem ml_X11_230 : Cond.methodLink RX11 230 yX11_isSet ∈ lwG := mG 1185 (by decide +kernel) rfl
theorem ml_X11_233 : Cond.methodLink RX11 233 yX11_firstSo ∈ lwG := mG 1189 (by decide +kernel) rfl
theorem ml_X11_226 : Cond.methodLink RX11 226 yX11_isSo ∈ lwG := mG 1193 (by decide +kernel) rfl
theorem ml_L_80 : Cond.methodLink RL 80 yX11_tired ∈ lwG := mG 1197 (by decide +kernel) rfl
theorem kc_X11_236 : Cond.constant RX11 236 (1000000) ∈ lwG := mG 1201 (by decide +kernel) rfl
theorem ml_X11_237 : Cond.methodLink RX11 237 yX11_quartersOf ∈ lwG := mG 1202 (by decide +kernel) rfl
theorem ml_L_84 : Cond.methodLink RL 84 yX11_able ∈ lwG := mG 1206 (by decide +kernel) rfl
theorem ml_X11_240 : Cond.methodLink RX11 240 yX11_isAbleBy ∈ lwG := mG 1210 (by decide +kernel) rfl
theorem ml_L_88 : Cond.methodLink RL 88 yX11_without ∈ lwG := mG 1214 (by decide +kernel) rfl
theorem ml_L_92 : Cond.methodLink RL 92 yX11_round ∈ lwG := mG 1218 (by decide +kernel) rfl
theorem ml_X11_247 : Cond.methodLink RX11 247 yX11_layWanted ∈ lwG := mG 1222 (by decide +kernel) rfl
theorem ml_X11_244 : Cond.methodLink RX11 244 yX11_isWay ∈ lwG := mG 1226 (by decide +kernel) rfl
theorem ml_X11_250 : Cond.methodLink RX11 250 yX11_broughtBy ∈ lwG := mG 1229 (by decide +kernel) rfl
theorem ml_L_97 : Cond.methodLink RL 97 yX11_two ∈ lwG := mG 1233 (by decide +kernel) rfl
theorem kl_X11_256 : Cond.constantLong RX11 256 (63) ∈ lwG := mG 1237 (by decide +kernel) rfl
theorem ml_X11_258 : Cond.methodLink RX11 258 yX11_beginTwo ∈ lwG := mG 1238 (by decide +kernel) rfl
theorem ml_X11_262 : Cond.methodLink RX11 262 yX11_settle ∈ lwG := mG 1242 (by decide +kernel) rfl
theorem ml_X11_253 : Cond.methodLink RX11 253 yX11_after ∈ lwG := mG 1246 (by decide +kernel) rfl
theorem ml_L_101 : Cond.methodLink RL 101 yX11_pairs ∈ lwG := mG 1250 (by decide +kernel) rfl
theorem ml_X11_275 : Cond.methodLink RX11 275 yX11_pairsIn ∈ lwG := mG 1254 (by decide +kernel) rfl
theorem ml_X11_266 : Cond.methodLink RX11 266 yX11_wayTo ∈ lwG := mG 1258 (by decide +kernel) rfl
theorem ml_X11_272 : Cond.methodLink RX11 272 yX11_isClear ∈ lwG := mG 1261 (by decide +kernel) rfl
theorem ml_X11_269 : Cond.methodLink RX11 269 yX11_distance ∈ lwG := mG 1265 (by decide +kernel) rfl
theorem ml_L_105 : Cond.methodLink RL 105 yX11_danced ∈ lwG := mG 1268 (by decide +kernel) rfl
theorem kl_X11_278 : Cond.constantLong RX11 278 (2) ∈ lwG := mG 1272 (by decide +kernel) rfl
theorem ml_L_109 : Cond.methodLink RL 109 yX11_elected ∈ lwG := mG 1273 (by decide +kernel) rfl
theorem ml_X11_280 : Cond.methodLink RX11 280 yX11_lookingIn ∈ lwG := mG 1277 (by decide +kernel) rfl
theorem ml_L_113 : Cond.methodLink RL 113 yX11_majority ∈ lwG := mG 1281 (by decide +kernel) rfl
theorem ml_L_117 : Cond.methodLink RL 117 yX11_seen ∈ lwG := mG 1285 (by decide +kernel) rfl
theorem kl_X11_283 : Cond.constantLong RX11 283 (30) ∈ lwG := mG 1289 (by decide +kernel) rfl
theorem ml_L_121 : Cond.methodLink RL 121 yX11_forget ∈ lwG := mG 1290 (by decide +kernel) rfl
theorem ml_L_125 : Cond.methodLink RL 125 yX11_tracks ∈ lwG := mG 1294 (by decide +kernel) rfl
theorem ml_X11_297 : Cond.methodLink RX11 297 yX11_isUnread ∈ lwG := mG 1298 (by decide +kernel) rfl
theorem ml_X11_301 : Cond.methodLink RX11 301 yX11_findTracks ∈ lwG := mG 1302 (by decide +kernel) rfl
theorem ml_X11_294 : Cond.methodLink RX11 294 yX11_isTrack ∈ lwG := mG 1306 (by decide +kernel) rfl
theorem ml_X11_285 : Cond.methodLink RX11 285 yX11_isSeenSo ∈ lwG := mG 1310 (by decide +kernel) rfl
theorem ml_L_129 : Cond.methodLink RL 129 yX11_looked ∈ lwG := mG 1314 (by decide +kernel) rfl
theorem ml_L_134 : Cond.methodLink RL 134 yX11_storm ∈ lwG := mG 1318 (by decide +kernel) rfl
theorem kl_X11_304 : Cond.constantLong RX11 304 (-1000000000000000001) ∈ lwG := mG 1322 (by decide +kernel) rfl
theorem kl_X11_306 : Cond.constantLong RX11 306 (10) ∈ lwG := mG 1323 (by decide +kernel) rfl
theorem kl_X11_308 : Cond.constantLong RX11 308 (15) ∈ lwG := mG 1324 (by decide +kernel) rfl
theorem kl_X11_310 : Cond.constantLong RX11 310 (-1000000000000000002) ∈ lwG := mG 1325 (by decide +kernel) rfl
theorem ml_X11_312 : Cond.methodLink RX11 312 yX11_lowest ∈ lwG := mG 1326 (by decide +kernel) rfl
theorem ml_L_138 : Cond.methodLink RL 138 yX11_ninety ∈ lwG := mG 1329 (by decide +kernel) rfl
theorem kl_X11_316 : Cond.constantLong RX11 316 (9999) ∈ lwG := mG 1333 (by decide +kernel) rfl
theorem kl_X11_318 : Cond.constantLong RX11 318 (99) ∈ lwG := mG 1334 (by decide +kernel) rfl
theorem kl_X11_320 : Cond.constantLong RX11 320 (75) ∈ lwG := mG 1335 (by decide +kernel) rfl
theorem kl_X11_322 : Cond.constantLong RX11 322 (74) ∈ lwG := mG 1336 (by decide +kernel) rfl
theorem kl_X11_324 : Cond.constantLong RX11 324 (65537) ∈ lwG := mG 1337 (by decide +kernel) rfl
theorem ml_L_142 : Cond.methodLink RL 142 yX11_image ∈ lwG := mG 1338 (by decide +kernel) rfl
theorem ml_X11_336 : Cond.methodLink RX11 336 yX11_passAll ∈ lwG := mG 1342 (by decide +kernel) rfl
theorem ml_X11_333 : Cond.methodLink RX11 333 yX11_pass ∈ lwG := mG 1346 (by decide +kernel) rfl
theorem ml_L_146 : Cond.methodLink RL 146 yX11_restore ∈ lwG := mG 1350 (by decide +kernel) rfl
theorem ml_L_150 : Cond.methodLink RL 150 yX11_told ∈ lwG := mG 1354 (by decide +kernel) rfl
theorem kl_X11_339 : Cond.constantLong RX11 339 (100) ∈ lwG := mG 1358 (by decide +kernel) rfl
theorem kl_X11_341 : Cond.constantLong RX11 341 (699) ∈ lwG := mG 1359 (by decide +kernel) rfl
theorem kl_X11_343 : Cond.constantLong RX11 343 (59) ∈ lwG := mG 1360 (by decide +kernel) rfl
theorem ml_X11_345 : Cond.methodLink RX11 345 yX11_toldOfHut ∈ lwG := mG 1361 (by decide +kernel) rfl
theorem oi_inst : Cond.instanceMethod objectInit ∈ lwG := mG 88 (by decide +kernel) rfl
theorem oi_code : Cond.code objectInit ⟨#[0xb1]⟩ 1 none ∈ lwG := mG 89 (by decide +kernel) rfl
end
