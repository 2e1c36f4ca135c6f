def lw_okq (q : MethodName × Nat) : Prop := (q.1.cls ≠ "java/lang/invoke/MethodHandle" ∧ q.1.cls ≠ "java/lang/invoke/VarHandle") ∧ Cond.instantiable q.1.cls q.2 ∈ tables_1 ∧ Cond.privateMethod q.1 ∈ tables_1 ∧ Cond.instanceMethod q.1 ∈ tables_1
theorem lw_p0 : lw_okq (⟨"HenHuts$Wood", "rowOf", "(I)[I"⟩, 12) := ⟨⟨by decide +kernel, by decide +kernel⟩, List.mem_of_getElem? (i := 26) (by decide +kernel), List.mem_of_getElem? (i := 359) (by decide +kernel), List.mem_of_getElem? (i := 360) (by decide +kernel)⟩
theorem lw_p1 : lw_okq (⟨"HenHuts$Evening", "begin", "(LHenHuts$Wood;)V"⟩, 7) := ⟨⟨by decide +kernel, by decide +kernel⟩, List.mem_of_getElem? (i := 127) (by decide +kernel), List.mem_of_getElem? (i := 434) (by decide +kernel), List.mem_of_getElem? (i := 435) (by decide +kernel)⟩
theorem lw_p2 : lw_okq (⟨"HenHuts$Evening", "knock", "(LHenHuts$Wood;II)I"⟩, 7) := ⟨⟨by decide +kernel, by decide +kernel⟩, List.mem_of_getElem? (i := 127) (by decide +kernel), List.mem_of_getElem? (i := 444) (by decide +kernel), List.mem_of_getElem? (i := 445) (by decide +kernel)⟩
theorem lw_p3 : lw_okq (⟨"HenHuts$Evening", "happen", "(LHenHuts$Wood;I)I"⟩, 7) := ⟨⟨by decide +kernel, by decide +kernel⟩, List.mem_of_getElem? (i := 127) (by decide +kernel), List.mem_of_getElem? (i := 449) (by decide +kernel), List.mem_of_getElem? (i := 450) (by decide +kernel)⟩
theorem lw_p4 : lw_okq (⟨"HenHuts$Evening", "thunder", "(LHenHuts$Wood;)V"⟩, 7) := ⟨⟨by decide +kernel, by decide +kernel⟩, List.mem_of_getElem? (i := 127) (by decide +kernel), List.mem_of_getElem? (i := 453) (by decide +kernel), List.mem_of_getElem? (i := 454) (by decide +kernel)⟩
theorem lw_p5 : lw_okq (⟨"HenHuts$Evening", "rest", "(LHenHuts$Wood;)V"⟩, 7) := ⟨⟨by decide +kernel, by decide +kernel⟩, List.mem_of_getElem? (i := 127) (by decide +kernel), List.mem_of_getElem? (i := 457) (by decide +kernel), List.mem_of_getElem? (i := 458) (by decide +kernel)⟩
theorem lw_p6 : lw_okq (⟨"HenHuts$Evening", "hear", "(LHenHuts$Wood;I)V"⟩, 7) := ⟨⟨by decide +kernel, by decide +kernel⟩, List.mem_of_getElem? (i := 127) (by decide +kernel), List.mem_of_getElem? (i := 462) (by decide +kernel), List.mem_of_getElem? (i := 463) (by decide +kernel)⟩
theorem lw_p7 : lw_okq (⟨"HenHuts", "playWhole", "()I"⟩, 11) := ⟨⟨by decide +kernel, by decide +kernel⟩, List.mem_of_getElem? (i := 18) (by decide +kernel), List.mem_of_getElem? (i := 478) (by decide +kernel), List.mem_of_getElem? (i := 479) (by decide +kernel)⟩
theorem lw_p8 : lw_okq (⟨"HenHuts$Paths", "reach", "(II)V"⟩, 5) := ⟨⟨by decide +kernel, by decide +kernel⟩, List.mem_of_getElem? (i := 162) (by decide +kernel), List.mem_of_getElem? (i := 529) (by decide +kernel), List.mem_of_getElem? (i := 530) (by decide +kernel)⟩
theorem lw_p9 : lw_okq (⟨"HenHuts$Steps", "step", "(II)I"⟩, 2) := ⟨⟨by decide +kernel, by decide +kernel⟩, List.mem_of_getElem? (i := 168) (by decide +kernel), List.mem_of_getElem? (i := 537) (by decide +kernel), List.mem_of_getElem? (i := 538) (by decide +kernel)⟩
theorem lw_p10 : lw_okq (⟨"HenHuts", "isAim", "(II)Z"⟩, 11) := ⟨⟨by decide +kernel, by decide +kernel⟩, List.mem_of_getElem? (i := 18) (by decide +kernel), List.mem_of_getElem? (i := 553) (by decide +kernel), List.mem_of_getElem? (i := 554) (by decide +kernel)⟩
theorem lw_p11 : lw_okq (⟨"HenHuts$Paths", "cheapen", "(II)I"⟩, 5) := ⟨⟨by decide +kernel, by decide +kernel⟩, List.mem_of_getElem? (i := 162) (by decide +kernel), List.mem_of_getElem? (i := 581) (by decide +kernel), List.mem_of_getElem? (i := 582) (by decide +kernel)⟩
theorem lw_p12 : lw_okq (⟨"HenHuts$Legwork", "hear", "(LHenHuts$Wood;IIZ)Z"⟩, 4) := ⟨⟨by decide +kernel, by decide +kernel⟩, List.mem_of_getElem? (i := 201) (by decide +kernel), List.mem_of_getElem? (i := 607) (by decide +kernel), List.mem_of_getElem? (i := 608) (by decide +kernel)⟩
theorem lw_p13 : lw_okq (⟨"HenHuts", "fewestWords", "(III)I"⟩, 11) := ⟨⟨by decide +kernel, by decide +kernel⟩, List.mem_of_getElem? (i := 18) (by decide +kernel), List.mem_of_getElem? (i := 621) (by decide +kernel), List.mem_of_getElem? (i := 622) (by decide +kernel)⟩
theorem lw_p14 : lw_okq (⟨"HenHuts", "looksOfSides", "(II)I"⟩, 11) := ⟨⟨by decide +kernel, by decide +kernel⟩, List.mem_of_getElem? (i := 18) (by decide +kernel), List.mem_of_getElem? (i := 629) (by decide +kernel), List.mem_of_getElem? (i := 630) (by decide +kernel)⟩
theorem lw_p15 : lw_okq (⟨"HenHuts$Postman", "knockAll", "(I)Z"⟩, 5) := ⟨⟨by decide +kernel, by decide +kernel⟩, List.mem_of_getElem? (i := 222) (by decide +kernel), List.mem_of_getElem? (i := 640) (by decide +kernel), List.mem_of_getElem? (i := 641) (by decide +kernel)⟩
def lw_privs_1 : List (MethodName × Nat) := [(⟨"HenHuts$Wood", "rowOf", "(I)[I"⟩, 12), (⟨"HenHuts$Evening", "begin", "(LHenHuts$Wood;)V"⟩, 7), (⟨"HenHuts$Evening", "knock", "(LHenHuts$Wood;II)I"⟩, 7), (⟨"HenHuts$Evening", "happen", "(LHenHuts$Wood;I)I"⟩, 7), (⟨"HenHuts$Evening", "thunder", "(LHenHuts$Wood;)V"⟩, 7), (⟨"HenHuts$Evening", "rest", "(LHenHuts$Wood;)V"⟩, 7), (⟨"HenHuts$Evening", "hear", "(LHenHuts$Wood;I)V"⟩, 7), (⟨"HenHuts", "playWhole", "()I"⟩, 11), (⟨"HenHuts$Paths", "reach", "(II)V"⟩, 5), (⟨"HenHuts$Steps", "step", "(II)I"⟩, 2), (⟨"HenHuts", "isAim", "(II)Z"⟩, 11), (⟨"HenHuts$Paths", "cheapen", "(II)I"⟩, 5), (⟨"HenHuts$Legwork", "hear", "(LHenHuts$Wood;IIZ)Z"⟩, 4), (⟨"HenHuts", "fewestWords", "(III)I"⟩, 11), (⟨"HenHuts", "looksOfSides", "(II)I"⟩, 11), (⟨"HenHuts$Postman", "knockAll", "(I)Z"⟩, 5)]
theorem lw_r1 : ∀ q ∈ lw_privs_1, lw_okq q := List.forall_mem_cons.mpr ⟨lw_p0, List.forall_mem_cons.mpr ⟨lw_p1, List.forall_mem_cons.mpr ⟨lw_p2, List.forall_mem_cons.mpr ⟨lw_p3, List.forall_mem_cons.mpr ⟨lw_p4, List.forall_mem_cons.mpr ⟨lw_p5, List.forall_mem_cons.mpr ⟨lw_p6, List.forall_mem_cons.mpr ⟨lw_p7, List.forall_mem_cons.mpr ⟨lw_p8, List.forall_mem_cons.mpr ⟨lw_p9, List.forall_mem_cons.mpr ⟨lw_p10, List.forall_mem_cons.mpr ⟨lw_p11, List.forall_mem_cons.mpr ⟨lw_p12, List.forall_mem_cons.mpr ⟨lw_p13, List.forall_mem_cons.mpr ⟨lw_p14, List.forall_mem_cons.mpr ⟨lw_p15, fun _ h => absurd h List.not_mem_nil⟩⟩⟩⟩⟩⟩⟩⟩⟩⟩⟩⟩⟩⟩⟩⟩
theorem lw_p16 : lw_okq (⟨"HenHuts$Postman", "doorsAt", "(I)I"⟩, 5) := ⟨⟨by decide +kernel, by decide +kernel⟩, List.mem_of_getElem? (i := 222) (by decide +kernel), List.mem_of_getElem? (i := 644) (by decide +kernel), List.mem_of_getElem? (i := 645) (by decide +kernel)⟩
theorem lw_p17 : lw_okq (⟨"HenHuts$Postman", "isServed", "(I)Z"⟩, 5) := ⟨⟨by decide +kernel, by decide +kernel⟩, List.mem_of_getElem? (i := 222) (by decide +kernel), List.mem_of_getElem? (i := 658) (by decide +kernel), List.mem_of_getElem? (i := 659) (by decide +kernel)⟩
theorem lw_p18 : lw_okq (⟨"HenHuts$Postman", "hear", "(LHenHuts$Steps;II)V"⟩, 5) := ⟨⟨by decide +kernel, by decide +kernel⟩, List.mem_of_getElem? (i := 222) (by decide +kernel), List.mem_of_getElem? (i := 663) (by decide +kernel), List.mem_of_getElem? (i := 664) (by decide +kernel)⟩
theorem lw_p19 : lw_okq (⟨"HenHuts$Callers", "settlePlace", "(LHenHuts$Wood;IIII)V"⟩, 2) := ⟨⟨by decide +kernel, by decide +kernel⟩, List.mem_of_getElem? (i := 244) (by decide +kernel), List.mem_of_getElem? (i := 680) (by decide +kernel), List.mem_of_getElem? (i := 681) (by decide +kernel)⟩
theorem lw_p20 : lw_okq (⟨"HenHuts", "votes", "(II)I"⟩, 11) := ⟨⟨by decide +kernel, by decide +kernel⟩, List.mem_of_getElem? (i := 18) (by decide +kernel), List.mem_of_getElem? (i := 715) (by decide +kernel), List.mem_of_getElem? (i := 716) (by decide +kernel)⟩
theorem lw_p21 : lw_okq (⟨"HenHuts", "isTrackable", "()Z"⟩, 11) := ⟨⟨by decide +kernel, by decide +kernel⟩, List.mem_of_getElem? (i := 18) (by decide +kernel), List.mem_of_getElem? (i := 740) (by decide +kernel), List.mem_of_getElem? (i := 741) (by decide +kernel)⟩
theorem lw_p22 : lw_okq (⟨"HenHuts", "toldOfHut", "(II)I"⟩, 11) := ⟨⟨by decide +kernel, by decide +kernel⟩, List.mem_of_getElem? (i := 18) (by decide +kernel), List.mem_of_getElem? (i := 815) (by decide +kernel), List.mem_of_getElem? (i := 816) (by decide +kernel)⟩
theorem lw_p23 : lw_okq (⟨"HenHuts", "toldOfWord", "(II)I"⟩, 11) := ⟨⟨by decide +kernel, by decide +kernel⟩, List.mem_of_getElem? (i := 18) (by decide +kernel), List.mem_of_getElem? (i := 819) (by decide +kernel), List.mem_of_getElem? (i := 820) (by decide +kernel)⟩
theorem lw_p24 : lw_okq (⟨"HenHutsModel", "begin", "(I)V"⟩, 41) := ⟨⟨by decide +kernel, by decide +kernel⟩, List.mem_of_getElem? (i := 823) (by decide +kernel), List.mem_of_getElem? (i := 830) (by decide +kernel), List.mem_of_getElem? (i := 831) (by decide +kernel)⟩
theorem lw_p25 : lw_okq (⟨"HenHutsModel", "isHut", "(I)Z"⟩, 41) := ⟨⟨by decide +kernel, by decide +kernel⟩, List.mem_of_getElem? (i := 823) (by decide +kernel), List.mem_of_getElem? (i := 970) (by decide +kernel), List.mem_of_getElem? (i := 971) (by decide +kernel)⟩
theorem lw_p26 : lw_okq (⟨"HenHutsModel", "isTaken", "(II)Z"⟩, 41) := ⟨⟨by decide +kernel, by decide +kernel⟩, List.mem_of_getElem? (i := 823) (by decide +kernel), List.mem_of_getElem? (i := 978) (by decide +kernel), List.mem_of_getElem? (i := 979) (by decide +kernel)⟩
theorem lw_p27 : lw_okq (⟨"HenHutsModel", "faultOfSpell", "()I"⟩, 41) := ⟨⟨by decide +kernel, by decide +kernel⟩, List.mem_of_getElem? (i := 823) (by decide +kernel), List.mem_of_getElem? (i := 996) (by decide +kernel), List.mem_of_getElem? (i := 997) (by decide +kernel)⟩
theorem lw_p28 : lw_okq (⟨"HenHutsModel", "faultOfEvening", "()I"⟩, 41) := ⟨⟨by decide +kernel, by decide +kernel⟩, List.mem_of_getElem? (i := 823) (by decide +kernel), List.mem_of_getElem? (i := 1002) (by decide +kernel), List.mem_of_getElem? (i := 1003) (by decide +kernel)⟩
theorem lw_p29 : lw_okq (⟨"HenHutsModel", "isKnown", "(I)Z"⟩, 41) := ⟨⟨by decide +kernel, by decide +kernel⟩, List.mem_of_getElem? (i := 823) (by decide +kernel), List.mem_of_getElem? (i := 1022) (by decide +kernel), List.mem_of_getElem? (i := 1023) (by decide +kernel)⟩
theorem lw_p30 : lw_okq (⟨"HenHutsModel", "keepNow", "()V"⟩, 41) := ⟨⟨by decide +kernel, by decide +kernel⟩, List.mem_of_getElem? (i := 823) (by decide +kernel), List.mem_of_getElem? (i := 1030) (by decide +kernel), List.mem_of_getElem? (i := 1031) (by decide +kernel)⟩
theorem lw_p31 : lw_okq (⟨"HenHutsModel", "goEvening", "()V"⟩, 41) := ⟨⟨by decide +kernel, by decide +kernel⟩, List.mem_of_getElem? (i := 823) (by decide +kernel), List.mem_of_getElem? (i := 1034) (by decide +kernel), List.mem_of_getElem? (i := 1035) (by decide +kernel)⟩
def lw_privs_2 : List (MethodName × Nat) := [(⟨"HenHuts$Postman", "doorsAt", "(I)I"⟩, 5), (⟨"HenHuts$Postman", "isServed", "(I)Z"⟩, 5), (⟨"HenHuts$Postman", "hear", "(LHenHuts$Steps;II)V"⟩, 5), (⟨"HenHuts$Callers", "settlePlace", "(LHenHuts$Wood;IIII)V"⟩, 2), (⟨"HenHuts", "votes", "(II)I"⟩, 11), (⟨"HenHuts", "isTrackable", "()Z"⟩, 11), (⟨"HenHuts", "toldOfHut", "(II)I"⟩, 11), (⟨"HenHuts", "toldOfWord", "(II)I"⟩, 11), (⟨"HenHutsModel", "begin", "(I)V"⟩, 41), (⟨"HenHutsModel", "isHut", "(I)Z"⟩, 41), (⟨"HenHutsModel", "isTaken", "(II)Z"⟩, 41), (⟨"HenHutsModel", "faultOfSpell", "()I"⟩, 41), (⟨"HenHutsModel", "faultOfEvening", "()I"⟩, 41), (⟨"HenHutsModel", "isKnown", "(I)Z"⟩, 41), (⟨"HenHutsModel", "keepNow", "()V"⟩, 41), (⟨"HenHutsModel", "goEvening", "()V"⟩, 41)]
theorem lw_r2 : ∀ q ∈ lw_privs_2, lw_okq q := List.forall_mem_cons.mpr ⟨lw_p16, List.forall_mem_cons.mpr ⟨lw_p17, List.forall_mem_cons.mpr ⟨lw_p18, List.forall_mem_cons.mpr ⟨lw_p19, List.forall_mem_cons.mpr ⟨lw_p20, List.forall_mem_cons.mpr ⟨lw_p21, List.forall_mem_cons.mpr ⟨lw_p22, List.forall_mem_cons.mpr ⟨lw_p23, List.forall_mem_cons.mpr ⟨lw_p24, List.forall_mem_cons.mpr ⟨lw_p25, List.forall_mem_cons.mpr ⟨lw_p26, List.forall_mem_cons.mpr ⟨lw_p27, List.forall_mem_cons.mpr ⟨lw_p28, List.forall_mem_cons.mpr ⟨lw_p29, List.forall_mem_cons.mpr ⟨lw_p30, List.forall_mem_cons.mpr ⟨lw_p31, fun _ h => absurd h List.not_mem_nil⟩⟩⟩⟩⟩⟩⟩⟩⟩⟩⟩⟩⟩⟩⟩⟩
theorem lw_p32 : lw_okq (⟨"HenHutsModel", "whyNot", "(I)I"⟩, 41) := ⟨⟨by decide +kernel, by decide +kernel⟩, List.mem_of_getElem? (i := 823) (by decide +kernel), List.mem_of_getElem? (i := 1038) (by decide +kernel), List.mem_of_getElem? (i := 1039) (by decide +kernel)⟩
theorem lw_p33 : lw_okq (⟨"HenHutsModel", "happen", "(I)V"⟩, 41) := ⟨⟨by decide +kernel, by decide +kernel⟩, List.mem_of_getElem? (i := 823) (by decide +kernel), List.mem_of_getElem? (i := 1042) (by decide +kernel), List.mem_of_getElem? (i := 1043) (by decide +kernel)⟩
theorem lw_p34 : lw_okq (⟨"HenHutsModel", "sayWord", "(I)V"⟩, 41) := ⟨⟨by decide +kernel, by decide +kernel⟩, List.mem_of_getElem? (i := 823) (by decide +kernel), List.mem_of_getElem? (i := 1046) (by decide +kernel), List.mem_of_getElem? (i := 1047) (by decide +kernel)⟩
theorem lw_p35 : lw_okq (⟨"HenHutsModel", "heeds", "(III)I"⟩, 41) := ⟨⟨by decide +kernel, by decide +kernel⟩, List.mem_of_getElem? (i := 823) (by decide +kernel), List.mem_of_getElem? (i := 1050) (by decide +kernel), List.mem_of_getElem? (i := 1051) (by decide +kernel)⟩
theorem lw_p36 : lw_okq (⟨"HenHutsModel", "turned", "(III)I"⟩, 41) := ⟨⟨by decide +kernel, by decide +kernel⟩, List.mem_of_getElem? (i := 823) (by decide +kernel), List.mem_of_getElem? (i := 1054) (by decide +kernel), List.mem_of_getElem? (i := 1055) (by decide +kernel)⟩
theorem lw_p37 : lw_okq (⟨"HenHutsModel", "thunder", "()V"⟩, 41) := ⟨⟨by decide +kernel, by decide +kernel⟩, List.mem_of_getElem? (i := 823) (by decide +kernel), List.mem_of_getElem? (i := 1058) (by decide +kernel), List.mem_of_getElem? (i := 1059) (by decide +kernel)⟩
theorem lw_p38 : lw_okq (⟨"HenHutsModel", "night", "()V"⟩, 41) := ⟨⟨by decide +kernel, by decide +kernel⟩, List.mem_of_getElem? (i := 823) (by decide +kernel), List.mem_of_getElem? (i := 1062) (by decide +kernel), List.mem_of_getElem? (i := 1063) (by decide +kernel)⟩
theorem lw_p39 : lw_okq (⟨"HenHutsModel", "putBack", "()V"⟩, 41) := ⟨⟨by decide +kernel, by decide +kernel⟩, List.mem_of_getElem? (i := 823) (by decide +kernel), List.mem_of_getElem? (i := 1066) (by decide +kernel), List.mem_of_getElem? (i := 1067) (by decide +kernel)⟩
theorem lw_p40 : lw_okq (⟨"HenHutsModel", "spread", "(I)V"⟩, 41) := ⟨⟨by decide +kernel, by decide +kernel⟩, List.mem_of_getElem? (i := 823) (by decide +kernel), List.mem_of_getElem? (i := 1090) (by decide +kernel), List.mem_of_getElem? (i := 1091) (by decide +kernel)⟩
theorem lw_p41 : lw_okq (⟨"HenHutsModel", "lookNow", "()I"⟩, 41) := ⟨⟨by decide +kernel, by decide +kernel⟩, List.mem_of_getElem? (i := 823) (by decide +kernel), List.mem_of_getElem? (i := 1094) (by decide +kernel), List.mem_of_getElem? (i := 1095) (by decide +kernel)⟩
theorem lw_p42 : lw_okq (⟨"HenHutsModel", "saidTo", "(II)I"⟩, 41) := ⟨⟨by decide +kernel, by decide +kernel⟩, List.mem_of_getElem? (i := 823) (by decide +kernel), List.mem_of_getElem? (i := 1098) (by decide +kernel), List.mem_of_getElem? (i := 1099) (by decide +kernel)⟩
theorem lw_p43 : lw_okq (⟨"HenHutsModel", "isNumber", "(I)Z"⟩, 41) := ⟨⟨by decide +kernel, by decide +kernel⟩, List.mem_of_getElem? (i := 823) (by decide +kernel), List.mem_of_getElem? (i := 1109) (by decide +kernel), List.mem_of_getElem? (i := 1110) (by decide +kernel)⟩
theorem lw_p44 : lw_okq (⟨"HenHutsModel", "all", "()I"⟩, 41) := ⟨⟨by decide +kernel, by decide +kernel⟩, List.mem_of_getElem? (i := 823) (by decide +kernel), List.mem_of_getElem? (i := 1113) (by decide +kernel), List.mem_of_getElem? (i := 1114) (by decide +kernel)⟩
theorem lw_p45 : lw_okq (⟨"HenHutsModel", "isSet", "(I)Z"⟩, 41) := ⟨⟨by decide +kernel, by decide +kernel⟩, List.mem_of_getElem? (i := 823) (by decide +kernel), List.mem_of_getElem? (i := 1121) (by decide +kernel), List.mem_of_getElem? (i := 1122) (by decide +kernel)⟩
theorem lw_p46 : lw_okq (⟨"HenHutsModel", "firstSo", "(III)I"⟩, 41) := ⟨⟨by decide +kernel, by decide +kernel⟩, List.mem_of_getElem? (i := 823) (by decide +kernel), List.mem_of_getElem? (i := 1125) (by decide +kernel), List.mem_of_getElem? (i := 1126) (by decide +kernel)⟩
theorem lw_p47 : lw_okq (⟨"HenHutsModel", "isSo", "(III)Z"⟩, 41) := ⟨⟨by decide +kernel, by decide +kernel⟩, List.mem_of_getElem? (i := 823) (by decide +kernel), List.mem_of_getElem? (i := 1129) (by decide +kernel), List.mem_of_getElem? (i := 1130) (by decide +kernel)⟩
def lw_privs_3 : List (MethodName × Nat) := [(⟨"HenHutsModel", "whyNot", "(I)I"⟩, 41), (⟨"HenHutsModel", "happen", "(I)V"⟩, 41), (⟨"HenHutsModel", "sayWord", "(I)V"⟩, 41), (⟨"HenHutsModel", "heeds", "(III)I"⟩, 41), (⟨"HenHutsModel", "turned", "(III)I"⟩, 41), (⟨"HenHutsModel", "thunder", "()V"⟩, 41), (⟨"HenHutsModel", "night", "()V"⟩, 41), (⟨"HenHutsModel", "putBack", "()V"⟩, 41), (⟨"HenHutsModel", "spread", "(I)V"⟩, 41), (⟨"HenHutsModel", "lookNow", "()I"⟩, 41), (⟨"HenHutsModel", "saidTo", "(II)I"⟩, 41), (⟨"HenHutsModel", "isNumber", "(I)Z"⟩, 41), (⟨"HenHutsModel", "all", "()I"⟩, 41), (⟨"HenHutsModel", "isSet", "(I)Z"⟩, 41), (⟨"HenHutsModel", "firstSo", "(III)I"⟩, 41), (⟨"HenHutsModel", "isSo", "(III)Z"⟩, 41)]
theorem lw_r3 : ∀ q ∈ lw_privs_3, lw_okq q := List.forall_mem_cons.mpr ⟨lw_p32, List.forall_mem_cons.mpr ⟨lw_p33, List.forall_mem_cons.mpr ⟨lw_p34, List.forall_mem_cons.mpr ⟨lw_p35, List.forall_mem_cons.mpr ⟨lw_p36, List.forall_mem_cons.mpr ⟨lw_p37, List.forall_mem_cons.mpr ⟨lw_p38, List.forall_mem_cons.mpr ⟨lw_p39, List.forall_mem_cons.mpr ⟨lw_p40, List.forall_mem_cons.mpr ⟨lw_p41, List.forall_mem_cons.mpr ⟨lw_p42, List.forall_mem_cons.mpr ⟨lw_p43, List.forall_mem_cons.mpr ⟨lw_p44, List.forall_mem_cons.mpr ⟨lw_p45, List.forall_mem_cons.mpr ⟨lw_p46, List.forall_mem_cons.mpr ⟨lw_p47, fun _ h => absurd h List.not_mem_nil⟩⟩⟩⟩⟩⟩⟩⟩⟩⟩⟩⟩⟩⟩⟩⟩
theorem lw_p48 : lw_okq (⟨"HenHutsModel", "quartersOf", "(II)I"⟩, 41) := ⟨⟨by decide +kernel, by decide +kernel⟩, List.mem_of_getElem? (i := 823) (by decide +kernel), List.mem_of_getElem? (i := 1138) (by decide +kernel), List.mem_of_getElem? (i := 1139) (by decide +kernel)⟩
theorem lw_p49 : lw_okq (⟨"HenHutsModel", "isAbleBy", "(IIII)Z"⟩, 41) := ⟨⟨by decide +kernel, by decide +kernel⟩, List.mem_of_getElem? (i := 823) (by decide +kernel), List.mem_of_getElem? (i := 1146) (by decide +kernel), List.mem_of_getElem? (i := 1147) (by decide +kernel)⟩
theorem lw_p50 : lw_okq (⟨"HenHutsModel", "layWanted", "(II)Z"⟩, 41) := ⟨⟨by decide +kernel, by decide +kernel⟩, List.mem_of_getElem? (i := 823) (by decide +kernel), List.mem_of_getElem? (i := 1158) (by decide +kernel), List.mem_of_getElem? (i := 1159) (by decide +kernel)⟩
theorem lw_p51 : lw_okq (⟨"HenHutsModel", "broughtBy", "(III)I"⟩, 41) := ⟨⟨by decide +kernel, by decide +kernel⟩, List.mem_of_getElem? (i := 823) (by decide +kernel), List.mem_of_getElem? (i := 1165) (by decide +kernel), List.mem_of_getElem? (i := 1166) (by decide +kernel)⟩
theorem lw_p52 : lw_okq (⟨"HenHutsModel", "beginTwo", "(II)V"⟩, 41) := ⟨⟨by decide +kernel, by decide +kernel⟩, List.mem_of_getElem? (i := 823) (by decide +kernel), List.mem_of_getElem? (i := 1174) (by decide +kernel), List.mem_of_getElem? (i := 1175) (by decide +kernel)⟩
theorem lw_p53 : lw_okq (⟨"HenHutsModel", "settle", "(IIII)V"⟩, 41) := ⟨⟨by decide +kernel, by decide +kernel⟩, List.mem_of_getElem? (i := 823) (by decide +kernel), List.mem_of_getElem? (i := 1178) (by decide +kernel), List.mem_of_getElem? (i := 1179) (by decide +kernel)⟩
theorem lw_p54 : lw_okq (⟨"HenHutsModel", "after", "(III)I"⟩, 41) := ⟨⟨by decide +kernel, by decide +kernel⟩, List.mem_of_getElem? (i := 823) (by decide +kernel), List.mem_of_getElem? (i := 1182) (by decide +kernel), List.mem_of_getElem? (i := 1183) (by decide +kernel)⟩
theorem lw_p55 : lw_okq (⟨"HenHutsModel", "pairsIn", "(I)I"⟩, 41) := ⟨⟨by decide +kernel, by decide +kernel⟩, List.mem_of_getElem? (i := 823) (by decide +kernel), List.mem_of_getElem? (i := 1190) (by decide +kernel), List.mem_of_getElem? (i := 1191) (by decide +kernel)⟩
theorem lw_p56 : lw_okq (⟨"HenHutsModel", "isClear", "(II)Z"⟩, 41) := ⟨⟨by decide +kernel, by decide +kernel⟩, List.mem_of_getElem? (i := 823) (by decide +kernel), List.mem_of_getElem? (i := 1197) (by decide +kernel), List.mem_of_getElem? (i := 1198) (by decide +kernel)⟩
theorem lw_p57 : lw_okq (⟨"HenHutsModel", "lookingIn", "(II)I"⟩, 41) := ⟨⟨by decide +kernel, by decide +kernel⟩, List.mem_of_getElem? (i := 823) (by decide +kernel), List.mem_of_getElem? (i := 1213) (by decide +kernel), List.mem_of_getElem? (i := 1214) (by decide +kernel)⟩
theorem lw_p58 : lw_okq (⟨"HenHutsModel", "isUnread", "()Z"⟩, 41) := ⟨⟨by decide +kernel, by decide +kernel⟩, List.mem_of_getElem? (i := 823) (by decide +kernel), List.mem_of_getElem? (i := 1234) (by decide +kernel), List.mem_of_getElem? (i := 1235) (by decide +kernel)⟩
theorem lw_p59 : lw_okq (⟨"HenHutsModel", "findTracks", "()V"⟩, 41) := ⟨⟨by decide +kernel, by decide +kernel⟩, List.mem_of_getElem? (i := 823) (by decide +kernel), List.mem_of_getElem? (i := 1238) (by decide +kernel), List.mem_of_getElem? (i := 1239) (by decide +kernel)⟩
theorem lw_p60 : lw_okq (⟨"HenHutsModel", "isTrack", "(I)Z"⟩, 41) := ⟨⟨by decide +kernel, by decide +kernel⟩, List.mem_of_getElem? (i := 823) (by decide +kernel), List.mem_of_getElem? (i := 1242) (by decide +kernel), List.mem_of_getElem? (i := 1243) (by decide +kernel)⟩
theorem lw_p61 : lw_okq (⟨"HenHutsModel", "isSeenSo", "(I)Z"⟩, 41) := ⟨⟨by decide +kernel, by decide +kernel⟩, List.mem_of_getElem? (i := 823) (by decide +kernel), List.mem_of_getElem? (i := 1246) (by decide +kernel), List.mem_of_getElem? (i := 1247) (by decide +kernel)⟩
theorem lw_p62 : lw_okq (⟨"HenHutsModel", "passAll", "()V"⟩, 41) := ⟨⟨by decide +kernel, by decide +kernel⟩, List.mem_of_getElem? (i := 823) (by decide +kernel), List.mem_of_getElem? (i := 1278) (by decide +kernel), List.mem_of_getElem? (i := 1279) (by decide +kernel)⟩
theorem lw_p63 : lw_okq (⟨"HenHutsModel", "pass", "(I)I"⟩, 41) := ⟨⟨by decide +kernel, by decide +kernel⟩, List.mem_of_getElem? (i := 823) (by decide +kernel), List.mem_of_getElem? (i := 1282) (by decide +kernel), List.mem_of_getElem? (i := 1283) (by decide +kernel)⟩
def lw_privs_4 : List (MethodName × Nat) := [(⟨"HenHutsModel", "quartersOf", "(II)I"⟩, 41), (⟨"HenHutsModel", "isAbleBy", "(IIII)Z"⟩, 41), (⟨"HenHutsModel", "layWanted", "(II)Z"⟩, 41), (⟨"HenHutsModel", "broughtBy", "(III)I"⟩, 41), (⟨"HenHutsModel", "beginTwo", "(II)V"⟩, 41), (⟨"HenHutsModel", "settle", "(IIII)V"⟩, 41), (⟨"HenHutsModel", "after", "(III)I"⟩, 41), (⟨"HenHutsModel", "pairsIn", "(I)I"⟩, 41), (⟨"HenHutsModel", "isClear", "(II)Z"⟩, 41), (⟨"HenHutsModel", "lookingIn", "(II)I"⟩, 41), (⟨"HenHutsModel", "isUnread", "()Z"⟩, 41), (⟨"HenHutsModel", "findTracks", "()V"⟩, 41), (⟨"HenHutsModel", "isTrack", "(I)Z"⟩, 41), (⟨"HenHutsModel", "isSeenSo", "(I)Z"⟩, 41), (⟨"HenHutsModel", "passAll", "()V"⟩, 41), (⟨"HenHutsModel", "pass", "(I)I"⟩, 41)]
theorem lw_r4 : ∀ q ∈ lw_privs_4, lw_okq q := List.forall_mem_cons.mpr ⟨lw_p48, List.forall_mem_cons.mpr ⟨lw_p49, List.forall_mem_cons.mpr ⟨lw_p50, List.forall_mem_cons.mpr ⟨lw_p51, List.forall_mem_cons.mpr ⟨lw_p52, List.forall_mem_cons.mpr ⟨lw_p53, List.forall_mem_cons.mpr ⟨lw_p54, List.forall_mem_cons.mpr ⟨lw_p55, List.forall_mem_cons.mpr ⟨lw_p56, List.forall_mem_cons.mpr ⟨lw_p57, List.forall_mem_cons.mpr ⟨lw_p58, List.forall_mem_cons.mpr ⟨lw_p59, List.forall_mem_cons.mpr ⟨lw_p60, List.forall_mem_cons.mpr ⟨lw_p61, List.forall_mem_cons.mpr ⟨lw_p62, List.forall_mem_cons.mpr ⟨lw_p63, fun _ h => absurd h List.not_mem_nil⟩⟩⟩⟩⟩⟩⟩⟩⟩⟩⟩⟩⟩⟩⟩⟩
theorem lw_p64 : lw_okq (⟨"HenHutsModel", "toldOfHut", "(II)I"⟩, 41) := ⟨⟨by decide +kernel, by decide +kernel⟩, List.mem_of_getElem? (i := 823) (by decide +kernel), List.mem_of_getElem? (i := 1297) (by decide +kernel), List.mem_of_getElem? (i := 1298) (by decide +kernel)⟩
def lw_privs_5 : List (MethodName × Nat) := [(⟨"HenHutsModel", "toldOfHut", "(II)I"⟩, 41)]
theorem lw_r5 : ∀ q ∈ lw_privs_5, lw_okq q := List.forall_mem_cons.mpr ⟨lw_p64, fun _ h => absurd h List.not_mem_nil⟩
def lw_privs : List (MethodName × Nat) := lw_privs_1 ++ (lw_privs_2 ++ (lw_privs_3 ++ (lw_privs_4 ++ (lw_privs_5))))
def lw_tbl : List Cond := k2_sels lw_privs ++ tables_1
theorem lw_privs_ok : ∀ q ∈ lw_privs, lw_okq q := by
  show ∀ q ∈ lw_privs_1 ++ (lw_privs_2 ++ (lw_privs_3 ++ (lw_privs_4 ++ (lw_privs_5)))), lw_okq q
  exact List.forall_mem_append.mpr ⟨lw_r1, List.forall_mem_append.mpr ⟨lw_r2, List.forall_mem_append.mpr ⟨lw_r3, List.forall_mem_append.mpr ⟨lw_r4, lw_r5⟩⟩⟩⟩
def RX0 : String := "HenHuts$Callers"
def TX0 : u_T := fun k => match k with
  | 0 => ("HenHuts$Callers", "who", "[I", true)
  | _ => ("HenHuts$Callers", "after", "[I", true)
def tyX0 : Nat → FieldType := fun k => match k with
  | 0 => .array .int
  | _ => .array .int
theorem nmX0 : ∀ a, a < 2 → ∀ b, b < 2 → a ≠ b → (TX0 a).2.1 ≠ (TX0 b).2.1 := by decide +kernel
theorem tyX0_ok : ∀ k, k < 2 → parseFieldDescriptor (TX0 k).2.2.1 = some (tyX0 k) := by decide +kernel
abbrev cX0_init : ByteArray := prog_2_method_1_code
def yX0_init : MethodName := ⟨RX0, "<init>", "()V"⟩
abbrev cX0_settle : ByteArray := prog_2_method_2_code
def yX0_settle : MethodName := ⟨RX0, "settle", "(LHenHuts$Wood;IIIII)V"⟩
abbrev cX0_settlePlace : ByteArray := prog_2_method_3_code
def yX0_settlePlace : MethodName := ⟨RX0, "settlePlace", "(LHenHuts$Wood;IIII)V"⟩
def RX1 : String := "HenHuts$Dance"
def TX1 : u_T := fun k => match k with
  | 0 => ("HenHuts$Dance", "lines", "I", false)
  | 1 => ("HenHuts$Dance", "first", "[I", true)
  | 2 => ("HenHuts$Dance", "second", "[I", true)
  | _ => ("HenHuts$Dance", "ways", "[I", true)
def tyX1 : Nat → FieldType := fun k => match k with
  | 0 => .int
  | 1 => .array .int
  | 2 => .array .int
  | _ => .array .int
theorem nmX1 : ∀ a, a < 4 → ∀ b, b < 4 → a ≠ b → (TX1 a).2.1 ≠ (TX1 b).2.1 := by decide +kernel
theorem tyX1_ok : ∀ k, k < 4 → parseFieldDescriptor (TX1 k).2.2.1 = some (tyX1 k) := by decide +kernel
abbrev cX1_init : ByteArray := prog_3_method_1_code
def yX1_init : MethodName := ⟨RX1, "<init>", "()V"⟩
abbrev cX1_survey : ByteArray := prog_3_method_2_code
def yX1_survey : MethodName := ⟨RX1, "survey", "(LHenHuts$Wood;)V"⟩
abbrev cX1_pairsIn : ByteArray := prog_3_method_3_code
def yX1_pairsIn : MethodName := ⟨RX1, "pairsIn", "(I)I"⟩
abbrev cX1_wayBetween : ByteArray := prog_3_method_4_code
def yX1_wayBetween : MethodName := ⟨RX1, "wayBetween", "(II)I"⟩
abbrev cX1_isFree : ByteArray := prog_3_method_5_code
def yX1_isFree : MethodName := ⟨RX1, "isFree", "(LHenHuts$Wood;III)Z"⟩
def RX2 : String := "HenHuts$Evening"
def TX2 : u_T := fun k => match k with
  | 0 => ("HenHuts$Evening", "quarters", "I", false)
  | 1 => ("HenHuts$Evening", "sat", "I", false)
  | 2 => ("HenHuts$Evening", "letIn", "I", false)
  | 3 => ("HenHuts$Evening", "events", "I", false)
  | 4 => ("HenHuts$Evening", "why", "I", false)
  | 5 => ("HenHuts$Evening", "looks", "[I", true)
  | _ => ("HenHuts$Evening", "legs", "[I", true)
def tyX2 : Nat → FieldType := fun k => match k with
  | 0 => .int
  | 1 => .int
  | 2 => .int
  | 3 => .int
  | 4 => .int
  | 5 => .array .int
  | _ => .array .int
theorem nmX2 : ∀ a, a < 7 → ∀ b, b < 7 → a ≠ b → (TX2 a).2.1 ≠ (TX2 b).2.1 := by decide +kernel
theorem tyX2_ok : ∀ k, k < 7 → parseFieldDescriptor (TX2 k).2.2.1 = some (tyX2 k) := by decide +kernel
abbrev cX2_init : ByteArray := prog_4_method_1_code
def yX2_init : MethodName := ⟨RX2, "<init>", "()V"⟩
abbrev cX2_begin : ByteArray := prog_4_method_2_code
def yX2_begin : MethodName := ⟨RX2, "begin", "(LHenHuts$Wood;)V"⟩
abbrev cX2_play : ByteArray := prog_4_method_3_code
def yX2_play : MethodName := ⟨RX2, "play", "(LHenHuts$Wood;LHenHuts$Pad;)V"⟩
abbrev cX2_playDraws : ByteArray := prog_4_method_4_code
def yX2_playDraws : MethodName := ⟨RX2, "playDraws", "(LHenHuts$Wood;II)V"⟩
abbrev cX2_leaveTo : ByteArray := prog_4_method_5_code
def yX2_leaveTo : MethodName := ⟨RX2, "leaveTo", "(LHenHuts$Wood;)V"⟩
abbrev cX2_knock : ByteArray := prog_4_method_6_code
def yX2_knock : MethodName := ⟨RX2, "knock", "(LHenHuts$Wood;II)I"⟩
abbrev cX2_happen : ByteArray := prog_4_method_7_code
def yX2_happen : MethodName := ⟨RX2, "happen", "(LHenHuts$Wood;I)I"⟩
abbrev cX2_hear : ByteArray := prog_4_method_8_code
def yX2_hear : MethodName := ⟨RX2, "hear", "(LHenHuts$Wood;I)V"⟩
abbrev cX2_thunder : ByteArray := prog_4_method_9_code
def yX2_thunder : MethodName := ⟨RX2, "thunder", "(LHenHuts$Wood;)V"⟩
abbrev cX2_rest : ByteArray := prog_4_method_10_code
def yX2_rest : MethodName := ⟨RX2, "rest", "(LHenHuts$Wood;)V"⟩
def RX3 : String := "HenHuts$Legwork"
def TX3 : u_T := fun k => match k with
  | 0 => ("HenHuts$Legwork", "set", "I", false)
  | 1 => ("HenHuts$Legwork", "aim", "I", false)
  | 2 => ("HenHuts$Legwork", "looks", "[[I", true)
  | _ => ("HenHuts$Legwork", "legs", "[[I", true)
def tyX3 : Nat → FieldType := fun k => match k with
  | 0 => .int
  | 1 => .int
  | 2 => .array (.array .int)
  | _ => .array (.array .int)
theorem nmX3 : ∀ a, a < 4 → ∀ b, b < 4 → a ≠ b → (TX3 a).2.1 ≠ (TX3 b).2.1 := by decide +kernel
theorem tyX3_ok : ∀ k, k < 4 → parseFieldDescriptor (TX3 k).2.2.1 = some (tyX3 k) := by decide +kernel
abbrev cX3_init : ByteArray := prog_5_method_1_code
def yX3_init : MethodName := ⟨RX3, "<init>", "()V"⟩
abbrev cX3_fewestWords : ByteArray := prog_5_method_2_code
def yX3_fewestWords : MethodName := ⟨RX3, "fewestWords", "(LHenHuts$Wood;II)I"⟩
abbrev cX3_isMet : ByteArray := prog_5_method_3_code
def yX3_isMet : MethodName := ⟨RX3, "isMet", "(LHenHuts$Legwork;LHenHuts$Wood;II)Z"⟩
abbrev cX3_hear : ByteArray := prog_5_method_4_code
def yX3_hear : MethodName := ⟨RX3, "hear", "(LHenHuts$Wood;IIZ)Z"⟩
def RX4 : String := "HenHuts$Pad"
def TX4 : u_T := fun k => match k with
  | 0 => ("HenHuts$Pad", "count", "I", false)
  | _ => ("HenHuts$Pad", "signs", "[I", true)
def tyX4 : Nat → FieldType := fun k => match k with
  | 0 => .int
  | _ => .array .int
theorem nmX4 : ∀ a, a < 2 → ∀ b, b < 2 → a ≠ b → (TX4 a).2.1 ≠ (TX4 b).2.1 := by decide +kernel
theorem tyX4_ok : ∀ k, k < 2 → parseFieldDescriptor (TX4 k).2.2.1 = some (tyX4 k) := by decide +kernel
abbrev cX4_init : ByteArray := prog_6_method_1_code
def yX4_init : MethodName := ⟨RX4, "<init>", "()V"⟩
abbrev cX4_add : ByteArray := prog_6_method_2_code
def yX4_add : MethodName := ⟨RX4, "add", "(I)I"⟩
abbrev cX4_clear : ByteArray := prog_6_method_3_code
def yX4_clear : MethodName := ⟨RX4, "clear", "()I"⟩
abbrev cX4_signAt : ByteArray := prog_6_method_4_code
def yX4_signAt : MethodName := ⟨RX4, "signAt", "(I)I"⟩
abbrev cX4_spellFault : ByteArray := prog_6_method_5_code
def yX4_spellFault : MethodName := ⟨RX4, "spellFault", "(I)I"⟩
abbrev cX4_eveningFault : ByteArray := prog_6_method_6_code
def yX4_eveningFault : MethodName := ⟨RX4, "eveningFault", "(I)I"⟩
abbrev cX4_hasOnlyWords : ByteArray := prog_6_method_7_code
def yX4_hasOnlyWords : MethodName := ⟨RX4, "hasOnlyWords", "(LHenHuts$Wood;)Z"⟩
def RX5 : String := "HenHuts$Paths"
def TX5 : u_T := fun k => match k with
  | 0 => ("HenHuts$Paths", "found", "I", false)
  | 1 => ("HenHuts$Paths", "steps", "LHenHuts$Steps;", true)
  | 2 => ("HenHuts$Paths", "order", "[I", true)
  | 3 => ("HenHuts$Paths", "depth", "[I", true)
  | _ => ("HenHuts$Paths", "last", "[I", true)
def tyX5 : Nat → FieldType := fun k => match k with
  | 0 => .int
  | 1 => .object "HenHuts$Steps"
  | 2 => .array .int
  | 3 => .array .int
  | _ => .array .int
theorem nmX5 : ∀ a, a < 5 → ∀ b, b < 5 → a ≠ b → (TX5 a).2.1 ≠ (TX5 b).2.1 := by decide +kernel
theorem tyX5_ok : ∀ k, k < 5 → parseFieldDescriptor (TX5 k).2.2.1 = some (tyX5 k) := by decide +kernel
abbrev cX5_init : ByteArray := prog_7_method_1_code
def yX5_init : MethodName := ⟨RX5, "<init>", "()V"⟩
abbrev cX5_explore : ByteArray := prog_7_method_2_code
def yX5_explore : MethodName := ⟨RX5, "explore", "(LHenHuts$Wood;I)V"⟩
abbrev cX5_reach : ByteArray := prog_7_method_3_code
def yX5_reach : MethodName := ⟨RX5, "reach", "(II)V"⟩
abbrev cX5_firstLooking : ByteArray := prog_7_method_4_code
def yX5_firstLooking : MethodName := ⟨RX5, "firstLooking", "(II)I"⟩
abbrev cX5_wordOfRow : ByteArray := prog_7_method_5_code
def yX5_wordOfRow : MethodName := ⟨RX5, "wordOfRow", "(II)I"⟩
abbrev cX5_leastQuarters : ByteArray := prog_7_method_6_code
def yX5_leastQuarters : MethodName := ⟨RX5, "leastQuarters", "(LHenHuts$Wood;II)I"⟩
abbrev cX5_cheapen : ByteArray := prog_7_method_7_code
def yX5_cheapen : MethodName := ⟨RX5, "cheapen", "(II)I"⟩
def RX6 : String := "HenHuts$Postman"
def TX6 : u_T := fun k => match k with
  | 0 => ("HenHuts$Postman", "set", "I", false)
  | 1 => ("HenHuts$Postman", "aim", "I", false)
  | 2 => ("HenHuts$Postman", "now", "[I", true)
  | 3 => ("HenHuts$Postman", "next", "[I", true)
  | _ => ("HenHuts$Postman", "been", "[I", true)
def tyX6 : Nat → FieldType := fun k => match k with
  | 0 => .int
  | 1 => .int
  | 2 => .array .int
  | 3 => .array .int
  | _ => .array .int
theorem nmX6 : ∀ a, a < 5 → ∀ b, b < 5 → a ≠ b → (TX6 a).2.1 ≠ (TX6 b).2.1 := by decide +kernel
theorem tyX6_ok : ∀ k, k < 5 → parseFieldDescriptor (TX6 k).2.2.1 = some (tyX6 k) := by decide +kernel
abbrev cX6_init : ByteArray := prog_8_method_1_code
def yX6_init : MethodName := ⟨RX6, "<init>", "()V"⟩
abbrev cX6_fewestMinutes : ByteArray := prog_8_method_2_code
def yX6_fewestMinutes : MethodName := ⟨RX6, "fewestMinutes", "(LHenHuts$Wood;LHenHuts$Steps;II)I"⟩
abbrev cX6_isServed : ByteArray := prog_8_method_3_code
def yX6_isServed : MethodName := ⟨RX6, "isServed", "(I)Z"⟩
abbrev cX6_hear : ByteArray := prog_8_method_4_code
def yX6_hear : MethodName := ⟨RX6, "hear", "(LHenHuts$Steps;II)V"⟩
abbrev cX6_knockAll : ByteArray := prog_8_method_5_code
def yX6_knockAll : MethodName := ⟨RX6, "knockAll", "(I)Z"⟩
abbrev cX6_doorsAt : ByteArray := prog_8_method_6_code
def yX6_doorsAt : MethodName := ⟨RX6, "doorsAt", "(I)I"⟩
abbrev cX6_withDoors : ByteArray := prog_8_method_7_code
def yX6_withDoors : MethodName := ⟨RX6, "withDoors", "(II)I"⟩
def RX7 : String := "HenHuts$Steps"
def TX7 : u_T := fun k => match k with
  | 0 => ("HenHuts$Steps", "near", "[I", true)
  | _ => ("HenHuts$Steps", "far", "[I", true)
def tyX7 : Nat → FieldType := fun k => match k with
  | 0 => .array .int
  | _ => .array .int
theorem nmX7 : ∀ a, a < 2 → ∀ b, b < 2 → a ≠ b → (TX7 a).2.1 ≠ (TX7 b).2.1 := by decide +kernel
theorem tyX7_ok : ∀ k, k < 2 → parseFieldDescriptor (TX7 k).2.2.1 = some (tyX7 k) := by decide +kernel
abbrev cX7_init : ByteArray := prog_9_method_1_code
def yX7_init : MethodName := ⟨RX7, "<init>", "()V"⟩
abbrev cX7_tabulate : ByteArray := prog_9_method_2_code
def yX7_tabulate : MethodName := ⟨RX7, "tabulate", "(LHenHuts$Wood;I)V"⟩
abbrev cX7_looksBehind : ByteArray := prog_9_method_3_code
def yX7_looksBehind : MethodName := ⟨RX7, "looksBehind", "(II)I"⟩
abbrev cX7_quartersOf : ByteArray := prog_9_method_4_code
def yX7_quartersOf : MethodName := ⟨RX7, "quartersOf", "(II)I"⟩
abbrev cX7_step : ByteArray := prog_9_method_5_code
def yX7_step : MethodName := ⟨RX7, "step", "(II)I"⟩
abbrev cX7_fill : ByteArray := prog_9_method_6_code
def yX7_fill : MethodName := ⟨RX7, "fill", "([IILHenHuts$Wood;II)V"⟩
def RX8 : String := "HenHuts$Trail"
def TX8 : u_T := fun k => match k with
  | 0 => ("HenHuts$Trail", "many", "I", false)
  | 1 => ("HenHuts$Trail", "least", "I", false)
  | _ => ("HenHuts$Trail", "ways", "[I", true)
def tyX8 : Nat → FieldType := fun k => match k with
  | 0 => .int
  | 1 => .int
  | _ => .array .int
theorem nmX8 : ∀ a, a < 3 → ∀ b, b < 3 → a ≠ b → (TX8 a).2.1 ≠ (TX8 b).2.1 := by decide +kernel
theorem tyX8_ok : ∀ k, k < 3 → parseFieldDescriptor (TX8 k).2.2.1 = some (tyX8 k) := by decide +kernel
abbrev cX8_init : ByteArray := prog_10_method_1_code
def yX8_init : MethodName := ⟨RX8, "<init>", "()V"⟩
abbrev cX8_follow : ByteArray := prog_10_method_2_code
def yX8_follow : MethodName := ⟨RX8, "follow", "(LHenHuts$Wood;LHenHuts$Pad;)V"⟩
abbrev cX8_fits : ByteArray := prog_10_method_3_code
def yX8_fits : MethodName := ⟨RX8, "fits", "(LHenHuts$Wood;LHenHuts$Pad;II)Z"⟩
abbrev cX8_isSo : ByteArray := prog_10_method_4_code
def yX8_isSo : MethodName := ⟨RX8, "isSo", "(LHenHuts$Wood;III)Z"⟩
abbrev cX8_isSeenLater : ByteArray := prog_10_method_5_code
def yX8_isSeenLater : MethodName := ⟨RX8, "isSeenLater", "(LHenHuts$Wood;II)Z"⟩
def RX9 : String := "HenHuts$Wood"
def TX9 : u_T := fun k => match k with
  | 0 => ("HenHuts$Wood", "huts", "I", false)
  | 1 => ("HenHuts$Wood", "known", "I", false)
  | 2 => ("HenHuts$Wood", "sights", "I", false)
  | 3 => ("HenHuts$Wood", "looks", "[I", true)
  | 4 => ("HenHuts$Wood", "legs", "[I", true)
  | 5 => ("HenHuts$Wood", "most", "[I", true)
  | 6 => ("HenHuts$Wood", "kinds", "[I", true)
  | 7 => ("HenHuts$Wood", "cells", "[I", true)
  | 8 => ("HenHuts$Wood", "turns", "[I", true)
  | 9 => ("HenHuts$Wood", "sightHuts", "[I", true)
  | 10 => ("HenHuts$Wood", "sightEvents", "[I", true)
  | _ => ("HenHuts$Wood", "sightWays", "[I", true)
def tyX9 : Nat → FieldType := fun k => match k with
  | 0 => .int
  | 1 => .int
  | 2 => .int
  | 3 => .array .int
  | 4 => .array .int
  | 5 => .array .int
  | 6 => .array .int
  | 7 => .array .int
  | 8 => .array .int
  | 9 => .array .int
  | 10 => .array .int
  | _ => .array .int
theorem nmX9 : ∀ a, a < 12 → ∀ b, b < 12 → a ≠ b → (TX9 a).2.1 ≠ (TX9 b).2.1 := by decide +kernel
theorem tyX9_ok : ∀ k, k < 12 → parseFieldDescriptor (TX9 k).2.2.1 = some (tyX9 k) := by decide +kernel
abbrev cX9_init : ByteArray := prog_11_method_1_code
def yX9_init : MethodName := ⟨RX9, "<init>", "()V"⟩
abbrev cX9_plant : ByteArray := prog_11_method_2_code
def yX9_plant : MethodName := ⟨RX9, "plant", "(I)V"⟩
abbrev cX9_copyFrom : ByteArray := prog_11_method_3_code
def yX9_copyFrom : MethodName := ⟨RX9, "copyFrom", "(LHenHuts$Wood;)V"⟩
abbrev cX9_hasHut : ByteArray := prog_11_method_4_code
def yX9_hasHut : MethodName := ⟨RX9, "hasHut", "(I)Z"⟩
abbrev cX9_hasSet : ByteArray := prog_11_method_5_code
def yX9_hasSet : MethodName := ⟨RX9, "hasSet", "(I)Z"⟩
abbrev cX9_hasLooks : ByteArray := prog_11_method_6_code
def yX9_hasLooks : MethodName := ⟨RX9, "hasLooks", "(I)Z"⟩
abbrev cX9_knows : ByteArray := prog_11_method_7_code
def yX9_knows : MethodName := ⟨RX9, "knows", "(I)Z"⟩
abbrev cX9_knowsAll : ByteArray := prog_11_method_8_code
def yX9_knowsAll : MethodName := ⟨RX9, "knowsAll", "(I)Z"⟩
abbrev cX9_isTaken : ByteArray := prog_11_method_9_code
def yX9_isTaken : MethodName := ⟨RX9, "isTaken", "(II)Z"⟩
abbrev cX9_alter : ByteArray := prog_11_method_10_code
def yX9_alter : MethodName := ⟨RX9, "alter", "(III)I"⟩
abbrev cX9_rowOf : ByteArray := prog_11_method_11_code
def yX9_rowOf : MethodName := ⟨RX9, "rowOf", "(I)[I"⟩
abbrev cX9_addSight : ByteArray := prog_11_method_12_code
def yX9_addSight : MethodName := ⟨RX9, "addSight", "(III)I"⟩
abbrev cX9_number : ByteArray := prog_11_method_13_code
def yX9_number : MethodName := ⟨RX9, "number", "()I"⟩
abbrev cX9_quarters : ByteArray := prog_11_method_14_code
def yX9_quarters : MethodName := ⟨RX9, "quarters", "(III)I"⟩
abbrev cX9_turned : ByteArray := prog_11_method_15_code
def yX9_turned : MethodName := ⟨RX9, "turned", "(III)I"⟩
def RX10 : String := "HenHuts"
def TX10 : u_T := fun k => match k with
  | 0 => ("HenHuts", "wood", "LHenHuts$Wood;", true)
  | 1 => ("HenHuts", "images", "[LHenHuts$Wood;", true)
  | 2 => ("HenHuts", "kept", "[Z", true)
  | 3 => ("HenHuts", "pad", "LHenHuts$Pad;", true)
  | 4 => ("HenHuts", "evening", "LHenHuts$Evening;", true)
  | 5 => ("HenHuts", "paths", "LHenHuts$Paths;", true)
  | 6 => ("HenHuts", "legwork", "LHenHuts$Legwork;", true)
  | 7 => ("HenHuts", "postman", "LHenHuts$Postman;", true)
  | 8 => ("HenHuts", "callers", "LHenHuts$Callers;", true)
  | 9 => ("HenHuts", "dance", "LHenHuts$Dance;", true)
  | _ => ("HenHuts", "trail", "LHenHuts$Trail;", true)
def tyX10 : Nat → FieldType := fun k => match k with
  | 0 => .object "HenHuts$Wood"
  | 1 => .array (.object "HenHuts$Wood")
  | 2 => .array .boolean
  | 3 => .object "HenHuts$Pad"
  | 4 => .object "HenHuts$Evening"
  | 5 => .object "HenHuts$Paths"
  | 6 => .object "HenHuts$Legwork"
  | 7 => .object "HenHuts$Postman"
  | 8 => .object "HenHuts$Callers"
  | 9 => .object "HenHuts$Dance"
  | _ => .object "HenHuts$Trail"
theorem nmX10 : ∀ a, a < 11 → ∀ b, b < 11 → a ≠ b → (TX10 a).2.1 ≠ (TX10 b).2.1 := by decide +kernel
theorem tyX10_ok : ∀ k, k < 11 → parseFieldDescriptor (TX10 k).2.2.1 = some (tyX10 k) := by decide +kernel
abbrev cX10_init : ByteArray := prog_1_method_1_code
def yX10_init : MethodName := ⟨RX10, "<init>", "()V"⟩
abbrev cX10_huts : ByteArray := prog_1_method_2_code
def yX10_huts : MethodName := ⟨RX10, "huts", "(I)I"⟩
abbrev cX10_hut : ByteArray := prog_1_method_3_code
def yX10_hut : MethodName := ⟨RX10, "hut", "(III)I"⟩
abbrev cX10_say : ByteArray := prog_1_method_4_code
def yX10_say : MethodName := ⟨RX10, "say", "(I)I"⟩
abbrev cX10_wipe : ByteArray := prog_1_method_5_code
def yX10_wipe : MethodName := ⟨RX10, "wipe", "()I"⟩
abbrev cX10_fault : ByteArray := prog_1_method_6_code
def yX10_fault : MethodName := ⟨RX10, "fault", "(I)I"⟩
abbrev cX10_word : ByteArray := prog_1_method_7_code
def yX10_word : MethodName := ⟨RX10, "word", "(I)I"⟩
abbrev cX10_unword : ByteArray := prog_1_method_8_code
def yX10_unword : MethodName := ⟨RX10, "unword", "(I)I"⟩
abbrev cX10_judge : ByteArray := prog_1_method_9_code
def yX10_judge : MethodName := ⟨RX10, "judge", "(I)I"⟩
abbrev cX10_behind : ByteArray := prog_1_method_10_code
def yX10_behind : MethodName := ⟨RX10, "behind", "(II)I"⟩
abbrev cX10_done : ByteArray := prog_1_method_11_code
def yX10_done : MethodName := ⟨RX10, "done", "()I"⟩
abbrev cX10_state : ByteArray := prog_1_method_12_code
def yX10_state : MethodName := ⟨RX10, "state", "(II)I"⟩
abbrev cX10_bare : ByteArray := prog_1_method_13_code
def yX10_bare : MethodName := ⟨RX10, "bare", "(II)I"⟩
abbrev cX10_reached : ByteArray := prog_1_method_14_code
def yX10_reached : MethodName := ⟨RX10, "reached", "()I"⟩
abbrev cX10_can : ByteArray := prog_1_method_15_code
def yX10_can : MethodName := ⟨RX10, "can", "(I)I"⟩
abbrev cX10_spelled : ByteArray := prog_1_method_16_code
def yX10_spelled : MethodName := ⟨RX10, "spelled", "(III)I"⟩
abbrev cX10_tired : ByteArray := prog_1_method_17_code
def yX10_tired : MethodName := ⟨RX10, "tired", "(II)I"⟩
abbrev cX10_able : ByteArray := prog_1_method_18_code
def yX10_able : MethodName := ⟨RX10, "able", "(II)I"⟩
abbrev cX10_without : ByteArray := prog_1_method_19_code
def yX10_without : MethodName := ⟨RX10, "without", "(III)I"⟩
abbrev cX10_round : ByteArray := prog_1_method_20_code
def yX10_round : MethodName := ⟨RX10, "round", "(II)I"⟩
abbrev cX10_two : ByteArray := prog_1_method_21_code
def yX10_two : MethodName := ⟨RX10, "two", "(IIIIII)I"⟩
abbrev cX10_pairs : ByteArray := prog_1_method_22_code
def yX10_pairs : MethodName := ⟨RX10, "pairs", "()I"⟩
abbrev cX10_danced : ByteArray := prog_1_method_23_code
def yX10_danced : MethodName := ⟨RX10, "danced", "(I)I"⟩
abbrev cX10_elected : ByteArray := prog_1_method_24_code
def yX10_elected : MethodName := ⟨RX10, "elected", "()I"⟩
abbrev cX10_majority : ByteArray := prog_1_method_25_code
def yX10_majority : MethodName := ⟨RX10, "majority", "(I)I"⟩
abbrev cX10_seen : ByteArray := prog_1_method_26_code
def yX10_seen : MethodName := ⟨RX10, "seen", "(III)I"⟩
abbrev cX10_forget : ByteArray := prog_1_method_27_code
def yX10_forget : MethodName := ⟨RX10, "forget", "()I"⟩
abbrev cX10_tracks : ByteArray := prog_1_method_28_code
def yX10_tracks : MethodName := ⟨RX10, "tracks", "(I)I"⟩
abbrev cX10_looked : ByteArray := prog_1_method_29_code
def yX10_looked : MethodName := ⟨RX10, "looked", "(I)I"⟩
abbrev cX10_storm : ByteArray := prog_1_method_30_code
def yX10_storm : MethodName := ⟨RX10, "storm", "(IIIII)J"⟩
abbrev cX10_ninety : ByteArray := prog_1_method_31_code
def yX10_ninety : MethodName := ⟨RX10, "ninety", "(III)I"⟩
abbrev cX10_image : ByteArray := prog_1_method_32_code
def yX10_image : MethodName := ⟨RX10, "image", "(I)I"⟩
abbrev cX10_restore : ByteArray := prog_1_method_33_code
def yX10_restore : MethodName := ⟨RX10, "restore", "(I)I"⟩
abbrev cX10_told : ByteArray := prog_1_method_34_code
def yX10_told : MethodName := ⟨RX10, "told", "(I)I"⟩
abbrev cX10_toldOfHut : ByteArray := prog_1_method_35_code
def yX10_toldOfHut : MethodName := ⟨RX10, "toldOfHut", "(II)I"⟩
abbrev cX10_toldOfWord : ByteArray := prog_1_method_36_code
def yX10_toldOfWord : MethodName := ⟨RX10, "toldOfWord", "(II)I"⟩
abbrev cX10_playWhole : ByteArray := prog_1_method_37_code
def yX10_playWhole : MethodName := ⟨RX10, "playWhole", "()I"⟩
abbrev cX10_isTrackable : ByteArray := prog_1_method_38_code
def yX10_isTrackable : MethodName := ⟨RX10, "isTrackable", "()Z"⟩
abbrev cX10_isAim : ByteArray := prog_1_method_39_code
def yX10_isAim : MethodName := ⟨RX10, "isAim", "(II)Z"⟩
abbrev cX10_fewestWords : ByteArray := prog_1_method_40_code
def yX10_fewestWords : MethodName := ⟨RX10, "fewestWords", "(III)I"⟩
abbrev cX10_votes : ByteArray := prog_1_method_41_code
def yX10_votes : MethodName := ⟨RX10, "votes", "(II)I"⟩
abbrev cX10_looksOfSides : ByteArray := prog_1_method_42_code
def yX10_looksOfSides : MethodName := ⟨RX10, "looksOfSides", "(II)I"⟩
abbrev cX10_mostOf : ByteArray := prog_1_method_43_code
def yX10_mostOf : MethodName := ⟨RX10, "mostOf", "(I)I"⟩
abbrev cX10_isWithin : ByteArray := prog_1_method_44_code
def yX10_isWithin : MethodName := ⟨RX10, "isWithin", "(III)Z"⟩
abbrev cX10_isIn : ByteArray := prog_1_method_45_code
def yX10_isIn : MethodName := ⟨RX10, "isIn", "(II)Z"⟩
abbrev cX10_lookIn : ByteArray := prog_1_method_46_code
def yX10_lookIn : MethodName := ⟨RX10, "lookIn", "(II)I"⟩
abbrev cX10_numberOf : ByteArray := prog_1_method_47_code
def yX10_numberOf : MethodName := ⟨RX10, "numberOf", "([II)I"⟩
abbrev cX10_maskOf : ByteArray := prog_1_method_48_code
def yX10_maskOf : MethodName := ⟨RX10, "maskOf", "(I)I"⟩
abbrev cX10_stormUpper : ByteArray := prog_1_method_49_code
def yX10_stormUpper : MethodName := ⟨RX10, "stormUpper", "(III)J"⟩
abbrev cX10_commonDivisor : ByteArray := prog_1_method_50_code
def yX10_commonDivisor : MethodName := ⟨RX10, "commonDivisor", "(JJ)J"⟩
abbrev cX10_wayOf : ByteArray := prog_1_method_51_code
def yX10_wayOf : MethodName := ⟨RX10, "wayOf", "(I)I"⟩
abbrev cX10_isDigit : ByteArray := prog_1_method_52_code
def yX10_isDigit : MethodName := ⟨RX10, "isDigit", "(I)Z"⟩
abbrev cX10_isLetter : ByteArray := prog_1_method_53_code
def yX10_isLetter : MethodName := ⟨RX10, "isLetter", "(I)Z"⟩
def RX11 : String := "HenHutsModel"
def TX11 : u_T := fun k => match k with
  | 0 => ("HenHutsModel", "huts", "I", false)
  | 1 => ("HenHutsModel", "look", "[I", true)
  | 2 => ("HenHutsModel", "legs", "[I", true)
  | 3 => ("HenHutsModel", "most", "[I", true)
  | 4 => ("HenHutsModel", "kind", "[I", true)
  | 5 => ("HenHutsModel", "cell", "[I", true)
  | 6 => ("HenHutsModel", "words", "I", false)
  | 7 => ("HenHutsModel", "turn", "[I", true)
  | 8 => ("HenHutsModel", "sightHut", "[I", true)
  | 9 => ("HenHutsModel", "sightEvents", "[I", true)
  | 10 => ("HenHutsModel", "sightWay", "[I", true)
  | 11 => ("HenHutsModel", "sights", "I", false)
  | 12 => ("HenHutsModel", "pad", "[I", true)
  | 13 => ("HenHutsModel", "padMany", "I", false)
  | 14 => ("HenHutsModel", "event", "[I", true)
  | 15 => ("HenHutsModel", "events", "I", false)
  | 16 => ("HenHutsModel", "turns", "I", false)
  | 17 => ("HenHutsModel", "letIn", "I", false)
  | 18 => ("HenHutsModel", "sat", "I", false)
  | 19 => ("HenHutsModel", "hadLook", "[I", true)
  | 20 => ("HenHutsModel", "hadLegs", "[I", true)
  | 21 => ("HenHutsModel", "badEvent", "I", false)
  | 22 => ("HenHutsModel", "badWhy", "I", false)
  | 23 => ("HenHutsModel", "row", "[I", true)
  | 24 => ("HenHutsModel", "rowMany", "I", false)
  | 25 => ("HenHutsModel", "far", "[I", true)
  | 26 => ("HenHutsModel", "from", "[I", true)
  | 27 => ("HenHutsModel", "by", "[I", true)
  | 28 => ("HenHutsModel", "cost", "[I", true)
  | 29 => ("HenHutsModel", "wordsTo", "[I", true)
  | 30 => ("HenHutsModel", "queue", "[I", true)
  | 31 => ("HenHutsModel", "wanted", "[I", true)
  | 32 => ("HenHutsModel", "winner", "[I", true)
  | 33 => ("HenHutsModel", "behindWords", "[I", true)
  | 34 => ("HenHutsModel", "trackMany", "I", false)
  | 35 => ("HenHutsModel", "trackLeast", "I", false)
  | 36 => ("HenHutsModel", "tracked", "[I", true)
  | 37 => ("HenHutsModel", "kept", "[I", true)
  | 38 => ("HenHutsModel", "isKept", "[Z", true)
  | 39 => ("HenHutsModel", "keptAt", "I", false)
  | _ => ("HenHutsModel", "isWriting", "Z", false)
def tyX11 : Nat → FieldType := fun k => match k with
  | 0 => .int
  | 1 => .array .int
  | 2 => .array .int
  | 3 => .array .int
  | 4 => .array .int
  | 5 => .array .int
  | 6 => .int
  | 7 => .array .int
  | 8 => .array .int
  | 9 => .array .int
  | 10 => .array .int
  | 11 => .int
  | 12 => .array .int
  | 13 => .int
  | 14 => .array .int
  | 15 => .int
  | 16 => .int
  | 17 => .int
  | 18 => .int
  | 19 => .array .int
  | 20 => .array .int
  | 21 => .int
  | 22 => .int
  | 23 => .array .int
  | 24 => .int
  | 25 => .array .int
  | 26 => .array .int
  | 27 => .array .int
  | 28 => .array .int
  | 29 => .array .int
  | 30 => .array .int
  | 31 => .array .int
  | 32 => .array .int
  | 33 => .array .int
  | 34 => .int
  | 35 => .int
  | 36 => .array .int
  | 37 => .array .int
  | 38 => .array .boolean
  | 39 => .int
  | _ => .boolean
theorem nmX11 : ∀ a, a < 41 → ∀ b, b < 41 → a ≠ b → (TX11 a).2.1 ≠ (TX11 b).2.1 := by decide +kernel
theorem tyX11_ok : ∀ k, k < 41 → parseFieldDescriptor (TX11 k).2.2.1 = some (tyX11 k) := by decide +kernel
abbrev cX11_init : ByteArray := prog_13_method_1_code
def yX11_init : MethodName := ⟨RX11, "<init>", "()V"⟩
abbrev cX11_in : ByteArray := prog_13_method_3_code
def yX11_in : MethodName := ⟨RX11, "in", "(JJJ)Z"⟩
abbrev cX11_ones : ByteArray := prog_13_method_4_code
def yX11_ones : MethodName := ⟨RX11, "ones", "(I)I"⟩
abbrev cX11_begin : ByteArray := prog_13_method_5_code
def yX11_begin : MethodName := ⟨RX11, "begin", "(I)V"⟩
abbrev cX11_isHut : ByteArray := prog_13_method_6_code
def yX11_isHut : MethodName := ⟨RX11, "isHut", "(I)Z"⟩
abbrev cX11_isWay : ByteArray := prog_13_method_7_code
def yX11_isWay : MethodName := ⟨RX11, "isWay", "(I)Z"⟩
abbrev cX11_isKnown : ByteArray := prog_13_method_8_code
def yX11_isKnown : MethodName := ⟨RX11, "isKnown", "(I)Z"⟩
abbrev cX11_huts : ByteArray := prog_13_method_9_code
def yX11_huts : MethodName := ⟨RX11, "huts", "(I)I"⟩
abbrev cX11_greatest : ByteArray := prog_13_method_10_code
def yX11_greatest : MethodName := ⟨RX11, "greatest", "(I)I"⟩
abbrev cX11_isTaken : ByteArray := prog_13_method_11_code
def yX11_isTaken : MethodName := ⟨RX11, "isTaken", "(II)Z"⟩
abbrev cX11_hut : ByteArray := prog_13_method_12_code
def yX11_hut : MethodName := ⟨RX11, "hut", "(III)I"⟩
abbrev cX11_say : ByteArray := prog_13_method_13_code
def yX11_say : MethodName := ⟨RX11, "say", "(I)I"⟩
abbrev cX11_wipe : ByteArray := prog_13_method_14_code
def yX11_wipe : MethodName := ⟨RX11, "wipe", "()I"⟩
abbrev cX11_faultOfSpell : ByteArray := prog_13_method_15_code
def yX11_faultOfSpell : MethodName := ⟨RX11, "faultOfSpell", "()I"⟩
abbrev cX11_wayOf : ByteArray := prog_13_method_16_code
def yX11_wayOf : MethodName := ⟨RX11, "wayOf", "(I)I"⟩
abbrev cX11_faultOfEvening : ByteArray := prog_13_method_17_code
def yX11_faultOfEvening : MethodName := ⟨RX11, "faultOfEvening", "()I"⟩
abbrev cX11_fault : ByteArray := prog_13_method_18_code
def yX11_fault : MethodName := ⟨RX11, "fault", "(I)I"⟩
abbrev cX11_word : ByteArray := prog_13_method_19_code
def yX11_word : MethodName := ⟨RX11, "word", "(I)I"⟩
abbrev cX11_unword : ByteArray := prog_13_method_20_code
def yX11_unword : MethodName := ⟨RX11, "unword", "(I)I"⟩
abbrev cX11_heeds : ByteArray := prog_13_method_21_code
def yX11_heeds : MethodName := ⟨RX11, "heeds", "(III)I"⟩
abbrev cX11_turned : ByteArray := prog_13_method_22_code
def yX11_turned : MethodName := ⟨RX11, "turned", "(III)I"⟩
abbrev cX11_sayWord : ByteArray := prog_13_method_23_code
def yX11_sayWord : MethodName := ⟨RX11, "sayWord", "(I)V"⟩
abbrev cX11_thunder : ByteArray := prog_13_method_24_code
def yX11_thunder : MethodName := ⟨RX11, "thunder", "()V"⟩
abbrev cX11_night : ByteArray := prog_13_method_25_code
def yX11_night : MethodName := ⟨RX11, "night", "()V"⟩
abbrev cX11_keepNow : ByteArray := prog_13_method_26_code
def yX11_keepNow : MethodName := ⟨RX11, "keepNow", "()V"⟩
abbrev cX11_putBack : ByteArray := prog_13_method_27_code
def yX11_putBack : MethodName := ⟨RX11, "putBack", "()V"⟩
abbrev cX11_happen : ByteArray := prog_13_method_28_code
def yX11_happen : MethodName := ⟨RX11, "happen", "(I)V"⟩
abbrev cX11_whyNot : ByteArray := prog_13_method_29_code
def yX11_whyNot : MethodName := ⟨RX11, "whyNot", "(I)I"⟩
abbrev cX11_goEvening : ByteArray := prog_13_method_30_code
def yX11_goEvening : MethodName := ⟨RX11, "goEvening", "()V"⟩
abbrev cX11_judge : ByteArray := prog_13_method_31_code
def yX11_judge : MethodName := ⟨RX11, "judge", "(I)I"⟩
abbrev cX11_behind : ByteArray := prog_13_method_32_code
def yX11_behind : MethodName := ⟨RX11, "behind", "(II)I"⟩
abbrev cX11_done : ByteArray := prog_13_method_33_code
def yX11_done : MethodName := ⟨RX11, "done", "()I"⟩
abbrev cX11_state : ByteArray := prog_13_method_34_code
def yX11_state : MethodName := ⟨RX11, "state", "(II)I"⟩
abbrev cX11_bare : ByteArray := prog_13_method_35_code
def yX11_bare : MethodName := ⟨RX11, "bare", "(II)I"⟩
abbrev cX11_all : ByteArray := prog_13_method_36_code
def yX11_all : MethodName := ⟨RX11, "all", "()I"⟩
abbrev cX11_lookNow : ByteArray := prog_13_method_37_code
def yX11_lookNow : MethodName := ⟨RX11, "lookNow", "()I"⟩
abbrev cX11_wayIn : ByteArray := prog_13_method_38_code
def yX11_wayIn : MethodName := ⟨RX11, "wayIn", "(II)I"⟩
abbrev cX11_saidTo : ByteArray := prog_13_method_39_code
def yX11_saidTo : MethodName := ⟨RX11, "saidTo", "(II)I"⟩
abbrev cX11_quartersOf : ByteArray := prog_13_method_40_code
def yX11_quartersOf : MethodName := ⟨RX11, "quartersOf", "(II)I"⟩
abbrev cX11_spread : ByteArray := prog_13_method_41_code
def yX11_spread : MethodName := ⟨RX11, "spread", "(I)V"⟩
abbrev cX11_reached : ByteArray := prog_13_method_42_code
def yX11_reached : MethodName := ⟨RX11, "reached", "()I"⟩
abbrev cX11_isNumber : ByteArray := prog_13_method_43_code
def yX11_isNumber : MethodName := ⟨RX11, "isNumber", "(I)Z"⟩
abbrev cX11_can : ByteArray := prog_13_method_44_code
def yX11_can : MethodName := ⟨RX11, "can", "(I)I"⟩
abbrev cX11_isSet : ByteArray := prog_13_method_45_code
def yX11_isSet : MethodName := ⟨RX11, "isSet", "(I)Z"⟩
abbrev cX11_isSo : ByteArray := prog_13_method_46_code
def yX11_isSo : MethodName := ⟨RX11, "isSo", "(III)Z"⟩
abbrev cX11_firstSo : ByteArray := prog_13_method_47_code
def yX11_firstSo : MethodName := ⟨RX11, "firstSo", "(III)I"⟩
abbrev cX11_spelled : ByteArray := prog_13_method_48_code
def yX11_spelled : MethodName := ⟨RX11, "spelled", "(III)I"⟩
abbrev cX11_tired : ByteArray := prog_13_method_49_code
def yX11_tired : MethodName := ⟨RX11, "tired", "(II)I"⟩
abbrev cX11_isAbleBy : ByteArray := prog_13_method_50_code
def yX11_isAbleBy : MethodName := ⟨RX11, "isAbleBy", "(IIII)Z"⟩
abbrev cX11_able : ByteArray := prog_13_method_51_code
def yX11_able : MethodName := ⟨RX11, "able", "(II)I"⟩
abbrev cX11_without : ByteArray := prog_13_method_52_code
def yX11_without : MethodName := ⟨RX11, "without", "(III)I"⟩
abbrev cX11_layWanted : ByteArray := prog_13_method_53_code
def yX11_layWanted : MethodName := ⟨RX11, "layWanted", "(II)Z"⟩
abbrev cX11_broughtBy : ByteArray := prog_13_method_54_code
def yX11_broughtBy : MethodName := ⟨RX11, "broughtBy", "(III)I"⟩
abbrev cX11_round : ByteArray := prog_13_method_55_code
def yX11_round : MethodName := ⟨RX11, "round", "(II)I"⟩
abbrev cX11_after : ByteArray := prog_13_method_56_code
def yX11_after : MethodName := ⟨RX11, "after", "(III)I"⟩
abbrev cX11_beginTwo : ByteArray := prog_13_method_57_code
def yX11_beginTwo : MethodName := ⟨RX11, "beginTwo", "(II)V"⟩
abbrev cX11_settle : ByteArray := prog_13_method_58_code
def yX11_settle : MethodName := ⟨RX11, "settle", "(IIII)V"⟩
abbrev cX11_two : ByteArray := prog_13_method_59_code
def yX11_two : MethodName := ⟨RX11, "two", "(IIIIII)I"⟩
abbrev cX11_wayTo : ByteArray := prog_13_method_60_code
def yX11_wayTo : MethodName := ⟨RX11, "wayTo", "(II)I"⟩
abbrev cX11_distance : ByteArray := prog_13_method_61_code
def yX11_distance : MethodName := ⟨RX11, "distance", "(II)I"⟩
abbrev cX11_isClear : ByteArray := prog_13_method_62_code
def yX11_isClear : MethodName := ⟨RX11, "isClear", "(II)Z"⟩
abbrev cX11_pairsIn : ByteArray := prog_13_method_63_code
def yX11_pairsIn : MethodName := ⟨RX11, "pairsIn", "(I)I"⟩
abbrev cX11_pairs : ByteArray := prog_13_method_64_code
def yX11_pairs : MethodName := ⟨RX11, "pairs", "()I"⟩
abbrev cX11_danced : ByteArray := prog_13_method_65_code
def yX11_danced : MethodName := ⟨RX11, "danced", "(I)I"⟩
abbrev cX11_lookingIn : ByteArray := prog_13_method_66_code
def yX11_lookingIn : MethodName := ⟨RX11, "lookingIn", "(II)I"⟩
abbrev cX11_elected : ByteArray := prog_13_method_67_code
def yX11_elected : MethodName := ⟨RX11, "elected", "()I"⟩
abbrev cX11_majority : ByteArray := prog_13_method_68_code
def yX11_majority : MethodName := ⟨RX11, "majority", "(I)I"⟩
abbrev cX11_seen : ByteArray := prog_13_method_69_code
def yX11_seen : MethodName := ⟨RX11, "seen", "(III)I"⟩
abbrev cX11_forget : ByteArray := prog_13_method_70_code
def yX11_forget : MethodName := ⟨RX11, "forget", "()I"⟩
abbrev cX11_isSeenSo : ByteArray := prog_13_method_71_code
def yX11_isSeenSo : MethodName := ⟨RX11, "isSeenSo", "(I)Z"⟩
abbrev cX11_isTrack : ByteArray := prog_13_method_72_code
def yX11_isTrack : MethodName := ⟨RX11, "isTrack", "(I)Z"⟩
abbrev cX11_isUnread : ByteArray := prog_13_method_73_code
def yX11_isUnread : MethodName := ⟨RX11, "isUnread", "()Z"⟩
abbrev cX11_findTracks : ByteArray := prog_13_method_74_code
def yX11_findTracks : MethodName := ⟨RX11, "findTracks", "()V"⟩
abbrev cX11_tracks : ByteArray := prog_13_method_75_code
def yX11_tracks : MethodName := ⟨RX11, "tracks", "(I)I"⟩
abbrev cX11_looked : ByteArray := prog_13_method_76_code
def yX11_looked : MethodName := ⟨RX11, "looked", "(I)I"⟩
abbrev cX11_lowest : ByteArray := prog_13_method_77_code
def yX11_lowest : MethodName := ⟨RX11, "lowest", "(JJI)J"⟩
abbrev cX11_storm : ByteArray := prog_13_method_78_code
def yX11_storm : MethodName := ⟨RX11, "storm", "(IIIII)J"⟩
abbrev cX11_ninety : ByteArray := prog_13_method_79_code
def yX11_ninety : MethodName := ⟨RX11, "ninety", "(III)I"⟩
abbrev cX11_pass : ByteArray := prog_13_method_80_code
def yX11_pass : MethodName := ⟨RX11, "pass", "(I)I"⟩
abbrev cX11_passAll : ByteArray := prog_13_method_81_code
def yX11_passAll : MethodName := ⟨RX11, "passAll", "()V"⟩
abbrev cX11_image : ByteArray := prog_13_method_82_code
def yX11_image : MethodName := ⟨RX11, "image", "(I)I"⟩
abbrev cX11_restore : ByteArray := prog_13_method_83_code
def yX11_restore : MethodName := ⟨RX11, "restore", "(I)I"⟩
abbrev cX11_toldOfHut : ByteArray := prog_13_method_84_code
def yX11_toldOfHut : MethodName := ⟨RX11, "toldOfHut", "(II)I"⟩
abbrev cX11_told : ByteArray := prog_13_method_85_code
def yX11_told : MethodName := ⟨RX11, "told", "(I)I"⟩
def RJ6 : String := "java/lang/Integer"
def TJ6 : u_T := fun k => match k with
  | _ => ("", "", "", false)
def tyJ6 : Nat → FieldType := fun k => match k with
  | _ => .int
theorem nmJ6 : ∀ a, a < 0 → ∀ b, b < 0 → a ≠ b → (TJ6 a).2.1 ≠ (TJ6 b).2.1 := by decide +kernel
theorem tyJ6_ok : ∀ k, k < 0 → parseFieldDescriptor (TJ6 k).2.2.1 = some (tyJ6 k) := by decide +kernel
abbrev cJ6_numberOfTrailingZeros_0f7a4 : ByteArray := prog_14_method_48_code
def yJ6_numberOfTrailingZeros_0f7a4 : MethodName := ⟨RJ6, "numberOfTrailingZeros", "(I)I"⟩
abbrev cJ6_bitCount_0f7a4 : ByteArray := prog_14_method_49_code
def yJ6_bitCount_0f7a4 : MethodName := ⟨RJ6, "bitCount", "(I)I"⟩
def RJ9 : String := "java/lang/Math"
def TJ9 : u_T := fun k => match k with
  | _ => ("", "", "", false)
def tyJ9 : Nat → FieldType := fun k => match k with
  | _ => .int
theorem nmJ9 : ∀ a, a < 0 → ∀ b, b < 0 → a ≠ b → (TJ9 a).2.1 ≠ (TJ9 b).2.1 := by decide +kernel
theorem tyJ9_ok : ∀ k, k < 0 → parseFieldDescriptor (TJ9 k).2.2.1 = some (tyJ9 k) := by decide +kernel
abbrev cJ9_max_7cf53 : ByteArray := prog_15_method_65_code
def yJ9_max_7cf53 : MethodName := ⟨RJ9, "max", "(II)I"⟩
abbrev cJ9_max_f86c9 : ByteArray := prog_15_method_66_code
def yJ9_max_f86c9 : MethodName := ⟨RJ9, "max", "(JJ)J"⟩
abbrev cJ9_min_7cf53 : ByteArray := prog_15_method_69_code
def yJ9_min_7cf53 : MethodName := ⟨RJ9, "min", "(II)I"⟩
def RJ10 : String := "java/lang/System"
def TJ10 : u_T := fun k => match k with
  | _ => ("", "", "", false)
def tyJ10 : Nat → FieldType := fun k => match k with
  | _ => .int
theorem nmJ10 : ∀ a, a < 0 → ∀ b, b < 0 → a ≠ b → (TJ10 a).2.1 ≠ (TJ10 b).2.1 := by decide +kernel
theorem tyJ10_ok : ∀ k, k < 0 → parseFieldDescriptor (TJ10 k).2.2.1 = some (tyJ10 k) := by decide +kernel
def RJ7 : String := "java/util/Arrays"
def TJ7 : u_T := fun k => match k with
  | _ => ("", "", "", false)
def tyJ7 : Nat → FieldType := fun k => match k with
  | _ => .int
theorem nmJ7 : ∀ a, a < 0 → ∀ b, b < 0 → a ≠ b → (TJ7 a).2.1 ≠ (TJ7 b).2.1 := by decide +kernel
theorem tyJ7_ok : ∀ k, k < 0 → parseFieldDescriptor (TJ7 k).2.2.1 = some (tyJ7 k) := by decide +kernel
abbrev cJ7_fill_53178 : ByteArray := prog_17_method_103_code
def yJ7_fill_53178 : MethodName := ⟨RJ7, "fill", "([II)V"⟩
def RL : String := "HenHutsLaw"
abbrev cL_law : ByteArray := code
def yL_law : MethodName := ⟨RL, "law", "([I)Z"⟩
abbrev vwCl : List vw_C := [(RX0, TX0, 2), (RX1, TX1, 4), (RX2, TX2, 7), (RX3, TX3, 4), (RX4, TX4, 2), (RX5, TX5, 5), (RX6, TX6, 5), (RX7, TX7, 2), (RX8, TX8, 3), (RX9, TX9, 12), (RX10, TX10, 11), (RX11, TX11, 41)]
