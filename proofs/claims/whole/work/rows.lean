section
-- ===== PART A: goes FIRST, ahead of the names: the tables' words, and 'selects' of the private methods out of them =====
/-- a private method of a class that the tables say can be made, by its rows of tables_1 -/
def lw_okq (q : MethodName × Nat) : Prop := (q.1.cls ≠ "java/lang/invoke/MethodHandle" ∧ q.1.cls ≠ "java/lang/invoke/VarHandle") ∧ Cond.instantiable q.1.cls q.2 ∈ tables_1 ∧ Cond.privateMethod q.1 ∈ tables_1 ∧ Cond.instanceMethod q.1 ∈ tables_1
theorem lw_p0 : lw_okq (⟨"ScoutGates", "recorded", "(I)I"⟩, 6) := ⟨⟨by decide +kernel, by decide +kernel⟩, List.mem_of_getElem? (i := 10) (by decide +kernel), List.mem_of_getElem? (i := 202) (by decide +kernel), List.mem_of_getElem? (i := 203) (by decide +kernel)⟩
theorem lw_p1 : lw_okq (⟨"ScoutGates", "addTroop", "(I)I"⟩, 6) := ⟨⟨by decide +kernel, by decide +kernel⟩, List.mem_of_getElem? (i := 10) (by decide +kernel), List.mem_of_getElem? (i := 214) (by decide +kernel), List.mem_of_getElem? (i := 215) (by decide +kernel)⟩
theorem lw_p2 : lw_okq (⟨"ScoutGates", "changeSize", "(II)I"⟩, 6) := ⟨⟨by decide +kernel, by decide +kernel⟩, List.mem_of_getElem? (i := 10) (by decide +kernel), List.mem_of_getElem? (i := 229) (by decide +kernel), List.mem_of_getElem? (i := 230) (by decide +kernel)⟩
theorem lw_p3 : lw_okq (⟨"ScoutGates", "isTroop", "(I)Z"⟩, 6) := ⟨⟨by decide +kernel, by decide +kernel⟩, List.mem_of_getElem? (i := 10) (by decide +kernel), List.mem_of_getElem? (i := 233) (by decide +kernel), List.mem_of_getElem? (i := 234) (by decide +kernel)⟩
theorem lw_p4 : lw_okq (⟨"ScoutGates", "letCome", "(III)I"⟩, 6) := ⟨⟨by decide +kernel, by decide +kernel⟩, List.mem_of_getElem? (i := 10) (by decide +kernel), List.mem_of_getElem? (i := 241) (by decide +kernel), List.mem_of_getElem? (i := 242) (by decide +kernel)⟩
theorem lw_p5 : lw_okq (⟨"ScoutGates", "isScout", "(II)Z"⟩, 6) := ⟨⟨by decide +kernel, by decide +kernel⟩, List.mem_of_getElem? (i := 10) (by decide +kernel), List.mem_of_getElem? (i := 249) (by decide +kernel), List.mem_of_getElem? (i := 250) (by decide +kernel)⟩
theorem lw_p6 : lw_okq (⟨"ScoutGates$Troop", "openGate", "(I)I"⟩, 12) := ⟨⟨by decide +kernel, by decide +kernel⟩, List.mem_of_getElem? (i := 25) (by decide +kernel), List.mem_of_getElem? (i := 272) (by decide +kernel), List.mem_of_getElem? (i := 273) (by decide +kernel)⟩
theorem lw_p7 : lw_okq (⟨"ScoutGates$Troop", "beginHike", "(I)V"⟩, 12) := ⟨⟨by decide +kernel, by decide +kernel⟩, List.mem_of_getElem? (i := 25) (by decide +kernel), List.mem_of_getElem? (i := 284) (by decide +kernel), List.mem_of_getElem? (i := 285) (by decide +kernel)⟩
theorem lw_p8 : lw_okq (⟨"ScoutGates", "loseScout", "(II)I"⟩, 6) := ⟨⟨by decide +kernel, by decide +kernel⟩, List.mem_of_getElem? (i := 10) (by decide +kernel), List.mem_of_getElem? (i := 298) (by decide +kernel), List.mem_of_getElem? (i := 299) (by decide +kernel)⟩
theorem lw_p9 : lw_okq (⟨"ScoutGates", "passMinutes", "(I)I"⟩, 6) := ⟨⟨by decide +kernel, by decide +kernel⟩, List.mem_of_getElem? (i := 10) (by decide +kernel), List.mem_of_getElem? (i := 319) (by decide +kernel), List.mem_of_getElem? (i := 320) (by decide +kernel)⟩
theorem lw_p10 : lw_okq (⟨"ScoutGates$Troop", "walkOn", "(I)V"⟩, 12) := ⟨⟨by decide +kernel, by decide +kernel⟩, List.mem_of_getElem? (i := 25) (by decide +kernel), List.mem_of_getElem? (i := 327) (by decide +kernel), List.mem_of_getElem? (i := 328) (by decide +kernel)⟩
theorem lw_p11 : lw_okq (⟨"ScoutGates$Pad", "sign", "()C"⟩, 7) := ⟨⟨by decide +kernel, by decide +kernel⟩, List.mem_of_getElem? (i := 125) (by decide +kernel), List.mem_of_getElem? (i := 412) (by decide +kernel), List.mem_of_getElem? (i := 413) (by decide +kernel)⟩
theorem lw_p12 : lw_okq (⟨"ScoutGates$Pad", "readNumber", "()Z"⟩, 7) := ⟨⟨by decide +kernel, by decide +kernel⟩, List.mem_of_getElem? (i := 125) (by decide +kernel), List.mem_of_getElem? (i := 416) (by decide +kernel), List.mem_of_getElem? (i := 417) (by decide +kernel)⟩
theorem lw_p13 : lw_okq (⟨"ScoutGates$Pad", "isDigit", "()Z"⟩, 7) := ⟨⟨by decide +kernel, by decide +kernel⟩, List.mem_of_getElem? (i := 125) (by decide +kernel), List.mem_of_getElem? (i := 420) (by decide +kernel), List.mem_of_getElem? (i := 421) (by decide +kernel)⟩
theorem lw_p14 : lw_okq (⟨"ScoutGates$Pad", "readTroop", "()Z"⟩, 7) := ⟨⟨by decide +kernel, by decide +kernel⟩, List.mem_of_getElem? (i := 125) (by decide +kernel), List.mem_of_getElem? (i := 424) (by decide +kernel), List.mem_of_getElem? (i := 425) (by decide +kernel)⟩
theorem lw_p15 : lw_okq (⟨"ScoutGates$Pad", "readColour", "()Z"⟩, 7) := ⟨⟨by decide +kernel, by decide +kernel⟩, List.mem_of_getElem? (i := 125) (by decide +kernel), List.mem_of_getElem? (i := 432) (by decide +kernel), List.mem_of_getElem? (i := 433) (by decide +kernel)⟩
def lw_privs_1 : List (MethodName × Nat) := [(⟨"ScoutGates", "recorded", "(I)I"⟩, 6), (⟨"ScoutGates", "addTroop", "(I)I"⟩, 6), (⟨"ScoutGates", "changeSize", "(II)I"⟩, 6), (⟨"ScoutGates", "isTroop", "(I)Z"⟩, 6), (⟨"ScoutGates", "letCome", "(III)I"⟩, 6), (⟨"ScoutGates", "isScout", "(II)Z"⟩, 6), (⟨"ScoutGates$Troop", "openGate", "(I)I"⟩, 12), (⟨"ScoutGates$Troop", "beginHike", "(I)V"⟩, 12), (⟨"ScoutGates", "loseScout", "(II)I"⟩, 6), (⟨"ScoutGates", "passMinutes", "(I)I"⟩, 6), (⟨"ScoutGates$Troop", "walkOn", "(I)V"⟩, 12), (⟨"ScoutGates$Pad", "sign", "()C"⟩, 7), (⟨"ScoutGates$Pad", "readNumber", "()Z"⟩, 7), (⟨"ScoutGates$Pad", "isDigit", "()Z"⟩, 7), (⟨"ScoutGates$Pad", "readTroop", "()Z"⟩, 7), (⟨"ScoutGates$Pad", "readColour", "()Z"⟩, 7)]
theorem lw_r1 : ∀ q ∈ lw_privs_1, lw_okq q := List.forall_mem_cons.mpr ⟨lw_p0, List.forall_mem_cons.mpr ⟨lw_p1, List.forall_mem_cons.mpr ⟨lw_p2, List.forall_mem_cons.mpr ⟨lw_p3, List.forall_mem_cons.mpr ⟨lw_p4, List.forall_mem_cons.mpr ⟨lw_p5, List.forall_mem_cons.mpr ⟨lw_p6, List.forall_mem_cons.mpr ⟨lw_p7, List.forall_mem_cons.mpr ⟨lw_p8, List.forall_mem_cons.mpr ⟨lw_p9, List.forall_mem_cons.mpr ⟨lw_p10, List.forall_mem_cons.mpr ⟨lw_p11, List.forall_mem_cons.mpr ⟨lw_p12, List.forall_mem_cons.mpr ⟨lw_p13, List.forall_mem_cons.mpr ⟨lw_p14, List.forall_mem_cons.mpr ⟨lw_p15, fun _ h => absurd h List.not_mem_nil⟩⟩⟩⟩⟩⟩⟩⟩⟩⟩⟩⟩⟩⟩⟩⟩
theorem lw_p16 : lw_okq (⟨"ScoutGates", "carryOrder", "()I"⟩, 6) := ⟨⟨by decide +kernel, by decide +kernel⟩, List.mem_of_getElem? (i := 10) (by decide +kernel), List.mem_of_getElem? (i := 441) (by decide +kernel), List.mem_of_getElem? (i := 442) (by decide +kernel)⟩
theorem lw_p17 : lw_okq (⟨"ScoutGatesModel", "remember", "()V"⟩, 11) := ⟨⟨by decide +kernel, by decide +kernel⟩, List.mem_of_getElem? (i := 463) (by decide +kernel), List.mem_of_getElem? (i := 518) (by decide +kernel), List.mem_of_getElem? (i := 519) (by decide +kernel)⟩
theorem lw_p18 : lw_okq (⟨"ScoutGatesModel", "record", "(I)I"⟩, 11) := ⟨⟨by decide +kernel, by decide +kernel⟩, List.mem_of_getElem? (i := 463) (by decide +kernel), List.mem_of_getElem? (i := 522) (by decide +kernel), List.mem_of_getElem? (i := 523) (by decide +kernel)⟩
theorem lw_p19 : lw_okq (⟨"ScoutGatesModel", "begins", "(I)I"⟩, 11) := ⟨⟨by decide +kernel, by decide +kernel⟩, List.mem_of_getElem? (i := 463) (by decide +kernel), List.mem_of_getElem? (i := 534) (by decide +kernel), List.mem_of_getElem? (i := 535) (by decide +kernel)⟩
theorem lw_p20 : lw_okq (⟨"ScoutGatesModel", "lay", "(III)V"⟩, 11) := ⟨⟨by decide +kernel, by decide +kernel⟩, List.mem_of_getElem? (i := 463) (by decide +kernel), List.mem_of_getElem? (i := 538) (by decide +kernel), List.mem_of_getElem? (i := 539) (by decide +kernel)⟩
theorem lw_p21 : lw_okq (⟨"ScoutGatesModel", "sizes", "(II)I"⟩, 11) := ⟨⟨by decide +kernel, by decide +kernel⟩, List.mem_of_getElem? (i := 463) (by decide +kernel), List.mem_of_getElem? (i := 546) (by decide +kernel), List.mem_of_getElem? (i := 547) (by decide +kernel)⟩
theorem lw_p22 : lw_okq (⟨"ScoutGatesModel", "isTroop", "(I)Z"⟩, 11) := ⟨⟨by decide +kernel, by decide +kernel⟩, List.mem_of_getElem? (i := 463) (by decide +kernel), List.mem_of_getElem? (i := 550) (by decide +kernel), List.mem_of_getElem? (i := 551) (by decide +kernel)⟩
theorem lw_p23 : lw_okq (⟨"ScoutGatesModel", "its", "(II)I"⟩, 11) := ⟨⟨by decide +kernel, by decide +kernel⟩, List.mem_of_getElem? (i := 463) (by decide +kernel), List.mem_of_getElem? (i := 554) (by decide +kernel), List.mem_of_getElem? (i := 555) (by decide +kernel)⟩
theorem lw_p24 : lw_okq (⟨"ScoutGatesModel", "comes", "(III)I"⟩, 11) := ⟨⟨by decide +kernel, by decide +kernel⟩, List.mem_of_getElem? (i := 463) (by decide +kernel), List.mem_of_getElem? (i := 562) (by decide +kernel), List.mem_of_getElem? (i := 563) (by decide +kernel)⟩
theorem lw_p25 : lw_okq (⟨"ScoutGatesModel", "isScout", "(II)Z"⟩, 11) := ⟨⟨by decide +kernel, by decide +kernel⟩, List.mem_of_getElem? (i := 463) (by decide +kernel), List.mem_of_getElem? (i := 570) (by decide +kernel), List.mem_of_getElem? (i := 571) (by decide +kernel)⟩
theorem lw_p26 : lw_okq (⟨"ScoutGatesModel", "scout", "(III)I"⟩, 11) := ⟨⟨by decide +kernel, by decide +kernel⟩, List.mem_of_getElem? (i := 463) (by decide +kernel), List.mem_of_getElem? (i := 574) (by decide +kernel), List.mem_of_getElem? (i := 575) (by decide +kernel)⟩
theorem lw_p27 : lw_okq (⟨"ScoutGatesModel", "layScout", "(IIII)V"⟩, 11) := ⟨⟨by decide +kernel, by decide +kernel⟩, List.mem_of_getElem? (i := 463) (by decide +kernel), List.mem_of_getElem? (i := 578) (by decide +kernel), List.mem_of_getElem? (i := 579) (by decide +kernel)⟩
theorem lw_p28 : lw_okq (⟨"ScoutGatesModel", "opens", "(I)I"⟩, 11) := ⟨⟨by decide +kernel, by decide +kernel⟩, List.mem_of_getElem? (i := 463) (by decide +kernel), List.mem_of_getElem? (i := 582) (by decide +kernel), List.mem_of_getElem? (i := 583) (by decide +kernel)⟩
theorem lw_p29 : lw_okq (⟨"ScoutGatesModel", "opensOnce", "(I)Z"⟩, 11) := ⟨⟨by decide +kernel, by decide +kernel⟩, List.mem_of_getElem? (i := 463) (by decide +kernel), List.mem_of_getElem? (i := 586) (by decide +kernel), List.mem_of_getElem? (i := 587) (by decide +kernel)⟩
theorem lw_p30 : lw_okq (⟨"ScoutGatesModel", "awaited", "(I)I"⟩, 11) := ⟨⟨by decide +kernel, by decide +kernel⟩, List.mem_of_getElem? (i := 463) (by decide +kernel), List.mem_of_getElem? (i := 590) (by decide +kernel), List.mem_of_getElem? (i := 591) (by decide +kernel)⟩
theorem lw_p31 : lw_okq (⟨"ScoutGatesModel", "isStruck", "(II)Z"⟩, 11) := ⟨⟨by decide +kernel, by decide +kernel⟩, List.mem_of_getElem? (i := 463) (by decide +kernel), List.mem_of_getElem? (i := 594) (by decide +kernel), List.mem_of_getElem? (i := 595) (by decide +kernel)⟩
def lw_privs_2 : List (MethodName × Nat) := [(⟨"ScoutGates", "carryOrder", "()I"⟩, 6), (⟨"ScoutGatesModel", "remember", "()V"⟩, 11), (⟨"ScoutGatesModel", "record", "(I)I"⟩, 11), (⟨"ScoutGatesModel", "begins", "(I)I"⟩, 11), (⟨"ScoutGatesModel", "lay", "(III)V"⟩, 11), (⟨"ScoutGatesModel", "sizes", "(II)I"⟩, 11), (⟨"ScoutGatesModel", "isTroop", "(I)Z"⟩, 11), (⟨"ScoutGatesModel", "its", "(II)I"⟩, 11), (⟨"ScoutGatesModel", "comes", "(III)I"⟩, 11), (⟨"ScoutGatesModel", "isScout", "(II)Z"⟩, 11), (⟨"ScoutGatesModel", "scout", "(III)I"⟩, 11), (⟨"ScoutGatesModel", "layScout", "(IIII)V"⟩, 11), (⟨"ScoutGatesModel", "opens", "(I)I"⟩, 11), (⟨"ScoutGatesModel", "opensOnce", "(I)Z"⟩, 11), (⟨"ScoutGatesModel", "awaited", "(I)I"⟩, 11), (⟨"ScoutGatesModel", "isStruck", "(II)Z"⟩, 11)]
theorem lw_r2 : ∀ q ∈ lw_privs_2, lw_okq q := List.forall_mem_cons.mpr ⟨lw_p16, List.forall_mem_cons.mpr ⟨lw_p17, List.forall_mem_cons.mpr ⟨lw_p18, List.forall_mem_cons.mpr ⟨lw_p19, List.forall_mem_cons.mpr ⟨lw_p20, List.forall_mem_cons.mpr ⟨lw_p21, List.forall_mem_cons.mpr ⟨lw_p22, List.forall_mem_cons.mpr ⟨lw_p23, List.forall_mem_cons.mpr ⟨lw_p24, List.forall_mem_cons.mpr ⟨lw_p25, List.forall_mem_cons.mpr ⟨lw_p26, List.forall_mem_cons.mpr ⟨lw_p27, List.forall_mem_cons.mpr ⟨lw_p28, List.forall_mem_cons.mpr ⟨lw_p29, List.forall_mem_cons.mpr ⟨lw_p30, List.forall_mem_cons.mpr ⟨lw_p31, fun _ h => absurd h List.not_mem_nil⟩⟩⟩⟩⟩⟩⟩⟩⟩⟩⟩⟩⟩⟩⟩⟩
theorem lw_p32 : lw_okq (⟨"ScoutGatesModel", "those", "(II)I"⟩, 11) := ⟨⟨by decide +kernel, by decide +kernel⟩, List.mem_of_getElem? (i := 463) (by decide +kernel), List.mem_of_getElem? (i := 598) (by decide +kernel), List.mem_of_getElem? (i := 599) (by decide +kernel)⟩
theorem lw_p33 : lw_okq (⟨"ScoutGatesModel", "clear", "(II)V"⟩, 11) := ⟨⟨by decide +kernel, by decide +kernel⟩, List.mem_of_getElem? (i := 463) (by decide +kernel), List.mem_of_getElem? (i := 602) (by decide +kernel), List.mem_of_getElem? (i := 603) (by decide +kernel)⟩
theorem lw_p34 : lw_okq (⟨"ScoutGatesModel", "loses", "(II)I"⟩, 11) := ⟨⟨by decide +kernel, by decide +kernel⟩, List.mem_of_getElem? (i := 463) (by decide +kernel), List.mem_of_getElem? (i := 610) (by decide +kernel), List.mem_of_getElem? (i := 611) (by decide +kernel)⟩
theorem lw_p35 : lw_okq (⟨"ScoutGatesModel", "waits", "(I)I"⟩, 11) := ⟨⟨by decide +kernel, by decide +kernel⟩, List.mem_of_getElem? (i := 463) (by decide +kernel), List.mem_of_getElem? (i := 625) (by decide +kernel), List.mem_of_getElem? (i := 626) (by decide +kernel)⟩
theorem lw_p36 : lw_okq (⟨"ScoutGatesModel", "minute", "(I)I"⟩, 11) := ⟨⟨by decide +kernel, by decide +kernel⟩, List.mem_of_getElem? (i := 463) (by decide +kernel), List.mem_of_getElem? (i := 629) (by decide +kernel), List.mem_of_getElem? (i := 630) (by decide +kernel)⟩
theorem lw_p37 : lw_okq (⟨"ScoutGatesModel", "sum", "(I)I"⟩, 11) := ⟨⟨by decide +kernel, by decide +kernel⟩, List.mem_of_getElem? (i := 463) (by decide +kernel), List.mem_of_getElem? (i := 645) (by decide +kernel), List.mem_of_getElem? (i := 646) (by decide +kernel)⟩
theorem lw_p38 : lw_okq (⟨"ScoutGatesModel", "layAside", "()V"⟩, 11) := ⟨⟨by decide +kernel, by decide +kernel⟩, List.mem_of_getElem? (i := 463) (by decide +kernel), List.mem_of_getElem? (i := 658) (by decide +kernel), List.mem_of_getElem? (i := 659) (by decide +kernel)⟩
theorem lw_p39 : lw_okq (⟨"ScoutGatesModel", "putBack", "()V"⟩, 11) := ⟨⟨by decide +kernel, by decide +kernel⟩, List.mem_of_getElem? (i := 463) (by decide +kernel), List.mem_of_getElem? (i := 662) (by decide +kernel), List.mem_of_getElem? (i := 663) (by decide +kernel)⟩
theorem lw_p40 : lw_okq (⟨"ScoutGatesModel", "isWell", "()Z"⟩, 11) := ⟨⟨by decide +kernel, by decide +kernel⟩, List.mem_of_getElem? (i := 463) (by decide +kernel), List.mem_of_getElem? (i := 683) (by decide +kernel), List.mem_of_getElem? (i := 684) (by decide +kernel)⟩
theorem lw_p41 : lw_okq (⟨"ScoutGatesModel", "order", "(Z)I"⟩, 11) := ⟨⟨by decide +kernel, by decide +kernel⟩, List.mem_of_getElem? (i := 463) (by decide +kernel), List.mem_of_getElem? (i := 687) (by decide +kernel), List.mem_of_getElem? (i := 688) (by decide +kernel)⟩
theorem lw_p42 : lw_okq (⟨"ScoutGatesModel", "sees", "(II)Z"⟩, 11) := ⟨⟨by decide +kernel, by decide +kernel⟩, List.mem_of_getElem? (i := 463) (by decide +kernel), List.mem_of_getElem? (i := 691) (by decide +kernel), List.mem_of_getElem? (i := 692) (by decide +kernel)⟩
theorem lw_p43 : lw_okq (⟨"ScoutGatesModel", "behind", "(I)I"⟩, 11) := ⟨⟨by decide +kernel, by decide +kernel⟩, List.mem_of_getElem? (i := 463) (by decide +kernel), List.mem_of_getElem? (i := 695) (by decide +kernel), List.mem_of_getElem? (i := 696) (by decide +kernel)⟩
theorem lw_p44 : lw_okq (⟨"ScoutGatesModel", "number", "()I"⟩, 11) := ⟨⟨by decide +kernel, by decide +kernel⟩, List.mem_of_getElem? (i := 463) (by decide +kernel), List.mem_of_getElem? (i := 699) (by decide +kernel), List.mem_of_getElem? (i := 700) (by decide +kernel)⟩
def lw_privs_3 : List (MethodName × Nat) := [(⟨"ScoutGatesModel", "those", "(II)I"⟩, 11), (⟨"ScoutGatesModel", "clear", "(II)V"⟩, 11), (⟨"ScoutGatesModel", "loses", "(II)I"⟩, 11), (⟨"ScoutGatesModel", "waits", "(I)I"⟩, 11), (⟨"ScoutGatesModel", "minute", "(I)I"⟩, 11), (⟨"ScoutGatesModel", "sum", "(I)I"⟩, 11), (⟨"ScoutGatesModel", "layAside", "()V"⟩, 11), (⟨"ScoutGatesModel", "putBack", "()V"⟩, 11), (⟨"ScoutGatesModel", "isWell", "()Z"⟩, 11), (⟨"ScoutGatesModel", "order", "(Z)I"⟩, 11), (⟨"ScoutGatesModel", "sees", "(II)Z"⟩, 11), (⟨"ScoutGatesModel", "behind", "(I)I"⟩, 11), (⟨"ScoutGatesModel", "number", "()I"⟩, 11)]
theorem lw_r3 : ∀ q ∈ lw_privs_3, lw_okq q := List.forall_mem_cons.mpr ⟨lw_p32, List.forall_mem_cons.mpr ⟨lw_p33, List.forall_mem_cons.mpr ⟨lw_p34, List.forall_mem_cons.mpr ⟨lw_p35, List.forall_mem_cons.mpr ⟨lw_p36, List.forall_mem_cons.mpr ⟨lw_p37, List.forall_mem_cons.mpr ⟨lw_p38, List.forall_mem_cons.mpr ⟨lw_p39, List.forall_mem_cons.mpr ⟨lw_p40, List.forall_mem_cons.mpr ⟨lw_p41, List.forall_mem_cons.mpr ⟨lw_p42, List.forall_mem_cons.mpr ⟨lw_p43, List.forall_mem_cons.mpr ⟨lw_p44, fun _ h => absurd h List.not_mem_nil⟩⟩⟩⟩⟩⟩⟩⟩⟩⟩⟩⟩⟩
def lw_privs : List (MethodName × Nat) := lw_privs_1 ++ (lw_privs_2 ++ (lw_privs_3))
def lw_tbl : List Cond := k2_sels lw_privs ++ tables_1
theorem lw_privs_ok : ∀ q ∈ lw_privs, lw_okq q := by
  show ∀ q ∈ lw_privs_1 ++ (lw_privs_2 ++ (lw_privs_3)), lw_okq q
  exact List.forall_mem_append.mpr ⟨lw_r1, List.forall_mem_append.mpr ⟨lw_r2, lw_r3⟩⟩
end
section
def RX0 : String := "ScoutGates$History"
def TX0 : u_T := fun k => match k with
  | 0 => ("ScoutGates$History", "places", "[LScoutGates$State;", true)
  | 1 => ("ScoutGates$History", "oldest", "I", false)
  | _ => ("ScoutGates$History", "kept", "I", false)
def tyX0 : Nat → FieldType := fun k => match k with
  | 0 => .array (.object "ScoutGates$State")
  | 1 => .int
  | _ => .int
theorem nmX0 : ∀ a, a < 3 → ∀ b, b < 3 → a ≠ b → (TX0 a).2.1 ≠ (TX0 b).2.1 := by decide +kernel
theorem tyX0_ok : ∀ k, k < 3 → parseFieldDescriptor (TX0 k).2.2.1 = some (tyX0 k) := by decide +kernel
abbrev cX0_init : ByteArray := prog_2_method_1_code
def yX0_init : MethodName := ⟨RX0, "<init>", "()V"⟩
abbrev cX0_note : ByteArray := prog_2_method_2_code
def yX0_note : MethodName := ⟨RX0, "note", "(LScoutGates$State;)V"⟩
abbrev cX0_keepNoted : ByteArray := prog_2_method_3_code
def yX0_keepNoted : MethodName := ⟨RX0, "keepNoted", "()V"⟩
abbrev cX0_takeBackInto : ByteArray := prog_2_method_4_code
def yX0_takeBackInto : MethodName := ⟨RX0, "takeBackInto", "(LScoutGates$State;)V"⟩
def RX1 : String := "ScoutGates$Pad"
def TX1 : u_T := fun k => match k with
  | 0 => ("ScoutGates$Pad", "signs", "[C", true)
  | 1 => ("ScoutGates$Pad", "length", "I", false)
  | 2 => ("ScoutGates$Pad", "at", "I", false)
  | 3 => ("ScoutGates$Pad", "kind", "C", false)
  | 4 => ("ScoutGates$Pad", "troop", "I", false)
  | 5 => ("ScoutGates$Pad", "number", "I", false)
  | _ => ("ScoutGates$Pad", "colour", "I", false)
def tyX1 : Nat → FieldType := fun k => match k with
  | 0 => .array .char
  | 1 => .int
  | 2 => .int
  | 3 => .char
  | 4 => .int
  | 5 => .int
  | _ => .int
theorem nmX1 : ∀ a, a < 7 → ∀ b, b < 7 → a ≠ b → (TX1 a).2.1 ≠ (TX1 b).2.1 := by decide +kernel
theorem tyX1_ok : ∀ k, k < 7 → parseFieldDescriptor (TX1 k).2.2.1 = some (tyX1 k) := by decide +kernel
abbrev cX1_init : ByteArray := prog_3_method_1_code
def yX1_init : MethodName := ⟨RX1, "<init>", "()V"⟩
abbrev cX1_charactersIn : ByteArray := prog_3_method_2_code
def yX1_charactersIn : MethodName := ⟨RX1, "charactersIn", "(J)I"⟩
abbrev cX1_addCharacters : ByteArray := prog_3_method_3_code
def yX1_addCharacters : MethodName := ⟨RX1, "addCharacters", "(JI)V"⟩
abbrev cX1_faultAt : ByteArray := prog_3_method_4_code
def yX1_faultAt : MethodName := ⟨RX1, "faultAt", "()I"⟩
abbrev cX1_readOrder : ByteArray := prog_3_method_5_code
def yX1_readOrder : MethodName := ⟨RX1, "readOrder", "()Z"⟩
abbrev cX1_readSign : ByteArray := prog_3_method_6_code
def yX1_readSign : MethodName := ⟨RX1, "readSign", "(C)Z"⟩
abbrev cX1_sign : ByteArray := prog_3_method_7_code
def yX1_sign : MethodName := ⟨RX1, "sign", "()C"⟩
abbrev cX1_isDigit : ByteArray := prog_3_method_8_code
def yX1_isDigit : MethodName := ⟨RX1, "isDigit", "()Z"⟩
abbrev cX1_readTroop : ByteArray := prog_3_method_9_code
def yX1_readTroop : MethodName := ⟨RX1, "readTroop", "()Z"⟩
abbrev cX1_readNumber : ByteArray := prog_3_method_10_code
def yX1_readNumber : MethodName := ⟨RX1, "readNumber", "()Z"⟩
abbrev cX1_readColour : ByteArray := prog_3_method_11_code
def yX1_readColour : MethodName := ⟨RX1, "readColour", "()Z"⟩
def RX2 : String := "ScoutGates$State"
def TX2 : u_T := fun k => match k with
  | 0 => ("ScoutGates$State", "settings", "[I", true)
  | 1 => ("ScoutGates$State", "troops", "[LScoutGates$Troop;", true)
  | 2 => ("ScoutGates$State", "troopCount", "I", false)
  | 3 => ("ScoutGates$State", "minutes", "I", false)
  | _ => ("ScoutGates$State", "earlyComings", "I", false)
def tyX2 : Nat → FieldType := fun k => match k with
  | 0 => .array .int
  | 1 => .array (.object "ScoutGates$Troop")
  | 2 => .int
  | 3 => .int
  | _ => .int
theorem nmX2 : ∀ a, a < 5 → ∀ b, b < 5 → a ≠ b → (TX2 a).2.1 ≠ (TX2 b).2.1 := by decide +kernel
theorem tyX2_ok : ∀ k, k < 5 → parseFieldDescriptor (TX2 k).2.2.1 = some (tyX2 k) := by decide +kernel
abbrev cX2_init : ByteArray := prog_4_method_1_code
def yX2_init : MethodName := ⟨RX2, "<init>", "()V"⟩
abbrev cX2_copyFrom : ByteArray := prog_4_method_2_code
def yX2_copyFrom : MethodName := ⟨RX2, "copyFrom", "(LScoutGates$State;)V"⟩
abbrev cX2_hikes : ByteArray := prog_4_method_3_code
def yX2_hikes : MethodName := ⟨RX2, "hikes", "()I"⟩
abbrev cX2_scoutsOnHikes : ByteArray := prog_4_method_4_code
def yX2_scoutsOnHikes : MethodName := ⟨RX2, "scoutsOnHikes", "()I"⟩
abbrev cX2_scoutsLost : ByteArray := prog_4_method_5_code
def yX2_scoutsLost : MethodName := ⟨RX2, "scoutsLost", "()I"⟩
def RX3 : String := "ScoutGates$Troop"
def TX3 : u_T := fun k => match k with
  | 0 => ("ScoutGates$Troop", "size", "I", false)
  | 1 => ("ScoutGates$Troop", "nextSize", "I", false)
  | 2 => ("ScoutGates$Troop", "colour", "I", false)
  | 3 => ("ScoutGates$Troop", "inside", "I", false)
  | 4 => ("ScoutGates$Troop", "outside", "I", false)
  | 5 => ("ScoutGates$Troop", "onHike", "I", false)
  | 6 => ("ScoutGates$Troop", "lost", "I", false)
  | 7 => ("ScoutGates$Troop", "struck", "I", false)
  | 8 => ("ScoutGates$Troop", "hikes", "I", false)
  | 9 => ("ScoutGates$Troop", "hikers", "I", false)
  | 10 => ("ScoutGates$Troop", "minutes", "[I", true)
  | _ => ("ScoutGates$Troop", "hikesOf", "[I", true)
def tyX3 : Nat → FieldType := fun k => match k with
  | 0 => .int
  | 1 => .int
  | 2 => .int
  | 3 => .int
  | 4 => .int
  | 5 => .int
  | 6 => .int
  | 7 => .int
  | 8 => .int
  | 9 => .int
  | 10 => .array .int
  | _ => .array .int
theorem nmX3 : ∀ a, a < 12 → ∀ b, b < 12 → a ≠ b → (TX3 a).2.1 ≠ (TX3 b).2.1 := by decide +kernel
theorem tyX3_ok : ∀ k, k < 12 → parseFieldDescriptor (TX3 k).2.2.1 = some (tyX3 k) := by decide +kernel
abbrev cX3_init : ByteArray := prog_5_method_1_code
def yX3_init : MethodName := ⟨RX3, "<init>", "()V"⟩
abbrev cX3_begin : ByteArray := prog_5_method_2_code
def yX3_begin : MethodName := ⟨RX3, "begin", "(I)V"⟩
abbrev cX3_copyFrom : ByteArray := prog_5_method_3_code
def yX3_copyFrom : MethodName := ⟨RX3, "copyFrom", "(LScoutGates$Troop;)V"⟩
abbrev cX3_hasScout : ByteArray := prog_5_method_4_code
def yX3_hasScout : MethodName := ⟨RX3, "hasScout", "(I)Z"⟩
abbrev cX3_knows : ByteArray := prog_5_method_5_code
def yX3_knows : MethodName := ⟨RX3, "knows", "(I)Z"⟩
abbrev cX3_canCome : ByteArray := prog_5_method_6_code
def yX3_canCome : MethodName := ⟨RX3, "canCome", "(I)Z"⟩
abbrev cX3_howIs : ByteArray := prog_5_method_7_code
def yX3_howIs : MethodName := ⟨RX3, "howIs", "(I)I"⟩
abbrev cX3_everyone : ByteArray := prog_5_method_8_code
def yX3_everyone : MethodName := ⟨RX3, "everyone", "()I"⟩
abbrev cX3_atHome : ByteArray := prog_5_method_9_code
def yX3_atHome : MethodName := ⟨RX3, "atHome", "()I"⟩
abbrev cX3_waitedFor : ByteArray := prog_5_method_10_code
def yX3_waitedFor : MethodName := ⟨RX3, "waitedFor", "()I"⟩
abbrev cX3_countDown : ByteArray := prog_5_method_11_code
def yX3_countDown : MethodName := ⟨RX3, "countDown", "()I"⟩
abbrev cX3_takeIn : ByteArray := prog_5_method_12_code
def yX3_takeIn : MethodName := ⟨RX3, "takeIn", "(III)I"⟩
abbrev cX3_bringHome : ByteArray := prog_5_method_13_code
def yX3_bringHome : MethodName := ⟨RX3, "bringHome", "(I)V"⟩
abbrev cX3_missScout : ByteArray := prog_5_method_14_code
def yX3_missScout : MethodName := ⟨RX3, "missScout", "(I)V"⟩
abbrev cX3_passMinute : ByteArray := prog_5_method_15_code
def yX3_passMinute : MethodName := ⟨RX3, "passMinute", "(II)I"⟩
abbrev cX3_walkOn : ByteArray := prog_5_method_16_code
def yX3_walkOn : MethodName := ⟨RX3, "walkOn", "(I)V"⟩
abbrev cX3_openGate : ByteArray := prog_5_method_17_code
def yX3_openGate : MethodName := ⟨RX3, "openGate", "(I)I"⟩
abbrev cX3_beginHike : ByteArray := prog_5_method_18_code
def yX3_beginHike : MethodName := ⟨RX3, "beginHike", "(I)V"⟩
abbrev cX3_isIn : ByteArray := prog_5_method_19_code
def yX3_isIn : MethodName := ⟨RX3, "isIn", "(II)Z"⟩
def RX4 : String := "ScoutGates"
def TX4 : u_T := fun k => match k with
  | 0 => ("ScoutGates", "now", "LScoutGates$State;", true)
  | 1 => ("ScoutGates", "history", "LScoutGates$History;", true)
  | 2 => ("ScoutGates", "slots", "[LScoutGates$State;", true)
  | 3 => ("ScoutGates", "isSaved", "[Z", true)
  | 4 => ("ScoutGates", "pad", "LScoutGates$Pad;", true)
  | _ => ("ScoutGates", "trial", "LScoutGates$Troop;", true)
def tyX4 : Nat → FieldType := fun k => match k with
  | 0 => .object "ScoutGates$State"
  | 1 => .object "ScoutGates$History"
  | 2 => .array (.object "ScoutGates$State")
  | 3 => .array .boolean
  | 4 => .object "ScoutGates$Pad"
  | _ => .object "ScoutGates$Troop"
theorem nmX4 : ∀ a, a < 6 → ∀ b, b < 6 → a ≠ b → (TX4 a).2.1 ≠ (TX4 b).2.1 := by decide +kernel
theorem tyX4_ok : ∀ k, k < 6 → parseFieldDescriptor (TX4 k).2.2.1 = some (tyX4 k) := by decide +kernel
abbrev cX4_init : ByteArray := prog_1_method_1_code
def yX4_init : MethodName := ⟨RX4, "<init>", "()V"⟩
abbrev cX4_set : ByteArray := prog_1_method_2_code
def yX4_set : MethodName := ⟨RX4, "set", "(II)I"⟩
abbrev cX4_troop : ByteArray := prog_1_method_3_code
def yX4_troop : MethodName := ⟨RX4, "troop", "(I)I"⟩
abbrev cX4_resize : ByteArray := prog_1_method_4_code
def yX4_resize : MethodName := ⟨RX4, "resize", "(II)I"⟩
abbrev cX4_come : ByteArray := prog_1_method_5_code
def yX4_come : MethodName := ⟨RX4, "come", "(III)I"⟩
abbrev cX4_lose : ByteArray := prog_1_method_6_code
def yX4_lose : MethodName := ⟨RX4, "lose", "(II)I"⟩
abbrev cX4_find : ByteArray := prog_1_method_7_code
def yX4_find : MethodName := ⟨RX4, "find", "(II)I"⟩
abbrev cX4_pass : ByteArray := prog_1_method_8_code
def yX4_pass : MethodName := ⟨RX4, "pass", "(I)I"⟩
abbrev cX4_recorded : ByteArray := prog_1_method_9_code
def yX4_recorded : MethodName := ⟨RX4, "recorded", "(I)I"⟩
abbrev cX4_addTroop : ByteArray := prog_1_method_10_code
def yX4_addTroop : MethodName := ⟨RX4, "addTroop", "(I)I"⟩
abbrev cX4_changeSize : ByteArray := prog_1_method_11_code
def yX4_changeSize : MethodName := ⟨RX4, "changeSize", "(II)I"⟩
abbrev cX4_letCome : ByteArray := prog_1_method_12_code
def yX4_letCome : MethodName := ⟨RX4, "letCome", "(III)I"⟩
abbrev cX4_loseScout : ByteArray := prog_1_method_13_code
def yX4_loseScout : MethodName := ⟨RX4, "loseScout", "(II)I"⟩
abbrev cX4_passMinutes : ByteArray := prog_1_method_14_code
def yX4_passMinutes : MethodName := ⟨RX4, "passMinutes", "(I)I"⟩
abbrev cX4_ofTroop : ByteArray := prog_1_method_15_code
def yX4_ofTroop : MethodName := ⟨RX4, "ofTroop", "(II)I"⟩
abbrev cX4_of : ByteArray := prog_1_method_16_code
def yX4_of : MethodName := ⟨RX4, "of", "(III)I"⟩
abbrev cX4_count : ByteArray := prog_1_method_17_code
def yX4_count : MethodName := ⟨RX4, "count", "(I)I"⟩
abbrev cX4_why : ByteArray := prog_1_method_18_code
def yX4_why : MethodName := ⟨RX4, "why", "(III)I"⟩
abbrev cX4_waitsFor : ByteArray := prog_1_method_19_code
def yX4_waitsFor : MethodName := ⟨RX4, "waitsFor", "(I)I"⟩
abbrev cX4_opensIn : ByteArray := prog_1_method_20_code
def yX4_opensIn : MethodName := ⟨RX4, "opensIn", "(I)I"⟩
abbrev cX4_couldHike : ByteArray := prog_1_method_21_code
def yX4_couldHike : MethodName := ⟨RX4, "couldHike", "(I)I"⟩
abbrev cX4_put : ByteArray := prog_1_method_22_code
def yX4_put : MethodName := ⟨RX4, "put", "(J)I"⟩
abbrev cX4_wipe : ByteArray := prog_1_method_23_code
def yX4_wipe : MethodName := ⟨RX4, "wipe", "()I"⟩
abbrev cX4_fault : ByteArray := prog_1_method_24_code
def yX4_fault : MethodName := ⟨RX4, "fault", "()I"⟩
abbrev cX4_carryOut : ByteArray := prog_1_method_25_code
def yX4_carryOut : MethodName := ⟨RX4, "carryOut", "()I"⟩
abbrev cX4_carryOrder : ByteArray := prog_1_method_26_code
def yX4_carryOrder : MethodName := ⟨RX4, "carryOrder", "()I"⟩
abbrev cX4_undo : ByteArray := prog_1_method_27_code
def yX4_undo : MethodName := ⟨RX4, "undo", "()I"⟩
abbrev cX4_save : ByteArray := prog_1_method_28_code
def yX4_save : MethodName := ⟨RX4, "save", "(I)I"⟩
abbrev cX4_restore : ByteArray := prog_1_method_29_code
def yX4_restore : MethodName := ⟨RX4, "restore", "(I)I"⟩
abbrev cX4_isTroop : ByteArray := prog_1_method_30_code
def yX4_isTroop : MethodName := ⟨RX4, "isTroop", "(I)Z"⟩
abbrev cX4_isScout : ByteArray := prog_1_method_31_code
def yX4_isScout : MethodName := ⟨RX4, "isScout", "(II)Z"⟩
abbrev cX4_isSize : ByteArray := prog_1_method_32_code
def yX4_isSize : MethodName := ⟨RX4, "isSize", "(I)Z"⟩
def RX5 : String := "ScoutGatesModel"
def TX5 : u_T := fun k => match k with
  | 0 => ("ScoutGatesModel", "row", "[I", true)
  | 1 => ("ScoutGatesModel", "past", "[I", true)
  | 2 => ("ScoutGatesModel", "before", "[I", true)
  | 3 => ("ScoutGatesModel", "aside", "[I", true)
  | 4 => ("ScoutGatesModel", "slots", "[I", true)
  | 5 => ("ScoutGatesModel", "isSaved", "[Z", true)
  | 6 => ("ScoutGatesModel", "states", "I", false)
  | 7 => ("ScoutGatesModel", "pad", "[I", true)
  | 8 => ("ScoutGatesModel", "length", "I", false)
  | 9 => ("ScoutGatesModel", "at", "I", false)
  | _ => ("ScoutGatesModel", "codes", "[I", true)
def tyX5 : Nat → FieldType := fun k => match k with
  | 0 => .array .int
  | 1 => .array .int
  | 2 => .array .int
  | 3 => .array .int
  | 4 => .array .int
  | 5 => .array .boolean
  | 6 => .int
  | 7 => .array .int
  | 8 => .int
  | 9 => .int
  | _ => .array .int
theorem nmX5 : ∀ a, a < 11 → ∀ b, b < 11 → a ≠ b → (TX5 a).2.1 ≠ (TX5 b).2.1 := by decide +kernel
theorem tyX5_ok : ∀ k, k < 11 → parseFieldDescriptor (TX5 k).2.2.1 = some (tyX5 k) := by decide +kernel
abbrev cX5_init : ByteArray := prog_7_method_1_code
def yX5_init : MethodName := ⟨RX5, "<init>", "()V"⟩
abbrev cX5_in : ByteArray := prog_7_method_2_code
def yX5_in : MethodName := ⟨RX5, "in", "(JII)Z"⟩
abbrev cX5_isTroop : ByteArray := prog_7_method_3_code
def yX5_isTroop : MethodName := ⟨RX5, "isTroop", "(I)Z"⟩
abbrev cX5_its : ByteArray := prog_7_method_4_code
def yX5_its : MethodName := ⟨RX5, "its", "(II)I"⟩
abbrev cX5_lay : ByteArray := prog_7_method_5_code
def yX5_lay : MethodName := ⟨RX5, "lay", "(III)V"⟩
abbrev cX5_scout : ByteArray := prog_7_method_6_code
def yX5_scout : MethodName := ⟨RX5, "scout", "(III)I"⟩
abbrev cX5_layScout : ByteArray := prog_7_method_7_code
def yX5_layScout : MethodName := ⟨RX5, "layScout", "(IIII)V"⟩
abbrev cX5_isScout : ByteArray := prog_7_method_8_code
def yX5_isScout : MethodName := ⟨RX5, "isScout", "(II)Z"⟩
abbrev cX5_isStruck : ByteArray := prog_7_method_9_code
def yX5_isStruck : MethodName := ⟨RX5, "isStruck", "(II)Z"⟩
abbrev cX5_those : ByteArray := prog_7_method_10_code
def yX5_those : MethodName := ⟨RX5, "those", "(II)I"⟩
abbrev cX5_size : ByteArray := prog_7_method_11_code
def yX5_size : MethodName := ⟨RX5, "size", "(I)I"⟩
abbrev cX5_awaited : ByteArray := prog_7_method_12_code
def yX5_awaited : MethodName := ⟨RX5, "awaited", "(I)I"⟩
abbrev cX5_remember : ByteArray := prog_7_method_13_code
def yX5_remember : MethodName := ⟨RX5, "remember", "()V"⟩
abbrev cX5_record : ByteArray := prog_7_method_14_code
def yX5_record : MethodName := ⟨RX5, "record", "(I)I"⟩
abbrev cX5_undo : ByteArray := prog_7_method_15_code
def yX5_undo : MethodName := ⟨RX5, "undo", "()I"⟩
abbrev cX5_save : ByteArray := prog_7_method_16_code
def yX5_save : MethodName := ⟨RX5, "save", "(I)I"⟩
abbrev cX5_restore : ByteArray := prog_7_method_17_code
def yX5_restore : MethodName := ⟨RX5, "restore", "(I)I"⟩
abbrev cX5_layAside : ByteArray := prog_7_method_18_code
def yX5_layAside : MethodName := ⟨RX5, "layAside", "()V"⟩
abbrev cX5_putBack : ByteArray := prog_7_method_19_code
def yX5_putBack : MethodName := ⟨RX5, "putBack", "()V"⟩
abbrev cX5_clear : ByteArray := prog_7_method_20_code
def yX5_clear : MethodName := ⟨RX5, "clear", "(II)V"⟩
abbrev cX5_opensOnce : ByteArray := prog_7_method_21_code
def yX5_opensOnce : MethodName := ⟨RX5, "opensOnce", "(I)Z"⟩
abbrev cX5_opens : ByteArray := prog_7_method_22_code
def yX5_opens : MethodName := ⟨RX5, "opens", "(I)I"⟩
abbrev cX5_minute : ByteArray := prog_7_method_23_code
def yX5_minute : MethodName := ⟨RX5, "minute", "(I)I"⟩
abbrev cX5_begins : ByteArray := prog_7_method_24_code
def yX5_begins : MethodName := ⟨RX5, "begins", "(I)I"⟩
abbrev cX5_sizes : ByteArray := prog_7_method_25_code
def yX5_sizes : MethodName := ⟨RX5, "sizes", "(II)I"⟩
abbrev cX5_comes : ByteArray := prog_7_method_26_code
def yX5_comes : MethodName := ⟨RX5, "comes", "(III)I"⟩
abbrev cX5_loses : ByteArray := prog_7_method_27_code
def yX5_loses : MethodName := ⟨RX5, "loses", "(II)I"⟩
abbrev cX5_waits : ByteArray := prog_7_method_28_code
def yX5_waits : MethodName := ⟨RX5, "waits", "(I)I"⟩
abbrev cX5_set : ByteArray := prog_7_method_29_code
def yX5_set : MethodName := ⟨RX5, "set", "(II)I"⟩
abbrev cX5_troop : ByteArray := prog_7_method_30_code
def yX5_troop : MethodName := ⟨RX5, "troop", "(I)I"⟩
abbrev cX5_resize : ByteArray := prog_7_method_31_code
def yX5_resize : MethodName := ⟨RX5, "resize", "(II)I"⟩
abbrev cX5_come : ByteArray := prog_7_method_32_code
def yX5_come : MethodName := ⟨RX5, "come", "(III)I"⟩
abbrev cX5_lose : ByteArray := prog_7_method_33_code
def yX5_lose : MethodName := ⟨RX5, "lose", "(II)I"⟩
abbrev cX5_find : ByteArray := prog_7_method_34_code
def yX5_find : MethodName := ⟨RX5, "find", "(II)I"⟩
abbrev cX5_pass : ByteArray := prog_7_method_35_code
def yX5_pass : MethodName := ⟨RX5, "pass", "(I)I"⟩
abbrev cX5_ofTroop : ByteArray := prog_7_method_36_code
def yX5_ofTroop : MethodName := ⟨RX5, "ofTroop", "(II)I"⟩
abbrev cX5_of : ByteArray := prog_7_method_37_code
def yX5_of : MethodName := ⟨RX5, "of", "(III)I"⟩
abbrev cX5_sum : ByteArray := prog_7_method_38_code
def yX5_sum : MethodName := ⟨RX5, "sum", "(I)I"⟩
abbrev cX5_count : ByteArray := prog_7_method_39_code
def yX5_count : MethodName := ⟨RX5, "count", "(I)I"⟩
abbrev cX5_why : ByteArray := prog_7_method_40_code
def yX5_why : MethodName := ⟨RX5, "why", "(III)I"⟩
abbrev cX5_waitsFor : ByteArray := prog_7_method_41_code
def yX5_waitsFor : MethodName := ⟨RX5, "waitsFor", "(I)I"⟩
abbrev cX5_opensIn : ByteArray := prog_7_method_42_code
def yX5_opensIn : MethodName := ⟨RX5, "opensIn", "(I)I"⟩
abbrev cX5_couldHike : ByteArray := prog_7_method_43_code
def yX5_couldHike : MethodName := ⟨RX5, "couldHike", "(I)I"⟩
abbrev cX5_put : ByteArray := prog_7_method_44_code
def yX5_put : MethodName := ⟨RX5, "put", "(J)I"⟩
abbrev cX5_wipe : ByteArray := prog_7_method_45_code
def yX5_wipe : MethodName := ⟨RX5, "wipe", "()I"⟩
abbrev cX5_sees : ByteArray := prog_7_method_46_code
def yX5_sees : MethodName := ⟨RX5, "sees", "(II)Z"⟩
abbrev cX5_number : ByteArray := prog_7_method_47_code
def yX5_number : MethodName := ⟨RX5, "number", "()I"⟩
abbrev cX5_behind : ByteArray := prog_7_method_48_code
def yX5_behind : MethodName := ⟨RX5, "behind", "(I)I"⟩
abbrev cX5_order : ByteArray := prog_7_method_49_code
def yX5_order : MethodName := ⟨RX5, "order", "(Z)I"⟩
abbrev cX5_isWell : ByteArray := prog_7_method_50_code
def yX5_isWell : MethodName := ⟨RX5, "isWell", "()Z"⟩
abbrev cX5_fault : ByteArray := prog_7_method_51_code
def yX5_fault : MethodName := ⟨RX5, "fault", "()I"⟩
abbrev cX5_carryOut : ByteArray := prog_7_method_52_code
def yX5_carryOut : MethodName := ⟨RX5, "carryOut", "()I"⟩
def RJ6 : String := "java/lang/Integer"
def TJ6 : u_T := fun k => match k with
  | _ => ("", "", "", false)
def tyJ6 : Nat → FieldType := fun k => match k with
  | _ => .int
theorem nmJ6 : ∀ a, a < 0 → ∀ b, b < 0 → a ≠ b → (TJ6 a).2.1 ≠ (TJ6 b).2.1 := by decide +kernel
theorem tyJ6_ok : ∀ k, k < 0 → parseFieldDescriptor (TJ6 k).2.2.1 = some (tyJ6 k) := by decide +kernel
abbrev cJ6_bitCount_0f7a4 : ByteArray := prog_8_method_49_code
def yJ6_bitCount_0f7a4 : MethodName := ⟨RJ6, "bitCount", "(I)I"⟩
def RJ10 : String := "java/lang/System"
def TJ10 : u_T := fun k => match k with
  | _ => ("", "", "", false)
def tyJ10 : Nat → FieldType := fun k => match k with
  | _ => .int
theorem nmJ10 : ∀ a, a < 0 → ∀ b, b < 0 → a ≠ b → (TJ10 a).2.1 ≠ (TJ10 b).2.1 := by decide +kernel
theorem tyJ10_ok : ∀ k, k < 0 → parseFieldDescriptor (TJ10 k).2.2.1 = some (tyJ10 k) := by decide +kernel
def RL : String := "ScoutGatesLaw"
abbrev cL_law : ByteArray := code
def yL_law : MethodName := ⟨RL, "law", "([I)Z"⟩
/-- a method: its name, bytes, locals, what it returns -/
abbrev mM : Type := MethodName × ByteArray × Nat × Option FieldType
abbrev M_X0_init : mM := (yX0_init, cX0_init, 2, none)
abbrev M_X0_note : mM := (yX0_note, cX0_note, 2, none)
abbrev M_X0_keepNoted : mM := (yX0_keepNoted, cX0_keepNoted, 1, none)
abbrev M_X0_takeBackInto : mM := (yX0_takeBackInto, cX0_takeBackInto, 2, none)
abbrev M_X1_init : mM := (yX1_init, cX1_init, 1, none)
abbrev M_X1_charactersIn : mM := (yX1_charactersIn, cX1_charactersIn, 6, some .int)
abbrev M_X1_addCharacters : mM := (yX1_addCharacters, cX1_addCharacters, 7, none)
abbrev M_X1_faultAt : mM := (yX1_faultAt, cX1_faultAt, 2, some .int)
abbrev M_X1_readOrder : mM := (yX1_readOrder, cX1_readOrder, 1, some .boolean)
abbrev M_X1_readSign : mM := (yX1_readSign, cX1_readSign, 2, some .boolean)
abbrev M_X1_sign : mM := (yX1_sign, cX1_sign, 1, some .char)
abbrev M_X1_isDigit : mM := (yX1_isDigit, cX1_isDigit, 1, some .boolean)
abbrev M_X1_readTroop : mM := (yX1_readTroop, cX1_readTroop, 1, some .boolean)
abbrev M_X1_readNumber : mM := (yX1_readNumber, cX1_readNumber, 1, some .boolean)
abbrev M_X1_readColour : mM := (yX1_readColour, cX1_readColour, 1, some .boolean)
abbrev M_X2_init : mM := (yX2_init, cX2_init, 2, none)
abbrev M_X2_copyFrom : mM := (yX2_copyFrom, cX2_copyFrom, 3, none)
abbrev M_X2_hikes : mM := (yX2_hikes, cX2_hikes, 3, some .int)
abbrev M_X2_scoutsOnHikes : mM := (yX2_scoutsOnHikes, cX2_scoutsOnHikes, 3, some .int)
abbrev M_X2_scoutsLost : mM := (yX2_scoutsLost, cX2_scoutsLost, 3, some .int)
abbrev M_X3_init : mM := (yX3_init, cX3_init, 1, none)
abbrev M_X3_begin : mM := (yX3_begin, cX3_begin, 3, none)
abbrev M_X3_copyFrom : mM := (yX3_copyFrom, cX3_copyFrom, 2, none)
abbrev M_X3_hasScout : mM := (yX3_hasScout, cX3_hasScout, 2, some .boolean)
abbrev M_X3_knows : mM := (yX3_knows, cX3_knows, 2, some .boolean)
abbrev M_X3_canCome : mM := (yX3_canCome, cX3_canCome, 2, some .boolean)
abbrev M_X3_howIs : mM := (yX3_howIs, cX3_howIs, 2, some .int)
abbrev M_X3_everyone : mM := (yX3_everyone, cX3_everyone, 1, some .int)
abbrev M_X3_atHome : mM := (yX3_atHome, cX3_atHome, 1, some .int)
abbrev M_X3_waitedFor : mM := (yX3_waitedFor, cX3_waitedFor, 1, some .int)
abbrev M_X3_countDown : mM := (yX3_countDown, cX3_countDown, 1, some .int)
abbrev M_X3_takeIn : mM := (yX3_takeIn, cX3_takeIn, 4, some .int)
abbrev M_X3_bringHome : mM := (yX3_bringHome, cX3_bringHome, 2, none)
abbrev M_X3_missScout : mM := (yX3_missScout, cX3_missScout, 2, none)
abbrev M_X3_passMinute : mM := (yX3_passMinute, cX3_passMinute, 4, some .int)
abbrev M_X3_walkOn : mM := (yX3_walkOn, cX3_walkOn, 2, none)
abbrev M_X3_openGate : mM := (yX3_openGate, cX3_openGate, 3, some .int)
abbrev M_X3_beginHike : mM := (yX3_beginHike, cX3_beginHike, 3, none)
abbrev M_X3_isIn : mM := (yX3_isIn, cX3_isIn, 2, some .boolean)
abbrev M_X4_init : mM := (yX4_init, cX4_init, 2, none)
abbrev M_X4_set : mM := (yX4_set, cX4_set, 5, some .int)
abbrev M_X4_troop : mM := (yX4_troop, cX4_troop, 2, some .int)
abbrev M_X4_resize : mM := (yX4_resize, cX4_resize, 3, some .int)
abbrev M_X4_come : mM := (yX4_come, cX4_come, 4, some .int)
abbrev M_X4_lose : mM := (yX4_lose, cX4_lose, 3, some .int)
abbrev M_X4_find : mM := (yX4_find, cX4_find, 5, some .int)
abbrev M_X4_pass : mM := (yX4_pass, cX4_pass, 2, some .int)
abbrev M_X4_recorded : mM := (yX4_recorded, cX4_recorded, 2, some .int)
abbrev M_X4_addTroop : mM := (yX4_addTroop, cX4_addTroop, 3, some .int)
abbrev M_X4_changeSize : mM := (yX4_changeSize, cX4_changeSize, 5, some .int)
abbrev M_X4_letCome : mM := (yX4_letCome, cX4_letCome, 5, some .int)
abbrev M_X4_loseScout : mM := (yX4_loseScout, cX4_loseScout, 5, some .int)
abbrev M_X4_passMinutes : mM := (yX4_passMinutes, cX4_passMinutes, 5, some .int)
abbrev M_X4_ofTroop : mM := (yX4_ofTroop, cX4_ofTroop, 4, some .int)
abbrev M_X4_of : mM := (yX4_of, cX4_of, 5, some .int)
abbrev M_X4_count : mM := (yX4_count, cX4_count, 2, some .int)
abbrev M_X4_why : mM := (yX4_why, cX4_why, 5, some .int)
abbrev M_X4_waitsFor : mM := (yX4_waitsFor, cX4_waitsFor, 2, some .int)
abbrev M_X4_opensIn : mM := (yX4_opensIn, cX4_opensIn, 3, some .int)
abbrev M_X4_couldHike : mM := (yX4_couldHike, cX4_couldHike, 5, some .int)
abbrev M_X4_put : mM := (yX4_put, cX4_put, 4, some .int)
abbrev M_X4_wipe : mM := (yX4_wipe, cX4_wipe, 2, some .int)
abbrev M_X4_fault : mM := (yX4_fault, cX4_fault, 1, some .int)
abbrev M_X4_carryOut : mM := (yX4_carryOut, cX4_carryOut, 2, some .int)
abbrev M_X4_carryOrder : mM := (yX4_carryOrder, cX4_carryOrder, 1, some .int)
abbrev M_X4_undo : mM := (yX4_undo, cX4_undo, 1, some .int)
abbrev M_X4_save : mM := (yX4_save, cX4_save, 2, some .int)
abbrev M_X4_restore : mM := (yX4_restore, cX4_restore, 2, some .int)
abbrev M_X4_isTroop : mM := (yX4_isTroop, cX4_isTroop, 2, some .boolean)
abbrev M_X4_isScout : mM := (yX4_isScout, cX4_isScout, 3, some .boolean)
abbrev M_X4_isSize : mM := (yX4_isSize, cX4_isSize, 1, some .boolean)
abbrev M_X5_init : mM := (yX5_init, cX5_init, 1, none)
abbrev M_X5_in : mM := (yX5_in, cX5_in, 4, some .boolean)
abbrev M_X5_isTroop : mM := (yX5_isTroop, cX5_isTroop, 2, some .boolean)
abbrev M_X5_its : mM := (yX5_its, cX5_its, 3, some .int)
abbrev M_X5_lay : mM := (yX5_lay, cX5_lay, 4, none)
abbrev M_X5_scout : mM := (yX5_scout, cX5_scout, 4, some .int)
abbrev M_X5_layScout : mM := (yX5_layScout, cX5_layScout, 5, none)
abbrev M_X5_isScout : mM := (yX5_isScout, cX5_isScout, 3, some .boolean)
abbrev M_X5_isStruck : mM := (yX5_isStruck, cX5_isStruck, 3, some .boolean)
abbrev M_X5_those : mM := (yX5_those, cX5_those, 6, some .int)
abbrev M_X5_size : mM := (yX5_size, cX5_size, 3, some .int)
abbrev M_X5_awaited : mM := (yX5_awaited, cX5_awaited, 4, some .int)
abbrev M_X5_remember : mM := (yX5_remember, cX5_remember, 2, none)
abbrev M_X5_record : mM := (yX5_record, cX5_record, 3, some .int)
abbrev M_X5_undo : mM := (yX5_undo, cX5_undo, 2, some .int)
abbrev M_X5_save : mM := (yX5_save, cX5_save, 3, some .int)
abbrev M_X5_restore : mM := (yX5_restore, cX5_restore, 3, some .int)
abbrev M_X5_layAside : mM := (yX5_layAside, cX5_layAside, 2, none)
abbrev M_X5_putBack : mM := (yX5_putBack, cX5_putBack, 2, none)
abbrev M_X5_clear : mM := (yX5_clear, cX5_clear, 3, none)
abbrev M_X5_opensOnce : mM := (yX5_opensOnce, cX5_opensOnce, 3, some .boolean)
abbrev M_X5_opens : mM := (yX5_opens, cX5_opens, 3, some .int)
abbrev M_X5_minute : mM := (yX5_minute, cX5_minute, 3, some .int)
abbrev M_X5_begins : mM := (yX5_begins, cX5_begins, 4, some .int)
abbrev M_X5_sizes : mM := (yX5_sizes, cX5_sizes, 4, some .int)
abbrev M_X5_comes : mM := (yX5_comes, cX5_comes, 5, some .int)
abbrev M_X5_loses : mM := (yX5_loses, cX5_loses, 3, some .int)
abbrev M_X5_waits : mM := (yX5_waits, cX5_waits, 5, some .int)
abbrev M_X5_set : mM := (yX5_set, cX5_set, 4, some .int)
abbrev M_X5_troop : mM := (yX5_troop, cX5_troop, 2, some .int)
abbrev M_X5_resize : mM := (yX5_resize, cX5_resize, 3, some .int)
abbrev M_X5_come : mM := (yX5_come, cX5_come, 4, some .int)
abbrev M_X5_lose : mM := (yX5_lose, cX5_lose, 3, some .int)
abbrev M_X5_find : mM := (yX5_find, cX5_find, 4, some .int)
abbrev M_X5_pass : mM := (yX5_pass, cX5_pass, 2, some .int)
abbrev M_X5_ofTroop : mM := (yX5_ofTroop, cX5_ofTroop, 3, some .int)
abbrev M_X5_of : mM := (yX5_of, cX5_of, 4, some .int)
abbrev M_X5_sum : mM := (yX5_sum, cX5_sum, 4, some .int)
abbrev M_X5_count : mM := (yX5_count, cX5_count, 2, some .int)
abbrev M_X5_why : mM := (yX5_why, cX5_why, 5, some .int)
abbrev M_X5_waitsFor : mM := (yX5_waitsFor, cX5_waitsFor, 2, some .int)
abbrev M_X5_opensIn : mM := (yX5_opensIn, cX5_opensIn, 4, some .int)
abbrev M_X5_couldHike : mM := (yX5_couldHike, cX5_couldHike, 5, some .int)
abbrev M_X5_put : mM := (yX5_put, cX5_put, 7, some .int)
abbrev M_X5_wipe : mM := (yX5_wipe, cX5_wipe, 2, some .int)
abbrev M_X5_sees : mM := (yX5_sees, cX5_sees, 3, some .boolean)
abbrev M_X5_number : mM := (yX5_number, cX5_number, 2, some .int)
abbrev M_X5_behind : mM := (yX5_behind, cX5_behind, 2, some .int)
abbrev M_X5_order : mM := (yX5_order, cX5_order, 7, some .int)
abbrev M_X5_isWell : mM := (yX5_isWell, cX5_isWell, 2, some .boolean)
abbrev M_X5_fault : mM := (yX5_fault, cX5_fault, 1, some .int)
abbrev M_X5_carryOut : mM := (yX5_carryOut, cX5_carryOut, 3, some .int)
abbrev M_J6_bitCount_0f7a4 : mM := (yJ6_bitCount_0f7a4, cJ6_bitCount_0f7a4, 1, some .int)
end
section
theorem dX0_init_0 : decode cX0_init 0 = .ok (.aload_n 0, 1) := by decide +kernel
theorem dX0_init_1 : decode cX0_init 1 = .ok (.invokespecial 3, 3) := by decide +kernel
theorem dX0_init_4 : decode cX0_init 4 = .ok (.aload_n 0, 1) := by decide +kernel
theorem dX0_init_5 : decode cX0_init 5 = .ok (.bipush 7, 2) := by decide +kernel
theorem dX0_init_7 : decode cX0_init 7 = .ok (.anewarray 11, 3) := by decide +kernel
theorem dX0_init_10 : decode cX0_init 10 = .ok (.putfield 13, 3) := by decide +kernel
theorem dX0_init_13 : decode cX0_init 13 = .ok (.iconst 0, 1) := by decide +kernel
theorem dX0_init_14 : decode cX0_init 14 = .ok (.istore_n 1, 1) := by decide +kernel
theorem dX0_init_15 : decode cX0_init 15 = .ok (.iload_n 1, 1) := by decide +kernel
theorem dX0_init_16 : decode cX0_init 16 = .ok (.bipush 7, 2) := by decide +kernel
theorem dX0_init_18 : decode cX0_init 18 = .ok (.if_icmp .ge 22, 3) := by decide +kernel
theorem dX0_init_21 : decode cX0_init 21 = .ok (.aload_n 0, 1) := by decide +kernel
theorem dX0_init_22 : decode cX0_init 22 = .ok (.getfield 13, 3) := by decide +kernel
theorem dX0_init_25 : decode cX0_init 25 = .ok (.iload_n 1, 1) := by decide +kernel
theorem dX0_init_26 : decode cX0_init 26 = .ok (.new 11, 3) := by decide +kernel
theorem dX0_init_29 : decode cX0_init 29 = .ok (.dup, 1) := by decide +kernel
theorem dX0_init_30 : decode cX0_init 30 = .ok (.invokespecial 17, 3) := by decide +kernel
theorem dX0_init_33 : decode cX0_init 33 = .ok (.aastore, 1) := by decide +kernel
theorem dX0_init_34 : decode cX0_init 34 = .ok (.iinc 1 1, 3) := by decide +kernel
theorem dX0_init_37 : decode cX0_init 37 = .ok (.goto (-22), 3) := by decide +kernel
theorem dX0_init_40 : decode cX0_init 40 = .ok (.return_, 1) := by decide +kernel
theorem dX0_note_0 : decode cX0_note 0 = .ok (.aload_n 0, 1) := by decide +kernel
theorem dX0_note_1 : decode cX0_note 1 = .ok (.getfield 13, 3) := by decide +kernel
theorem dX0_note_4 : decode cX0_note 4 = .ok (.aload_n 0, 1) := by decide +kernel
theorem dX0_note_5 : decode cX0_note 5 = .ok (.getfield 18, 3) := by decide +kernel
theorem dX0_note_8 : decode cX0_note 8 = .ok (.aload_n 0, 1) := by decide +kernel
theorem dX0_note_9 : decode cX0_note 9 = .ok (.getfield 22, 3) := by decide +kernel
theorem dX0_note_12 : decode cX0_note 12 = .ok (.iadd, 1) := by decide +kernel
theorem dX0_note_13 : decode cX0_note 13 = .ok (.bipush 7, 2) := by decide +kernel
theorem dX0_note_15 : decode cX0_note 15 = .ok (.irem, 1) := by decide +kernel
theorem dX0_note_16 : decode cX0_note 16 = .ok (.aaload, 1) := by decide +kernel
theorem dX0_note_17 : decode cX0_note 17 = .ok (.aload_n 1, 1) := by decide +kernel
theorem dX0_note_18 : decode cX0_note 18 = .ok (.invokevirtual 25, 3) := by decide +kernel
theorem dX0_note_21 : decode cX0_note 21 = .ok (.return_, 1) := by decide +kernel
theorem dX0_keepNoted_0 : decode cX0_keepNoted 0 = .ok (.aload_n 0, 1) := by decide +kernel
theorem dX0_keepNoted_1 : decode cX0_keepNoted 1 = .ok (.getfield 22, 3) := by decide +kernel
theorem dX0_keepNoted_4 : decode cX0_keepNoted 4 = .ok (.bipush 6, 2) := by decide +kernel
theorem dX0_keepNoted_6 : decode cX0_keepNoted 6 = .ok (.if_icmp .ge 16, 3) := by decide +kernel
theorem dX0_keepNoted_9 : decode cX0_keepNoted 9 = .ok (.aload_n 0, 1) := by decide +kernel
theorem dX0_keepNoted_10 : decode cX0_keepNoted 10 = .ok (.dup, 1) := by decide +kernel
theorem dX0_keepNoted_11 : decode cX0_keepNoted 11 = .ok (.getfield 22, 3) := by decide +kernel
theorem dX0_keepNoted_14 : decode cX0_keepNoted 14 = .ok (.iconst 1, 1) := by decide +kernel
theorem dX0_keepNoted_15 : decode cX0_keepNoted 15 = .ok (.iadd, 1) := by decide +kernel
theorem dX0_keepNoted_16 : decode cX0_keepNoted 16 = .ok (.putfield 22, 3) := by decide +kernel
theorem dX0_keepNoted_19 : decode cX0_keepNoted 19 = .ok (.goto 16, 3) := by decide +kernel
theorem dX0_keepNoted_22 : decode cX0_keepNoted 22 = .ok (.aload_n 0, 1) := by decide +kernel
theorem dX0_keepNoted_23 : decode cX0_keepNoted 23 = .ok (.aload_n 0, 1) := by decide +kernel
theorem dX0_keepNoted_24 : decode cX0_keepNoted 24 = .ok (.getfield 18, 3) := by decide +kernel
theorem dX0_keepNoted_27 : decode cX0_keepNoted 27 = .ok (.iconst 1, 1) := by decide +kernel
theorem dX0_keepNoted_28 : decode cX0_keepNoted 28 = .ok (.iadd, 1) := by decide +kernel
theorem dX0_keepNoted_29 : decode cX0_keepNoted 29 = .ok (.bipush 7, 2) := by decide +kernel
theorem dX0_keepNoted_31 : decode cX0_keepNoted 31 = .ok (.irem, 1) := by decide +kernel
theorem dX0_keepNoted_32 : decode cX0_keepNoted 32 = .ok (.putfield 18, 3) := by decide +kernel
theorem dX0_keepNoted_35 : decode cX0_keepNoted 35 = .ok (.return_, 1) := by decide +kernel
theorem dX0_takeBackInto_0 : decode cX0_takeBackInto 0 = .ok (.aload_n 0, 1) := by decide +kernel
theorem dX0_takeBackInto_1 : decode cX0_takeBackInto 1 = .ok (.getfield 22, 3) := by decide +kernel
theorem dX0_takeBackInto_4 : decode cX0_takeBackInto 4 = .ok (.ifCond .le 34, 3) := by decide +kernel
theorem dX0_takeBackInto_7 : decode cX0_takeBackInto 7 = .ok (.aload_n 0, 1) := by decide +kernel
theorem dX0_takeBackInto_8 : decode cX0_takeBackInto 8 = .ok (.dup, 1) := by decide +kernel
theorem dX0_takeBackInto_9 : decode cX0_takeBackInto 9 = .ok (.getfield 22, 3) := by decide +kernel
theorem dX0_takeBackInto_12 : decode cX0_takeBackInto 12 = .ok (.iconst 1, 1) := by decide +kernel
theorem dX0_takeBackInto_13 : decode cX0_takeBackInto 13 = .ok (.isub, 1) := by decide +kernel
theorem dX0_takeBackInto_14 : decode cX0_takeBackInto 14 = .ok (.putfield 22, 3) := by decide +kernel
theorem dX0_takeBackInto_17 : decode cX0_takeBackInto 17 = .ok (.aload_n 1, 1) := by decide +kernel
theorem dX0_takeBackInto_18 : decode cX0_takeBackInto 18 = .ok (.aload_n 0, 1) := by decide +kernel
theorem dX0_takeBackInto_19 : decode cX0_takeBackInto 19 = .ok (.getfield 13, 3) := by decide +kernel
theorem dX0_takeBackInto_22 : decode cX0_takeBackInto 22 = .ok (.aload_n 0, 1) := by decide +kernel
theorem dX0_takeBackInto_23 : decode cX0_takeBackInto 23 = .ok (.getfield 18, 3) := by decide +kernel
theorem dX0_takeBackInto_26 : decode cX0_takeBackInto 26 = .ok (.aload_n 0, 1) := by decide +kernel
theorem dX0_takeBackInto_27 : decode cX0_takeBackInto 27 = .ok (.getfield 22, 3) := by decide +kernel
theorem dX0_takeBackInto_30 : decode cX0_takeBackInto 30 = .ok (.iadd, 1) := by decide +kernel
theorem dX0_takeBackInto_31 : decode cX0_takeBackInto 31 = .ok (.bipush 7, 2) := by decide +kernel
theorem dX0_takeBackInto_33 : decode cX0_takeBackInto 33 = .ok (.irem, 1) := by decide +kernel
theorem dX0_takeBackInto_34 : decode cX0_takeBackInto 34 = .ok (.aaload, 1) := by decide +kernel
theorem dX0_takeBackInto_35 : decode cX0_takeBackInto 35 = .ok (.invokevirtual 25, 3) := by decide +kernel
theorem dX0_takeBackInto_38 : decode cX0_takeBackInto 38 = .ok (.return_, 1) := by decide +kernel
theorem dX1_init_0 : decode cX1_init 0 = .ok (.aload_n 0, 1) := by decide +kernel
theorem dX1_init_1 : decode cX1_init 1 = .ok (.invokespecial 3, 3) := by decide +kernel
theorem dX1_init_4 : decode cX1_init 4 = .ok (.aload_n 0, 1) := by decide +kernel
theorem dX1_init_5 : decode cX1_init 5 = .ok (.bipush 80, 2) := by decide +kernel
theorem dX1_init_7 : decode cX1_init 7 = .ok (.newarray .char, 2) := by decide +kernel
theorem dX1_init_9 : decode cX1_init 9 = .ok (.putfield 9, 3) := by decide +kernel
theorem dX1_init_12 : decode cX1_init 12 = .ok (.return_, 1) := by decide +kernel
theorem dX1_charactersIn_0 : decode cX1_charactersIn 0 = .ok (.lload_n 0, 1) := by decide +kernel
theorem dX1_charactersIn_1 : decode cX1_charactersIn 1 = .ok (.lstore_n 2, 1) := by decide +kernel
theorem dX1_charactersIn_2 : decode cX1_charactersIn 2 = .ok (.iconst 0, 1) := by decide +kernel
theorem dX1_charactersIn_3 : decode cX1_charactersIn 3 = .ok (.istore 4, 2) := by decide +kernel
theorem dX1_charactersIn_5 : decode cX1_charactersIn 5 = .ok (.iload 4, 2) := by decide +kernel
theorem dX1_charactersIn_7 : decode cX1_charactersIn 7 = .ok (.bipush 8, 2) := by decide +kernel
theorem dX1_charactersIn_9 : decode cX1_charactersIn 9 = .ok (.if_icmp .ge 44, 3) := by decide +kernel
theorem dX1_charactersIn_12 : decode cX1_charactersIn 12 = .ok (.lload_n 2, 1) := by decide +kernel
theorem dX1_charactersIn_13 : decode cX1_charactersIn 13 = .ok (.lconst 0, 1) := by decide +kernel
theorem dX1_charactersIn_14 : decode cX1_charactersIn 14 = .ok (.lcmp, 1) := by decide +kernel
theorem dX1_charactersIn_15 : decode cX1_charactersIn 15 = .ok (.ifCond .eq 38, 3) := by decide +kernel
theorem dX1_charactersIn_18 : decode cX1_charactersIn 18 = .ok (.lload_n 2, 1) := by decide +kernel
theorem dX1_charactersIn_19 : decode cX1_charactersIn 19 = .ok (.ldc2_w 15, 3) := by decide +kernel
theorem dX1_charactersIn_22 : decode cX1_charactersIn 22 = .ok (.land, 1) := by decide +kernel
theorem dX1_charactersIn_23 : decode cX1_charactersIn 23 = .ok (.l2i, 1) := by decide +kernel
theorem dX1_charactersIn_24 : decode cX1_charactersIn 24 = .ok (.istore 5, 2) := by decide +kernel
theorem dX1_charactersIn_26 : decode cX1_charactersIn 26 = .ok (.iload 5, 2) := by decide +kernel
theorem dX1_charactersIn_28 : decode cX1_charactersIn 28 = .ok (.bipush 33, 2) := by decide +kernel
theorem dX1_charactersIn_30 : decode cX1_charactersIn 30 = .ok (.if_icmp .lt 10, 3) := by decide +kernel
theorem dX1_charactersIn_33 : decode cX1_charactersIn 33 = .ok (.iload 5, 2) := by decide +kernel
theorem dX1_charactersIn_35 : decode cX1_charactersIn 35 = .ok (.bipush 126, 2) := by decide +kernel
theorem dX1_charactersIn_37 : decode cX1_charactersIn 37 = .ok (.if_icmp .le 5, 3) := by decide +kernel
theorem dX1_charactersIn_40 : decode cX1_charactersIn 40 = .ok (.iconst 0, 1) := by decide +kernel
theorem dX1_charactersIn_41 : decode cX1_charactersIn 41 = .ok (.ireturn, 1) := by decide +kernel
theorem dX1_charactersIn_42 : decode cX1_charactersIn 42 = .ok (.lload_n 2, 1) := by decide +kernel
theorem dX1_charactersIn_43 : decode cX1_charactersIn 43 = .ok (.bipush 8, 2) := by decide +kernel
theorem dX1_charactersIn_45 : decode cX1_charactersIn 45 = .ok (.lushr, 1) := by decide +kernel
theorem dX1_charactersIn_46 : decode cX1_charactersIn 46 = .ok (.lstore_n 2, 1) := by decide +kernel
theorem dX1_charactersIn_47 : decode cX1_charactersIn 47 = .ok (.iinc 4 1, 3) := by decide +kernel
theorem dX1_charactersIn_50 : decode cX1_charactersIn 50 = .ok (.goto (-45), 3) := by decide +kernel
theorem dX1_charactersIn_53 : decode cX1_charactersIn 53 = .ok (.iload 4, 2) := by decide +kernel
theorem dX1_charactersIn_55 : decode cX1_charactersIn 55 = .ok (.ireturn, 1) := by decide +kernel
theorem dX1_addCharacters_0 : decode cX1_addCharacters 0 = .ok (.lload_n 1, 1) := by decide +kernel
theorem dX1_addCharacters_1 : decode cX1_addCharacters 1 = .ok (.lstore 4, 2) := by decide +kernel
theorem dX1_addCharacters_3 : decode cX1_addCharacters 3 = .ok (.aload_n 0, 1) := by decide +kernel
theorem dX1_addCharacters_4 : decode cX1_addCharacters 4 = .ok (.getfield 17, 3) := by decide +kernel
theorem dX1_addCharacters_7 : decode cX1_addCharacters 7 = .ok (.iload_n 3, 1) := by decide +kernel
theorem dX1_addCharacters_8 : decode cX1_addCharacters 8 = .ok (.iadd, 1) := by decide +kernel
theorem dX1_addCharacters_9 : decode cX1_addCharacters 9 = .ok (.iconst 1, 1) := by decide +kernel
theorem dX1_addCharacters_10 : decode cX1_addCharacters 10 = .ok (.isub, 1) := by decide +kernel
theorem dX1_addCharacters_11 : decode cX1_addCharacters 11 = .ok (.istore 6, 2) := by decide +kernel
theorem dX1_addCharacters_13 : decode cX1_addCharacters 13 = .ok (.iload 6, 2) := by decide +kernel
theorem dX1_addCharacters_15 : decode cX1_addCharacters 15 = .ok (.aload_n 0, 1) := by decide +kernel
theorem dX1_addCharacters_16 : decode cX1_addCharacters 16 = .ok (.getfield 17, 3) := by decide +kernel
theorem dX1_addCharacters_19 : decode cX1_addCharacters 19 = .ok (.if_icmp .lt 31, 3) := by decide +kernel
theorem dX1_addCharacters_22 : decode cX1_addCharacters 22 = .ok (.aload_n 0, 1) := by decide +kernel
theorem dX1_addCharacters_23 : decode cX1_addCharacters 23 = .ok (.getfield 9, 3) := by decide +kernel
theorem dX1_addCharacters_26 : decode cX1_addCharacters 26 = .ok (.iload 6, 2) := by decide +kernel
theorem dX1_addCharacters_28 : decode cX1_addCharacters 28 = .ok (.lload 4, 2) := by decide +kernel
theorem dX1_addCharacters_30 : decode cX1_addCharacters 30 = .ok (.ldc2_w 15, 3) := by decide +kernel
theorem dX1_addCharacters_33 : decode cX1_addCharacters 33 = .ok (.land, 1) := by decide +kernel
theorem dX1_addCharacters_34 : decode cX1_addCharacters 34 = .ok (.l2i, 1) := by decide +kernel
theorem dX1_addCharacters_35 : decode cX1_addCharacters 35 = .ok (.i2c, 1) := by decide +kernel
theorem dX1_addCharacters_36 : decode cX1_addCharacters 36 = .ok (.castore, 1) := by decide +kernel
theorem dX1_addCharacters_37 : decode cX1_addCharacters 37 = .ok (.lload 4, 2) := by decide +kernel
theorem dX1_addCharacters_39 : decode cX1_addCharacters 39 = .ok (.bipush 8, 2) := by decide +kernel
theorem dX1_addCharacters_41 : decode cX1_addCharacters 41 = .ok (.lushr, 1) := by decide +kernel
theorem dX1_addCharacters_42 : decode cX1_addCharacters 42 = .ok (.lstore 4, 2) := by decide +kernel
theorem dX1_addCharacters_44 : decode cX1_addCharacters 44 = .ok (.iinc 6 (-1), 3) := by decide +kernel
theorem dX1_addCharacters_47 : decode cX1_addCharacters 47 = .ok (.goto (-34), 3) := by decide +kernel
theorem dX1_addCharacters_50 : decode cX1_addCharacters 50 = .ok (.aload_n 0, 1) := by decide +kernel
theorem dX1_addCharacters_51 : decode cX1_addCharacters 51 = .ok (.dup, 1) := by decide +kernel
theorem dX1_addCharacters_52 : decode cX1_addCharacters 52 = .ok (.getfield 17, 3) := by decide +kernel
theorem dX1_addCharacters_55 : decode cX1_addCharacters 55 = .ok (.iload_n 3, 1) := by decide +kernel
theorem dX1_addCharacters_56 : decode cX1_addCharacters 56 = .ok (.iadd, 1) := by decide +kernel
theorem dX1_addCharacters_57 : decode cX1_addCharacters 57 = .ok (.putfield 17, 3) := by decide +kernel
theorem dX1_addCharacters_60 : decode cX1_addCharacters 60 = .ok (.return_, 1) := by decide +kernel
theorem dX1_faultAt_0 : decode cX1_faultAt 0 = .ok (.aload_n 0, 1) := by decide +kernel
theorem dX1_faultAt_1 : decode cX1_faultAt 1 = .ok (.iconst 0, 1) := by decide +kernel
theorem dX1_faultAt_2 : decode cX1_faultAt 2 = .ok (.putfield 21, 3) := by decide +kernel
theorem dX1_faultAt_5 : decode cX1_faultAt 5 = .ok (.iconst 0, 1) := by decide +kernel
theorem dX1_faultAt_6 : decode cX1_faultAt 6 = .ok (.istore_n 1, 1) := by decide +kernel
theorem dX1_faultAt_7 : decode cX1_faultAt 7 = .ok (.iload_n 1, 1) := by decide +kernel
theorem dX1_faultAt_8 : decode cX1_faultAt 8 = .ok (.bipush 80, 2) := by decide +kernel
theorem dX1_faultAt_10 : decode cX1_faultAt 10 = .ok (.if_icmp .ge 49, 3) := by decide +kernel
theorem dX1_faultAt_13 : decode cX1_faultAt 13 = .ok (.aload_n 0, 1) := by decide +kernel
theorem dX1_faultAt_14 : decode cX1_faultAt 14 = .ok (.invokevirtual 24, 3) := by decide +kernel
theorem dX1_faultAt_17 : decode cX1_faultAt 17 = .ok (.ifCond .ne 8, 3) := by decide +kernel
theorem dX1_faultAt_20 : decode cX1_faultAt 20 = .ok (.aload_n 0, 1) := by decide +kernel
theorem dX1_faultAt_21 : decode cX1_faultAt 21 = .ok (.getfield 21, 3) := by decide +kernel
theorem dX1_faultAt_24 : decode cX1_faultAt 24 = .ok (.ireturn, 1) := by decide +kernel
theorem dX1_faultAt_25 : decode cX1_faultAt 25 = .ok (.aload_n 0, 1) := by decide +kernel
theorem dX1_faultAt_26 : decode cX1_faultAt 26 = .ok (.getfield 21, 3) := by decide +kernel
theorem dX1_faultAt_29 : decode cX1_faultAt 29 = .ok (.aload_n 0, 1) := by decide +kernel
theorem dX1_faultAt_30 : decode cX1_faultAt 30 = .ok (.getfield 17, 3) := by decide +kernel
theorem dX1_faultAt_33 : decode cX1_faultAt 33 = .ok (.if_icmp .lt 6, 3) := by decide +kernel
theorem dX1_faultAt_36 : decode cX1_faultAt 36 = .ok (.bipush (-6), 2) := by decide +kernel
theorem dX1_faultAt_38 : decode cX1_faultAt 38 = .ok (.ireturn, 1) := by decide +kernel
theorem dX1_faultAt_39 : decode cX1_faultAt 39 = .ok (.aload_n 0, 1) := by decide +kernel
theorem dX1_faultAt_40 : decode cX1_faultAt 40 = .ok (.bipush 59, 2) := by decide +kernel
theorem dX1_faultAt_42 : decode cX1_faultAt 42 = .ok (.invokevirtual 28, 3) := by decide +kernel
theorem dX1_faultAt_45 : decode cX1_faultAt 45 = .ok (.ifCond .ne 8, 3) := by decide +kernel
theorem dX1_faultAt_48 : decode cX1_faultAt 48 = .ok (.aload_n 0, 1) := by decide +kernel
theorem dX1_faultAt_49 : decode cX1_faultAt 49 = .ok (.getfield 21, 3) := by decide +kernel
theorem dX1_faultAt_52 : decode cX1_faultAt 52 = .ok (.ireturn, 1) := by decide +kernel
theorem dX1_faultAt_53 : decode cX1_faultAt 53 = .ok (.iinc 1 1, 3) := by decide +kernel
theorem dX1_faultAt_56 : decode cX1_faultAt 56 = .ok (.goto (-49), 3) := by decide +kernel
theorem dX1_faultAt_59 : decode cX1_faultAt 59 = .ok (.aload_n 0, 1) := by decide +kernel
theorem dX1_faultAt_60 : decode cX1_faultAt 60 = .ok (.getfield 21, 3) := by decide +kernel
theorem dX1_faultAt_63 : decode cX1_faultAt 63 = .ok (.ireturn, 1) := by decide +kernel
theorem dX1_readOrder_0 : decode cX1_readOrder 0 = .ok (.aload_n 0, 1) := by decide +kernel
theorem dX1_readOrder_1 : decode cX1_readOrder 1 = .ok (.aload_n 0, 1) := by decide +kernel
theorem dX1_readOrder_2 : decode cX1_readOrder 2 = .ok (.invokevirtual 32, 3) := by decide +kernel
theorem dX1_readOrder_5 : decode cX1_readOrder 5 = .ok (.putfield 36, 3) := by decide +kernel
theorem dX1_readOrder_8 : decode cX1_readOrder 8 = .ok (.aload_n 0, 1) := by decide +kernel
theorem dX1_readOrder_9 : decode cX1_readOrder 9 = .ok (.getfield 36, 3) := by decide +kernel
theorem dX1_readOrder_12 : decode cX1_readOrder 12 = .ok (.lookupswitch 191 #[(99, 67), (108, 113), (110, 52), (115, 152), (116, 52)], 52) := by decide +kernel
theorem dX1_readOrder_64 : decode cX1_readOrder 64 = .ok (.aload_n 0, 1) := by decide +kernel
theorem dX1_readOrder_65 : decode cX1_readOrder 65 = .ok (.dup, 1) := by decide +kernel
theorem dX1_readOrder_66 : decode cX1_readOrder 66 = .ok (.getfield 21, 3) := by decide +kernel
theorem dX1_readOrder_69 : decode cX1_readOrder 69 = .ok (.iconst 1, 1) := by decide +kernel
theorem dX1_readOrder_70 : decode cX1_readOrder 70 = .ok (.iadd, 1) := by decide +kernel
theorem dX1_readOrder_71 : decode cX1_readOrder 71 = .ok (.putfield 21, 3) := by decide +kernel
theorem dX1_readOrder_74 : decode cX1_readOrder 74 = .ok (.aload_n 0, 1) := by decide +kernel
theorem dX1_readOrder_75 : decode cX1_readOrder 75 = .ok (.invokevirtual 40, 3) := by decide +kernel
theorem dX1_readOrder_78 : decode cX1_readOrder 78 = .ok (.ireturn, 1) := by decide +kernel
theorem dX1_readOrder_79 : decode cX1_readOrder 79 = .ok (.aload_n 0, 1) := by decide +kernel
theorem dX1_readOrder_80 : decode cX1_readOrder 80 = .ok (.dup, 1) := by decide +kernel
theorem dX1_readOrder_81 : decode cX1_readOrder 81 = .ok (.getfield 21, 3) := by decide +kernel
theorem dX1_readOrder_84 : decode cX1_readOrder 84 = .ok (.iconst 1, 1) := by decide +kernel
theorem dX1_readOrder_85 : decode cX1_readOrder 85 = .ok (.iadd, 1) := by decide +kernel
theorem dX1_readOrder_86 : decode cX1_readOrder 86 = .ok (.putfield 21, 3) := by decide +kernel
theorem dX1_readOrder_89 : decode cX1_readOrder 89 = .ok (.aload_n 0, 1) := by decide +kernel
theorem dX1_readOrder_90 : decode cX1_readOrder 90 = .ok (.invokevirtual 43, 3) := by decide +kernel
theorem dX1_readOrder_93 : decode cX1_readOrder 93 = .ok (.ifCond .eq 30, 3) := by decide +kernel
theorem dX1_readOrder_96 : decode cX1_readOrder 96 = .ok (.aload_n 0, 1) := by decide +kernel
theorem dX1_readOrder_97 : decode cX1_readOrder 97 = .ok (.bipush 46, 2) := by decide +kernel
theorem dX1_readOrder_99 : decode cX1_readOrder 99 = .ok (.invokevirtual 28, 3) := by decide +kernel
theorem dX1_readOrder_102 : decode cX1_readOrder 102 = .ok (.ifCond .eq 21, 3) := by decide +kernel
theorem dX1_readOrder_105 : decode cX1_readOrder 105 = .ok (.aload_n 0, 1) := by decide +kernel
theorem dX1_readOrder_106 : decode cX1_readOrder 106 = .ok (.invokevirtual 40, 3) := by decide +kernel
theorem dX1_readOrder_109 : decode cX1_readOrder 109 = .ok (.ifCond .eq 14, 3) := by decide +kernel
theorem dX1_readOrder_112 : decode cX1_readOrder 112 = .ok (.aload_n 0, 1) := by decide +kernel
theorem dX1_readOrder_113 : decode cX1_readOrder 113 = .ok (.invokevirtual 46, 3) := by decide +kernel
theorem dX1_readOrder_116 : decode cX1_readOrder 116 = .ok (.ifCond .eq 7, 3) := by decide +kernel
theorem dX1_readOrder_119 : decode cX1_readOrder 119 = .ok (.iconst 1, 1) := by decide +kernel
theorem dX1_readOrder_120 : decode cX1_readOrder 120 = .ok (.goto 4, 3) := by decide +kernel
theorem dX1_readOrder_123 : decode cX1_readOrder 123 = .ok (.iconst 0, 1) := by decide +kernel
theorem dX1_readOrder_124 : decode cX1_readOrder 124 = .ok (.ireturn, 1) := by decide +kernel
theorem dX1_readOrder_125 : decode cX1_readOrder 125 = .ok (.aload_n 0, 1) := by decide +kernel
theorem dX1_readOrder_126 : decode cX1_readOrder 126 = .ok (.dup, 1) := by decide +kernel
theorem dX1_readOrder_127 : decode cX1_readOrder 127 = .ok (.getfield 21, 3) := by decide +kernel
theorem dX1_readOrder_130 : decode cX1_readOrder 130 = .ok (.iconst 1, 1) := by decide +kernel
theorem dX1_readOrder_131 : decode cX1_readOrder 131 = .ok (.iadd, 1) := by decide +kernel
theorem dX1_readOrder_132 : decode cX1_readOrder 132 = .ok (.putfield 21, 3) := by decide +kernel
theorem dX1_readOrder_135 : decode cX1_readOrder 135 = .ok (.aload_n 0, 1) := by decide +kernel
theorem dX1_readOrder_136 : decode cX1_readOrder 136 = .ok (.invokevirtual 43, 3) := by decide +kernel
theorem dX1_readOrder_139 : decode cX1_readOrder 139 = .ok (.ifCond .eq 23, 3) := by decide +kernel
theorem dX1_readOrder_142 : decode cX1_readOrder 142 = .ok (.aload_n 0, 1) := by decide +kernel
theorem dX1_readOrder_143 : decode cX1_readOrder 143 = .ok (.bipush 46, 2) := by decide +kernel
theorem dX1_readOrder_145 : decode cX1_readOrder 145 = .ok (.invokevirtual 28, 3) := by decide +kernel
theorem dX1_readOrder_148 : decode cX1_readOrder 148 = .ok (.ifCond .eq 14, 3) := by decide +kernel
theorem dX1_readOrder_151 : decode cX1_readOrder 151 = .ok (.aload_n 0, 1) := by decide +kernel
theorem dX1_readOrder_152 : decode cX1_readOrder 152 = .ok (.invokevirtual 40, 3) := by decide +kernel
theorem dX1_readOrder_155 : decode cX1_readOrder 155 = .ok (.ifCond .eq 7, 3) := by decide +kernel
theorem dX1_readOrder_158 : decode cX1_readOrder 158 = .ok (.iconst 1, 1) := by decide +kernel
theorem dX1_readOrder_159 : decode cX1_readOrder 159 = .ok (.goto 4, 3) := by decide +kernel
theorem dX1_readOrder_162 : decode cX1_readOrder 162 = .ok (.iconst 0, 1) := by decide +kernel
theorem dX1_readOrder_163 : decode cX1_readOrder 163 = .ok (.ireturn, 1) := by decide +kernel
theorem dX1_readOrder_164 : decode cX1_readOrder 164 = .ok (.aload_n 0, 1) := by decide +kernel
theorem dX1_readOrder_165 : decode cX1_readOrder 165 = .ok (.dup, 1) := by decide +kernel
theorem dX1_readOrder_166 : decode cX1_readOrder 166 = .ok (.getfield 21, 3) := by decide +kernel
theorem dX1_readOrder_169 : decode cX1_readOrder 169 = .ok (.iconst 1, 1) := by decide +kernel
theorem dX1_readOrder_170 : decode cX1_readOrder 170 = .ok (.iadd, 1) := by decide +kernel
theorem dX1_readOrder_171 : decode cX1_readOrder 171 = .ok (.putfield 21, 3) := by decide +kernel
theorem dX1_readOrder_174 : decode cX1_readOrder 174 = .ok (.aload_n 0, 1) := by decide +kernel
theorem dX1_readOrder_175 : decode cX1_readOrder 175 = .ok (.invokevirtual 43, 3) := by decide +kernel
theorem dX1_readOrder_178 : decode cX1_readOrder 178 = .ok (.ifCond .eq 23, 3) := by decide +kernel
theorem dX1_readOrder_181 : decode cX1_readOrder 181 = .ok (.aload_n 0, 1) := by decide +kernel
theorem dX1_readOrder_182 : decode cX1_readOrder 182 = .ok (.bipush 61, 2) := by decide +kernel
theorem dX1_readOrder_184 : decode cX1_readOrder 184 = .ok (.invokevirtual 28, 3) := by decide +kernel
theorem dX1_readOrder_187 : decode cX1_readOrder 187 = .ok (.ifCond .eq 14, 3) := by decide +kernel
theorem dX1_readOrder_190 : decode cX1_readOrder 190 = .ok (.aload_n 0, 1) := by decide +kernel
theorem dX1_readOrder_191 : decode cX1_readOrder 191 = .ok (.invokevirtual 40, 3) := by decide +kernel
theorem dX1_readOrder_194 : decode cX1_readOrder 194 = .ok (.ifCond .eq 7, 3) := by decide +kernel
theorem dX1_readOrder_197 : decode cX1_readOrder 197 = .ok (.iconst 1, 1) := by decide +kernel
theorem dX1_readOrder_198 : decode cX1_readOrder 198 = .ok (.goto 4, 3) := by decide +kernel
theorem dX1_readOrder_201 : decode cX1_readOrder 201 = .ok (.iconst 0, 1) := by decide +kernel
theorem dX1_readOrder_202 : decode cX1_readOrder 202 = .ok (.ireturn, 1) := by decide +kernel
theorem dX1_readOrder_203 : decode cX1_readOrder 203 = .ok (.iconst 0, 1) := by decide +kernel
theorem dX1_readOrder_204 : decode cX1_readOrder 204 = .ok (.ireturn, 1) := by decide +kernel
theorem dX1_readSign_0 : decode cX1_readSign 0 = .ok (.aload_n 0, 1) := by decide +kernel
theorem dX1_readSign_1 : decode cX1_readSign 1 = .ok (.invokevirtual 32, 3) := by decide +kernel
theorem dX1_readSign_4 : decode cX1_readSign 4 = .ok (.iload_n 1, 1) := by decide +kernel
theorem dX1_readSign_5 : decode cX1_readSign 5 = .ok (.if_icmp .eq 5, 3) := by decide +kernel
theorem dX1_readSign_8 : decode cX1_readSign 8 = .ok (.iconst 0, 1) := by decide +kernel
theorem dX1_readSign_9 : decode cX1_readSign 9 = .ok (.ireturn, 1) := by decide +kernel
theorem dX1_readSign_10 : decode cX1_readSign 10 = .ok (.aload_n 0, 1) := by decide +kernel
theorem dX1_readSign_11 : decode cX1_readSign 11 = .ok (.dup, 1) := by decide +kernel
theorem dX1_readSign_12 : decode cX1_readSign 12 = .ok (.getfield 21, 3) := by decide +kernel
theorem dX1_readSign_15 : decode cX1_readSign 15 = .ok (.iconst 1, 1) := by decide +kernel
theorem dX1_readSign_16 : decode cX1_readSign 16 = .ok (.iadd, 1) := by decide +kernel
theorem dX1_readSign_17 : decode cX1_readSign 17 = .ok (.putfield 21, 3) := by decide +kernel
theorem dX1_readSign_20 : decode cX1_readSign 20 = .ok (.iconst 1, 1) := by decide +kernel
theorem dX1_readSign_21 : decode cX1_readSign 21 = .ok (.ireturn, 1) := by decide +kernel
theorem dX1_sign_0 : decode cX1_sign 0 = .ok (.aload_n 0, 1) := by decide +kernel
theorem dX1_sign_1 : decode cX1_sign 1 = .ok (.getfield 21, 3) := by decide +kernel
theorem dX1_sign_4 : decode cX1_sign 4 = .ok (.aload_n 0, 1) := by decide +kernel
theorem dX1_sign_5 : decode cX1_sign 5 = .ok (.getfield 17, 3) := by decide +kernel
theorem dX1_sign_8 : decode cX1_sign 8 = .ok (.if_icmp .ge 15, 3) := by decide +kernel
theorem dX1_sign_11 : decode cX1_sign 11 = .ok (.aload_n 0, 1) := by decide +kernel
theorem dX1_sign_12 : decode cX1_sign 12 = .ok (.getfield 9, 3) := by decide +kernel
theorem dX1_sign_15 : decode cX1_sign 15 = .ok (.aload_n 0, 1) := by decide +kernel
theorem dX1_sign_16 : decode cX1_sign 16 = .ok (.getfield 21, 3) := by decide +kernel
theorem dX1_sign_19 : decode cX1_sign 19 = .ok (.caload, 1) := by decide +kernel
theorem dX1_sign_20 : decode cX1_sign 20 = .ok (.goto 4, 3) := by decide +kernel
theorem dX1_sign_23 : decode cX1_sign 23 = .ok (.iconst 0, 1) := by decide +kernel
theorem dX1_sign_24 : decode cX1_sign 24 = .ok (.ireturn, 1) := by decide +kernel
theorem dX1_isDigit_0 : decode cX1_isDigit 0 = .ok (.aload_n 0, 1) := by decide +kernel
theorem dX1_isDigit_1 : decode cX1_isDigit 1 = .ok (.invokevirtual 32, 3) := by decide +kernel
theorem dX1_isDigit_4 : decode cX1_isDigit 4 = .ok (.bipush 48, 2) := by decide +kernel
theorem dX1_isDigit_6 : decode cX1_isDigit 6 = .ok (.if_icmp .lt 16, 3) := by decide +kernel
theorem dX1_isDigit_9 : decode cX1_isDigit 9 = .ok (.aload_n 0, 1) := by decide +kernel
theorem dX1_isDigit_10 : decode cX1_isDigit 10 = .ok (.invokevirtual 32, 3) := by decide +kernel
theorem dX1_isDigit_13 : decode cX1_isDigit 13 = .ok (.bipush 57, 2) := by decide +kernel
theorem dX1_isDigit_15 : decode cX1_isDigit 15 = .ok (.if_icmp .gt 7, 3) := by decide +kernel
theorem dX1_isDigit_18 : decode cX1_isDigit 18 = .ok (.iconst 1, 1) := by decide +kernel
theorem dX1_isDigit_19 : decode cX1_isDigit 19 = .ok (.goto 4, 3) := by decide +kernel
theorem dX1_isDigit_22 : decode cX1_isDigit 22 = .ok (.iconst 0, 1) := by decide +kernel
theorem dX1_isDigit_23 : decode cX1_isDigit 23 = .ok (.ireturn, 1) := by decide +kernel
theorem dX1_readTroop_0 : decode cX1_readTroop 0 = .ok (.aload_n 0, 1) := by decide +kernel
theorem dX1_readTroop_1 : decode cX1_readTroop 1 = .ok (.invokevirtual 49, 3) := by decide +kernel
theorem dX1_readTroop_4 : decode cX1_readTroop 4 = .ok (.ifCond .ne 5, 3) := by decide +kernel
theorem dX1_readTroop_7 : decode cX1_readTroop 7 = .ok (.iconst 0, 1) := by decide +kernel
theorem dX1_readTroop_8 : decode cX1_readTroop 8 = .ok (.ireturn, 1) := by decide +kernel
theorem dX1_readTroop_9 : decode cX1_readTroop 9 = .ok (.aload_n 0, 1) := by decide +kernel
theorem dX1_readTroop_10 : decode cX1_readTroop 10 = .ok (.aload_n 0, 1) := by decide +kernel
theorem dX1_readTroop_11 : decode cX1_readTroop 11 = .ok (.invokevirtual 32, 3) := by decide +kernel
theorem dX1_readTroop_14 : decode cX1_readTroop 14 = .ok (.bipush 48, 2) := by decide +kernel
theorem dX1_readTroop_16 : decode cX1_readTroop 16 = .ok (.isub, 1) := by decide +kernel
theorem dX1_readTroop_17 : decode cX1_readTroop 17 = .ok (.putfield 52, 3) := by decide +kernel
theorem dX1_readTroop_20 : decode cX1_readTroop 20 = .ok (.aload_n 0, 1) := by decide +kernel
theorem dX1_readTroop_21 : decode cX1_readTroop 21 = .ok (.dup, 1) := by decide +kernel
theorem dX1_readTroop_22 : decode cX1_readTroop 22 = .ok (.getfield 21, 3) := by decide +kernel
theorem dX1_readTroop_25 : decode cX1_readTroop 25 = .ok (.iconst 1, 1) := by decide +kernel
theorem dX1_readTroop_26 : decode cX1_readTroop 26 = .ok (.iadd, 1) := by decide +kernel
theorem dX1_readTroop_27 : decode cX1_readTroop 27 = .ok (.putfield 21, 3) := by decide +kernel
theorem dX1_readTroop_30 : decode cX1_readTroop 30 = .ok (.iconst 1, 1) := by decide +kernel
theorem dX1_readTroop_31 : decode cX1_readTroop 31 = .ok (.ireturn, 1) := by decide +kernel
theorem dX1_readNumber_0 : decode cX1_readNumber 0 = .ok (.aload_n 0, 1) := by decide +kernel
theorem dX1_readNumber_1 : decode cX1_readNumber 1 = .ok (.invokevirtual 49, 3) := by decide +kernel
theorem dX1_readNumber_4 : decode cX1_readNumber 4 = .ok (.ifCond .ne 5, 3) := by decide +kernel
theorem dX1_readNumber_7 : decode cX1_readNumber 7 = .ok (.iconst 0, 1) := by decide +kernel
theorem dX1_readNumber_8 : decode cX1_readNumber 8 = .ok (.ireturn, 1) := by decide +kernel
theorem dX1_readNumber_9 : decode cX1_readNumber 9 = .ok (.aload_n 0, 1) := by decide +kernel
theorem dX1_readNumber_10 : decode cX1_readNumber 10 = .ok (.aload_n 0, 1) := by decide +kernel
theorem dX1_readNumber_11 : decode cX1_readNumber 11 = .ok (.invokevirtual 32, 3) := by decide +kernel
theorem dX1_readNumber_14 : decode cX1_readNumber 14 = .ok (.bipush 48, 2) := by decide +kernel
theorem dX1_readNumber_16 : decode cX1_readNumber 16 = .ok (.isub, 1) := by decide +kernel
theorem dX1_readNumber_17 : decode cX1_readNumber 17 = .ok (.putfield 55, 3) := by decide +kernel
theorem dX1_readNumber_20 : decode cX1_readNumber 20 = .ok (.aload_n 0, 1) := by decide +kernel
theorem dX1_readNumber_21 : decode cX1_readNumber 21 = .ok (.dup, 1) := by decide +kernel
theorem dX1_readNumber_22 : decode cX1_readNumber 22 = .ok (.getfield 21, 3) := by decide +kernel
theorem dX1_readNumber_25 : decode cX1_readNumber 25 = .ok (.iconst 1, 1) := by decide +kernel
theorem dX1_readNumber_26 : decode cX1_readNumber 26 = .ok (.iadd, 1) := by decide +kernel
theorem dX1_readNumber_27 : decode cX1_readNumber 27 = .ok (.putfield 21, 3) := by decide +kernel
theorem dX1_readNumber_30 : decode cX1_readNumber 30 = .ok (.aload_n 0, 1) := by decide +kernel
theorem dX1_readNumber_31 : decode cX1_readNumber 31 = .ok (.getfield 55, 3) := by decide +kernel
theorem dX1_readNumber_34 : decode cX1_readNumber 34 = .ok (.ifCond .le 39, 3) := by decide +kernel
theorem dX1_readNumber_37 : decode cX1_readNumber 37 = .ok (.aload_n 0, 1) := by decide +kernel
theorem dX1_readNumber_38 : decode cX1_readNumber 38 = .ok (.invokevirtual 49, 3) := by decide +kernel
theorem dX1_readNumber_41 : decode cX1_readNumber 41 = .ok (.ifCond .eq 32, 3) := by decide +kernel
theorem dX1_readNumber_44 : decode cX1_readNumber 44 = .ok (.aload_n 0, 1) := by decide +kernel
theorem dX1_readNumber_45 : decode cX1_readNumber 45 = .ok (.aload_n 0, 1) := by decide +kernel
theorem dX1_readNumber_46 : decode cX1_readNumber 46 = .ok (.getfield 55, 3) := by decide +kernel
theorem dX1_readNumber_49 : decode cX1_readNumber 49 = .ok (.bipush 10, 2) := by decide +kernel
theorem dX1_readNumber_51 : decode cX1_readNumber 51 = .ok (.imul, 1) := by decide +kernel
theorem dX1_readNumber_52 : decode cX1_readNumber 52 = .ok (.aload_n 0, 1) := by decide +kernel
theorem dX1_readNumber_53 : decode cX1_readNumber 53 = .ok (.invokevirtual 32, 3) := by decide +kernel
theorem dX1_readNumber_56 : decode cX1_readNumber 56 = .ok (.iadd, 1) := by decide +kernel
theorem dX1_readNumber_57 : decode cX1_readNumber 57 = .ok (.bipush 48, 2) := by decide +kernel
theorem dX1_readNumber_59 : decode cX1_readNumber 59 = .ok (.isub, 1) := by decide +kernel
theorem dX1_readNumber_60 : decode cX1_readNumber 60 = .ok (.putfield 55, 3) := by decide +kernel
theorem dX1_readNumber_63 : decode cX1_readNumber 63 = .ok (.aload_n 0, 1) := by decide +kernel
theorem dX1_readNumber_64 : decode cX1_readNumber 64 = .ok (.dup, 1) := by decide +kernel
theorem dX1_readNumber_65 : decode cX1_readNumber 65 = .ok (.getfield 21, 3) := by decide +kernel
theorem dX1_readNumber_68 : decode cX1_readNumber 68 = .ok (.iconst 1, 1) := by decide +kernel
theorem dX1_readNumber_69 : decode cX1_readNumber 69 = .ok (.iadd, 1) := by decide +kernel
theorem dX1_readNumber_70 : decode cX1_readNumber 70 = .ok (.putfield 21, 3) := by decide +kernel
theorem dX1_readNumber_73 : decode cX1_readNumber 73 = .ok (.iconst 1, 1) := by decide +kernel
theorem dX1_readNumber_74 : decode cX1_readNumber 74 = .ok (.ireturn, 1) := by decide +kernel
theorem dX1_readColour_0 : decode cX1_readColour 0 = .ok (.aload_n 0, 1) := by decide +kernel
theorem dX1_readColour_1 : decode cX1_readColour 1 = .ok (.invokevirtual 32, 3) := by decide +kernel
theorem dX1_readColour_4 : decode cX1_readColour 4 = .ok (.bipush 114, 2) := by decide +kernel
theorem dX1_readColour_6 : decode cX1_readColour 6 = .ok (.if_icmp .eq 14, 3) := by decide +kernel
theorem dX1_readColour_9 : decode cX1_readColour 9 = .ok (.aload_n 0, 1) := by decide +kernel
theorem dX1_readColour_10 : decode cX1_readColour 10 = .ok (.invokevirtual 32, 3) := by decide +kernel
theorem dX1_readColour_13 : decode cX1_readColour 13 = .ok (.bipush 98, 2) := by decide +kernel
theorem dX1_readColour_15 : decode cX1_readColour 15 = .ok (.if_icmp .eq 5, 3) := by decide +kernel
theorem dX1_readColour_18 : decode cX1_readColour 18 = .ok (.iconst 0, 1) := by decide +kernel
theorem dX1_readColour_19 : decode cX1_readColour 19 = .ok (.ireturn, 1) := by decide +kernel
theorem dX1_readColour_20 : decode cX1_readColour 20 = .ok (.aload_n 0, 1) := by decide +kernel
theorem dX1_readColour_21 : decode cX1_readColour 21 = .ok (.aload_n 0, 1) := by decide +kernel
theorem dX1_readColour_22 : decode cX1_readColour 22 = .ok (.invokevirtual 32, 3) := by decide +kernel
theorem dX1_readColour_25 : decode cX1_readColour 25 = .ok (.bipush 114, 2) := by decide +kernel
theorem dX1_readColour_27 : decode cX1_readColour 27 = .ok (.if_icmp .ne 7, 3) := by decide +kernel
theorem dX1_readColour_30 : decode cX1_readColour 30 = .ok (.iconst 0, 1) := by decide +kernel
theorem dX1_readColour_31 : decode cX1_readColour 31 = .ok (.goto 4, 3) := by decide +kernel
theorem dX1_readColour_34 : decode cX1_readColour 34 = .ok (.iconst 1, 1) := by decide +kernel
theorem dX1_readColour_35 : decode cX1_readColour 35 = .ok (.putfield 58, 3) := by decide +kernel
theorem dX1_readColour_38 : decode cX1_readColour 38 = .ok (.aload_n 0, 1) := by decide +kernel
theorem dX1_readColour_39 : decode cX1_readColour 39 = .ok (.dup, 1) := by decide +kernel
theorem dX1_readColour_40 : decode cX1_readColour 40 = .ok (.getfield 21, 3) := by decide +kernel
theorem dX1_readColour_43 : decode cX1_readColour 43 = .ok (.iconst 1, 1) := by decide +kernel
theorem dX1_readColour_44 : decode cX1_readColour 44 = .ok (.iadd, 1) := by decide +kernel
theorem dX1_readColour_45 : decode cX1_readColour 45 = .ok (.putfield 21, 3) := by decide +kernel
theorem dX1_readColour_48 : decode cX1_readColour 48 = .ok (.iconst 1, 1) := by decide +kernel
theorem dX1_readColour_49 : decode cX1_readColour 49 = .ok (.ireturn, 1) := by decide +kernel
theorem dX2_init_0 : decode cX2_init 0 = .ok (.aload_n 0, 1) := by decide +kernel
theorem dX2_init_1 : decode cX2_init 1 = .ok (.invokespecial 3, 3) := by decide +kernel
theorem dX2_init_4 : decode cX2_init 4 = .ok (.aload_n 0, 1) := by decide +kernel
theorem dX2_init_5 : decode cX2_init 5 = .ok (.iconst 2, 1) := by decide +kernel
theorem dX2_init_6 : decode cX2_init 6 = .ok (.newarray .int, 2) := by decide +kernel
theorem dX2_init_8 : decode cX2_init 8 = .ok (.putfield 9, 3) := by decide +kernel
theorem dX2_init_11 : decode cX2_init 11 = .ok (.aload_n 0, 1) := by decide +kernel
theorem dX2_init_12 : decode cX2_init 12 = .ok (.getfield 9, 3) := by decide +kernel
theorem dX2_init_15 : decode cX2_init 15 = .ok (.iconst 0, 1) := by decide +kernel
theorem dX2_init_16 : decode cX2_init 16 = .ok (.bipush 20, 2) := by decide +kernel
theorem dX2_init_18 : decode cX2_init 18 = .ok (.iastore, 1) := by decide +kernel
theorem dX2_init_19 : decode cX2_init 19 = .ok (.aload_n 0, 1) := by decide +kernel
theorem dX2_init_20 : decode cX2_init 20 = .ok (.getfield 9, 3) := by decide +kernel
theorem dX2_init_23 : decode cX2_init 23 = .ok (.iconst 1, 1) := by decide +kernel
theorem dX2_init_24 : decode cX2_init 24 = .ok (.bipush 30, 2) := by decide +kernel
theorem dX2_init_26 : decode cX2_init 26 = .ok (.iastore, 1) := by decide +kernel
theorem dX2_init_27 : decode cX2_init 27 = .ok (.aload_n 0, 1) := by decide +kernel
theorem dX2_init_28 : decode cX2_init 28 = .ok (.iconst 5, 1) := by decide +kernel
theorem dX2_init_29 : decode cX2_init 29 = .ok (.anewarray 15, 3) := by decide +kernel
theorem dX2_init_32 : decode cX2_init 32 = .ok (.putfield 17, 3) := by decide +kernel
theorem dX2_init_35 : decode cX2_init 35 = .ok (.iconst 0, 1) := by decide +kernel
theorem dX2_init_36 : decode cX2_init 36 = .ok (.istore_n 1, 1) := by decide +kernel
theorem dX2_init_37 : decode cX2_init 37 = .ok (.iload_n 1, 1) := by decide +kernel
theorem dX2_init_38 : decode cX2_init 38 = .ok (.iconst 5, 1) := by decide +kernel
theorem dX2_init_39 : decode cX2_init 39 = .ok (.if_icmp .ge 22, 3) := by decide +kernel
theorem dX2_init_42 : decode cX2_init 42 = .ok (.aload_n 0, 1) := by decide +kernel
theorem dX2_init_43 : decode cX2_init 43 = .ok (.getfield 17, 3) := by decide +kernel
theorem dX2_init_46 : decode cX2_init 46 = .ok (.iload_n 1, 1) := by decide +kernel
theorem dX2_init_47 : decode cX2_init 47 = .ok (.new 15, 3) := by decide +kernel
theorem dX2_init_50 : decode cX2_init 50 = .ok (.dup, 1) := by decide +kernel
theorem dX2_init_51 : decode cX2_init 51 = .ok (.invokespecial 21, 3) := by decide +kernel
theorem dX2_init_54 : decode cX2_init 54 = .ok (.aastore, 1) := by decide +kernel
theorem dX2_init_55 : decode cX2_init 55 = .ok (.iinc 1 1, 3) := by decide +kernel
theorem dX2_init_58 : decode cX2_init 58 = .ok (.goto (-21), 3) := by decide +kernel
theorem dX2_init_61 : decode cX2_init 61 = .ok (.return_, 1) := by decide +kernel
theorem dX2_copyFrom_0 : decode cX2_copyFrom 0 = .ok (.aload_n 1, 1) := by decide +kernel
theorem dX2_copyFrom_1 : decode cX2_copyFrom 1 = .ok (.getfield 9, 3) := by decide +kernel
theorem dX2_copyFrom_4 : decode cX2_copyFrom 4 = .ok (.iconst 0, 1) := by decide +kernel
theorem dX2_copyFrom_5 : decode cX2_copyFrom 5 = .ok (.aload_n 0, 1) := by decide +kernel
theorem dX2_copyFrom_6 : decode cX2_copyFrom 6 = .ok (.getfield 9, 3) := by decide +kernel
theorem dX2_copyFrom_9 : decode cX2_copyFrom 9 = .ok (.iconst 0, 1) := by decide +kernel
theorem dX2_copyFrom_10 : decode cX2_copyFrom 10 = .ok (.iconst 2, 1) := by decide +kernel
theorem dX2_copyFrom_11 : decode cX2_copyFrom 11 = .ok (.invokestatic 22, 3) := by decide +kernel
theorem dX2_copyFrom_14 : decode cX2_copyFrom 14 = .ok (.aload_n 0, 1) := by decide +kernel
theorem dX2_copyFrom_15 : decode cX2_copyFrom 15 = .ok (.aload_n 1, 1) := by decide +kernel
theorem dX2_copyFrom_16 : decode cX2_copyFrom 16 = .ok (.getfield 28, 3) := by decide +kernel
theorem dX2_copyFrom_19 : decode cX2_copyFrom 19 = .ok (.putfield 28, 3) := by decide +kernel
theorem dX2_copyFrom_22 : decode cX2_copyFrom 22 = .ok (.aload_n 0, 1) := by decide +kernel
theorem dX2_copyFrom_23 : decode cX2_copyFrom 23 = .ok (.aload_n 1, 1) := by decide +kernel
theorem dX2_copyFrom_24 : decode cX2_copyFrom 24 = .ok (.getfield 32, 3) := by decide +kernel
theorem dX2_copyFrom_27 : decode cX2_copyFrom 27 = .ok (.putfield 32, 3) := by decide +kernel
theorem dX2_copyFrom_30 : decode cX2_copyFrom 30 = .ok (.aload_n 0, 1) := by decide +kernel
theorem dX2_copyFrom_31 : decode cX2_copyFrom 31 = .ok (.aload_n 1, 1) := by decide +kernel
theorem dX2_copyFrom_32 : decode cX2_copyFrom 32 = .ok (.getfield 35, 3) := by decide +kernel
theorem dX2_copyFrom_35 : decode cX2_copyFrom 35 = .ok (.putfield 35, 3) := by decide +kernel
theorem dX2_copyFrom_38 : decode cX2_copyFrom 38 = .ok (.iconst 0, 1) := by decide +kernel
theorem dX2_copyFrom_39 : decode cX2_copyFrom 39 = .ok (.istore_n 2, 1) := by decide +kernel
theorem dX2_copyFrom_40 : decode cX2_copyFrom 40 = .ok (.iload_n 2, 1) := by decide +kernel
theorem dX2_copyFrom_41 : decode cX2_copyFrom 41 = .ok (.aload_n 0, 1) := by decide +kernel
theorem dX2_copyFrom_42 : decode cX2_copyFrom 42 = .ok (.getfield 28, 3) := by decide +kernel
theorem dX2_copyFrom_45 : decode cX2_copyFrom 45 = .ok (.if_icmp .ge 24, 3) := by decide +kernel
theorem dX2_copyFrom_48 : decode cX2_copyFrom 48 = .ok (.aload_n 0, 1) := by decide +kernel
theorem dX2_copyFrom_49 : decode cX2_copyFrom 49 = .ok (.getfield 17, 3) := by decide +kernel
theorem dX2_copyFrom_52 : decode cX2_copyFrom 52 = .ok (.iload_n 2, 1) := by decide +kernel
theorem dX2_copyFrom_53 : decode cX2_copyFrom 53 = .ok (.aaload, 1) := by decide +kernel
theorem dX2_copyFrom_54 : decode cX2_copyFrom 54 = .ok (.aload_n 1, 1) := by decide +kernel
theorem dX2_copyFrom_55 : decode cX2_copyFrom 55 = .ok (.getfield 17, 3) := by decide +kernel
theorem dX2_copyFrom_58 : decode cX2_copyFrom 58 = .ok (.iload_n 2, 1) := by decide +kernel
theorem dX2_copyFrom_59 : decode cX2_copyFrom 59 = .ok (.aaload, 1) := by decide +kernel
theorem dX2_copyFrom_60 : decode cX2_copyFrom 60 = .ok (.invokevirtual 38, 3) := by decide +kernel
theorem dX2_copyFrom_63 : decode cX2_copyFrom 63 = .ok (.iinc 2 1, 3) := by decide +kernel
theorem dX2_copyFrom_66 : decode cX2_copyFrom 66 = .ok (.goto (-26), 3) := by decide +kernel
theorem dX2_copyFrom_69 : decode cX2_copyFrom 69 = .ok (.return_, 1) := by decide +kernel
theorem dX2_hikes_0 : decode cX2_hikes 0 = .ok (.iconst 0, 1) := by decide +kernel
theorem dX2_hikes_1 : decode cX2_hikes 1 = .ok (.istore_n 1, 1) := by decide +kernel
theorem dX2_hikes_2 : decode cX2_hikes 2 = .ok (.iconst 0, 1) := by decide +kernel
theorem dX2_hikes_3 : decode cX2_hikes 3 = .ok (.istore_n 2, 1) := by decide +kernel
theorem dX2_hikes_4 : decode cX2_hikes 4 = .ok (.iload_n 2, 1) := by decide +kernel
theorem dX2_hikes_5 : decode cX2_hikes 5 = .ok (.aload_n 0, 1) := by decide +kernel
theorem dX2_hikes_6 : decode cX2_hikes 6 = .ok (.getfield 28, 3) := by decide +kernel
theorem dX2_hikes_9 : decode cX2_hikes 9 = .ok (.if_icmp .ge 21, 3) := by decide +kernel
theorem dX2_hikes_12 : decode cX2_hikes 12 = .ok (.iload_n 1, 1) := by decide +kernel
theorem dX2_hikes_13 : decode cX2_hikes 13 = .ok (.aload_n 0, 1) := by decide +kernel
theorem dX2_hikes_14 : decode cX2_hikes 14 = .ok (.getfield 17, 3) := by decide +kernel
theorem dX2_hikes_17 : decode cX2_hikes 17 = .ok (.iload_n 2, 1) := by decide +kernel
theorem dX2_hikes_18 : decode cX2_hikes 18 = .ok (.aaload, 1) := by decide +kernel
theorem dX2_hikes_19 : decode cX2_hikes 19 = .ok (.getfield 42, 3) := by decide +kernel
theorem dX2_hikes_22 : decode cX2_hikes 22 = .ok (.iadd, 1) := by decide +kernel
theorem dX2_hikes_23 : decode cX2_hikes 23 = .ok (.istore_n 1, 1) := by decide +kernel
theorem dX2_hikes_24 : decode cX2_hikes 24 = .ok (.iinc 2 1, 3) := by decide +kernel
theorem dX2_hikes_27 : decode cX2_hikes 27 = .ok (.goto (-23), 3) := by decide +kernel
theorem dX2_hikes_30 : decode cX2_hikes 30 = .ok (.iload_n 1, 1) := by decide +kernel
theorem dX2_hikes_31 : decode cX2_hikes 31 = .ok (.ireturn, 1) := by decide +kernel
theorem dX2_scoutsOnHikes_0 : decode cX2_scoutsOnHikes 0 = .ok (.iconst 0, 1) := by decide +kernel
theorem dX2_scoutsOnHikes_1 : decode cX2_scoutsOnHikes 1 = .ok (.istore_n 1, 1) := by decide +kernel
theorem dX2_scoutsOnHikes_2 : decode cX2_scoutsOnHikes 2 = .ok (.iconst 0, 1) := by decide +kernel
theorem dX2_scoutsOnHikes_3 : decode cX2_scoutsOnHikes 3 = .ok (.istore_n 2, 1) := by decide +kernel
theorem dX2_scoutsOnHikes_4 : decode cX2_scoutsOnHikes 4 = .ok (.iload_n 2, 1) := by decide +kernel
theorem dX2_scoutsOnHikes_5 : decode cX2_scoutsOnHikes 5 = .ok (.aload_n 0, 1) := by decide +kernel
theorem dX2_scoutsOnHikes_6 : decode cX2_scoutsOnHikes 6 = .ok (.getfield 28, 3) := by decide +kernel
theorem dX2_scoutsOnHikes_9 : decode cX2_scoutsOnHikes 9 = .ok (.if_icmp .ge 24, 3) := by decide +kernel
theorem dX2_scoutsOnHikes_12 : decode cX2_scoutsOnHikes 12 = .ok (.iload_n 1, 1) := by decide +kernel
theorem dX2_scoutsOnHikes_13 : decode cX2_scoutsOnHikes 13 = .ok (.aload_n 0, 1) := by decide +kernel
theorem dX2_scoutsOnHikes_14 : decode cX2_scoutsOnHikes 14 = .ok (.getfield 17, 3) := by decide +kernel
theorem dX2_scoutsOnHikes_17 : decode cX2_scoutsOnHikes 17 = .ok (.iload_n 2, 1) := by decide +kernel
theorem dX2_scoutsOnHikes_18 : decode cX2_scoutsOnHikes 18 = .ok (.aaload, 1) := by decide +kernel
theorem dX2_scoutsOnHikes_19 : decode cX2_scoutsOnHikes 19 = .ok (.getfield 45, 3) := by decide +kernel
theorem dX2_scoutsOnHikes_22 : decode cX2_scoutsOnHikes 22 = .ok (.invokestatic 48, 3) := by decide +kernel
theorem dX2_scoutsOnHikes_25 : decode cX2_scoutsOnHikes 25 = .ok (.iadd, 1) := by decide +kernel
theorem dX2_scoutsOnHikes_26 : decode cX2_scoutsOnHikes 26 = .ok (.istore_n 1, 1) := by decide +kernel
theorem dX2_scoutsOnHikes_27 : decode cX2_scoutsOnHikes 27 = .ok (.iinc 2 1, 3) := by decide +kernel
theorem dX2_scoutsOnHikes_30 : decode cX2_scoutsOnHikes 30 = .ok (.goto (-26), 3) := by decide +kernel
theorem dX2_scoutsOnHikes_33 : decode cX2_scoutsOnHikes 33 = .ok (.iload_n 1, 1) := by decide +kernel
theorem dX2_scoutsOnHikes_34 : decode cX2_scoutsOnHikes 34 = .ok (.ireturn, 1) := by decide +kernel
theorem dX2_scoutsLost_0 : decode cX2_scoutsLost 0 = .ok (.iconst 0, 1) := by decide +kernel
theorem dX2_scoutsLost_1 : decode cX2_scoutsLost 1 = .ok (.istore_n 1, 1) := by decide +kernel
theorem dX2_scoutsLost_2 : decode cX2_scoutsLost 2 = .ok (.iconst 0, 1) := by decide +kernel
theorem dX2_scoutsLost_3 : decode cX2_scoutsLost 3 = .ok (.istore_n 2, 1) := by decide +kernel
theorem dX2_scoutsLost_4 : decode cX2_scoutsLost 4 = .ok (.iload_n 2, 1) := by decide +kernel
theorem dX2_scoutsLost_5 : decode cX2_scoutsLost 5 = .ok (.aload_n 0, 1) := by decide +kernel
theorem dX2_scoutsLost_6 : decode cX2_scoutsLost 6 = .ok (.getfield 28, 3) := by decide +kernel
theorem dX2_scoutsLost_9 : decode cX2_scoutsLost 9 = .ok (.if_icmp .ge 24, 3) := by decide +kernel
theorem dX2_scoutsLost_12 : decode cX2_scoutsLost 12 = .ok (.iload_n 1, 1) := by decide +kernel
theorem dX2_scoutsLost_13 : decode cX2_scoutsLost 13 = .ok (.aload_n 0, 1) := by decide +kernel
theorem dX2_scoutsLost_14 : decode cX2_scoutsLost 14 = .ok (.getfield 17, 3) := by decide +kernel
theorem dX2_scoutsLost_17 : decode cX2_scoutsLost 17 = .ok (.iload_n 2, 1) := by decide +kernel
theorem dX2_scoutsLost_18 : decode cX2_scoutsLost 18 = .ok (.aaload, 1) := by decide +kernel
theorem dX2_scoutsLost_19 : decode cX2_scoutsLost 19 = .ok (.getfield 54, 3) := by decide +kernel
theorem dX2_scoutsLost_22 : decode cX2_scoutsLost 22 = .ok (.invokestatic 48, 3) := by decide +kernel
theorem dX2_scoutsLost_25 : decode cX2_scoutsLost 25 = .ok (.iadd, 1) := by decide +kernel
theorem dX2_scoutsLost_26 : decode cX2_scoutsLost 26 = .ok (.istore_n 1, 1) := by decide +kernel
theorem dX2_scoutsLost_27 : decode cX2_scoutsLost 27 = .ok (.iinc 2 1, 3) := by decide +kernel
theorem dX2_scoutsLost_30 : decode cX2_scoutsLost 30 = .ok (.goto (-26), 3) := by decide +kernel
theorem dX2_scoutsLost_33 : decode cX2_scoutsLost 33 = .ok (.iload_n 1, 1) := by decide +kernel
theorem dX2_scoutsLost_34 : decode cX2_scoutsLost 34 = .ok (.ireturn, 1) := by decide +kernel
theorem dX3_init_0 : decode cX3_init 0 = .ok (.aload_n 0, 1) := by decide +kernel
theorem dX3_init_1 : decode cX3_init 1 = .ok (.invokespecial 3, 3) := by decide +kernel
theorem dX3_init_4 : decode cX3_init 4 = .ok (.aload_n 0, 1) := by decide +kernel
theorem dX3_init_5 : decode cX3_init 5 = .ok (.bipush 16, 2) := by decide +kernel
theorem dX3_init_7 : decode cX3_init 7 = .ok (.newarray .int, 2) := by decide +kernel
theorem dX3_init_9 : decode cX3_init 9 = .ok (.putfield 9, 3) := by decide +kernel
theorem dX3_init_12 : decode cX3_init 12 = .ok (.aload_n 0, 1) := by decide +kernel
theorem dX3_init_13 : decode cX3_init 13 = .ok (.bipush 16, 2) := by decide +kernel
theorem dX3_init_15 : decode cX3_init 15 = .ok (.newarray .int, 2) := by decide +kernel
theorem dX3_init_17 : decode cX3_init 17 = .ok (.putfield 15, 3) := by decide +kernel
theorem dX3_init_20 : decode cX3_init 20 = .ok (.return_, 1) := by decide +kernel
theorem dX3_begin_0 : decode cX3_begin 0 = .ok (.aload_n 0, 1) := by decide +kernel
theorem dX3_begin_1 : decode cX3_begin 1 = .ok (.iload_n 1, 1) := by decide +kernel
theorem dX3_begin_2 : decode cX3_begin 2 = .ok (.putfield 18, 3) := by decide +kernel
theorem dX3_begin_5 : decode cX3_begin 5 = .ok (.aload_n 0, 1) := by decide +kernel
theorem dX3_begin_6 : decode cX3_begin 6 = .ok (.iload_n 1, 1) := by decide +kernel
theorem dX3_begin_7 : decode cX3_begin 7 = .ok (.putfield 22, 3) := by decide +kernel
theorem dX3_begin_10 : decode cX3_begin 10 = .ok (.aload_n 0, 1) := by decide +kernel
theorem dX3_begin_11 : decode cX3_begin 11 = .ok (.iconst 0, 1) := by decide +kernel
theorem dX3_begin_12 : decode cX3_begin 12 = .ok (.putfield 25, 3) := by decide +kernel
theorem dX3_begin_15 : decode cX3_begin 15 = .ok (.aload_n 0, 1) := by decide +kernel
theorem dX3_begin_16 : decode cX3_begin 16 = .ok (.iconst 0, 1) := by decide +kernel
theorem dX3_begin_17 : decode cX3_begin 17 = .ok (.putfield 28, 3) := by decide +kernel
theorem dX3_begin_20 : decode cX3_begin 20 = .ok (.aload_n 0, 1) := by decide +kernel
theorem dX3_begin_21 : decode cX3_begin 21 = .ok (.iconst 0, 1) := by decide +kernel
theorem dX3_begin_22 : decode cX3_begin 22 = .ok (.putfield 31, 3) := by decide +kernel
theorem dX3_begin_25 : decode cX3_begin 25 = .ok (.aload_n 0, 1) := by decide +kernel
theorem dX3_begin_26 : decode cX3_begin 26 = .ok (.iconst 0, 1) := by decide +kernel
theorem dX3_begin_27 : decode cX3_begin 27 = .ok (.putfield 34, 3) := by decide +kernel
theorem dX3_begin_30 : decode cX3_begin 30 = .ok (.aload_n 0, 1) := by decide +kernel
theorem dX3_begin_31 : decode cX3_begin 31 = .ok (.iconst 0, 1) := by decide +kernel
theorem dX3_begin_32 : decode cX3_begin 32 = .ok (.putfield 37, 3) := by decide +kernel
theorem dX3_begin_35 : decode cX3_begin 35 = .ok (.aload_n 0, 1) := by decide +kernel
theorem dX3_begin_36 : decode cX3_begin 36 = .ok (.iconst 0, 1) := by decide +kernel
theorem dX3_begin_37 : decode cX3_begin 37 = .ok (.putfield 40, 3) := by decide +kernel
theorem dX3_begin_40 : decode cX3_begin 40 = .ok (.aload_n 0, 1) := by decide +kernel
theorem dX3_begin_41 : decode cX3_begin 41 = .ok (.iconst 0, 1) := by decide +kernel
theorem dX3_begin_42 : decode cX3_begin 42 = .ok (.putfield 43, 3) := by decide +kernel
theorem dX3_begin_45 : decode cX3_begin 45 = .ok (.aload_n 0, 1) := by decide +kernel
theorem dX3_begin_46 : decode cX3_begin 46 = .ok (.iconst 0, 1) := by decide +kernel
theorem dX3_begin_47 : decode cX3_begin 47 = .ok (.putfield 46, 3) := by decide +kernel
theorem dX3_begin_50 : decode cX3_begin 50 = .ok (.iconst 0, 1) := by decide +kernel
theorem dX3_begin_51 : decode cX3_begin 51 = .ok (.istore_n 2, 1) := by decide +kernel
theorem dX3_begin_52 : decode cX3_begin 52 = .ok (.iload_n 2, 1) := by decide +kernel
theorem dX3_begin_53 : decode cX3_begin 53 = .ok (.bipush 16, 2) := by decide +kernel
theorem dX3_begin_55 : decode cX3_begin 55 = .ok (.if_icmp .ge 23, 3) := by decide +kernel
theorem dX3_begin_58 : decode cX3_begin 58 = .ok (.aload_n 0, 1) := by decide +kernel
theorem dX3_begin_59 : decode cX3_begin 59 = .ok (.getfield 9, 3) := by decide +kernel
theorem dX3_begin_62 : decode cX3_begin 62 = .ok (.iload_n 2, 1) := by decide +kernel
theorem dX3_begin_63 : decode cX3_begin 63 = .ok (.iconst 0, 1) := by decide +kernel
theorem dX3_begin_64 : decode cX3_begin 64 = .ok (.iastore, 1) := by decide +kernel
theorem dX3_begin_65 : decode cX3_begin 65 = .ok (.aload_n 0, 1) := by decide +kernel
theorem dX3_begin_66 : decode cX3_begin 66 = .ok (.getfield 15, 3) := by decide +kernel
theorem dX3_begin_69 : decode cX3_begin 69 = .ok (.iload_n 2, 1) := by decide +kernel
theorem dX3_begin_70 : decode cX3_begin 70 = .ok (.iconst 0, 1) := by decide +kernel
theorem dX3_begin_71 : decode cX3_begin 71 = .ok (.iastore, 1) := by decide +kernel
theorem dX3_begin_72 : decode cX3_begin 72 = .ok (.iinc 2 1, 3) := by decide +kernel
theorem dX3_begin_75 : decode cX3_begin 75 = .ok (.goto (-23), 3) := by decide +kernel
theorem dX3_begin_78 : decode cX3_begin 78 = .ok (.return_, 1) := by decide +kernel
theorem dX3_copyFrom_0 : decode cX3_copyFrom 0 = .ok (.aload_n 0, 1) := by decide +kernel
theorem dX3_copyFrom_1 : decode cX3_copyFrom 1 = .ok (.aload_n 1, 1) := by decide +kernel
theorem dX3_copyFrom_2 : decode cX3_copyFrom 2 = .ok (.getfield 18, 3) := by decide +kernel
theorem dX3_copyFrom_5 : decode cX3_copyFrom 5 = .ok (.putfield 18, 3) := by decide +kernel
theorem dX3_copyFrom_8 : decode cX3_copyFrom 8 = .ok (.aload_n 0, 1) := by decide +kernel
theorem dX3_copyFrom_9 : decode cX3_copyFrom 9 = .ok (.aload_n 1, 1) := by decide +kernel
theorem dX3_copyFrom_10 : decode cX3_copyFrom 10 = .ok (.getfield 22, 3) := by decide +kernel
theorem dX3_copyFrom_13 : decode cX3_copyFrom 13 = .ok (.putfield 22, 3) := by decide +kernel
theorem dX3_copyFrom_16 : decode cX3_copyFrom 16 = .ok (.aload_n 0, 1) := by decide +kernel
theorem dX3_copyFrom_17 : decode cX3_copyFrom 17 = .ok (.aload_n 1, 1) := by decide +kernel
theorem dX3_copyFrom_18 : decode cX3_copyFrom 18 = .ok (.getfield 25, 3) := by decide +kernel
theorem dX3_copyFrom_21 : decode cX3_copyFrom 21 = .ok (.putfield 25, 3) := by decide +kernel
theorem dX3_copyFrom_24 : decode cX3_copyFrom 24 = .ok (.aload_n 0, 1) := by decide +kernel
theorem dX3_copyFrom_25 : decode cX3_copyFrom 25 = .ok (.aload_n 1, 1) := by decide +kernel
theorem dX3_copyFrom_26 : decode cX3_copyFrom 26 = .ok (.getfield 28, 3) := by decide +kernel
theorem dX3_copyFrom_29 : decode cX3_copyFrom 29 = .ok (.putfield 28, 3) := by decide +kernel
theorem dX3_copyFrom_32 : decode cX3_copyFrom 32 = .ok (.aload_n 0, 1) := by decide +kernel
theorem dX3_copyFrom_33 : decode cX3_copyFrom 33 = .ok (.aload_n 1, 1) := by decide +kernel
theorem dX3_copyFrom_34 : decode cX3_copyFrom 34 = .ok (.getfield 31, 3) := by decide +kernel
theorem dX3_copyFrom_37 : decode cX3_copyFrom 37 = .ok (.putfield 31, 3) := by decide +kernel
theorem dX3_copyFrom_40 : decode cX3_copyFrom 40 = .ok (.aload_n 0, 1) := by decide +kernel
theorem dX3_copyFrom_41 : decode cX3_copyFrom 41 = .ok (.aload_n 1, 1) := by decide +kernel
theorem dX3_copyFrom_42 : decode cX3_copyFrom 42 = .ok (.getfield 34, 3) := by decide +kernel
theorem dX3_copyFrom_45 : decode cX3_copyFrom 45 = .ok (.putfield 34, 3) := by decide +kernel
theorem dX3_copyFrom_48 : decode cX3_copyFrom 48 = .ok (.aload_n 0, 1) := by decide +kernel
theorem dX3_copyFrom_49 : decode cX3_copyFrom 49 = .ok (.aload_n 1, 1) := by decide +kernel
theorem dX3_copyFrom_50 : decode cX3_copyFrom 50 = .ok (.getfield 37, 3) := by decide +kernel
theorem dX3_copyFrom_53 : decode cX3_copyFrom 53 = .ok (.putfield 37, 3) := by decide +kernel
theorem dX3_copyFrom_56 : decode cX3_copyFrom 56 = .ok (.aload_n 0, 1) := by decide +kernel
theorem dX3_copyFrom_57 : decode cX3_copyFrom 57 = .ok (.aload_n 1, 1) := by decide +kernel
theorem dX3_copyFrom_58 : decode cX3_copyFrom 58 = .ok (.getfield 40, 3) := by decide +kernel
theorem dX3_copyFrom_61 : decode cX3_copyFrom 61 = .ok (.putfield 40, 3) := by decide +kernel
theorem dX3_copyFrom_64 : decode cX3_copyFrom 64 = .ok (.aload_n 0, 1) := by decide +kernel
theorem dX3_copyFrom_65 : decode cX3_copyFrom 65 = .ok (.aload_n 1, 1) := by decide +kernel
theorem dX3_copyFrom_66 : decode cX3_copyFrom 66 = .ok (.getfield 43, 3) := by decide +kernel
theorem dX3_copyFrom_69 : decode cX3_copyFrom 69 = .ok (.putfield 43, 3) := by decide +kernel
theorem dX3_copyFrom_72 : decode cX3_copyFrom 72 = .ok (.aload_n 0, 1) := by decide +kernel
theorem dX3_copyFrom_73 : decode cX3_copyFrom 73 = .ok (.aload_n 1, 1) := by decide +kernel
theorem dX3_copyFrom_74 : decode cX3_copyFrom 74 = .ok (.getfield 46, 3) := by decide +kernel
theorem dX3_copyFrom_77 : decode cX3_copyFrom 77 = .ok (.putfield 46, 3) := by decide +kernel
theorem dX3_copyFrom_80 : decode cX3_copyFrom 80 = .ok (.aload_n 1, 1) := by decide +kernel
theorem dX3_copyFrom_81 : decode cX3_copyFrom 81 = .ok (.getfield 9, 3) := by decide +kernel
theorem dX3_copyFrom_84 : decode cX3_copyFrom 84 = .ok (.iconst 0, 1) := by decide +kernel
theorem dX3_copyFrom_85 : decode cX3_copyFrom 85 = .ok (.aload_n 0, 1) := by decide +kernel
theorem dX3_copyFrom_86 : decode cX3_copyFrom 86 = .ok (.getfield 9, 3) := by decide +kernel
theorem dX3_copyFrom_89 : decode cX3_copyFrom 89 = .ok (.iconst 0, 1) := by decide +kernel
theorem dX3_copyFrom_90 : decode cX3_copyFrom 90 = .ok (.bipush 16, 2) := by decide +kernel
theorem dX3_copyFrom_92 : decode cX3_copyFrom 92 = .ok (.invokestatic 49, 3) := by decide +kernel
theorem dX3_copyFrom_95 : decode cX3_copyFrom 95 = .ok (.aload_n 1, 1) := by decide +kernel
theorem dX3_copyFrom_96 : decode cX3_copyFrom 96 = .ok (.getfield 15, 3) := by decide +kernel
theorem dX3_copyFrom_99 : decode cX3_copyFrom 99 = .ok (.iconst 0, 1) := by decide +kernel
theorem dX3_copyFrom_100 : decode cX3_copyFrom 100 = .ok (.aload_n 0, 1) := by decide +kernel
theorem dX3_copyFrom_101 : decode cX3_copyFrom 101 = .ok (.getfield 15, 3) := by decide +kernel
theorem dX3_copyFrom_104 : decode cX3_copyFrom 104 = .ok (.iconst 0, 1) := by decide +kernel
theorem dX3_copyFrom_105 : decode cX3_copyFrom 105 = .ok (.bipush 16, 2) := by decide +kernel
theorem dX3_copyFrom_107 : decode cX3_copyFrom 107 = .ok (.invokestatic 49, 3) := by decide +kernel
theorem dX3_copyFrom_110 : decode cX3_copyFrom 110 = .ok (.return_, 1) := by decide +kernel
theorem dX3_hasScout_0 : decode cX3_hasScout 0 = .ok (.iload_n 1, 1) := by decide +kernel
theorem dX3_hasScout_1 : decode cX3_hasScout 1 = .ok (.ifCond .lt 15, 3) := by decide +kernel
theorem dX3_hasScout_4 : decode cX3_hasScout 4 = .ok (.iload_n 1, 1) := by decide +kernel
theorem dX3_hasScout_5 : decode cX3_hasScout 5 = .ok (.aload_n 0, 1) := by decide +kernel
theorem dX3_hasScout_6 : decode cX3_hasScout 6 = .ok (.getfield 18, 3) := by decide +kernel
theorem dX3_hasScout_9 : decode cX3_hasScout 9 = .ok (.if_icmp .ge 7, 3) := by decide +kernel
theorem dX3_hasScout_12 : decode cX3_hasScout 12 = .ok (.iconst 1, 1) := by decide +kernel
theorem dX3_hasScout_13 : decode cX3_hasScout 13 = .ok (.goto 4, 3) := by decide +kernel
theorem dX3_hasScout_16 : decode cX3_hasScout 16 = .ok (.iconst 0, 1) := by decide +kernel
theorem dX3_hasScout_17 : decode cX3_hasScout 17 = .ok (.ireturn, 1) := by decide +kernel
theorem dX3_knows_0 : decode cX3_knows 0 = .ok (.aload_n 0, 1) := by decide +kernel
theorem dX3_knows_1 : decode cX3_knows 1 = .ok (.iload_n 1, 1) := by decide +kernel
theorem dX3_knows_2 : decode cX3_knows 2 = .ok (.invokevirtual 55, 3) := by decide +kernel
theorem dX3_knows_5 : decode cX3_knows 5 = .ok (.ifCond .ne 24, 3) := by decide +kernel
theorem dX3_knows_8 : decode cX3_knows 8 = .ok (.iload_n 1, 1) := by decide +kernel
theorem dX3_knows_9 : decode cX3_knows 9 = .ok (.ifCond .lt 24, 3) := by decide +kernel
theorem dX3_knows_12 : decode cX3_knows 12 = .ok (.iload_n 1, 1) := by decide +kernel
theorem dX3_knows_13 : decode cX3_knows 13 = .ok (.bipush 16, 2) := by decide +kernel
theorem dX3_knows_15 : decode cX3_knows 15 = .ok (.if_icmp .ge 18, 3) := by decide +kernel
theorem dX3_knows_18 : decode cX3_knows 18 = .ok (.aload_n 0, 1) := by decide +kernel
theorem dX3_knows_19 : decode cX3_knows 19 = .ok (.getfield 34, 3) := by decide +kernel
theorem dX3_knows_22 : decode cX3_knows 22 = .ok (.iload_n 1, 1) := by decide +kernel
theorem dX3_knows_23 : decode cX3_knows 23 = .ok (.invokestatic 59, 3) := by decide +kernel
theorem dX3_knows_26 : decode cX3_knows 26 = .ok (.ifCond .eq 7, 3) := by decide +kernel
theorem dX3_knows_29 : decode cX3_knows 29 = .ok (.iconst 1, 1) := by decide +kernel
theorem dX3_knows_30 : decode cX3_knows 30 = .ok (.goto 4, 3) := by decide +kernel
theorem dX3_knows_33 : decode cX3_knows 33 = .ok (.iconst 0, 1) := by decide +kernel
theorem dX3_knows_34 : decode cX3_knows 34 = .ok (.ireturn, 1) := by decide +kernel
theorem dX3_canCome_0 : decode cX3_canCome 0 = .ok (.aload_n 0, 1) := by decide +kernel
theorem dX3_canCome_1 : decode cX3_canCome 1 = .ok (.iload_n 1, 1) := by decide +kernel
theorem dX3_canCome_2 : decode cX3_canCome 2 = .ok (.invokevirtual 55, 3) := by decide +kernel
theorem dX3_canCome_5 : decode cX3_canCome 5 = .ok (.ifCond .eq 28, 3) := by decide +kernel
theorem dX3_canCome_8 : decode cX3_canCome 8 = .ok (.aload_n 0, 1) := by decide +kernel
theorem dX3_canCome_9 : decode cX3_canCome 9 = .ok (.getfield 28, 3) := by decide +kernel
theorem dX3_canCome_12 : decode cX3_canCome 12 = .ok (.aload_n 0, 1) := by decide +kernel
theorem dX3_canCome_13 : decode cX3_canCome 13 = .ok (.getfield 31, 3) := by decide +kernel
theorem dX3_canCome_16 : decode cX3_canCome 16 = .ok (.ior, 1) := by decide +kernel
theorem dX3_canCome_17 : decode cX3_canCome 17 = .ok (.aload_n 0, 1) := by decide +kernel
theorem dX3_canCome_18 : decode cX3_canCome 18 = .ok (.getfield 34, 3) := by decide +kernel
theorem dX3_canCome_21 : decode cX3_canCome 21 = .ok (.ior, 1) := by decide +kernel
theorem dX3_canCome_22 : decode cX3_canCome 22 = .ok (.iload_n 1, 1) := by decide +kernel
theorem dX3_canCome_23 : decode cX3_canCome 23 = .ok (.invokestatic 59, 3) := by decide +kernel
theorem dX3_canCome_26 : decode cX3_canCome 26 = .ok (.ifCond .ne 7, 3) := by decide +kernel
theorem dX3_canCome_29 : decode cX3_canCome 29 = .ok (.iconst 1, 1) := by decide +kernel
theorem dX3_canCome_30 : decode cX3_canCome 30 = .ok (.goto 4, 3) := by decide +kernel
theorem dX3_canCome_33 : decode cX3_canCome 33 = .ok (.iconst 0, 1) := by decide +kernel
theorem dX3_canCome_34 : decode cX3_canCome 34 = .ok (.ireturn, 1) := by decide +kernel
theorem dX3_howIs_0 : decode cX3_howIs 0 = .ok (.aload_n 0, 1) := by decide +kernel
theorem dX3_howIs_1 : decode cX3_howIs 1 = .ok (.getfield 28, 3) := by decide +kernel
theorem dX3_howIs_4 : decode cX3_howIs 4 = .ok (.iload_n 1, 1) := by decide +kernel
theorem dX3_howIs_5 : decode cX3_howIs 5 = .ok (.invokestatic 59, 3) := by decide +kernel
theorem dX3_howIs_8 : decode cX3_howIs 8 = .ok (.ifCond .eq 5, 3) := by decide +kernel
theorem dX3_howIs_11 : decode cX3_howIs 11 = .ok (.iconst 1, 1) := by decide +kernel
theorem dX3_howIs_12 : decode cX3_howIs 12 = .ok (.ireturn, 1) := by decide +kernel
theorem dX3_howIs_13 : decode cX3_howIs 13 = .ok (.aload_n 0, 1) := by decide +kernel
theorem dX3_howIs_14 : decode cX3_howIs 14 = .ok (.getfield 31, 3) := by decide +kernel
theorem dX3_howIs_17 : decode cX3_howIs 17 = .ok (.iload_n 1, 1) := by decide +kernel
theorem dX3_howIs_18 : decode cX3_howIs 18 = .ok (.invokestatic 59, 3) := by decide +kernel
theorem dX3_howIs_21 : decode cX3_howIs 21 = .ok (.ifCond .eq 5, 3) := by decide +kernel
theorem dX3_howIs_24 : decode cX3_howIs 24 = .ok (.iconst 2, 1) := by decide +kernel
theorem dX3_howIs_25 : decode cX3_howIs 25 = .ok (.ireturn, 1) := by decide +kernel
theorem dX3_howIs_26 : decode cX3_howIs 26 = .ok (.aload_n 0, 1) := by decide +kernel
theorem dX3_howIs_27 : decode cX3_howIs 27 = .ok (.getfield 34, 3) := by decide +kernel
theorem dX3_howIs_30 : decode cX3_howIs 30 = .ok (.iload_n 1, 1) := by decide +kernel
theorem dX3_howIs_31 : decode cX3_howIs 31 = .ok (.invokestatic 59, 3) := by decide +kernel
theorem dX3_howIs_34 : decode cX3_howIs 34 = .ok (.ifCond .eq 5, 3) := by decide +kernel
theorem dX3_howIs_37 : decode cX3_howIs 37 = .ok (.iconst 3, 1) := by decide +kernel
theorem dX3_howIs_38 : decode cX3_howIs 38 = .ok (.ireturn, 1) := by decide +kernel
theorem dX3_howIs_39 : decode cX3_howIs 39 = .ok (.aload_n 0, 1) := by decide +kernel
theorem dX3_howIs_40 : decode cX3_howIs 40 = .ok (.getfield 37, 3) := by decide +kernel
theorem dX3_howIs_43 : decode cX3_howIs 43 = .ok (.iload_n 1, 1) := by decide +kernel
theorem dX3_howIs_44 : decode cX3_howIs 44 = .ok (.invokestatic 59, 3) := by decide +kernel
theorem dX3_howIs_47 : decode cX3_howIs 47 = .ok (.ifCond .eq 7, 3) := by decide +kernel
theorem dX3_howIs_50 : decode cX3_howIs 50 = .ok (.iconst 4, 1) := by decide +kernel
theorem dX3_howIs_51 : decode cX3_howIs 51 = .ok (.goto 4, 3) := by decide +kernel
theorem dX3_howIs_54 : decode cX3_howIs 54 = .ok (.iconst 0, 1) := by decide +kernel
theorem dX3_howIs_55 : decode cX3_howIs 55 = .ok (.ireturn, 1) := by decide +kernel
theorem dX3_everyone_0 : decode cX3_everyone 0 = .ok (.iconst 1, 1) := by decide +kernel
theorem dX3_everyone_1 : decode cX3_everyone 1 = .ok (.aload_n 0, 1) := by decide +kernel
theorem dX3_everyone_2 : decode cX3_everyone 2 = .ok (.getfield 18, 3) := by decide +kernel
theorem dX3_everyone_5 : decode cX3_everyone 5 = .ok (.ishl, 1) := by decide +kernel
theorem dX3_everyone_6 : decode cX3_everyone 6 = .ok (.iconst 1, 1) := by decide +kernel
theorem dX3_everyone_7 : decode cX3_everyone 7 = .ok (.isub, 1) := by decide +kernel
theorem dX3_everyone_8 : decode cX3_everyone 8 = .ok (.ireturn, 1) := by decide +kernel
theorem dX3_atHome_0 : decode cX3_atHome 0 = .ok (.aload_n 0, 1) := by decide +kernel
theorem dX3_atHome_1 : decode cX3_atHome 1 = .ok (.invokevirtual 63, 3) := by decide +kernel
theorem dX3_atHome_4 : decode cX3_atHome 4 = .ok (.aload_n 0, 1) := by decide +kernel
theorem dX3_atHome_5 : decode cX3_atHome 5 = .ok (.getfield 28, 3) := by decide +kernel
theorem dX3_atHome_8 : decode cX3_atHome 8 = .ok (.aload_n 0, 1) := by decide +kernel
theorem dX3_atHome_9 : decode cX3_atHome 9 = .ok (.getfield 31, 3) := by decide +kernel
theorem dX3_atHome_12 : decode cX3_atHome 12 = .ok (.ior, 1) := by decide +kernel
theorem dX3_atHome_13 : decode cX3_atHome 13 = .ok (.aload_n 0, 1) := by decide +kernel
theorem dX3_atHome_14 : decode cX3_atHome 14 = .ok (.getfield 34, 3) := by decide +kernel
theorem dX3_atHome_17 : decode cX3_atHome 17 = .ok (.ior, 1) := by decide +kernel
theorem dX3_atHome_18 : decode cX3_atHome 18 = .ok (.aload_n 0, 1) := by decide +kernel
theorem dX3_atHome_19 : decode cX3_atHome 19 = .ok (.getfield 37, 3) := by decide +kernel
theorem dX3_atHome_22 : decode cX3_atHome 22 = .ok (.ior, 1) := by decide +kernel
theorem dX3_atHome_23 : decode cX3_atHome 23 = .ok (.iconst (-1), 1) := by decide +kernel
theorem dX3_atHome_24 : decode cX3_atHome 24 = .ok (.ixor, 1) := by decide +kernel
theorem dX3_atHome_25 : decode cX3_atHome 25 = .ok (.iand, 1) := by decide +kernel
theorem dX3_atHome_26 : decode cX3_atHome 26 = .ok (.ireturn, 1) := by decide +kernel
theorem dX3_waitedFor_0 : decode cX3_waitedFor 0 = .ok (.aload_n 0, 1) := by decide +kernel
theorem dX3_waitedFor_1 : decode cX3_waitedFor 1 = .ok (.invokevirtual 63, 3) := by decide +kernel
theorem dX3_waitedFor_4 : decode cX3_waitedFor 4 = .ok (.aload_n 0, 1) := by decide +kernel
theorem dX3_waitedFor_5 : decode cX3_waitedFor 5 = .ok (.getfield 28, 3) := by decide +kernel
theorem dX3_waitedFor_8 : decode cX3_waitedFor 8 = .ok (.aload_n 0, 1) := by decide +kernel
theorem dX3_waitedFor_9 : decode cX3_waitedFor 9 = .ok (.getfield 40, 3) := by decide +kernel
theorem dX3_waitedFor_12 : decode cX3_waitedFor 12 = .ok (.ior, 1) := by decide +kernel
theorem dX3_waitedFor_13 : decode cX3_waitedFor 13 = .ok (.iconst (-1), 1) := by decide +kernel
theorem dX3_waitedFor_14 : decode cX3_waitedFor 14 = .ok (.ixor, 1) := by decide +kernel
theorem dX3_waitedFor_15 : decode cX3_waitedFor 15 = .ok (.iand, 1) := by decide +kernel
theorem dX3_waitedFor_16 : decode cX3_waitedFor 16 = .ok (.ireturn, 1) := by decide +kernel
theorem dX3_countDown_0 : decode cX3_countDown 0 = .ok (.aload_n 0, 1) := by decide +kernel
theorem dX3_countDown_1 : decode cX3_countDown 1 = .ok (.invokevirtual 67, 3) := by decide +kernel
theorem dX3_countDown_4 : decode cX3_countDown 4 = .ok (.invokestatic 70, 3) := by decide +kernel
theorem dX3_countDown_7 : decode cX3_countDown 7 = .ok (.ireturn, 1) := by decide +kernel
theorem dX3_takeIn_0 : decode cX3_takeIn 0 = .ok (.aload_n 0, 1) := by decide +kernel
theorem dX3_takeIn_1 : decode cX3_takeIn 1 = .ok (.iload_n 1, 1) := by decide +kernel
theorem dX3_takeIn_2 : decode cX3_takeIn 2 = .ok (.invokevirtual 76, 3) := by decide +kernel
theorem dX3_takeIn_5 : decode cX3_takeIn 5 = .ok (.iload_n 2, 1) := by decide +kernel
theorem dX3_takeIn_6 : decode cX3_takeIn 6 = .ok (.aload_n 0, 1) := by decide +kernel
theorem dX3_takeIn_7 : decode cX3_takeIn 7 = .ok (.getfield 25, 3) := by decide +kernel
theorem dX3_takeIn_10 : decode cX3_takeIn 10 = .ok (.if_icmp .ne 18, 3) := by decide +kernel
theorem dX3_takeIn_13 : decode cX3_takeIn 13 = .ok (.aload_n 0, 1) := by decide +kernel
theorem dX3_takeIn_14 : decode cX3_takeIn 14 = .ok (.dup, 1) := by decide +kernel
theorem dX3_takeIn_15 : decode cX3_takeIn 15 = .ok (.getfield 28, 3) := by decide +kernel
theorem dX3_takeIn_18 : decode cX3_takeIn 18 = .ok (.iconst 1, 1) := by decide +kernel
theorem dX3_takeIn_19 : decode cX3_takeIn 19 = .ok (.iload_n 1, 1) := by decide +kernel
theorem dX3_takeIn_20 : decode cX3_takeIn 20 = .ok (.ishl, 1) := by decide +kernel
theorem dX3_takeIn_21 : decode cX3_takeIn 21 = .ok (.ior, 1) := by decide +kernel
theorem dX3_takeIn_22 : decode cX3_takeIn 22 = .ok (.putfield 28, 3) := by decide +kernel
theorem dX3_takeIn_25 : decode cX3_takeIn 25 = .ok (.goto 15, 3) := by decide +kernel
theorem dX3_takeIn_28 : decode cX3_takeIn 28 = .ok (.aload_n 0, 1) := by decide +kernel
theorem dX3_takeIn_29 : decode cX3_takeIn 29 = .ok (.dup, 1) := by decide +kernel
theorem dX3_takeIn_30 : decode cX3_takeIn 30 = .ok (.getfield 31, 3) := by decide +kernel
theorem dX3_takeIn_33 : decode cX3_takeIn 33 = .ok (.iconst 1, 1) := by decide +kernel
theorem dX3_takeIn_34 : decode cX3_takeIn 34 = .ok (.iload_n 1, 1) := by decide +kernel
theorem dX3_takeIn_35 : decode cX3_takeIn 35 = .ok (.ishl, 1) := by decide +kernel
theorem dX3_takeIn_36 : decode cX3_takeIn 36 = .ok (.ior, 1) := by decide +kernel
theorem dX3_takeIn_37 : decode cX3_takeIn 37 = .ok (.putfield 31, 3) := by decide +kernel
theorem dX3_takeIn_40 : decode cX3_takeIn 40 = .ok (.aload_n 0, 1) := by decide +kernel
theorem dX3_takeIn_41 : decode cX3_takeIn 41 = .ok (.iload_n 3, 1) := by decide +kernel
theorem dX3_takeIn_42 : decode cX3_takeIn 42 = .ok (.invokevirtual 80, 3) := by decide +kernel
theorem dX3_takeIn_45 : decode cX3_takeIn 45 = .ok (.ireturn, 1) := by decide +kernel
theorem dX3_bringHome_0 : decode cX3_bringHome 0 = .ok (.aload_n 0, 1) := by decide +kernel
theorem dX3_bringHome_1 : decode cX3_bringHome 1 = .ok (.dup, 1) := by decide +kernel
theorem dX3_bringHome_2 : decode cX3_bringHome 2 = .ok (.getfield 28, 3) := by decide +kernel
theorem dX3_bringHome_5 : decode cX3_bringHome 5 = .ok (.iconst 1, 1) := by decide +kernel
theorem dX3_bringHome_6 : decode cX3_bringHome 6 = .ok (.iload_n 1, 1) := by decide +kernel
theorem dX3_bringHome_7 : decode cX3_bringHome 7 = .ok (.ishl, 1) := by decide +kernel
theorem dX3_bringHome_8 : decode cX3_bringHome 8 = .ok (.iconst (-1), 1) := by decide +kernel
theorem dX3_bringHome_9 : decode cX3_bringHome 9 = .ok (.ixor, 1) := by decide +kernel
theorem dX3_bringHome_10 : decode cX3_bringHome 10 = .ok (.iand, 1) := by decide +kernel
theorem dX3_bringHome_11 : decode cX3_bringHome 11 = .ok (.putfield 28, 3) := by decide +kernel
theorem dX3_bringHome_14 : decode cX3_bringHome 14 = .ok (.aload_n 0, 1) := by decide +kernel
theorem dX3_bringHome_15 : decode cX3_bringHome 15 = .ok (.dup, 1) := by decide +kernel
theorem dX3_bringHome_16 : decode cX3_bringHome 16 = .ok (.getfield 31, 3) := by decide +kernel
theorem dX3_bringHome_19 : decode cX3_bringHome 19 = .ok (.iconst 1, 1) := by decide +kernel
theorem dX3_bringHome_20 : decode cX3_bringHome 20 = .ok (.iload_n 1, 1) := by decide +kernel
theorem dX3_bringHome_21 : decode cX3_bringHome 21 = .ok (.ishl, 1) := by decide +kernel
theorem dX3_bringHome_22 : decode cX3_bringHome 22 = .ok (.iconst (-1), 1) := by decide +kernel
theorem dX3_bringHome_23 : decode cX3_bringHome 23 = .ok (.ixor, 1) := by decide +kernel
theorem dX3_bringHome_24 : decode cX3_bringHome 24 = .ok (.iand, 1) := by decide +kernel
theorem dX3_bringHome_25 : decode cX3_bringHome 25 = .ok (.putfield 31, 3) := by decide +kernel
theorem dX3_bringHome_28 : decode cX3_bringHome 28 = .ok (.aload_n 0, 1) := by decide +kernel
theorem dX3_bringHome_29 : decode cX3_bringHome 29 = .ok (.dup, 1) := by decide +kernel
theorem dX3_bringHome_30 : decode cX3_bringHome 30 = .ok (.getfield 34, 3) := by decide +kernel
theorem dX3_bringHome_33 : decode cX3_bringHome 33 = .ok (.iconst 1, 1) := by decide +kernel
theorem dX3_bringHome_34 : decode cX3_bringHome 34 = .ok (.iload_n 1, 1) := by decide +kernel
theorem dX3_bringHome_35 : decode cX3_bringHome 35 = .ok (.ishl, 1) := by decide +kernel
theorem dX3_bringHome_36 : decode cX3_bringHome 36 = .ok (.iconst (-1), 1) := by decide +kernel
theorem dX3_bringHome_37 : decode cX3_bringHome 37 = .ok (.ixor, 1) := by decide +kernel
theorem dX3_bringHome_38 : decode cX3_bringHome 38 = .ok (.iand, 1) := by decide +kernel
theorem dX3_bringHome_39 : decode cX3_bringHome 39 = .ok (.putfield 34, 3) := by decide +kernel
theorem dX3_bringHome_42 : decode cX3_bringHome 42 = .ok (.aload_n 0, 1) := by decide +kernel
theorem dX3_bringHome_43 : decode cX3_bringHome 43 = .ok (.dup, 1) := by decide +kernel
theorem dX3_bringHome_44 : decode cX3_bringHome 44 = .ok (.getfield 37, 3) := by decide +kernel
theorem dX3_bringHome_47 : decode cX3_bringHome 47 = .ok (.iconst 1, 1) := by decide +kernel
theorem dX3_bringHome_48 : decode cX3_bringHome 48 = .ok (.iload_n 1, 1) := by decide +kernel
theorem dX3_bringHome_49 : decode cX3_bringHome 49 = .ok (.ishl, 1) := by decide +kernel
theorem dX3_bringHome_50 : decode cX3_bringHome 50 = .ok (.iconst (-1), 1) := by decide +kernel
theorem dX3_bringHome_51 : decode cX3_bringHome 51 = .ok (.ixor, 1) := by decide +kernel
theorem dX3_bringHome_52 : decode cX3_bringHome 52 = .ok (.iand, 1) := by decide +kernel
theorem dX3_bringHome_53 : decode cX3_bringHome 53 = .ok (.putfield 37, 3) := by decide +kernel
theorem dX3_bringHome_56 : decode cX3_bringHome 56 = .ok (.aload_n 0, 1) := by decide +kernel
theorem dX3_bringHome_57 : decode cX3_bringHome 57 = .ok (.getfield 9, 3) := by decide +kernel
theorem dX3_bringHome_60 : decode cX3_bringHome 60 = .ok (.iload_n 1, 1) := by decide +kernel
theorem dX3_bringHome_61 : decode cX3_bringHome 61 = .ok (.iconst 0, 1) := by decide +kernel
theorem dX3_bringHome_62 : decode cX3_bringHome 62 = .ok (.iastore, 1) := by decide +kernel
theorem dX3_bringHome_63 : decode cX3_bringHome 63 = .ok (.return_, 1) := by decide +kernel
theorem dX3_missScout_0 : decode cX3_missScout 0 = .ok (.aload_n 0, 1) := by decide +kernel
theorem dX3_missScout_1 : decode cX3_missScout 1 = .ok (.iload_n 1, 1) := by decide +kernel
theorem dX3_missScout_2 : decode cX3_missScout 2 = .ok (.invokevirtual 76, 3) := by decide +kernel
theorem dX3_missScout_5 : decode cX3_missScout 5 = .ok (.aload_n 0, 1) := by decide +kernel
theorem dX3_missScout_6 : decode cX3_missScout 6 = .ok (.dup, 1) := by decide +kernel
theorem dX3_missScout_7 : decode cX3_missScout 7 = .ok (.getfield 37, 3) := by decide +kernel
theorem dX3_missScout_10 : decode cX3_missScout 10 = .ok (.iconst 1, 1) := by decide +kernel
theorem dX3_missScout_11 : decode cX3_missScout 11 = .ok (.iload_n 1, 1) := by decide +kernel
theorem dX3_missScout_12 : decode cX3_missScout 12 = .ok (.ishl, 1) := by decide +kernel
theorem dX3_missScout_13 : decode cX3_missScout 13 = .ok (.ior, 1) := by decide +kernel
theorem dX3_missScout_14 : decode cX3_missScout 14 = .ok (.putfield 37, 3) := by decide +kernel
theorem dX3_missScout_17 : decode cX3_missScout 17 = .ok (.return_, 1) := by decide +kernel
theorem dX3_passMinute_0 : decode cX3_passMinute 0 = .ok (.aload_n 0, 1) := by decide +kernel
theorem dX3_passMinute_1 : decode cX3_passMinute 1 = .ok (.getfield 34, 3) := by decide +kernel
theorem dX3_passMinute_4 : decode cX3_passMinute 4 = .ok (.aload_n 0, 1) := by decide +kernel
theorem dX3_passMinute_5 : decode cX3_passMinute 5 = .ok (.getfield 37, 3) := by decide +kernel
theorem dX3_passMinute_8 : decode cX3_passMinute 8 = .ok (.ior, 1) := by decide +kernel
theorem dX3_passMinute_9 : decode cX3_passMinute 9 = .ok (.ifCond .eq 79, 3) := by decide +kernel
theorem dX3_passMinute_12 : decode cX3_passMinute 12 = .ok (.iconst 0, 1) := by decide +kernel
theorem dX3_passMinute_13 : decode cX3_passMinute 13 = .ok (.istore_n 3, 1) := by decide +kernel
theorem dX3_passMinute_14 : decode cX3_passMinute 14 = .ok (.iload_n 3, 1) := by decide +kernel
theorem dX3_passMinute_15 : decode cX3_passMinute 15 = .ok (.bipush 16, 2) := by decide +kernel
theorem dX3_passMinute_17 : decode cX3_passMinute 17 = .ok (.if_icmp .ge 71, 3) := by decide +kernel
theorem dX3_passMinute_20 : decode cX3_passMinute 20 = .ok (.aload_n 0, 1) := by decide +kernel
theorem dX3_passMinute_21 : decode cX3_passMinute 21 = .ok (.getfield 34, 3) := by decide +kernel
theorem dX3_passMinute_24 : decode cX3_passMinute 24 = .ok (.iload_n 3, 1) := by decide +kernel
theorem dX3_passMinute_25 : decode cX3_passMinute 25 = .ok (.invokestatic 59, 3) := by decide +kernel
theorem dX3_passMinute_28 : decode cX3_passMinute 28 = .ok (.ifCond .eq 11, 3) := by decide +kernel
theorem dX3_passMinute_31 : decode cX3_passMinute 31 = .ok (.aload_n 0, 1) := by decide +kernel
theorem dX3_passMinute_32 : decode cX3_passMinute 32 = .ok (.iload_n 3, 1) := by decide +kernel
theorem dX3_passMinute_33 : decode cX3_passMinute 33 = .ok (.invokevirtual 83, 3) := by decide +kernel
theorem dX3_passMinute_36 : decode cX3_passMinute 36 = .ok (.goto 46, 3) := by decide +kernel
theorem dX3_passMinute_39 : decode cX3_passMinute 39 = .ok (.aload_n 0, 1) := by decide +kernel
theorem dX3_passMinute_40 : decode cX3_passMinute 40 = .ok (.getfield 37, 3) := by decide +kernel
theorem dX3_passMinute_43 : decode cX3_passMinute 43 = .ok (.iload_n 3, 1) := by decide +kernel
theorem dX3_passMinute_44 : decode cX3_passMinute 44 = .ok (.invokestatic 59, 3) := by decide +kernel
theorem dX3_passMinute_47 : decode cX3_passMinute 47 = .ok (.ifCond .eq 35, 3) := by decide +kernel
theorem dX3_passMinute_50 : decode cX3_passMinute 50 = .ok (.aload_n 0, 1) := by decide +kernel
theorem dX3_passMinute_51 : decode cX3_passMinute 51 = .ok (.getfield 9, 3) := by decide +kernel
theorem dX3_passMinute_54 : decode cX3_passMinute 54 = .ok (.iload_n 3, 1) := by decide +kernel
theorem dX3_passMinute_55 : decode cX3_passMinute 55 = .ok (.dup2, 1) := by decide +kernel
theorem dX3_passMinute_56 : decode cX3_passMinute 56 = .ok (.iaload, 1) := by decide +kernel
theorem dX3_passMinute_57 : decode cX3_passMinute 57 = .ok (.iconst 1, 1) := by decide +kernel
theorem dX3_passMinute_58 : decode cX3_passMinute 58 = .ok (.iadd, 1) := by decide +kernel
theorem dX3_passMinute_59 : decode cX3_passMinute 59 = .ok (.iastore, 1) := by decide +kernel
theorem dX3_passMinute_60 : decode cX3_passMinute 60 = .ok (.aload_n 0, 1) := by decide +kernel
theorem dX3_passMinute_61 : decode cX3_passMinute 61 = .ok (.getfield 9, 3) := by decide +kernel
theorem dX3_passMinute_64 : decode cX3_passMinute 64 = .ok (.iload_n 3, 1) := by decide +kernel
theorem dX3_passMinute_65 : decode cX3_passMinute 65 = .ok (.iaload, 1) := by decide +kernel
theorem dX3_passMinute_66 : decode cX3_passMinute 66 = .ok (.iload_n 1, 1) := by decide +kernel
theorem dX3_passMinute_67 : decode cX3_passMinute 67 = .ok (.if_icmp .le 15, 3) := by decide +kernel
theorem dX3_passMinute_70 : decode cX3_passMinute 70 = .ok (.aload_n 0, 1) := by decide +kernel
theorem dX3_passMinute_71 : decode cX3_passMinute 71 = .ok (.dup, 1) := by decide +kernel
theorem dX3_passMinute_72 : decode cX3_passMinute 72 = .ok (.getfield 40, 3) := by decide +kernel
theorem dX3_passMinute_75 : decode cX3_passMinute 75 = .ok (.iconst 1, 1) := by decide +kernel
theorem dX3_passMinute_76 : decode cX3_passMinute 76 = .ok (.iload_n 3, 1) := by decide +kernel
theorem dX3_passMinute_77 : decode cX3_passMinute 77 = .ok (.ishl, 1) := by decide +kernel
theorem dX3_passMinute_78 : decode cX3_passMinute 78 = .ok (.ior, 1) := by decide +kernel
theorem dX3_passMinute_79 : decode cX3_passMinute 79 = .ok (.putfield 40, 3) := by decide +kernel
theorem dX3_passMinute_82 : decode cX3_passMinute 82 = .ok (.iinc 3 1, 3) := by decide +kernel
theorem dX3_passMinute_85 : decode cX3_passMinute 85 = .ok (.goto (-71), 3) := by decide +kernel
theorem dX3_passMinute_88 : decode cX3_passMinute 88 = .ok (.aload_n 0, 1) := by decide +kernel
theorem dX3_passMinute_89 : decode cX3_passMinute 89 = .ok (.iload_n 2, 1) := by decide +kernel
theorem dX3_passMinute_90 : decode cX3_passMinute 90 = .ok (.invokevirtual 80, 3) := by decide +kernel
theorem dX3_passMinute_93 : decode cX3_passMinute 93 = .ok (.ireturn, 1) := by decide +kernel
theorem dX3_walkOn_0 : decode cX3_walkOn 0 = .ok (.aload_n 0, 1) := by decide +kernel
theorem dX3_walkOn_1 : decode cX3_walkOn 1 = .ok (.getfield 9, 3) := by decide +kernel
theorem dX3_walkOn_4 : decode cX3_walkOn 4 = .ok (.iload_n 1, 1) := by decide +kernel
theorem dX3_walkOn_5 : decode cX3_walkOn 5 = .ok (.dup2, 1) := by decide +kernel
theorem dX3_walkOn_6 : decode cX3_walkOn 6 = .ok (.iaload, 1) := by decide +kernel
theorem dX3_walkOn_7 : decode cX3_walkOn 7 = .ok (.iconst 1, 1) := by decide +kernel
theorem dX3_walkOn_8 : decode cX3_walkOn 8 = .ok (.isub, 1) := by decide +kernel
theorem dX3_walkOn_9 : decode cX3_walkOn 9 = .ok (.iastore, 1) := by decide +kernel
theorem dX3_walkOn_10 : decode cX3_walkOn 10 = .ok (.aload_n 0, 1) := by decide +kernel
theorem dX3_walkOn_11 : decode cX3_walkOn 11 = .ok (.getfield 9, 3) := by decide +kernel
theorem dX3_walkOn_14 : decode cX3_walkOn 14 = .ok (.iload_n 1, 1) := by decide +kernel
theorem dX3_walkOn_15 : decode cX3_walkOn 15 = .ok (.iaload, 1) := by decide +kernel
theorem dX3_walkOn_16 : decode cX3_walkOn 16 = .ok (.ifCond .gt 23, 3) := by decide +kernel
theorem dX3_walkOn_19 : decode cX3_walkOn 19 = .ok (.aload_n 0, 1) := by decide +kernel
theorem dX3_walkOn_20 : decode cX3_walkOn 20 = .ok (.iload_n 1, 1) := by decide +kernel
theorem dX3_walkOn_21 : decode cX3_walkOn 21 = .ok (.invokevirtual 76, 3) := by decide +kernel
theorem dX3_walkOn_24 : decode cX3_walkOn 24 = .ok (.aload_n 0, 1) := by decide +kernel
theorem dX3_walkOn_25 : decode cX3_walkOn 25 = .ok (.iload_n 1, 1) := by decide +kernel
theorem dX3_walkOn_26 : decode cX3_walkOn 26 = .ok (.invokevirtual 55, 3) := by decide +kernel
theorem dX3_walkOn_29 : decode cX3_walkOn 29 = .ok (.ifCond .ne 10, 3) := by decide +kernel
theorem dX3_walkOn_32 : decode cX3_walkOn 32 = .ok (.aload_n 0, 1) := by decide +kernel
theorem dX3_walkOn_33 : decode cX3_walkOn 33 = .ok (.getfield 15, 3) := by decide +kernel
theorem dX3_walkOn_36 : decode cX3_walkOn 36 = .ok (.iload_n 1, 1) := by decide +kernel
theorem dX3_walkOn_37 : decode cX3_walkOn 37 = .ok (.iconst 0, 1) := by decide +kernel
theorem dX3_walkOn_38 : decode cX3_walkOn 38 = .ok (.iastore, 1) := by decide +kernel
theorem dX3_walkOn_39 : decode cX3_walkOn 39 = .ok (.return_, 1) := by decide +kernel
theorem dX3_openGate_0 : decode cX3_openGate 0 = .ok (.iconst 0, 1) := by decide +kernel
theorem dX3_openGate_1 : decode cX3_openGate 1 = .ok (.istore_n 2, 1) := by decide +kernel
theorem dX3_openGate_2 : decode cX3_openGate 2 = .ok (.iload_n 2, 1) := by decide +kernel
theorem dX3_openGate_3 : decode cX3_openGate 3 = .ok (.iconst 3, 1) := by decide +kernel
theorem dX3_openGate_4 : decode cX3_openGate 4 = .ok (.if_icmp .ge 28, 3) := by decide +kernel
theorem dX3_openGate_7 : decode cX3_openGate 7 = .ok (.aload_n 0, 1) := by decide +kernel
theorem dX3_openGate_8 : decode cX3_openGate 8 = .ok (.getfield 28, 3) := by decide +kernel
theorem dX3_openGate_11 : decode cX3_openGate 11 = .ok (.ifCond .eq 21, 3) := by decide +kernel
theorem dX3_openGate_14 : decode cX3_openGate 14 = .ok (.aload_n 0, 1) := by decide +kernel
theorem dX3_openGate_15 : decode cX3_openGate 15 = .ok (.invokevirtual 67, 3) := by decide +kernel
theorem dX3_openGate_18 : decode cX3_openGate 18 = .ok (.ifCond .ne 14, 3) := by decide +kernel
theorem dX3_openGate_21 : decode cX3_openGate 21 = .ok (.aload_n 0, 1) := by decide +kernel
theorem dX3_openGate_22 : decode cX3_openGate 22 = .ok (.iload_n 1, 1) := by decide +kernel
theorem dX3_openGate_23 : decode cX3_openGate 23 = .ok (.invokevirtual 86, 3) := by decide +kernel
theorem dX3_openGate_26 : decode cX3_openGate 26 = .ok (.iinc 2 1, 3) := by decide +kernel
theorem dX3_openGate_29 : decode cX3_openGate 29 = .ok (.goto (-27), 3) := by decide +kernel
theorem dX3_openGate_32 : decode cX3_openGate 32 = .ok (.iload_n 2, 1) := by decide +kernel
theorem dX3_openGate_33 : decode cX3_openGate 33 = .ok (.ireturn, 1) := by decide +kernel
theorem dX3_beginHike_0 : decode cX3_beginHike 0 = .ok (.iconst 0, 1) := by decide +kernel
theorem dX3_beginHike_1 : decode cX3_beginHike 1 = .ok (.istore_n 2, 1) := by decide +kernel
theorem dX3_beginHike_2 : decode cX3_beginHike 2 = .ok (.iload_n 2, 1) := by decide +kernel
theorem dX3_beginHike_3 : decode cX3_beginHike 3 = .ok (.bipush 16, 2) := by decide +kernel
theorem dX3_beginHike_5 : decode cX3_beginHike 5 = .ok (.if_icmp .ge 37, 3) := by decide +kernel
theorem dX3_beginHike_8 : decode cX3_beginHike 8 = .ok (.aload_n 0, 1) := by decide +kernel
theorem dX3_beginHike_9 : decode cX3_beginHike 9 = .ok (.getfield 28, 3) := by decide +kernel
theorem dX3_beginHike_12 : decode cX3_beginHike 12 = .ok (.iload_n 2, 1) := by decide +kernel
theorem dX3_beginHike_13 : decode cX3_beginHike 13 = .ok (.invokestatic 59, 3) := by decide +kernel
theorem dX3_beginHike_16 : decode cX3_beginHike 16 = .ok (.ifCond .eq 20, 3) := by decide +kernel
theorem dX3_beginHike_19 : decode cX3_beginHike 19 = .ok (.aload_n 0, 1) := by decide +kernel
theorem dX3_beginHike_20 : decode cX3_beginHike 20 = .ok (.getfield 9, 3) := by decide +kernel
theorem dX3_beginHike_23 : decode cX3_beginHike 23 = .ok (.iload_n 2, 1) := by decide +kernel
theorem dX3_beginHike_24 : decode cX3_beginHike 24 = .ok (.iload_n 1, 1) := by decide +kernel
theorem dX3_beginHike_25 : decode cX3_beginHike 25 = .ok (.iastore, 1) := by decide +kernel
theorem dX3_beginHike_26 : decode cX3_beginHike 26 = .ok (.aload_n 0, 1) := by decide +kernel
theorem dX3_beginHike_27 : decode cX3_beginHike 27 = .ok (.getfield 15, 3) := by decide +kernel
theorem dX3_beginHike_30 : decode cX3_beginHike 30 = .ok (.iload_n 2, 1) := by decide +kernel
theorem dX3_beginHike_31 : decode cX3_beginHike 31 = .ok (.dup2, 1) := by decide +kernel
theorem dX3_beginHike_32 : decode cX3_beginHike 32 = .ok (.iaload, 1) := by decide +kernel
theorem dX3_beginHike_33 : decode cX3_beginHike 33 = .ok (.iconst 1, 1) := by decide +kernel
theorem dX3_beginHike_34 : decode cX3_beginHike 34 = .ok (.iadd, 1) := by decide +kernel
theorem dX3_beginHike_35 : decode cX3_beginHike 35 = .ok (.iastore, 1) := by decide +kernel
theorem dX3_beginHike_36 : decode cX3_beginHike 36 = .ok (.iinc 2 1, 3) := by decide +kernel
theorem dX3_beginHike_39 : decode cX3_beginHike 39 = .ok (.goto (-37), 3) := by decide +kernel
theorem dX3_beginHike_42 : decode cX3_beginHike 42 = .ok (.aload_n 0, 1) := by decide +kernel
theorem dX3_beginHike_43 : decode cX3_beginHike 43 = .ok (.dup, 1) := by decide +kernel
theorem dX3_beginHike_44 : decode cX3_beginHike 44 = .ok (.getfield 43, 3) := by decide +kernel
theorem dX3_beginHike_47 : decode cX3_beginHike 47 = .ok (.iconst 1, 1) := by decide +kernel
theorem dX3_beginHike_48 : decode cX3_beginHike 48 = .ok (.iadd, 1) := by decide +kernel
theorem dX3_beginHike_49 : decode cX3_beginHike 49 = .ok (.putfield 43, 3) := by decide +kernel
theorem dX3_beginHike_52 : decode cX3_beginHike 52 = .ok (.aload_n 0, 1) := by decide +kernel
theorem dX3_beginHike_53 : decode cX3_beginHike 53 = .ok (.dup, 1) := by decide +kernel
theorem dX3_beginHike_54 : decode cX3_beginHike 54 = .ok (.getfield 46, 3) := by decide +kernel
theorem dX3_beginHike_57 : decode cX3_beginHike 57 = .ok (.aload_n 0, 1) := by decide +kernel
theorem dX3_beginHike_58 : decode cX3_beginHike 58 = .ok (.getfield 28, 3) := by decide +kernel
theorem dX3_beginHike_61 : decode cX3_beginHike 61 = .ok (.invokestatic 70, 3) := by decide +kernel
theorem dX3_beginHike_64 : decode cX3_beginHike 64 = .ok (.iadd, 1) := by decide +kernel
theorem dX3_beginHike_65 : decode cX3_beginHike 65 = .ok (.putfield 46, 3) := by decide +kernel
theorem dX3_beginHike_68 : decode cX3_beginHike 68 = .ok (.aload_n 0, 1) := by decide +kernel
theorem dX3_beginHike_69 : decode cX3_beginHike 69 = .ok (.dup, 1) := by decide +kernel
theorem dX3_beginHike_70 : decode cX3_beginHike 70 = .ok (.getfield 34, 3) := by decide +kernel
theorem dX3_beginHike_73 : decode cX3_beginHike 73 = .ok (.aload_n 0, 1) := by decide +kernel
theorem dX3_beginHike_74 : decode cX3_beginHike 74 = .ok (.getfield 28, 3) := by decide +kernel
theorem dX3_beginHike_77 : decode cX3_beginHike 77 = .ok (.ior, 1) := by decide +kernel
theorem dX3_beginHike_78 : decode cX3_beginHike 78 = .ok (.putfield 34, 3) := by decide +kernel
theorem dX3_beginHike_81 : decode cX3_beginHike 81 = .ok (.aload_n 0, 1) := by decide +kernel
theorem dX3_beginHike_82 : decode cX3_beginHike 82 = .ok (.iconst 1, 1) := by decide +kernel
theorem dX3_beginHike_83 : decode cX3_beginHike 83 = .ok (.aload_n 0, 1) := by decide +kernel
theorem dX3_beginHike_84 : decode cX3_beginHike 84 = .ok (.getfield 25, 3) := by decide +kernel
theorem dX3_beginHike_87 : decode cX3_beginHike 87 = .ok (.isub, 1) := by decide +kernel
theorem dX3_beginHike_88 : decode cX3_beginHike 88 = .ok (.putfield 25, 3) := by decide +kernel
theorem dX3_beginHike_91 : decode cX3_beginHike 91 = .ok (.aload_n 0, 1) := by decide +kernel
theorem dX3_beginHike_92 : decode cX3_beginHike 92 = .ok (.aload_n 0, 1) := by decide +kernel
theorem dX3_beginHike_93 : decode cX3_beginHike 93 = .ok (.getfield 22, 3) := by decide +kernel
theorem dX3_beginHike_96 : decode cX3_beginHike 96 = .ok (.putfield 18, 3) := by decide +kernel
theorem dX3_beginHike_99 : decode cX3_beginHike 99 = .ok (.aload_n 0, 1) := by decide +kernel
theorem dX3_beginHike_100 : decode cX3_beginHike 100 = .ok (.dup, 1) := by decide +kernel
theorem dX3_beginHike_101 : decode cX3_beginHike 101 = .ok (.getfield 37, 3) := by decide +kernel
theorem dX3_beginHike_104 : decode cX3_beginHike 104 = .ok (.aload_n 0, 1) := by decide +kernel
theorem dX3_beginHike_105 : decode cX3_beginHike 105 = .ok (.invokevirtual 63, 3) := by decide +kernel
theorem dX3_beginHike_108 : decode cX3_beginHike 108 = .ok (.iand, 1) := by decide +kernel
theorem dX3_beginHike_109 : decode cX3_beginHike 109 = .ok (.putfield 37, 3) := by decide +kernel
theorem dX3_beginHike_112 : decode cX3_beginHike 112 = .ok (.aload_n 0, 1) := by decide +kernel
theorem dX3_beginHike_113 : decode cX3_beginHike 113 = .ok (.iconst 0, 1) := by decide +kernel
theorem dX3_beginHike_114 : decode cX3_beginHike 114 = .ok (.putfield 40, 3) := by decide +kernel
theorem dX3_beginHike_117 : decode cX3_beginHike 117 = .ok (.aload_n 0, 1) := by decide +kernel
theorem dX3_beginHike_118 : decode cX3_beginHike 118 = .ok (.aload_n 0, 1) := by decide +kernel
theorem dX3_beginHike_119 : decode cX3_beginHike 119 = .ok (.getfield 31, 3) := by decide +kernel
theorem dX3_beginHike_122 : decode cX3_beginHike 122 = .ok (.aload_n 0, 1) := by decide +kernel
theorem dX3_beginHike_123 : decode cX3_beginHike 123 = .ok (.invokevirtual 63, 3) := by decide +kernel
theorem dX3_beginHike_126 : decode cX3_beginHike 126 = .ok (.iand, 1) := by decide +kernel
theorem dX3_beginHike_127 : decode cX3_beginHike 127 = .ok (.putfield 28, 3) := by decide +kernel
theorem dX3_beginHike_130 : decode cX3_beginHike 130 = .ok (.aload_n 0, 1) := by decide +kernel
theorem dX3_beginHike_131 : decode cX3_beginHike 131 = .ok (.iconst 0, 1) := by decide +kernel
theorem dX3_beginHike_132 : decode cX3_beginHike 132 = .ok (.putfield 31, 3) := by decide +kernel
theorem dX3_beginHike_135 : decode cX3_beginHike 135 = .ok (.aload_n 0, 1) := by decide +kernel
theorem dX3_beginHike_136 : decode cX3_beginHike 136 = .ok (.getfield 18, 3) := by decide +kernel
theorem dX3_beginHike_139 : decode cX3_beginHike 139 = .ok (.istore_n 2, 1) := by decide +kernel
theorem dX3_beginHike_140 : decode cX3_beginHike 140 = .ok (.iload_n 2, 1) := by decide +kernel
theorem dX3_beginHike_141 : decode cX3_beginHike 141 = .ok (.bipush 16, 2) := by decide +kernel
theorem dX3_beginHike_143 : decode cX3_beginHike 143 = .ok (.if_icmp .ge 34, 3) := by decide +kernel
theorem dX3_beginHike_146 : decode cX3_beginHike 146 = .ok (.aload_n 0, 1) := by decide +kernel
theorem dX3_beginHike_147 : decode cX3_beginHike 147 = .ok (.getfield 34, 3) := by decide +kernel
theorem dX3_beginHike_150 : decode cX3_beginHike 150 = .ok (.iload_n 2, 1) := by decide +kernel
theorem dX3_beginHike_151 : decode cX3_beginHike 151 = .ok (.invokestatic 59, 3) := by decide +kernel
theorem dX3_beginHike_154 : decode cX3_beginHike 154 = .ok (.ifCond .ne 17, 3) := by decide +kernel
theorem dX3_beginHike_157 : decode cX3_beginHike 157 = .ok (.aload_n 0, 1) := by decide +kernel
theorem dX3_beginHike_158 : decode cX3_beginHike 158 = .ok (.getfield 9, 3) := by decide +kernel
theorem dX3_beginHike_161 : decode cX3_beginHike 161 = .ok (.iload_n 2, 1) := by decide +kernel
theorem dX3_beginHike_162 : decode cX3_beginHike 162 = .ok (.iconst 0, 1) := by decide +kernel
theorem dX3_beginHike_163 : decode cX3_beginHike 163 = .ok (.iastore, 1) := by decide +kernel
theorem dX3_beginHike_164 : decode cX3_beginHike 164 = .ok (.aload_n 0, 1) := by decide +kernel
theorem dX3_beginHike_165 : decode cX3_beginHike 165 = .ok (.getfield 15, 3) := by decide +kernel
theorem dX3_beginHike_168 : decode cX3_beginHike 168 = .ok (.iload_n 2, 1) := by decide +kernel
theorem dX3_beginHike_169 : decode cX3_beginHike 169 = .ok (.iconst 0, 1) := by decide +kernel
theorem dX3_beginHike_170 : decode cX3_beginHike 170 = .ok (.iastore, 1) := by decide +kernel
theorem dX3_beginHike_171 : decode cX3_beginHike 171 = .ok (.iinc 2 1, 3) := by decide +kernel
theorem dX3_beginHike_174 : decode cX3_beginHike 174 = .ok (.goto (-34), 3) := by decide +kernel
theorem dX3_beginHike_177 : decode cX3_beginHike 177 = .ok (.return_, 1) := by decide +kernel
theorem dX3_isIn_0 : decode cX3_isIn 0 = .ok (.iload_n 0, 1) := by decide +kernel
theorem dX3_isIn_1 : decode cX3_isIn 1 = .ok (.iload_n 1, 1) := by decide +kernel
theorem dX3_isIn_2 : decode cX3_isIn 2 = .ok (.ishr, 1) := by decide +kernel
theorem dX3_isIn_3 : decode cX3_isIn 3 = .ok (.iconst 1, 1) := by decide +kernel
theorem dX3_isIn_4 : decode cX3_isIn 4 = .ok (.iand, 1) := by decide +kernel
theorem dX3_isIn_5 : decode cX3_isIn 5 = .ok (.ifCond .eq 7, 3) := by decide +kernel
theorem dX3_isIn_8 : decode cX3_isIn 8 = .ok (.iconst 1, 1) := by decide +kernel
theorem dX3_isIn_9 : decode cX3_isIn 9 = .ok (.goto 4, 3) := by decide +kernel
theorem dX3_isIn_12 : decode cX3_isIn 12 = .ok (.iconst 0, 1) := by decide +kernel
theorem dX3_isIn_13 : decode cX3_isIn 13 = .ok (.ireturn, 1) := by decide +kernel
theorem dJ6_bitCount_0f7a4_0 : decode cJ6_bitCount_0f7a4 0 = .ok (.iload_n 0, 1) := by decide +kernel
theorem dJ6_bitCount_0f7a4_1 : decode cJ6_bitCount_0f7a4 1 = .ok (.iload_n 0, 1) := by decide +kernel
theorem dJ6_bitCount_0f7a4_2 : decode cJ6_bitCount_0f7a4 2 = .ok (.iconst 1, 1) := by decide +kernel
theorem dJ6_bitCount_0f7a4_3 : decode cJ6_bitCount_0f7a4 3 = .ok (.iushr, 1) := by decide +kernel
theorem dJ6_bitCount_0f7a4_4 : decode cJ6_bitCount_0f7a4 4 = .ok (.ldc_w 265, 3) := by decide +kernel
theorem dJ6_bitCount_0f7a4_7 : decode cJ6_bitCount_0f7a4 7 = .ok (.iand, 1) := by decide +kernel
theorem dJ6_bitCount_0f7a4_8 : decode cJ6_bitCount_0f7a4 8 = .ok (.isub, 1) := by decide +kernel
theorem dJ6_bitCount_0f7a4_9 : decode cJ6_bitCount_0f7a4 9 = .ok (.istore_n 0, 1) := by decide +kernel
theorem dJ6_bitCount_0f7a4_10 : decode cJ6_bitCount_0f7a4 10 = .ok (.iload_n 0, 1) := by decide +kernel
theorem dJ6_bitCount_0f7a4_11 : decode cJ6_bitCount_0f7a4 11 = .ok (.ldc_w 266, 3) := by decide +kernel
theorem dJ6_bitCount_0f7a4_14 : decode cJ6_bitCount_0f7a4 14 = .ok (.iand, 1) := by decide +kernel
theorem dJ6_bitCount_0f7a4_15 : decode cJ6_bitCount_0f7a4 15 = .ok (.iload_n 0, 1) := by decide +kernel
theorem dJ6_bitCount_0f7a4_16 : decode cJ6_bitCount_0f7a4 16 = .ok (.iconst 2, 1) := by decide +kernel
theorem dJ6_bitCount_0f7a4_17 : decode cJ6_bitCount_0f7a4 17 = .ok (.iushr, 1) := by decide +kernel
theorem dJ6_bitCount_0f7a4_18 : decode cJ6_bitCount_0f7a4 18 = .ok (.ldc_w 266, 3) := by decide +kernel
theorem dJ6_bitCount_0f7a4_21 : decode cJ6_bitCount_0f7a4 21 = .ok (.iand, 1) := by decide +kernel
theorem dJ6_bitCount_0f7a4_22 : decode cJ6_bitCount_0f7a4 22 = .ok (.iadd, 1) := by decide +kernel
theorem dJ6_bitCount_0f7a4_23 : decode cJ6_bitCount_0f7a4 23 = .ok (.istore_n 0, 1) := by decide +kernel
theorem dJ6_bitCount_0f7a4_24 : decode cJ6_bitCount_0f7a4 24 = .ok (.iload_n 0, 1) := by decide +kernel
theorem dJ6_bitCount_0f7a4_25 : decode cJ6_bitCount_0f7a4 25 = .ok (.iload_n 0, 1) := by decide +kernel
theorem dJ6_bitCount_0f7a4_26 : decode cJ6_bitCount_0f7a4 26 = .ok (.iconst 4, 1) := by decide +kernel
theorem dJ6_bitCount_0f7a4_27 : decode cJ6_bitCount_0f7a4 27 = .ok (.iushr, 1) := by decide +kernel
theorem dJ6_bitCount_0f7a4_28 : decode cJ6_bitCount_0f7a4 28 = .ok (.iadd, 1) := by decide +kernel
theorem dJ6_bitCount_0f7a4_29 : decode cJ6_bitCount_0f7a4 29 = .ok (.ldc_w 267, 3) := by decide +kernel
theorem dJ6_bitCount_0f7a4_32 : decode cJ6_bitCount_0f7a4 32 = .ok (.iand, 1) := by decide +kernel
theorem dJ6_bitCount_0f7a4_33 : decode cJ6_bitCount_0f7a4 33 = .ok (.istore_n 0, 1) := by decide +kernel
theorem dJ6_bitCount_0f7a4_34 : decode cJ6_bitCount_0f7a4 34 = .ok (.iload_n 0, 1) := by decide +kernel
theorem dJ6_bitCount_0f7a4_35 : decode cJ6_bitCount_0f7a4 35 = .ok (.iload_n 0, 1) := by decide +kernel
theorem dJ6_bitCount_0f7a4_36 : decode cJ6_bitCount_0f7a4 36 = .ok (.bipush 8, 2) := by decide +kernel
theorem dJ6_bitCount_0f7a4_38 : decode cJ6_bitCount_0f7a4 38 = .ok (.iushr, 1) := by decide +kernel
theorem dJ6_bitCount_0f7a4_39 : decode cJ6_bitCount_0f7a4 39 = .ok (.iadd, 1) := by decide +kernel
theorem dJ6_bitCount_0f7a4_40 : decode cJ6_bitCount_0f7a4 40 = .ok (.istore_n 0, 1) := by decide +kernel
theorem dJ6_bitCount_0f7a4_41 : decode cJ6_bitCount_0f7a4 41 = .ok (.iload_n 0, 1) := by decide +kernel
theorem dJ6_bitCount_0f7a4_42 : decode cJ6_bitCount_0f7a4 42 = .ok (.iload_n 0, 1) := by decide +kernel
theorem dJ6_bitCount_0f7a4_43 : decode cJ6_bitCount_0f7a4 43 = .ok (.bipush 16, 2) := by decide +kernel
theorem dJ6_bitCount_0f7a4_45 : decode cJ6_bitCount_0f7a4 45 = .ok (.iushr, 1) := by decide +kernel
theorem dJ6_bitCount_0f7a4_46 : decode cJ6_bitCount_0f7a4 46 = .ok (.iadd, 1) := by decide +kernel
theorem dJ6_bitCount_0f7a4_47 : decode cJ6_bitCount_0f7a4 47 = .ok (.istore_n 0, 1) := by decide +kernel
theorem dJ6_bitCount_0f7a4_48 : decode cJ6_bitCount_0f7a4 48 = .ok (.iload_n 0, 1) := by decide +kernel
theorem dJ6_bitCount_0f7a4_49 : decode cJ6_bitCount_0f7a4 49 = .ok (.bipush 63, 2) := by decide +kernel
theorem dJ6_bitCount_0f7a4_51 : decode cJ6_bitCount_0f7a4 51 = .ok (.iand, 1) := by decide +kernel
theorem dJ6_bitCount_0f7a4_52 : decode cJ6_bitCount_0f7a4 52 = .ok (.ireturn, 1) := by decide +kernel
end
section
theorem dX4_init_0 : decode cX4_init 0 = .ok (.aload_n 0, 1) := by decide +kernel
theorem dX4_init_1 : decode cX4_init 1 = .ok (.invokespecial 1, 3) := by decide +kernel
theorem dX4_init_4 : decode cX4_init 4 = .ok (.aload_n 0, 1) := by decide +kernel
theorem dX4_init_5 : decode cX4_init 5 = .ok (.new 7, 3) := by decide +kernel
theorem dX4_init_8 : decode cX4_init 8 = .ok (.dup, 1) := by decide +kernel
theorem dX4_init_9 : decode cX4_init 9 = .ok (.invokespecial 9, 3) := by decide +kernel
theorem dX4_init_12 : decode cX4_init 12 = .ok (.putfield 10, 3) := by decide +kernel
theorem dX4_init_15 : decode cX4_init 15 = .ok (.aload_n 0, 1) := by decide +kernel
theorem dX4_init_16 : decode cX4_init 16 = .ok (.new 16, 3) := by decide +kernel
theorem dX4_init_19 : decode cX4_init 19 = .ok (.dup, 1) := by decide +kernel
theorem dX4_init_20 : decode cX4_init 20 = .ok (.invokespecial 18, 3) := by decide +kernel
theorem dX4_init_23 : decode cX4_init 23 = .ok (.putfield 19, 3) := by decide +kernel
theorem dX4_init_26 : decode cX4_init 26 = .ok (.aload_n 0, 1) := by decide +kernel
theorem dX4_init_27 : decode cX4_init 27 = .ok (.iconst 2, 1) := by decide +kernel
theorem dX4_init_28 : decode cX4_init 28 = .ok (.anewarray 7, 3) := by decide +kernel
theorem dX4_init_31 : decode cX4_init 31 = .ok (.putfield 23, 3) := by decide +kernel
theorem dX4_init_34 : decode cX4_init 34 = .ok (.iconst 0, 1) := by decide +kernel
theorem dX4_init_35 : decode cX4_init 35 = .ok (.istore_n 1, 1) := by decide +kernel
theorem dX4_init_36 : decode cX4_init 36 = .ok (.iload_n 1, 1) := by decide +kernel
theorem dX4_init_37 : decode cX4_init 37 = .ok (.iconst 2, 1) := by decide +kernel
theorem dX4_init_38 : decode cX4_init 38 = .ok (.if_icmp .ge 22, 3) := by decide +kernel
theorem dX4_init_41 : decode cX4_init 41 = .ok (.aload_n 0, 1) := by decide +kernel
theorem dX4_init_42 : decode cX4_init 42 = .ok (.getfield 23, 3) := by decide +kernel
theorem dX4_init_45 : decode cX4_init 45 = .ok (.iload_n 1, 1) := by decide +kernel
theorem dX4_init_46 : decode cX4_init 46 = .ok (.new 7, 3) := by decide +kernel
theorem dX4_init_49 : decode cX4_init 49 = .ok (.dup, 1) := by decide +kernel
theorem dX4_init_50 : decode cX4_init 50 = .ok (.invokespecial 9, 3) := by decide +kernel
theorem dX4_init_53 : decode cX4_init 53 = .ok (.aastore, 1) := by decide +kernel
theorem dX4_init_54 : decode cX4_init 54 = .ok (.iinc 1 1, 3) := by decide +kernel
theorem dX4_init_57 : decode cX4_init 57 = .ok (.goto (-21), 3) := by decide +kernel
theorem dX4_init_60 : decode cX4_init 60 = .ok (.aload_n 0, 1) := by decide +kernel
theorem dX4_init_61 : decode cX4_init 61 = .ok (.iconst 2, 1) := by decide +kernel
theorem dX4_init_62 : decode cX4_init 62 = .ok (.newarray .boolean, 2) := by decide +kernel
theorem dX4_init_64 : decode cX4_init 64 = .ok (.putfield 27, 3) := by decide +kernel
theorem dX4_init_67 : decode cX4_init 67 = .ok (.aload_n 0, 1) := by decide +kernel
theorem dX4_init_68 : decode cX4_init 68 = .ok (.new 31, 3) := by decide +kernel
theorem dX4_init_71 : decode cX4_init 71 = .ok (.dup, 1) := by decide +kernel
theorem dX4_init_72 : decode cX4_init 72 = .ok (.invokespecial 33, 3) := by decide +kernel
theorem dX4_init_75 : decode cX4_init 75 = .ok (.putfield 34, 3) := by decide +kernel
theorem dX4_init_78 : decode cX4_init 78 = .ok (.aload_n 0, 1) := by decide +kernel
theorem dX4_init_79 : decode cX4_init 79 = .ok (.new 38, 3) := by decide +kernel
theorem dX4_init_82 : decode cX4_init 82 = .ok (.dup, 1) := by decide +kernel
theorem dX4_init_83 : decode cX4_init 83 = .ok (.invokespecial 40, 3) := by decide +kernel
theorem dX4_init_86 : decode cX4_init 86 = .ok (.putfield 41, 3) := by decide +kernel
theorem dX4_init_89 : decode cX4_init 89 = .ok (.return_, 1) := by decide +kernel
theorem dX4_set_0 : decode cX4_set 0 = .ok (.iload_n 1, 1) := by decide +kernel
theorem dX4_set_1 : decode cX4_set 1 = .ok (.ifCond .lt 8, 3) := by decide +kernel
theorem dX4_set_4 : decode cX4_set 4 = .ok (.iload_n 1, 1) := by decide +kernel
theorem dX4_set_5 : decode cX4_set 5 = .ok (.iconst 2, 1) := by decide +kernel
theorem dX4_set_6 : decode cX4_set 6 = .ok (.if_icmp .lt 6, 3) := by decide +kernel
theorem dX4_set_9 : decode cX4_set 9 = .ok (.bipush (-2), 2) := by decide +kernel
theorem dX4_set_11 : decode cX4_set 11 = .ok (.ireturn, 1) := by decide +kernel
theorem dX4_set_12 : decode cX4_set 12 = .ok (.iload_n 1, 1) := by decide +kernel
theorem dX4_set_13 : decode cX4_set 13 = .ok (.iconst 1, 1) := by decide +kernel
theorem dX4_set_14 : decode cX4_set 14 = .ok (.if_icmp .ne 7, 3) := by decide +kernel
theorem dX4_set_17 : decode cX4_set 17 = .ok (.iconst 1, 1) := by decide +kernel
theorem dX4_set_18 : decode cX4_set 18 = .ok (.goto 4, 3) := by decide +kernel
theorem dX4_set_21 : decode cX4_set 21 = .ok (.iconst 0, 1) := by decide +kernel
theorem dX4_set_22 : decode cX4_set 22 = .ok (.istore_n 3, 1) := by decide +kernel
theorem dX4_set_23 : decode cX4_set 23 = .ok (.iload_n 2, 1) := by decide +kernel
theorem dX4_set_24 : decode cX4_set 24 = .ok (.iload_n 3, 1) := by decide +kernel
theorem dX4_set_25 : decode cX4_set 25 = .ok (.if_icmp .lt 9, 3) := by decide +kernel
theorem dX4_set_28 : decode cX4_set 28 = .ok (.iload_n 2, 1) := by decide +kernel
theorem dX4_set_29 : decode cX4_set 29 = .ok (.bipush 99, 2) := by decide +kernel
theorem dX4_set_31 : decode cX4_set 31 = .ok (.if_icmp .le 6, 3) := by decide +kernel
theorem dX4_set_34 : decode cX4_set 34 = .ok (.bipush (-2), 2) := by decide +kernel
theorem dX4_set_36 : decode cX4_set 36 = .ok (.ireturn, 1) := by decide +kernel
theorem dX4_set_37 : decode cX4_set 37 = .ok (.aload_n 0, 1) := by decide +kernel
theorem dX4_set_38 : decode cX4_set 38 = .ok (.getfield 19, 3) := by decide +kernel
theorem dX4_set_41 : decode cX4_set 41 = .ok (.aload_n 0, 1) := by decide +kernel
theorem dX4_set_42 : decode cX4_set 42 = .ok (.getfield 10, 3) := by decide +kernel
theorem dX4_set_45 : decode cX4_set 45 = .ok (.invokevirtual 45, 3) := by decide +kernel
theorem dX4_set_48 : decode cX4_set 48 = .ok (.aload_n 0, 1) := by decide +kernel
theorem dX4_set_49 : decode cX4_set 49 = .ok (.getfield 10, 3) := by decide +kernel
theorem dX4_set_52 : decode cX4_set 52 = .ok (.getfield 49, 3) := by decide +kernel
theorem dX4_set_55 : decode cX4_set 55 = .ok (.iload_n 1, 1) := by decide +kernel
theorem dX4_set_56 : decode cX4_set 56 = .ok (.iaload, 1) := by decide +kernel
theorem dX4_set_57 : decode cX4_set 57 = .ok (.istore 4, 2) := by decide +kernel
theorem dX4_set_59 : decode cX4_set 59 = .ok (.aload_n 0, 1) := by decide +kernel
theorem dX4_set_60 : decode cX4_set 60 = .ok (.getfield 10, 3) := by decide +kernel
theorem dX4_set_63 : decode cX4_set 63 = .ok (.getfield 49, 3) := by decide +kernel
theorem dX4_set_66 : decode cX4_set 66 = .ok (.iload_n 1, 1) := by decide +kernel
theorem dX4_set_67 : decode cX4_set 67 = .ok (.iload_n 2, 1) := by decide +kernel
theorem dX4_set_68 : decode cX4_set 68 = .ok (.iastore, 1) := by decide +kernel
theorem dX4_set_69 : decode cX4_set 69 = .ok (.aload_n 0, 1) := by decide +kernel
theorem dX4_set_70 : decode cX4_set 70 = .ok (.iload 4, 2) := by decide +kernel
theorem dX4_set_72 : decode cX4_set 72 = .ok (.invokevirtual 53, 3) := by decide +kernel
theorem dX4_set_75 : decode cX4_set 75 = .ok (.ireturn, 1) := by decide +kernel
theorem dX4_troop_0 : decode cX4_troop 0 = .ok (.aload_n 0, 1) := by decide +kernel
theorem dX4_troop_1 : decode cX4_troop 1 = .ok (.getfield 19, 3) := by decide +kernel
theorem dX4_troop_4 : decode cX4_troop 4 = .ok (.aload_n 0, 1) := by decide +kernel
theorem dX4_troop_5 : decode cX4_troop 5 = .ok (.getfield 10, 3) := by decide +kernel
theorem dX4_troop_8 : decode cX4_troop 8 = .ok (.invokevirtual 45, 3) := by decide +kernel
theorem dX4_troop_11 : decode cX4_troop 11 = .ok (.aload_n 0, 1) := by decide +kernel
theorem dX4_troop_12 : decode cX4_troop 12 = .ok (.aload_n 0, 1) := by decide +kernel
theorem dX4_troop_13 : decode cX4_troop 13 = .ok (.iload_n 1, 1) := by decide +kernel
theorem dX4_troop_14 : decode cX4_troop 14 = .ok (.invokevirtual 57, 3) := by decide +kernel
theorem dX4_troop_17 : decode cX4_troop 17 = .ok (.invokevirtual 53, 3) := by decide +kernel
theorem dX4_troop_20 : decode cX4_troop 20 = .ok (.ireturn, 1) := by decide +kernel
theorem dX4_resize_0 : decode cX4_resize 0 = .ok (.aload_n 0, 1) := by decide +kernel
theorem dX4_resize_1 : decode cX4_resize 1 = .ok (.getfield 19, 3) := by decide +kernel
theorem dX4_resize_4 : decode cX4_resize 4 = .ok (.aload_n 0, 1) := by decide +kernel
theorem dX4_resize_5 : decode cX4_resize 5 = .ok (.getfield 10, 3) := by decide +kernel
theorem dX4_resize_8 : decode cX4_resize 8 = .ok (.invokevirtual 45, 3) := by decide +kernel
theorem dX4_resize_11 : decode cX4_resize 11 = .ok (.aload_n 0, 1) := by decide +kernel
theorem dX4_resize_12 : decode cX4_resize 12 = .ok (.aload_n 0, 1) := by decide +kernel
theorem dX4_resize_13 : decode cX4_resize 13 = .ok (.iload_n 1, 1) := by decide +kernel
theorem dX4_resize_14 : decode cX4_resize 14 = .ok (.iload_n 2, 1) := by decide +kernel
theorem dX4_resize_15 : decode cX4_resize 15 = .ok (.invokevirtual 60, 3) := by decide +kernel
theorem dX4_resize_18 : decode cX4_resize 18 = .ok (.invokevirtual 53, 3) := by decide +kernel
theorem dX4_resize_21 : decode cX4_resize 21 = .ok (.ireturn, 1) := by decide +kernel
theorem dX4_come_0 : decode cX4_come 0 = .ok (.aload_n 0, 1) := by decide +kernel
theorem dX4_come_1 : decode cX4_come 1 = .ok (.getfield 19, 3) := by decide +kernel
theorem dX4_come_4 : decode cX4_come 4 = .ok (.aload_n 0, 1) := by decide +kernel
theorem dX4_come_5 : decode cX4_come 5 = .ok (.getfield 10, 3) := by decide +kernel
theorem dX4_come_8 : decode cX4_come 8 = .ok (.invokevirtual 45, 3) := by decide +kernel
theorem dX4_come_11 : decode cX4_come 11 = .ok (.aload_n 0, 1) := by decide +kernel
theorem dX4_come_12 : decode cX4_come 12 = .ok (.aload_n 0, 1) := by decide +kernel
theorem dX4_come_13 : decode cX4_come 13 = .ok (.iload_n 1, 1) := by decide +kernel
theorem dX4_come_14 : decode cX4_come 14 = .ok (.iload_n 2, 1) := by decide +kernel
theorem dX4_come_15 : decode cX4_come 15 = .ok (.iload_n 3, 1) := by decide +kernel
theorem dX4_come_16 : decode cX4_come 16 = .ok (.invokevirtual 64, 3) := by decide +kernel
theorem dX4_come_19 : decode cX4_come 19 = .ok (.invokevirtual 53, 3) := by decide +kernel
theorem dX4_come_22 : decode cX4_come 22 = .ok (.ireturn, 1) := by decide +kernel
theorem dX4_lose_0 : decode cX4_lose 0 = .ok (.aload_n 0, 1) := by decide +kernel
theorem dX4_lose_1 : decode cX4_lose 1 = .ok (.getfield 19, 3) := by decide +kernel
theorem dX4_lose_4 : decode cX4_lose 4 = .ok (.aload_n 0, 1) := by decide +kernel
theorem dX4_lose_5 : decode cX4_lose 5 = .ok (.getfield 10, 3) := by decide +kernel
theorem dX4_lose_8 : decode cX4_lose 8 = .ok (.invokevirtual 45, 3) := by decide +kernel
theorem dX4_lose_11 : decode cX4_lose 11 = .ok (.aload_n 0, 1) := by decide +kernel
theorem dX4_lose_12 : decode cX4_lose 12 = .ok (.aload_n 0, 1) := by decide +kernel
theorem dX4_lose_13 : decode cX4_lose 13 = .ok (.iload_n 1, 1) := by decide +kernel
theorem dX4_lose_14 : decode cX4_lose 14 = .ok (.iload_n 2, 1) := by decide +kernel
theorem dX4_lose_15 : decode cX4_lose 15 = .ok (.invokevirtual 68, 3) := by decide +kernel
theorem dX4_lose_18 : decode cX4_lose 18 = .ok (.invokevirtual 53, 3) := by decide +kernel
theorem dX4_lose_21 : decode cX4_lose 21 = .ok (.ireturn, 1) := by decide +kernel
theorem dX4_find_0 : decode cX4_find 0 = .ok (.aload_n 0, 1) := by decide +kernel
theorem dX4_find_1 : decode cX4_find 1 = .ok (.iload_n 1, 1) := by decide +kernel
theorem dX4_find_2 : decode cX4_find 2 = .ok (.iload_n 2, 1) := by decide +kernel
theorem dX4_find_3 : decode cX4_find 3 = .ok (.invokevirtual 71, 3) := by decide +kernel
theorem dX4_find_6 : decode cX4_find 6 = .ok (.ifCond .ne 5, 3) := by decide +kernel
theorem dX4_find_9 : decode cX4_find 9 = .ok (.iconst (-1), 1) := by decide +kernel
theorem dX4_find_10 : decode cX4_find 10 = .ok (.ireturn, 1) := by decide +kernel
theorem dX4_find_11 : decode cX4_find 11 = .ok (.aload_n 0, 1) := by decide +kernel
theorem dX4_find_12 : decode cX4_find 12 = .ok (.getfield 10, 3) := by decide +kernel
theorem dX4_find_15 : decode cX4_find 15 = .ok (.getfield 75, 3) := by decide +kernel
theorem dX4_find_18 : decode cX4_find 18 = .ok (.iload_n 1, 1) := by decide +kernel
theorem dX4_find_19 : decode cX4_find 19 = .ok (.aaload, 1) := by decide +kernel
theorem dX4_find_20 : decode cX4_find 20 = .ok (.astore_n 3, 1) := by decide +kernel
theorem dX4_find_21 : decode cX4_find 21 = .ok (.aload_n 3, 1) := by decide +kernel
theorem dX4_find_22 : decode cX4_find 22 = .ok (.iload_n 2, 1) := by decide +kernel
theorem dX4_find_23 : decode cX4_find 23 = .ok (.invokevirtual 79, 3) := by decide +kernel
theorem dX4_find_26 : decode cX4_find 26 = .ok (.iconst 4, 1) := by decide +kernel
theorem dX4_find_27 : decode cX4_find 27 = .ok (.if_icmp .eq 6, 3) := by decide +kernel
theorem dX4_find_30 : decode cX4_find 30 = .ok (.bipush (-5), 2) := by decide +kernel
theorem dX4_find_32 : decode cX4_find 32 = .ok (.ireturn, 1) := by decide +kernel
theorem dX4_find_33 : decode cX4_find 33 = .ok (.aload_n 0, 1) := by decide +kernel
theorem dX4_find_34 : decode cX4_find 34 = .ok (.getfield 19, 3) := by decide +kernel
theorem dX4_find_37 : decode cX4_find 37 = .ok (.aload_n 0, 1) := by decide +kernel
theorem dX4_find_38 : decode cX4_find 38 = .ok (.getfield 10, 3) := by decide +kernel
theorem dX4_find_41 : decode cX4_find 41 = .ok (.invokevirtual 45, 3) := by decide +kernel
theorem dX4_find_44 : decode cX4_find 44 = .ok (.aload_n 3, 1) := by decide +kernel
theorem dX4_find_45 : decode cX4_find 45 = .ok (.getfield 82, 3) := by decide +kernel
theorem dX4_find_48 : decode cX4_find 48 = .ok (.iload_n 2, 1) := by decide +kernel
theorem dX4_find_49 : decode cX4_find 49 = .ok (.iaload, 1) := by decide +kernel
theorem dX4_find_50 : decode cX4_find 50 = .ok (.istore 4, 2) := by decide +kernel
theorem dX4_find_52 : decode cX4_find 52 = .ok (.aload_n 3, 1) := by decide +kernel
theorem dX4_find_53 : decode cX4_find 53 = .ok (.iload_n 2, 1) := by decide +kernel
theorem dX4_find_54 : decode cX4_find 54 = .ok (.invokevirtual 85, 3) := by decide +kernel
theorem dX4_find_57 : decode cX4_find 57 = .ok (.aload_n 0, 1) := by decide +kernel
theorem dX4_find_58 : decode cX4_find 58 = .ok (.iload 4, 2) := by decide +kernel
theorem dX4_find_60 : decode cX4_find 60 = .ok (.invokevirtual 53, 3) := by decide +kernel
theorem dX4_find_63 : decode cX4_find 63 = .ok (.ireturn, 1) := by decide +kernel
theorem dX4_pass_0 : decode cX4_pass 0 = .ok (.aload_n 0, 1) := by decide +kernel
theorem dX4_pass_1 : decode cX4_pass 1 = .ok (.getfield 19, 3) := by decide +kernel
theorem dX4_pass_4 : decode cX4_pass 4 = .ok (.aload_n 0, 1) := by decide +kernel
theorem dX4_pass_5 : decode cX4_pass 5 = .ok (.getfield 10, 3) := by decide +kernel
theorem dX4_pass_8 : decode cX4_pass 8 = .ok (.invokevirtual 45, 3) := by decide +kernel
theorem dX4_pass_11 : decode cX4_pass 11 = .ok (.aload_n 0, 1) := by decide +kernel
theorem dX4_pass_12 : decode cX4_pass 12 = .ok (.aload_n 0, 1) := by decide +kernel
theorem dX4_pass_13 : decode cX4_pass 13 = .ok (.iload_n 1, 1) := by decide +kernel
theorem dX4_pass_14 : decode cX4_pass 14 = .ok (.invokevirtual 89, 3) := by decide +kernel
theorem dX4_pass_17 : decode cX4_pass 17 = .ok (.invokevirtual 53, 3) := by decide +kernel
theorem dX4_pass_20 : decode cX4_pass 20 = .ok (.ireturn, 1) := by decide +kernel
theorem dX4_recorded_0 : decode cX4_recorded 0 = .ok (.iload_n 1, 1) := by decide +kernel
theorem dX4_recorded_1 : decode cX4_recorded 1 = .ok (.ifCond .lt 10, 3) := by decide +kernel
theorem dX4_recorded_4 : decode cX4_recorded 4 = .ok (.aload_n 0, 1) := by decide +kernel
theorem dX4_recorded_5 : decode cX4_recorded 5 = .ok (.getfield 19, 3) := by decide +kernel
theorem dX4_recorded_8 : decode cX4_recorded 8 = .ok (.invokevirtual 92, 3) := by decide +kernel
theorem dX4_recorded_11 : decode cX4_recorded 11 = .ok (.iload_n 1, 1) := by decide +kernel
theorem dX4_recorded_12 : decode cX4_recorded 12 = .ok (.ireturn, 1) := by decide +kernel
theorem dX4_addTroop_0 : decode cX4_addTroop 0 = .ok (.iload_n 1, 1) := by decide +kernel
theorem dX4_addTroop_1 : decode cX4_addTroop 1 = .ok (.invokestatic 95, 3) := by decide +kernel
theorem dX4_addTroop_4 : decode cX4_addTroop 4 = .ok (.ifCond .ne 6, 3) := by decide +kernel
theorem dX4_addTroop_7 : decode cX4_addTroop 7 = .ok (.bipush (-2), 2) := by decide +kernel
theorem dX4_addTroop_9 : decode cX4_addTroop 9 = .ok (.ireturn, 1) := by decide +kernel
theorem dX4_addTroop_10 : decode cX4_addTroop 10 = .ok (.aload_n 0, 1) := by decide +kernel
theorem dX4_addTroop_11 : decode cX4_addTroop 11 = .ok (.getfield 10, 3) := by decide +kernel
theorem dX4_addTroop_14 : decode cX4_addTroop 14 = .ok (.getfield 99, 3) := by decide +kernel
theorem dX4_addTroop_17 : decode cX4_addTroop 17 = .ok (.iconst 5, 1) := by decide +kernel
theorem dX4_addTroop_18 : decode cX4_addTroop 18 = .ok (.if_icmp .lt 6, 3) := by decide +kernel
theorem dX4_addTroop_21 : decode cX4_addTroop 21 = .ok (.bipush (-4), 2) := by decide +kernel
theorem dX4_addTroop_23 : decode cX4_addTroop 23 = .ok (.ireturn, 1) := by decide +kernel
theorem dX4_addTroop_24 : decode cX4_addTroop 24 = .ok (.aload_n 0, 1) := by decide +kernel
theorem dX4_addTroop_25 : decode cX4_addTroop 25 = .ok (.getfield 10, 3) := by decide +kernel
theorem dX4_addTroop_28 : decode cX4_addTroop 28 = .ok (.getfield 99, 3) := by decide +kernel
theorem dX4_addTroop_31 : decode cX4_addTroop 31 = .ok (.istore_n 2, 1) := by decide +kernel
theorem dX4_addTroop_32 : decode cX4_addTroop 32 = .ok (.aload_n 0, 1) := by decide +kernel
theorem dX4_addTroop_33 : decode cX4_addTroop 33 = .ok (.getfield 10, 3) := by decide +kernel
theorem dX4_addTroop_36 : decode cX4_addTroop 36 = .ok (.getfield 75, 3) := by decide +kernel
theorem dX4_addTroop_39 : decode cX4_addTroop 39 = .ok (.iload_n 2, 1) := by decide +kernel
theorem dX4_addTroop_40 : decode cX4_addTroop 40 = .ok (.aaload, 1) := by decide +kernel
theorem dX4_addTroop_41 : decode cX4_addTroop 41 = .ok (.iload_n 1, 1) := by decide +kernel
theorem dX4_addTroop_42 : decode cX4_addTroop 42 = .ok (.invokevirtual 103, 3) := by decide +kernel
theorem dX4_addTroop_45 : decode cX4_addTroop 45 = .ok (.aload_n 0, 1) := by decide +kernel
theorem dX4_addTroop_46 : decode cX4_addTroop 46 = .ok (.getfield 10, 3) := by decide +kernel
theorem dX4_addTroop_49 : decode cX4_addTroop 49 = .ok (.dup, 1) := by decide +kernel
theorem dX4_addTroop_50 : decode cX4_addTroop 50 = .ok (.getfield 99, 3) := by decide +kernel
theorem dX4_addTroop_53 : decode cX4_addTroop 53 = .ok (.iconst 1, 1) := by decide +kernel
theorem dX4_addTroop_54 : decode cX4_addTroop 54 = .ok (.iadd, 1) := by decide +kernel
theorem dX4_addTroop_55 : decode cX4_addTroop 55 = .ok (.putfield 99, 3) := by decide +kernel
theorem dX4_addTroop_58 : decode cX4_addTroop 58 = .ok (.iload_n 2, 1) := by decide +kernel
theorem dX4_addTroop_59 : decode cX4_addTroop 59 = .ok (.ireturn, 1) := by decide +kernel
theorem dX4_changeSize_0 : decode cX4_changeSize 0 = .ok (.aload_n 0, 1) := by decide +kernel
theorem dX4_changeSize_1 : decode cX4_changeSize 1 = .ok (.iload_n 1, 1) := by decide +kernel
theorem dX4_changeSize_2 : decode cX4_changeSize 2 = .ok (.invokevirtual 106, 3) := by decide +kernel
theorem dX4_changeSize_5 : decode cX4_changeSize 5 = .ok (.ifCond .ne 5, 3) := by decide +kernel
theorem dX4_changeSize_8 : decode cX4_changeSize 8 = .ok (.iconst (-1), 1) := by decide +kernel
theorem dX4_changeSize_9 : decode cX4_changeSize 9 = .ok (.ireturn, 1) := by decide +kernel
theorem dX4_changeSize_10 : decode cX4_changeSize 10 = .ok (.iload_n 2, 1) := by decide +kernel
theorem dX4_changeSize_11 : decode cX4_changeSize 11 = .ok (.invokestatic 95, 3) := by decide +kernel
theorem dX4_changeSize_14 : decode cX4_changeSize 14 = .ok (.ifCond .ne 6, 3) := by decide +kernel
theorem dX4_changeSize_17 : decode cX4_changeSize 17 = .ok (.bipush (-2), 2) := by decide +kernel
theorem dX4_changeSize_19 : decode cX4_changeSize 19 = .ok (.ireturn, 1) := by decide +kernel
theorem dX4_changeSize_20 : decode cX4_changeSize 20 = .ok (.aload_n 0, 1) := by decide +kernel
theorem dX4_changeSize_21 : decode cX4_changeSize 21 = .ok (.getfield 10, 3) := by decide +kernel
theorem dX4_changeSize_24 : decode cX4_changeSize 24 = .ok (.getfield 75, 3) := by decide +kernel
theorem dX4_changeSize_27 : decode cX4_changeSize 27 = .ok (.iload_n 1, 1) := by decide +kernel
theorem dX4_changeSize_28 : decode cX4_changeSize 28 = .ok (.aaload, 1) := by decide +kernel
theorem dX4_changeSize_29 : decode cX4_changeSize 29 = .ok (.astore_n 3, 1) := by decide +kernel
theorem dX4_changeSize_30 : decode cX4_changeSize 30 = .ok (.aload_n 3, 1) := by decide +kernel
theorem dX4_changeSize_31 : decode cX4_changeSize 31 = .ok (.getfield 109, 3) := by decide +kernel
theorem dX4_changeSize_34 : decode cX4_changeSize 34 = .ok (.istore 4, 2) := by decide +kernel
theorem dX4_changeSize_36 : decode cX4_changeSize 36 = .ok (.aload_n 3, 1) := by decide +kernel
theorem dX4_changeSize_37 : decode cX4_changeSize 37 = .ok (.iload_n 2, 1) := by decide +kernel
theorem dX4_changeSize_38 : decode cX4_changeSize 38 = .ok (.putfield 109, 3) := by decide +kernel
theorem dX4_changeSize_41 : decode cX4_changeSize 41 = .ok (.iload 4, 2) := by decide +kernel
theorem dX4_changeSize_43 : decode cX4_changeSize 43 = .ok (.ireturn, 1) := by decide +kernel
theorem dX4_letCome_0 : decode cX4_letCome 0 = .ok (.aload_n 0, 1) := by decide +kernel
theorem dX4_letCome_1 : decode cX4_letCome 1 = .ok (.iload_n 1, 1) := by decide +kernel
theorem dX4_letCome_2 : decode cX4_letCome 2 = .ok (.iload_n 2, 1) := by decide +kernel
theorem dX4_letCome_3 : decode cX4_letCome 3 = .ok (.iload_n 3, 1) := by decide +kernel
theorem dX4_letCome_4 : decode cX4_letCome 4 = .ok (.invokevirtual 112, 3) := by decide +kernel
theorem dX4_letCome_7 : decode cX4_letCome 7 = .ok (.istore 4, 2) := by decide +kernel
theorem dX4_letCome_9 : decode cX4_letCome 9 = .ok (.iload 4, 2) := by decide +kernel
theorem dX4_letCome_11 : decode cX4_letCome 11 = .ok (.ifCond .ge 6, 3) := by decide +kernel
theorem dX4_letCome_14 : decode cX4_letCome 14 = .ok (.iload 4, 2) := by decide +kernel
theorem dX4_letCome_16 : decode cX4_letCome 16 = .ok (.ireturn, 1) := by decide +kernel
theorem dX4_letCome_17 : decode cX4_letCome 17 = .ok (.iload 4, 2) := by decide +kernel
theorem dX4_letCome_19 : decode cX4_letCome 19 = .ok (.iconst 4, 1) := by decide +kernel
theorem dX4_letCome_20 : decode cX4_letCome 20 = .ok (.if_icmp .ne 19, 3) := by decide +kernel
theorem dX4_letCome_23 : decode cX4_letCome 23 = .ok (.aload_n 0, 1) := by decide +kernel
theorem dX4_letCome_24 : decode cX4_letCome 24 = .ok (.getfield 10, 3) := by decide +kernel
theorem dX4_letCome_27 : decode cX4_letCome 27 = .ok (.dup, 1) := by decide +kernel
theorem dX4_letCome_28 : decode cX4_letCome 28 = .ok (.getfield 115, 3) := by decide +kernel
theorem dX4_letCome_31 : decode cX4_letCome 31 = .ok (.iconst 1, 1) := by decide +kernel
theorem dX4_letCome_32 : decode cX4_letCome 32 = .ok (.iadd, 1) := by decide +kernel
theorem dX4_letCome_33 : decode cX4_letCome 33 = .ok (.putfield 115, 3) := by decide +kernel
theorem dX4_letCome_36 : decode cX4_letCome 36 = .ok (.goto 11, 3) := by decide +kernel
theorem dX4_letCome_39 : decode cX4_letCome 39 = .ok (.iload 4, 2) := by decide +kernel
theorem dX4_letCome_41 : decode cX4_letCome 41 = .ok (.ifCond .eq 6, 3) := by decide +kernel
theorem dX4_letCome_44 : decode cX4_letCome 44 = .ok (.bipush (-5), 2) := by decide +kernel
theorem dX4_letCome_46 : decode cX4_letCome 46 = .ok (.ireturn, 1) := by decide +kernel
theorem dX4_letCome_47 : decode cX4_letCome 47 = .ok (.aload_n 0, 1) := by decide +kernel
theorem dX4_letCome_48 : decode cX4_letCome 48 = .ok (.getfield 10, 3) := by decide +kernel
theorem dX4_letCome_51 : decode cX4_letCome 51 = .ok (.getfield 75, 3) := by decide +kernel
theorem dX4_letCome_54 : decode cX4_letCome 54 = .ok (.iload_n 1, 1) := by decide +kernel
theorem dX4_letCome_55 : decode cX4_letCome 55 = .ok (.aaload, 1) := by decide +kernel
theorem dX4_letCome_56 : decode cX4_letCome 56 = .ok (.iload_n 2, 1) := by decide +kernel
theorem dX4_letCome_57 : decode cX4_letCome 57 = .ok (.iload_n 3, 1) := by decide +kernel
theorem dX4_letCome_58 : decode cX4_letCome 58 = .ok (.aload_n 0, 1) := by decide +kernel
theorem dX4_letCome_59 : decode cX4_letCome 59 = .ok (.getfield 10, 3) := by decide +kernel
theorem dX4_letCome_62 : decode cX4_letCome 62 = .ok (.getfield 49, 3) := by decide +kernel
theorem dX4_letCome_65 : decode cX4_letCome 65 = .ok (.iconst 1, 1) := by decide +kernel
theorem dX4_letCome_66 : decode cX4_letCome 66 = .ok (.iaload, 1) := by decide +kernel
theorem dX4_letCome_67 : decode cX4_letCome 67 = .ok (.invokevirtual 118, 3) := by decide +kernel
theorem dX4_letCome_70 : decode cX4_letCome 70 = .ok (.ireturn, 1) := by decide +kernel
theorem dX4_loseScout_0 : decode cX4_loseScout 0 = .ok (.aload_n 0, 1) := by decide +kernel
theorem dX4_loseScout_1 : decode cX4_loseScout 1 = .ok (.iload_n 1, 1) := by decide +kernel
theorem dX4_loseScout_2 : decode cX4_loseScout 2 = .ok (.iload_n 2, 1) := by decide +kernel
theorem dX4_loseScout_3 : decode cX4_loseScout 3 = .ok (.invokevirtual 71, 3) := by decide +kernel
theorem dX4_loseScout_6 : decode cX4_loseScout 6 = .ok (.ifCond .ne 5, 3) := by decide +kernel
theorem dX4_loseScout_9 : decode cX4_loseScout 9 = .ok (.iconst (-1), 1) := by decide +kernel
theorem dX4_loseScout_10 : decode cX4_loseScout 10 = .ok (.ireturn, 1) := by decide +kernel
theorem dX4_loseScout_11 : decode cX4_loseScout 11 = .ok (.aload_n 0, 1) := by decide +kernel
theorem dX4_loseScout_12 : decode cX4_loseScout 12 = .ok (.getfield 10, 3) := by decide +kernel
theorem dX4_loseScout_15 : decode cX4_loseScout 15 = .ok (.getfield 75, 3) := by decide +kernel
theorem dX4_loseScout_18 : decode cX4_loseScout 18 = .ok (.iload_n 1, 1) := by decide +kernel
theorem dX4_loseScout_19 : decode cX4_loseScout 19 = .ok (.aaload, 1) := by decide +kernel
theorem dX4_loseScout_20 : decode cX4_loseScout 20 = .ok (.astore_n 3, 1) := by decide +kernel
theorem dX4_loseScout_21 : decode cX4_loseScout 21 = .ok (.aload_n 3, 1) := by decide +kernel
theorem dX4_loseScout_22 : decode cX4_loseScout 22 = .ok (.iload_n 2, 1) := by decide +kernel
theorem dX4_loseScout_23 : decode cX4_loseScout 23 = .ok (.invokevirtual 79, 3) := by decide +kernel
theorem dX4_loseScout_26 : decode cX4_loseScout 26 = .ok (.istore 4, 2) := by decide +kernel
theorem dX4_loseScout_28 : decode cX4_loseScout 28 = .ok (.iload 4, 2) := by decide +kernel
theorem dX4_loseScout_30 : decode cX4_loseScout 30 = .ok (.iconst 3, 1) := by decide +kernel
theorem dX4_loseScout_31 : decode cX4_loseScout 31 = .ok (.if_icmp .eq 9, 3) := by decide +kernel
theorem dX4_loseScout_34 : decode cX4_loseScout 34 = .ok (.iload 4, 2) := by decide +kernel
theorem dX4_loseScout_36 : decode cX4_loseScout 36 = .ok (.iconst 4, 1) := by decide +kernel
theorem dX4_loseScout_37 : decode cX4_loseScout 37 = .ok (.if_icmp .ne 6, 3) := by decide +kernel
theorem dX4_loseScout_40 : decode cX4_loseScout 40 = .ok (.bipush (-5), 2) := by decide +kernel
theorem dX4_loseScout_42 : decode cX4_loseScout 42 = .ok (.ireturn, 1) := by decide +kernel
theorem dX4_loseScout_43 : decode cX4_loseScout 43 = .ok (.aload_n 3, 1) := by decide +kernel
theorem dX4_loseScout_44 : decode cX4_loseScout 44 = .ok (.iload_n 2, 1) := by decide +kernel
theorem dX4_loseScout_45 : decode cX4_loseScout 45 = .ok (.invokevirtual 121, 3) := by decide +kernel
theorem dX4_loseScout_48 : decode cX4_loseScout 48 = .ok (.aload_n 3, 1) := by decide +kernel
theorem dX4_loseScout_49 : decode cX4_loseScout 49 = .ok (.invokevirtual 124, 3) := by decide +kernel
theorem dX4_loseScout_52 : decode cX4_loseScout 52 = .ok (.ireturn, 1) := by decide +kernel
theorem dX4_passMinutes_0 : decode cX4_passMinutes 0 = .ok (.iload_n 1, 1) := by decide +kernel
theorem dX4_passMinutes_1 : decode cX4_passMinutes 1 = .ok (.iconst 1, 1) := by decide +kernel
theorem dX4_passMinutes_2 : decode cX4_passMinutes 2 = .ok (.if_icmp .lt 9, 3) := by decide +kernel
theorem dX4_passMinutes_5 : decode cX4_passMinutes 5 = .ok (.iload_n 1, 1) := by decide +kernel
theorem dX4_passMinutes_6 : decode cX4_passMinutes 6 = .ok (.bipush 99, 2) := by decide +kernel
theorem dX4_passMinutes_8 : decode cX4_passMinutes 8 = .ok (.if_icmp .le 6, 3) := by decide +kernel
theorem dX4_passMinutes_11 : decode cX4_passMinutes 11 = .ok (.bipush (-2), 2) := by decide +kernel
theorem dX4_passMinutes_13 : decode cX4_passMinutes 13 = .ok (.ireturn, 1) := by decide +kernel
theorem dX4_passMinutes_14 : decode cX4_passMinutes 14 = .ok (.aload_n 0, 1) := by decide +kernel
theorem dX4_passMinutes_15 : decode cX4_passMinutes 15 = .ok (.getfield 10, 3) := by decide +kernel
theorem dX4_passMinutes_18 : decode cX4_passMinutes 18 = .ok (.getfield 128, 3) := by decide +kernel
theorem dX4_passMinutes_21 : decode cX4_passMinutes 21 = .ok (.iload_n 1, 1) := by decide +kernel
theorem dX4_passMinutes_22 : decode cX4_passMinutes 22 = .ok (.iadd, 1) := by decide +kernel
theorem dX4_passMinutes_23 : decode cX4_passMinutes 23 = .ok (.sipush 9999, 3) := by decide +kernel
theorem dX4_passMinutes_26 : decode cX4_passMinutes 26 = .ok (.if_icmp .le 6, 3) := by decide +kernel
theorem dX4_passMinutes_29 : decode cX4_passMinutes 29 = .ok (.bipush (-5), 2) := by decide +kernel
theorem dX4_passMinutes_31 : decode cX4_passMinutes 31 = .ok (.ireturn, 1) := by decide +kernel
theorem dX4_passMinutes_32 : decode cX4_passMinutes 32 = .ok (.iconst 0, 1) := by decide +kernel
theorem dX4_passMinutes_33 : decode cX4_passMinutes 33 = .ok (.istore_n 2, 1) := by decide +kernel
theorem dX4_passMinutes_34 : decode cX4_passMinutes 34 = .ok (.iconst 0, 1) := by decide +kernel
theorem dX4_passMinutes_35 : decode cX4_passMinutes 35 = .ok (.istore_n 3, 1) := by decide +kernel
theorem dX4_passMinutes_36 : decode cX4_passMinutes 36 = .ok (.iload_n 3, 1) := by decide +kernel
theorem dX4_passMinutes_37 : decode cX4_passMinutes 37 = .ok (.iload_n 1, 1) := by decide +kernel
theorem dX4_passMinutes_38 : decode cX4_passMinutes 38 = .ok (.if_icmp .ge 64, 3) := by decide +kernel
theorem dX4_passMinutes_41 : decode cX4_passMinutes 41 = .ok (.iconst 0, 1) := by decide +kernel
theorem dX4_passMinutes_42 : decode cX4_passMinutes 42 = .ok (.istore 4, 2) := by decide +kernel
theorem dX4_passMinutes_44 : decode cX4_passMinutes 44 = .ok (.iload 4, 2) := by decide +kernel
theorem dX4_passMinutes_46 : decode cX4_passMinutes 46 = .ok (.aload_n 0, 1) := by decide +kernel
theorem dX4_passMinutes_47 : decode cX4_passMinutes 47 = .ok (.getfield 10, 3) := by decide +kernel
theorem dX4_passMinutes_50 : decode cX4_passMinutes 50 = .ok (.getfield 99, 3) := by decide +kernel
theorem dX4_passMinutes_53 : decode cX4_passMinutes 53 = .ok (.if_icmp .ge 43, 3) := by decide +kernel
theorem dX4_passMinutes_56 : decode cX4_passMinutes 56 = .ok (.iload_n 2, 1) := by decide +kernel
theorem dX4_passMinutes_57 : decode cX4_passMinutes 57 = .ok (.aload_n 0, 1) := by decide +kernel
theorem dX4_passMinutes_58 : decode cX4_passMinutes 58 = .ok (.getfield 10, 3) := by decide +kernel
theorem dX4_passMinutes_61 : decode cX4_passMinutes 61 = .ok (.getfield 75, 3) := by decide +kernel
theorem dX4_passMinutes_64 : decode cX4_passMinutes 64 = .ok (.iload 4, 2) := by decide +kernel
theorem dX4_passMinutes_66 : decode cX4_passMinutes 66 = .ok (.aaload, 1) := by decide +kernel
theorem dX4_passMinutes_67 : decode cX4_passMinutes 67 = .ok (.aload_n 0, 1) := by decide +kernel
theorem dX4_passMinutes_68 : decode cX4_passMinutes 68 = .ok (.getfield 10, 3) := by decide +kernel
theorem dX4_passMinutes_71 : decode cX4_passMinutes 71 = .ok (.getfield 49, 3) := by decide +kernel
theorem dX4_passMinutes_74 : decode cX4_passMinutes 74 = .ok (.iconst 0, 1) := by decide +kernel
theorem dX4_passMinutes_75 : decode cX4_passMinutes 75 = .ok (.iaload, 1) := by decide +kernel
theorem dX4_passMinutes_76 : decode cX4_passMinutes 76 = .ok (.aload_n 0, 1) := by decide +kernel
theorem dX4_passMinutes_77 : decode cX4_passMinutes 77 = .ok (.getfield 10, 3) := by decide +kernel
theorem dX4_passMinutes_80 : decode cX4_passMinutes 80 = .ok (.getfield 49, 3) := by decide +kernel
theorem dX4_passMinutes_83 : decode cX4_passMinutes 83 = .ok (.iconst 1, 1) := by decide +kernel
theorem dX4_passMinutes_84 : decode cX4_passMinutes 84 = .ok (.iaload, 1) := by decide +kernel
theorem dX4_passMinutes_85 : decode cX4_passMinutes 85 = .ok (.invokevirtual 130, 3) := by decide +kernel
theorem dX4_passMinutes_88 : decode cX4_passMinutes 88 = .ok (.iadd, 1) := by decide +kernel
theorem dX4_passMinutes_89 : decode cX4_passMinutes 89 = .ok (.istore_n 2, 1) := by decide +kernel
theorem dX4_passMinutes_90 : decode cX4_passMinutes 90 = .ok (.iinc 4 1, 3) := by decide +kernel
theorem dX4_passMinutes_93 : decode cX4_passMinutes 93 = .ok (.goto (-49), 3) := by decide +kernel
theorem dX4_passMinutes_96 : decode cX4_passMinutes 96 = .ok (.iinc 3 1, 3) := by decide +kernel
theorem dX4_passMinutes_99 : decode cX4_passMinutes 99 = .ok (.goto (-63), 3) := by decide +kernel
theorem dX4_passMinutes_102 : decode cX4_passMinutes 102 = .ok (.aload_n 0, 1) := by decide +kernel
theorem dX4_passMinutes_103 : decode cX4_passMinutes 103 = .ok (.getfield 10, 3) := by decide +kernel
theorem dX4_passMinutes_106 : decode cX4_passMinutes 106 = .ok (.dup, 1) := by decide +kernel
theorem dX4_passMinutes_107 : decode cX4_passMinutes 107 = .ok (.getfield 128, 3) := by decide +kernel
theorem dX4_passMinutes_110 : decode cX4_passMinutes 110 = .ok (.iload_n 1, 1) := by decide +kernel
theorem dX4_passMinutes_111 : decode cX4_passMinutes 111 = .ok (.iadd, 1) := by decide +kernel
theorem dX4_passMinutes_112 : decode cX4_passMinutes 112 = .ok (.putfield 128, 3) := by decide +kernel
theorem dX4_passMinutes_115 : decode cX4_passMinutes 115 = .ok (.iload_n 2, 1) := by decide +kernel
theorem dX4_passMinutes_116 : decode cX4_passMinutes 116 = .ok (.ireturn, 1) := by decide +kernel
theorem dX4_ofTroop_0 : decode cX4_ofTroop 0 = .ok (.aload_n 0, 1) := by decide +kernel
theorem dX4_ofTroop_1 : decode cX4_ofTroop 1 = .ok (.iload_n 1, 1) := by decide +kernel
theorem dX4_ofTroop_2 : decode cX4_ofTroop 2 = .ok (.invokevirtual 106, 3) := by decide +kernel
theorem dX4_ofTroop_5 : decode cX4_ofTroop 5 = .ok (.ifCond .ne 5, 3) := by decide +kernel
theorem dX4_ofTroop_8 : decode cX4_ofTroop 8 = .ok (.iconst (-1), 1) := by decide +kernel
theorem dX4_ofTroop_9 : decode cX4_ofTroop 9 = .ok (.ireturn, 1) := by decide +kernel
theorem dX4_ofTroop_10 : decode cX4_ofTroop 10 = .ok (.aload_n 0, 1) := by decide +kernel
theorem dX4_ofTroop_11 : decode cX4_ofTroop 11 = .ok (.getfield 10, 3) := by decide +kernel
theorem dX4_ofTroop_14 : decode cX4_ofTroop 14 = .ok (.getfield 75, 3) := by decide +kernel
theorem dX4_ofTroop_17 : decode cX4_ofTroop 17 = .ok (.iload_n 1, 1) := by decide +kernel
theorem dX4_ofTroop_18 : decode cX4_ofTroop 18 = .ok (.aaload, 1) := by decide +kernel
theorem dX4_ofTroop_19 : decode cX4_ofTroop 19 = .ok (.astore_n 3, 1) := by decide +kernel
theorem dX4_ofTroop_20 : decode cX4_ofTroop 20 = .ok (.iload_n 2, 1) := by decide +kernel
theorem dX4_ofTroop_21 : decode cX4_ofTroop 21 = .ok (.tableswitch 123 0 11 #[63, 68, 73, 78, 83, 88, 93, 98, 103, 108, 113, 118], 63) := by decide +kernel
theorem dX4_ofTroop_84 : decode cX4_ofTroop 84 = .ok (.aload_n 3, 1) := by decide +kernel
theorem dX4_ofTroop_85 : decode cX4_ofTroop 85 = .ok (.getfield 133, 3) := by decide +kernel
theorem dX4_ofTroop_88 : decode cX4_ofTroop 88 = .ok (.ireturn, 1) := by decide +kernel
theorem dX4_ofTroop_89 : decode cX4_ofTroop 89 = .ok (.aload_n 3, 1) := by decide +kernel
theorem dX4_ofTroop_90 : decode cX4_ofTroop 90 = .ok (.getfield 136, 3) := by decide +kernel
theorem dX4_ofTroop_93 : decode cX4_ofTroop 93 = .ok (.ireturn, 1) := by decide +kernel
theorem dX4_ofTroop_94 : decode cX4_ofTroop 94 = .ok (.aload_n 3, 1) := by decide +kernel
theorem dX4_ofTroop_95 : decode cX4_ofTroop 95 = .ok (.getfield 109, 3) := by decide +kernel
theorem dX4_ofTroop_98 : decode cX4_ofTroop 98 = .ok (.ireturn, 1) := by decide +kernel
theorem dX4_ofTroop_99 : decode cX4_ofTroop 99 = .ok (.aload_n 3, 1) := by decide +kernel
theorem dX4_ofTroop_100 : decode cX4_ofTroop 100 = .ok (.invokevirtual 124, 3) := by decide +kernel
theorem dX4_ofTroop_103 : decode cX4_ofTroop 103 = .ok (.ireturn, 1) := by decide +kernel
theorem dX4_ofTroop_104 : decode cX4_ofTroop 104 = .ok (.aload_n 3, 1) := by decide +kernel
theorem dX4_ofTroop_105 : decode cX4_ofTroop 105 = .ok (.getfield 139, 3) := by decide +kernel
theorem dX4_ofTroop_108 : decode cX4_ofTroop 108 = .ok (.ireturn, 1) := by decide +kernel
theorem dX4_ofTroop_109 : decode cX4_ofTroop 109 = .ok (.aload_n 3, 1) := by decide +kernel
theorem dX4_ofTroop_110 : decode cX4_ofTroop 110 = .ok (.invokevirtual 142, 3) := by decide +kernel
theorem dX4_ofTroop_113 : decode cX4_ofTroop 113 = .ok (.ireturn, 1) := by decide +kernel
theorem dX4_ofTroop_114 : decode cX4_ofTroop 114 = .ok (.aload_n 3, 1) := by decide +kernel
theorem dX4_ofTroop_115 : decode cX4_ofTroop 115 = .ok (.getfield 145, 3) := by decide +kernel
theorem dX4_ofTroop_118 : decode cX4_ofTroop 118 = .ok (.ireturn, 1) := by decide +kernel
theorem dX4_ofTroop_119 : decode cX4_ofTroop 119 = .ok (.aload_n 3, 1) := by decide +kernel
theorem dX4_ofTroop_120 : decode cX4_ofTroop 120 = .ok (.getfield 148, 3) := by decide +kernel
theorem dX4_ofTroop_123 : decode cX4_ofTroop 123 = .ok (.ireturn, 1) := by decide +kernel
theorem dX4_ofTroop_124 : decode cX4_ofTroop 124 = .ok (.aload_n 3, 1) := by decide +kernel
theorem dX4_ofTroop_125 : decode cX4_ofTroop 125 = .ok (.getfield 151, 3) := by decide +kernel
theorem dX4_ofTroop_128 : decode cX4_ofTroop 128 = .ok (.ireturn, 1) := by decide +kernel
theorem dX4_ofTroop_129 : decode cX4_ofTroop 129 = .ok (.aload_n 3, 1) := by decide +kernel
theorem dX4_ofTroop_130 : decode cX4_ofTroop 130 = .ok (.getfield 154, 3) := by decide +kernel
theorem dX4_ofTroop_133 : decode cX4_ofTroop 133 = .ok (.ireturn, 1) := by decide +kernel
theorem dX4_ofTroop_134 : decode cX4_ofTroop 134 = .ok (.aload_n 3, 1) := by decide +kernel
theorem dX4_ofTroop_135 : decode cX4_ofTroop 135 = .ok (.getfield 157, 3) := by decide +kernel
theorem dX4_ofTroop_138 : decode cX4_ofTroop 138 = .ok (.ireturn, 1) := by decide +kernel
theorem dX4_ofTroop_139 : decode cX4_ofTroop 139 = .ok (.aload_n 3, 1) := by decide +kernel
theorem dX4_ofTroop_140 : decode cX4_ofTroop 140 = .ok (.getfield 160, 3) := by decide +kernel
theorem dX4_ofTroop_143 : decode cX4_ofTroop 143 = .ok (.ireturn, 1) := by decide +kernel
theorem dX4_ofTroop_144 : decode cX4_ofTroop 144 = .ok (.bipush (-2), 2) := by decide +kernel
theorem dX4_ofTroop_146 : decode cX4_ofTroop 146 = .ok (.ireturn, 1) := by decide +kernel
theorem dX4_of_0 : decode cX4_of 0 = .ok (.aload_n 0, 1) := by decide +kernel
theorem dX4_of_1 : decode cX4_of 1 = .ok (.iload_n 1, 1) := by decide +kernel
theorem dX4_of_2 : decode cX4_of 2 = .ok (.invokevirtual 106, 3) := by decide +kernel
theorem dX4_of_5 : decode cX4_of 5 = .ok (.ifCond .ne 5, 3) := by decide +kernel
theorem dX4_of_8 : decode cX4_of 8 = .ok (.iconst (-1), 1) := by decide +kernel
theorem dX4_of_9 : decode cX4_of 9 = .ok (.ireturn, 1) := by decide +kernel
theorem dX4_of_10 : decode cX4_of 10 = .ok (.aload_n 0, 1) := by decide +kernel
theorem dX4_of_11 : decode cX4_of 11 = .ok (.getfield 10, 3) := by decide +kernel
theorem dX4_of_14 : decode cX4_of 14 = .ok (.getfield 75, 3) := by decide +kernel
theorem dX4_of_17 : decode cX4_of 17 = .ok (.iload_n 1, 1) := by decide +kernel
theorem dX4_of_18 : decode cX4_of 18 = .ok (.aaload, 1) := by decide +kernel
theorem dX4_of_19 : decode cX4_of 19 = .ok (.astore 4, 2) := by decide +kernel
theorem dX4_of_21 : decode cX4_of 21 = .ok (.aload 4, 2) := by decide +kernel
theorem dX4_of_23 : decode cX4_of 23 = .ok (.iload_n 2, 1) := by decide +kernel
theorem dX4_of_24 : decode cX4_of 24 = .ok (.invokevirtual 163, 3) := by decide +kernel
theorem dX4_of_27 : decode cX4_of 27 = .ok (.ifCond .ne 5, 3) := by decide +kernel
theorem dX4_of_30 : decode cX4_of 30 = .ok (.iconst (-1), 1) := by decide +kernel
theorem dX4_of_31 : decode cX4_of 31 = .ok (.ireturn, 1) := by decide +kernel
theorem dX4_of_32 : decode cX4_of 32 = .ok (.iload_n 3, 1) := by decide +kernel
theorem dX4_of_33 : decode cX4_of 33 = .ok (.tableswitch 64 0 3 #[31, 38, 46, 54], 31) := by decide +kernel
theorem dX4_of_64 : decode cX4_of 64 = .ok (.aload 4, 2) := by decide +kernel
theorem dX4_of_66 : decode cX4_of 66 = .ok (.iload_n 2, 1) := by decide +kernel
theorem dX4_of_67 : decode cX4_of 67 = .ok (.invokevirtual 79, 3) := by decide +kernel
theorem dX4_of_70 : decode cX4_of 70 = .ok (.ireturn, 1) := by decide +kernel
theorem dX4_of_71 : decode cX4_of 71 = .ok (.aload 4, 2) := by decide +kernel
theorem dX4_of_73 : decode cX4_of 73 = .ok (.getfield 82, 3) := by decide +kernel
theorem dX4_of_76 : decode cX4_of 76 = .ok (.iload_n 2, 1) := by decide +kernel
theorem dX4_of_77 : decode cX4_of 77 = .ok (.iaload, 1) := by decide +kernel
theorem dX4_of_78 : decode cX4_of 78 = .ok (.ireturn, 1) := by decide +kernel
theorem dX4_of_79 : decode cX4_of 79 = .ok (.aload 4, 2) := by decide +kernel
theorem dX4_of_81 : decode cX4_of 81 = .ok (.getfield 166, 3) := by decide +kernel
theorem dX4_of_84 : decode cX4_of 84 = .ok (.iload_n 2, 1) := by decide +kernel
theorem dX4_of_85 : decode cX4_of 85 = .ok (.iaload, 1) := by decide +kernel
theorem dX4_of_86 : decode cX4_of 86 = .ok (.ireturn, 1) := by decide +kernel
theorem dX4_of_87 : decode cX4_of 87 = .ok (.aload 4, 2) := by decide +kernel
theorem dX4_of_89 : decode cX4_of 89 = .ok (.getfield 157, 3) := by decide +kernel
theorem dX4_of_92 : decode cX4_of 92 = .ok (.iload_n 2, 1) := by decide +kernel
theorem dX4_of_93 : decode cX4_of 93 = .ok (.ishr, 1) := by decide +kernel
theorem dX4_of_94 : decode cX4_of 94 = .ok (.iconst 1, 1) := by decide +kernel
theorem dX4_of_95 : decode cX4_of 95 = .ok (.iand, 1) := by decide +kernel
theorem dX4_of_96 : decode cX4_of 96 = .ok (.ireturn, 1) := by decide +kernel
theorem dX4_of_97 : decode cX4_of 97 = .ok (.bipush (-2), 2) := by decide +kernel
theorem dX4_of_99 : decode cX4_of 99 = .ok (.ireturn, 1) := by decide +kernel
theorem dX4_count_0 : decode cX4_count 0 = .ok (.iload_n 1, 1) := by decide +kernel
theorem dX4_count_1 : decode cX4_count 1 = .ok (.tableswitch 139 0 9 #[55, 63, 71, 79, 87, 95, 103, 113, 123, 131], 55) := by decide +kernel
theorem dX4_count_56 : decode cX4_count 56 = .ok (.aload_n 0, 1) := by decide +kernel
theorem dX4_count_57 : decode cX4_count 57 = .ok (.getfield 10, 3) := by decide +kernel
theorem dX4_count_60 : decode cX4_count 60 = .ok (.getfield 128, 3) := by decide +kernel
theorem dX4_count_63 : decode cX4_count 63 = .ok (.ireturn, 1) := by decide +kernel
theorem dX4_count_64 : decode cX4_count 64 = .ok (.aload_n 0, 1) := by decide +kernel
theorem dX4_count_65 : decode cX4_count 65 = .ok (.getfield 10, 3) := by decide +kernel
theorem dX4_count_68 : decode cX4_count 68 = .ok (.getfield 99, 3) := by decide +kernel
theorem dX4_count_71 : decode cX4_count 71 = .ok (.ireturn, 1) := by decide +kernel
theorem dX4_count_72 : decode cX4_count 72 = .ok (.aload_n 0, 1) := by decide +kernel
theorem dX4_count_73 : decode cX4_count 73 = .ok (.getfield 10, 3) := by decide +kernel
theorem dX4_count_76 : decode cX4_count 76 = .ok (.invokevirtual 169, 3) := by decide +kernel
theorem dX4_count_79 : decode cX4_count 79 = .ok (.ireturn, 1) := by decide +kernel
theorem dX4_count_80 : decode cX4_count 80 = .ok (.aload_n 0, 1) := by decide +kernel
theorem dX4_count_81 : decode cX4_count 81 = .ok (.getfield 10, 3) := by decide +kernel
theorem dX4_count_84 : decode cX4_count 84 = .ok (.invokevirtual 171, 3) := by decide +kernel
theorem dX4_count_87 : decode cX4_count 87 = .ok (.ireturn, 1) := by decide +kernel
theorem dX4_count_88 : decode cX4_count 88 = .ok (.aload_n 0, 1) := by decide +kernel
theorem dX4_count_89 : decode cX4_count 89 = .ok (.getfield 10, 3) := by decide +kernel
theorem dX4_count_92 : decode cX4_count 92 = .ok (.invokevirtual 174, 3) := by decide +kernel
theorem dX4_count_95 : decode cX4_count 95 = .ok (.ireturn, 1) := by decide +kernel
theorem dX4_count_96 : decode cX4_count 96 = .ok (.aload_n 0, 1) := by decide +kernel
theorem dX4_count_97 : decode cX4_count 97 = .ok (.getfield 10, 3) := by decide +kernel
theorem dX4_count_100 : decode cX4_count 100 = .ok (.getfield 115, 3) := by decide +kernel
theorem dX4_count_103 : decode cX4_count 103 = .ok (.ireturn, 1) := by decide +kernel
theorem dX4_count_104 : decode cX4_count 104 = .ok (.aload_n 0, 1) := by decide +kernel
theorem dX4_count_105 : decode cX4_count 105 = .ok (.getfield 10, 3) := by decide +kernel
theorem dX4_count_108 : decode cX4_count 108 = .ok (.getfield 49, 3) := by decide +kernel
theorem dX4_count_111 : decode cX4_count 111 = .ok (.iconst 0, 1) := by decide +kernel
theorem dX4_count_112 : decode cX4_count 112 = .ok (.iaload, 1) := by decide +kernel
theorem dX4_count_113 : decode cX4_count 113 = .ok (.ireturn, 1) := by decide +kernel
theorem dX4_count_114 : decode cX4_count 114 = .ok (.aload_n 0, 1) := by decide +kernel
theorem dX4_count_115 : decode cX4_count 115 = .ok (.getfield 10, 3) := by decide +kernel
theorem dX4_count_118 : decode cX4_count 118 = .ok (.getfield 49, 3) := by decide +kernel
theorem dX4_count_121 : decode cX4_count 121 = .ok (.iconst 1, 1) := by decide +kernel
theorem dX4_count_122 : decode cX4_count 122 = .ok (.iaload, 1) := by decide +kernel
theorem dX4_count_123 : decode cX4_count 123 = .ok (.ireturn, 1) := by decide +kernel
theorem dX4_count_124 : decode cX4_count 124 = .ok (.aload_n 0, 1) := by decide +kernel
theorem dX4_count_125 : decode cX4_count 125 = .ok (.getfield 34, 3) := by decide +kernel
theorem dX4_count_128 : decode cX4_count 128 = .ok (.getfield 177, 3) := by decide +kernel
theorem dX4_count_131 : decode cX4_count 131 = .ok (.ireturn, 1) := by decide +kernel
theorem dX4_count_132 : decode cX4_count 132 = .ok (.aload_n 0, 1) := by decide +kernel
theorem dX4_count_133 : decode cX4_count 133 = .ok (.getfield 19, 3) := by decide +kernel
theorem dX4_count_136 : decode cX4_count 136 = .ok (.getfield 180, 3) := by decide +kernel
theorem dX4_count_139 : decode cX4_count 139 = .ok (.ireturn, 1) := by decide +kernel
theorem dX4_count_140 : decode cX4_count 140 = .ok (.bipush (-2), 2) := by decide +kernel
theorem dX4_count_142 : decode cX4_count 142 = .ok (.ireturn, 1) := by decide +kernel
theorem dX4_why_0 : decode cX4_why 0 = .ok (.aload_n 0, 1) := by decide +kernel
theorem dX4_why_1 : decode cX4_why 1 = .ok (.iload_n 1, 1) := by decide +kernel
theorem dX4_why_2 : decode cX4_why 2 = .ok (.iload_n 2, 1) := by decide +kernel
theorem dX4_why_3 : decode cX4_why 3 = .ok (.invokevirtual 71, 3) := by decide +kernel
theorem dX4_why_6 : decode cX4_why 6 = .ok (.ifCond .ne 5, 3) := by decide +kernel
theorem dX4_why_9 : decode cX4_why 9 = .ok (.iconst (-1), 1) := by decide +kernel
theorem dX4_why_10 : decode cX4_why 10 = .ok (.ireturn, 1) := by decide +kernel
theorem dX4_why_11 : decode cX4_why 11 = .ok (.iload_n 3, 1) := by decide +kernel
theorem dX4_why_12 : decode cX4_why 12 = .ok (.ifCond .lt 8, 3) := by decide +kernel
theorem dX4_why_15 : decode cX4_why 15 = .ok (.iload_n 3, 1) := by decide +kernel
theorem dX4_why_16 : decode cX4_why 16 = .ok (.iconst 1, 1) := by decide +kernel
theorem dX4_why_17 : decode cX4_why 17 = .ok (.if_icmp .le 6, 3) := by decide +kernel
theorem dX4_why_20 : decode cX4_why 20 = .ok (.bipush (-2), 2) := by decide +kernel
theorem dX4_why_22 : decode cX4_why 22 = .ok (.ireturn, 1) := by decide +kernel
theorem dX4_why_23 : decode cX4_why 23 = .ok (.aload_n 0, 1) := by decide +kernel
theorem dX4_why_24 : decode cX4_why 24 = .ok (.getfield 10, 3) := by decide +kernel
theorem dX4_why_27 : decode cX4_why 27 = .ok (.getfield 75, 3) := by decide +kernel
theorem dX4_why_30 : decode cX4_why 30 = .ok (.iload_n 1, 1) := by decide +kernel
theorem dX4_why_31 : decode cX4_why 31 = .ok (.aaload, 1) := by decide +kernel
theorem dX4_why_32 : decode cX4_why 32 = .ok (.astore 4, 2) := by decide +kernel
theorem dX4_why_34 : decode cX4_why 34 = .ok (.aload 4, 2) := by decide +kernel
theorem dX4_why_36 : decode cX4_why 36 = .ok (.iload_n 2, 1) := by decide +kernel
theorem dX4_why_37 : decode cX4_why 37 = .ok (.invokevirtual 79, 3) := by decide +kernel
theorem dX4_why_40 : decode cX4_why 40 = .ok (.tableswitch 34 1 3 #[30, 32, 28], 28) := by decide +kernel
theorem dX4_why_68 : decode cX4_why 68 = .ok (.iconst 1, 1) := by decide +kernel
theorem dX4_why_69 : decode cX4_why 69 = .ok (.ireturn, 1) := by decide +kernel
theorem dX4_why_70 : decode cX4_why 70 = .ok (.iconst 2, 1) := by decide +kernel
theorem dX4_why_71 : decode cX4_why 71 = .ok (.ireturn, 1) := by decide +kernel
theorem dX4_why_72 : decode cX4_why 72 = .ok (.iconst 3, 1) := by decide +kernel
theorem dX4_why_73 : decode cX4_why 73 = .ok (.ireturn, 1) := by decide +kernel
theorem dX4_why_74 : decode cX4_why 74 = .ok (.iload_n 3, 1) := by decide +kernel
theorem dX4_why_75 : decode cX4_why 75 = .ok (.aload 4, 2) := by decide +kernel
theorem dX4_why_77 : decode cX4_why 77 = .ok (.getfield 136, 3) := by decide +kernel
theorem dX4_why_80 : decode cX4_why 80 = .ok (.if_icmp .ne 7, 3) := by decide +kernel
theorem dX4_why_83 : decode cX4_why 83 = .ok (.iconst 0, 1) := by decide +kernel
theorem dX4_why_84 : decode cX4_why 84 = .ok (.goto 4, 3) := by decide +kernel
theorem dX4_why_87 : decode cX4_why 87 = .ok (.iconst 4, 1) := by decide +kernel
theorem dX4_why_88 : decode cX4_why 88 = .ok (.ireturn, 1) := by decide +kernel
theorem dX4_waitsFor_0 : decode cX4_waitsFor 0 = .ok (.aload_n 0, 1) := by decide +kernel
theorem dX4_waitsFor_1 : decode cX4_waitsFor 1 = .ok (.iload_n 1, 1) := by decide +kernel
theorem dX4_waitsFor_2 : decode cX4_waitsFor 2 = .ok (.invokevirtual 106, 3) := by decide +kernel
theorem dX4_waitsFor_5 : decode cX4_waitsFor 5 = .ok (.ifCond .ne 5, 3) := by decide +kernel
theorem dX4_waitsFor_8 : decode cX4_waitsFor 8 = .ok (.iconst (-1), 1) := by decide +kernel
theorem dX4_waitsFor_9 : decode cX4_waitsFor 9 = .ok (.ireturn, 1) := by decide +kernel
theorem dX4_waitsFor_10 : decode cX4_waitsFor 10 = .ok (.aload_n 0, 1) := by decide +kernel
theorem dX4_waitsFor_11 : decode cX4_waitsFor 11 = .ok (.getfield 10, 3) := by decide +kernel
theorem dX4_waitsFor_14 : decode cX4_waitsFor 14 = .ok (.getfield 75, 3) := by decide +kernel
theorem dX4_waitsFor_17 : decode cX4_waitsFor 17 = .ok (.iload_n 1, 1) := by decide +kernel
theorem dX4_waitsFor_18 : decode cX4_waitsFor 18 = .ok (.aaload, 1) := by decide +kernel
theorem dX4_waitsFor_19 : decode cX4_waitsFor 19 = .ok (.invokevirtual 183, 3) := by decide +kernel
theorem dX4_waitsFor_22 : decode cX4_waitsFor 22 = .ok (.ireturn, 1) := by decide +kernel
theorem dX4_opensIn_0 : decode cX4_opensIn 0 = .ok (.aload_n 0, 1) := by decide +kernel
theorem dX4_opensIn_1 : decode cX4_opensIn 1 = .ok (.iload_n 1, 1) := by decide +kernel
theorem dX4_opensIn_2 : decode cX4_opensIn 2 = .ok (.invokevirtual 106, 3) := by decide +kernel
theorem dX4_opensIn_5 : decode cX4_opensIn 5 = .ok (.ifCond .ne 5, 3) := by decide +kernel
theorem dX4_opensIn_8 : decode cX4_opensIn 8 = .ok (.iconst (-1), 1) := by decide +kernel
theorem dX4_opensIn_9 : decode cX4_opensIn 9 = .ok (.ireturn, 1) := by decide +kernel
theorem dX4_opensIn_10 : decode cX4_opensIn 10 = .ok (.aload_n 0, 1) := by decide +kernel
theorem dX4_opensIn_11 : decode cX4_opensIn 11 = .ok (.getfield 41, 3) := by decide +kernel
theorem dX4_opensIn_14 : decode cX4_opensIn 14 = .ok (.aload_n 0, 1) := by decide +kernel
theorem dX4_opensIn_15 : decode cX4_opensIn 15 = .ok (.getfield 10, 3) := by decide +kernel
theorem dX4_opensIn_18 : decode cX4_opensIn 18 = .ok (.getfield 75, 3) := by decide +kernel
theorem dX4_opensIn_21 : decode cX4_opensIn 21 = .ok (.iload_n 1, 1) := by decide +kernel
theorem dX4_opensIn_22 : decode cX4_opensIn 22 = .ok (.aaload, 1) := by decide +kernel
theorem dX4_opensIn_23 : decode cX4_opensIn 23 = .ok (.invokevirtual 186, 3) := by decide +kernel
theorem dX4_opensIn_26 : decode cX4_opensIn 26 = .ok (.iconst 1, 1) := by decide +kernel
theorem dX4_opensIn_27 : decode cX4_opensIn 27 = .ok (.istore_n 2, 1) := by decide +kernel
theorem dX4_opensIn_28 : decode cX4_opensIn 28 = .ok (.iload_n 2, 1) := by decide +kernel
theorem dX4_opensIn_29 : decode cX4_opensIn 29 = .ok (.sipush 200, 3) := by decide +kernel
theorem dX4_opensIn_32 : decode cX4_opensIn 32 = .ok (.if_icmp .gt 39, 3) := by decide +kernel
theorem dX4_opensIn_35 : decode cX4_opensIn 35 = .ok (.aload_n 0, 1) := by decide +kernel
theorem dX4_opensIn_36 : decode cX4_opensIn 36 = .ok (.getfield 41, 3) := by decide +kernel
theorem dX4_opensIn_39 : decode cX4_opensIn 39 = .ok (.aload_n 0, 1) := by decide +kernel
theorem dX4_opensIn_40 : decode cX4_opensIn 40 = .ok (.getfield 10, 3) := by decide +kernel
theorem dX4_opensIn_43 : decode cX4_opensIn 43 = .ok (.getfield 49, 3) := by decide +kernel
theorem dX4_opensIn_46 : decode cX4_opensIn 46 = .ok (.iconst 0, 1) := by decide +kernel
theorem dX4_opensIn_47 : decode cX4_opensIn 47 = .ok (.iaload, 1) := by decide +kernel
theorem dX4_opensIn_48 : decode cX4_opensIn 48 = .ok (.aload_n 0, 1) := by decide +kernel
theorem dX4_opensIn_49 : decode cX4_opensIn 49 = .ok (.getfield 10, 3) := by decide +kernel
theorem dX4_opensIn_52 : decode cX4_opensIn 52 = .ok (.getfield 49, 3) := by decide +kernel
theorem dX4_opensIn_55 : decode cX4_opensIn 55 = .ok (.iconst 1, 1) := by decide +kernel
theorem dX4_opensIn_56 : decode cX4_opensIn 56 = .ok (.iaload, 1) := by decide +kernel
theorem dX4_opensIn_57 : decode cX4_opensIn 57 = .ok (.invokevirtual 130, 3) := by decide +kernel
theorem dX4_opensIn_60 : decode cX4_opensIn 60 = .ok (.ifCond .le 5, 3) := by decide +kernel
theorem dX4_opensIn_63 : decode cX4_opensIn 63 = .ok (.iload_n 2, 1) := by decide +kernel
theorem dX4_opensIn_64 : decode cX4_opensIn 64 = .ok (.ireturn, 1) := by decide +kernel
theorem dX4_opensIn_65 : decode cX4_opensIn 65 = .ok (.iinc 2 1, 3) := by decide +kernel
theorem dX4_opensIn_68 : decode cX4_opensIn 68 = .ok (.goto (-40), 3) := by decide +kernel
theorem dX4_opensIn_71 : decode cX4_opensIn 71 = .ok (.bipush (-6), 2) := by decide +kernel
theorem dX4_opensIn_73 : decode cX4_opensIn 73 = .ok (.ireturn, 1) := by decide +kernel
theorem dX4_couldHike_0 : decode cX4_couldHike 0 = .ok (.aload_n 0, 1) := by decide +kernel
theorem dX4_couldHike_1 : decode cX4_couldHike 1 = .ok (.iload_n 1, 1) := by decide +kernel
theorem dX4_couldHike_2 : decode cX4_couldHike 2 = .ok (.invokevirtual 106, 3) := by decide +kernel
theorem dX4_couldHike_5 : decode cX4_couldHike 5 = .ok (.ifCond .ne 5, 3) := by decide +kernel
theorem dX4_couldHike_8 : decode cX4_couldHike 8 = .ok (.iconst (-1), 1) := by decide +kernel
theorem dX4_couldHike_9 : decode cX4_couldHike 9 = .ok (.ireturn, 1) := by decide +kernel
theorem dX4_couldHike_10 : decode cX4_couldHike 10 = .ok (.aload_n 0, 1) := by decide +kernel
theorem dX4_couldHike_11 : decode cX4_couldHike 11 = .ok (.getfield 41, 3) := by decide +kernel
theorem dX4_couldHike_14 : decode cX4_couldHike 14 = .ok (.aload_n 0, 1) := by decide +kernel
theorem dX4_couldHike_15 : decode cX4_couldHike 15 = .ok (.getfield 10, 3) := by decide +kernel
theorem dX4_couldHike_18 : decode cX4_couldHike 18 = .ok (.getfield 75, 3) := by decide +kernel
theorem dX4_couldHike_21 : decode cX4_couldHike 21 = .ok (.iload_n 1, 1) := by decide +kernel
theorem dX4_couldHike_22 : decode cX4_couldHike 22 = .ok (.aaload, 1) := by decide +kernel
theorem dX4_couldHike_23 : decode cX4_couldHike 23 = .ok (.invokevirtual 186, 3) := by decide +kernel
theorem dX4_couldHike_26 : decode cX4_couldHike 26 = .ok (.iconst 0, 1) := by decide +kernel
theorem dX4_couldHike_27 : decode cX4_couldHike 27 = .ok (.istore_n 2, 1) := by decide +kernel
theorem dX4_couldHike_28 : decode cX4_couldHike 28 = .ok (.iconst 0, 1) := by decide +kernel
theorem dX4_couldHike_29 : decode cX4_couldHike 29 = .ok (.istore_n 3, 1) := by decide +kernel
theorem dX4_couldHike_30 : decode cX4_couldHike 30 = .ok (.iload_n 3, 1) := by decide +kernel
theorem dX4_couldHike_31 : decode cX4_couldHike 31 = .ok (.iconst 3, 1) := by decide +kernel
theorem dX4_couldHike_32 : decode cX4_couldHike 32 = .ok (.if_icmp .ge 65, 3) := by decide +kernel
theorem dX4_couldHike_35 : decode cX4_couldHike 35 = .ok (.iconst 0, 1) := by decide +kernel
theorem dX4_couldHike_36 : decode cX4_couldHike 36 = .ok (.istore 4, 2) := by decide +kernel
theorem dX4_couldHike_38 : decode cX4_couldHike 38 = .ok (.iload 4, 2) := by decide +kernel
theorem dX4_couldHike_40 : decode cX4_couldHike 40 = .ok (.bipush 16, 2) := by decide +kernel
theorem dX4_couldHike_42 : decode cX4_couldHike 42 = .ok (.if_icmp .ge 49, 3) := by decide +kernel
theorem dX4_couldHike_45 : decode cX4_couldHike 45 = .ok (.aload_n 0, 1) := by decide +kernel
theorem dX4_couldHike_46 : decode cX4_couldHike 46 = .ok (.getfield 41, 3) := by decide +kernel
theorem dX4_couldHike_49 : decode cX4_couldHike 49 = .ok (.iload 4, 2) := by decide +kernel
theorem dX4_couldHike_51 : decode cX4_couldHike 51 = .ok (.invokevirtual 190, 3) := by decide +kernel
theorem dX4_couldHike_54 : decode cX4_couldHike 54 = .ok (.ifCond .eq 31, 3) := by decide +kernel
theorem dX4_couldHike_57 : decode cX4_couldHike 57 = .ok (.iload_n 2, 1) := by decide +kernel
theorem dX4_couldHike_58 : decode cX4_couldHike 58 = .ok (.aload_n 0, 1) := by decide +kernel
theorem dX4_couldHike_59 : decode cX4_couldHike 59 = .ok (.getfield 41, 3) := by decide +kernel
theorem dX4_couldHike_62 : decode cX4_couldHike 62 = .ok (.iload 4, 2) := by decide +kernel
theorem dX4_couldHike_64 : decode cX4_couldHike 64 = .ok (.aload_n 0, 1) := by decide +kernel
theorem dX4_couldHike_65 : decode cX4_couldHike 65 = .ok (.getfield 41, 3) := by decide +kernel
theorem dX4_couldHike_68 : decode cX4_couldHike 68 = .ok (.getfield 136, 3) := by decide +kernel
theorem dX4_couldHike_71 : decode cX4_couldHike 71 = .ok (.aload_n 0, 1) := by decide +kernel
theorem dX4_couldHike_72 : decode cX4_couldHike 72 = .ok (.getfield 10, 3) := by decide +kernel
theorem dX4_couldHike_75 : decode cX4_couldHike 75 = .ok (.getfield 49, 3) := by decide +kernel
theorem dX4_couldHike_78 : decode cX4_couldHike 78 = .ok (.iconst 1, 1) := by decide +kernel
theorem dX4_couldHike_79 : decode cX4_couldHike 79 = .ok (.iaload, 1) := by decide +kernel
theorem dX4_couldHike_80 : decode cX4_couldHike 80 = .ok (.invokevirtual 118, 3) := by decide +kernel
theorem dX4_couldHike_83 : decode cX4_couldHike 83 = .ok (.iadd, 1) := by decide +kernel
theorem dX4_couldHike_84 : decode cX4_couldHike 84 = .ok (.istore_n 2, 1) := by decide +kernel
theorem dX4_couldHike_85 : decode cX4_couldHike 85 = .ok (.iinc 4 1, 3) := by decide +kernel
theorem dX4_couldHike_88 : decode cX4_couldHike 88 = .ok (.goto (-50), 3) := by decide +kernel
theorem dX4_couldHike_91 : decode cX4_couldHike 91 = .ok (.iinc 3 1, 3) := by decide +kernel
theorem dX4_couldHike_94 : decode cX4_couldHike 94 = .ok (.goto (-64), 3) := by decide +kernel
theorem dX4_couldHike_97 : decode cX4_couldHike 97 = .ok (.iload_n 2, 1) := by decide +kernel
theorem dX4_couldHike_98 : decode cX4_couldHike 98 = .ok (.ireturn, 1) := by decide +kernel
theorem dX4_put_0 : decode cX4_put 0 = .ok (.lload_n 1, 1) := by decide +kernel
theorem dX4_put_1 : decode cX4_put 1 = .ok (.invokestatic 193, 3) := by decide +kernel
theorem dX4_put_4 : decode cX4_put 4 = .ok (.istore_n 3, 1) := by decide +kernel
theorem dX4_put_5 : decode cX4_put 5 = .ok (.iload_n 3, 1) := by decide +kernel
theorem dX4_put_6 : decode cX4_put 6 = .ok (.ifCond .ne 6, 3) := by decide +kernel
theorem dX4_put_9 : decode cX4_put 9 = .ok (.bipush (-2), 2) := by decide +kernel
theorem dX4_put_11 : decode cX4_put 11 = .ok (.ireturn, 1) := by decide +kernel
theorem dX4_put_12 : decode cX4_put 12 = .ok (.aload_n 0, 1) := by decide +kernel
theorem dX4_put_13 : decode cX4_put 13 = .ok (.getfield 34, 3) := by decide +kernel
theorem dX4_put_16 : decode cX4_put 16 = .ok (.getfield 177, 3) := by decide +kernel
theorem dX4_put_19 : decode cX4_put 19 = .ok (.iload_n 3, 1) := by decide +kernel
theorem dX4_put_20 : decode cX4_put 20 = .ok (.iadd, 1) := by decide +kernel
theorem dX4_put_21 : decode cX4_put 21 = .ok (.bipush 80, 2) := by decide +kernel
theorem dX4_put_23 : decode cX4_put 23 = .ok (.if_icmp .le 6, 3) := by decide +kernel
theorem dX4_put_26 : decode cX4_put 26 = .ok (.bipush (-4), 2) := by decide +kernel
theorem dX4_put_28 : decode cX4_put 28 = .ok (.ireturn, 1) := by decide +kernel
theorem dX4_put_29 : decode cX4_put 29 = .ok (.aload_n 0, 1) := by decide +kernel
theorem dX4_put_30 : decode cX4_put 30 = .ok (.getfield 34, 3) := by decide +kernel
theorem dX4_put_33 : decode cX4_put 33 = .ok (.lload_n 1, 1) := by decide +kernel
theorem dX4_put_34 : decode cX4_put 34 = .ok (.iload_n 3, 1) := by decide +kernel
theorem dX4_put_35 : decode cX4_put 35 = .ok (.invokevirtual 197, 3) := by decide +kernel
theorem dX4_put_38 : decode cX4_put 38 = .ok (.aload_n 0, 1) := by decide +kernel
theorem dX4_put_39 : decode cX4_put 39 = .ok (.getfield 34, 3) := by decide +kernel
theorem dX4_put_42 : decode cX4_put 42 = .ok (.getfield 177, 3) := by decide +kernel
theorem dX4_put_45 : decode cX4_put 45 = .ok (.ireturn, 1) := by decide +kernel
theorem dX4_wipe_0 : decode cX4_wipe 0 = .ok (.aload_n 0, 1) := by decide +kernel
theorem dX4_wipe_1 : decode cX4_wipe 1 = .ok (.getfield 34, 3) := by decide +kernel
theorem dX4_wipe_4 : decode cX4_wipe 4 = .ok (.getfield 177, 3) := by decide +kernel
theorem dX4_wipe_7 : decode cX4_wipe 7 = .ok (.istore_n 1, 1) := by decide +kernel
theorem dX4_wipe_8 : decode cX4_wipe 8 = .ok (.aload_n 0, 1) := by decide +kernel
theorem dX4_wipe_9 : decode cX4_wipe 9 = .ok (.getfield 34, 3) := by decide +kernel
theorem dX4_wipe_12 : decode cX4_wipe 12 = .ok (.iconst 0, 1) := by decide +kernel
theorem dX4_wipe_13 : decode cX4_wipe 13 = .ok (.putfield 177, 3) := by decide +kernel
theorem dX4_wipe_16 : decode cX4_wipe 16 = .ok (.iload_n 1, 1) := by decide +kernel
theorem dX4_wipe_17 : decode cX4_wipe 17 = .ok (.ireturn, 1) := by decide +kernel
theorem dX4_fault_0 : decode cX4_fault 0 = .ok (.aload_n 0, 1) := by decide +kernel
theorem dX4_fault_1 : decode cX4_fault 1 = .ok (.getfield 34, 3) := by decide +kernel
theorem dX4_fault_4 : decode cX4_fault 4 = .ok (.invokevirtual 201, 3) := by decide +kernel
theorem dX4_fault_7 : decode cX4_fault 7 = .ok (.ireturn, 1) := by decide +kernel
theorem dX4_carryOut_0 : decode cX4_carryOut 0 = .ok (.aload_n 0, 1) := by decide +kernel
theorem dX4_carryOut_1 : decode cX4_carryOut 1 = .ok (.getfield 34, 3) := by decide +kernel
theorem dX4_carryOut_4 : decode cX4_carryOut 4 = .ok (.invokevirtual 201, 3) := by decide +kernel
theorem dX4_carryOut_7 : decode cX4_carryOut 7 = .ok (.bipush (-6), 2) := by decide +kernel
theorem dX4_carryOut_9 : decode cX4_carryOut 9 = .ok (.if_icmp .eq 6, 3) := by decide +kernel
theorem dX4_carryOut_12 : decode cX4_carryOut 12 = .ok (.bipush (-3), 2) := by decide +kernel
theorem dX4_carryOut_14 : decode cX4_carryOut 14 = .ok (.ireturn, 1) := by decide +kernel
theorem dX4_carryOut_15 : decode cX4_carryOut 15 = .ok (.aload_n 0, 1) := by decide +kernel
theorem dX4_carryOut_16 : decode cX4_carryOut 16 = .ok (.getfield 19, 3) := by decide +kernel
theorem dX4_carryOut_19 : decode cX4_carryOut 19 = .ok (.aload_n 0, 1) := by decide +kernel
theorem dX4_carryOut_20 : decode cX4_carryOut 20 = .ok (.getfield 10, 3) := by decide +kernel
theorem dX4_carryOut_23 : decode cX4_carryOut 23 = .ok (.invokevirtual 45, 3) := by decide +kernel
theorem dX4_carryOut_26 : decode cX4_carryOut 26 = .ok (.iconst 0, 1) := by decide +kernel
theorem dX4_carryOut_27 : decode cX4_carryOut 27 = .ok (.istore_n 1, 1) := by decide +kernel
theorem dX4_carryOut_28 : decode cX4_carryOut 28 = .ok (.aload_n 0, 1) := by decide +kernel
theorem dX4_carryOut_29 : decode cX4_carryOut 29 = .ok (.getfield 34, 3) := by decide +kernel
theorem dX4_carryOut_32 : decode cX4_carryOut 32 = .ok (.iconst 0, 1) := by decide +kernel
theorem dX4_carryOut_33 : decode cX4_carryOut 33 = .ok (.putfield 204, 3) := by decide +kernel
theorem dX4_carryOut_36 : decode cX4_carryOut 36 = .ok (.iload_n 1, 1) := by decide +kernel
theorem dX4_carryOut_37 : decode cX4_carryOut 37 = .ok (.bipush 80, 2) := by decide +kernel
theorem dX4_carryOut_39 : decode cX4_carryOut 39 = .ok (.if_icmp .ge 36, 3) := by decide +kernel
theorem dX4_carryOut_42 : decode cX4_carryOut 42 = .ok (.aload_n 0, 1) := by decide +kernel
theorem dX4_carryOut_43 : decode cX4_carryOut 43 = .ok (.getfield 34, 3) := by decide +kernel
theorem dX4_carryOut_46 : decode cX4_carryOut 46 = .ok (.invokevirtual 207, 3) := by decide +kernel
theorem dX4_carryOut_49 : decode cX4_carryOut 49 = .ok (.ifCond .eq 26, 3) := by decide +kernel
theorem dX4_carryOut_52 : decode cX4_carryOut 52 = .ok (.aload_n 0, 1) := by decide +kernel
theorem dX4_carryOut_53 : decode cX4_carryOut 53 = .ok (.invokevirtual 211, 3) := by decide +kernel
theorem dX4_carryOut_56 : decode cX4_carryOut 56 = .ok (.ifCond .lt 19, 3) := by decide +kernel
theorem dX4_carryOut_59 : decode cX4_carryOut 59 = .ok (.iinc 1 1, 3) := by decide +kernel
theorem dX4_carryOut_62 : decode cX4_carryOut 62 = .ok (.aload_n 0, 1) := by decide +kernel
theorem dX4_carryOut_63 : decode cX4_carryOut 63 = .ok (.getfield 34, 3) := by decide +kernel
theorem dX4_carryOut_66 : decode cX4_carryOut 66 = .ok (.bipush 59, 2) := by decide +kernel
theorem dX4_carryOut_68 : decode cX4_carryOut 68 = .ok (.invokevirtual 214, 3) := by decide +kernel
theorem dX4_carryOut_71 : decode cX4_carryOut 71 = .ok (.pop, 1) := by decide +kernel
theorem dX4_carryOut_72 : decode cX4_carryOut 72 = .ok (.goto (-36), 3) := by decide +kernel
theorem dX4_carryOut_75 : decode cX4_carryOut 75 = .ok (.aload_n 0, 1) := by decide +kernel
theorem dX4_carryOut_76 : decode cX4_carryOut 76 = .ok (.getfield 34, 3) := by decide +kernel
theorem dX4_carryOut_79 : decode cX4_carryOut 79 = .ok (.iconst 0, 1) := by decide +kernel
theorem dX4_carryOut_80 : decode cX4_carryOut 80 = .ok (.putfield 177, 3) := by decide +kernel
theorem dX4_carryOut_83 : decode cX4_carryOut 83 = .ok (.aload_n 0, 1) := by decide +kernel
theorem dX4_carryOut_84 : decode cX4_carryOut 84 = .ok (.iload_n 1, 1) := by decide +kernel
theorem dX4_carryOut_85 : decode cX4_carryOut 85 = .ok (.invokevirtual 53, 3) := by decide +kernel
theorem dX4_carryOut_88 : decode cX4_carryOut 88 = .ok (.ireturn, 1) := by decide +kernel
theorem dX4_carryOrder_0 : decode cX4_carryOrder 0 = .ok (.aload_n 0, 1) := by decide +kernel
theorem dX4_carryOrder_1 : decode cX4_carryOrder 1 = .ok (.getfield 34, 3) := by decide +kernel
theorem dX4_carryOrder_4 : decode cX4_carryOrder 4 = .ok (.getfield 218, 3) := by decide +kernel
theorem dX4_carryOrder_7 : decode cX4_carryOrder 7 = .ok (.lookupswitch 137 #[(99, 61), (108, 87), (110, 49), (115, 106), (116, 125)], 49) := by decide +kernel
theorem dX4_carryOrder_56 : decode cX4_carryOrder 56 = .ok (.aload_n 0, 1) := by decide +kernel
theorem dX4_carryOrder_57 : decode cX4_carryOrder 57 = .ok (.aload_n 0, 1) := by decide +kernel
theorem dX4_carryOrder_58 : decode cX4_carryOrder 58 = .ok (.getfield 34, 3) := by decide +kernel
theorem dX4_carryOrder_61 : decode cX4_carryOrder 61 = .ok (.getfield 222, 3) := by decide +kernel
theorem dX4_carryOrder_64 : decode cX4_carryOrder 64 = .ok (.invokevirtual 57, 3) := by decide +kernel
theorem dX4_carryOrder_67 : decode cX4_carryOrder 67 = .ok (.ireturn, 1) := by decide +kernel
theorem dX4_carryOrder_68 : decode cX4_carryOrder 68 = .ok (.aload_n 0, 1) := by decide +kernel
theorem dX4_carryOrder_69 : decode cX4_carryOrder 69 = .ok (.aload_n 0, 1) := by decide +kernel
theorem dX4_carryOrder_70 : decode cX4_carryOrder 70 = .ok (.getfield 34, 3) := by decide +kernel
theorem dX4_carryOrder_73 : decode cX4_carryOrder 73 = .ok (.getfield 225, 3) := by decide +kernel
theorem dX4_carryOrder_76 : decode cX4_carryOrder 76 = .ok (.aload_n 0, 1) := by decide +kernel
theorem dX4_carryOrder_77 : decode cX4_carryOrder 77 = .ok (.getfield 34, 3) := by decide +kernel
theorem dX4_carryOrder_80 : decode cX4_carryOrder 80 = .ok (.getfield 222, 3) := by decide +kernel
theorem dX4_carryOrder_83 : decode cX4_carryOrder 83 = .ok (.aload_n 0, 1) := by decide +kernel
theorem dX4_carryOrder_84 : decode cX4_carryOrder 84 = .ok (.getfield 34, 3) := by decide +kernel
theorem dX4_carryOrder_87 : decode cX4_carryOrder 87 = .ok (.getfield 228, 3) := by decide +kernel
theorem dX4_carryOrder_90 : decode cX4_carryOrder 90 = .ok (.invokevirtual 64, 3) := by decide +kernel
theorem dX4_carryOrder_93 : decode cX4_carryOrder 93 = .ok (.ireturn, 1) := by decide +kernel
theorem dX4_carryOrder_94 : decode cX4_carryOrder 94 = .ok (.aload_n 0, 1) := by decide +kernel
theorem dX4_carryOrder_95 : decode cX4_carryOrder 95 = .ok (.aload_n 0, 1) := by decide +kernel
theorem dX4_carryOrder_96 : decode cX4_carryOrder 96 = .ok (.getfield 34, 3) := by decide +kernel
theorem dX4_carryOrder_99 : decode cX4_carryOrder 99 = .ok (.getfield 225, 3) := by decide +kernel
theorem dX4_carryOrder_102 : decode cX4_carryOrder 102 = .ok (.aload_n 0, 1) := by decide +kernel
theorem dX4_carryOrder_103 : decode cX4_carryOrder 103 = .ok (.getfield 34, 3) := by decide +kernel
theorem dX4_carryOrder_106 : decode cX4_carryOrder 106 = .ok (.getfield 222, 3) := by decide +kernel
theorem dX4_carryOrder_109 : decode cX4_carryOrder 109 = .ok (.invokevirtual 68, 3) := by decide +kernel
theorem dX4_carryOrder_112 : decode cX4_carryOrder 112 = .ok (.ireturn, 1) := by decide +kernel
theorem dX4_carryOrder_113 : decode cX4_carryOrder 113 = .ok (.aload_n 0, 1) := by decide +kernel
theorem dX4_carryOrder_114 : decode cX4_carryOrder 114 = .ok (.aload_n 0, 1) := by decide +kernel
theorem dX4_carryOrder_115 : decode cX4_carryOrder 115 = .ok (.getfield 34, 3) := by decide +kernel
theorem dX4_carryOrder_118 : decode cX4_carryOrder 118 = .ok (.getfield 225, 3) := by decide +kernel
theorem dX4_carryOrder_121 : decode cX4_carryOrder 121 = .ok (.aload_n 0, 1) := by decide +kernel
theorem dX4_carryOrder_122 : decode cX4_carryOrder 122 = .ok (.getfield 34, 3) := by decide +kernel
theorem dX4_carryOrder_125 : decode cX4_carryOrder 125 = .ok (.getfield 222, 3) := by decide +kernel
theorem dX4_carryOrder_128 : decode cX4_carryOrder 128 = .ok (.invokevirtual 60, 3) := by decide +kernel
theorem dX4_carryOrder_131 : decode cX4_carryOrder 131 = .ok (.ireturn, 1) := by decide +kernel
theorem dX4_carryOrder_132 : decode cX4_carryOrder 132 = .ok (.aload_n 0, 1) := by decide +kernel
theorem dX4_carryOrder_133 : decode cX4_carryOrder 133 = .ok (.aload_n 0, 1) := by decide +kernel
theorem dX4_carryOrder_134 : decode cX4_carryOrder 134 = .ok (.getfield 34, 3) := by decide +kernel
theorem dX4_carryOrder_137 : decode cX4_carryOrder 137 = .ok (.getfield 222, 3) := by decide +kernel
theorem dX4_carryOrder_140 : decode cX4_carryOrder 140 = .ok (.invokevirtual 89, 3) := by decide +kernel
theorem dX4_carryOrder_143 : decode cX4_carryOrder 143 = .ok (.ireturn, 1) := by decide +kernel
theorem dX4_carryOrder_144 : decode cX4_carryOrder 144 = .ok (.bipush (-3), 2) := by decide +kernel
theorem dX4_carryOrder_146 : decode cX4_carryOrder 146 = .ok (.ireturn, 1) := by decide +kernel
theorem dX4_undo_0 : decode cX4_undo 0 = .ok (.aload_n 0, 1) := by decide +kernel
theorem dX4_undo_1 : decode cX4_undo 1 = .ok (.getfield 19, 3) := by decide +kernel
theorem dX4_undo_4 : decode cX4_undo 4 = .ok (.getfield 180, 3) := by decide +kernel
theorem dX4_undo_7 : decode cX4_undo 7 = .ok (.ifCond .ne 6, 3) := by decide +kernel
theorem dX4_undo_10 : decode cX4_undo 10 = .ok (.bipush (-5), 2) := by decide +kernel
theorem dX4_undo_12 : decode cX4_undo 12 = .ok (.ireturn, 1) := by decide +kernel
theorem dX4_undo_13 : decode cX4_undo 13 = .ok (.aload_n 0, 1) := by decide +kernel
theorem dX4_undo_14 : decode cX4_undo 14 = .ok (.getfield 19, 3) := by decide +kernel
theorem dX4_undo_17 : decode cX4_undo 17 = .ok (.aload_n 0, 1) := by decide +kernel
theorem dX4_undo_18 : decode cX4_undo 18 = .ok (.getfield 10, 3) := by decide +kernel
theorem dX4_undo_21 : decode cX4_undo 21 = .ok (.invokevirtual 229, 3) := by decide +kernel
theorem dX4_undo_24 : decode cX4_undo 24 = .ok (.aload_n 0, 1) := by decide +kernel
theorem dX4_undo_25 : decode cX4_undo 25 = .ok (.getfield 19, 3) := by decide +kernel
theorem dX4_undo_28 : decode cX4_undo 28 = .ok (.getfield 180, 3) := by decide +kernel
theorem dX4_undo_31 : decode cX4_undo 31 = .ok (.ireturn, 1) := by decide +kernel
theorem dX4_save_0 : decode cX4_save 0 = .ok (.iload_n 1, 1) := by decide +kernel
theorem dX4_save_1 : decode cX4_save 1 = .ok (.ifCond .lt 8, 3) := by decide +kernel
theorem dX4_save_4 : decode cX4_save 4 = .ok (.iload_n 1, 1) := by decide +kernel
theorem dX4_save_5 : decode cX4_save 5 = .ok (.iconst 2, 1) := by decide +kernel
theorem dX4_save_6 : decode cX4_save 6 = .ok (.if_icmp .lt 6, 3) := by decide +kernel
theorem dX4_save_9 : decode cX4_save 9 = .ok (.bipush (-2), 2) := by decide +kernel
theorem dX4_save_11 : decode cX4_save 11 = .ok (.ireturn, 1) := by decide +kernel
theorem dX4_save_12 : decode cX4_save 12 = .ok (.aload_n 0, 1) := by decide +kernel
theorem dX4_save_13 : decode cX4_save 13 = .ok (.getfield 23, 3) := by decide +kernel
theorem dX4_save_16 : decode cX4_save 16 = .ok (.iload_n 1, 1) := by decide +kernel
theorem dX4_save_17 : decode cX4_save 17 = .ok (.aaload, 1) := by decide +kernel
theorem dX4_save_18 : decode cX4_save 18 = .ok (.aload_n 0, 1) := by decide +kernel
theorem dX4_save_19 : decode cX4_save 19 = .ok (.getfield 10, 3) := by decide +kernel
theorem dX4_save_22 : decode cX4_save 22 = .ok (.invokevirtual 232, 3) := by decide +kernel
theorem dX4_save_25 : decode cX4_save 25 = .ok (.aload_n 0, 1) := by decide +kernel
theorem dX4_save_26 : decode cX4_save 26 = .ok (.getfield 27, 3) := by decide +kernel
theorem dX4_save_29 : decode cX4_save 29 = .ok (.iload_n 1, 1) := by decide +kernel
theorem dX4_save_30 : decode cX4_save 30 = .ok (.iconst 1, 1) := by decide +kernel
theorem dX4_save_31 : decode cX4_save 31 = .ok (.bastore, 1) := by decide +kernel
theorem dX4_save_32 : decode cX4_save 32 = .ok (.aload_n 0, 1) := by decide +kernel
theorem dX4_save_33 : decode cX4_save 33 = .ok (.getfield 10, 3) := by decide +kernel
theorem dX4_save_36 : decode cX4_save 36 = .ok (.getfield 99, 3) := by decide +kernel
theorem dX4_save_39 : decode cX4_save 39 = .ok (.ireturn, 1) := by decide +kernel
theorem dX4_restore_0 : decode cX4_restore 0 = .ok (.iload_n 1, 1) := by decide +kernel
theorem dX4_restore_1 : decode cX4_restore 1 = .ok (.ifCond .lt 8, 3) := by decide +kernel
theorem dX4_restore_4 : decode cX4_restore 4 = .ok (.iload_n 1, 1) := by decide +kernel
theorem dX4_restore_5 : decode cX4_restore 5 = .ok (.iconst 2, 1) := by decide +kernel
theorem dX4_restore_6 : decode cX4_restore 6 = .ok (.if_icmp .lt 6, 3) := by decide +kernel
theorem dX4_restore_9 : decode cX4_restore 9 = .ok (.bipush (-2), 2) := by decide +kernel
theorem dX4_restore_11 : decode cX4_restore 11 = .ok (.ireturn, 1) := by decide +kernel
theorem dX4_restore_12 : decode cX4_restore 12 = .ok (.aload_n 0, 1) := by decide +kernel
theorem dX4_restore_13 : decode cX4_restore 13 = .ok (.getfield 27, 3) := by decide +kernel
theorem dX4_restore_16 : decode cX4_restore 16 = .ok (.iload_n 1, 1) := by decide +kernel
theorem dX4_restore_17 : decode cX4_restore 17 = .ok (.baload, 1) := by decide +kernel
theorem dX4_restore_18 : decode cX4_restore 18 = .ok (.ifCond .ne 6, 3) := by decide +kernel
theorem dX4_restore_21 : decode cX4_restore 21 = .ok (.bipush (-5), 2) := by decide +kernel
theorem dX4_restore_23 : decode cX4_restore 23 = .ok (.ireturn, 1) := by decide +kernel
theorem dX4_restore_24 : decode cX4_restore 24 = .ok (.aload_n 0, 1) := by decide +kernel
theorem dX4_restore_25 : decode cX4_restore 25 = .ok (.getfield 19, 3) := by decide +kernel
theorem dX4_restore_28 : decode cX4_restore 28 = .ok (.aload_n 0, 1) := by decide +kernel
theorem dX4_restore_29 : decode cX4_restore 29 = .ok (.getfield 10, 3) := by decide +kernel
theorem dX4_restore_32 : decode cX4_restore 32 = .ok (.invokevirtual 45, 3) := by decide +kernel
theorem dX4_restore_35 : decode cX4_restore 35 = .ok (.aload_n 0, 1) := by decide +kernel
theorem dX4_restore_36 : decode cX4_restore 36 = .ok (.getfield 10, 3) := by decide +kernel
theorem dX4_restore_39 : decode cX4_restore 39 = .ok (.aload_n 0, 1) := by decide +kernel
theorem dX4_restore_40 : decode cX4_restore 40 = .ok (.getfield 23, 3) := by decide +kernel
theorem dX4_restore_43 : decode cX4_restore 43 = .ok (.iload_n 1, 1) := by decide +kernel
theorem dX4_restore_44 : decode cX4_restore 44 = .ok (.aaload, 1) := by decide +kernel
theorem dX4_restore_45 : decode cX4_restore 45 = .ok (.invokevirtual 232, 3) := by decide +kernel
theorem dX4_restore_48 : decode cX4_restore 48 = .ok (.aload_n 0, 1) := by decide +kernel
theorem dX4_restore_49 : decode cX4_restore 49 = .ok (.aload_n 0, 1) := by decide +kernel
theorem dX4_restore_50 : decode cX4_restore 50 = .ok (.getfield 10, 3) := by decide +kernel
theorem dX4_restore_53 : decode cX4_restore 53 = .ok (.getfield 99, 3) := by decide +kernel
theorem dX4_restore_56 : decode cX4_restore 56 = .ok (.invokevirtual 53, 3) := by decide +kernel
theorem dX4_restore_59 : decode cX4_restore 59 = .ok (.ireturn, 1) := by decide +kernel
theorem dX4_isTroop_0 : decode cX4_isTroop 0 = .ok (.iload_n 1, 1) := by decide +kernel
theorem dX4_isTroop_1 : decode cX4_isTroop 1 = .ok (.ifCond .lt 18, 3) := by decide +kernel
theorem dX4_isTroop_4 : decode cX4_isTroop 4 = .ok (.iload_n 1, 1) := by decide +kernel
theorem dX4_isTroop_5 : decode cX4_isTroop 5 = .ok (.aload_n 0, 1) := by decide +kernel
theorem dX4_isTroop_6 : decode cX4_isTroop 6 = .ok (.getfield 10, 3) := by decide +kernel
theorem dX4_isTroop_9 : decode cX4_isTroop 9 = .ok (.getfield 99, 3) := by decide +kernel
theorem dX4_isTroop_12 : decode cX4_isTroop 12 = .ok (.if_icmp .ge 7, 3) := by decide +kernel
theorem dX4_isTroop_15 : decode cX4_isTroop 15 = .ok (.iconst 1, 1) := by decide +kernel
theorem dX4_isTroop_16 : decode cX4_isTroop 16 = .ok (.goto 4, 3) := by decide +kernel
theorem dX4_isTroop_19 : decode cX4_isTroop 19 = .ok (.iconst 0, 1) := by decide +kernel
theorem dX4_isTroop_20 : decode cX4_isTroop 20 = .ok (.ireturn, 1) := by decide +kernel
theorem dX4_isScout_0 : decode cX4_isScout 0 = .ok (.aload_n 0, 1) := by decide +kernel
theorem dX4_isScout_1 : decode cX4_isScout 1 = .ok (.iload_n 1, 1) := by decide +kernel
theorem dX4_isScout_2 : decode cX4_isScout 2 = .ok (.invokevirtual 106, 3) := by decide +kernel
theorem dX4_isScout_5 : decode cX4_isScout 5 = .ok (.ifCond .eq 23, 3) := by decide +kernel
theorem dX4_isScout_8 : decode cX4_isScout 8 = .ok (.aload_n 0, 1) := by decide +kernel
theorem dX4_isScout_9 : decode cX4_isScout 9 = .ok (.getfield 10, 3) := by decide +kernel
theorem dX4_isScout_12 : decode cX4_isScout 12 = .ok (.getfield 75, 3) := by decide +kernel
theorem dX4_isScout_15 : decode cX4_isScout 15 = .ok (.iload_n 1, 1) := by decide +kernel
theorem dX4_isScout_16 : decode cX4_isScout 16 = .ok (.aaload, 1) := by decide +kernel
theorem dX4_isScout_17 : decode cX4_isScout 17 = .ok (.iload_n 2, 1) := by decide +kernel
theorem dX4_isScout_18 : decode cX4_isScout 18 = .ok (.invokevirtual 234, 3) := by decide +kernel
theorem dX4_isScout_21 : decode cX4_isScout 21 = .ok (.ifCond .eq 7, 3) := by decide +kernel
theorem dX4_isScout_24 : decode cX4_isScout 24 = .ok (.iconst 1, 1) := by decide +kernel
theorem dX4_isScout_25 : decode cX4_isScout 25 = .ok (.goto 4, 3) := by decide +kernel
theorem dX4_isScout_28 : decode cX4_isScout 28 = .ok (.iconst 0, 1) := by decide +kernel
theorem dX4_isScout_29 : decode cX4_isScout 29 = .ok (.ireturn, 1) := by decide +kernel
theorem dX4_isSize_0 : decode cX4_isSize 0 = .ok (.iload_n 0, 1) := by decide +kernel
theorem dX4_isSize_1 : decode cX4_isSize 1 = .ok (.iconst 1, 1) := by decide +kernel
theorem dX4_isSize_2 : decode cX4_isSize 2 = .ok (.if_icmp .lt 13, 3) := by decide +kernel
theorem dX4_isSize_5 : decode cX4_isSize 5 = .ok (.iload_n 0, 1) := by decide +kernel
theorem dX4_isSize_6 : decode cX4_isSize 6 = .ok (.bipush 16, 2) := by decide +kernel
theorem dX4_isSize_8 : decode cX4_isSize 8 = .ok (.if_icmp .gt 7, 3) := by decide +kernel
theorem dX4_isSize_11 : decode cX4_isSize 11 = .ok (.iconst 1, 1) := by decide +kernel
theorem dX4_isSize_12 : decode cX4_isSize 12 = .ok (.goto 4, 3) := by decide +kernel
theorem dX4_isSize_15 : decode cX4_isSize 15 = .ok (.iconst 0, 1) := by decide +kernel
theorem dX4_isSize_16 : decode cX4_isSize 16 = .ok (.ireturn, 1) := by decide +kernel
end
section
theorem dX5_init_0 : decode cX5_init 0 = .ok (.aload_n 0, 1) := by decide +kernel
theorem dX5_init_1 : decode cX5_init 1 = .ok (.invokespecial 1, 3) := by decide +kernel
theorem dX5_init_4 : decode cX5_init 4 = .ok (.aload_n 0, 1) := by decide +kernel
theorem dX5_init_5 : decode cX5_init 5 = .ok (.sipush 275, 3) := by decide +kernel
theorem dX5_init_8 : decode cX5_init 8 = .ok (.newarray .int, 2) := by decide +kernel
theorem dX5_init_10 : decode cX5_init 10 = .ok (.putfield 7, 3) := by decide +kernel
theorem dX5_init_13 : decode cX5_init 13 = .ok (.aload_n 0, 1) := by decide +kernel
theorem dX5_init_14 : decode cX5_init 14 = .ok (.sipush 1650, 3) := by decide +kernel
theorem dX5_init_17 : decode cX5_init 17 = .ok (.newarray .int, 2) := by decide +kernel
theorem dX5_init_19 : decode cX5_init 19 = .ok (.putfield 13, 3) := by decide +kernel
theorem dX5_init_22 : decode cX5_init 22 = .ok (.aload_n 0, 1) := by decide +kernel
theorem dX5_init_23 : decode cX5_init 23 = .ok (.sipush 275, 3) := by decide +kernel
theorem dX5_init_26 : decode cX5_init 26 = .ok (.newarray .int, 2) := by decide +kernel
theorem dX5_init_28 : decode cX5_init 28 = .ok (.putfield 16, 3) := by decide +kernel
theorem dX5_init_31 : decode cX5_init 31 = .ok (.aload_n 0, 1) := by decide +kernel
theorem dX5_init_32 : decode cX5_init 32 = .ok (.sipush 275, 3) := by decide +kernel
theorem dX5_init_35 : decode cX5_init 35 = .ok (.newarray .int, 2) := by decide +kernel
theorem dX5_init_37 : decode cX5_init 37 = .ok (.putfield 19, 3) := by decide +kernel
theorem dX5_init_40 : decode cX5_init 40 = .ok (.aload_n 0, 1) := by decide +kernel
theorem dX5_init_41 : decode cX5_init 41 = .ok (.sipush 550, 3) := by decide +kernel
theorem dX5_init_44 : decode cX5_init 44 = .ok (.newarray .int, 2) := by decide +kernel
theorem dX5_init_46 : decode cX5_init 46 = .ok (.putfield 22, 3) := by decide +kernel
theorem dX5_init_49 : decode cX5_init 49 = .ok (.aload_n 0, 1) := by decide +kernel
theorem dX5_init_50 : decode cX5_init 50 = .ok (.iconst 2, 1) := by decide +kernel
theorem dX5_init_51 : decode cX5_init 51 = .ok (.newarray .boolean, 2) := by decide +kernel
theorem dX5_init_53 : decode cX5_init 53 = .ok (.putfield 25, 3) := by decide +kernel
theorem dX5_init_56 : decode cX5_init 56 = .ok (.aload_n 0, 1) := by decide +kernel
theorem dX5_init_57 : decode cX5_init 57 = .ok (.bipush 80, 2) := by decide +kernel
theorem dX5_init_59 : decode cX5_init 59 = .ok (.newarray .int, 2) := by decide +kernel
theorem dX5_init_61 : decode cX5_init 61 = .ok (.putfield 29, 3) := by decide +kernel
theorem dX5_init_64 : decode cX5_init 64 = .ok (.aload_n 0, 1) := by decide +kernel
theorem dX5_init_65 : decode cX5_init 65 = .ok (.bipush 8, 2) := by decide +kernel
theorem dX5_init_67 : decode cX5_init 67 = .ok (.newarray .int, 2) := by decide +kernel
theorem dX5_init_69 : decode cX5_init 69 = .ok (.putfield 32, 3) := by decide +kernel
theorem dX5_init_72 : decode cX5_init 72 = .ok (.aload_n 0, 1) := by decide +kernel
theorem dX5_init_73 : decode cX5_init 73 = .ok (.getfield 7, 3) := by decide +kernel
theorem dX5_init_76 : decode cX5_init 76 = .ok (.iconst 0, 1) := by decide +kernel
theorem dX5_init_77 : decode cX5_init 77 = .ok (.bipush 20, 2) := by decide +kernel
theorem dX5_init_79 : decode cX5_init 79 = .ok (.iastore, 1) := by decide +kernel
theorem dX5_init_80 : decode cX5_init 80 = .ok (.aload_n 0, 1) := by decide +kernel
theorem dX5_init_81 : decode cX5_init 81 = .ok (.getfield 7, 3) := by decide +kernel
theorem dX5_init_84 : decode cX5_init 84 = .ok (.iconst 1, 1) := by decide +kernel
theorem dX5_init_85 : decode cX5_init 85 = .ok (.bipush 30, 2) := by decide +kernel
theorem dX5_init_87 : decode cX5_init 87 = .ok (.iastore, 1) := by decide +kernel
theorem dX5_init_88 : decode cX5_init 88 = .ok (.return_, 1) := by decide +kernel
theorem dX5_in_0 : decode cX5_in 0 = .ok (.lload_n 0, 1) := by decide +kernel
theorem dX5_in_1 : decode cX5_in 1 = .ok (.iload_n 2, 1) := by decide +kernel
theorem dX5_in_2 : decode cX5_in 2 = .ok (.i2l, 1) := by decide +kernel
theorem dX5_in_3 : decode cX5_in 3 = .ok (.lcmp, 1) := by decide +kernel
theorem dX5_in_4 : decode cX5_in 4 = .ok (.ifCond .lt 14, 3) := by decide +kernel
theorem dX5_in_7 : decode cX5_in 7 = .ok (.lload_n 0, 1) := by decide +kernel
theorem dX5_in_8 : decode cX5_in 8 = .ok (.iload_n 3, 1) := by decide +kernel
theorem dX5_in_9 : decode cX5_in 9 = .ok (.i2l, 1) := by decide +kernel
theorem dX5_in_10 : decode cX5_in 10 = .ok (.lcmp, 1) := by decide +kernel
theorem dX5_in_11 : decode cX5_in 11 = .ok (.ifCond .gt 7, 3) := by decide +kernel
theorem dX5_in_14 : decode cX5_in 14 = .ok (.iconst 1, 1) := by decide +kernel
theorem dX5_in_15 : decode cX5_in 15 = .ok (.goto 4, 3) := by decide +kernel
theorem dX5_in_18 : decode cX5_in 18 = .ok (.iconst 0, 1) := by decide +kernel
theorem dX5_in_19 : decode cX5_in 19 = .ok (.ireturn, 1) := by decide +kernel
theorem dX5_isTroop_0 : decode cX5_isTroop 0 = .ok (.iload_n 1, 1) := by decide +kernel
theorem dX5_isTroop_1 : decode cX5_isTroop 1 = .ok (.i2l, 1) := by decide +kernel
theorem dX5_isTroop_2 : decode cX5_isTroop 2 = .ok (.iconst 0, 1) := by decide +kernel
theorem dX5_isTroop_3 : decode cX5_isTroop 3 = .ok (.aload_n 0, 1) := by decide +kernel
theorem dX5_isTroop_4 : decode cX5_isTroop 4 = .ok (.getfield 7, 3) := by decide +kernel
theorem dX5_isTroop_7 : decode cX5_isTroop 7 = .ok (.iconst 3, 1) := by decide +kernel
theorem dX5_isTroop_8 : decode cX5_isTroop 8 = .ok (.iaload, 1) := by decide +kernel
theorem dX5_isTroop_9 : decode cX5_isTroop 9 = .ok (.iconst 1, 1) := by decide +kernel
theorem dX5_isTroop_10 : decode cX5_isTroop 10 = .ok (.isub, 1) := by decide +kernel
theorem dX5_isTroop_11 : decode cX5_isTroop 11 = .ok (.invokestatic 35, 3) := by decide +kernel
theorem dX5_isTroop_14 : decode cX5_isTroop 14 = .ok (.ireturn, 1) := by decide +kernel
theorem dX5_its_0 : decode cX5_its 0 = .ok (.aload_n 0, 1) := by decide +kernel
theorem dX5_its_1 : decode cX5_its 1 = .ok (.getfield 7, 3) := by decide +kernel
theorem dX5_its_4 : decode cX5_its 4 = .ok (.iconst 5, 1) := by decide +kernel
theorem dX5_its_5 : decode cX5_its 5 = .ok (.bipush 54, 2) := by decide +kernel
theorem dX5_its_7 : decode cX5_its 7 = .ok (.iload_n 1, 1) := by decide +kernel
theorem dX5_its_8 : decode cX5_its 8 = .ok (.imul, 1) := by decide +kernel
theorem dX5_its_9 : decode cX5_its 9 = .ok (.iadd, 1) := by decide +kernel
theorem dX5_its_10 : decode cX5_its 10 = .ok (.iload_n 2, 1) := by decide +kernel
theorem dX5_its_11 : decode cX5_its 11 = .ok (.iadd, 1) := by decide +kernel
theorem dX5_its_12 : decode cX5_its 12 = .ok (.iaload, 1) := by decide +kernel
theorem dX5_its_13 : decode cX5_its 13 = .ok (.ireturn, 1) := by decide +kernel
theorem dX5_lay_0 : decode cX5_lay 0 = .ok (.aload_n 0, 1) := by decide +kernel
theorem dX5_lay_1 : decode cX5_lay 1 = .ok (.getfield 7, 3) := by decide +kernel
theorem dX5_lay_4 : decode cX5_lay 4 = .ok (.iconst 5, 1) := by decide +kernel
theorem dX5_lay_5 : decode cX5_lay 5 = .ok (.bipush 54, 2) := by decide +kernel
theorem dX5_lay_7 : decode cX5_lay 7 = .ok (.iload_n 1, 1) := by decide +kernel
theorem dX5_lay_8 : decode cX5_lay 8 = .ok (.imul, 1) := by decide +kernel
theorem dX5_lay_9 : decode cX5_lay 9 = .ok (.iadd, 1) := by decide +kernel
theorem dX5_lay_10 : decode cX5_lay 10 = .ok (.iload_n 2, 1) := by decide +kernel
theorem dX5_lay_11 : decode cX5_lay 11 = .ok (.iadd, 1) := by decide +kernel
theorem dX5_lay_12 : decode cX5_lay 12 = .ok (.iload_n 3, 1) := by decide +kernel
theorem dX5_lay_13 : decode cX5_lay 13 = .ok (.iastore, 1) := by decide +kernel
theorem dX5_lay_14 : decode cX5_lay 14 = .ok (.return_, 1) := by decide +kernel
theorem dX5_scout_0 : decode cX5_scout 0 = .ok (.aload_n 0, 1) := by decide +kernel
theorem dX5_scout_1 : decode cX5_scout 1 = .ok (.getfield 7, 3) := by decide +kernel
theorem dX5_scout_4 : decode cX5_scout 4 = .ok (.iconst 5, 1) := by decide +kernel
theorem dX5_scout_5 : decode cX5_scout 5 = .ok (.bipush 54, 2) := by decide +kernel
theorem dX5_scout_7 : decode cX5_scout 7 = .ok (.iload_n 1, 1) := by decide +kernel
theorem dX5_scout_8 : decode cX5_scout 8 = .ok (.imul, 1) := by decide +kernel
theorem dX5_scout_9 : decode cX5_scout 9 = .ok (.iadd, 1) := by decide +kernel
theorem dX5_scout_10 : decode cX5_scout 10 = .ok (.bipush 6, 2) := by decide +kernel
theorem dX5_scout_12 : decode cX5_scout 12 = .ok (.iadd, 1) := by decide +kernel
theorem dX5_scout_13 : decode cX5_scout 13 = .ok (.iconst 3, 1) := by decide +kernel
theorem dX5_scout_14 : decode cX5_scout 14 = .ok (.iload_n 2, 1) := by decide +kernel
theorem dX5_scout_15 : decode cX5_scout 15 = .ok (.imul, 1) := by decide +kernel
theorem dX5_scout_16 : decode cX5_scout 16 = .ok (.iadd, 1) := by decide +kernel
theorem dX5_scout_17 : decode cX5_scout 17 = .ok (.iload_n 3, 1) := by decide +kernel
theorem dX5_scout_18 : decode cX5_scout 18 = .ok (.iadd, 1) := by decide +kernel
theorem dX5_scout_19 : decode cX5_scout 19 = .ok (.iaload, 1) := by decide +kernel
theorem dX5_scout_20 : decode cX5_scout 20 = .ok (.ireturn, 1) := by decide +kernel
theorem dX5_layScout_0 : decode cX5_layScout 0 = .ok (.aload_n 0, 1) := by decide +kernel
theorem dX5_layScout_1 : decode cX5_layScout 1 = .ok (.getfield 7, 3) := by decide +kernel
theorem dX5_layScout_4 : decode cX5_layScout 4 = .ok (.iconst 5, 1) := by decide +kernel
theorem dX5_layScout_5 : decode cX5_layScout 5 = .ok (.bipush 54, 2) := by decide +kernel
theorem dX5_layScout_7 : decode cX5_layScout 7 = .ok (.iload_n 1, 1) := by decide +kernel
theorem dX5_layScout_8 : decode cX5_layScout 8 = .ok (.imul, 1) := by decide +kernel
theorem dX5_layScout_9 : decode cX5_layScout 9 = .ok (.iadd, 1) := by decide +kernel
theorem dX5_layScout_10 : decode cX5_layScout 10 = .ok (.bipush 6, 2) := by decide +kernel
theorem dX5_layScout_12 : decode cX5_layScout 12 = .ok (.iadd, 1) := by decide +kernel
theorem dX5_layScout_13 : decode cX5_layScout 13 = .ok (.iconst 3, 1) := by decide +kernel
theorem dX5_layScout_14 : decode cX5_layScout 14 = .ok (.iload_n 2, 1) := by decide +kernel
theorem dX5_layScout_15 : decode cX5_layScout 15 = .ok (.imul, 1) := by decide +kernel
theorem dX5_layScout_16 : decode cX5_layScout 16 = .ok (.iadd, 1) := by decide +kernel
theorem dX5_layScout_17 : decode cX5_layScout 17 = .ok (.iconst 0, 1) := by decide +kernel
theorem dX5_layScout_18 : decode cX5_layScout 18 = .ok (.iadd, 1) := by decide +kernel
theorem dX5_layScout_19 : decode cX5_layScout 19 = .ok (.iload_n 3, 1) := by decide +kernel
theorem dX5_layScout_20 : decode cX5_layScout 20 = .ok (.iastore, 1) := by decide +kernel
theorem dX5_layScout_21 : decode cX5_layScout 21 = .ok (.aload_n 0, 1) := by decide +kernel
theorem dX5_layScout_22 : decode cX5_layScout 22 = .ok (.getfield 7, 3) := by decide +kernel
theorem dX5_layScout_25 : decode cX5_layScout 25 = .ok (.iconst 5, 1) := by decide +kernel
theorem dX5_layScout_26 : decode cX5_layScout 26 = .ok (.bipush 54, 2) := by decide +kernel
theorem dX5_layScout_28 : decode cX5_layScout 28 = .ok (.iload_n 1, 1) := by decide +kernel
theorem dX5_layScout_29 : decode cX5_layScout 29 = .ok (.imul, 1) := by decide +kernel
theorem dX5_layScout_30 : decode cX5_layScout 30 = .ok (.iadd, 1) := by decide +kernel
theorem dX5_layScout_31 : decode cX5_layScout 31 = .ok (.bipush 6, 2) := by decide +kernel
theorem dX5_layScout_33 : decode cX5_layScout 33 = .ok (.iadd, 1) := by decide +kernel
theorem dX5_layScout_34 : decode cX5_layScout 34 = .ok (.iconst 3, 1) := by decide +kernel
theorem dX5_layScout_35 : decode cX5_layScout 35 = .ok (.iload_n 2, 1) := by decide +kernel
theorem dX5_layScout_36 : decode cX5_layScout 36 = .ok (.imul, 1) := by decide +kernel
theorem dX5_layScout_37 : decode cX5_layScout 37 = .ok (.iadd, 1) := by decide +kernel
theorem dX5_layScout_38 : decode cX5_layScout 38 = .ok (.iconst 1, 1) := by decide +kernel
theorem dX5_layScout_39 : decode cX5_layScout 39 = .ok (.iadd, 1) := by decide +kernel
theorem dX5_layScout_40 : decode cX5_layScout 40 = .ok (.iload 4, 2) := by decide +kernel
theorem dX5_layScout_42 : decode cX5_layScout 42 = .ok (.iastore, 1) := by decide +kernel
theorem dX5_layScout_43 : decode cX5_layScout 43 = .ok (.return_, 1) := by decide +kernel
theorem dX5_isScout_0 : decode cX5_isScout 0 = .ok (.aload_n 0, 1) := by decide +kernel
theorem dX5_isScout_1 : decode cX5_isScout 1 = .ok (.iload_n 1, 1) := by decide +kernel
theorem dX5_isScout_2 : decode cX5_isScout 2 = .ok (.invokevirtual 39, 3) := by decide +kernel
theorem dX5_isScout_5 : decode cX5_isScout 5 = .ok (.ifCond .eq 24, 3) := by decide +kernel
theorem dX5_isScout_8 : decode cX5_isScout 8 = .ok (.iload_n 2, 1) := by decide +kernel
theorem dX5_isScout_9 : decode cX5_isScout 9 = .ok (.i2l, 1) := by decide +kernel
theorem dX5_isScout_10 : decode cX5_isScout 10 = .ok (.iconst 0, 1) := by decide +kernel
theorem dX5_isScout_11 : decode cX5_isScout 11 = .ok (.aload_n 0, 1) := by decide +kernel
theorem dX5_isScout_12 : decode cX5_isScout 12 = .ok (.iload_n 1, 1) := by decide +kernel
theorem dX5_isScout_13 : decode cX5_isScout 13 = .ok (.iconst 0, 1) := by decide +kernel
theorem dX5_isScout_14 : decode cX5_isScout 14 = .ok (.invokevirtual 43, 3) := by decide +kernel
theorem dX5_isScout_17 : decode cX5_isScout 17 = .ok (.iconst 1, 1) := by decide +kernel
theorem dX5_isScout_18 : decode cX5_isScout 18 = .ok (.isub, 1) := by decide +kernel
theorem dX5_isScout_19 : decode cX5_isScout 19 = .ok (.invokestatic 35, 3) := by decide +kernel
theorem dX5_isScout_22 : decode cX5_isScout 22 = .ok (.ifCond .eq 7, 3) := by decide +kernel
theorem dX5_isScout_25 : decode cX5_isScout 25 = .ok (.iconst 1, 1) := by decide +kernel
theorem dX5_isScout_26 : decode cX5_isScout 26 = .ok (.goto 4, 3) := by decide +kernel
theorem dX5_isScout_29 : decode cX5_isScout 29 = .ok (.iconst 0, 1) := by decide +kernel
theorem dX5_isScout_30 : decode cX5_isScout 30 = .ok (.ireturn, 1) := by decide +kernel
theorem dX5_isStruck_0 : decode cX5_isStruck 0 = .ok (.aload_n 0, 1) := by decide +kernel
theorem dX5_isStruck_1 : decode cX5_isStruck 1 = .ok (.iload_n 1, 1) := by decide +kernel
theorem dX5_isStruck_2 : decode cX5_isStruck 2 = .ok (.iconst 5, 1) := by decide +kernel
theorem dX5_isStruck_3 : decode cX5_isStruck 3 = .ok (.invokevirtual 43, 3) := by decide +kernel
theorem dX5_isStruck_6 : decode cX5_isStruck 6 = .ok (.iload_n 2, 1) := by decide +kernel
theorem dX5_isStruck_7 : decode cX5_isStruck 7 = .ok (.ishr, 1) := by decide +kernel
theorem dX5_isStruck_8 : decode cX5_isStruck 8 = .ok (.iconst 1, 1) := by decide +kernel
theorem dX5_isStruck_9 : decode cX5_isStruck 9 = .ok (.iand, 1) := by decide +kernel
theorem dX5_isStruck_10 : decode cX5_isStruck 10 = .ok (.iconst 1, 1) := by decide +kernel
theorem dX5_isStruck_11 : decode cX5_isStruck 11 = .ok (.if_icmp .ne 7, 3) := by decide +kernel
theorem dX5_isStruck_14 : decode cX5_isStruck 14 = .ok (.iconst 1, 1) := by decide +kernel
theorem dX5_isStruck_15 : decode cX5_isStruck 15 = .ok (.goto 4, 3) := by decide +kernel
theorem dX5_isStruck_18 : decode cX5_isStruck 18 = .ok (.iconst 0, 1) := by decide +kernel
theorem dX5_isStruck_19 : decode cX5_isStruck 19 = .ok (.ireturn, 1) := by decide +kernel
theorem dX5_those_0 : decode cX5_those 0 = .ok (.iconst 0, 1) := by decide +kernel
theorem dX5_those_1 : decode cX5_those 1 = .ok (.istore_n 3, 1) := by decide +kernel
theorem dX5_those_2 : decode cX5_those 2 = .ok (.iconst 0, 1) := by decide +kernel
theorem dX5_those_3 : decode cX5_those 3 = .ok (.istore 4, 2) := by decide +kernel
theorem dX5_those_5 : decode cX5_those 5 = .ok (.iload 4, 2) := by decide +kernel
theorem dX5_those_7 : decode cX5_those 7 = .ok (.bipush 16, 2) := by decide +kernel
theorem dX5_those_9 : decode cX5_those 9 = .ok (.if_icmp .ge 60, 3) := by decide +kernel
theorem dX5_those_12 : decode cX5_those 12 = .ok (.iload 4, 2) := by decide +kernel
theorem dX5_those_14 : decode cX5_those 14 = .ok (.aload_n 0, 1) := by decide +kernel
theorem dX5_those_15 : decode cX5_those 15 = .ok (.iload_n 1, 1) := by decide +kernel
theorem dX5_those_16 : decode cX5_those 16 = .ok (.iconst 0, 1) := by decide +kernel
theorem dX5_those_17 : decode cX5_those 17 = .ok (.invokevirtual 43, 3) := by decide +kernel
theorem dX5_those_20 : decode cX5_those 20 = .ok (.if_icmp .lt 8, 3) := by decide +kernel
theorem dX5_those_23 : decode cX5_those 23 = .ok (.iload_n 2, 1) := by decide +kernel
theorem dX5_those_24 : decode cX5_those 24 = .ok (.iconst 3, 1) := by decide +kernel
theorem dX5_those_25 : decode cX5_those 25 = .ok (.if_icmp .ne 19, 3) := by decide +kernel
theorem dX5_those_28 : decode cX5_those 28 = .ok (.aload_n 0, 1) := by decide +kernel
theorem dX5_those_29 : decode cX5_those 29 = .ok (.iload_n 1, 1) := by decide +kernel
theorem dX5_those_30 : decode cX5_those 30 = .ok (.iload 4, 2) := by decide +kernel
theorem dX5_those_32 : decode cX5_those 32 = .ok (.iconst 0, 1) := by decide +kernel
theorem dX5_those_33 : decode cX5_those 33 = .ok (.invokevirtual 47, 3) := by decide +kernel
theorem dX5_those_36 : decode cX5_those 36 = .ok (.iload_n 2, 1) := by decide +kernel
theorem dX5_those_37 : decode cX5_those 37 = .ok (.if_icmp .ne 7, 3) := by decide +kernel
theorem dX5_those_40 : decode cX5_those 40 = .ok (.iconst 1, 1) := by decide +kernel
theorem dX5_those_41 : decode cX5_those 41 = .ok (.goto 4, 3) := by decide +kernel
theorem dX5_those_44 : decode cX5_those 44 = .ok (.iconst 0, 1) := by decide +kernel
theorem dX5_those_45 : decode cX5_those 45 = .ok (.istore 5, 2) := by decide +kernel
theorem dX5_those_47 : decode cX5_those 47 = .ok (.iload_n 3, 1) := by decide +kernel
theorem dX5_those_48 : decode cX5_those 48 = .ok (.iload 5, 2) := by decide +kernel
theorem dX5_those_50 : decode cX5_those 50 = .ok (.ifCond .eq 10, 3) := by decide +kernel
theorem dX5_those_53 : decode cX5_those 53 = .ok (.iconst 1, 1) := by decide +kernel
theorem dX5_those_54 : decode cX5_those 54 = .ok (.iload 4, 2) := by decide +kernel
theorem dX5_those_56 : decode cX5_those 56 = .ok (.ishl, 1) := by decide +kernel
theorem dX5_those_57 : decode cX5_those 57 = .ok (.goto 4, 3) := by decide +kernel
theorem dX5_those_60 : decode cX5_those 60 = .ok (.iconst 0, 1) := by decide +kernel
theorem dX5_those_61 : decode cX5_those 61 = .ok (.ior, 1) := by decide +kernel
theorem dX5_those_62 : decode cX5_those 62 = .ok (.istore_n 3, 1) := by decide +kernel
theorem dX5_those_63 : decode cX5_those 63 = .ok (.iinc 4 1, 3) := by decide +kernel
theorem dX5_those_66 : decode cX5_those 66 = .ok (.goto (-61), 3) := by decide +kernel
theorem dX5_those_69 : decode cX5_those 69 = .ok (.iload_n 3, 1) := by decide +kernel
theorem dX5_those_70 : decode cX5_those 70 = .ok (.ireturn, 1) := by decide +kernel
theorem dX5_size_0 : decode cX5_size 0 = .ok (.iconst 0, 1) := by decide +kernel
theorem dX5_size_1 : decode cX5_size 1 = .ok (.istore_n 1, 1) := by decide +kernel
theorem dX5_size_2 : decode cX5_size 2 = .ok (.iconst 0, 1) := by decide +kernel
theorem dX5_size_3 : decode cX5_size 3 = .ok (.istore_n 2, 1) := by decide +kernel
theorem dX5_size_4 : decode cX5_size 4 = .ok (.iload_n 2, 1) := by decide +kernel
theorem dX5_size_5 : decode cX5_size 5 = .ok (.bipush 16, 2) := by decide +kernel
theorem dX5_size_7 : decode cX5_size 7 = .ok (.if_icmp .ge 17, 3) := by decide +kernel
theorem dX5_size_10 : decode cX5_size 10 = .ok (.iload_n 1, 1) := by decide +kernel
theorem dX5_size_11 : decode cX5_size 11 = .ok (.iload_n 0, 1) := by decide +kernel
theorem dX5_size_12 : decode cX5_size 12 = .ok (.iload_n 2, 1) := by decide +kernel
theorem dX5_size_13 : decode cX5_size 13 = .ok (.ishr, 1) := by decide +kernel
theorem dX5_size_14 : decode cX5_size 14 = .ok (.iconst 1, 1) := by decide +kernel
theorem dX5_size_15 : decode cX5_size 15 = .ok (.iand, 1) := by decide +kernel
theorem dX5_size_16 : decode cX5_size 16 = .ok (.iadd, 1) := by decide +kernel
theorem dX5_size_17 : decode cX5_size 17 = .ok (.istore_n 1, 1) := by decide +kernel
theorem dX5_size_18 : decode cX5_size 18 = .ok (.iinc 2 1, 3) := by decide +kernel
theorem dX5_size_21 : decode cX5_size 21 = .ok (.goto (-17), 3) := by decide +kernel
theorem dX5_size_24 : decode cX5_size 24 = .ok (.iload_n 1, 1) := by decide +kernel
theorem dX5_size_25 : decode cX5_size 25 = .ok (.ireturn, 1) := by decide +kernel
theorem dX5_awaited_0 : decode cX5_awaited 0 = .ok (.iconst 0, 1) := by decide +kernel
theorem dX5_awaited_1 : decode cX5_awaited 1 = .ok (.istore_n 2, 1) := by decide +kernel
theorem dX5_awaited_2 : decode cX5_awaited 2 = .ok (.iconst 0, 1) := by decide +kernel
theorem dX5_awaited_3 : decode cX5_awaited 3 = .ok (.istore_n 3, 1) := by decide +kernel
theorem dX5_awaited_4 : decode cX5_awaited 4 = .ok (.iload_n 3, 1) := by decide +kernel
theorem dX5_awaited_5 : decode cX5_awaited 5 = .ok (.aload_n 0, 1) := by decide +kernel
theorem dX5_awaited_6 : decode cX5_awaited 6 = .ok (.iload_n 1, 1) := by decide +kernel
theorem dX5_awaited_7 : decode cX5_awaited 7 = .ok (.iconst 0, 1) := by decide +kernel
theorem dX5_awaited_8 : decode cX5_awaited 8 = .ok (.invokevirtual 43, 3) := by decide +kernel
theorem dX5_awaited_11 : decode cX5_awaited 11 = .ok (.if_icmp .ge 39, 3) := by decide +kernel
theorem dX5_awaited_14 : decode cX5_awaited 14 = .ok (.iload_n 2, 1) := by decide +kernel
theorem dX5_awaited_15 : decode cX5_awaited 15 = .ok (.aload_n 0, 1) := by decide +kernel
theorem dX5_awaited_16 : decode cX5_awaited 16 = .ok (.iload_n 1, 1) := by decide +kernel
theorem dX5_awaited_17 : decode cX5_awaited 17 = .ok (.iload_n 3, 1) := by decide +kernel
theorem dX5_awaited_18 : decode cX5_awaited 18 = .ok (.iconst 0, 1) := by decide +kernel
theorem dX5_awaited_19 : decode cX5_awaited 19 = .ok (.invokevirtual 47, 3) := by decide +kernel
theorem dX5_awaited_22 : decode cX5_awaited 22 = .ok (.iconst 1, 1) := by decide +kernel
theorem dX5_awaited_23 : decode cX5_awaited 23 = .ok (.if_icmp .eq 18, 3) := by decide +kernel
theorem dX5_awaited_26 : decode cX5_awaited 26 = .ok (.aload_n 0, 1) := by decide +kernel
theorem dX5_awaited_27 : decode cX5_awaited 27 = .ok (.iload_n 1, 1) := by decide +kernel
theorem dX5_awaited_28 : decode cX5_awaited 28 = .ok (.iload_n 3, 1) := by decide +kernel
theorem dX5_awaited_29 : decode cX5_awaited 29 = .ok (.invokevirtual 51, 3) := by decide +kernel
theorem dX5_awaited_32 : decode cX5_awaited 32 = .ok (.ifCond .ne 9, 3) := by decide +kernel
theorem dX5_awaited_35 : decode cX5_awaited 35 = .ok (.iconst 1, 1) := by decide +kernel
theorem dX5_awaited_36 : decode cX5_awaited 36 = .ok (.iload_n 3, 1) := by decide +kernel
theorem dX5_awaited_37 : decode cX5_awaited 37 = .ok (.ishl, 1) := by decide +kernel
theorem dX5_awaited_38 : decode cX5_awaited 38 = .ok (.goto 4, 3) := by decide +kernel
theorem dX5_awaited_41 : decode cX5_awaited 41 = .ok (.iconst 0, 1) := by decide +kernel
theorem dX5_awaited_42 : decode cX5_awaited 42 = .ok (.ior, 1) := by decide +kernel
theorem dX5_awaited_43 : decode cX5_awaited 43 = .ok (.istore_n 2, 1) := by decide +kernel
theorem dX5_awaited_44 : decode cX5_awaited 44 = .ok (.iinc 3 1, 3) := by decide +kernel
theorem dX5_awaited_47 : decode cX5_awaited 47 = .ok (.goto (-43), 3) := by decide +kernel
theorem dX5_awaited_50 : decode cX5_awaited 50 = .ok (.iload_n 2, 1) := by decide +kernel
theorem dX5_awaited_51 : decode cX5_awaited 51 = .ok (.ireturn, 1) := by decide +kernel
theorem dX5_remember_0 : decode cX5_remember 0 = .ok (.iconst 0, 1) := by decide +kernel
theorem dX5_remember_1 : decode cX5_remember 1 = .ok (.istore_n 1, 1) := by decide +kernel
theorem dX5_remember_2 : decode cX5_remember 2 = .ok (.iload_n 1, 1) := by decide +kernel
theorem dX5_remember_3 : decode cX5_remember 3 = .ok (.sipush 275, 3) := by decide +kernel
theorem dX5_remember_6 : decode cX5_remember 6 = .ok (.if_icmp .ge 21, 3) := by decide +kernel
theorem dX5_remember_9 : decode cX5_remember 9 = .ok (.aload_n 0, 1) := by decide +kernel
theorem dX5_remember_10 : decode cX5_remember 10 = .ok (.getfield 16, 3) := by decide +kernel
theorem dX5_remember_13 : decode cX5_remember 13 = .ok (.iload_n 1, 1) := by decide +kernel
theorem dX5_remember_14 : decode cX5_remember 14 = .ok (.aload_n 0, 1) := by decide +kernel
theorem dX5_remember_15 : decode cX5_remember 15 = .ok (.getfield 7, 3) := by decide +kernel
theorem dX5_remember_18 : decode cX5_remember 18 = .ok (.iload_n 1, 1) := by decide +kernel
theorem dX5_remember_19 : decode cX5_remember 19 = .ok (.iaload, 1) := by decide +kernel
theorem dX5_remember_20 : decode cX5_remember 20 = .ok (.iastore, 1) := by decide +kernel
theorem dX5_remember_21 : decode cX5_remember 21 = .ok (.iinc 1 1, 3) := by decide +kernel
theorem dX5_remember_24 : decode cX5_remember 24 = .ok (.goto (-22), 3) := by decide +kernel
theorem dX5_remember_27 : decode cX5_remember 27 = .ok (.return_, 1) := by decide +kernel
theorem dX5_record_0 : decode cX5_record 0 = .ok (.iload_n 1, 1) := by decide +kernel
theorem dX5_record_1 : decode cX5_record 1 = .ok (.ifCond .ge 5, 3) := by decide +kernel
theorem dX5_record_4 : decode cX5_record 4 = .ok (.iload_n 1, 1) := by decide +kernel
theorem dX5_record_5 : decode cX5_record 5 = .ok (.ireturn, 1) := by decide +kernel
theorem dX5_record_6 : decode cX5_record 6 = .ok (.aload_n 0, 1) := by decide +kernel
theorem dX5_record_7 : decode cX5_record 7 = .ok (.getfield 55, 3) := by decide +kernel
theorem dX5_record_10 : decode cX5_record 10 = .ok (.bipush 6, 2) := by decide +kernel
theorem dX5_record_12 : decode cX5_record 12 = .ok (.if_icmp .ne 44, 3) := by decide +kernel
theorem dX5_record_15 : decode cX5_record 15 = .ok (.iconst 0, 1) := by decide +kernel
theorem dX5_record_16 : decode cX5_record 16 = .ok (.istore_n 2, 1) := by decide +kernel
theorem dX5_record_17 : decode cX5_record 17 = .ok (.iload_n 2, 1) := by decide +kernel
theorem dX5_record_18 : decode cX5_record 18 = .ok (.sipush 1375, 3) := by decide +kernel
theorem dX5_record_21 : decode cX5_record 21 = .ok (.if_icmp .ge 25, 3) := by decide +kernel
theorem dX5_record_24 : decode cX5_record 24 = .ok (.aload_n 0, 1) := by decide +kernel
theorem dX5_record_25 : decode cX5_record 25 = .ok (.getfield 13, 3) := by decide +kernel
theorem dX5_record_28 : decode cX5_record 28 = .ok (.iload_n 2, 1) := by decide +kernel
theorem dX5_record_29 : decode cX5_record 29 = .ok (.aload_n 0, 1) := by decide +kernel
theorem dX5_record_30 : decode cX5_record 30 = .ok (.getfield 13, 3) := by decide +kernel
theorem dX5_record_33 : decode cX5_record 33 = .ok (.sipush 275, 3) := by decide +kernel
theorem dX5_record_36 : decode cX5_record 36 = .ok (.iload_n 2, 1) := by decide +kernel
theorem dX5_record_37 : decode cX5_record 37 = .ok (.iadd, 1) := by decide +kernel
theorem dX5_record_38 : decode cX5_record 38 = .ok (.iaload, 1) := by decide +kernel
theorem dX5_record_39 : decode cX5_record 39 = .ok (.iastore, 1) := by decide +kernel
theorem dX5_record_40 : decode cX5_record 40 = .ok (.iinc 2 1, 3) := by decide +kernel
theorem dX5_record_43 : decode cX5_record 43 = .ok (.goto (-26), 3) := by decide +kernel
theorem dX5_record_46 : decode cX5_record 46 = .ok (.aload_n 0, 1) := by decide +kernel
theorem dX5_record_47 : decode cX5_record 47 = .ok (.dup, 1) := by decide +kernel
theorem dX5_record_48 : decode cX5_record 48 = .ok (.getfield 55, 3) := by decide +kernel
theorem dX5_record_51 : decode cX5_record 51 = .ok (.iconst 1, 1) := by decide +kernel
theorem dX5_record_52 : decode cX5_record 52 = .ok (.isub, 1) := by decide +kernel
theorem dX5_record_53 : decode cX5_record 53 = .ok (.putfield 55, 3) := by decide +kernel
theorem dX5_record_56 : decode cX5_record 56 = .ok (.iconst 0, 1) := by decide +kernel
theorem dX5_record_57 : decode cX5_record 57 = .ok (.istore_n 2, 1) := by decide +kernel
theorem dX5_record_58 : decode cX5_record 58 = .ok (.iload_n 2, 1) := by decide +kernel
theorem dX5_record_59 : decode cX5_record 59 = .ok (.sipush 275, 3) := by decide +kernel
theorem dX5_record_62 : decode cX5_record 62 = .ok (.if_icmp .ge 30, 3) := by decide +kernel
theorem dX5_record_65 : decode cX5_record 65 = .ok (.aload_n 0, 1) := by decide +kernel
theorem dX5_record_66 : decode cX5_record 66 = .ok (.getfield 13, 3) := by decide +kernel
theorem dX5_record_69 : decode cX5_record 69 = .ok (.sipush 275, 3) := by decide +kernel
theorem dX5_record_72 : decode cX5_record 72 = .ok (.aload_n 0, 1) := by decide +kernel
theorem dX5_record_73 : decode cX5_record 73 = .ok (.getfield 55, 3) := by decide +kernel
theorem dX5_record_76 : decode cX5_record 76 = .ok (.imul, 1) := by decide +kernel
theorem dX5_record_77 : decode cX5_record 77 = .ok (.iload_n 2, 1) := by decide +kernel
theorem dX5_record_78 : decode cX5_record 78 = .ok (.iadd, 1) := by decide +kernel
theorem dX5_record_79 : decode cX5_record 79 = .ok (.aload_n 0, 1) := by decide +kernel
theorem dX5_record_80 : decode cX5_record 80 = .ok (.getfield 16, 3) := by decide +kernel
theorem dX5_record_83 : decode cX5_record 83 = .ok (.iload_n 2, 1) := by decide +kernel
theorem dX5_record_84 : decode cX5_record 84 = .ok (.iaload, 1) := by decide +kernel
theorem dX5_record_85 : decode cX5_record 85 = .ok (.iastore, 1) := by decide +kernel
theorem dX5_record_86 : decode cX5_record 86 = .ok (.iinc 2 1, 3) := by decide +kernel
theorem dX5_record_89 : decode cX5_record 89 = .ok (.goto (-31), 3) := by decide +kernel
theorem dX5_record_92 : decode cX5_record 92 = .ok (.aload_n 0, 1) := by decide +kernel
theorem dX5_record_93 : decode cX5_record 93 = .ok (.dup, 1) := by decide +kernel
theorem dX5_record_94 : decode cX5_record 94 = .ok (.getfield 55, 3) := by decide +kernel
theorem dX5_record_97 : decode cX5_record 97 = .ok (.iconst 1, 1) := by decide +kernel
theorem dX5_record_98 : decode cX5_record 98 = .ok (.iadd, 1) := by decide +kernel
theorem dX5_record_99 : decode cX5_record 99 = .ok (.putfield 55, 3) := by decide +kernel
theorem dX5_record_102 : decode cX5_record 102 = .ok (.iload_n 1, 1) := by decide +kernel
theorem dX5_record_103 : decode cX5_record 103 = .ok (.ireturn, 1) := by decide +kernel
theorem dX5_undo_0 : decode cX5_undo 0 = .ok (.aload_n 0, 1) := by decide +kernel
theorem dX5_undo_1 : decode cX5_undo 1 = .ok (.getfield 55, 3) := by decide +kernel
theorem dX5_undo_4 : decode cX5_undo 4 = .ok (.ifCond .ne 6, 3) := by decide +kernel
theorem dX5_undo_7 : decode cX5_undo 7 = .ok (.bipush (-5), 2) := by decide +kernel
theorem dX5_undo_9 : decode cX5_undo 9 = .ok (.ireturn, 1) := by decide +kernel
theorem dX5_undo_10 : decode cX5_undo 10 = .ok (.aload_n 0, 1) := by decide +kernel
theorem dX5_undo_11 : decode cX5_undo 11 = .ok (.dup, 1) := by decide +kernel
theorem dX5_undo_12 : decode cX5_undo 12 = .ok (.getfield 55, 3) := by decide +kernel
theorem dX5_undo_15 : decode cX5_undo 15 = .ok (.iconst 1, 1) := by decide +kernel
theorem dX5_undo_16 : decode cX5_undo 16 = .ok (.isub, 1) := by decide +kernel
theorem dX5_undo_17 : decode cX5_undo 17 = .ok (.putfield 55, 3) := by decide +kernel
theorem dX5_undo_20 : decode cX5_undo 20 = .ok (.iconst 0, 1) := by decide +kernel
theorem dX5_undo_21 : decode cX5_undo 21 = .ok (.istore_n 1, 1) := by decide +kernel
theorem dX5_undo_22 : decode cX5_undo 22 = .ok (.iload_n 1, 1) := by decide +kernel
theorem dX5_undo_23 : decode cX5_undo 23 = .ok (.sipush 275, 3) := by decide +kernel
theorem dX5_undo_26 : decode cX5_undo 26 = .ok (.if_icmp .ge 30, 3) := by decide +kernel
theorem dX5_undo_29 : decode cX5_undo 29 = .ok (.aload_n 0, 1) := by decide +kernel
theorem dX5_undo_30 : decode cX5_undo 30 = .ok (.getfield 7, 3) := by decide +kernel
theorem dX5_undo_33 : decode cX5_undo 33 = .ok (.iload_n 1, 1) := by decide +kernel
theorem dX5_undo_34 : decode cX5_undo 34 = .ok (.aload_n 0, 1) := by decide +kernel
theorem dX5_undo_35 : decode cX5_undo 35 = .ok (.getfield 13, 3) := by decide +kernel
theorem dX5_undo_38 : decode cX5_undo 38 = .ok (.sipush 275, 3) := by decide +kernel
theorem dX5_undo_41 : decode cX5_undo 41 = .ok (.aload_n 0, 1) := by decide +kernel
theorem dX5_undo_42 : decode cX5_undo 42 = .ok (.getfield 55, 3) := by decide +kernel
theorem dX5_undo_45 : decode cX5_undo 45 = .ok (.imul, 1) := by decide +kernel
theorem dX5_undo_46 : decode cX5_undo 46 = .ok (.iload_n 1, 1) := by decide +kernel
theorem dX5_undo_47 : decode cX5_undo 47 = .ok (.iadd, 1) := by decide +kernel
theorem dX5_undo_48 : decode cX5_undo 48 = .ok (.iaload, 1) := by decide +kernel
theorem dX5_undo_49 : decode cX5_undo 49 = .ok (.iastore, 1) := by decide +kernel
theorem dX5_undo_50 : decode cX5_undo 50 = .ok (.iinc 1 1, 3) := by decide +kernel
theorem dX5_undo_53 : decode cX5_undo 53 = .ok (.goto (-31), 3) := by decide +kernel
theorem dX5_undo_56 : decode cX5_undo 56 = .ok (.aload_n 0, 1) := by decide +kernel
theorem dX5_undo_57 : decode cX5_undo 57 = .ok (.getfield 55, 3) := by decide +kernel
theorem dX5_undo_60 : decode cX5_undo 60 = .ok (.ireturn, 1) := by decide +kernel
theorem dX5_save_0 : decode cX5_save 0 = .ok (.iload_n 1, 1) := by decide +kernel
theorem dX5_save_1 : decode cX5_save 1 = .ok (.i2l, 1) := by decide +kernel
theorem dX5_save_2 : decode cX5_save 2 = .ok (.iconst 0, 1) := by decide +kernel
theorem dX5_save_3 : decode cX5_save 3 = .ok (.iconst 1, 1) := by decide +kernel
theorem dX5_save_4 : decode cX5_save 4 = .ok (.invokestatic 35, 3) := by decide +kernel
theorem dX5_save_7 : decode cX5_save 7 = .ok (.ifCond .ne 6, 3) := by decide +kernel
theorem dX5_save_10 : decode cX5_save 10 = .ok (.bipush (-2), 2) := by decide +kernel
theorem dX5_save_12 : decode cX5_save 12 = .ok (.ireturn, 1) := by decide +kernel
theorem dX5_save_13 : decode cX5_save 13 = .ok (.iconst 0, 1) := by decide +kernel
theorem dX5_save_14 : decode cX5_save 14 = .ok (.istore_n 2, 1) := by decide +kernel
theorem dX5_save_15 : decode cX5_save 15 = .ok (.iload_n 2, 1) := by decide +kernel
theorem dX5_save_16 : decode cX5_save 16 = .ok (.sipush 275, 3) := by decide +kernel
theorem dX5_save_19 : decode cX5_save 19 = .ok (.if_icmp .ge 27, 3) := by decide +kernel
theorem dX5_save_22 : decode cX5_save 22 = .ok (.aload_n 0, 1) := by decide +kernel
theorem dX5_save_23 : decode cX5_save 23 = .ok (.getfield 22, 3) := by decide +kernel
theorem dX5_save_26 : decode cX5_save 26 = .ok (.sipush 275, 3) := by decide +kernel
theorem dX5_save_29 : decode cX5_save 29 = .ok (.iload_n 1, 1) := by decide +kernel
theorem dX5_save_30 : decode cX5_save 30 = .ok (.imul, 1) := by decide +kernel
theorem dX5_save_31 : decode cX5_save 31 = .ok (.iload_n 2, 1) := by decide +kernel
theorem dX5_save_32 : decode cX5_save 32 = .ok (.iadd, 1) := by decide +kernel
theorem dX5_save_33 : decode cX5_save 33 = .ok (.aload_n 0, 1) := by decide +kernel
theorem dX5_save_34 : decode cX5_save 34 = .ok (.getfield 7, 3) := by decide +kernel
theorem dX5_save_37 : decode cX5_save 37 = .ok (.iload_n 2, 1) := by decide +kernel
theorem dX5_save_38 : decode cX5_save 38 = .ok (.iaload, 1) := by decide +kernel
theorem dX5_save_39 : decode cX5_save 39 = .ok (.iastore, 1) := by decide +kernel
theorem dX5_save_40 : decode cX5_save 40 = .ok (.iinc 2 1, 3) := by decide +kernel
theorem dX5_save_43 : decode cX5_save 43 = .ok (.goto (-28), 3) := by decide +kernel
theorem dX5_save_46 : decode cX5_save 46 = .ok (.aload_n 0, 1) := by decide +kernel
theorem dX5_save_47 : decode cX5_save 47 = .ok (.getfield 25, 3) := by decide +kernel
theorem dX5_save_50 : decode cX5_save 50 = .ok (.iload_n 1, 1) := by decide +kernel
theorem dX5_save_51 : decode cX5_save 51 = .ok (.iconst 1, 1) := by decide +kernel
theorem dX5_save_52 : decode cX5_save 52 = .ok (.bastore, 1) := by decide +kernel
theorem dX5_save_53 : decode cX5_save 53 = .ok (.aload_n 0, 1) := by decide +kernel
theorem dX5_save_54 : decode cX5_save 54 = .ok (.getfield 7, 3) := by decide +kernel
theorem dX5_save_57 : decode cX5_save 57 = .ok (.iconst 3, 1) := by decide +kernel
theorem dX5_save_58 : decode cX5_save 58 = .ok (.iaload, 1) := by decide +kernel
theorem dX5_save_59 : decode cX5_save 59 = .ok (.ireturn, 1) := by decide +kernel
theorem dX5_restore_0 : decode cX5_restore 0 = .ok (.iload_n 1, 1) := by decide +kernel
theorem dX5_restore_1 : decode cX5_restore 1 = .ok (.i2l, 1) := by decide +kernel
theorem dX5_restore_2 : decode cX5_restore 2 = .ok (.iconst 0, 1) := by decide +kernel
theorem dX5_restore_3 : decode cX5_restore 3 = .ok (.iconst 1, 1) := by decide +kernel
theorem dX5_restore_4 : decode cX5_restore 4 = .ok (.invokestatic 35, 3) := by decide +kernel
theorem dX5_restore_7 : decode cX5_restore 7 = .ok (.ifCond .ne 6, 3) := by decide +kernel
theorem dX5_restore_10 : decode cX5_restore 10 = .ok (.bipush (-2), 2) := by decide +kernel
theorem dX5_restore_12 : decode cX5_restore 12 = .ok (.ireturn, 1) := by decide +kernel
theorem dX5_restore_13 : decode cX5_restore 13 = .ok (.aload_n 0, 1) := by decide +kernel
theorem dX5_restore_14 : decode cX5_restore 14 = .ok (.getfield 25, 3) := by decide +kernel
theorem dX5_restore_17 : decode cX5_restore 17 = .ok (.iload_n 1, 1) := by decide +kernel
theorem dX5_restore_18 : decode cX5_restore 18 = .ok (.baload, 1) := by decide +kernel
theorem dX5_restore_19 : decode cX5_restore 19 = .ok (.ifCond .ne 6, 3) := by decide +kernel
theorem dX5_restore_22 : decode cX5_restore 22 = .ok (.bipush (-5), 2) := by decide +kernel
theorem dX5_restore_24 : decode cX5_restore 24 = .ok (.ireturn, 1) := by decide +kernel
theorem dX5_restore_25 : decode cX5_restore 25 = .ok (.aload_n 0, 1) := by decide +kernel
theorem dX5_restore_26 : decode cX5_restore 26 = .ok (.invokevirtual 59, 3) := by decide +kernel
theorem dX5_restore_29 : decode cX5_restore 29 = .ok (.iconst 0, 1) := by decide +kernel
theorem dX5_restore_30 : decode cX5_restore 30 = .ok (.istore_n 2, 1) := by decide +kernel
theorem dX5_restore_31 : decode cX5_restore 31 = .ok (.iload_n 2, 1) := by decide +kernel
theorem dX5_restore_32 : decode cX5_restore 32 = .ok (.sipush 275, 3) := by decide +kernel
theorem dX5_restore_35 : decode cX5_restore 35 = .ok (.if_icmp .ge 27, 3) := by decide +kernel
theorem dX5_restore_38 : decode cX5_restore 38 = .ok (.aload_n 0, 1) := by decide +kernel
theorem dX5_restore_39 : decode cX5_restore 39 = .ok (.getfield 7, 3) := by decide +kernel
theorem dX5_restore_42 : decode cX5_restore 42 = .ok (.iload_n 2, 1) := by decide +kernel
theorem dX5_restore_43 : decode cX5_restore 43 = .ok (.aload_n 0, 1) := by decide +kernel
theorem dX5_restore_44 : decode cX5_restore 44 = .ok (.getfield 22, 3) := by decide +kernel
theorem dX5_restore_47 : decode cX5_restore 47 = .ok (.sipush 275, 3) := by decide +kernel
theorem dX5_restore_50 : decode cX5_restore 50 = .ok (.iload_n 1, 1) := by decide +kernel
theorem dX5_restore_51 : decode cX5_restore 51 = .ok (.imul, 1) := by decide +kernel
theorem dX5_restore_52 : decode cX5_restore 52 = .ok (.iload_n 2, 1) := by decide +kernel
theorem dX5_restore_53 : decode cX5_restore 53 = .ok (.iadd, 1) := by decide +kernel
theorem dX5_restore_54 : decode cX5_restore 54 = .ok (.iaload, 1) := by decide +kernel
theorem dX5_restore_55 : decode cX5_restore 55 = .ok (.iastore, 1) := by decide +kernel
theorem dX5_restore_56 : decode cX5_restore 56 = .ok (.iinc 2 1, 3) := by decide +kernel
theorem dX5_restore_59 : decode cX5_restore 59 = .ok (.goto (-28), 3) := by decide +kernel
theorem dX5_restore_62 : decode cX5_restore 62 = .ok (.aload_n 0, 1) := by decide +kernel
theorem dX5_restore_63 : decode cX5_restore 63 = .ok (.aload_n 0, 1) := by decide +kernel
theorem dX5_restore_64 : decode cX5_restore 64 = .ok (.getfield 7, 3) := by decide +kernel
theorem dX5_restore_67 : decode cX5_restore 67 = .ok (.iconst 3, 1) := by decide +kernel
theorem dX5_restore_68 : decode cX5_restore 68 = .ok (.iaload, 1) := by decide +kernel
theorem dX5_restore_69 : decode cX5_restore 69 = .ok (.invokevirtual 62, 3) := by decide +kernel
theorem dX5_restore_72 : decode cX5_restore 72 = .ok (.ireturn, 1) := by decide +kernel
theorem dX5_layAside_0 : decode cX5_layAside 0 = .ok (.iconst 0, 1) := by decide +kernel
theorem dX5_layAside_1 : decode cX5_layAside 1 = .ok (.istore_n 1, 1) := by decide +kernel
theorem dX5_layAside_2 : decode cX5_layAside 2 = .ok (.iload_n 1, 1) := by decide +kernel
theorem dX5_layAside_3 : decode cX5_layAside 3 = .ok (.sipush 275, 3) := by decide +kernel
theorem dX5_layAside_6 : decode cX5_layAside 6 = .ok (.if_icmp .ge 21, 3) := by decide +kernel
theorem dX5_layAside_9 : decode cX5_layAside 9 = .ok (.aload_n 0, 1) := by decide +kernel
theorem dX5_layAside_10 : decode cX5_layAside 10 = .ok (.getfield 19, 3) := by decide +kernel
theorem dX5_layAside_13 : decode cX5_layAside 13 = .ok (.iload_n 1, 1) := by decide +kernel
theorem dX5_layAside_14 : decode cX5_layAside 14 = .ok (.aload_n 0, 1) := by decide +kernel
theorem dX5_layAside_15 : decode cX5_layAside 15 = .ok (.getfield 7, 3) := by decide +kernel
theorem dX5_layAside_18 : decode cX5_layAside 18 = .ok (.iload_n 1, 1) := by decide +kernel
theorem dX5_layAside_19 : decode cX5_layAside 19 = .ok (.iaload, 1) := by decide +kernel
theorem dX5_layAside_20 : decode cX5_layAside 20 = .ok (.iastore, 1) := by decide +kernel
theorem dX5_layAside_21 : decode cX5_layAside 21 = .ok (.iinc 1 1, 3) := by decide +kernel
theorem dX5_layAside_24 : decode cX5_layAside 24 = .ok (.goto (-22), 3) := by decide +kernel
theorem dX5_layAside_27 : decode cX5_layAside 27 = .ok (.return_, 1) := by decide +kernel
theorem dX5_putBack_0 : decode cX5_putBack 0 = .ok (.iconst 0, 1) := by decide +kernel
theorem dX5_putBack_1 : decode cX5_putBack 1 = .ok (.istore_n 1, 1) := by decide +kernel
theorem dX5_putBack_2 : decode cX5_putBack 2 = .ok (.iload_n 1, 1) := by decide +kernel
theorem dX5_putBack_3 : decode cX5_putBack 3 = .ok (.sipush 275, 3) := by decide +kernel
theorem dX5_putBack_6 : decode cX5_putBack 6 = .ok (.if_icmp .ge 21, 3) := by decide +kernel
theorem dX5_putBack_9 : decode cX5_putBack 9 = .ok (.aload_n 0, 1) := by decide +kernel
theorem dX5_putBack_10 : decode cX5_putBack 10 = .ok (.getfield 7, 3) := by decide +kernel
theorem dX5_putBack_13 : decode cX5_putBack 13 = .ok (.iload_n 1, 1) := by decide +kernel
theorem dX5_putBack_14 : decode cX5_putBack 14 = .ok (.aload_n 0, 1) := by decide +kernel
theorem dX5_putBack_15 : decode cX5_putBack 15 = .ok (.getfield 19, 3) := by decide +kernel
theorem dX5_putBack_18 : decode cX5_putBack 18 = .ok (.iload_n 1, 1) := by decide +kernel
theorem dX5_putBack_19 : decode cX5_putBack 19 = .ok (.iaload, 1) := by decide +kernel
theorem dX5_putBack_20 : decode cX5_putBack 20 = .ok (.iastore, 1) := by decide +kernel
theorem dX5_putBack_21 : decode cX5_putBack 21 = .ok (.iinc 1 1, 3) := by decide +kernel
theorem dX5_putBack_24 : decode cX5_putBack 24 = .ok (.goto (-22), 3) := by decide +kernel
theorem dX5_putBack_27 : decode cX5_putBack 27 = .ok (.return_, 1) := by decide +kernel
theorem dX5_clear_0 : decode cX5_clear 0 = .ok (.aload_n 0, 1) := by decide +kernel
theorem dX5_clear_1 : decode cX5_clear 1 = .ok (.iload_n 1, 1) := by decide +kernel
theorem dX5_clear_2 : decode cX5_clear 2 = .ok (.iload_n 2, 1) := by decide +kernel
theorem dX5_clear_3 : decode cX5_clear 3 = .ok (.iconst 0, 1) := by decide +kernel
theorem dX5_clear_4 : decode cX5_clear 4 = .ok (.iconst 0, 1) := by decide +kernel
theorem dX5_clear_5 : decode cX5_clear 5 = .ok (.invokevirtual 66, 3) := by decide +kernel
theorem dX5_clear_8 : decode cX5_clear 8 = .ok (.aload_n 0, 1) := by decide +kernel
theorem dX5_clear_9 : decode cX5_clear 9 = .ok (.getfield 7, 3) := by decide +kernel
theorem dX5_clear_12 : decode cX5_clear 12 = .ok (.iconst 5, 1) := by decide +kernel
theorem dX5_clear_13 : decode cX5_clear 13 = .ok (.bipush 54, 2) := by decide +kernel
theorem dX5_clear_15 : decode cX5_clear 15 = .ok (.iload_n 1, 1) := by decide +kernel
theorem dX5_clear_16 : decode cX5_clear 16 = .ok (.imul, 1) := by decide +kernel
theorem dX5_clear_17 : decode cX5_clear 17 = .ok (.iadd, 1) := by decide +kernel
theorem dX5_clear_18 : decode cX5_clear 18 = .ok (.bipush 6, 2) := by decide +kernel
theorem dX5_clear_20 : decode cX5_clear 20 = .ok (.iadd, 1) := by decide +kernel
theorem dX5_clear_21 : decode cX5_clear 21 = .ok (.iconst 3, 1) := by decide +kernel
theorem dX5_clear_22 : decode cX5_clear 22 = .ok (.iload_n 2, 1) := by decide +kernel
theorem dX5_clear_23 : decode cX5_clear 23 = .ok (.imul, 1) := by decide +kernel
theorem dX5_clear_24 : decode cX5_clear 24 = .ok (.iadd, 1) := by decide +kernel
theorem dX5_clear_25 : decode cX5_clear 25 = .ok (.iconst 2, 1) := by decide +kernel
theorem dX5_clear_26 : decode cX5_clear 26 = .ok (.iadd, 1) := by decide +kernel
theorem dX5_clear_27 : decode cX5_clear 27 = .ok (.iconst 0, 1) := by decide +kernel
theorem dX5_clear_28 : decode cX5_clear 28 = .ok (.iastore, 1) := by decide +kernel
theorem dX5_clear_29 : decode cX5_clear 29 = .ok (.return_, 1) := by decide +kernel
theorem dX5_opensOnce_0 : decode cX5_opensOnce 0 = .ok (.aload_n 0, 1) := by decide +kernel
theorem dX5_opensOnce_1 : decode cX5_opensOnce 1 = .ok (.iload_n 1, 1) := by decide +kernel
theorem dX5_opensOnce_2 : decode cX5_opensOnce 2 = .ok (.invokevirtual 70, 3) := by decide +kernel
theorem dX5_opensOnce_5 : decode cX5_opensOnce 5 = .ok (.ifCond .ne 12, 3) := by decide +kernel
theorem dX5_opensOnce_8 : decode cX5_opensOnce 8 = .ok (.aload_n 0, 1) := by decide +kernel
theorem dX5_opensOnce_9 : decode cX5_opensOnce 9 = .ok (.iload_n 1, 1) := by decide +kernel
theorem dX5_opensOnce_10 : decode cX5_opensOnce 10 = .ok (.iconst 1, 1) := by decide +kernel
theorem dX5_opensOnce_11 : decode cX5_opensOnce 11 = .ok (.invokevirtual 73, 3) := by decide +kernel
theorem dX5_opensOnce_14 : decode cX5_opensOnce 14 = .ok (.ifCond .ne 5, 3) := by decide +kernel
theorem dX5_opensOnce_17 : decode cX5_opensOnce 17 = .ok (.iconst 0, 1) := by decide +kernel
theorem dX5_opensOnce_18 : decode cX5_opensOnce 18 = .ok (.ireturn, 1) := by decide +kernel
theorem dX5_opensOnce_19 : decode cX5_opensOnce 19 = .ok (.iconst 0, 1) := by decide +kernel
theorem dX5_opensOnce_20 : decode cX5_opensOnce 20 = .ok (.istore_n 2, 1) := by decide +kernel
theorem dX5_opensOnce_21 : decode cX5_opensOnce 21 = .ok (.iload_n 2, 1) := by decide +kernel
theorem dX5_opensOnce_22 : decode cX5_opensOnce 22 = .ok (.aload_n 0, 1) := by decide +kernel
theorem dX5_opensOnce_23 : decode cX5_opensOnce 23 = .ok (.iload_n 1, 1) := by decide +kernel
theorem dX5_opensOnce_24 : decode cX5_opensOnce 24 = .ok (.iconst 0, 1) := by decide +kernel
theorem dX5_opensOnce_25 : decode cX5_opensOnce 25 = .ok (.invokevirtual 43, 3) := by decide +kernel
theorem dX5_opensOnce_28 : decode cX5_opensOnce 28 = .ok (.if_icmp .ge 71, 3) := by decide +kernel
theorem dX5_opensOnce_31 : decode cX5_opensOnce 31 = .ok (.aload_n 0, 1) := by decide +kernel
theorem dX5_opensOnce_32 : decode cX5_opensOnce 32 = .ok (.iload_n 1, 1) := by decide +kernel
theorem dX5_opensOnce_33 : decode cX5_opensOnce 33 = .ok (.iload_n 2, 1) := by decide +kernel
theorem dX5_opensOnce_34 : decode cX5_opensOnce 34 = .ok (.iconst 0, 1) := by decide +kernel
theorem dX5_opensOnce_35 : decode cX5_opensOnce 35 = .ok (.invokevirtual 47, 3) := by decide +kernel
theorem dX5_opensOnce_38 : decode cX5_opensOnce 38 = .ok (.iconst 1, 1) := by decide +kernel
theorem dX5_opensOnce_39 : decode cX5_opensOnce 39 = .ok (.if_icmp .ne 54, 3) := by decide +kernel
theorem dX5_opensOnce_42 : decode cX5_opensOnce 42 = .ok (.aload_n 0, 1) := by decide +kernel
theorem dX5_opensOnce_43 : decode cX5_opensOnce 43 = .ok (.iload_n 1, 1) := by decide +kernel
theorem dX5_opensOnce_44 : decode cX5_opensOnce 44 = .ok (.iload_n 2, 1) := by decide +kernel
theorem dX5_opensOnce_45 : decode cX5_opensOnce 45 = .ok (.iconst 3, 1) := by decide +kernel
theorem dX5_opensOnce_46 : decode cX5_opensOnce 46 = .ok (.aload_n 0, 1) := by decide +kernel
theorem dX5_opensOnce_47 : decode cX5_opensOnce 47 = .ok (.getfield 7, 3) := by decide +kernel
theorem dX5_opensOnce_50 : decode cX5_opensOnce 50 = .ok (.iconst 1, 1) := by decide +kernel
theorem dX5_opensOnce_51 : decode cX5_opensOnce 51 = .ok (.iaload, 1) := by decide +kernel
theorem dX5_opensOnce_52 : decode cX5_opensOnce 52 = .ok (.invokevirtual 66, 3) := by decide +kernel
theorem dX5_opensOnce_55 : decode cX5_opensOnce 55 = .ok (.aload_n 0, 1) := by decide +kernel
theorem dX5_opensOnce_56 : decode cX5_opensOnce 56 = .ok (.getfield 7, 3) := by decide +kernel
theorem dX5_opensOnce_59 : decode cX5_opensOnce 59 = .ok (.iconst 5, 1) := by decide +kernel
theorem dX5_opensOnce_60 : decode cX5_opensOnce 60 = .ok (.bipush 54, 2) := by decide +kernel
theorem dX5_opensOnce_62 : decode cX5_opensOnce 62 = .ok (.iload_n 1, 1) := by decide +kernel
theorem dX5_opensOnce_63 : decode cX5_opensOnce 63 = .ok (.imul, 1) := by decide +kernel
theorem dX5_opensOnce_64 : decode cX5_opensOnce 64 = .ok (.iadd, 1) := by decide +kernel
theorem dX5_opensOnce_65 : decode cX5_opensOnce 65 = .ok (.bipush 6, 2) := by decide +kernel
theorem dX5_opensOnce_67 : decode cX5_opensOnce 67 = .ok (.iadd, 1) := by decide +kernel
theorem dX5_opensOnce_68 : decode cX5_opensOnce 68 = .ok (.iconst 3, 1) := by decide +kernel
theorem dX5_opensOnce_69 : decode cX5_opensOnce 69 = .ok (.iload_n 2, 1) := by decide +kernel
theorem dX5_opensOnce_70 : decode cX5_opensOnce 70 = .ok (.imul, 1) := by decide +kernel
theorem dX5_opensOnce_71 : decode cX5_opensOnce 71 = .ok (.iadd, 1) := by decide +kernel
theorem dX5_opensOnce_72 : decode cX5_opensOnce 72 = .ok (.iconst 2, 1) := by decide +kernel
theorem dX5_opensOnce_73 : decode cX5_opensOnce 73 = .ok (.iadd, 1) := by decide +kernel
theorem dX5_opensOnce_74 : decode cX5_opensOnce 74 = .ok (.dup2, 1) := by decide +kernel
theorem dX5_opensOnce_75 : decode cX5_opensOnce 75 = .ok (.iaload, 1) := by decide +kernel
theorem dX5_opensOnce_76 : decode cX5_opensOnce 76 = .ok (.iconst 1, 1) := by decide +kernel
theorem dX5_opensOnce_77 : decode cX5_opensOnce 77 = .ok (.iadd, 1) := by decide +kernel
theorem dX5_opensOnce_78 : decode cX5_opensOnce 78 = .ok (.iastore, 1) := by decide +kernel
theorem dX5_opensOnce_79 : decode cX5_opensOnce 79 = .ok (.aload_n 0, 1) := by decide +kernel
theorem dX5_opensOnce_80 : decode cX5_opensOnce 80 = .ok (.iload_n 1, 1) := by decide +kernel
theorem dX5_opensOnce_81 : decode cX5_opensOnce 81 = .ok (.iconst 4, 1) := by decide +kernel
theorem dX5_opensOnce_82 : decode cX5_opensOnce 82 = .ok (.aload_n 0, 1) := by decide +kernel
theorem dX5_opensOnce_83 : decode cX5_opensOnce 83 = .ok (.iload_n 1, 1) := by decide +kernel
theorem dX5_opensOnce_84 : decode cX5_opensOnce 84 = .ok (.iconst 4, 1) := by decide +kernel
theorem dX5_opensOnce_85 : decode cX5_opensOnce 85 = .ok (.invokevirtual 43, 3) := by decide +kernel
theorem dX5_opensOnce_88 : decode cX5_opensOnce 88 = .ok (.iconst 1, 1) := by decide +kernel
theorem dX5_opensOnce_89 : decode cX5_opensOnce 89 = .ok (.iadd, 1) := by decide +kernel
theorem dX5_opensOnce_90 : decode cX5_opensOnce 90 = .ok (.invokevirtual 76, 3) := by decide +kernel
theorem dX5_opensOnce_93 : decode cX5_opensOnce 93 = .ok (.iinc 2 1, 3) := by decide +kernel
theorem dX5_opensOnce_96 : decode cX5_opensOnce 96 = .ok (.goto (-75), 3) := by decide +kernel
theorem dX5_opensOnce_99 : decode cX5_opensOnce 99 = .ok (.aload_n 0, 1) := by decide +kernel
theorem dX5_opensOnce_100 : decode cX5_opensOnce 100 = .ok (.iload_n 1, 1) := by decide +kernel
theorem dX5_opensOnce_101 : decode cX5_opensOnce 101 = .ok (.iconst 3, 1) := by decide +kernel
theorem dX5_opensOnce_102 : decode cX5_opensOnce 102 = .ok (.aload_n 0, 1) := by decide +kernel
theorem dX5_opensOnce_103 : decode cX5_opensOnce 103 = .ok (.iload_n 1, 1) := by decide +kernel
theorem dX5_opensOnce_104 : decode cX5_opensOnce 104 = .ok (.iconst 3, 1) := by decide +kernel
theorem dX5_opensOnce_105 : decode cX5_opensOnce 105 = .ok (.invokevirtual 43, 3) := by decide +kernel
theorem dX5_opensOnce_108 : decode cX5_opensOnce 108 = .ok (.iconst 1, 1) := by decide +kernel
theorem dX5_opensOnce_109 : decode cX5_opensOnce 109 = .ok (.iadd, 1) := by decide +kernel
theorem dX5_opensOnce_110 : decode cX5_opensOnce 110 = .ok (.invokevirtual 76, 3) := by decide +kernel
theorem dX5_opensOnce_113 : decode cX5_opensOnce 113 = .ok (.aload_n 0, 1) := by decide +kernel
theorem dX5_opensOnce_114 : decode cX5_opensOnce 114 = .ok (.iload_n 1, 1) := by decide +kernel
theorem dX5_opensOnce_115 : decode cX5_opensOnce 115 = .ok (.iconst 1, 1) := by decide +kernel
theorem dX5_opensOnce_116 : decode cX5_opensOnce 116 = .ok (.iconst 1, 1) := by decide +kernel
theorem dX5_opensOnce_117 : decode cX5_opensOnce 117 = .ok (.aload_n 0, 1) := by decide +kernel
theorem dX5_opensOnce_118 : decode cX5_opensOnce 118 = .ok (.iload_n 1, 1) := by decide +kernel
theorem dX5_opensOnce_119 : decode cX5_opensOnce 119 = .ok (.iconst 1, 1) := by decide +kernel
theorem dX5_opensOnce_120 : decode cX5_opensOnce 120 = .ok (.invokevirtual 43, 3) := by decide +kernel
theorem dX5_opensOnce_123 : decode cX5_opensOnce 123 = .ok (.isub, 1) := by decide +kernel
theorem dX5_opensOnce_124 : decode cX5_opensOnce 124 = .ok (.invokevirtual 76, 3) := by decide +kernel
theorem dX5_opensOnce_127 : decode cX5_opensOnce 127 = .ok (.aload_n 0, 1) := by decide +kernel
theorem dX5_opensOnce_128 : decode cX5_opensOnce 128 = .ok (.iload_n 1, 1) := by decide +kernel
theorem dX5_opensOnce_129 : decode cX5_opensOnce 129 = .ok (.iconst 0, 1) := by decide +kernel
theorem dX5_opensOnce_130 : decode cX5_opensOnce 130 = .ok (.aload_n 0, 1) := by decide +kernel
theorem dX5_opensOnce_131 : decode cX5_opensOnce 131 = .ok (.iload_n 1, 1) := by decide +kernel
theorem dX5_opensOnce_132 : decode cX5_opensOnce 132 = .ok (.iconst 2, 1) := by decide +kernel
theorem dX5_opensOnce_133 : decode cX5_opensOnce 133 = .ok (.invokevirtual 43, 3) := by decide +kernel
theorem dX5_opensOnce_136 : decode cX5_opensOnce 136 = .ok (.invokevirtual 76, 3) := by decide +kernel
theorem dX5_opensOnce_139 : decode cX5_opensOnce 139 = .ok (.aload_n 0, 1) := by decide +kernel
theorem dX5_opensOnce_140 : decode cX5_opensOnce 140 = .ok (.iload_n 1, 1) := by decide +kernel
theorem dX5_opensOnce_141 : decode cX5_opensOnce 141 = .ok (.iconst 5, 1) := by decide +kernel
theorem dX5_opensOnce_142 : decode cX5_opensOnce 142 = .ok (.iconst 0, 1) := by decide +kernel
theorem dX5_opensOnce_143 : decode cX5_opensOnce 143 = .ok (.invokevirtual 76, 3) := by decide +kernel
theorem dX5_opensOnce_146 : decode cX5_opensOnce 146 = .ok (.aload_n 0, 1) := by decide +kernel
theorem dX5_opensOnce_147 : decode cX5_opensOnce 147 = .ok (.iload_n 1, 1) := by decide +kernel
theorem dX5_opensOnce_148 : decode cX5_opensOnce 148 = .ok (.iconst 0, 1) := by decide +kernel
theorem dX5_opensOnce_149 : decode cX5_opensOnce 149 = .ok (.invokevirtual 43, 3) := by decide +kernel
theorem dX5_opensOnce_152 : decode cX5_opensOnce 152 = .ok (.istore_n 2, 1) := by decide +kernel
theorem dX5_opensOnce_153 : decode cX5_opensOnce 153 = .ok (.iload_n 2, 1) := by decide +kernel
theorem dX5_opensOnce_154 : decode cX5_opensOnce 154 = .ok (.bipush 16, 2) := by decide +kernel
theorem dX5_opensOnce_156 : decode cX5_opensOnce 156 = .ok (.if_icmp .ge 26, 3) := by decide +kernel
theorem dX5_opensOnce_159 : decode cX5_opensOnce 159 = .ok (.aload_n 0, 1) := by decide +kernel
theorem dX5_opensOnce_160 : decode cX5_opensOnce 160 = .ok (.iload_n 1, 1) := by decide +kernel
theorem dX5_opensOnce_161 : decode cX5_opensOnce 161 = .ok (.iload_n 2, 1) := by decide +kernel
theorem dX5_opensOnce_162 : decode cX5_opensOnce 162 = .ok (.iconst 0, 1) := by decide +kernel
theorem dX5_opensOnce_163 : decode cX5_opensOnce 163 = .ok (.invokevirtual 47, 3) := by decide +kernel
theorem dX5_opensOnce_166 : decode cX5_opensOnce 166 = .ok (.iconst 3, 1) := by decide +kernel
theorem dX5_opensOnce_167 : decode cX5_opensOnce 167 = .ok (.if_icmp .eq 9, 3) := by decide +kernel
theorem dX5_opensOnce_170 : decode cX5_opensOnce 170 = .ok (.aload_n 0, 1) := by decide +kernel
theorem dX5_opensOnce_171 : decode cX5_opensOnce 171 = .ok (.iload_n 1, 1) := by decide +kernel
theorem dX5_opensOnce_172 : decode cX5_opensOnce 172 = .ok (.iload_n 2, 1) := by decide +kernel
theorem dX5_opensOnce_173 : decode cX5_opensOnce 173 = .ok (.invokevirtual 80, 3) := by decide +kernel
theorem dX5_opensOnce_176 : decode cX5_opensOnce 176 = .ok (.iinc 2 1, 3) := by decide +kernel
theorem dX5_opensOnce_179 : decode cX5_opensOnce 179 = .ok (.goto (-26), 3) := by decide +kernel
theorem dX5_opensOnce_182 : decode cX5_opensOnce 182 = .ok (.iconst 0, 1) := by decide +kernel
theorem dX5_opensOnce_183 : decode cX5_opensOnce 183 = .ok (.istore_n 2, 1) := by decide +kernel
theorem dX5_opensOnce_184 : decode cX5_opensOnce 184 = .ok (.iload_n 2, 1) := by decide +kernel
theorem dX5_opensOnce_185 : decode cX5_opensOnce 185 = .ok (.aload_n 0, 1) := by decide +kernel
theorem dX5_opensOnce_186 : decode cX5_opensOnce 186 = .ok (.iload_n 1, 1) := by decide +kernel
theorem dX5_opensOnce_187 : decode cX5_opensOnce 187 = .ok (.iconst 0, 1) := by decide +kernel
theorem dX5_opensOnce_188 : decode cX5_opensOnce 188 = .ok (.invokevirtual 43, 3) := by decide +kernel
theorem dX5_opensOnce_191 : decode cX5_opensOnce 191 = .ok (.if_icmp .ge 28, 3) := by decide +kernel
theorem dX5_opensOnce_194 : decode cX5_opensOnce 194 = .ok (.aload_n 0, 1) := by decide +kernel
theorem dX5_opensOnce_195 : decode cX5_opensOnce 195 = .ok (.iload_n 1, 1) := by decide +kernel
theorem dX5_opensOnce_196 : decode cX5_opensOnce 196 = .ok (.iload_n 2, 1) := by decide +kernel
theorem dX5_opensOnce_197 : decode cX5_opensOnce 197 = .ok (.iconst 0, 1) := by decide +kernel
theorem dX5_opensOnce_198 : decode cX5_opensOnce 198 = .ok (.invokevirtual 47, 3) := by decide +kernel
theorem dX5_opensOnce_201 : decode cX5_opensOnce 201 = .ok (.iconst 2, 1) := by decide +kernel
theorem dX5_opensOnce_202 : decode cX5_opensOnce 202 = .ok (.if_icmp .ne 11, 3) := by decide +kernel
theorem dX5_opensOnce_205 : decode cX5_opensOnce 205 = .ok (.aload_n 0, 1) := by decide +kernel
theorem dX5_opensOnce_206 : decode cX5_opensOnce 206 = .ok (.iload_n 1, 1) := by decide +kernel
theorem dX5_opensOnce_207 : decode cX5_opensOnce 207 = .ok (.iload_n 2, 1) := by decide +kernel
theorem dX5_opensOnce_208 : decode cX5_opensOnce 208 = .ok (.iconst 1, 1) := by decide +kernel
theorem dX5_opensOnce_209 : decode cX5_opensOnce 209 = .ok (.iconst 0, 1) := by decide +kernel
theorem dX5_opensOnce_210 : decode cX5_opensOnce 210 = .ok (.invokevirtual 66, 3) := by decide +kernel
theorem dX5_opensOnce_213 : decode cX5_opensOnce 213 = .ok (.iinc 2 1, 3) := by decide +kernel
theorem dX5_opensOnce_216 : decode cX5_opensOnce 216 = .ok (.goto (-32), 3) := by decide +kernel
theorem dX5_opensOnce_219 : decode cX5_opensOnce 219 = .ok (.iconst 1, 1) := by decide +kernel
theorem dX5_opensOnce_220 : decode cX5_opensOnce 220 = .ok (.ireturn, 1) := by decide +kernel
theorem dX5_opens_0 : decode cX5_opens 0 = .ok (.iconst 0, 1) := by decide +kernel
theorem dX5_opens_1 : decode cX5_opens 1 = .ok (.istore_n 2, 1) := by decide +kernel
theorem dX5_opens_2 : decode cX5_opens 2 = .ok (.iload_n 2, 1) := by decide +kernel
theorem dX5_opens_3 : decode cX5_opens 3 = .ok (.iconst 3, 1) := by decide +kernel
theorem dX5_opens_4 : decode cX5_opens 4 = .ok (.if_icmp .ge 17, 3) := by decide +kernel
theorem dX5_opens_7 : decode cX5_opens 7 = .ok (.aload_n 0, 1) := by decide +kernel
theorem dX5_opens_8 : decode cX5_opens 8 = .ok (.iload_n 1, 1) := by decide +kernel
theorem dX5_opens_9 : decode cX5_opens 9 = .ok (.invokevirtual 84, 3) := by decide +kernel
theorem dX5_opens_12 : decode cX5_opens 12 = .ok (.ifCond .eq 9, 3) := by decide +kernel
theorem dX5_opens_15 : decode cX5_opens 15 = .ok (.iinc 2 1, 3) := by decide +kernel
theorem dX5_opens_18 : decode cX5_opens 18 = .ok (.goto (-16), 3) := by decide +kernel
theorem dX5_opens_21 : decode cX5_opens 21 = .ok (.iload_n 2, 1) := by decide +kernel
theorem dX5_opens_22 : decode cX5_opens 22 = .ok (.ireturn, 1) := by decide +kernel
theorem dX5_minute_0 : decode cX5_minute 0 = .ok (.iconst 0, 1) := by decide +kernel
theorem dX5_minute_1 : decode cX5_minute 1 = .ok (.istore_n 2, 1) := by decide +kernel
theorem dX5_minute_2 : decode cX5_minute 2 = .ok (.iload_n 2, 1) := by decide +kernel
theorem dX5_minute_3 : decode cX5_minute 3 = .ok (.bipush 16, 2) := by decide +kernel
theorem dX5_minute_5 : decode cX5_minute 5 = .ok (.if_icmp .ge 70, 3) := by decide +kernel
theorem dX5_minute_8 : decode cX5_minute 8 = .ok (.aload_n 0, 1) := by decide +kernel
theorem dX5_minute_9 : decode cX5_minute 9 = .ok (.iload_n 1, 1) := by decide +kernel
theorem dX5_minute_10 : decode cX5_minute 10 = .ok (.iload_n 2, 1) := by decide +kernel
theorem dX5_minute_11 : decode cX5_minute 11 = .ok (.iconst 0, 1) := by decide +kernel
theorem dX5_minute_12 : decode cX5_minute 12 = .ok (.invokevirtual 47, 3) := by decide +kernel
theorem dX5_minute_15 : decode cX5_minute 15 = .ok (.iconst 3, 1) := by decide +kernel
theorem dX5_minute_16 : decode cX5_minute 16 = .ok (.if_icmp .ne 53, 3) := by decide +kernel
theorem dX5_minute_19 : decode cX5_minute 19 = .ok (.aload_n 0, 1) := by decide +kernel
theorem dX5_minute_20 : decode cX5_minute 20 = .ok (.iload_n 1, 1) := by decide +kernel
theorem dX5_minute_21 : decode cX5_minute 21 = .ok (.iload_n 2, 1) := by decide +kernel
theorem dX5_minute_22 : decode cX5_minute 22 = .ok (.iconst 3, 1) := by decide +kernel
theorem dX5_minute_23 : decode cX5_minute 23 = .ok (.aload_n 0, 1) := by decide +kernel
theorem dX5_minute_24 : decode cX5_minute 24 = .ok (.iload_n 1, 1) := by decide +kernel
theorem dX5_minute_25 : decode cX5_minute 25 = .ok (.iload_n 2, 1) := by decide +kernel
theorem dX5_minute_26 : decode cX5_minute 26 = .ok (.iconst 1, 1) := by decide +kernel
theorem dX5_minute_27 : decode cX5_minute 27 = .ok (.invokevirtual 47, 3) := by decide +kernel
theorem dX5_minute_30 : decode cX5_minute 30 = .ok (.iconst 1, 1) := by decide +kernel
theorem dX5_minute_31 : decode cX5_minute 31 = .ok (.isub, 1) := by decide +kernel
theorem dX5_minute_32 : decode cX5_minute 32 = .ok (.invokevirtual 66, 3) := by decide +kernel
theorem dX5_minute_35 : decode cX5_minute 35 = .ok (.aload_n 0, 1) := by decide +kernel
theorem dX5_minute_36 : decode cX5_minute 36 = .ok (.iload_n 1, 1) := by decide +kernel
theorem dX5_minute_37 : decode cX5_minute 37 = .ok (.iload_n 2, 1) := by decide +kernel
theorem dX5_minute_38 : decode cX5_minute 38 = .ok (.iconst 1, 1) := by decide +kernel
theorem dX5_minute_39 : decode cX5_minute 39 = .ok (.invokevirtual 47, 3) := by decide +kernel
theorem dX5_minute_42 : decode cX5_minute 42 = .ok (.ifCond .gt 27, 3) := by decide +kernel
theorem dX5_minute_45 : decode cX5_minute 45 = .ok (.aload_n 0, 1) := by decide +kernel
theorem dX5_minute_46 : decode cX5_minute 46 = .ok (.iload_n 1, 1) := by decide +kernel
theorem dX5_minute_47 : decode cX5_minute 47 = .ok (.iload_n 2, 1) := by decide +kernel
theorem dX5_minute_48 : decode cX5_minute 48 = .ok (.iconst 0, 1) := by decide +kernel
theorem dX5_minute_49 : decode cX5_minute 49 = .ok (.iconst 0, 1) := by decide +kernel
theorem dX5_minute_50 : decode cX5_minute 50 = .ok (.invokevirtual 66, 3) := by decide +kernel
theorem dX5_minute_53 : decode cX5_minute 53 = .ok (.iload_n 2, 1) := by decide +kernel
theorem dX5_minute_54 : decode cX5_minute 54 = .ok (.aload_n 0, 1) := by decide +kernel
theorem dX5_minute_55 : decode cX5_minute 55 = .ok (.iload_n 1, 1) := by decide +kernel
theorem dX5_minute_56 : decode cX5_minute 56 = .ok (.iconst 0, 1) := by decide +kernel
theorem dX5_minute_57 : decode cX5_minute 57 = .ok (.invokevirtual 43, 3) := by decide +kernel
theorem dX5_minute_60 : decode cX5_minute 60 = .ok (.if_icmp .lt 9, 3) := by decide +kernel
theorem dX5_minute_63 : decode cX5_minute 63 = .ok (.aload_n 0, 1) := by decide +kernel
theorem dX5_minute_64 : decode cX5_minute 64 = .ok (.iload_n 1, 1) := by decide +kernel
theorem dX5_minute_65 : decode cX5_minute 65 = .ok (.iload_n 2, 1) := by decide +kernel
theorem dX5_minute_66 : decode cX5_minute 66 = .ok (.invokevirtual 80, 3) := by decide +kernel
theorem dX5_minute_69 : decode cX5_minute 69 = .ok (.iinc 2 1, 3) := by decide +kernel
theorem dX5_minute_72 : decode cX5_minute 72 = .ok (.goto (-70), 3) := by decide +kernel
theorem dX5_minute_75 : decode cX5_minute 75 = .ok (.iconst 0, 1) := by decide +kernel
theorem dX5_minute_76 : decode cX5_minute 76 = .ok (.istore_n 2, 1) := by decide +kernel
theorem dX5_minute_77 : decode cX5_minute 77 = .ok (.iload_n 2, 1) := by decide +kernel
theorem dX5_minute_78 : decode cX5_minute 78 = .ok (.aload_n 0, 1) := by decide +kernel
theorem dX5_minute_79 : decode cX5_minute 79 = .ok (.iload_n 1, 1) := by decide +kernel
theorem dX5_minute_80 : decode cX5_minute 80 = .ok (.iconst 0, 1) := by decide +kernel
theorem dX5_minute_81 : decode cX5_minute 81 = .ok (.invokevirtual 43, 3) := by decide +kernel
theorem dX5_minute_84 : decode cX5_minute 84 = .ok (.if_icmp .ge 72, 3) := by decide +kernel
theorem dX5_minute_87 : decode cX5_minute 87 = .ok (.aload_n 0, 1) := by decide +kernel
theorem dX5_minute_88 : decode cX5_minute 88 = .ok (.iload_n 1, 1) := by decide +kernel
theorem dX5_minute_89 : decode cX5_minute 89 = .ok (.iload_n 2, 1) := by decide +kernel
theorem dX5_minute_90 : decode cX5_minute 90 = .ok (.iconst 0, 1) := by decide +kernel
theorem dX5_minute_91 : decode cX5_minute 91 = .ok (.invokevirtual 47, 3) := by decide +kernel
theorem dX5_minute_94 : decode cX5_minute 94 = .ok (.iconst 4, 1) := by decide +kernel
theorem dX5_minute_95 : decode cX5_minute 95 = .ok (.if_icmp .ne 55, 3) := by decide +kernel
theorem dX5_minute_98 : decode cX5_minute 98 = .ok (.aload_n 0, 1) := by decide +kernel
theorem dX5_minute_99 : decode cX5_minute 99 = .ok (.iload_n 1, 1) := by decide +kernel
theorem dX5_minute_100 : decode cX5_minute 100 = .ok (.iload_n 2, 1) := by decide +kernel
theorem dX5_minute_101 : decode cX5_minute 101 = .ok (.iconst 4, 1) := by decide +kernel
theorem dX5_minute_102 : decode cX5_minute 102 = .ok (.aload_n 0, 1) := by decide +kernel
theorem dX5_minute_103 : decode cX5_minute 103 = .ok (.iload_n 1, 1) := by decide +kernel
theorem dX5_minute_104 : decode cX5_minute 104 = .ok (.iload_n 2, 1) := by decide +kernel
theorem dX5_minute_105 : decode cX5_minute 105 = .ok (.iconst 1, 1) := by decide +kernel
theorem dX5_minute_106 : decode cX5_minute 106 = .ok (.invokevirtual 47, 3) := by decide +kernel
theorem dX5_minute_109 : decode cX5_minute 109 = .ok (.iconst 1, 1) := by decide +kernel
theorem dX5_minute_110 : decode cX5_minute 110 = .ok (.iadd, 1) := by decide +kernel
theorem dX5_minute_111 : decode cX5_minute 111 = .ok (.invokevirtual 66, 3) := by decide +kernel
theorem dX5_minute_114 : decode cX5_minute 114 = .ok (.aload_n 0, 1) := by decide +kernel
theorem dX5_minute_115 : decode cX5_minute 115 = .ok (.iload_n 1, 1) := by decide +kernel
theorem dX5_minute_116 : decode cX5_minute 116 = .ok (.iconst 5, 1) := by decide +kernel
theorem dX5_minute_117 : decode cX5_minute 117 = .ok (.aload_n 0, 1) := by decide +kernel
theorem dX5_minute_118 : decode cX5_minute 118 = .ok (.iload_n 1, 1) := by decide +kernel
theorem dX5_minute_119 : decode cX5_minute 119 = .ok (.iconst 5, 1) := by decide +kernel
theorem dX5_minute_120 : decode cX5_minute 120 = .ok (.invokevirtual 43, 3) := by decide +kernel
theorem dX5_minute_123 : decode cX5_minute 123 = .ok (.aload_n 0, 1) := by decide +kernel
theorem dX5_minute_124 : decode cX5_minute 124 = .ok (.iload_n 1, 1) := by decide +kernel
theorem dX5_minute_125 : decode cX5_minute 125 = .ok (.iload_n 2, 1) := by decide +kernel
theorem dX5_minute_126 : decode cX5_minute 126 = .ok (.iconst 1, 1) := by decide +kernel
theorem dX5_minute_127 : decode cX5_minute 127 = .ok (.invokevirtual 47, 3) := by decide +kernel
theorem dX5_minute_130 : decode cX5_minute 130 = .ok (.aload_n 0, 1) := by decide +kernel
theorem dX5_minute_131 : decode cX5_minute 131 = .ok (.getfield 7, 3) := by decide +kernel
theorem dX5_minute_134 : decode cX5_minute 134 = .ok (.iconst 0, 1) := by decide +kernel
theorem dX5_minute_135 : decode cX5_minute 135 = .ok (.iaload, 1) := by decide +kernel
theorem dX5_minute_136 : decode cX5_minute 136 = .ok (.if_icmp .le 9, 3) := by decide +kernel
theorem dX5_minute_139 : decode cX5_minute 139 = .ok (.iconst 1, 1) := by decide +kernel
theorem dX5_minute_140 : decode cX5_minute 140 = .ok (.iload_n 2, 1) := by decide +kernel
theorem dX5_minute_141 : decode cX5_minute 141 = .ok (.ishl, 1) := by decide +kernel
theorem dX5_minute_142 : decode cX5_minute 142 = .ok (.goto 4, 3) := by decide +kernel
theorem dX5_minute_145 : decode cX5_minute 145 = .ok (.iconst 0, 1) := by decide +kernel
theorem dX5_minute_146 : decode cX5_minute 146 = .ok (.ior, 1) := by decide +kernel
theorem dX5_minute_147 : decode cX5_minute 147 = .ok (.invokevirtual 76, 3) := by decide +kernel
theorem dX5_minute_150 : decode cX5_minute 150 = .ok (.iinc 2 1, 3) := by decide +kernel
theorem dX5_minute_153 : decode cX5_minute 153 = .ok (.goto (-76), 3) := by decide +kernel
theorem dX5_minute_156 : decode cX5_minute 156 = .ok (.aload_n 0, 1) := by decide +kernel
theorem dX5_minute_157 : decode cX5_minute 157 = .ok (.iload_n 1, 1) := by decide +kernel
theorem dX5_minute_158 : decode cX5_minute 158 = .ok (.invokevirtual 87, 3) := by decide +kernel
theorem dX5_minute_161 : decode cX5_minute 161 = .ok (.ireturn, 1) := by decide +kernel
theorem dX5_begins_0 : decode cX5_begins 0 = .ok (.iload_n 1, 1) := by decide +kernel
theorem dX5_begins_1 : decode cX5_begins 1 = .ok (.i2l, 1) := by decide +kernel
theorem dX5_begins_2 : decode cX5_begins 2 = .ok (.iconst 1, 1) := by decide +kernel
theorem dX5_begins_3 : decode cX5_begins 3 = .ok (.bipush 16, 2) := by decide +kernel
theorem dX5_begins_5 : decode cX5_begins 5 = .ok (.invokestatic 35, 3) := by decide +kernel
theorem dX5_begins_8 : decode cX5_begins 8 = .ok (.ifCond .ne 6, 3) := by decide +kernel
theorem dX5_begins_11 : decode cX5_begins 11 = .ok (.bipush (-2), 2) := by decide +kernel
theorem dX5_begins_13 : decode cX5_begins 13 = .ok (.ireturn, 1) := by decide +kernel
theorem dX5_begins_14 : decode cX5_begins 14 = .ok (.aload_n 0, 1) := by decide +kernel
theorem dX5_begins_15 : decode cX5_begins 15 = .ok (.getfield 7, 3) := by decide +kernel
theorem dX5_begins_18 : decode cX5_begins 18 = .ok (.iconst 3, 1) := by decide +kernel
theorem dX5_begins_19 : decode cX5_begins 19 = .ok (.iaload, 1) := by decide +kernel
theorem dX5_begins_20 : decode cX5_begins 20 = .ok (.istore_n 2, 1) := by decide +kernel
theorem dX5_begins_21 : decode cX5_begins 21 = .ok (.iload_n 2, 1) := by decide +kernel
theorem dX5_begins_22 : decode cX5_begins 22 = .ok (.iconst 5, 1) := by decide +kernel
theorem dX5_begins_23 : decode cX5_begins 23 = .ok (.if_icmp .ne 6, 3) := by decide +kernel
theorem dX5_begins_26 : decode cX5_begins 26 = .ok (.bipush (-4), 2) := by decide +kernel
theorem dX5_begins_28 : decode cX5_begins 28 = .ok (.ireturn, 1) := by decide +kernel
theorem dX5_begins_29 : decode cX5_begins 29 = .ok (.iconst 0, 1) := by decide +kernel
theorem dX5_begins_30 : decode cX5_begins 30 = .ok (.istore_n 3, 1) := by decide +kernel
theorem dX5_begins_31 : decode cX5_begins 31 = .ok (.iload_n 3, 1) := by decide +kernel
theorem dX5_begins_32 : decode cX5_begins 32 = .ok (.bipush 54, 2) := by decide +kernel
theorem dX5_begins_34 : decode cX5_begins 34 = .ok (.if_icmp .ge 16, 3) := by decide +kernel
theorem dX5_begins_37 : decode cX5_begins 37 = .ok (.aload_n 0, 1) := by decide +kernel
theorem dX5_begins_38 : decode cX5_begins 38 = .ok (.iload_n 2, 1) := by decide +kernel
theorem dX5_begins_39 : decode cX5_begins 39 = .ok (.iload_n 3, 1) := by decide +kernel
theorem dX5_begins_40 : decode cX5_begins 40 = .ok (.iconst 0, 1) := by decide +kernel
theorem dX5_begins_41 : decode cX5_begins 41 = .ok (.invokevirtual 76, 3) := by decide +kernel
theorem dX5_begins_44 : decode cX5_begins 44 = .ok (.iinc 3 1, 3) := by decide +kernel
theorem dX5_begins_47 : decode cX5_begins 47 = .ok (.goto (-16), 3) := by decide +kernel
theorem dX5_begins_50 : decode cX5_begins 50 = .ok (.aload_n 0, 1) := by decide +kernel
theorem dX5_begins_51 : decode cX5_begins 51 = .ok (.iload_n 2, 1) := by decide +kernel
theorem dX5_begins_52 : decode cX5_begins 52 = .ok (.iconst 0, 1) := by decide +kernel
theorem dX5_begins_53 : decode cX5_begins 53 = .ok (.iload_n 1, 1) := by decide +kernel
theorem dX5_begins_54 : decode cX5_begins 54 = .ok (.invokevirtual 76, 3) := by decide +kernel
theorem dX5_begins_57 : decode cX5_begins 57 = .ok (.aload_n 0, 1) := by decide +kernel
theorem dX5_begins_58 : decode cX5_begins 58 = .ok (.iload_n 2, 1) := by decide +kernel
theorem dX5_begins_59 : decode cX5_begins 59 = .ok (.iconst 2, 1) := by decide +kernel
theorem dX5_begins_60 : decode cX5_begins 60 = .ok (.iload_n 1, 1) := by decide +kernel
theorem dX5_begins_61 : decode cX5_begins 61 = .ok (.invokevirtual 76, 3) := by decide +kernel
theorem dX5_begins_64 : decode cX5_begins 64 = .ok (.aload_n 0, 1) := by decide +kernel
theorem dX5_begins_65 : decode cX5_begins 65 = .ok (.getfield 7, 3) := by decide +kernel
theorem dX5_begins_68 : decode cX5_begins 68 = .ok (.iconst 3, 1) := by decide +kernel
theorem dX5_begins_69 : decode cX5_begins 69 = .ok (.dup2, 1) := by decide +kernel
theorem dX5_begins_70 : decode cX5_begins 70 = .ok (.iaload, 1) := by decide +kernel
theorem dX5_begins_71 : decode cX5_begins 71 = .ok (.iconst 1, 1) := by decide +kernel
theorem dX5_begins_72 : decode cX5_begins 72 = .ok (.iadd, 1) := by decide +kernel
theorem dX5_begins_73 : decode cX5_begins 73 = .ok (.iastore, 1) := by decide +kernel
theorem dX5_begins_74 : decode cX5_begins 74 = .ok (.iload_n 2, 1) := by decide +kernel
theorem dX5_begins_75 : decode cX5_begins 75 = .ok (.ireturn, 1) := by decide +kernel
theorem dX5_sizes_0 : decode cX5_sizes 0 = .ok (.aload_n 0, 1) := by decide +kernel
theorem dX5_sizes_1 : decode cX5_sizes 1 = .ok (.iload_n 1, 1) := by decide +kernel
theorem dX5_sizes_2 : decode cX5_sizes 2 = .ok (.invokevirtual 39, 3) := by decide +kernel
theorem dX5_sizes_5 : decode cX5_sizes 5 = .ok (.ifCond .ne 5, 3) := by decide +kernel
theorem dX5_sizes_8 : decode cX5_sizes 8 = .ok (.iconst (-1), 1) := by decide +kernel
theorem dX5_sizes_9 : decode cX5_sizes 9 = .ok (.ireturn, 1) := by decide +kernel
theorem dX5_sizes_10 : decode cX5_sizes 10 = .ok (.iload_n 2, 1) := by decide +kernel
theorem dX5_sizes_11 : decode cX5_sizes 11 = .ok (.i2l, 1) := by decide +kernel
theorem dX5_sizes_12 : decode cX5_sizes 12 = .ok (.iconst 1, 1) := by decide +kernel
theorem dX5_sizes_13 : decode cX5_sizes 13 = .ok (.bipush 16, 2) := by decide +kernel
theorem dX5_sizes_15 : decode cX5_sizes 15 = .ok (.invokestatic 35, 3) := by decide +kernel
theorem dX5_sizes_18 : decode cX5_sizes 18 = .ok (.ifCond .ne 6, 3) := by decide +kernel
theorem dX5_sizes_21 : decode cX5_sizes 21 = .ok (.bipush (-2), 2) := by decide +kernel
theorem dX5_sizes_23 : decode cX5_sizes 23 = .ok (.ireturn, 1) := by decide +kernel
theorem dX5_sizes_24 : decode cX5_sizes 24 = .ok (.aload_n 0, 1) := by decide +kernel
theorem dX5_sizes_25 : decode cX5_sizes 25 = .ok (.iload_n 1, 1) := by decide +kernel
theorem dX5_sizes_26 : decode cX5_sizes 26 = .ok (.iconst 2, 1) := by decide +kernel
theorem dX5_sizes_27 : decode cX5_sizes 27 = .ok (.invokevirtual 43, 3) := by decide +kernel
theorem dX5_sizes_30 : decode cX5_sizes 30 = .ok (.istore_n 3, 1) := by decide +kernel
theorem dX5_sizes_31 : decode cX5_sizes 31 = .ok (.aload_n 0, 1) := by decide +kernel
theorem dX5_sizes_32 : decode cX5_sizes 32 = .ok (.iload_n 1, 1) := by decide +kernel
theorem dX5_sizes_33 : decode cX5_sizes 33 = .ok (.iconst 2, 1) := by decide +kernel
theorem dX5_sizes_34 : decode cX5_sizes 34 = .ok (.iload_n 2, 1) := by decide +kernel
theorem dX5_sizes_35 : decode cX5_sizes 35 = .ok (.invokevirtual 76, 3) := by decide +kernel
theorem dX5_sizes_38 : decode cX5_sizes 38 = .ok (.iload_n 3, 1) := by decide +kernel
theorem dX5_sizes_39 : decode cX5_sizes 39 = .ok (.ireturn, 1) := by decide +kernel
theorem dX5_comes_0 : decode cX5_comes 0 = .ok (.aload_n 0, 1) := by decide +kernel
theorem dX5_comes_1 : decode cX5_comes 1 = .ok (.iload_n 1, 1) := by decide +kernel
theorem dX5_comes_2 : decode cX5_comes 2 = .ok (.iload_n 2, 1) := by decide +kernel
theorem dX5_comes_3 : decode cX5_comes 3 = .ok (.iload_n 3, 1) := by decide +kernel
theorem dX5_comes_4 : decode cX5_comes 4 = .ok (.invokevirtual 90, 3) := by decide +kernel
theorem dX5_comes_7 : decode cX5_comes 7 = .ok (.istore 4, 2) := by decide +kernel
theorem dX5_comes_9 : decode cX5_comes 9 = .ok (.iload 4, 2) := by decide +kernel
theorem dX5_comes_11 : decode cX5_comes 11 = .ok (.ifCond .ge 6, 3) := by decide +kernel
theorem dX5_comes_14 : decode cX5_comes 14 = .ok (.iload 4, 2) := by decide +kernel
theorem dX5_comes_16 : decode cX5_comes 16 = .ok (.ireturn, 1) := by decide +kernel
theorem dX5_comes_17 : decode cX5_comes 17 = .ok (.iload 4, 2) := by decide +kernel
theorem dX5_comes_19 : decode cX5_comes 19 = .ok (.ifCond .le 12, 3) := by decide +kernel
theorem dX5_comes_22 : decode cX5_comes 22 = .ok (.iload 4, 2) := by decide +kernel
theorem dX5_comes_24 : decode cX5_comes 24 = .ok (.iconst 4, 1) := by decide +kernel
theorem dX5_comes_25 : decode cX5_comes 25 = .ok (.if_icmp .ge 6, 3) := by decide +kernel
theorem dX5_comes_28 : decode cX5_comes 28 = .ok (.bipush (-5), 2) := by decide +kernel
theorem dX5_comes_30 : decode cX5_comes 30 = .ok (.ireturn, 1) := by decide +kernel
theorem dX5_comes_31 : decode cX5_comes 31 = .ok (.aload_n 0, 1) := by decide +kernel
theorem dX5_comes_32 : decode cX5_comes 32 = .ok (.getfield 7, 3) := by decide +kernel
theorem dX5_comes_35 : decode cX5_comes 35 = .ok (.iconst 4, 1) := by decide +kernel
theorem dX5_comes_36 : decode cX5_comes 36 = .ok (.dup2, 1) := by decide +kernel
theorem dX5_comes_37 : decode cX5_comes 37 = .ok (.iaload, 1) := by decide +kernel
theorem dX5_comes_38 : decode cX5_comes 38 = .ok (.iload 4, 2) := by decide +kernel
theorem dX5_comes_40 : decode cX5_comes 40 = .ok (.iconst 4, 1) := by decide +kernel
theorem dX5_comes_41 : decode cX5_comes 41 = .ok (.if_icmp .ne 7, 3) := by decide +kernel
theorem dX5_comes_44 : decode cX5_comes 44 = .ok (.iconst 1, 1) := by decide +kernel
theorem dX5_comes_45 : decode cX5_comes 45 = .ok (.goto 4, 3) := by decide +kernel
theorem dX5_comes_48 : decode cX5_comes 48 = .ok (.iconst 0, 1) := by decide +kernel
theorem dX5_comes_49 : decode cX5_comes 49 = .ok (.iadd, 1) := by decide +kernel
theorem dX5_comes_50 : decode cX5_comes 50 = .ok (.iastore, 1) := by decide +kernel
theorem dX5_comes_51 : decode cX5_comes 51 = .ok (.aload_n 0, 1) := by decide +kernel
theorem dX5_comes_52 : decode cX5_comes 52 = .ok (.iload_n 1, 1) := by decide +kernel
theorem dX5_comes_53 : decode cX5_comes 53 = .ok (.iload_n 2, 1) := by decide +kernel
theorem dX5_comes_54 : decode cX5_comes 54 = .ok (.iload 4, 2) := by decide +kernel
theorem dX5_comes_56 : decode cX5_comes 56 = .ok (.iconst 4, 1) := by decide +kernel
theorem dX5_comes_57 : decode cX5_comes 57 = .ok (.if_icmp .ne 7, 3) := by decide +kernel
theorem dX5_comes_60 : decode cX5_comes 60 = .ok (.iconst 2, 1) := by decide +kernel
theorem dX5_comes_61 : decode cX5_comes 61 = .ok (.goto 4, 3) := by decide +kernel
theorem dX5_comes_64 : decode cX5_comes 64 = .ok (.iconst 1, 1) := by decide +kernel
theorem dX5_comes_65 : decode cX5_comes 65 = .ok (.iconst 0, 1) := by decide +kernel
theorem dX5_comes_66 : decode cX5_comes 66 = .ok (.invokevirtual 66, 3) := by decide +kernel
theorem dX5_comes_69 : decode cX5_comes 69 = .ok (.aload_n 0, 1) := by decide +kernel
theorem dX5_comes_70 : decode cX5_comes 70 = .ok (.iload_n 1, 1) := by decide +kernel
theorem dX5_comes_71 : decode cX5_comes 71 = .ok (.invokevirtual 87, 3) := by decide +kernel
theorem dX5_comes_74 : decode cX5_comes 74 = .ok (.ireturn, 1) := by decide +kernel
theorem dX5_loses_0 : decode cX5_loses 0 = .ok (.aload_n 0, 1) := by decide +kernel
theorem dX5_loses_1 : decode cX5_loses 1 = .ok (.iload_n 1, 1) := by decide +kernel
theorem dX5_loses_2 : decode cX5_loses 2 = .ok (.iload_n 2, 1) := by decide +kernel
theorem dX5_loses_3 : decode cX5_loses 3 = .ok (.invokevirtual 93, 3) := by decide +kernel
theorem dX5_loses_6 : decode cX5_loses 6 = .ok (.ifCond .ne 5, 3) := by decide +kernel
theorem dX5_loses_9 : decode cX5_loses 9 = .ok (.iconst (-1), 1) := by decide +kernel
theorem dX5_loses_10 : decode cX5_loses 10 = .ok (.ireturn, 1) := by decide +kernel
theorem dX5_loses_11 : decode cX5_loses 11 = .ok (.aload_n 0, 1) := by decide +kernel
theorem dX5_loses_12 : decode cX5_loses 12 = .ok (.iload_n 1, 1) := by decide +kernel
theorem dX5_loses_13 : decode cX5_loses 13 = .ok (.iload_n 2, 1) := by decide +kernel
theorem dX5_loses_14 : decode cX5_loses 14 = .ok (.iconst 0, 1) := by decide +kernel
theorem dX5_loses_15 : decode cX5_loses 15 = .ok (.invokevirtual 47, 3) := by decide +kernel
theorem dX5_loses_18 : decode cX5_loses 18 = .ok (.iconst 2, 1) := by decide +kernel
theorem dX5_loses_19 : decode cX5_loses 19 = .ok (.if_icmp .le 6, 3) := by decide +kernel
theorem dX5_loses_22 : decode cX5_loses 22 = .ok (.bipush (-5), 2) := by decide +kernel
theorem dX5_loses_24 : decode cX5_loses 24 = .ok (.ireturn, 1) := by decide +kernel
theorem dX5_loses_25 : decode cX5_loses 25 = .ok (.aload_n 0, 1) := by decide +kernel
theorem dX5_loses_26 : decode cX5_loses 26 = .ok (.iload_n 1, 1) := by decide +kernel
theorem dX5_loses_27 : decode cX5_loses 27 = .ok (.iload_n 2, 1) := by decide +kernel
theorem dX5_loses_28 : decode cX5_loses 28 = .ok (.iconst 4, 1) := by decide +kernel
theorem dX5_loses_29 : decode cX5_loses 29 = .ok (.iconst 0, 1) := by decide +kernel
theorem dX5_loses_30 : decode cX5_loses 30 = .ok (.invokevirtual 66, 3) := by decide +kernel
theorem dX5_loses_33 : decode cX5_loses 33 = .ok (.aload_n 0, 1) := by decide +kernel
theorem dX5_loses_34 : decode cX5_loses 34 = .ok (.iload_n 1, 1) := by decide +kernel
theorem dX5_loses_35 : decode cX5_loses 35 = .ok (.invokevirtual 70, 3) := by decide +kernel
theorem dX5_loses_38 : decode cX5_loses 38 = .ok (.invokestatic 96, 3) := by decide +kernel
theorem dX5_loses_41 : decode cX5_loses 41 = .ok (.ireturn, 1) := by decide +kernel
theorem dX5_waits_0 : decode cX5_waits 0 = .ok (.iload_n 1, 1) := by decide +kernel
theorem dX5_waits_1 : decode cX5_waits 1 = .ok (.i2l, 1) := by decide +kernel
theorem dX5_waits_2 : decode cX5_waits 2 = .ok (.iconst 1, 1) := by decide +kernel
theorem dX5_waits_3 : decode cX5_waits 3 = .ok (.bipush 99, 2) := by decide +kernel
theorem dX5_waits_5 : decode cX5_waits 5 = .ok (.invokestatic 35, 3) := by decide +kernel
theorem dX5_waits_8 : decode cX5_waits 8 = .ok (.ifCond .ne 6, 3) := by decide +kernel
theorem dX5_waits_11 : decode cX5_waits 11 = .ok (.bipush (-2), 2) := by decide +kernel
theorem dX5_waits_13 : decode cX5_waits 13 = .ok (.ireturn, 1) := by decide +kernel
theorem dX5_waits_14 : decode cX5_waits 14 = .ok (.aload_n 0, 1) := by decide +kernel
theorem dX5_waits_15 : decode cX5_waits 15 = .ok (.getfield 7, 3) := by decide +kernel
theorem dX5_waits_18 : decode cX5_waits 18 = .ok (.iconst 2, 1) := by decide +kernel
theorem dX5_waits_19 : decode cX5_waits 19 = .ok (.iaload, 1) := by decide +kernel
theorem dX5_waits_20 : decode cX5_waits 20 = .ok (.iload_n 1, 1) := by decide +kernel
theorem dX5_waits_21 : decode cX5_waits 21 = .ok (.iadd, 1) := by decide +kernel
theorem dX5_waits_22 : decode cX5_waits 22 = .ok (.sipush 9999, 3) := by decide +kernel
theorem dX5_waits_25 : decode cX5_waits 25 = .ok (.if_icmp .le 6, 3) := by decide +kernel
theorem dX5_waits_28 : decode cX5_waits 28 = .ok (.bipush (-5), 2) := by decide +kernel
theorem dX5_waits_30 : decode cX5_waits 30 = .ok (.ireturn, 1) := by decide +kernel
theorem dX5_waits_31 : decode cX5_waits 31 = .ok (.iconst 0, 1) := by decide +kernel
theorem dX5_waits_32 : decode cX5_waits 32 = .ok (.istore_n 2, 1) := by decide +kernel
theorem dX5_waits_33 : decode cX5_waits 33 = .ok (.iconst 0, 1) := by decide +kernel
theorem dX5_waits_34 : decode cX5_waits 34 = .ok (.istore_n 3, 1) := by decide +kernel
theorem dX5_waits_35 : decode cX5_waits 35 = .ok (.iload_n 3, 1) := by decide +kernel
theorem dX5_waits_36 : decode cX5_waits 36 = .ok (.iload_n 1, 1) := by decide +kernel
theorem dX5_waits_37 : decode cX5_waits 37 = .ok (.if_icmp .ge 48, 3) := by decide +kernel
theorem dX5_waits_40 : decode cX5_waits 40 = .ok (.aload_n 0, 1) := by decide +kernel
theorem dX5_waits_41 : decode cX5_waits 41 = .ok (.getfield 7, 3) := by decide +kernel
theorem dX5_waits_44 : decode cX5_waits 44 = .ok (.iconst 2, 1) := by decide +kernel
theorem dX5_waits_45 : decode cX5_waits 45 = .ok (.dup2, 1) := by decide +kernel
theorem dX5_waits_46 : decode cX5_waits 46 = .ok (.iaload, 1) := by decide +kernel
theorem dX5_waits_47 : decode cX5_waits 47 = .ok (.iconst 1, 1) := by decide +kernel
theorem dX5_waits_48 : decode cX5_waits 48 = .ok (.iadd, 1) := by decide +kernel
theorem dX5_waits_49 : decode cX5_waits 49 = .ok (.iastore, 1) := by decide +kernel
theorem dX5_waits_50 : decode cX5_waits 50 = .ok (.iconst 0, 1) := by decide +kernel
theorem dX5_waits_51 : decode cX5_waits 51 = .ok (.istore 4, 2) := by decide +kernel
theorem dX5_waits_53 : decode cX5_waits 53 = .ok (.iload 4, 2) := by decide +kernel
theorem dX5_waits_55 : decode cX5_waits 55 = .ok (.aload_n 0, 1) := by decide +kernel
theorem dX5_waits_56 : decode cX5_waits 56 = .ok (.getfield 7, 3) := by decide +kernel
theorem dX5_waits_59 : decode cX5_waits 59 = .ok (.iconst 3, 1) := by decide +kernel
theorem dX5_waits_60 : decode cX5_waits 60 = .ok (.iaload, 1) := by decide +kernel
theorem dX5_waits_61 : decode cX5_waits 61 = .ok (.if_icmp .ge 18, 3) := by decide +kernel
theorem dX5_waits_64 : decode cX5_waits 64 = .ok (.iload_n 2, 1) := by decide +kernel
theorem dX5_waits_65 : decode cX5_waits 65 = .ok (.aload_n 0, 1) := by decide +kernel
theorem dX5_waits_66 : decode cX5_waits 66 = .ok (.iload 4, 2) := by decide +kernel
theorem dX5_waits_68 : decode cX5_waits 68 = .ok (.invokevirtual 99, 3) := by decide +kernel
theorem dX5_waits_71 : decode cX5_waits 71 = .ok (.iadd, 1) := by decide +kernel
theorem dX5_waits_72 : decode cX5_waits 72 = .ok (.istore_n 2, 1) := by decide +kernel
theorem dX5_waits_73 : decode cX5_waits 73 = .ok (.iinc 4 1, 3) := by decide +kernel
theorem dX5_waits_76 : decode cX5_waits 76 = .ok (.goto (-23), 3) := by decide +kernel
theorem dX5_waits_79 : decode cX5_waits 79 = .ok (.iinc 3 1, 3) := by decide +kernel
theorem dX5_waits_82 : decode cX5_waits 82 = .ok (.goto (-47), 3) := by decide +kernel
theorem dX5_waits_85 : decode cX5_waits 85 = .ok (.iload_n 2, 1) := by decide +kernel
theorem dX5_waits_86 : decode cX5_waits 86 = .ok (.ireturn, 1) := by decide +kernel
theorem dX5_set_0 : decode cX5_set 0 = .ok (.iload_n 1, 1) := by decide +kernel
theorem dX5_set_1 : decode cX5_set 1 = .ok (.ifCond .ne 17, 3) := by decide +kernel
theorem dX5_set_4 : decode cX5_set 4 = .ok (.iload_n 2, 1) := by decide +kernel
theorem dX5_set_5 : decode cX5_set 5 = .ok (.i2l, 1) := by decide +kernel
theorem dX5_set_6 : decode cX5_set 6 = .ok (.iconst 0, 1) := by decide +kernel
theorem dX5_set_7 : decode cX5_set 7 = .ok (.bipush 99, 2) := by decide +kernel
theorem dX5_set_9 : decode cX5_set 9 = .ok (.invokestatic 35, 3) := by decide +kernel
theorem dX5_set_12 : decode cX5_set 12 = .ok (.ifCond .ne 25, 3) := by decide +kernel
theorem dX5_set_15 : decode cX5_set 15 = .ok (.goto 19, 3) := by decide +kernel
theorem dX5_set_18 : decode cX5_set 18 = .ok (.iload_n 1, 1) := by decide +kernel
theorem dX5_set_19 : decode cX5_set 19 = .ok (.iconst 1, 1) := by decide +kernel
theorem dX5_set_20 : decode cX5_set 20 = .ok (.if_icmp .ne 14, 3) := by decide +kernel
theorem dX5_set_23 : decode cX5_set 23 = .ok (.iload_n 2, 1) := by decide +kernel
theorem dX5_set_24 : decode cX5_set 24 = .ok (.i2l, 1) := by decide +kernel
theorem dX5_set_25 : decode cX5_set 25 = .ok (.iconst 1, 1) := by decide +kernel
theorem dX5_set_26 : decode cX5_set 26 = .ok (.bipush 99, 2) := by decide +kernel
theorem dX5_set_28 : decode cX5_set 28 = .ok (.invokestatic 35, 3) := by decide +kernel
theorem dX5_set_31 : decode cX5_set 31 = .ok (.ifCond .ne 6, 3) := by decide +kernel
theorem dX5_set_34 : decode cX5_set 34 = .ok (.bipush (-2), 2) := by decide +kernel
theorem dX5_set_36 : decode cX5_set 36 = .ok (.ireturn, 1) := by decide +kernel
theorem dX5_set_37 : decode cX5_set 37 = .ok (.aload_n 0, 1) := by decide +kernel
theorem dX5_set_38 : decode cX5_set 38 = .ok (.invokevirtual 59, 3) := by decide +kernel
theorem dX5_set_41 : decode cX5_set 41 = .ok (.aload_n 0, 1) := by decide +kernel
theorem dX5_set_42 : decode cX5_set 42 = .ok (.getfield 7, 3) := by decide +kernel
theorem dX5_set_45 : decode cX5_set 45 = .ok (.iload_n 1, 1) := by decide +kernel
theorem dX5_set_46 : decode cX5_set 46 = .ok (.iaload, 1) := by decide +kernel
theorem dX5_set_47 : decode cX5_set 47 = .ok (.istore_n 3, 1) := by decide +kernel
theorem dX5_set_48 : decode cX5_set 48 = .ok (.aload_n 0, 1) := by decide +kernel
theorem dX5_set_49 : decode cX5_set 49 = .ok (.getfield 7, 3) := by decide +kernel
theorem dX5_set_52 : decode cX5_set 52 = .ok (.iload_n 1, 1) := by decide +kernel
theorem dX5_set_53 : decode cX5_set 53 = .ok (.iload_n 2, 1) := by decide +kernel
theorem dX5_set_54 : decode cX5_set 54 = .ok (.iastore, 1) := by decide +kernel
theorem dX5_set_55 : decode cX5_set 55 = .ok (.aload_n 0, 1) := by decide +kernel
theorem dX5_set_56 : decode cX5_set 56 = .ok (.iload_n 3, 1) := by decide +kernel
theorem dX5_set_57 : decode cX5_set 57 = .ok (.invokevirtual 62, 3) := by decide +kernel
theorem dX5_set_60 : decode cX5_set 60 = .ok (.ireturn, 1) := by decide +kernel
theorem dX5_troop_0 : decode cX5_troop 0 = .ok (.aload_n 0, 1) := by decide +kernel
theorem dX5_troop_1 : decode cX5_troop 1 = .ok (.invokevirtual 59, 3) := by decide +kernel
theorem dX5_troop_4 : decode cX5_troop 4 = .ok (.aload_n 0, 1) := by decide +kernel
theorem dX5_troop_5 : decode cX5_troop 5 = .ok (.aload_n 0, 1) := by decide +kernel
theorem dX5_troop_6 : decode cX5_troop 6 = .ok (.iload_n 1, 1) := by decide +kernel
theorem dX5_troop_7 : decode cX5_troop 7 = .ok (.invokevirtual 102, 3) := by decide +kernel
theorem dX5_troop_10 : decode cX5_troop 10 = .ok (.invokevirtual 62, 3) := by decide +kernel
theorem dX5_troop_13 : decode cX5_troop 13 = .ok (.ireturn, 1) := by decide +kernel
theorem dX5_resize_0 : decode cX5_resize 0 = .ok (.aload_n 0, 1) := by decide +kernel
theorem dX5_resize_1 : decode cX5_resize 1 = .ok (.invokevirtual 59, 3) := by decide +kernel
theorem dX5_resize_4 : decode cX5_resize 4 = .ok (.aload_n 0, 1) := by decide +kernel
theorem dX5_resize_5 : decode cX5_resize 5 = .ok (.aload_n 0, 1) := by decide +kernel
theorem dX5_resize_6 : decode cX5_resize 6 = .ok (.iload_n 1, 1) := by decide +kernel
theorem dX5_resize_7 : decode cX5_resize 7 = .ok (.iload_n 2, 1) := by decide +kernel
theorem dX5_resize_8 : decode cX5_resize 8 = .ok (.invokevirtual 105, 3) := by decide +kernel
theorem dX5_resize_11 : decode cX5_resize 11 = .ok (.invokevirtual 62, 3) := by decide +kernel
theorem dX5_resize_14 : decode cX5_resize 14 = .ok (.ireturn, 1) := by decide +kernel
theorem dX5_come_0 : decode cX5_come 0 = .ok (.aload_n 0, 1) := by decide +kernel
theorem dX5_come_1 : decode cX5_come 1 = .ok (.invokevirtual 59, 3) := by decide +kernel
theorem dX5_come_4 : decode cX5_come 4 = .ok (.aload_n 0, 1) := by decide +kernel
theorem dX5_come_5 : decode cX5_come 5 = .ok (.aload_n 0, 1) := by decide +kernel
theorem dX5_come_6 : decode cX5_come 6 = .ok (.iload_n 1, 1) := by decide +kernel
theorem dX5_come_7 : decode cX5_come 7 = .ok (.iload_n 2, 1) := by decide +kernel
theorem dX5_come_8 : decode cX5_come 8 = .ok (.iload_n 3, 1) := by decide +kernel
theorem dX5_come_9 : decode cX5_come 9 = .ok (.invokevirtual 108, 3) := by decide +kernel
theorem dX5_come_12 : decode cX5_come 12 = .ok (.invokevirtual 62, 3) := by decide +kernel
theorem dX5_come_15 : decode cX5_come 15 = .ok (.ireturn, 1) := by decide +kernel
theorem dX5_lose_0 : decode cX5_lose 0 = .ok (.aload_n 0, 1) := by decide +kernel
theorem dX5_lose_1 : decode cX5_lose 1 = .ok (.invokevirtual 59, 3) := by decide +kernel
theorem dX5_lose_4 : decode cX5_lose 4 = .ok (.aload_n 0, 1) := by decide +kernel
theorem dX5_lose_5 : decode cX5_lose 5 = .ok (.aload_n 0, 1) := by decide +kernel
theorem dX5_lose_6 : decode cX5_lose 6 = .ok (.iload_n 1, 1) := by decide +kernel
theorem dX5_lose_7 : decode cX5_lose 7 = .ok (.iload_n 2, 1) := by decide +kernel
theorem dX5_lose_8 : decode cX5_lose 8 = .ok (.invokevirtual 111, 3) := by decide +kernel
theorem dX5_lose_11 : decode cX5_lose 11 = .ok (.invokevirtual 62, 3) := by decide +kernel
theorem dX5_lose_14 : decode cX5_lose 14 = .ok (.ireturn, 1) := by decide +kernel
theorem dX5_find_0 : decode cX5_find 0 = .ok (.aload_n 0, 1) := by decide +kernel
theorem dX5_find_1 : decode cX5_find 1 = .ok (.iload_n 1, 1) := by decide +kernel
theorem dX5_find_2 : decode cX5_find 2 = .ok (.iload_n 2, 1) := by decide +kernel
theorem dX5_find_3 : decode cX5_find 3 = .ok (.invokevirtual 93, 3) := by decide +kernel
theorem dX5_find_6 : decode cX5_find 6 = .ok (.ifCond .ne 5, 3) := by decide +kernel
theorem dX5_find_9 : decode cX5_find 9 = .ok (.iconst (-1), 1) := by decide +kernel
theorem dX5_find_10 : decode cX5_find 10 = .ok (.ireturn, 1) := by decide +kernel
theorem dX5_find_11 : decode cX5_find 11 = .ok (.aload_n 0, 1) := by decide +kernel
theorem dX5_find_12 : decode cX5_find 12 = .ok (.iload_n 1, 1) := by decide +kernel
theorem dX5_find_13 : decode cX5_find 13 = .ok (.iload_n 2, 1) := by decide +kernel
theorem dX5_find_14 : decode cX5_find 14 = .ok (.iconst 0, 1) := by decide +kernel
theorem dX5_find_15 : decode cX5_find 15 = .ok (.invokevirtual 47, 3) := by decide +kernel
theorem dX5_find_18 : decode cX5_find 18 = .ok (.iconst 4, 1) := by decide +kernel
theorem dX5_find_19 : decode cX5_find 19 = .ok (.if_icmp .eq 6, 3) := by decide +kernel
theorem dX5_find_22 : decode cX5_find 22 = .ok (.bipush (-5), 2) := by decide +kernel
theorem dX5_find_24 : decode cX5_find 24 = .ok (.ireturn, 1) := by decide +kernel
theorem dX5_find_25 : decode cX5_find 25 = .ok (.aload_n 0, 1) := by decide +kernel
theorem dX5_find_26 : decode cX5_find 26 = .ok (.invokevirtual 59, 3) := by decide +kernel
theorem dX5_find_29 : decode cX5_find 29 = .ok (.aload_n 0, 1) := by decide +kernel
theorem dX5_find_30 : decode cX5_find 30 = .ok (.iload_n 1, 1) := by decide +kernel
theorem dX5_find_31 : decode cX5_find 31 = .ok (.iload_n 2, 1) := by decide +kernel
theorem dX5_find_32 : decode cX5_find 32 = .ok (.iconst 1, 1) := by decide +kernel
theorem dX5_find_33 : decode cX5_find 33 = .ok (.invokevirtual 47, 3) := by decide +kernel
theorem dX5_find_36 : decode cX5_find 36 = .ok (.istore_n 3, 1) := by decide +kernel
theorem dX5_find_37 : decode cX5_find 37 = .ok (.aload_n 0, 1) := by decide +kernel
theorem dX5_find_38 : decode cX5_find 38 = .ok (.iload_n 1, 1) := by decide +kernel
theorem dX5_find_39 : decode cX5_find 39 = .ok (.iload_n 2, 1) := by decide +kernel
theorem dX5_find_40 : decode cX5_find 40 = .ok (.iconst 0, 1) := by decide +kernel
theorem dX5_find_41 : decode cX5_find 41 = .ok (.iconst 0, 1) := by decide +kernel
theorem dX5_find_42 : decode cX5_find 42 = .ok (.invokevirtual 66, 3) := by decide +kernel
theorem dX5_find_45 : decode cX5_find 45 = .ok (.aload_n 0, 1) := by decide +kernel
theorem dX5_find_46 : decode cX5_find 46 = .ok (.iload_n 3, 1) := by decide +kernel
theorem dX5_find_47 : decode cX5_find 47 = .ok (.invokevirtual 62, 3) := by decide +kernel
theorem dX5_find_50 : decode cX5_find 50 = .ok (.ireturn, 1) := by decide +kernel
theorem dX5_pass_0 : decode cX5_pass 0 = .ok (.aload_n 0, 1) := by decide +kernel
theorem dX5_pass_1 : decode cX5_pass 1 = .ok (.invokevirtual 59, 3) := by decide +kernel
theorem dX5_pass_4 : decode cX5_pass 4 = .ok (.aload_n 0, 1) := by decide +kernel
theorem dX5_pass_5 : decode cX5_pass 5 = .ok (.aload_n 0, 1) := by decide +kernel
theorem dX5_pass_6 : decode cX5_pass 6 = .ok (.iload_n 1, 1) := by decide +kernel
theorem dX5_pass_7 : decode cX5_pass 7 = .ok (.invokevirtual 114, 3) := by decide +kernel
theorem dX5_pass_10 : decode cX5_pass 10 = .ok (.invokevirtual 62, 3) := by decide +kernel
theorem dX5_pass_13 : decode cX5_pass 13 = .ok (.ireturn, 1) := by decide +kernel
theorem dX5_ofTroop_0 : decode cX5_ofTroop 0 = .ok (.aload_n 0, 1) := by decide +kernel
theorem dX5_ofTroop_1 : decode cX5_ofTroop 1 = .ok (.iload_n 1, 1) := by decide +kernel
theorem dX5_ofTroop_2 : decode cX5_ofTroop 2 = .ok (.invokevirtual 39, 3) := by decide +kernel
theorem dX5_ofTroop_5 : decode cX5_ofTroop 5 = .ok (.ifCond .ne 5, 3) := by decide +kernel
theorem dX5_ofTroop_8 : decode cX5_ofTroop 8 = .ok (.iconst (-1), 1) := by decide +kernel
theorem dX5_ofTroop_9 : decode cX5_ofTroop 9 = .ok (.ireturn, 1) := by decide +kernel
theorem dX5_ofTroop_10 : decode cX5_ofTroop 10 = .ok (.iload_n 2, 1) := by decide +kernel
theorem dX5_ofTroop_11 : decode cX5_ofTroop 11 = .ok (.i2l, 1) := by decide +kernel
theorem dX5_ofTroop_12 : decode cX5_ofTroop 12 = .ok (.iconst 5, 1) := by decide +kernel
theorem dX5_ofTroop_13 : decode cX5_ofTroop 13 = .ok (.bipush 9, 2) := by decide +kernel
theorem dX5_ofTroop_15 : decode cX5_ofTroop 15 = .ok (.invokestatic 35, 3) := by decide +kernel
theorem dX5_ofTroop_18 : decode cX5_ofTroop 18 = .ok (.ifCond .eq 12, 3) := by decide +kernel
theorem dX5_ofTroop_21 : decode cX5_ofTroop 21 = .ok (.aload_n 0, 1) := by decide +kernel
theorem dX5_ofTroop_22 : decode cX5_ofTroop 22 = .ok (.iload_n 1, 1) := by decide +kernel
theorem dX5_ofTroop_23 : decode cX5_ofTroop 23 = .ok (.iload_n 2, 1) := by decide +kernel
theorem dX5_ofTroop_24 : decode cX5_ofTroop 24 = .ok (.iconst 5, 1) := by decide +kernel
theorem dX5_ofTroop_25 : decode cX5_ofTroop 25 = .ok (.isub, 1) := by decide +kernel
theorem dX5_ofTroop_26 : decode cX5_ofTroop 26 = .ok (.invokevirtual 73, 3) := by decide +kernel
theorem dX5_ofTroop_29 : decode cX5_ofTroop 29 = .ok (.ireturn, 1) := by decide +kernel
theorem dX5_ofTroop_30 : decode cX5_ofTroop 30 = .ok (.iload_n 2, 1) := by decide +kernel
theorem dX5_ofTroop_31 : decode cX5_ofTroop 31 = .ok (.tableswitch 112 0 11 #[61, 68, 75, 82, 91, 112, 112, 112, 112, 112, 98, 105], 61) := by decide +kernel
theorem dX5_ofTroop_92 : decode cX5_ofTroop 92 = .ok (.aload_n 0, 1) := by decide +kernel
theorem dX5_ofTroop_93 : decode cX5_ofTroop 93 = .ok (.iload_n 1, 1) := by decide +kernel
theorem dX5_ofTroop_94 : decode cX5_ofTroop 94 = .ok (.iconst 0, 1) := by decide +kernel
theorem dX5_ofTroop_95 : decode cX5_ofTroop 95 = .ok (.invokevirtual 43, 3) := by decide +kernel
theorem dX5_ofTroop_98 : decode cX5_ofTroop 98 = .ok (.ireturn, 1) := by decide +kernel
theorem dX5_ofTroop_99 : decode cX5_ofTroop 99 = .ok (.aload_n 0, 1) := by decide +kernel
theorem dX5_ofTroop_100 : decode cX5_ofTroop 100 = .ok (.iload_n 1, 1) := by decide +kernel
theorem dX5_ofTroop_101 : decode cX5_ofTroop 101 = .ok (.iconst 1, 1) := by decide +kernel
theorem dX5_ofTroop_102 : decode cX5_ofTroop 102 = .ok (.invokevirtual 43, 3) := by decide +kernel
theorem dX5_ofTroop_105 : decode cX5_ofTroop 105 = .ok (.ireturn, 1) := by decide +kernel
theorem dX5_ofTroop_106 : decode cX5_ofTroop 106 = .ok (.aload_n 0, 1) := by decide +kernel
theorem dX5_ofTroop_107 : decode cX5_ofTroop 107 = .ok (.iload_n 1, 1) := by decide +kernel
theorem dX5_ofTroop_108 : decode cX5_ofTroop 108 = .ok (.iconst 2, 1) := by decide +kernel
theorem dX5_ofTroop_109 : decode cX5_ofTroop 109 = .ok (.invokevirtual 43, 3) := by decide +kernel
theorem dX5_ofTroop_112 : decode cX5_ofTroop 112 = .ok (.ireturn, 1) := by decide +kernel
theorem dX5_ofTroop_113 : decode cX5_ofTroop 113 = .ok (.aload_n 0, 1) := by decide +kernel
theorem dX5_ofTroop_114 : decode cX5_ofTroop 114 = .ok (.iload_n 1, 1) := by decide +kernel
theorem dX5_ofTroop_115 : decode cX5_ofTroop 115 = .ok (.invokevirtual 70, 3) := by decide +kernel
theorem dX5_ofTroop_118 : decode cX5_ofTroop 118 = .ok (.invokestatic 96, 3) := by decide +kernel
theorem dX5_ofTroop_121 : decode cX5_ofTroop 121 = .ok (.ireturn, 1) := by decide +kernel
theorem dX5_ofTroop_122 : decode cX5_ofTroop 122 = .ok (.aload_n 0, 1) := by decide +kernel
theorem dX5_ofTroop_123 : decode cX5_ofTroop 123 = .ok (.iload_n 1, 1) := by decide +kernel
theorem dX5_ofTroop_124 : decode cX5_ofTroop 124 = .ok (.iconst 3, 1) := by decide +kernel
theorem dX5_ofTroop_125 : decode cX5_ofTroop 125 = .ok (.invokevirtual 43, 3) := by decide +kernel
theorem dX5_ofTroop_128 : decode cX5_ofTroop 128 = .ok (.ireturn, 1) := by decide +kernel
theorem dX5_ofTroop_129 : decode cX5_ofTroop 129 = .ok (.aload_n 0, 1) := by decide +kernel
theorem dX5_ofTroop_130 : decode cX5_ofTroop 130 = .ok (.iload_n 1, 1) := by decide +kernel
theorem dX5_ofTroop_131 : decode cX5_ofTroop 131 = .ok (.iconst 5, 1) := by decide +kernel
theorem dX5_ofTroop_132 : decode cX5_ofTroop 132 = .ok (.invokevirtual 43, 3) := by decide +kernel
theorem dX5_ofTroop_135 : decode cX5_ofTroop 135 = .ok (.ireturn, 1) := by decide +kernel
theorem dX5_ofTroop_136 : decode cX5_ofTroop 136 = .ok (.aload_n 0, 1) := by decide +kernel
theorem dX5_ofTroop_137 : decode cX5_ofTroop 137 = .ok (.iload_n 1, 1) := by decide +kernel
theorem dX5_ofTroop_138 : decode cX5_ofTroop 138 = .ok (.iconst 4, 1) := by decide +kernel
theorem dX5_ofTroop_139 : decode cX5_ofTroop 139 = .ok (.invokevirtual 43, 3) := by decide +kernel
theorem dX5_ofTroop_142 : decode cX5_ofTroop 142 = .ok (.ireturn, 1) := by decide +kernel
theorem dX5_ofTroop_143 : decode cX5_ofTroop 143 = .ok (.bipush (-2), 2) := by decide +kernel
theorem dX5_ofTroop_145 : decode cX5_ofTroop 145 = .ok (.ireturn, 1) := by decide +kernel
theorem dX5_of_0 : decode cX5_of 0 = .ok (.aload_n 0, 1) := by decide +kernel
theorem dX5_of_1 : decode cX5_of 1 = .ok (.iload_n 1, 1) := by decide +kernel
theorem dX5_of_2 : decode cX5_of 2 = .ok (.invokevirtual 39, 3) := by decide +kernel
theorem dX5_of_5 : decode cX5_of 5 = .ok (.ifCond .eq 35, 3) := by decide +kernel
theorem dX5_of_8 : decode cX5_of 8 = .ok (.iload_n 2, 1) := by decide +kernel
theorem dX5_of_9 : decode cX5_of 9 = .ok (.i2l, 1) := by decide +kernel
theorem dX5_of_10 : decode cX5_of 10 = .ok (.iconst 0, 1) := by decide +kernel
theorem dX5_of_11 : decode cX5_of 11 = .ok (.bipush 15, 2) := by decide +kernel
theorem dX5_of_13 : decode cX5_of 13 = .ok (.invokestatic 35, 3) := by decide +kernel
theorem dX5_of_16 : decode cX5_of 16 = .ok (.ifCond .eq 24, 3) := by decide +kernel
theorem dX5_of_19 : decode cX5_of 19 = .ok (.iload_n 2, 1) := by decide +kernel
theorem dX5_of_20 : decode cX5_of 20 = .ok (.aload_n 0, 1) := by decide +kernel
theorem dX5_of_21 : decode cX5_of 21 = .ok (.iload_n 1, 1) := by decide +kernel
theorem dX5_of_22 : decode cX5_of 22 = .ok (.iconst 0, 1) := by decide +kernel
theorem dX5_of_23 : decode cX5_of 23 = .ok (.invokevirtual 43, 3) := by decide +kernel
theorem dX5_of_26 : decode cX5_of 26 = .ok (.if_icmp .lt 16, 3) := by decide +kernel
theorem dX5_of_29 : decode cX5_of 29 = .ok (.aload_n 0, 1) := by decide +kernel
theorem dX5_of_30 : decode cX5_of 30 = .ok (.iload_n 1, 1) := by decide +kernel
theorem dX5_of_31 : decode cX5_of 31 = .ok (.iload_n 2, 1) := by decide +kernel
theorem dX5_of_32 : decode cX5_of 32 = .ok (.iconst 0, 1) := by decide +kernel
theorem dX5_of_33 : decode cX5_of 33 = .ok (.invokevirtual 47, 3) := by decide +kernel
theorem dX5_of_36 : decode cX5_of 36 = .ok (.iconst 3, 1) := by decide +kernel
theorem dX5_of_37 : decode cX5_of 37 = .ok (.if_icmp .eq 5, 3) := by decide +kernel
theorem dX5_of_40 : decode cX5_of 40 = .ok (.iconst (-1), 1) := by decide +kernel
theorem dX5_of_41 : decode cX5_of 41 = .ok (.ireturn, 1) := by decide +kernel
theorem dX5_of_42 : decode cX5_of 42 = .ok (.iload_n 3, 1) := by decide +kernel
theorem dX5_of_43 : decode cX5_of 43 = .ok (.i2l, 1) := by decide +kernel
theorem dX5_of_44 : decode cX5_of 44 = .ok (.iconst 0, 1) := by decide +kernel
theorem dX5_of_45 : decode cX5_of 45 = .ok (.iconst 2, 1) := by decide +kernel
theorem dX5_of_46 : decode cX5_of 46 = .ok (.invokestatic 35, 3) := by decide +kernel
theorem dX5_of_49 : decode cX5_of 49 = .ok (.ifCond .eq 13, 3) := by decide +kernel
theorem dX5_of_52 : decode cX5_of 52 = .ok (.aload_n 0, 1) := by decide +kernel
theorem dX5_of_53 : decode cX5_of 53 = .ok (.iload_n 1, 1) := by decide +kernel
theorem dX5_of_54 : decode cX5_of 54 = .ok (.iload_n 2, 1) := by decide +kernel
theorem dX5_of_55 : decode cX5_of 55 = .ok (.iload_n 3, 1) := by decide +kernel
theorem dX5_of_56 : decode cX5_of 56 = .ok (.invokevirtual 47, 3) := by decide +kernel
theorem dX5_of_59 : decode cX5_of 59 = .ok (.goto 23, 3) := by decide +kernel
theorem dX5_of_62 : decode cX5_of 62 = .ok (.iload_n 3, 1) := by decide +kernel
theorem dX5_of_63 : decode cX5_of 63 = .ok (.iconst 3, 1) := by decide +kernel
theorem dX5_of_64 : decode cX5_of 64 = .ok (.if_icmp .ne 16, 3) := by decide +kernel
theorem dX5_of_67 : decode cX5_of 67 = .ok (.aload_n 0, 1) := by decide +kernel
theorem dX5_of_68 : decode cX5_of 68 = .ok (.iload_n 1, 1) := by decide +kernel
theorem dX5_of_69 : decode cX5_of 69 = .ok (.iconst 5, 1) := by decide +kernel
theorem dX5_of_70 : decode cX5_of 70 = .ok (.invokevirtual 43, 3) := by decide +kernel
theorem dX5_of_73 : decode cX5_of 73 = .ok (.iload_n 2, 1) := by decide +kernel
theorem dX5_of_74 : decode cX5_of 74 = .ok (.ishr, 1) := by decide +kernel
theorem dX5_of_75 : decode cX5_of 75 = .ok (.iconst 1, 1) := by decide +kernel
theorem dX5_of_76 : decode cX5_of 76 = .ok (.iand, 1) := by decide +kernel
theorem dX5_of_77 : decode cX5_of 77 = .ok (.goto 5, 3) := by decide +kernel
theorem dX5_of_80 : decode cX5_of 80 = .ok (.bipush (-2), 2) := by decide +kernel
theorem dX5_of_82 : decode cX5_of 82 = .ok (.ireturn, 1) := by decide +kernel
theorem dX5_sum_0 : decode cX5_sum 0 = .ok (.iconst 0, 1) := by decide +kernel
theorem dX5_sum_1 : decode cX5_sum 1 = .ok (.istore_n 2, 1) := by decide +kernel
theorem dX5_sum_2 : decode cX5_sum 2 = .ok (.iconst 0, 1) := by decide +kernel
theorem dX5_sum_3 : decode cX5_sum 3 = .ok (.istore_n 3, 1) := by decide +kernel
theorem dX5_sum_4 : decode cX5_sum 4 = .ok (.iload_n 3, 1) := by decide +kernel
theorem dX5_sum_5 : decode cX5_sum 5 = .ok (.aload_n 0, 1) := by decide +kernel
theorem dX5_sum_6 : decode cX5_sum 6 = .ok (.getfield 7, 3) := by decide +kernel
theorem dX5_sum_9 : decode cX5_sum 9 = .ok (.iconst 3, 1) := by decide +kernel
theorem dX5_sum_10 : decode cX5_sum 10 = .ok (.iaload, 1) := by decide +kernel
theorem dX5_sum_11 : decode cX5_sum 11 = .ok (.if_icmp .ge 35, 3) := by decide +kernel
theorem dX5_sum_14 : decode cX5_sum 14 = .ok (.iload_n 2, 1) := by decide +kernel
theorem dX5_sum_15 : decode cX5_sum 15 = .ok (.iload_n 1, 1) := by decide +kernel
theorem dX5_sum_16 : decode cX5_sum 16 = .ok (.iconst 2, 1) := by decide +kernel
theorem dX5_sum_17 : decode cX5_sum 17 = .ok (.if_icmp .ne 12, 3) := by decide +kernel
theorem dX5_sum_20 : decode cX5_sum 20 = .ok (.aload_n 0, 1) := by decide +kernel
theorem dX5_sum_21 : decode cX5_sum 21 = .ok (.iload_n 3, 1) := by decide +kernel
theorem dX5_sum_22 : decode cX5_sum 22 = .ok (.iconst 3, 1) := by decide +kernel
theorem dX5_sum_23 : decode cX5_sum 23 = .ok (.invokevirtual 43, 3) := by decide +kernel
theorem dX5_sum_26 : decode cX5_sum 26 = .ok (.goto 12, 3) := by decide +kernel
theorem dX5_sum_29 : decode cX5_sum 29 = .ok (.aload_n 0, 1) := by decide +kernel
theorem dX5_sum_30 : decode cX5_sum 30 = .ok (.iload_n 3, 1) := by decide +kernel
theorem dX5_sum_31 : decode cX5_sum 31 = .ok (.iload_n 1, 1) := by decide +kernel
theorem dX5_sum_32 : decode cX5_sum 32 = .ok (.invokevirtual 73, 3) := by decide +kernel
theorem dX5_sum_35 : decode cX5_sum 35 = .ok (.invokestatic 96, 3) := by decide +kernel
theorem dX5_sum_38 : decode cX5_sum 38 = .ok (.iadd, 1) := by decide +kernel
theorem dX5_sum_39 : decode cX5_sum 39 = .ok (.istore_n 2, 1) := by decide +kernel
theorem dX5_sum_40 : decode cX5_sum 40 = .ok (.iinc 3 1, 3) := by decide +kernel
theorem dX5_sum_43 : decode cX5_sum 43 = .ok (.goto (-39), 3) := by decide +kernel
theorem dX5_sum_46 : decode cX5_sum 46 = .ok (.iload_n 2, 1) := by decide +kernel
theorem dX5_sum_47 : decode cX5_sum 47 = .ok (.ireturn, 1) := by decide +kernel
theorem dX5_count_0 : decode cX5_count 0 = .ok (.iload_n 1, 1) := by decide +kernel
theorem dX5_count_1 : decode cX5_count 1 = .ok (.tableswitch 102 0 9 #[55, 62, 69, 69, 69, 75, 82, 82, 92, 97], 55) := by decide +kernel
theorem dX5_count_56 : decode cX5_count 56 = .ok (.aload_n 0, 1) := by decide +kernel
theorem dX5_count_57 : decode cX5_count 57 = .ok (.getfield 7, 3) := by decide +kernel
theorem dX5_count_60 : decode cX5_count 60 = .ok (.iconst 2, 1) := by decide +kernel
theorem dX5_count_61 : decode cX5_count 61 = .ok (.iaload, 1) := by decide +kernel
theorem dX5_count_62 : decode cX5_count 62 = .ok (.ireturn, 1) := by decide +kernel
theorem dX5_count_63 : decode cX5_count 63 = .ok (.aload_n 0, 1) := by decide +kernel
theorem dX5_count_64 : decode cX5_count 64 = .ok (.getfield 7, 3) := by decide +kernel
theorem dX5_count_67 : decode cX5_count 67 = .ok (.iconst 3, 1) := by decide +kernel
theorem dX5_count_68 : decode cX5_count 68 = .ok (.iaload, 1) := by decide +kernel
theorem dX5_count_69 : decode cX5_count 69 = .ok (.ireturn, 1) := by decide +kernel
theorem dX5_count_70 : decode cX5_count 70 = .ok (.aload_n 0, 1) := by decide +kernel
theorem dX5_count_71 : decode cX5_count 71 = .ok (.iload_n 1, 1) := by decide +kernel
theorem dX5_count_72 : decode cX5_count 72 = .ok (.invokevirtual 117, 3) := by decide +kernel
theorem dX5_count_75 : decode cX5_count 75 = .ok (.ireturn, 1) := by decide +kernel
theorem dX5_count_76 : decode cX5_count 76 = .ok (.aload_n 0, 1) := by decide +kernel
theorem dX5_count_77 : decode cX5_count 77 = .ok (.getfield 7, 3) := by decide +kernel
theorem dX5_count_80 : decode cX5_count 80 = .ok (.iconst 4, 1) := by decide +kernel
theorem dX5_count_81 : decode cX5_count 81 = .ok (.iaload, 1) := by decide +kernel
theorem dX5_count_82 : decode cX5_count 82 = .ok (.ireturn, 1) := by decide +kernel
theorem dX5_count_83 : decode cX5_count 83 = .ok (.aload_n 0, 1) := by decide +kernel
theorem dX5_count_84 : decode cX5_count 84 = .ok (.getfield 7, 3) := by decide +kernel
theorem dX5_count_87 : decode cX5_count 87 = .ok (.iload_n 1, 1) := by decide +kernel
theorem dX5_count_88 : decode cX5_count 88 = .ok (.bipush 6, 2) := by decide +kernel
theorem dX5_count_90 : decode cX5_count 90 = .ok (.isub, 1) := by decide +kernel
theorem dX5_count_91 : decode cX5_count 91 = .ok (.iaload, 1) := by decide +kernel
theorem dX5_count_92 : decode cX5_count 92 = .ok (.ireturn, 1) := by decide +kernel
theorem dX5_count_93 : decode cX5_count 93 = .ok (.aload_n 0, 1) := by decide +kernel
theorem dX5_count_94 : decode cX5_count 94 = .ok (.getfield 120, 3) := by decide +kernel
theorem dX5_count_97 : decode cX5_count 97 = .ok (.ireturn, 1) := by decide +kernel
theorem dX5_count_98 : decode cX5_count 98 = .ok (.aload_n 0, 1) := by decide +kernel
theorem dX5_count_99 : decode cX5_count 99 = .ok (.getfield 55, 3) := by decide +kernel
theorem dX5_count_102 : decode cX5_count 102 = .ok (.ireturn, 1) := by decide +kernel
theorem dX5_count_103 : decode cX5_count 103 = .ok (.bipush (-2), 2) := by decide +kernel
theorem dX5_count_105 : decode cX5_count 105 = .ok (.ireturn, 1) := by decide +kernel
theorem dX5_why_0 : decode cX5_why 0 = .ok (.aload_n 0, 1) := by decide +kernel
theorem dX5_why_1 : decode cX5_why 1 = .ok (.iload_n 1, 1) := by decide +kernel
theorem dX5_why_2 : decode cX5_why 2 = .ok (.iload_n 2, 1) := by decide +kernel
theorem dX5_why_3 : decode cX5_why 3 = .ok (.invokevirtual 93, 3) := by decide +kernel
theorem dX5_why_6 : decode cX5_why 6 = .ok (.ifCond .ne 5, 3) := by decide +kernel
theorem dX5_why_9 : decode cX5_why 9 = .ok (.iconst (-1), 1) := by decide +kernel
theorem dX5_why_10 : decode cX5_why 10 = .ok (.ireturn, 1) := by decide +kernel
theorem dX5_why_11 : decode cX5_why 11 = .ok (.iload_n 3, 1) := by decide +kernel
theorem dX5_why_12 : decode cX5_why 12 = .ok (.i2l, 1) := by decide +kernel
theorem dX5_why_13 : decode cX5_why 13 = .ok (.iconst 0, 1) := by decide +kernel
theorem dX5_why_14 : decode cX5_why 14 = .ok (.iconst 1, 1) := by decide +kernel
theorem dX5_why_15 : decode cX5_why 15 = .ok (.invokestatic 35, 3) := by decide +kernel
theorem dX5_why_18 : decode cX5_why 18 = .ok (.ifCond .ne 6, 3) := by decide +kernel
theorem dX5_why_21 : decode cX5_why 21 = .ok (.bipush (-2), 2) := by decide +kernel
theorem dX5_why_23 : decode cX5_why 23 = .ok (.ireturn, 1) := by decide +kernel
theorem dX5_why_24 : decode cX5_why 24 = .ok (.aload_n 0, 1) := by decide +kernel
theorem dX5_why_25 : decode cX5_why 25 = .ok (.iload_n 1, 1) := by decide +kernel
theorem dX5_why_26 : decode cX5_why 26 = .ok (.iload_n 2, 1) := by decide +kernel
theorem dX5_why_27 : decode cX5_why 27 = .ok (.iconst 0, 1) := by decide +kernel
theorem dX5_why_28 : decode cX5_why 28 = .ok (.invokevirtual 47, 3) := by decide +kernel
theorem dX5_why_31 : decode cX5_why 31 = .ok (.istore 4, 2) := by decide +kernel
theorem dX5_why_33 : decode cX5_why 33 = .ok (.iload 4, 2) := by decide +kernel
theorem dX5_why_35 : decode cX5_why 35 = .ok (.iconst 3, 1) := by decide +kernel
theorem dX5_why_36 : decode cX5_why 36 = .ok (.if_icmp .ne 7, 3) := by decide +kernel
theorem dX5_why_39 : decode cX5_why 39 = .ok (.iconst 1, 1) := by decide +kernel
theorem dX5_why_40 : decode cX5_why 40 = .ok (.goto 38, 3) := by decide +kernel
theorem dX5_why_43 : decode cX5_why 43 = .ok (.iload 4, 2) := by decide +kernel
theorem dX5_why_45 : decode cX5_why 45 = .ok (.iconst 1, 1) := by decide +kernel
theorem dX5_why_46 : decode cX5_why 46 = .ok (.if_icmp .ne 7, 3) := by decide +kernel
theorem dX5_why_49 : decode cX5_why 49 = .ok (.iconst 2, 1) := by decide +kernel
theorem dX5_why_50 : decode cX5_why 50 = .ok (.goto 28, 3) := by decide +kernel
theorem dX5_why_53 : decode cX5_why 53 = .ok (.iload 4, 2) := by decide +kernel
theorem dX5_why_55 : decode cX5_why 55 = .ok (.iconst 2, 1) := by decide +kernel
theorem dX5_why_56 : decode cX5_why 56 = .ok (.if_icmp .ne 7, 3) := by decide +kernel
theorem dX5_why_59 : decode cX5_why 59 = .ok (.iconst 3, 1) := by decide +kernel
theorem dX5_why_60 : decode cX5_why 60 = .ok (.goto 18, 3) := by decide +kernel
theorem dX5_why_63 : decode cX5_why 63 = .ok (.iload_n 3, 1) := by decide +kernel
theorem dX5_why_64 : decode cX5_why 64 = .ok (.aload_n 0, 1) := by decide +kernel
theorem dX5_why_65 : decode cX5_why 65 = .ok (.iload_n 1, 1) := by decide +kernel
theorem dX5_why_66 : decode cX5_why 66 = .ok (.iconst 1, 1) := by decide +kernel
theorem dX5_why_67 : decode cX5_why 67 = .ok (.invokevirtual 43, 3) := by decide +kernel
theorem dX5_why_70 : decode cX5_why 70 = .ok (.if_icmp .ne 7, 3) := by decide +kernel
theorem dX5_why_73 : decode cX5_why 73 = .ok (.iconst 0, 1) := by decide +kernel
theorem dX5_why_74 : decode cX5_why 74 = .ok (.goto 4, 3) := by decide +kernel
theorem dX5_why_77 : decode cX5_why 77 = .ok (.iconst 4, 1) := by decide +kernel
theorem dX5_why_78 : decode cX5_why 78 = .ok (.ireturn, 1) := by decide +kernel
theorem dX5_waitsFor_0 : decode cX5_waitsFor 0 = .ok (.aload_n 0, 1) := by decide +kernel
theorem dX5_waitsFor_1 : decode cX5_waitsFor 1 = .ok (.iload_n 1, 1) := by decide +kernel
theorem dX5_waitsFor_2 : decode cX5_waitsFor 2 = .ok (.invokevirtual 39, 3) := by decide +kernel
theorem dX5_waitsFor_5 : decode cX5_waitsFor 5 = .ok (.ifCond .eq 11, 3) := by decide +kernel
theorem dX5_waitsFor_8 : decode cX5_waitsFor 8 = .ok (.aload_n 0, 1) := by decide +kernel
theorem dX5_waitsFor_9 : decode cX5_waitsFor 9 = .ok (.iload_n 1, 1) := by decide +kernel
theorem dX5_waitsFor_10 : decode cX5_waitsFor 10 = .ok (.invokevirtual 70, 3) := by decide +kernel
theorem dX5_waitsFor_13 : decode cX5_waitsFor 13 = .ok (.goto 4, 3) := by decide +kernel
theorem dX5_waitsFor_16 : decode cX5_waitsFor 16 = .ok (.iconst (-1), 1) := by decide +kernel
theorem dX5_waitsFor_17 : decode cX5_waitsFor 17 = .ok (.ireturn, 1) := by decide +kernel
theorem dX5_opensIn_0 : decode cX5_opensIn 0 = .ok (.aload_n 0, 1) := by decide +kernel
theorem dX5_opensIn_1 : decode cX5_opensIn 1 = .ok (.iload_n 1, 1) := by decide +kernel
theorem dX5_opensIn_2 : decode cX5_opensIn 2 = .ok (.invokevirtual 39, 3) := by decide +kernel
theorem dX5_opensIn_5 : decode cX5_opensIn 5 = .ok (.ifCond .ne 5, 3) := by decide +kernel
theorem dX5_opensIn_8 : decode cX5_opensIn 8 = .ok (.iconst (-1), 1) := by decide +kernel
theorem dX5_opensIn_9 : decode cX5_opensIn 9 = .ok (.ireturn, 1) := by decide +kernel
theorem dX5_opensIn_10 : decode cX5_opensIn 10 = .ok (.aload_n 0, 1) := by decide +kernel
theorem dX5_opensIn_11 : decode cX5_opensIn 11 = .ok (.invokevirtual 123, 3) := by decide +kernel
theorem dX5_opensIn_14 : decode cX5_opensIn 14 = .ok (.bipush (-6), 2) := by decide +kernel
theorem dX5_opensIn_16 : decode cX5_opensIn 16 = .ok (.istore_n 2, 1) := by decide +kernel
theorem dX5_opensIn_17 : decode cX5_opensIn 17 = .ok (.iconst 1, 1) := by decide +kernel
theorem dX5_opensIn_18 : decode cX5_opensIn 18 = .ok (.istore_n 3, 1) := by decide +kernel
theorem dX5_opensIn_19 : decode cX5_opensIn 19 = .ok (.iload_n 3, 1) := by decide +kernel
theorem dX5_opensIn_20 : decode cX5_opensIn 20 = .ok (.sipush 200, 3) := by decide +kernel
theorem dX5_opensIn_23 : decode cX5_opensIn 23 = .ok (.if_icmp .gt 30, 3) := by decide +kernel
theorem dX5_opensIn_26 : decode cX5_opensIn 26 = .ok (.iload_n 2, 1) := by decide +kernel
theorem dX5_opensIn_27 : decode cX5_opensIn 27 = .ok (.bipush (-6), 2) := by decide +kernel
theorem dX5_opensIn_29 : decode cX5_opensIn 29 = .ok (.if_icmp .ne 24, 3) := by decide +kernel
theorem dX5_opensIn_32 : decode cX5_opensIn 32 = .ok (.aload_n 0, 1) := by decide +kernel
theorem dX5_opensIn_33 : decode cX5_opensIn 33 = .ok (.iload_n 1, 1) := by decide +kernel
theorem dX5_opensIn_34 : decode cX5_opensIn 34 = .ok (.invokevirtual 99, 3) := by decide +kernel
theorem dX5_opensIn_37 : decode cX5_opensIn 37 = .ok (.ifCond .le 7, 3) := by decide +kernel
theorem dX5_opensIn_40 : decode cX5_opensIn 40 = .ok (.iload_n 3, 1) := by decide +kernel
theorem dX5_opensIn_41 : decode cX5_opensIn 41 = .ok (.goto 5, 3) := by decide +kernel
theorem dX5_opensIn_44 : decode cX5_opensIn 44 = .ok (.bipush (-6), 2) := by decide +kernel
theorem dX5_opensIn_46 : decode cX5_opensIn 46 = .ok (.istore_n 2, 1) := by decide +kernel
theorem dX5_opensIn_47 : decode cX5_opensIn 47 = .ok (.iinc 3 1, 3) := by decide +kernel
theorem dX5_opensIn_50 : decode cX5_opensIn 50 = .ok (.goto (-31), 3) := by decide +kernel
theorem dX5_opensIn_53 : decode cX5_opensIn 53 = .ok (.aload_n 0, 1) := by decide +kernel
theorem dX5_opensIn_54 : decode cX5_opensIn 54 = .ok (.invokevirtual 126, 3) := by decide +kernel
theorem dX5_opensIn_57 : decode cX5_opensIn 57 = .ok (.iload_n 2, 1) := by decide +kernel
theorem dX5_opensIn_58 : decode cX5_opensIn 58 = .ok (.ireturn, 1) := by decide +kernel
theorem dX5_couldHike_0 : decode cX5_couldHike 0 = .ok (.aload_n 0, 1) := by decide +kernel
theorem dX5_couldHike_1 : decode cX5_couldHike 1 = .ok (.iload_n 1, 1) := by decide +kernel
theorem dX5_couldHike_2 : decode cX5_couldHike 2 = .ok (.invokevirtual 39, 3) := by decide +kernel
theorem dX5_couldHike_5 : decode cX5_couldHike 5 = .ok (.ifCond .ne 5, 3) := by decide +kernel
theorem dX5_couldHike_8 : decode cX5_couldHike 8 = .ok (.iconst (-1), 1) := by decide +kernel
theorem dX5_couldHike_9 : decode cX5_couldHike 9 = .ok (.ireturn, 1) := by decide +kernel
theorem dX5_couldHike_10 : decode cX5_couldHike 10 = .ok (.aload_n 0, 1) := by decide +kernel
theorem dX5_couldHike_11 : decode cX5_couldHike 11 = .ok (.invokevirtual 123, 3) := by decide +kernel
theorem dX5_couldHike_14 : decode cX5_couldHike 14 = .ok (.iconst 0, 1) := by decide +kernel
theorem dX5_couldHike_15 : decode cX5_couldHike 15 = .ok (.istore_n 2, 1) := by decide +kernel
theorem dX5_couldHike_16 : decode cX5_couldHike 16 = .ok (.iconst 0, 1) := by decide +kernel
theorem dX5_couldHike_17 : decode cX5_couldHike 17 = .ok (.istore_n 3, 1) := by decide +kernel
theorem dX5_couldHike_18 : decode cX5_couldHike 18 = .ok (.iload_n 3, 1) := by decide +kernel
theorem dX5_couldHike_19 : decode cX5_couldHike 19 = .ok (.bipush 48, 2) := by decide +kernel
theorem dX5_couldHike_21 : decode cX5_couldHike 21 = .ok (.if_icmp .ge 40, 3) := by decide +kernel
theorem dX5_couldHike_24 : decode cX5_couldHike 24 = .ok (.aload_n 0, 1) := by decide +kernel
theorem dX5_couldHike_25 : decode cX5_couldHike 25 = .ok (.iload_n 1, 1) := by decide +kernel
theorem dX5_couldHike_26 : decode cX5_couldHike 26 = .ok (.iload_n 3, 1) := by decide +kernel
theorem dX5_couldHike_27 : decode cX5_couldHike 27 = .ok (.bipush 16, 2) := by decide +kernel
theorem dX5_couldHike_29 : decode cX5_couldHike 29 = .ok (.irem, 1) := by decide +kernel
theorem dX5_couldHike_30 : decode cX5_couldHike 30 = .ok (.aload_n 0, 1) := by decide +kernel
theorem dX5_couldHike_31 : decode cX5_couldHike 31 = .ok (.iload_n 1, 1) := by decide +kernel
theorem dX5_couldHike_32 : decode cX5_couldHike 32 = .ok (.iconst 1, 1) := by decide +kernel
theorem dX5_couldHike_33 : decode cX5_couldHike 33 = .ok (.invokevirtual 43, 3) := by decide +kernel
theorem dX5_couldHike_36 : decode cX5_couldHike 36 = .ok (.invokevirtual 108, 3) := by decide +kernel
theorem dX5_couldHike_39 : decode cX5_couldHike 39 = .ok (.istore 4, 2) := by decide +kernel
theorem dX5_couldHike_41 : decode cX5_couldHike 41 = .ok (.iload_n 2, 1) := by decide +kernel
theorem dX5_couldHike_42 : decode cX5_couldHike 42 = .ok (.iload 4, 2) := by decide +kernel
theorem dX5_couldHike_44 : decode cX5_couldHike 44 = .ok (.ifCond .le 8, 3) := by decide +kernel
theorem dX5_couldHike_47 : decode cX5_couldHike 47 = .ok (.iload 4, 2) := by decide +kernel
theorem dX5_couldHike_49 : decode cX5_couldHike 49 = .ok (.goto 4, 3) := by decide +kernel
theorem dX5_couldHike_52 : decode cX5_couldHike 52 = .ok (.iconst 0, 1) := by decide +kernel
theorem dX5_couldHike_53 : decode cX5_couldHike 53 = .ok (.iadd, 1) := by decide +kernel
theorem dX5_couldHike_54 : decode cX5_couldHike 54 = .ok (.istore_n 2, 1) := by decide +kernel
theorem dX5_couldHike_55 : decode cX5_couldHike 55 = .ok (.iinc 3 1, 3) := by decide +kernel
theorem dX5_couldHike_58 : decode cX5_couldHike 58 = .ok (.goto (-40), 3) := by decide +kernel
theorem dX5_couldHike_61 : decode cX5_couldHike 61 = .ok (.aload_n 0, 1) := by decide +kernel
theorem dX5_couldHike_62 : decode cX5_couldHike 62 = .ok (.invokevirtual 126, 3) := by decide +kernel
theorem dX5_couldHike_65 : decode cX5_couldHike 65 = .ok (.iload_n 2, 1) := by decide +kernel
theorem dX5_couldHike_66 : decode cX5_couldHike 66 = .ok (.ireturn, 1) := by decide +kernel
theorem dX5_put_0 : decode cX5_put 0 = .ok (.lload_n 1, 1) := by decide +kernel
theorem dX5_put_1 : decode cX5_put 1 = .ok (.lstore_n 3, 1) := by decide +kernel
theorem dX5_put_2 : decode cX5_put 2 = .ok (.iconst 0, 1) := by decide +kernel
theorem dX5_put_3 : decode cX5_put 3 = .ok (.istore 5, 2) := by decide +kernel
theorem dX5_put_5 : decode cX5_put 5 = .ok (.lload_n 3, 1) := by decide +kernel
theorem dX5_put_6 : decode cX5_put 6 = .ok (.lconst 0, 1) := by decide +kernel
theorem dX5_put_7 : decode cX5_put 7 = .ok (.lcmp, 1) := by decide +kernel
theorem dX5_put_8 : decode cX5_put 8 = .ok (.ifCond .eq 55, 3) := by decide +kernel
theorem dX5_put_11 : decode cX5_put 11 = .ok (.iload 5, 2) := by decide +kernel
theorem dX5_put_13 : decode cX5_put 13 = .ok (.bipush 8, 2) := by decide +kernel
theorem dX5_put_15 : decode cX5_put 15 = .ok (.if_icmp .ge 48, 3) := by decide +kernel
theorem dX5_put_18 : decode cX5_put 18 = .ok (.aload_n 0, 1) := by decide +kernel
theorem dX5_put_19 : decode cX5_put 19 = .ok (.getfield 32, 3) := by decide +kernel
theorem dX5_put_22 : decode cX5_put 22 = .ok (.iload 5, 2) := by decide +kernel
theorem dX5_put_24 : decode cX5_put 24 = .ok (.lload_n 3, 1) := by decide +kernel
theorem dX5_put_25 : decode cX5_put 25 = .ok (.ldc2_w 129, 3) := by decide +kernel
theorem dX5_put_28 : decode cX5_put 28 = .ok (.land, 1) := by decide +kernel
theorem dX5_put_29 : decode cX5_put 29 = .ok (.l2i, 1) := by decide +kernel
theorem dX5_put_30 : decode cX5_put 30 = .ok (.iastore, 1) := by decide +kernel
theorem dX5_put_31 : decode cX5_put 31 = .ok (.aload_n 0, 1) := by decide +kernel
theorem dX5_put_32 : decode cX5_put 32 = .ok (.getfield 32, 3) := by decide +kernel
theorem dX5_put_35 : decode cX5_put 35 = .ok (.iload 5, 2) := by decide +kernel
theorem dX5_put_37 : decode cX5_put 37 = .ok (.iaload, 1) := by decide +kernel
theorem dX5_put_38 : decode cX5_put 38 = .ok (.i2l, 1) := by decide +kernel
theorem dX5_put_39 : decode cX5_put 39 = .ok (.bipush 33, 2) := by decide +kernel
theorem dX5_put_41 : decode cX5_put 41 = .ok (.bipush 126, 2) := by decide +kernel
theorem dX5_put_43 : decode cX5_put 43 = .ok (.invokestatic 35, 3) := by decide +kernel
theorem dX5_put_46 : decode cX5_put 46 = .ok (.ifCond .ne 6, 3) := by decide +kernel
theorem dX5_put_49 : decode cX5_put 49 = .ok (.bipush (-2), 2) := by decide +kernel
theorem dX5_put_51 : decode cX5_put 51 = .ok (.ireturn, 1) := by decide +kernel
theorem dX5_put_52 : decode cX5_put 52 = .ok (.lload_n 3, 1) := by decide +kernel
theorem dX5_put_53 : decode cX5_put 53 = .ok (.bipush 8, 2) := by decide +kernel
theorem dX5_put_55 : decode cX5_put 55 = .ok (.lushr, 1) := by decide +kernel
theorem dX5_put_56 : decode cX5_put 56 = .ok (.lstore_n 3, 1) := by decide +kernel
theorem dX5_put_57 : decode cX5_put 57 = .ok (.iinc 5 1, 3) := by decide +kernel
theorem dX5_put_60 : decode cX5_put 60 = .ok (.goto (-55), 3) := by decide +kernel
theorem dX5_put_63 : decode cX5_put 63 = .ok (.iload 5, 2) := by decide +kernel
theorem dX5_put_65 : decode cX5_put 65 = .ok (.ifCond .ne 6, 3) := by decide +kernel
theorem dX5_put_68 : decode cX5_put 68 = .ok (.bipush (-2), 2) := by decide +kernel
theorem dX5_put_70 : decode cX5_put 70 = .ok (.ireturn, 1) := by decide +kernel
theorem dX5_put_71 : decode cX5_put 71 = .ok (.aload_n 0, 1) := by decide +kernel
theorem dX5_put_72 : decode cX5_put 72 = .ok (.getfield 120, 3) := by decide +kernel
theorem dX5_put_75 : decode cX5_put 75 = .ok (.iload 5, 2) := by decide +kernel
theorem dX5_put_77 : decode cX5_put 77 = .ok (.iadd, 1) := by decide +kernel
theorem dX5_put_78 : decode cX5_put 78 = .ok (.bipush 80, 2) := by decide +kernel
theorem dX5_put_80 : decode cX5_put 80 = .ok (.if_icmp .le 6, 3) := by decide +kernel
theorem dX5_put_83 : decode cX5_put 83 = .ok (.bipush (-4), 2) := by decide +kernel
theorem dX5_put_85 : decode cX5_put 85 = .ok (.ireturn, 1) := by decide +kernel
theorem dX5_put_86 : decode cX5_put 86 = .ok (.iload 5, 2) := by decide +kernel
theorem dX5_put_88 : decode cX5_put 88 = .ok (.iconst 1, 1) := by decide +kernel
theorem dX5_put_89 : decode cX5_put 89 = .ok (.isub, 1) := by decide +kernel
theorem dX5_put_90 : decode cX5_put 90 = .ok (.istore 6, 2) := by decide +kernel
theorem dX5_put_92 : decode cX5_put 92 = .ok (.iload 6, 2) := by decide +kernel
theorem dX5_put_94 : decode cX5_put 94 = .ok (.ifCond .lt 35, 3) := by decide +kernel
theorem dX5_put_97 : decode cX5_put 97 = .ok (.aload_n 0, 1) := by decide +kernel
theorem dX5_put_98 : decode cX5_put 98 = .ok (.getfield 29, 3) := by decide +kernel
theorem dX5_put_101 : decode cX5_put 101 = .ok (.aload_n 0, 1) := by decide +kernel
theorem dX5_put_102 : decode cX5_put 102 = .ok (.getfield 120, 3) := by decide +kernel
theorem dX5_put_105 : decode cX5_put 105 = .ok (.aload_n 0, 1) := by decide +kernel
theorem dX5_put_106 : decode cX5_put 106 = .ok (.getfield 32, 3) := by decide +kernel
theorem dX5_put_109 : decode cX5_put 109 = .ok (.iload 6, 2) := by decide +kernel
theorem dX5_put_111 : decode cX5_put 111 = .ok (.iaload, 1) := by decide +kernel
theorem dX5_put_112 : decode cX5_put 112 = .ok (.iastore, 1) := by decide +kernel
theorem dX5_put_113 : decode cX5_put 113 = .ok (.aload_n 0, 1) := by decide +kernel
theorem dX5_put_114 : decode cX5_put 114 = .ok (.dup, 1) := by decide +kernel
theorem dX5_put_115 : decode cX5_put 115 = .ok (.getfield 120, 3) := by decide +kernel
theorem dX5_put_118 : decode cX5_put 118 = .ok (.iconst 1, 1) := by decide +kernel
theorem dX5_put_119 : decode cX5_put 119 = .ok (.iadd, 1) := by decide +kernel
theorem dX5_put_120 : decode cX5_put 120 = .ok (.putfield 120, 3) := by decide +kernel
theorem dX5_put_123 : decode cX5_put 123 = .ok (.iinc 6 (-1), 3) := by decide +kernel
theorem dX5_put_126 : decode cX5_put 126 = .ok (.goto (-34), 3) := by decide +kernel
theorem dX5_put_129 : decode cX5_put 129 = .ok (.aload_n 0, 1) := by decide +kernel
theorem dX5_put_130 : decode cX5_put 130 = .ok (.getfield 120, 3) := by decide +kernel
theorem dX5_put_133 : decode cX5_put 133 = .ok (.ireturn, 1) := by decide +kernel
theorem dX5_wipe_0 : decode cX5_wipe 0 = .ok (.aload_n 0, 1) := by decide +kernel
theorem dX5_wipe_1 : decode cX5_wipe 1 = .ok (.getfield 120, 3) := by decide +kernel
theorem dX5_wipe_4 : decode cX5_wipe 4 = .ok (.istore_n 1, 1) := by decide +kernel
theorem dX5_wipe_5 : decode cX5_wipe 5 = .ok (.aload_n 0, 1) := by decide +kernel
theorem dX5_wipe_6 : decode cX5_wipe 6 = .ok (.iconst 0, 1) := by decide +kernel
theorem dX5_wipe_7 : decode cX5_wipe 7 = .ok (.putfield 120, 3) := by decide +kernel
theorem dX5_wipe_10 : decode cX5_wipe 10 = .ok (.iload_n 1, 1) := by decide +kernel
theorem dX5_wipe_11 : decode cX5_wipe 11 = .ok (.ireturn, 1) := by decide +kernel
theorem dX5_sees_0 : decode cX5_sees 0 = .ok (.aload_n 0, 1) := by decide +kernel
theorem dX5_sees_1 : decode cX5_sees 1 = .ok (.getfield 131, 3) := by decide +kernel
theorem dX5_sees_4 : decode cX5_sees 4 = .ok (.aload_n 0, 1) := by decide +kernel
theorem dX5_sees_5 : decode cX5_sees 5 = .ok (.getfield 120, 3) := by decide +kernel
theorem dX5_sees_8 : decode cX5_sees 8 = .ok (.if_icmp .ge 25, 3) := by decide +kernel
theorem dX5_sees_11 : decode cX5_sees 11 = .ok (.aload_n 0, 1) := by decide +kernel
theorem dX5_sees_12 : decode cX5_sees 12 = .ok (.getfield 29, 3) := by decide +kernel
theorem dX5_sees_15 : decode cX5_sees 15 = .ok (.aload_n 0, 1) := by decide +kernel
theorem dX5_sees_16 : decode cX5_sees 16 = .ok (.getfield 131, 3) := by decide +kernel
theorem dX5_sees_19 : decode cX5_sees 19 = .ok (.iaload, 1) := by decide +kernel
theorem dX5_sees_20 : decode cX5_sees 20 = .ok (.i2l, 1) := by decide +kernel
theorem dX5_sees_21 : decode cX5_sees 21 = .ok (.iload_n 1, 1) := by decide +kernel
theorem dX5_sees_22 : decode cX5_sees 22 = .ok (.iload_n 2, 1) := by decide +kernel
theorem dX5_sees_23 : decode cX5_sees 23 = .ok (.invokestatic 35, 3) := by decide +kernel
theorem dX5_sees_26 : decode cX5_sees 26 = .ok (.ifCond .eq 7, 3) := by decide +kernel
theorem dX5_sees_29 : decode cX5_sees 29 = .ok (.iconst 1, 1) := by decide +kernel
theorem dX5_sees_30 : decode cX5_sees 30 = .ok (.goto 4, 3) := by decide +kernel
theorem dX5_sees_33 : decode cX5_sees 33 = .ok (.iconst 0, 1) := by decide +kernel
theorem dX5_sees_34 : decode cX5_sees 34 = .ok (.ireturn, 1) := by decide +kernel
theorem dX5_number_0 : decode cX5_number 0 = .ok (.aload_n 0, 1) := by decide +kernel
theorem dX5_number_1 : decode cX5_number 1 = .ok (.bipush 48, 2) := by decide +kernel
theorem dX5_number_3 : decode cX5_number 3 = .ok (.bipush 57, 2) := by decide +kernel
theorem dX5_number_5 : decode cX5_number 5 = .ok (.invokevirtual 134, 3) := by decide +kernel
theorem dX5_number_8 : decode cX5_number 8 = .ok (.ifCond .ne 6, 3) := by decide +kernel
theorem dX5_number_11 : decode cX5_number 11 = .ok (.bipush (-3), 2) := by decide +kernel
theorem dX5_number_13 : decode cX5_number 13 = .ok (.ireturn, 1) := by decide +kernel
theorem dX5_number_14 : decode cX5_number 14 = .ok (.aload_n 0, 1) := by decide +kernel
theorem dX5_number_15 : decode cX5_number 15 = .ok (.getfield 29, 3) := by decide +kernel
theorem dX5_number_18 : decode cX5_number 18 = .ok (.aload_n 0, 1) := by decide +kernel
theorem dX5_number_19 : decode cX5_number 19 = .ok (.getfield 131, 3) := by decide +kernel
theorem dX5_number_22 : decode cX5_number 22 = .ok (.iaload, 1) := by decide +kernel
theorem dX5_number_23 : decode cX5_number 23 = .ok (.bipush 48, 2) := by decide +kernel
theorem dX5_number_25 : decode cX5_number 25 = .ok (.isub, 1) := by decide +kernel
theorem dX5_number_26 : decode cX5_number 26 = .ok (.istore_n 1, 1) := by decide +kernel
theorem dX5_number_27 : decode cX5_number 27 = .ok (.aload_n 0, 1) := by decide +kernel
theorem dX5_number_28 : decode cX5_number 28 = .ok (.dup, 1) := by decide +kernel
theorem dX5_number_29 : decode cX5_number 29 = .ok (.getfield 131, 3) := by decide +kernel
theorem dX5_number_32 : decode cX5_number 32 = .ok (.iconst 1, 1) := by decide +kernel
theorem dX5_number_33 : decode cX5_number 33 = .ok (.iadd, 1) := by decide +kernel
theorem dX5_number_34 : decode cX5_number 34 = .ok (.putfield 131, 3) := by decide +kernel
theorem dX5_number_37 : decode cX5_number 37 = .ok (.iload_n 1, 1) := by decide +kernel
theorem dX5_number_38 : decode cX5_number 38 = .ok (.ifCond .le 42, 3) := by decide +kernel
theorem dX5_number_41 : decode cX5_number 41 = .ok (.aload_n 0, 1) := by decide +kernel
theorem dX5_number_42 : decode cX5_number 42 = .ok (.bipush 48, 2) := by decide +kernel
theorem dX5_number_44 : decode cX5_number 44 = .ok (.bipush 57, 2) := by decide +kernel
theorem dX5_number_46 : decode cX5_number 46 = .ok (.invokevirtual 134, 3) := by decide +kernel
theorem dX5_number_49 : decode cX5_number 49 = .ok (.ifCond .eq 31, 3) := by decide +kernel
theorem dX5_number_52 : decode cX5_number 52 = .ok (.bipush 10, 2) := by decide +kernel
theorem dX5_number_54 : decode cX5_number 54 = .ok (.iload_n 1, 1) := by decide +kernel
theorem dX5_number_55 : decode cX5_number 55 = .ok (.imul, 1) := by decide +kernel
theorem dX5_number_56 : decode cX5_number 56 = .ok (.aload_n 0, 1) := by decide +kernel
theorem dX5_number_57 : decode cX5_number 57 = .ok (.getfield 29, 3) := by decide +kernel
theorem dX5_number_60 : decode cX5_number 60 = .ok (.aload_n 0, 1) := by decide +kernel
theorem dX5_number_61 : decode cX5_number 61 = .ok (.getfield 131, 3) := by decide +kernel
theorem dX5_number_64 : decode cX5_number 64 = .ok (.iaload, 1) := by decide +kernel
theorem dX5_number_65 : decode cX5_number 65 = .ok (.iadd, 1) := by decide +kernel
theorem dX5_number_66 : decode cX5_number 66 = .ok (.bipush 48, 2) := by decide +kernel
theorem dX5_number_68 : decode cX5_number 68 = .ok (.isub, 1) := by decide +kernel
theorem dX5_number_69 : decode cX5_number 69 = .ok (.istore_n 1, 1) := by decide +kernel
theorem dX5_number_70 : decode cX5_number 70 = .ok (.aload_n 0, 1) := by decide +kernel
theorem dX5_number_71 : decode cX5_number 71 = .ok (.dup, 1) := by decide +kernel
theorem dX5_number_72 : decode cX5_number 72 = .ok (.getfield 131, 3) := by decide +kernel
theorem dX5_number_75 : decode cX5_number 75 = .ok (.iconst 1, 1) := by decide +kernel
theorem dX5_number_76 : decode cX5_number 76 = .ok (.iadd, 1) := by decide +kernel
theorem dX5_number_77 : decode cX5_number 77 = .ok (.putfield 131, 3) := by decide +kernel
theorem dX5_number_80 : decode cX5_number 80 = .ok (.iload_n 1, 1) := by decide +kernel
theorem dX5_number_81 : decode cX5_number 81 = .ok (.ireturn, 1) := by decide +kernel
theorem dX5_behind_0 : decode cX5_behind 0 = .ok (.aload_n 0, 1) := by decide +kernel
theorem dX5_behind_1 : decode cX5_behind 1 = .ok (.iload_n 1, 1) := by decide +kernel
theorem dX5_behind_2 : decode cX5_behind 2 = .ok (.iload_n 1, 1) := by decide +kernel
theorem dX5_behind_3 : decode cX5_behind 3 = .ok (.invokevirtual 134, 3) := by decide +kernel
theorem dX5_behind_6 : decode cX5_behind 6 = .ok (.ifCond .ne 6, 3) := by decide +kernel
theorem dX5_behind_9 : decode cX5_behind 9 = .ok (.bipush (-3), 2) := by decide +kernel
theorem dX5_behind_11 : decode cX5_behind 11 = .ok (.ireturn, 1) := by decide +kernel
theorem dX5_behind_12 : decode cX5_behind 12 = .ok (.aload_n 0, 1) := by decide +kernel
theorem dX5_behind_13 : decode cX5_behind 13 = .ok (.dup, 1) := by decide +kernel
theorem dX5_behind_14 : decode cX5_behind 14 = .ok (.getfield 131, 3) := by decide +kernel
theorem dX5_behind_17 : decode cX5_behind 17 = .ok (.iconst 1, 1) := by decide +kernel
theorem dX5_behind_18 : decode cX5_behind 18 = .ok (.iadd, 1) := by decide +kernel
theorem dX5_behind_19 : decode cX5_behind 19 = .ok (.putfield 131, 3) := by decide +kernel
theorem dX5_behind_22 : decode cX5_behind 22 = .ok (.aload_n 0, 1) := by decide +kernel
theorem dX5_behind_23 : decode cX5_behind 23 = .ok (.invokevirtual 137, 3) := by decide +kernel
theorem dX5_behind_26 : decode cX5_behind 26 = .ok (.ireturn, 1) := by decide +kernel
theorem dX5_order_0 : decode cX5_order 0 = .ok (.aload_n 0, 1) := by decide +kernel
theorem dX5_order_1 : decode cX5_order 1 = .ok (.getfield 131, 3) := by decide +kernel
theorem dX5_order_4 : decode cX5_order 4 = .ok (.aload_n 0, 1) := by decide +kernel
theorem dX5_order_5 : decode cX5_order 5 = .ok (.getfield 120, 3) := by decide +kernel
theorem dX5_order_8 : decode cX5_order 8 = .ok (.if_icmp .ge 15, 3) := by decide +kernel
theorem dX5_order_11 : decode cX5_order 11 = .ok (.aload_n 0, 1) := by decide +kernel
theorem dX5_order_12 : decode cX5_order 12 = .ok (.getfield 29, 3) := by decide +kernel
theorem dX5_order_15 : decode cX5_order 15 = .ok (.aload_n 0, 1) := by decide +kernel
theorem dX5_order_16 : decode cX5_order 16 = .ok (.getfield 131, 3) := by decide +kernel
theorem dX5_order_19 : decode cX5_order 19 = .ok (.iaload, 1) := by decide +kernel
theorem dX5_order_20 : decode cX5_order 20 = .ok (.goto 4, 3) := by decide +kernel
theorem dX5_order_23 : decode cX5_order 23 = .ok (.iconst 0, 1) := by decide +kernel
theorem dX5_order_24 : decode cX5_order 24 = .ok (.istore_n 2, 1) := by decide +kernel
theorem dX5_order_25 : decode cX5_order 25 = .ok (.iload_n 2, 1) := by decide +kernel
theorem dX5_order_26 : decode cX5_order 26 = .ok (.bipush 99, 2) := by decide +kernel
theorem dX5_order_28 : decode cX5_order 28 = .ok (.if_icmp .eq 15, 3) := by decide +kernel
theorem dX5_order_31 : decode cX5_order 31 = .ok (.iload_n 2, 1) := by decide +kernel
theorem dX5_order_32 : decode cX5_order 32 = .ok (.bipush 108, 2) := by decide +kernel
theorem dX5_order_34 : decode cX5_order 34 = .ok (.if_icmp .eq 9, 3) := by decide +kernel
theorem dX5_order_37 : decode cX5_order 37 = .ok (.iload_n 2, 1) := by decide +kernel
theorem dX5_order_38 : decode cX5_order 38 = .ok (.bipush 115, 2) := by decide +kernel
theorem dX5_order_40 : decode cX5_order 40 = .ok (.if_icmp .ne 7, 3) := by decide +kernel
theorem dX5_order_43 : decode cX5_order 43 = .ok (.iconst 1, 1) := by decide +kernel
theorem dX5_order_44 : decode cX5_order 44 = .ok (.goto 4, 3) := by decide +kernel
theorem dX5_order_47 : decode cX5_order 47 = .ok (.iconst 0, 1) := by decide +kernel
theorem dX5_order_48 : decode cX5_order 48 = .ok (.istore_n 3, 1) := by decide +kernel
theorem dX5_order_49 : decode cX5_order 49 = .ok (.iload_n 3, 1) := by decide +kernel
theorem dX5_order_50 : decode cX5_order 50 = .ok (.ifCond .ne 18, 3) := by decide +kernel
theorem dX5_order_53 : decode cX5_order 53 = .ok (.iload_n 2, 1) := by decide +kernel
theorem dX5_order_54 : decode cX5_order 54 = .ok (.bipush 110, 2) := by decide +kernel
theorem dX5_order_56 : decode cX5_order 56 = .ok (.if_icmp .eq 12, 3) := by decide +kernel
theorem dX5_order_59 : decode cX5_order 59 = .ok (.iload_n 2, 1) := by decide +kernel
theorem dX5_order_60 : decode cX5_order 60 = .ok (.bipush 116, 2) := by decide +kernel
theorem dX5_order_62 : decode cX5_order 62 = .ok (.if_icmp .eq 6, 3) := by decide +kernel
theorem dX5_order_65 : decode cX5_order 65 = .ok (.bipush (-3), 2) := by decide +kernel
theorem dX5_order_67 : decode cX5_order 67 = .ok (.ireturn, 1) := by decide +kernel
theorem dX5_order_68 : decode cX5_order 68 = .ok (.aload_n 0, 1) := by decide +kernel
theorem dX5_order_69 : decode cX5_order 69 = .ok (.dup, 1) := by decide +kernel
theorem dX5_order_70 : decode cX5_order 70 = .ok (.getfield 131, 3) := by decide +kernel
theorem dX5_order_73 : decode cX5_order 73 = .ok (.iconst 1, 1) := by decide +kernel
theorem dX5_order_74 : decode cX5_order 74 = .ok (.iadd, 1) := by decide +kernel
theorem dX5_order_75 : decode cX5_order 75 = .ok (.putfield 131, 3) := by decide +kernel
theorem dX5_order_78 : decode cX5_order 78 = .ok (.iconst 0, 1) := by decide +kernel
theorem dX5_order_79 : decode cX5_order 79 = .ok (.istore 4, 2) := by decide +kernel
theorem dX5_order_81 : decode cX5_order 81 = .ok (.iload_n 3, 1) := by decide +kernel
theorem dX5_order_82 : decode cX5_order 82 = .ok (.ifCond .eq 41, 3) := by decide +kernel
theorem dX5_order_85 : decode cX5_order 85 = .ok (.aload_n 0, 1) := by decide +kernel
theorem dX5_order_86 : decode cX5_order 86 = .ok (.bipush 48, 2) := by decide +kernel
theorem dX5_order_88 : decode cX5_order 88 = .ok (.bipush 57, 2) := by decide +kernel
theorem dX5_order_90 : decode cX5_order 90 = .ok (.invokevirtual 134, 3) := by decide +kernel
theorem dX5_order_93 : decode cX5_order 93 = .ok (.ifCond .ne 6, 3) := by decide +kernel
theorem dX5_order_96 : decode cX5_order 96 = .ok (.bipush (-3), 2) := by decide +kernel
theorem dX5_order_98 : decode cX5_order 98 = .ok (.ireturn, 1) := by decide +kernel
theorem dX5_order_99 : decode cX5_order 99 = .ok (.aload_n 0, 1) := by decide +kernel
theorem dX5_order_100 : decode cX5_order 100 = .ok (.getfield 29, 3) := by decide +kernel
theorem dX5_order_103 : decode cX5_order 103 = .ok (.aload_n 0, 1) := by decide +kernel
theorem dX5_order_104 : decode cX5_order 104 = .ok (.getfield 131, 3) := by decide +kernel
theorem dX5_order_107 : decode cX5_order 107 = .ok (.iaload, 1) := by decide +kernel
theorem dX5_order_108 : decode cX5_order 108 = .ok (.bipush 48, 2) := by decide +kernel
theorem dX5_order_110 : decode cX5_order 110 = .ok (.isub, 1) := by decide +kernel
theorem dX5_order_111 : decode cX5_order 111 = .ok (.istore 4, 2) := by decide +kernel
theorem dX5_order_113 : decode cX5_order 113 = .ok (.aload_n 0, 1) := by decide +kernel
theorem dX5_order_114 : decode cX5_order 114 = .ok (.dup, 1) := by decide +kernel
theorem dX5_order_115 : decode cX5_order 115 = .ok (.getfield 131, 3) := by decide +kernel
theorem dX5_order_118 : decode cX5_order 118 = .ok (.iconst 1, 1) := by decide +kernel
theorem dX5_order_119 : decode cX5_order 119 = .ok (.iadd, 1) := by decide +kernel
theorem dX5_order_120 : decode cX5_order 120 = .ok (.putfield 131, 3) := by decide +kernel
theorem dX5_order_123 : decode cX5_order 123 = .ok (.iload_n 3, 1) := by decide +kernel
theorem dX5_order_124 : decode cX5_order 124 = .ok (.ifCond .eq 23, 3) := by decide +kernel
theorem dX5_order_127 : decode cX5_order 127 = .ok (.aload_n 0, 1) := by decide +kernel
theorem dX5_order_128 : decode cX5_order 128 = .ok (.iload_n 2, 1) := by decide +kernel
theorem dX5_order_129 : decode cX5_order 129 = .ok (.bipush 115, 2) := by decide +kernel
theorem dX5_order_131 : decode cX5_order 131 = .ok (.if_icmp .ne 8, 3) := by decide +kernel
theorem dX5_order_134 : decode cX5_order 134 = .ok (.bipush 61, 2) := by decide +kernel
theorem dX5_order_136 : decode cX5_order 136 = .ok (.goto 5, 3) := by decide +kernel
theorem dX5_order_139 : decode cX5_order 139 = .ok (.bipush 46, 2) := by decide +kernel
theorem dX5_order_141 : decode cX5_order 141 = .ok (.invokevirtual 141, 3) := by decide +kernel
theorem dX5_order_144 : decode cX5_order 144 = .ok (.goto 7, 3) := by decide +kernel
theorem dX5_order_147 : decode cX5_order 147 = .ok (.aload_n 0, 1) := by decide +kernel
theorem dX5_order_148 : decode cX5_order 148 = .ok (.invokevirtual 137, 3) := by decide +kernel
theorem dX5_order_151 : decode cX5_order 151 = .ok (.istore 5, 2) := by decide +kernel
theorem dX5_order_153 : decode cX5_order 153 = .ok (.iload 5, 2) := by decide +kernel
theorem dX5_order_155 : decode cX5_order 155 = .ok (.ifCond .ge 6, 3) := by decide +kernel
theorem dX5_order_158 : decode cX5_order 158 = .ok (.bipush (-3), 2) := by decide +kernel
theorem dX5_order_160 : decode cX5_order 160 = .ok (.ireturn, 1) := by decide +kernel
theorem dX5_order_161 : decode cX5_order 161 = .ok (.iconst 0, 1) := by decide +kernel
theorem dX5_order_162 : decode cX5_order 162 = .ok (.istore 6, 2) := by decide +kernel
theorem dX5_order_164 : decode cX5_order 164 = .ok (.iload_n 2, 1) := by decide +kernel
theorem dX5_order_165 : decode cX5_order 165 = .ok (.bipush 99, 2) := by decide +kernel
theorem dX5_order_167 : decode cX5_order 167 = .ok (.if_icmp .ne 59, 3) := by decide +kernel
theorem dX5_order_170 : decode cX5_order 170 = .ok (.aload_n 0, 1) := by decide +kernel
theorem dX5_order_171 : decode cX5_order 171 = .ok (.bipush 98, 2) := by decide +kernel
theorem dX5_order_173 : decode cX5_order 173 = .ok (.bipush 98, 2) := by decide +kernel
theorem dX5_order_175 : decode cX5_order 175 = .ok (.invokevirtual 134, 3) := by decide +kernel
theorem dX5_order_178 : decode cX5_order 178 = .ok (.ifCond .ne 17, 3) := by decide +kernel
theorem dX5_order_181 : decode cX5_order 181 = .ok (.aload_n 0, 1) := by decide +kernel
theorem dX5_order_182 : decode cX5_order 182 = .ok (.bipush 114, 2) := by decide +kernel
theorem dX5_order_184 : decode cX5_order 184 = .ok (.bipush 114, 2) := by decide +kernel
theorem dX5_order_186 : decode cX5_order 186 = .ok (.invokevirtual 134, 3) := by decide +kernel
theorem dX5_order_189 : decode cX5_order 189 = .ok (.ifCond .ne 6, 3) := by decide +kernel
theorem dX5_order_192 : decode cX5_order 192 = .ok (.bipush (-3), 2) := by decide +kernel
theorem dX5_order_194 : decode cX5_order 194 = .ok (.ireturn, 1) := by decide +kernel
theorem dX5_order_195 : decode cX5_order 195 = .ok (.aload_n 0, 1) := by decide +kernel
theorem dX5_order_196 : decode cX5_order 196 = .ok (.getfield 29, 3) := by decide +kernel
theorem dX5_order_199 : decode cX5_order 199 = .ok (.aload_n 0, 1) := by decide +kernel
theorem dX5_order_200 : decode cX5_order 200 = .ok (.getfield 131, 3) := by decide +kernel
theorem dX5_order_203 : decode cX5_order 203 = .ok (.iaload, 1) := by decide +kernel
theorem dX5_order_204 : decode cX5_order 204 = .ok (.bipush 98, 2) := by decide +kernel
theorem dX5_order_206 : decode cX5_order 206 = .ok (.if_icmp .ne 7, 3) := by decide +kernel
theorem dX5_order_209 : decode cX5_order 209 = .ok (.iconst 1, 1) := by decide +kernel
theorem dX5_order_210 : decode cX5_order 210 = .ok (.goto 4, 3) := by decide +kernel
theorem dX5_order_213 : decode cX5_order 213 = .ok (.iconst 0, 1) := by decide +kernel
theorem dX5_order_214 : decode cX5_order 214 = .ok (.istore 6, 2) := by decide +kernel
theorem dX5_order_216 : decode cX5_order 216 = .ok (.aload_n 0, 1) := by decide +kernel
theorem dX5_order_217 : decode cX5_order 217 = .ok (.dup, 1) := by decide +kernel
theorem dX5_order_218 : decode cX5_order 218 = .ok (.getfield 131, 3) := by decide +kernel
theorem dX5_order_221 : decode cX5_order 221 = .ok (.iconst 1, 1) := by decide +kernel
theorem dX5_order_222 : decode cX5_order 222 = .ok (.iadd, 1) := by decide +kernel
theorem dX5_order_223 : decode cX5_order 223 = .ok (.putfield 131, 3) := by decide +kernel
theorem dX5_order_226 : decode cX5_order 226 = .ok (.iload_n 1, 1) := by decide +kernel
theorem dX5_order_227 : decode cX5_order 227 = .ok (.ifCond .ne 5, 3) := by decide +kernel
theorem dX5_order_230 : decode cX5_order 230 = .ok (.iconst 0, 1) := by decide +kernel
theorem dX5_order_231 : decode cX5_order 231 = .ok (.ireturn, 1) := by decide +kernel
theorem dX5_order_232 : decode cX5_order 232 = .ok (.iload_n 2, 1) := by decide +kernel
theorem dX5_order_233 : decode cX5_order 233 = .ok (.bipush 110, 2) := by decide +kernel
theorem dX5_order_235 : decode cX5_order 235 = .ok (.if_icmp .ne 12, 3) := by decide +kernel
theorem dX5_order_238 : decode cX5_order 238 = .ok (.aload_n 0, 1) := by decide +kernel
theorem dX5_order_239 : decode cX5_order 239 = .ok (.iload 5, 2) := by decide +kernel
theorem dX5_order_241 : decode cX5_order 241 = .ok (.invokevirtual 102, 3) := by decide +kernel
theorem dX5_order_244 : decode cX5_order 244 = .ok (.goto 62, 3) := by decide +kernel
theorem dX5_order_247 : decode cX5_order 247 = .ok (.iload_n 2, 1) := by decide +kernel
theorem dX5_order_248 : decode cX5_order 248 = .ok (.bipush 99, 2) := by decide +kernel
theorem dX5_order_250 : decode cX5_order 250 = .ok (.if_icmp .ne 16, 3) := by decide +kernel
theorem dX5_order_253 : decode cX5_order 253 = .ok (.aload_n 0, 1) := by decide +kernel
theorem dX5_order_254 : decode cX5_order 254 = .ok (.iload 4, 2) := by decide +kernel
theorem dX5_order_256 : decode cX5_order 256 = .ok (.iload 5, 2) := by decide +kernel
theorem dX5_order_258 : decode cX5_order 258 = .ok (.iload 6, 2) := by decide +kernel
theorem dX5_order_260 : decode cX5_order 260 = .ok (.invokevirtual 108, 3) := by decide +kernel
theorem dX5_order_263 : decode cX5_order 263 = .ok (.goto 43, 3) := by decide +kernel
theorem dX5_order_266 : decode cX5_order 266 = .ok (.iload_n 2, 1) := by decide +kernel
theorem dX5_order_267 : decode cX5_order 267 = .ok (.bipush 108, 2) := by decide +kernel
theorem dX5_order_269 : decode cX5_order 269 = .ok (.if_icmp .ne 14, 3) := by decide +kernel
theorem dX5_order_272 : decode cX5_order 272 = .ok (.aload_n 0, 1) := by decide +kernel
theorem dX5_order_273 : decode cX5_order 273 = .ok (.iload 4, 2) := by decide +kernel
theorem dX5_order_275 : decode cX5_order 275 = .ok (.iload 5, 2) := by decide +kernel
theorem dX5_order_277 : decode cX5_order 277 = .ok (.invokevirtual 111, 3) := by decide +kernel
theorem dX5_order_280 : decode cX5_order 280 = .ok (.goto 26, 3) := by decide +kernel
theorem dX5_order_283 : decode cX5_order 283 = .ok (.iload_n 2, 1) := by decide +kernel
theorem dX5_order_284 : decode cX5_order 284 = .ok (.bipush 115, 2) := by decide +kernel
theorem dX5_order_286 : decode cX5_order 286 = .ok (.if_icmp .ne 14, 3) := by decide +kernel
theorem dX5_order_289 : decode cX5_order 289 = .ok (.aload_n 0, 1) := by decide +kernel
theorem dX5_order_290 : decode cX5_order 290 = .ok (.iload 4, 2) := by decide +kernel
theorem dX5_order_292 : decode cX5_order 292 = .ok (.iload 5, 2) := by decide +kernel
theorem dX5_order_294 : decode cX5_order 294 = .ok (.invokevirtual 105, 3) := by decide +kernel
theorem dX5_order_297 : decode cX5_order 297 = .ok (.goto 9, 3) := by decide +kernel
theorem dX5_order_300 : decode cX5_order 300 = .ok (.aload_n 0, 1) := by decide +kernel
theorem dX5_order_301 : decode cX5_order 301 = .ok (.iload 5, 2) := by decide +kernel
theorem dX5_order_303 : decode cX5_order 303 = .ok (.invokevirtual 114, 3) := by decide +kernel
theorem dX5_order_306 : decode cX5_order 306 = .ok (.ireturn, 1) := by decide +kernel
theorem dX5_isWell_0 : decode cX5_isWell 0 = .ok (.aload_n 0, 1) := by decide +kernel
theorem dX5_isWell_1 : decode cX5_isWell 1 = .ok (.iconst 0, 1) := by decide +kernel
theorem dX5_isWell_2 : decode cX5_isWell 2 = .ok (.putfield 131, 3) := by decide +kernel
theorem dX5_isWell_5 : decode cX5_isWell 5 = .ok (.aload_n 0, 1) := by decide +kernel
theorem dX5_isWell_6 : decode cX5_isWell 6 = .ok (.iconst 0, 1) := by decide +kernel
theorem dX5_isWell_7 : decode cX5_isWell 7 = .ok (.invokevirtual 144, 3) := by decide +kernel
theorem dX5_isWell_10 : decode cX5_isWell 10 = .ok (.ifCond .ne 7, 3) := by decide +kernel
theorem dX5_isWell_13 : decode cX5_isWell 13 = .ok (.iconst 1, 1) := by decide +kernel
theorem dX5_isWell_14 : decode cX5_isWell 14 = .ok (.goto 4, 3) := by decide +kernel
theorem dX5_isWell_17 : decode cX5_isWell 17 = .ok (.iconst 0, 1) := by decide +kernel
theorem dX5_isWell_18 : decode cX5_isWell 18 = .ok (.istore_n 1, 1) := by decide +kernel
theorem dX5_isWell_19 : decode cX5_isWell 19 = .ok (.iload_n 1, 1) := by decide +kernel
theorem dX5_isWell_20 : decode cX5_isWell 20 = .ok (.ifCond .eq 62, 3) := by decide +kernel
theorem dX5_isWell_23 : decode cX5_isWell 23 = .ok (.aload_n 0, 1) := by decide +kernel
theorem dX5_isWell_24 : decode cX5_isWell 24 = .ok (.getfield 131, 3) := by decide +kernel
theorem dX5_isWell_27 : decode cX5_isWell 27 = .ok (.aload_n 0, 1) := by decide +kernel
theorem dX5_isWell_28 : decode cX5_isWell 28 = .ok (.getfield 120, 3) := by decide +kernel
theorem dX5_isWell_31 : decode cX5_isWell 31 = .ok (.if_icmp .ge 51, 3) := by decide +kernel
theorem dX5_isWell_34 : decode cX5_isWell 34 = .ok (.aload_n 0, 1) := by decide +kernel
theorem dX5_isWell_35 : decode cX5_isWell 35 = .ok (.bipush 59, 2) := by decide +kernel
theorem dX5_isWell_37 : decode cX5_isWell 37 = .ok (.bipush 59, 2) := by decide +kernel
theorem dX5_isWell_39 : decode cX5_isWell 39 = .ok (.invokevirtual 134, 3) := by decide +kernel
theorem dX5_isWell_42 : decode cX5_isWell 42 = .ok (.istore_n 1, 1) := by decide +kernel
theorem dX5_isWell_43 : decode cX5_isWell 43 = .ok (.aload_n 0, 1) := by decide +kernel
theorem dX5_isWell_44 : decode cX5_isWell 44 = .ok (.dup, 1) := by decide +kernel
theorem dX5_isWell_45 : decode cX5_isWell 45 = .ok (.getfield 131, 3) := by decide +kernel
theorem dX5_isWell_48 : decode cX5_isWell 48 = .ok (.iload_n 1, 1) := by decide +kernel
theorem dX5_isWell_49 : decode cX5_isWell 49 = .ok (.ifCond .eq 7, 3) := by decide +kernel
theorem dX5_isWell_52 : decode cX5_isWell 52 = .ok (.iconst 1, 1) := by decide +kernel
theorem dX5_isWell_53 : decode cX5_isWell 53 = .ok (.goto 4, 3) := by decide +kernel
theorem dX5_isWell_56 : decode cX5_isWell 56 = .ok (.iconst 0, 1) := by decide +kernel
theorem dX5_isWell_57 : decode cX5_isWell 57 = .ok (.iadd, 1) := by decide +kernel
theorem dX5_isWell_58 : decode cX5_isWell 58 = .ok (.putfield 131, 3) := by decide +kernel
theorem dX5_isWell_61 : decode cX5_isWell 61 = .ok (.iload_n 1, 1) := by decide +kernel
theorem dX5_isWell_62 : decode cX5_isWell 62 = .ok (.ifCond .eq 15, 3) := by decide +kernel
theorem dX5_isWell_65 : decode cX5_isWell 65 = .ok (.aload_n 0, 1) := by decide +kernel
theorem dX5_isWell_66 : decode cX5_isWell 66 = .ok (.iconst 0, 1) := by decide +kernel
theorem dX5_isWell_67 : decode cX5_isWell 67 = .ok (.invokevirtual 144, 3) := by decide +kernel
theorem dX5_isWell_70 : decode cX5_isWell 70 = .ok (.ifCond .ne 7, 3) := by decide +kernel
theorem dX5_isWell_73 : decode cX5_isWell 73 = .ok (.iconst 1, 1) := by decide +kernel
theorem dX5_isWell_74 : decode cX5_isWell 74 = .ok (.goto 4, 3) := by decide +kernel
theorem dX5_isWell_77 : decode cX5_isWell 77 = .ok (.iconst 0, 1) := by decide +kernel
theorem dX5_isWell_78 : decode cX5_isWell 78 = .ok (.istore_n 1, 1) := by decide +kernel
theorem dX5_isWell_79 : decode cX5_isWell 79 = .ok (.goto (-60), 3) := by decide +kernel
theorem dX5_isWell_82 : decode cX5_isWell 82 = .ok (.iload_n 1, 1) := by decide +kernel
theorem dX5_isWell_83 : decode cX5_isWell 83 = .ok (.ireturn, 1) := by decide +kernel
theorem dX5_fault_0 : decode cX5_fault 0 = .ok (.aload_n 0, 1) := by decide +kernel
theorem dX5_fault_1 : decode cX5_fault 1 = .ok (.invokevirtual 148, 3) := by decide +kernel
theorem dX5_fault_4 : decode cX5_fault 4 = .ok (.ifCond .eq 8, 3) := by decide +kernel
theorem dX5_fault_7 : decode cX5_fault 7 = .ok (.bipush (-6), 2) := by decide +kernel
theorem dX5_fault_9 : decode cX5_fault 9 = .ok (.goto 7, 3) := by decide +kernel
theorem dX5_fault_12 : decode cX5_fault 12 = .ok (.aload_n 0, 1) := by decide +kernel
theorem dX5_fault_13 : decode cX5_fault 13 = .ok (.getfield 131, 3) := by decide +kernel
theorem dX5_fault_16 : decode cX5_fault 16 = .ok (.ireturn, 1) := by decide +kernel
theorem dX5_carryOut_0 : decode cX5_carryOut 0 = .ok (.aload_n 0, 1) := by decide +kernel
theorem dX5_carryOut_1 : decode cX5_carryOut 1 = .ok (.invokevirtual 148, 3) := by decide +kernel
theorem dX5_carryOut_4 : decode cX5_carryOut 4 = .ok (.ifCond .ne 6, 3) := by decide +kernel
theorem dX5_carryOut_7 : decode cX5_carryOut 7 = .ok (.bipush (-3), 2) := by decide +kernel
theorem dX5_carryOut_9 : decode cX5_carryOut 9 = .ok (.ireturn, 1) := by decide +kernel
theorem dX5_carryOut_10 : decode cX5_carryOut 10 = .ok (.aload_n 0, 1) := by decide +kernel
theorem dX5_carryOut_11 : decode cX5_carryOut 11 = .ok (.invokevirtual 59, 3) := by decide +kernel
theorem dX5_carryOut_14 : decode cX5_carryOut 14 = .ok (.aload_n 0, 1) := by decide +kernel
theorem dX5_carryOut_15 : decode cX5_carryOut 15 = .ok (.iconst 0, 1) := by decide +kernel
theorem dX5_carryOut_16 : decode cX5_carryOut 16 = .ok (.putfield 131, 3) := by decide +kernel
theorem dX5_carryOut_19 : decode cX5_carryOut 19 = .ok (.iconst 0, 1) := by decide +kernel
theorem dX5_carryOut_20 : decode cX5_carryOut 20 = .ok (.istore_n 1, 1) := by decide +kernel
theorem dX5_carryOut_21 : decode cX5_carryOut 21 = .ok (.iconst 1, 1) := by decide +kernel
theorem dX5_carryOut_22 : decode cX5_carryOut 22 = .ok (.istore_n 2, 1) := by decide +kernel
theorem dX5_carryOut_23 : decode cX5_carryOut 23 = .ok (.iload_n 2, 1) := by decide +kernel
theorem dX5_carryOut_24 : decode cX5_carryOut 24 = .ok (.ifCond .eq 53, 3) := by decide +kernel
theorem dX5_carryOut_27 : decode cX5_carryOut 27 = .ok (.aload_n 0, 1) := by decide +kernel
theorem dX5_carryOut_28 : decode cX5_carryOut 28 = .ok (.getfield 131, 3) := by decide +kernel
theorem dX5_carryOut_31 : decode cX5_carryOut 31 = .ok (.aload_n 0, 1) := by decide +kernel
theorem dX5_carryOut_32 : decode cX5_carryOut 32 = .ok (.getfield 120, 3) := by decide +kernel
theorem dX5_carryOut_35 : decode cX5_carryOut 35 = .ok (.if_icmp .ge 42, 3) := by decide +kernel
theorem dX5_carryOut_38 : decode cX5_carryOut 38 = .ok (.aload_n 0, 1) := by decide +kernel
theorem dX5_carryOut_39 : decode cX5_carryOut 39 = .ok (.iconst 1, 1) := by decide +kernel
theorem dX5_carryOut_40 : decode cX5_carryOut 40 = .ok (.invokevirtual 144, 3) := by decide +kernel
theorem dX5_carryOut_43 : decode cX5_carryOut 43 = .ok (.ifCond .lt 7, 3) := by decide +kernel
theorem dX5_carryOut_46 : decode cX5_carryOut 46 = .ok (.iconst 1, 1) := by decide +kernel
theorem dX5_carryOut_47 : decode cX5_carryOut 47 = .ok (.goto 4, 3) := by decide +kernel
theorem dX5_carryOut_50 : decode cX5_carryOut 50 = .ok (.iconst 0, 1) := by decide +kernel
theorem dX5_carryOut_51 : decode cX5_carryOut 51 = .ok (.istore_n 2, 1) := by decide +kernel
theorem dX5_carryOut_52 : decode cX5_carryOut 52 = .ok (.iload_n 1, 1) := by decide +kernel
theorem dX5_carryOut_53 : decode cX5_carryOut 53 = .ok (.iload_n 2, 1) := by decide +kernel
theorem dX5_carryOut_54 : decode cX5_carryOut 54 = .ok (.ifCond .eq 7, 3) := by decide +kernel
theorem dX5_carryOut_57 : decode cX5_carryOut 57 = .ok (.iconst 1, 1) := by decide +kernel
theorem dX5_carryOut_58 : decode cX5_carryOut 58 = .ok (.goto 4, 3) := by decide +kernel
theorem dX5_carryOut_61 : decode cX5_carryOut 61 = .ok (.iconst 0, 1) := by decide +kernel
theorem dX5_carryOut_62 : decode cX5_carryOut 62 = .ok (.iadd, 1) := by decide +kernel
theorem dX5_carryOut_63 : decode cX5_carryOut 63 = .ok (.istore_n 1, 1) := by decide +kernel
theorem dX5_carryOut_64 : decode cX5_carryOut 64 = .ok (.aload_n 0, 1) := by decide +kernel
theorem dX5_carryOut_65 : decode cX5_carryOut 65 = .ok (.dup, 1) := by decide +kernel
theorem dX5_carryOut_66 : decode cX5_carryOut 66 = .ok (.getfield 131, 3) := by decide +kernel
theorem dX5_carryOut_69 : decode cX5_carryOut 69 = .ok (.iconst 1, 1) := by decide +kernel
theorem dX5_carryOut_70 : decode cX5_carryOut 70 = .ok (.iadd, 1) := by decide +kernel
theorem dX5_carryOut_71 : decode cX5_carryOut 71 = .ok (.putfield 131, 3) := by decide +kernel
theorem dX5_carryOut_74 : decode cX5_carryOut 74 = .ok (.goto (-51), 3) := by decide +kernel
theorem dX5_carryOut_77 : decode cX5_carryOut 77 = .ok (.aload_n 0, 1) := by decide +kernel
theorem dX5_carryOut_78 : decode cX5_carryOut 78 = .ok (.iconst 0, 1) := by decide +kernel
theorem dX5_carryOut_79 : decode cX5_carryOut 79 = .ok (.putfield 120, 3) := by decide +kernel
theorem dX5_carryOut_82 : decode cX5_carryOut 82 = .ok (.aload_n 0, 1) := by decide +kernel
theorem dX5_carryOut_83 : decode cX5_carryOut 83 = .ok (.iload_n 1, 1) := by decide +kernel
theorem dX5_carryOut_84 : decode cX5_carryOut 84 = .ok (.invokevirtual 62, 3) := by decide +kernel
theorem dX5_carryOut_87 : decode cX5_carryOut 87 = .ok (.ireturn, 1) := by decide +kernel
end
section
theorem dL_law_0 : decode cL_law 0 = .ok (.new 7, 3) := by decide +kernel
theorem dL_law_3 : decode cL_law 3 = .ok (.dup, 1) := by decide +kernel
theorem dL_law_4 : decode cL_law 4 = .ok (.invokespecial 9, 3) := by decide +kernel
theorem dL_law_7 : decode cL_law 7 = .ok (.astore_n 1, 1) := by decide +kernel
theorem dL_law_8 : decode cL_law 8 = .ok (.new 10, 3) := by decide +kernel
theorem dL_law_11 : decode cL_law 11 = .ok (.dup, 1) := by decide +kernel
theorem dL_law_12 : decode cL_law 12 = .ok (.invokespecial 12, 3) := by decide +kernel
theorem dL_law_15 : decode cL_law 15 = .ok (.astore_n 2, 1) := by decide +kernel
theorem dL_law_16 : decode cL_law 16 = .ok (.iconst 0, 1) := by decide +kernel
theorem dL_law_17 : decode cL_law 17 = .ok (.istore_n 3, 1) := by decide +kernel
theorem dL_law_18 : decode cL_law 18 = .ok (.iload_n 3, 1) := by decide +kernel
theorem dL_law_19 : decode cL_law 19 = .ok (.aload_n 0, 1) := by decide +kernel
theorem dL_law_20 : decode cL_law 20 = .ok (.arraylength, 1) := by decide +kernel
theorem dL_law_21 : decode cL_law 21 = .ok (.iconst 4, 1) := by decide +kernel
theorem dL_law_22 : decode cL_law 22 = .ok (.isub, 1) := by decide +kernel
theorem dL_law_23 : decode cL_law 23 = .ok (.if_icmp .gt 698, 3) := by decide +kernel
theorem dL_law_26 : decode cL_law 26 = .ok (.aload_n 0, 1) := by decide +kernel
theorem dL_law_27 : decode cL_law 27 = .ok (.iload_n 3, 1) := by decide +kernel
theorem dL_law_28 : decode cL_law 28 = .ok (.iaload, 1) := by decide +kernel
theorem dL_law_29 : decode cL_law 29 = .ok (.bipush 31, 2) := by decide +kernel
theorem dL_law_31 : decode cL_law 31 = .ok (.iand, 1) := by decide +kernel
theorem dL_law_32 : decode cL_law 32 = .ok (.tableswitch 683 0 20 #[100, 133, 156, 189, 232, 265, 298, 321, 354, 397, 420, 463, 486, 509, 532, 585, 598, 611, 624, 637, 660], 100) := by decide +kernel
theorem dL_law_132 : decode cL_law 132 = .ok (.aload_n 1, 1) := by decide +kernel
theorem dL_law_133 : decode cL_law 133 = .ok (.aload_n 0, 1) := by decide +kernel
theorem dL_law_134 : decode cL_law 134 = .ok (.iload_n 3, 1) := by decide +kernel
theorem dL_law_135 : decode cL_law 135 = .ok (.iconst 1, 1) := by decide +kernel
theorem dL_law_136 : decode cL_law 136 = .ok (.iadd, 1) := by decide +kernel
theorem dL_law_137 : decode cL_law 137 = .ok (.iaload, 1) := by decide +kernel
theorem dL_law_138 : decode cL_law 138 = .ok (.aload_n 0, 1) := by decide +kernel
theorem dL_law_139 : decode cL_law 139 = .ok (.iload_n 3, 1) := by decide +kernel
theorem dL_law_140 : decode cL_law 140 = .ok (.iconst 2, 1) := by decide +kernel
theorem dL_law_141 : decode cL_law 141 = .ok (.iadd, 1) := by decide +kernel
theorem dL_law_142 : decode cL_law 142 = .ok (.iaload, 1) := by decide +kernel
theorem dL_law_143 : decode cL_law 143 = .ok (.invokevirtual 13, 3) := by decide +kernel
theorem dL_law_146 : decode cL_law 146 = .ok (.aload_n 2, 1) := by decide +kernel
theorem dL_law_147 : decode cL_law 147 = .ok (.aload_n 0, 1) := by decide +kernel
theorem dL_law_148 : decode cL_law 148 = .ok (.iload_n 3, 1) := by decide +kernel
theorem dL_law_149 : decode cL_law 149 = .ok (.iconst 1, 1) := by decide +kernel
theorem dL_law_150 : decode cL_law 150 = .ok (.iadd, 1) := by decide +kernel
theorem dL_law_151 : decode cL_law 151 = .ok (.iaload, 1) := by decide +kernel
theorem dL_law_152 : decode cL_law 152 = .ok (.aload_n 0, 1) := by decide +kernel
theorem dL_law_153 : decode cL_law 153 = .ok (.iload_n 3, 1) := by decide +kernel
theorem dL_law_154 : decode cL_law 154 = .ok (.iconst 2, 1) := by decide +kernel
theorem dL_law_155 : decode cL_law 155 = .ok (.iadd, 1) := by decide +kernel
theorem dL_law_156 : decode cL_law 156 = .ok (.iaload, 1) := by decide +kernel
theorem dL_law_157 : decode cL_law 157 = .ok (.invokevirtual 17, 3) := by decide +kernel
theorem dL_law_160 : decode cL_law 160 = .ok (.if_icmp .eq 555, 3) := by decide +kernel
theorem dL_law_163 : decode cL_law 163 = .ok (.iconst 0, 1) := by decide +kernel
theorem dL_law_164 : decode cL_law 164 = .ok (.ireturn, 1) := by decide +kernel
theorem dL_law_165 : decode cL_law 165 = .ok (.aload_n 1, 1) := by decide +kernel
theorem dL_law_166 : decode cL_law 166 = .ok (.aload_n 0, 1) := by decide +kernel
theorem dL_law_167 : decode cL_law 167 = .ok (.iload_n 3, 1) := by decide +kernel
theorem dL_law_168 : decode cL_law 168 = .ok (.iconst 1, 1) := by decide +kernel
theorem dL_law_169 : decode cL_law 169 = .ok (.iadd, 1) := by decide +kernel
theorem dL_law_170 : decode cL_law 170 = .ok (.iaload, 1) := by decide +kernel
theorem dL_law_171 : decode cL_law 171 = .ok (.invokevirtual 18, 3) := by decide +kernel
theorem dL_law_174 : decode cL_law 174 = .ok (.aload_n 2, 1) := by decide +kernel
theorem dL_law_175 : decode cL_law 175 = .ok (.aload_n 0, 1) := by decide +kernel
theorem dL_law_176 : decode cL_law 176 = .ok (.iload_n 3, 1) := by decide +kernel
theorem dL_law_177 : decode cL_law 177 = .ok (.iconst 1, 1) := by decide +kernel
theorem dL_law_178 : decode cL_law 178 = .ok (.iadd, 1) := by decide +kernel
theorem dL_law_179 : decode cL_law 179 = .ok (.iaload, 1) := by decide +kernel
theorem dL_law_180 : decode cL_law 180 = .ok (.invokevirtual 22, 3) := by decide +kernel
theorem dL_law_183 : decode cL_law 183 = .ok (.if_icmp .eq 532, 3) := by decide +kernel
theorem dL_law_186 : decode cL_law 186 = .ok (.iconst 0, 1) := by decide +kernel
theorem dL_law_187 : decode cL_law 187 = .ok (.ireturn, 1) := by decide +kernel
theorem dL_law_188 : decode cL_law 188 = .ok (.aload_n 1, 1) := by decide +kernel
theorem dL_law_189 : decode cL_law 189 = .ok (.aload_n 0, 1) := by decide +kernel
theorem dL_law_190 : decode cL_law 190 = .ok (.iload_n 3, 1) := by decide +kernel
theorem dL_law_191 : decode cL_law 191 = .ok (.iconst 1, 1) := by decide +kernel
theorem dL_law_192 : decode cL_law 192 = .ok (.iadd, 1) := by decide +kernel
theorem dL_law_193 : decode cL_law 193 = .ok (.iaload, 1) := by decide +kernel
theorem dL_law_194 : decode cL_law 194 = .ok (.aload_n 0, 1) := by decide +kernel
theorem dL_law_195 : decode cL_law 195 = .ok (.iload_n 3, 1) := by decide +kernel
theorem dL_law_196 : decode cL_law 196 = .ok (.iconst 2, 1) := by decide +kernel
theorem dL_law_197 : decode cL_law 197 = .ok (.iadd, 1) := by decide +kernel
theorem dL_law_198 : decode cL_law 198 = .ok (.iaload, 1) := by decide +kernel
theorem dL_law_199 : decode cL_law 199 = .ok (.invokevirtual 23, 3) := by decide +kernel
theorem dL_law_202 : decode cL_law 202 = .ok (.aload_n 2, 1) := by decide +kernel
theorem dL_law_203 : decode cL_law 203 = .ok (.aload_n 0, 1) := by decide +kernel
theorem dL_law_204 : decode cL_law 204 = .ok (.iload_n 3, 1) := by decide +kernel
theorem dL_law_205 : decode cL_law 205 = .ok (.iconst 1, 1) := by decide +kernel
theorem dL_law_206 : decode cL_law 206 = .ok (.iadd, 1) := by decide +kernel
theorem dL_law_207 : decode cL_law 207 = .ok (.iaload, 1) := by decide +kernel
theorem dL_law_208 : decode cL_law 208 = .ok (.aload_n 0, 1) := by decide +kernel
theorem dL_law_209 : decode cL_law 209 = .ok (.iload_n 3, 1) := by decide +kernel
theorem dL_law_210 : decode cL_law 210 = .ok (.iconst 2, 1) := by decide +kernel
theorem dL_law_211 : decode cL_law 211 = .ok (.iadd, 1) := by decide +kernel
theorem dL_law_212 : decode cL_law 212 = .ok (.iaload, 1) := by decide +kernel
theorem dL_law_213 : decode cL_law 213 = .ok (.invokevirtual 26, 3) := by decide +kernel
theorem dL_law_216 : decode cL_law 216 = .ok (.if_icmp .eq 499, 3) := by decide +kernel
theorem dL_law_219 : decode cL_law 219 = .ok (.iconst 0, 1) := by decide +kernel
theorem dL_law_220 : decode cL_law 220 = .ok (.ireturn, 1) := by decide +kernel
theorem dL_law_221 : decode cL_law 221 = .ok (.aload_n 1, 1) := by decide +kernel
theorem dL_law_222 : decode cL_law 222 = .ok (.aload_n 0, 1) := by decide +kernel
theorem dL_law_223 : decode cL_law 223 = .ok (.iload_n 3, 1) := by decide +kernel
theorem dL_law_224 : decode cL_law 224 = .ok (.iconst 1, 1) := by decide +kernel
theorem dL_law_225 : decode cL_law 225 = .ok (.iadd, 1) := by decide +kernel
theorem dL_law_226 : decode cL_law 226 = .ok (.iaload, 1) := by decide +kernel
theorem dL_law_227 : decode cL_law 227 = .ok (.aload_n 0, 1) := by decide +kernel
theorem dL_law_228 : decode cL_law 228 = .ok (.iload_n 3, 1) := by decide +kernel
theorem dL_law_229 : decode cL_law 229 = .ok (.iconst 2, 1) := by decide +kernel
theorem dL_law_230 : decode cL_law 230 = .ok (.iadd, 1) := by decide +kernel
theorem dL_law_231 : decode cL_law 231 = .ok (.iaload, 1) := by decide +kernel
theorem dL_law_232 : decode cL_law 232 = .ok (.aload_n 0, 1) := by decide +kernel
theorem dL_law_233 : decode cL_law 233 = .ok (.iload_n 3, 1) := by decide +kernel
theorem dL_law_234 : decode cL_law 234 = .ok (.iconst 3, 1) := by decide +kernel
theorem dL_law_235 : decode cL_law 235 = .ok (.iadd, 1) := by decide +kernel
theorem dL_law_236 : decode cL_law 236 = .ok (.iaload, 1) := by decide +kernel
theorem dL_law_237 : decode cL_law 237 = .ok (.invokevirtual 27, 3) := by decide +kernel
theorem dL_law_240 : decode cL_law 240 = .ok (.aload_n 2, 1) := by decide +kernel
theorem dL_law_241 : decode cL_law 241 = .ok (.aload_n 0, 1) := by decide +kernel
theorem dL_law_242 : decode cL_law 242 = .ok (.iload_n 3, 1) := by decide +kernel
theorem dL_law_243 : decode cL_law 243 = .ok (.iconst 1, 1) := by decide +kernel
theorem dL_law_244 : decode cL_law 244 = .ok (.iadd, 1) := by decide +kernel
theorem dL_law_245 : decode cL_law 245 = .ok (.iaload, 1) := by decide +kernel
theorem dL_law_246 : decode cL_law 246 = .ok (.aload_n 0, 1) := by decide +kernel
theorem dL_law_247 : decode cL_law 247 = .ok (.iload_n 3, 1) := by decide +kernel
theorem dL_law_248 : decode cL_law 248 = .ok (.iconst 2, 1) := by decide +kernel
theorem dL_law_249 : decode cL_law 249 = .ok (.iadd, 1) := by decide +kernel
theorem dL_law_250 : decode cL_law 250 = .ok (.iaload, 1) := by decide +kernel
theorem dL_law_251 : decode cL_law 251 = .ok (.aload_n 0, 1) := by decide +kernel
theorem dL_law_252 : decode cL_law 252 = .ok (.iload_n 3, 1) := by decide +kernel
theorem dL_law_253 : decode cL_law 253 = .ok (.iconst 3, 1) := by decide +kernel
theorem dL_law_254 : decode cL_law 254 = .ok (.iadd, 1) := by decide +kernel
theorem dL_law_255 : decode cL_law 255 = .ok (.iaload, 1) := by decide +kernel
theorem dL_law_256 : decode cL_law 256 = .ok (.invokevirtual 31, 3) := by decide +kernel
theorem dL_law_259 : decode cL_law 259 = .ok (.if_icmp .eq 456, 3) := by decide +kernel
theorem dL_law_262 : decode cL_law 262 = .ok (.iconst 0, 1) := by decide +kernel
theorem dL_law_263 : decode cL_law 263 = .ok (.ireturn, 1) := by decide +kernel
theorem dL_law_264 : decode cL_law 264 = .ok (.aload_n 1, 1) := by decide +kernel
theorem dL_law_265 : decode cL_law 265 = .ok (.aload_n 0, 1) := by decide +kernel
theorem dL_law_266 : decode cL_law 266 = .ok (.iload_n 3, 1) := by decide +kernel
theorem dL_law_267 : decode cL_law 267 = .ok (.iconst 1, 1) := by decide +kernel
theorem dL_law_268 : decode cL_law 268 = .ok (.iadd, 1) := by decide +kernel
theorem dL_law_269 : decode cL_law 269 = .ok (.iaload, 1) := by decide +kernel
theorem dL_law_270 : decode cL_law 270 = .ok (.aload_n 0, 1) := by decide +kernel
theorem dL_law_271 : decode cL_law 271 = .ok (.iload_n 3, 1) := by decide +kernel
theorem dL_law_272 : decode cL_law 272 = .ok (.iconst 2, 1) := by decide +kernel
theorem dL_law_273 : decode cL_law 273 = .ok (.iadd, 1) := by decide +kernel
theorem dL_law_274 : decode cL_law 274 = .ok (.iaload, 1) := by decide +kernel
theorem dL_law_275 : decode cL_law 275 = .ok (.invokevirtual 32, 3) := by decide +kernel
theorem dL_law_278 : decode cL_law 278 = .ok (.aload_n 2, 1) := by decide +kernel
theorem dL_law_279 : decode cL_law 279 = .ok (.aload_n 0, 1) := by decide +kernel
theorem dL_law_280 : decode cL_law 280 = .ok (.iload_n 3, 1) := by decide +kernel
theorem dL_law_281 : decode cL_law 281 = .ok (.iconst 1, 1) := by decide +kernel
theorem dL_law_282 : decode cL_law 282 = .ok (.iadd, 1) := by decide +kernel
theorem dL_law_283 : decode cL_law 283 = .ok (.iaload, 1) := by decide +kernel
theorem dL_law_284 : decode cL_law 284 = .ok (.aload_n 0, 1) := by decide +kernel
theorem dL_law_285 : decode cL_law 285 = .ok (.iload_n 3, 1) := by decide +kernel
theorem dL_law_286 : decode cL_law 286 = .ok (.iconst 2, 1) := by decide +kernel
theorem dL_law_287 : decode cL_law 287 = .ok (.iadd, 1) := by decide +kernel
theorem dL_law_288 : decode cL_law 288 = .ok (.iaload, 1) := by decide +kernel
theorem dL_law_289 : decode cL_law 289 = .ok (.invokevirtual 35, 3) := by decide +kernel
theorem dL_law_292 : decode cL_law 292 = .ok (.if_icmp .eq 423, 3) := by decide +kernel
theorem dL_law_295 : decode cL_law 295 = .ok (.iconst 0, 1) := by decide +kernel
theorem dL_law_296 : decode cL_law 296 = .ok (.ireturn, 1) := by decide +kernel
theorem dL_law_297 : decode cL_law 297 = .ok (.aload_n 1, 1) := by decide +kernel
theorem dL_law_298 : decode cL_law 298 = .ok (.aload_n 0, 1) := by decide +kernel
theorem dL_law_299 : decode cL_law 299 = .ok (.iload_n 3, 1) := by decide +kernel
theorem dL_law_300 : decode cL_law 300 = .ok (.iconst 1, 1) := by decide +kernel
theorem dL_law_301 : decode cL_law 301 = .ok (.iadd, 1) := by decide +kernel
theorem dL_law_302 : decode cL_law 302 = .ok (.iaload, 1) := by decide +kernel
theorem dL_law_303 : decode cL_law 303 = .ok (.aload_n 0, 1) := by decide +kernel
theorem dL_law_304 : decode cL_law 304 = .ok (.iload_n 3, 1) := by decide +kernel
theorem dL_law_305 : decode cL_law 305 = .ok (.iconst 2, 1) := by decide +kernel
theorem dL_law_306 : decode cL_law 306 = .ok (.iadd, 1) := by decide +kernel
theorem dL_law_307 : decode cL_law 307 = .ok (.iaload, 1) := by decide +kernel
theorem dL_law_308 : decode cL_law 308 = .ok (.invokevirtual 36, 3) := by decide +kernel
theorem dL_law_311 : decode cL_law 311 = .ok (.aload_n 2, 1) := by decide +kernel
theorem dL_law_312 : decode cL_law 312 = .ok (.aload_n 0, 1) := by decide +kernel
theorem dL_law_313 : decode cL_law 313 = .ok (.iload_n 3, 1) := by decide +kernel
theorem dL_law_314 : decode cL_law 314 = .ok (.iconst 1, 1) := by decide +kernel
theorem dL_law_315 : decode cL_law 315 = .ok (.iadd, 1) := by decide +kernel
theorem dL_law_316 : decode cL_law 316 = .ok (.iaload, 1) := by decide +kernel
theorem dL_law_317 : decode cL_law 317 = .ok (.aload_n 0, 1) := by decide +kernel
theorem dL_law_318 : decode cL_law 318 = .ok (.iload_n 3, 1) := by decide +kernel
theorem dL_law_319 : decode cL_law 319 = .ok (.iconst 2, 1) := by decide +kernel
theorem dL_law_320 : decode cL_law 320 = .ok (.iadd, 1) := by decide +kernel
theorem dL_law_321 : decode cL_law 321 = .ok (.iaload, 1) := by decide +kernel
theorem dL_law_322 : decode cL_law 322 = .ok (.invokevirtual 39, 3) := by decide +kernel
theorem dL_law_325 : decode cL_law 325 = .ok (.if_icmp .eq 390, 3) := by decide +kernel
theorem dL_law_328 : decode cL_law 328 = .ok (.iconst 0, 1) := by decide +kernel
theorem dL_law_329 : decode cL_law 329 = .ok (.ireturn, 1) := by decide +kernel
theorem dL_law_330 : decode cL_law 330 = .ok (.aload_n 1, 1) := by decide +kernel
theorem dL_law_331 : decode cL_law 331 = .ok (.aload_n 0, 1) := by decide +kernel
theorem dL_law_332 : decode cL_law 332 = .ok (.iload_n 3, 1) := by decide +kernel
theorem dL_law_333 : decode cL_law 333 = .ok (.iconst 1, 1) := by decide +kernel
theorem dL_law_334 : decode cL_law 334 = .ok (.iadd, 1) := by decide +kernel
theorem dL_law_335 : decode cL_law 335 = .ok (.iaload, 1) := by decide +kernel
theorem dL_law_336 : decode cL_law 336 = .ok (.invokevirtual 40, 3) := by decide +kernel
theorem dL_law_339 : decode cL_law 339 = .ok (.aload_n 2, 1) := by decide +kernel
theorem dL_law_340 : decode cL_law 340 = .ok (.aload_n 0, 1) := by decide +kernel
theorem dL_law_341 : decode cL_law 341 = .ok (.iload_n 3, 1) := by decide +kernel
theorem dL_law_342 : decode cL_law 342 = .ok (.iconst 1, 1) := by decide +kernel
theorem dL_law_343 : decode cL_law 343 = .ok (.iadd, 1) := by decide +kernel
theorem dL_law_344 : decode cL_law 344 = .ok (.iaload, 1) := by decide +kernel
theorem dL_law_345 : decode cL_law 345 = .ok (.invokevirtual 43, 3) := by decide +kernel
theorem dL_law_348 : decode cL_law 348 = .ok (.if_icmp .eq 367, 3) := by decide +kernel
theorem dL_law_351 : decode cL_law 351 = .ok (.iconst 0, 1) := by decide +kernel
theorem dL_law_352 : decode cL_law 352 = .ok (.ireturn, 1) := by decide +kernel
theorem dL_law_353 : decode cL_law 353 = .ok (.aload_n 1, 1) := by decide +kernel
theorem dL_law_354 : decode cL_law 354 = .ok (.aload_n 0, 1) := by decide +kernel
theorem dL_law_355 : decode cL_law 355 = .ok (.iload_n 3, 1) := by decide +kernel
theorem dL_law_356 : decode cL_law 356 = .ok (.iconst 1, 1) := by decide +kernel
theorem dL_law_357 : decode cL_law 357 = .ok (.iadd, 1) := by decide +kernel
theorem dL_law_358 : decode cL_law 358 = .ok (.iaload, 1) := by decide +kernel
theorem dL_law_359 : decode cL_law 359 = .ok (.aload_n 0, 1) := by decide +kernel
theorem dL_law_360 : decode cL_law 360 = .ok (.iload_n 3, 1) := by decide +kernel
theorem dL_law_361 : decode cL_law 361 = .ok (.iconst 2, 1) := by decide +kernel
theorem dL_law_362 : decode cL_law 362 = .ok (.iadd, 1) := by decide +kernel
theorem dL_law_363 : decode cL_law 363 = .ok (.iaload, 1) := by decide +kernel
theorem dL_law_364 : decode cL_law 364 = .ok (.invokevirtual 44, 3) := by decide +kernel
theorem dL_law_367 : decode cL_law 367 = .ok (.aload_n 2, 1) := by decide +kernel
theorem dL_law_368 : decode cL_law 368 = .ok (.aload_n 0, 1) := by decide +kernel
theorem dL_law_369 : decode cL_law 369 = .ok (.iload_n 3, 1) := by decide +kernel
theorem dL_law_370 : decode cL_law 370 = .ok (.iconst 1, 1) := by decide +kernel
theorem dL_law_371 : decode cL_law 371 = .ok (.iadd, 1) := by decide +kernel
theorem dL_law_372 : decode cL_law 372 = .ok (.iaload, 1) := by decide +kernel
theorem dL_law_373 : decode cL_law 373 = .ok (.aload_n 0, 1) := by decide +kernel
theorem dL_law_374 : decode cL_law 374 = .ok (.iload_n 3, 1) := by decide +kernel
theorem dL_law_375 : decode cL_law 375 = .ok (.iconst 2, 1) := by decide +kernel
theorem dL_law_376 : decode cL_law 376 = .ok (.iadd, 1) := by decide +kernel
theorem dL_law_377 : decode cL_law 377 = .ok (.iaload, 1) := by decide +kernel
theorem dL_law_378 : decode cL_law 378 = .ok (.invokevirtual 47, 3) := by decide +kernel
theorem dL_law_381 : decode cL_law 381 = .ok (.if_icmp .eq 334, 3) := by decide +kernel
theorem dL_law_384 : decode cL_law 384 = .ok (.iconst 0, 1) := by decide +kernel
theorem dL_law_385 : decode cL_law 385 = .ok (.ireturn, 1) := by decide +kernel
theorem dL_law_386 : decode cL_law 386 = .ok (.aload_n 1, 1) := by decide +kernel
theorem dL_law_387 : decode cL_law 387 = .ok (.aload_n 0, 1) := by decide +kernel
theorem dL_law_388 : decode cL_law 388 = .ok (.iload_n 3, 1) := by decide +kernel
theorem dL_law_389 : decode cL_law 389 = .ok (.iconst 1, 1) := by decide +kernel
theorem dL_law_390 : decode cL_law 390 = .ok (.iadd, 1) := by decide +kernel
theorem dL_law_391 : decode cL_law 391 = .ok (.iaload, 1) := by decide +kernel
theorem dL_law_392 : decode cL_law 392 = .ok (.aload_n 0, 1) := by decide +kernel
theorem dL_law_393 : decode cL_law 393 = .ok (.iload_n 3, 1) := by decide +kernel
theorem dL_law_394 : decode cL_law 394 = .ok (.iconst 2, 1) := by decide +kernel
theorem dL_law_395 : decode cL_law 395 = .ok (.iadd, 1) := by decide +kernel
theorem dL_law_396 : decode cL_law 396 = .ok (.iaload, 1) := by decide +kernel
theorem dL_law_397 : decode cL_law 397 = .ok (.aload_n 0, 1) := by decide +kernel
theorem dL_law_398 : decode cL_law 398 = .ok (.iload_n 3, 1) := by decide +kernel
theorem dL_law_399 : decode cL_law 399 = .ok (.iconst 3, 1) := by decide +kernel
theorem dL_law_400 : decode cL_law 400 = .ok (.iadd, 1) := by decide +kernel
theorem dL_law_401 : decode cL_law 401 = .ok (.iaload, 1) := by decide +kernel
theorem dL_law_402 : decode cL_law 402 = .ok (.invokevirtual 48, 3) := by decide +kernel
theorem dL_law_405 : decode cL_law 405 = .ok (.aload_n 2, 1) := by decide +kernel
theorem dL_law_406 : decode cL_law 406 = .ok (.aload_n 0, 1) := by decide +kernel
theorem dL_law_407 : decode cL_law 407 = .ok (.iload_n 3, 1) := by decide +kernel
theorem dL_law_408 : decode cL_law 408 = .ok (.iconst 1, 1) := by decide +kernel
theorem dL_law_409 : decode cL_law 409 = .ok (.iadd, 1) := by decide +kernel
theorem dL_law_410 : decode cL_law 410 = .ok (.iaload, 1) := by decide +kernel
theorem dL_law_411 : decode cL_law 411 = .ok (.aload_n 0, 1) := by decide +kernel
theorem dL_law_412 : decode cL_law 412 = .ok (.iload_n 3, 1) := by decide +kernel
theorem dL_law_413 : decode cL_law 413 = .ok (.iconst 2, 1) := by decide +kernel
theorem dL_law_414 : decode cL_law 414 = .ok (.iadd, 1) := by decide +kernel
theorem dL_law_415 : decode cL_law 415 = .ok (.iaload, 1) := by decide +kernel
theorem dL_law_416 : decode cL_law 416 = .ok (.aload_n 0, 1) := by decide +kernel
theorem dL_law_417 : decode cL_law 417 = .ok (.iload_n 3, 1) := by decide +kernel
theorem dL_law_418 : decode cL_law 418 = .ok (.iconst 3, 1) := by decide +kernel
theorem dL_law_419 : decode cL_law 419 = .ok (.iadd, 1) := by decide +kernel
theorem dL_law_420 : decode cL_law 420 = .ok (.iaload, 1) := by decide +kernel
theorem dL_law_421 : decode cL_law 421 = .ok (.invokevirtual 51, 3) := by decide +kernel
theorem dL_law_424 : decode cL_law 424 = .ok (.if_icmp .eq 291, 3) := by decide +kernel
theorem dL_law_427 : decode cL_law 427 = .ok (.iconst 0, 1) := by decide +kernel
theorem dL_law_428 : decode cL_law 428 = .ok (.ireturn, 1) := by decide +kernel
theorem dL_law_429 : decode cL_law 429 = .ok (.aload_n 1, 1) := by decide +kernel
theorem dL_law_430 : decode cL_law 430 = .ok (.aload_n 0, 1) := by decide +kernel
theorem dL_law_431 : decode cL_law 431 = .ok (.iload_n 3, 1) := by decide +kernel
theorem dL_law_432 : decode cL_law 432 = .ok (.iconst 1, 1) := by decide +kernel
theorem dL_law_433 : decode cL_law 433 = .ok (.iadd, 1) := by decide +kernel
theorem dL_law_434 : decode cL_law 434 = .ok (.iaload, 1) := by decide +kernel
theorem dL_law_435 : decode cL_law 435 = .ok (.invokevirtual 52, 3) := by decide +kernel
theorem dL_law_438 : decode cL_law 438 = .ok (.aload_n 2, 1) := by decide +kernel
theorem dL_law_439 : decode cL_law 439 = .ok (.aload_n 0, 1) := by decide +kernel
theorem dL_law_440 : decode cL_law 440 = .ok (.iload_n 3, 1) := by decide +kernel
theorem dL_law_441 : decode cL_law 441 = .ok (.iconst 1, 1) := by decide +kernel
theorem dL_law_442 : decode cL_law 442 = .ok (.iadd, 1) := by decide +kernel
theorem dL_law_443 : decode cL_law 443 = .ok (.iaload, 1) := by decide +kernel
theorem dL_law_444 : decode cL_law 444 = .ok (.invokevirtual 55, 3) := by decide +kernel
theorem dL_law_447 : decode cL_law 447 = .ok (.if_icmp .eq 268, 3) := by decide +kernel
theorem dL_law_450 : decode cL_law 450 = .ok (.iconst 0, 1) := by decide +kernel
theorem dL_law_451 : decode cL_law 451 = .ok (.ireturn, 1) := by decide +kernel
theorem dL_law_452 : decode cL_law 452 = .ok (.aload_n 1, 1) := by decide +kernel
theorem dL_law_453 : decode cL_law 453 = .ok (.aload_n 0, 1) := by decide +kernel
theorem dL_law_454 : decode cL_law 454 = .ok (.iload_n 3, 1) := by decide +kernel
theorem dL_law_455 : decode cL_law 455 = .ok (.iconst 1, 1) := by decide +kernel
theorem dL_law_456 : decode cL_law 456 = .ok (.iadd, 1) := by decide +kernel
theorem dL_law_457 : decode cL_law 457 = .ok (.iaload, 1) := by decide +kernel
theorem dL_law_458 : decode cL_law 458 = .ok (.aload_n 0, 1) := by decide +kernel
theorem dL_law_459 : decode cL_law 459 = .ok (.iload_n 3, 1) := by decide +kernel
theorem dL_law_460 : decode cL_law 460 = .ok (.iconst 2, 1) := by decide +kernel
theorem dL_law_461 : decode cL_law 461 = .ok (.iadd, 1) := by decide +kernel
theorem dL_law_462 : decode cL_law 462 = .ok (.iaload, 1) := by decide +kernel
theorem dL_law_463 : decode cL_law 463 = .ok (.aload_n 0, 1) := by decide +kernel
theorem dL_law_464 : decode cL_law 464 = .ok (.iload_n 3, 1) := by decide +kernel
theorem dL_law_465 : decode cL_law 465 = .ok (.iconst 3, 1) := by decide +kernel
theorem dL_law_466 : decode cL_law 466 = .ok (.iadd, 1) := by decide +kernel
theorem dL_law_467 : decode cL_law 467 = .ok (.iaload, 1) := by decide +kernel
theorem dL_law_468 : decode cL_law 468 = .ok (.invokevirtual 56, 3) := by decide +kernel
theorem dL_law_471 : decode cL_law 471 = .ok (.aload_n 2, 1) := by decide +kernel
theorem dL_law_472 : decode cL_law 472 = .ok (.aload_n 0, 1) := by decide +kernel
theorem dL_law_473 : decode cL_law 473 = .ok (.iload_n 3, 1) := by decide +kernel
theorem dL_law_474 : decode cL_law 474 = .ok (.iconst 1, 1) := by decide +kernel
theorem dL_law_475 : decode cL_law 475 = .ok (.iadd, 1) := by decide +kernel
theorem dL_law_476 : decode cL_law 476 = .ok (.iaload, 1) := by decide +kernel
theorem dL_law_477 : decode cL_law 477 = .ok (.aload_n 0, 1) := by decide +kernel
theorem dL_law_478 : decode cL_law 478 = .ok (.iload_n 3, 1) := by decide +kernel
theorem dL_law_479 : decode cL_law 479 = .ok (.iconst 2, 1) := by decide +kernel
theorem dL_law_480 : decode cL_law 480 = .ok (.iadd, 1) := by decide +kernel
theorem dL_law_481 : decode cL_law 481 = .ok (.iaload, 1) := by decide +kernel
theorem dL_law_482 : decode cL_law 482 = .ok (.aload_n 0, 1) := by decide +kernel
theorem dL_law_483 : decode cL_law 483 = .ok (.iload_n 3, 1) := by decide +kernel
theorem dL_law_484 : decode cL_law 484 = .ok (.iconst 3, 1) := by decide +kernel
theorem dL_law_485 : decode cL_law 485 = .ok (.iadd, 1) := by decide +kernel
theorem dL_law_486 : decode cL_law 486 = .ok (.iaload, 1) := by decide +kernel
theorem dL_law_487 : decode cL_law 487 = .ok (.invokevirtual 59, 3) := by decide +kernel
theorem dL_law_490 : decode cL_law 490 = .ok (.if_icmp .eq 225, 3) := by decide +kernel
theorem dL_law_493 : decode cL_law 493 = .ok (.iconst 0, 1) := by decide +kernel
theorem dL_law_494 : decode cL_law 494 = .ok (.ireturn, 1) := by decide +kernel
theorem dL_law_495 : decode cL_law 495 = .ok (.aload_n 1, 1) := by decide +kernel
theorem dL_law_496 : decode cL_law 496 = .ok (.aload_n 0, 1) := by decide +kernel
theorem dL_law_497 : decode cL_law 497 = .ok (.iload_n 3, 1) := by decide +kernel
theorem dL_law_498 : decode cL_law 498 = .ok (.iconst 1, 1) := by decide +kernel
theorem dL_law_499 : decode cL_law 499 = .ok (.iadd, 1) := by decide +kernel
theorem dL_law_500 : decode cL_law 500 = .ok (.iaload, 1) := by decide +kernel
theorem dL_law_501 : decode cL_law 501 = .ok (.invokevirtual 60, 3) := by decide +kernel
theorem dL_law_504 : decode cL_law 504 = .ok (.aload_n 2, 1) := by decide +kernel
theorem dL_law_505 : decode cL_law 505 = .ok (.aload_n 0, 1) := by decide +kernel
theorem dL_law_506 : decode cL_law 506 = .ok (.iload_n 3, 1) := by decide +kernel
theorem dL_law_507 : decode cL_law 507 = .ok (.iconst 1, 1) := by decide +kernel
theorem dL_law_508 : decode cL_law 508 = .ok (.iadd, 1) := by decide +kernel
theorem dL_law_509 : decode cL_law 509 = .ok (.iaload, 1) := by decide +kernel
theorem dL_law_510 : decode cL_law 510 = .ok (.invokevirtual 63, 3) := by decide +kernel
theorem dL_law_513 : decode cL_law 513 = .ok (.if_icmp .eq 202, 3) := by decide +kernel
theorem dL_law_516 : decode cL_law 516 = .ok (.iconst 0, 1) := by decide +kernel
theorem dL_law_517 : decode cL_law 517 = .ok (.ireturn, 1) := by decide +kernel
theorem dL_law_518 : decode cL_law 518 = .ok (.aload_n 1, 1) := by decide +kernel
theorem dL_law_519 : decode cL_law 519 = .ok (.aload_n 0, 1) := by decide +kernel
theorem dL_law_520 : decode cL_law 520 = .ok (.iload_n 3, 1) := by decide +kernel
theorem dL_law_521 : decode cL_law 521 = .ok (.iconst 1, 1) := by decide +kernel
theorem dL_law_522 : decode cL_law 522 = .ok (.iadd, 1) := by decide +kernel
theorem dL_law_523 : decode cL_law 523 = .ok (.iaload, 1) := by decide +kernel
theorem dL_law_524 : decode cL_law 524 = .ok (.invokevirtual 64, 3) := by decide +kernel
theorem dL_law_527 : decode cL_law 527 = .ok (.aload_n 2, 1) := by decide +kernel
theorem dL_law_528 : decode cL_law 528 = .ok (.aload_n 0, 1) := by decide +kernel
theorem dL_law_529 : decode cL_law 529 = .ok (.iload_n 3, 1) := by decide +kernel
theorem dL_law_530 : decode cL_law 530 = .ok (.iconst 1, 1) := by decide +kernel
theorem dL_law_531 : decode cL_law 531 = .ok (.iadd, 1) := by decide +kernel
theorem dL_law_532 : decode cL_law 532 = .ok (.iaload, 1) := by decide +kernel
theorem dL_law_533 : decode cL_law 533 = .ok (.invokevirtual 67, 3) := by decide +kernel
theorem dL_law_536 : decode cL_law 536 = .ok (.if_icmp .eq 179, 3) := by decide +kernel
theorem dL_law_539 : decode cL_law 539 = .ok (.iconst 0, 1) := by decide +kernel
theorem dL_law_540 : decode cL_law 540 = .ok (.ireturn, 1) := by decide +kernel
theorem dL_law_541 : decode cL_law 541 = .ok (.aload_n 1, 1) := by decide +kernel
theorem dL_law_542 : decode cL_law 542 = .ok (.aload_n 0, 1) := by decide +kernel
theorem dL_law_543 : decode cL_law 543 = .ok (.iload_n 3, 1) := by decide +kernel
theorem dL_law_544 : decode cL_law 544 = .ok (.iconst 1, 1) := by decide +kernel
theorem dL_law_545 : decode cL_law 545 = .ok (.iadd, 1) := by decide +kernel
theorem dL_law_546 : decode cL_law 546 = .ok (.iaload, 1) := by decide +kernel
theorem dL_law_547 : decode cL_law 547 = .ok (.invokevirtual 68, 3) := by decide +kernel
theorem dL_law_550 : decode cL_law 550 = .ok (.aload_n 2, 1) := by decide +kernel
theorem dL_law_551 : decode cL_law 551 = .ok (.aload_n 0, 1) := by decide +kernel
theorem dL_law_552 : decode cL_law 552 = .ok (.iload_n 3, 1) := by decide +kernel
theorem dL_law_553 : decode cL_law 553 = .ok (.iconst 1, 1) := by decide +kernel
theorem dL_law_554 : decode cL_law 554 = .ok (.iadd, 1) := by decide +kernel
theorem dL_law_555 : decode cL_law 555 = .ok (.iaload, 1) := by decide +kernel
theorem dL_law_556 : decode cL_law 556 = .ok (.invokevirtual 71, 3) := by decide +kernel
theorem dL_law_559 : decode cL_law 559 = .ok (.if_icmp .eq 156, 3) := by decide +kernel
theorem dL_law_562 : decode cL_law 562 = .ok (.iconst 0, 1) := by decide +kernel
theorem dL_law_563 : decode cL_law 563 = .ok (.ireturn, 1) := by decide +kernel
theorem dL_law_564 : decode cL_law 564 = .ok (.aload_n 1, 1) := by decide +kernel
theorem dL_law_565 : decode cL_law 565 = .ok (.aload_n 0, 1) := by decide +kernel
theorem dL_law_566 : decode cL_law 566 = .ok (.iload_n 3, 1) := by decide +kernel
theorem dL_law_567 : decode cL_law 567 = .ok (.iconst 1, 1) := by decide +kernel
theorem dL_law_568 : decode cL_law 568 = .ok (.iadd, 1) := by decide +kernel
theorem dL_law_569 : decode cL_law 569 = .ok (.iaload, 1) := by decide +kernel
theorem dL_law_570 : decode cL_law 570 = .ok (.i2l, 1) := by decide +kernel
theorem dL_law_571 : decode cL_law 571 = .ok (.bipush 32, 2) := by decide +kernel
theorem dL_law_573 : decode cL_law 573 = .ok (.lshl, 1) := by decide +kernel
theorem dL_law_574 : decode cL_law 574 = .ok (.aload_n 0, 1) := by decide +kernel
theorem dL_law_575 : decode cL_law 575 = .ok (.iload_n 3, 1) := by decide +kernel
theorem dL_law_576 : decode cL_law 576 = .ok (.iconst 2, 1) := by decide +kernel
theorem dL_law_577 : decode cL_law 577 = .ok (.iadd, 1) := by decide +kernel
theorem dL_law_578 : decode cL_law 578 = .ok (.iaload, 1) := by decide +kernel
theorem dL_law_579 : decode cL_law 579 = .ok (.i2l, 1) := by decide +kernel
theorem dL_law_580 : decode cL_law 580 = .ok (.ldc2_w 72, 3) := by decide +kernel
theorem dL_law_583 : decode cL_law 583 = .ok (.land, 1) := by decide +kernel
theorem dL_law_584 : decode cL_law 584 = .ok (.lor, 1) := by decide +kernel
theorem dL_law_585 : decode cL_law 585 = .ok (.invokevirtual 74, 3) := by decide +kernel
theorem dL_law_588 : decode cL_law 588 = .ok (.aload_n 2, 1) := by decide +kernel
theorem dL_law_589 : decode cL_law 589 = .ok (.aload_n 0, 1) := by decide +kernel
theorem dL_law_590 : decode cL_law 590 = .ok (.iload_n 3, 1) := by decide +kernel
theorem dL_law_591 : decode cL_law 591 = .ok (.iconst 1, 1) := by decide +kernel
theorem dL_law_592 : decode cL_law 592 = .ok (.iadd, 1) := by decide +kernel
theorem dL_law_593 : decode cL_law 593 = .ok (.iaload, 1) := by decide +kernel
theorem dL_law_594 : decode cL_law 594 = .ok (.i2l, 1) := by decide +kernel
theorem dL_law_595 : decode cL_law 595 = .ok (.bipush 32, 2) := by decide +kernel
theorem dL_law_597 : decode cL_law 597 = .ok (.lshl, 1) := by decide +kernel
theorem dL_law_598 : decode cL_law 598 = .ok (.aload_n 0, 1) := by decide +kernel
theorem dL_law_599 : decode cL_law 599 = .ok (.iload_n 3, 1) := by decide +kernel
theorem dL_law_600 : decode cL_law 600 = .ok (.iconst 2, 1) := by decide +kernel
theorem dL_law_601 : decode cL_law 601 = .ok (.iadd, 1) := by decide +kernel
theorem dL_law_602 : decode cL_law 602 = .ok (.iaload, 1) := by decide +kernel
theorem dL_law_603 : decode cL_law 603 = .ok (.i2l, 1) := by decide +kernel
theorem dL_law_604 : decode cL_law 604 = .ok (.ldc2_w 72, 3) := by decide +kernel
theorem dL_law_607 : decode cL_law 607 = .ok (.land, 1) := by decide +kernel
theorem dL_law_608 : decode cL_law 608 = .ok (.lor, 1) := by decide +kernel
theorem dL_law_609 : decode cL_law 609 = .ok (.invokevirtual 78, 3) := by decide +kernel
theorem dL_law_612 : decode cL_law 612 = .ok (.if_icmp .eq 103, 3) := by decide +kernel
theorem dL_law_615 : decode cL_law 615 = .ok (.iconst 0, 1) := by decide +kernel
theorem dL_law_616 : decode cL_law 616 = .ok (.ireturn, 1) := by decide +kernel
theorem dL_law_617 : decode cL_law 617 = .ok (.aload_n 1, 1) := by decide +kernel
theorem dL_law_618 : decode cL_law 618 = .ok (.invokevirtual 79, 3) := by decide +kernel
theorem dL_law_621 : decode cL_law 621 = .ok (.aload_n 2, 1) := by decide +kernel
theorem dL_law_622 : decode cL_law 622 = .ok (.invokevirtual 83, 3) := by decide +kernel
theorem dL_law_625 : decode cL_law 625 = .ok (.if_icmp .eq 90, 3) := by decide +kernel
theorem dL_law_628 : decode cL_law 628 = .ok (.iconst 0, 1) := by decide +kernel
theorem dL_law_629 : decode cL_law 629 = .ok (.ireturn, 1) := by decide +kernel
theorem dL_law_630 : decode cL_law 630 = .ok (.aload_n 1, 1) := by decide +kernel
theorem dL_law_631 : decode cL_law 631 = .ok (.invokevirtual 84, 3) := by decide +kernel
theorem dL_law_634 : decode cL_law 634 = .ok (.aload_n 2, 1) := by decide +kernel
theorem dL_law_635 : decode cL_law 635 = .ok (.invokevirtual 87, 3) := by decide +kernel
theorem dL_law_638 : decode cL_law 638 = .ok (.if_icmp .eq 77, 3) := by decide +kernel
theorem dL_law_641 : decode cL_law 641 = .ok (.iconst 0, 1) := by decide +kernel
theorem dL_law_642 : decode cL_law 642 = .ok (.ireturn, 1) := by decide +kernel
theorem dL_law_643 : decode cL_law 643 = .ok (.aload_n 1, 1) := by decide +kernel
theorem dL_law_644 : decode cL_law 644 = .ok (.invokevirtual 88, 3) := by decide +kernel
theorem dL_law_647 : decode cL_law 647 = .ok (.aload_n 2, 1) := by decide +kernel
theorem dL_law_648 : decode cL_law 648 = .ok (.invokevirtual 91, 3) := by decide +kernel
theorem dL_law_651 : decode cL_law 651 = .ok (.if_icmp .eq 64, 3) := by decide +kernel
theorem dL_law_654 : decode cL_law 654 = .ok (.iconst 0, 1) := by decide +kernel
theorem dL_law_655 : decode cL_law 655 = .ok (.ireturn, 1) := by decide +kernel
theorem dL_law_656 : decode cL_law 656 = .ok (.aload_n 1, 1) := by decide +kernel
theorem dL_law_657 : decode cL_law 657 = .ok (.invokevirtual 92, 3) := by decide +kernel
theorem dL_law_660 : decode cL_law 660 = .ok (.aload_n 2, 1) := by decide +kernel
theorem dL_law_661 : decode cL_law 661 = .ok (.invokevirtual 95, 3) := by decide +kernel
theorem dL_law_664 : decode cL_law 664 = .ok (.if_icmp .eq 51, 3) := by decide +kernel
theorem dL_law_667 : decode cL_law 667 = .ok (.iconst 0, 1) := by decide +kernel
theorem dL_law_668 : decode cL_law 668 = .ok (.ireturn, 1) := by decide +kernel
theorem dL_law_669 : decode cL_law 669 = .ok (.aload_n 1, 1) := by decide +kernel
theorem dL_law_670 : decode cL_law 670 = .ok (.aload_n 0, 1) := by decide +kernel
theorem dL_law_671 : decode cL_law 671 = .ok (.iload_n 3, 1) := by decide +kernel
theorem dL_law_672 : decode cL_law 672 = .ok (.iconst 1, 1) := by decide +kernel
theorem dL_law_673 : decode cL_law 673 = .ok (.iadd, 1) := by decide +kernel
theorem dL_law_674 : decode cL_law 674 = .ok (.iaload, 1) := by decide +kernel
theorem dL_law_675 : decode cL_law 675 = .ok (.invokevirtual 96, 3) := by decide +kernel
theorem dL_law_678 : decode cL_law 678 = .ok (.aload_n 2, 1) := by decide +kernel
theorem dL_law_679 : decode cL_law 679 = .ok (.aload_n 0, 1) := by decide +kernel
theorem dL_law_680 : decode cL_law 680 = .ok (.iload_n 3, 1) := by decide +kernel
theorem dL_law_681 : decode cL_law 681 = .ok (.iconst 1, 1) := by decide +kernel
theorem dL_law_682 : decode cL_law 682 = .ok (.iadd, 1) := by decide +kernel
theorem dL_law_683 : decode cL_law 683 = .ok (.iaload, 1) := by decide +kernel
theorem dL_law_684 : decode cL_law 684 = .ok (.invokevirtual 99, 3) := by decide +kernel
theorem dL_law_687 : decode cL_law 687 = .ok (.if_icmp .eq 28, 3) := by decide +kernel
theorem dL_law_690 : decode cL_law 690 = .ok (.iconst 0, 1) := by decide +kernel
theorem dL_law_691 : decode cL_law 691 = .ok (.ireturn, 1) := by decide +kernel
theorem dL_law_692 : decode cL_law 692 = .ok (.aload_n 1, 1) := by decide +kernel
theorem dL_law_693 : decode cL_law 693 = .ok (.aload_n 0, 1) := by decide +kernel
theorem dL_law_694 : decode cL_law 694 = .ok (.iload_n 3, 1) := by decide +kernel
theorem dL_law_695 : decode cL_law 695 = .ok (.iconst 1, 1) := by decide +kernel
theorem dL_law_696 : decode cL_law 696 = .ok (.iadd, 1) := by decide +kernel
theorem dL_law_697 : decode cL_law 697 = .ok (.iaload, 1) := by decide +kernel
theorem dL_law_698 : decode cL_law 698 = .ok (.invokevirtual 100, 3) := by decide +kernel
theorem dL_law_701 : decode cL_law 701 = .ok (.aload_n 2, 1) := by decide +kernel
theorem dL_law_702 : decode cL_law 702 = .ok (.aload_n 0, 1) := by decide +kernel
theorem dL_law_703 : decode cL_law 703 = .ok (.iload_n 3, 1) := by decide +kernel
theorem dL_law_704 : decode cL_law 704 = .ok (.iconst 1, 1) := by decide +kernel
theorem dL_law_705 : decode cL_law 705 = .ok (.iadd, 1) := by decide +kernel
theorem dL_law_706 : decode cL_law 706 = .ok (.iaload, 1) := by decide +kernel
theorem dL_law_707 : decode cL_law 707 = .ok (.invokevirtual 103, 3) := by decide +kernel
theorem dL_law_710 : decode cL_law 710 = .ok (.if_icmp .eq 5, 3) := by decide +kernel
theorem dL_law_713 : decode cL_law 713 = .ok (.iconst 0, 1) := by decide +kernel
theorem dL_law_714 : decode cL_law 714 = .ok (.ireturn, 1) := by decide +kernel
theorem dL_law_715 : decode cL_law 715 = .ok (.iinc 3 4, 3) := by decide +kernel
theorem dL_law_718 : decode cL_law 718 = .ok (.goto (-700), 3) := by decide +kernel
theorem dL_law_721 : decode cL_law 721 = .ok (.iconst 1, 1) := by decide +kernel
theorem dL_law_722 : decode cL_law 722 = .ok (.ireturn, 1) := by decide +kernel
end
section
/-! a layer over W: methods over numbers. Cells have virtual addresses 0..198 (the order in which the two constructors make them); what a cell holds of numbers is a function, its references never change -/
/-- the tables' words that a call may hand on -/
def gtbl : List Cond := lw_tbl.filter goodWord
theorem mem_g {w : Cond} (i : Nat) (h : lw_tbl[i]? = some w) (hg : goodWord w = true) : w ∈ gtbl := List.mem_filter.mpr ⟨List.mem_of_getElem? h, hg⟩
theorem all_g {l : List Cond} (h : l.all (fun w => decide (w ∈ lw_tbl) && goodWord w) = true) : ∀ w ∈ l, w ∈ gtbl := fun w hw => by
  have h1 := List.all_eq_true.mp h w hw
  simp only [Bool.and_eq_true, decide_eq_true_eq] at h1
  exact List.mem_filter.mpr h1
abbrev mS : Type := Nat → Nat → Int32
abbrev mG : Type := Launch × va_G × (Nat → ClassId) × (Nat → Nat)
def rv (G : mG) (a : Nat) : Value := .ref (G.2.2.2 a)
def kdL : List Nat := [4, 2, 6, 10, 3, 6, 6, 3, 6, 6, 3, 6, 6, 3, 6, 6, 3, 6, 6, 0, 9, 2, 6, 10, 3, 6, 6, 3, 6, 6, 3, 6, 6, 3, 6, 6, 3, 6, 6, 2, 6, 10, 3, 6, 6, 3, 6, 6, 3, 6, 6, 3, 6, 6, 3, 6, 6, 2, 6, 10, 3, 6, 6, 3, 6, 6, 3, 6, 6, 3, 6, 6, 3, 6, 6, 2, 6, 10, 3, 6, 6, 3, 6, 6, 3, 6, 6, 3, 6, 6, 3, 6, 6, 2, 6, 10, 3, 6, 6, 3, 6, 6, 3, 6, 6, 3, 6, 6, 3, 6, 6, 2, 6, 10, 3, 6, 6, 3, 6, 6, 3, 6, 6, 3, 6, 6, 3, 6, 6, 2, 6, 10, 3, 6, 6, 3, 6, 6, 3, 6, 6, 3, 6, 6, 3, 6, 6, 9, 2, 6, 10, 3, 6, 6, 3, 6, 6, 3, 6, 6, 3, 6, 6, 3, 6, 6, 2, 6, 10, 3, 6, 6, 3, 6, 6, 3, 6, 6, 3, 6, 6, 3, 6, 6, 8, 1, 7, 3, 6, 6, 5, 6, 6, 6, 6, 6, 8, 6, 6]
def lnL : List Nat := [0, 0, 2, 5, 0, 16, 16, 0, 16, 16, 0, 16, 16, 0, 16, 16, 0, 16, 16, 0, 7, 0, 2, 5, 0, 16, 16, 0, 16, 16, 0, 16, 16, 0, 16, 16, 0, 16, 16, 0, 2, 5, 0, 16, 16, 0, 16, 16, 0, 16, 16, 0, 16, 16, 0, 16, 16, 0, 2, 5, 0, 16, 16, 0, 16, 16, 0, 16, 16, 0, 16, 16, 0, 16, 16, 0, 2, 5, 0, 16, 16, 0, 16, 16, 0, 16, 16, 0, 16, 16, 0, 16, 16, 0, 2, 5, 0, 16, 16, 0, 16, 16, 0, 16, 16, 0, 16, 16, 0, 16, 16, 0, 2, 5, 0, 16, 16, 0, 16, 16, 0, 16, 16, 0, 16, 16, 0, 16, 16, 0, 2, 5, 0, 16, 16, 0, 16, 16, 0, 16, 16, 0, 16, 16, 0, 16, 16, 2, 0, 2, 5, 0, 16, 16, 0, 16, 16, 0, 16, 16, 0, 16, 16, 0, 16, 16, 0, 2, 5, 0, 16, 16, 0, 16, 16, 0, 16, 16, 0, 16, 16, 0, 16, 16, 2, 0, 80, 0, 16, 16, 0, 275, 1650, 275, 275, 550, 2, 80, 8]
/-- the kind of a cell: 0 to 5 an object of that class, 6 ints, 7 chars, 8 booleans, 9 States, 10 Troops -/
def kd (a : Nat) : Nat := kdL.getD a 99
def ln (a : Nat) : Nat := lnL.getD a 0
/-- where a reference leads -/
def rf (a k : Nat) : Nat := match kd a with
  | 0 => 20
  | 1 => 186
  | 2 => a + 1 + k
  | 3 => a + k - 9
  | 4 => [1, 19, 147, 184, 185, 187].getD k 0
  | 5 => if k < 6 then 191 + k else if k = 7 then 197 else 198
  | 9 => a + 1 + 18 * k
  | 10 => a + 1 + 3 * k
  | _ => 0
def mcl : List vw_C := [(RX0, TX0, 3), (RX1, TX1, 7), (RX2, TX2, 5), (RX3, TX3, 12), (RX4, TX4, 6), (RX5, TX5, 11)]
def fR (ci : Nat) : String := match ci with | 0 => RX0 | 1 => RX1 | 2 => RX2 | 3 => RX3 | 4 => RX4 | _ => RX5
def fT (ci : Nat) : u_T := match ci with | 0 => TX0 | 1 => TX1 | 2 => TX2 | 3 => TX3 | 4 => TX4 | _ => TX5
def fN (ci : Nat) : Nat := match ci with | 0 => 3 | 1 => 7 | 2 => 5 | 3 => 12 | 4 => 6 | _ => 11
def fY (ci : Nat) : Nat → FieldType := match ci with | 0 => tyX0 | 1 => tyX1 | 2 => tyX2 | 3 => tyX3 | 4 => tyX4 | _ => tyX5
/-- whether a field is a number -/
def isI (ci k : Nat) : Bool := match ci with
  | 0 => Nat.ble 1 k
  | 1 => Nat.ble 1 k
  | 2 => Nat.ble 2 k
  | 3 => Nat.ble (k + 1) 10
  | 4 => false
  | 5 => (k == 6) || (k == 8) || (k == 9)
  | _ => false
def mFs (G : mG) (S : mS) (a ci : Nat) : List Value := (List.range (fN ci)).map (fun k => if isI ci k then .int (S a k) else rv G (rf a k))
def cellE (G : mG) (S : mS) (a : Nat) : va_E := if kd a < 6 then .inr (kd a, mFs G S a (kd a)) else .inl (G.2.2.1 (kd a), ln a, if kd a < 9 then .inl (S a) else .inr (.inr (.inr (.inr (fun k => some (G.2.2.2 (rf a k)))))))
def mW (G : mG) (S : mS) : va_W := (List.range 199).map (fun a => (G.2.2.2 a, cellE G S a))
def mTy (G : mG) : List (ClassId × FieldType) := [(G.2.2.1 6, .int), (G.2.2.1 7, .char), (G.2.2.1 8, .boolean), (G.2.2.1 9, .object "ScoutGates$State"), (G.2.2.1 10, .object "ScoutGates$Troop")]
def up1 (S : mS) (a : Nat) (f : Nat → Int32) : mS := fun b => if b = a then f else S b
theorem up1_s (S : mS) (a : Nat) (f : Nat → Int32) : up1 S a f a = f := by simp [up1]
theorem up1_n {S : mS} {a b : Nat} {f : Nat → Int32} (h : b ≠ a) : up1 S a f b = S b := by simp [up1, h]
theorem kd_lt {a : Nat} (h : kd a ≠ 99) : a < 199 := by
  refine Nat.not_le.mp fun q => h ?_
  unfold kd
  rw [List.getD_eq_getElem?_getD, List.getElem?_eq_none (by exact q)]
  rfl
theorem mW_at (G : mG) (S : mS) {a : Nat} (h : a < 199) : (mW G S)[a]? = some (G.2.2.2 a, cellE G S a) := by simp [mW, h]
theorem cellE_eq {G : mG} {S S' : mS} {b : Nat} (h : S' b = S b) : cellE G S' b = cellE G S b := by unfold cellE mFs; rw [h]
theorem mW_set (G : mG) {S S' : mS} {a : Nat} (h : a < 199) (hS : ∀ b, b ≠ a → S' b = S b) : (mW G S).set a (G.2.2.2 a, cellE G S' a) = mW G S' := by
  refine List.ext_getElem? fun k => ?_
  rw [List.getElem?_set]
  by_cases hk : k < 199
  · rw [mW_at G S' hk, mW_at G S hk]
    by_cases e : a = k
    · subst e; simp [mW, hk]
    · rw [if_neg e, cellE_eq (hS k (fun z => e z.symm))]
  · have h1 : (mW G S')[k]? = none := by simp [mW]; omega
    have h2 : (mW G S)[k]? = none := by simp [mW]; omega
    rw [h1, h2, if_neg (by omega)]
theorem cellE_o {G : mG} {S : mS} {a ci : Nat} (h : kd a = ci) (hc : ci < 6) : cellE G S a = .inr (ci, mFs G S a ci) := by subst h; unfold cellE; rw [if_pos hc]
theorem cellE_i {G : mG} {S : mS} {a t : Nat} (h : kd a = t) (h1 : ¬ t < 6) (h2 : t < 9) : cellE G S a = .inl (G.2.2.1 t, ln a, .inl (S a)) := by subst h; unfold cellE; rw [if_neg h1, if_pos h2]
theorem cellE_r {G : mG} {S : mS} {a t : Nat} (h : kd a = t) (h2 : ¬ t < 9) : cellE G S a = .inl (G.2.2.1 t, ln a, .inr (.inr (.inr (.inr (fun k => some (G.2.2.2 (rf a k))))))) := by subst h; unfold cellE; rw [if_neg (by omega), if_neg h2]
theorem mFs_at {G : mG} {S : mS} {a ci k : Nat} (h : k < fN ci) : (mFs G S a ci)[k]? = some (if isI ci k then .int (S a k) else rv G (rf a k)) := by simp [mFs, h]
theorem mFs_len {G : mG} {S : mS} {a ci : Nat} : (mFs G S a ci).length = fN ci := by simp [mFs]
theorem mFs_set {G : mG} {S : mS} {a ci k : Nat} {v : Int32} (hi : isI ci k = true) : (mFs G S a ci).set k (.int v) = mFs G (up1 S a (upd (S a) k v)) a ci := by
  refine List.ext_getElem? fun j => ?_
  rw [List.getElem?_set]
  by_cases hj : j < fN ci
  · rw [mFs_at hj, mFs_at hj]
    by_cases e : k = j
    · subst e; simp [mFs, hj, hi, up1, upd]
    · have e2 : j ≠ k := fun z => e z.symm
      rw [if_neg e]; simp [up1, upd, e2]
  · have h1 : ∀ S', (mFs G S' a ci)[j]? = none := fun S' => by simp [mFs]; omega
    rw [h1, h1]
    by_cases e : k = j
    · subst e; rw [if_pos rfl, if_neg (by rw [mFs_len]; exact hj)]
    · rw [if_neg e]
theorem cls_at : ∀ ci, ci < 6 → mcl[ci]? = some (fR ci, fT ci, fN ci) := by
  intro ci h
  match ci, h with
  | 0, _ => rfl
  | 1, _ => rfl
  | 2, _ => rfl
  | 3, _ => rfl
  | 4, _ => rfl
  | 5, _ => rfl
theorem cls_in : ∀ ci, ci < 6 → ∀ w ∈ u_ws (fR ci) (fT ci) (fN ci), w ∈ gtbl := by
  intro ci h
  match ci, h with
  | 0, _ => exact all_g (by decide +kernel)
  | 1, _ => exact all_g (by decide +kernel)
  | 2, _ => exact all_g (by decide +kernel)
  | 3, _ => exact all_g (by decide +kernel)
  | 4, _ => exact all_g (by decide +kernel)
  | 5, _ => exact all_g (by decide +kernel)
theorem cls_ty : ∀ ci, ci < 6 → ∀ k, k < fN ci → parseFieldDescriptor (fT ci k).2.2.1 = some (fY ci k) := by
  intro ci h
  match ci, h with
  | 0, _ => exact tyX0_ok
  | 1, _ => exact tyX1_ok
  | 2, _ => exact tyX2_ok
  | 3, _ => exact tyX3_ok
  | 4, _ => exact tyX4_ok
  | 5, _ => exact tyX5_ok
theorem cls_nm : ∀ ci, ci < 6 → ∀ a, a < fN ci → ∀ b, b < fN ci → a ≠ b → (fT ci a).2.1 ≠ (fT ci b).2.1 := by
  intro ci h
  match ci, h with
  | 0, _ => exact nmX0
  | 1, _ => exact nmX1
  | 2, _ => exact nmX2
  | 3, _ => exact nmX3
  | 4, _ => exact nmX4
  | 5, _ => exact nmX5
theorem tbl_good {w : Cond} (h : w ∈ gtbl) : goodWord w = true := (List.mem_filter.mp h).2
/-- a method's words: its code, and all words of the tables -/
def mWs (M : mM) : List Cond := .code M.1 M.2.1 M.2.2.1 M.2.2.2 :: gtbl
def mRm (d : Nat) : Room := { frames := d, cells := 0, slots := 0, locals := 30 * d }
def mBh (G : mG) (A : Nat → Prop) (u : mS) (t : State) : Prop := va_P G.2.1 mcl (mW G u) t.heap ∧ va_K G.2.1 mcl (mTy G) t ∧ va_D A (mW G u)
def mPost (G : mG) (M : mM) (Q : Option Int32 → mS → Prop) (A : Nat → Prop) : Array Value → State → Outcome → State → Prop := match M.2.2.2 with
  | none => va_Qv (fun u => Q none u) (mBh G A) A
  | some _ => va_Qi (fun r u => Q (some r) u) (mBh G A) A
/-- the triple of a method: from numbers S with these arguments it comes to its end with Q; d: how deep it calls -/
def Call (G : mG) (d : Nat) (M : mM) (av : List Value) (S : mS) (Q : Option Int32 → mS → Prop) : Prop := ∀ sz : Nat,
  Met G.1 M.1 (mWs M) (mRm d) (va_Pc av (fun U => U.heap.size = sz ∧ va_P G.2.1 mcl (mW G S) U.heap ∧ va_K G.2.1 mcl (mTy G) U ∧ va_D (fun _ => True) (mW G S))) (mPost G M Q (va_A (mW G S) sz)) 0 0 (va_A (mW G S) sz)
def mCx (G : mG) (M : mM) (A : Nat → Prop) (p : Program) (s : State) (m : MethodId) (args : Array Value) (meth : Method) (c : Code) : Prop :=
  p.tables.exec = Jvm.exec ∧ c.code = M.2.1 ∧ c.maxLocals = M.2.2.1 ∧ meth.sig.returnType = M.2.2.2 ∧ s.vm.findClass M.1.cls = some m.cls ∧ (∀ w ∈ mWs M, w.before args s = true) ∧ meth.locks = false ∧ va_K G.2.1 mcl (mTy G) s ∧ ∀ q, s.heap.size ≤ q → A q
/-- in a method, at a place: from these locals, stack and numbers it comes to its end with Q -/
def At (G : mG) (d : Nat) (M : mM) (Q : Option Int32 → mS → Prop) (pc : Nat) (lo : List (Nat × Value)) (st : List Value) (S : mS) : Prop :=
  ∀ (p : Program) (e : Env) (s : State) (m : MethodId) (args : Array Value) (below : List Frame) (meth : Method) (c : Code) (A : Nat → Prop) (H : Heap) (locs : List Loc) (ls : Array Slot),
    mCx G M A p s m args meth c → lv_has ls M.2.2.1 lo → va_P G.2.1 mcl (mW G S) H → va_D A (mW G S) → va_S A s.heap H locs →
    W p G.1 e (mRm d) s m args below meth c H locs 0 0 (MQ below (mPost G M Q A) args s 0 0 A) (F0 m pc ls st)
theorem call_of {G : mG} {d : Nat} {M : mM} {av : List Value} {S : mS} {Q : Option Int32 → mS → Prop} {lo : List (Nat × Value)} (hy : plainName M.1.cls = true) (hn : (lg_sl av).length ≤ M.2.2.1) (hl : lv_args 0 av = lo) (h : At G d M Q 0 lo [] S) : Call G d M av S Q := by
  intro sz
  refine Met.ofW (cc := M.2.1) (maxL := M.2.2.1) (ret := M.2.2.2) hy rfl ?_
  intro p e s m args below meth c s₁ B hml hv
  obtain ⟨rfl, hsz, hP, hK, hD0⟩ := hv
  subst hsz
  rw [lg_entry_eq]
  subst hl
  exact h p e s m _ below meth c _ s.heap [] _ ⟨B.exec, B.bytes, hml, B.returns, findClass_of_methodNamed B.named, atoms_spec (ws := mWs M) B.pre, B.notSynchronized, hK, fun q hq => Or.inr hq⟩ (lv_entry av hn) hP hD0.self va_S.rf
theorem Met_mono {l : Launch} {y : MethodName} {ws : List Cond} {rm : Room} {Pc : Array Value → State → Prop} {Qc Qc' : Array Value → State → Outcome → State → Prop} {mc ms : Nat} {free : Addr → Prop} (h : Met l y ws rm Pc Qc mc ms free) (hq : ∀ a st o t, Qc a st o t → Qc' a st o t) : Met l y ws rm Pc Qc' mc ms free := by
  intro p e ha hc hk s m args below hf happ hP hT
  obtain ⟨k, o, h1, h2, h3, h4, h5⟩ := h p e ha hc hk s m args below hf happ hP hT
  exact ⟨k, o, h1, h2, h3, hq _ _ _ _ h4, h5⟩
theorem call_mono {G : mG} {d : Nat} {M : mM} {av : List Value} {S : mS} {Q Q' : Option Int32 → mS → Prop} (h : Call G d M av S Q) (hq : ∀ v u, Q v u → Q' v u) : Call G d M av S Q' := by
  intro sz
  refine Met_mono (h sz) ?_
  intro a st o t
  unfold mPost
  cases M.2.2.2 with
  | none => exact fun ⟨⟨u, h1, h2, h3⟩, h4⟩ => ⟨⟨u, h1, hq _ _ h2, h3⟩, h4⟩
  | some ty => exact fun ⟨⟨r, u, h1, h2, h3⟩, h4⟩ => ⟨⟨r, u, h1, hq _ _ h2, h3⟩, h4⟩
section ROWS
variable {G : mG} {d : Nat} {M : mM} {Q : Option Int32 → mS → Prop} {pc : Nat} {lo : List (Nat × Value)} {st : List Value} {S : mS}
theorem cp_nat : Cond.native arraycopyName ∈ gtbl := all_g (l := [Cond.native arraycopyName]) (by decide +kernel) _ List.mem_cons_self
theorem cp_sta : Cond.static arraycopyName ∈ gtbl := all_g (l := [Cond.static arraycopyName]) (by decide +kernel) _ List.mem_cons_self
theorem cp_ini : Cond.initialized "java/lang/System" ∈ gtbl := all_g (l := [Cond.initialized "java/lang/System"]) (by decide +kernel) _ List.mem_cons_self
theorem cp_words {d : Nat} (h : 4 ≤ d) : 0 + (nativeFrameWords "java/lang/System" "arraycopy" 5 + 11) ≤ 30 * d := by
  have : nativeFrameWords "java/lang/System" "arraycopy" 5 + 11 ≤ 120 := by decide +kernel
  omega
theorem r_iconst {n : Int} {v : Int32} (hd : decode M.2.1 pc = .ok (.iconst n, 1)) (hv : Int32.ofInt n = v) (k : At G d M Q (pc + 1) lo (.int v :: st) S) : At G d M Q pc lo (st) S := by
  intro p e s m args below meth c A H locs ls C hl hP hD hS
  exact lv_iconst C.1 C.2.1 hd hv (k _ _ _ _ _ _ _ _ _ _ _ _ C hl hP hD hS)
theorem r_bipush {n : Int} {v : Int32} (hd : decode M.2.1 pc = .ok (.bipush n, 2)) (hv : (Int8.ofInt n).toInt32 = v) (k : At G d M Q (pc + 2) lo (.int v :: st) S) : At G d M Q pc lo (st) S := by
  intro p e s m args below meth c A H locs ls C hl hP hD hS
  exact lv_bipush C.1 C.2.1 hd hv (k _ _ _ _ _ _ _ _ _ _ _ _ C hl hP hD hS)
theorem r_sipush {n : Int} {v : Int32} (hd : decode M.2.1 pc = .ok (.sipush n, 3)) (hv : (Int16.ofInt n).toInt32 = v) (k : At G d M Q (pc + 3) lo (.int v :: st) S) : At G d M Q pc lo (st) S := by
  intro p e s m args below meth c A H locs ls C hl hP hD hS
  exact lv_sipush C.1 C.2.1 hd hv (k _ _ _ _ _ _ _ _ _ _ _ _ C hl hP hD hS)
theorem r_lconst {n : Fin 2} {v : Int64} (hd : decode M.2.1 pc = .ok (.lconst n, 1)) (hv : Int64.ofNat (n : Nat) = v) (k : At G d M Q (pc + 1) lo (.long v :: st) S) : At G d M Q pc lo (st) S := by
  intro p e s m args below meth c A H locs ls C hl hP hD hS
  exact lv_lconst C.1 C.2.1 hd hv (k _ _ _ _ _ _ _ _ _ _ _ _ C hl hP hD hS)
theorem r_iload_n {n : Fin 4} {x : Int32} (hd : decode M.2.1 pc = .ok (.iload_n n, 1)) (j : Nat) (hg : lo[j]? = some ((n : Nat), .int x)) (k : At G d M Q (pc + 1) lo (.int x :: st) S) : At G d M Q pc lo (st) S := by
  intro p e s m args below meth c A H locs ls C hl hP hD hS
  exact lv_iload_n C.1 C.2.1 hd rfl (lv_at hl j hg) (k _ _ _ _ _ _ _ _ _ _ _ _ C hl hP hD hS)
theorem r_iload {i : Nat} {x : Int32} (hd : decode M.2.1 pc = .ok (.iload i, 2)) (j : Nat) (hg : lo[j]? = some (i, .int x)) (k : At G d M Q (pc + 2) lo (.int x :: st) S) : At G d M Q pc lo (st) S := by
  intro p e s m args below meth c A H locs ls C hl hP hD hS
  exact lv_iload C.1 C.2.1 hd (lv_at hl j hg) (k _ _ _ _ _ _ _ _ _ _ _ _ C hl hP hD hS)
theorem r_lload_n {n : Fin 4} {x : Int64} (hd : decode M.2.1 pc = .ok (.lload_n n, 1)) (j : Nat) (hg : lo[j]? = some ((n : Nat), .long x)) (k : At G d M Q (pc + 1) lo (.long x :: st) S) : At G d M Q pc lo (st) S := by
  intro p e s m args below meth c A H locs ls C hl hP hD hS
  exact lv_lload_n C.1 C.2.1 hd rfl (lv_at hl j hg) (k _ _ _ _ _ _ _ _ _ _ _ _ C hl hP hD hS)
theorem r_lload {i : Nat} {x : Int64} (hd : decode M.2.1 pc = .ok (.lload i, 2)) (j : Nat) (hg : lo[j]? = some (i, .long x)) (k : At G d M Q (pc + 2) lo (.long x :: st) S) : At G d M Q pc lo (st) S := by
  intro p e s m args below meth c A H locs ls C hl hP hD hS
  exact lv_lload C.1 C.2.1 hd (lv_at hl j hg) (k _ _ _ _ _ _ _ _ _ _ _ _ C hl hP hD hS)
theorem r_aload_n {n : Fin 4} {x : Nat} (hd : decode M.2.1 pc = .ok (.aload_n n, 1)) (j : Nat) (hg : lo[j]? = some ((n : Nat), rv G x)) (k : At G d M Q (pc + 1) lo (rv G x :: st) S) : At G d M Q pc lo (st) S := by
  intro p e s m args below meth c A H locs ls C hl hP hD hS
  exact lv_aload_n C.1 C.2.1 hd rfl (lv_at hl j hg) (k _ _ _ _ _ _ _ _ _ _ _ _ C hl hP hD hS)
theorem r_aload {i : Nat} {x : Nat} (hd : decode M.2.1 pc = .ok (.aload i, 2)) (j : Nat) (hg : lo[j]? = some (i, rv G x)) (k : At G d M Q (pc + 2) lo (rv G x :: st) S) : At G d M Q pc lo (st) S := by
  intro p e s m args below meth c A H locs ls C hl hP hD hS
  exact lv_aload C.1 C.2.1 hd (lv_at hl j hg) (k _ _ _ _ _ _ _ _ _ _ _ _ C hl hP hD hS)
theorem r_istore_n {n : Fin 4} {i : Nat} {x : Int32} {lo2 : List (Nat × Value)} (hd : decode M.2.1 pc = .ok (.istore_n n, 1)) (hi : (n : Nat) = i) (hn : i < M.2.2.1) (ps : List Nat) (hs : lv_pick ((i, .int x) :: lo.filter (fun q => !(q.1 == i) && !(q.1 + 1 == i && q.2.category == 2))) ps = lo2) (k : At G d M Q (pc + 1) lo2 st S) : At G d M Q pc lo (.int x :: st) S := by
  intro p e s m args below meth c A H locs ls C hl hP hD hS
  exact lv_istore_n C.1 C.2.1 hd hi hl hn rfl (fun ls' hl => k _ _ _ _ _ _ _ _ _ _ _ _ C (lv_sub hl ps hs) hP hD hS)
theorem r_istore  {i : Nat} {x : Int32} {lo2 : List (Nat × Value)} (hd : decode M.2.1 pc = .ok (.istore i, 2)) (hn : i < M.2.2.1) (ps : List Nat) (hs : lv_pick ((i, .int x) :: lo.filter (fun q => !(q.1 == i) && !(q.1 + 1 == i && q.2.category == 2))) ps = lo2) (k : At G d M Q (pc + 2) lo2 st S) : At G d M Q pc lo (.int x :: st) S := by
  intro p e s m args below meth c A H locs ls C hl hP hD hS
  exact lv_istore C.1 C.2.1 hd hl hn rfl (fun ls' hl => k _ _ _ _ _ _ _ _ _ _ _ _ C (lv_sub hl ps hs) hP hD hS)
theorem r_lstore_n {n : Fin 4} {i : Nat} {x : Int64} {lo2 : List (Nat × Value)} (hd : decode M.2.1 pc = .ok (.lstore_n n, 1)) (hi : (n : Nat) = i) (hn : i + 1 < M.2.2.1) (ps : List Nat) (hs : lv_pick ((i, .long x) :: lo.filter (fun q => !(q.1 == i) && (!(q.1 == i + 1) && !(q.1 + 1 == i && q.2.category == 2)))) ps = lo2) (k : At G d M Q (pc + 1) lo2 st S) : At G d M Q pc lo (.long x :: st) S := by
  intro p e s m args below meth c A H locs ls C hl hP hD hS
  exact lv_lstore_n C.1 C.2.1 hd hi hl hn rfl (fun ls' hl => k _ _ _ _ _ _ _ _ _ _ _ _ C (lv_sub hl ps hs) hP hD hS)
theorem r_lstore  {i : Nat} {x : Int64} {lo2 : List (Nat × Value)} (hd : decode M.2.1 pc = .ok (.lstore i, 2)) (hn : i + 1 < M.2.2.1) (ps : List Nat) (hs : lv_pick ((i, .long x) :: lo.filter (fun q => !(q.1 == i) && (!(q.1 == i + 1) && !(q.1 + 1 == i && q.2.category == 2)))) ps = lo2) (k : At G d M Q (pc + 2) lo2 st S) : At G d M Q pc lo (.long x :: st) S := by
  intro p e s m args below meth c A H locs ls C hl hP hD hS
  exact lv_lstore C.1 C.2.1 hd hl hn rfl (fun ls' hl => k _ _ _ _ _ _ _ _ _ _ _ _ C (lv_sub hl ps hs) hP hD hS)
theorem r_astore_n {n : Fin 4} {i : Nat} {x : Nat} {lo2 : List (Nat × Value)} (hd : decode M.2.1 pc = .ok (.astore_n n, 1)) (hi : (n : Nat) = i) (hn : i < M.2.2.1) (ps : List Nat) (hs : lv_pick ((i, rv G x) :: lo.filter (fun q => !(q.1 == i) && !(q.1 + 1 == i && q.2.category == 2))) ps = lo2) (k : At G d M Q (pc + 1) lo2 st S) : At G d M Q pc lo (rv G x :: st) S := by
  intro p e s m args below meth c A H locs ls C hl hP hD hS
  exact lv_astore_n C.1 C.2.1 hd hi hl hn rfl (fun ls' hl => k _ _ _ _ _ _ _ _ _ _ _ _ C (lv_sub hl ps hs) hP hD hS)
theorem r_astore  {i : Nat} {x : Nat} {lo2 : List (Nat × Value)} (hd : decode M.2.1 pc = .ok (.astore i, 2)) (hn : i < M.2.2.1) (ps : List Nat) (hs : lv_pick ((i, rv G x) :: lo.filter (fun q => !(q.1 == i) && !(q.1 + 1 == i && q.2.category == 2))) ps = lo2) (k : At G d M Q (pc + 2) lo2 st S) : At G d M Q pc lo (rv G x :: st) S := by
  intro p e s m args below meth c A H locs ls C hl hP hD hS
  exact lv_astore C.1 C.2.1 hd hl hn rfl (fun ls' hl => k _ _ _ _ _ _ _ _ _ _ _ _ C (lv_sub hl ps hs) hP hD hS)
theorem r_iinc {i : Nat} {n : Int} {x w : Int32} {lo2 : List (Nat × Value)} (hd : decode M.2.1 pc = .ok (.iinc i n, 3)) (j : Nat) (hg : lo[j]? = some (i, .int x)) (hw : Int32.ofInt n = w) (hn : i < M.2.2.1) (ps : List Nat) (hs : lv_pick ((i, .int (x + w)) :: lo.filter (fun q => !(q.1 == i) && !(q.1 + 1 == i && q.2.category == 2))) ps = lo2) (k : At G d M Q (pc + 3) lo2 st S) : At G d M Q pc lo st S := by
  intro p e s m args below meth c A H locs ls C hl hP hD hS
  subst hw
  exact lv_iinc C.1 C.2.1 hd hl (k := j) hg rfl hn rfl (fun ls' hl => k _ _ _ _ _ _ _ _ _ _ _ _ C (lv_sub hl ps hs) hP hD hS)
theorem r_sub {lo2 : List (Nat × Value)} (ps : List Nat) (hs : lv_pick lo ps = lo2) (k : At G d M Q pc lo2 st S) : At G d M Q pc lo st S := by
  intro p e s m args below meth c A H locs ls C hl hP hD hS
  exact k _ _ _ _ _ _ _ _ _ _ _ _ C (lv_sub hl ps hs) hP hD hS
theorem r_iadd {x y : Int32} (hd : decode M.2.1 pc = .ok (.iadd, 1))  (k : At G d M Q (pc + 1) lo (.int (x + y) :: st) S) : At G d M Q pc lo (.int y :: .int x :: st) S := by
  intro p e s m args below meth c A H locs ls C hl hP hD hS
  exact lv_iadd C.1 C.2.1 hd  (k _ _ _ _ _ _ _ _ _ _ _ _ C hl hP hD hS)
theorem r_isub {x y : Int32} (hd : decode M.2.1 pc = .ok (.isub, 1))  (k : At G d M Q (pc + 1) lo (.int (x - y) :: st) S) : At G d M Q pc lo (.int y :: .int x :: st) S := by
  intro p e s m args below meth c A H locs ls C hl hP hD hS
  exact lv_isub C.1 C.2.1 hd  (k _ _ _ _ _ _ _ _ _ _ _ _ C hl hP hD hS)
theorem r_imul {x y : Int32} (hd : decode M.2.1 pc = .ok (.imul, 1))  (k : At G d M Q (pc + 1) lo (.int (x * y) :: st) S) : At G d M Q pc lo (.int y :: .int x :: st) S := by
  intro p e s m args below meth c A H locs ls C hl hP hD hS
  exact lv_imul C.1 C.2.1 hd  (k _ _ _ _ _ _ _ _ _ _ _ _ C hl hP hD hS)
theorem r_iand {x y : Int32} (hd : decode M.2.1 pc = .ok (.iand, 1))  (k : At G d M Q (pc + 1) lo (.int (x &&& y) :: st) S) : At G d M Q pc lo (.int y :: .int x :: st) S := by
  intro p e s m args below meth c A H locs ls C hl hP hD hS
  exact lv_iand C.1 C.2.1 hd  (k _ _ _ _ _ _ _ _ _ _ _ _ C hl hP hD hS)
theorem r_ior {x y : Int32} (hd : decode M.2.1 pc = .ok (.ior, 1))  (k : At G d M Q (pc + 1) lo (.int (x ||| y) :: st) S) : At G d M Q pc lo (.int y :: .int x :: st) S := by
  intro p e s m args below meth c A H locs ls C hl hP hD hS
  exact lv_ior C.1 C.2.1 hd  (k _ _ _ _ _ _ _ _ _ _ _ _ C hl hP hD hS)
theorem r_ixor {x y : Int32} (hd : decode M.2.1 pc = .ok (.ixor, 1))  (k : At G d M Q (pc + 1) lo (.int (x ^^^ y) :: st) S) : At G d M Q pc lo (.int y :: .int x :: st) S := by
  intro p e s m args below meth c A H locs ls C hl hP hD hS
  exact lv_ixor C.1 C.2.1 hd  (k _ _ _ _ _ _ _ _ _ _ _ _ C hl hP hD hS)
theorem r_ishl {x y : Int32} (hd : decode M.2.1 pc = .ok (.ishl, 1))  (k : At G d M Q (pc + 1) lo (.int (x <<< (y &&& 31)) :: st) S) : At G d M Q pc lo (.int y :: .int x :: st) S := by
  intro p e s m args below meth c A H locs ls C hl hP hD hS
  exact lv_ishl C.1 C.2.1 hd  (k _ _ _ _ _ _ _ _ _ _ _ _ C hl hP hD hS)
theorem r_ishr {x y : Int32} (hd : decode M.2.1 pc = .ok (.ishr, 1))  (k : At G d M Q (pc + 1) lo (.int (x >>> (y &&& 31)) :: st) S) : At G d M Q pc lo (.int y :: .int x :: st) S := by
  intro p e s m args below meth c A H locs ls C hl hP hD hS
  exact lv_ishr C.1 C.2.1 hd  (k _ _ _ _ _ _ _ _ _ _ _ _ C hl hP hD hS)
theorem r_irem {x y : Int32} (hd : decode M.2.1 pc = .ok (.irem, 1)) (hne : ¬ y = 0) (k : At G d M Q (pc + 1) lo (.int (x - x / y * y) :: st) S) : At G d M Q pc lo (.int y :: .int x :: st) S := by
  intro p e s m args below meth c A H locs ls C hl hP hD hS
  exact lv_irem C.1 C.2.1 hd hne (k _ _ _ _ _ _ _ _ _ _ _ _ C hl hP hD hS)
theorem r_iushr {x y : Int32} (hd : decode M.2.1 pc = .ok (.iushr, 1))  (k : At G d M Q (pc + 1) lo (.int ((x.toUInt32 >>> (y.toUInt32 &&& Int32.toUInt32 31)).toInt32) :: st) S) : At G d M Q pc lo (.int y :: .int x :: st) S := by
  intro p e s m args below meth c A H locs ls C hl hP hD hS
  exact lv_iushr C.1 C.2.1 hd rfl (k _ _ _ _ _ _ _ _ _ _ _ _ C hl hP hD hS)
theorem r_land {x y : Int64} (hd : decode M.2.1 pc = .ok (.land, 1))  (k : At G d M Q (pc + 1) lo (.long (x &&& y) :: st) S) : At G d M Q pc lo (.long y :: .long x :: st) S := by
  intro p e s m args below meth c A H locs ls C hl hP hD hS
  exact lv_land C.1 C.2.1 hd  (k _ _ _ _ _ _ _ _ _ _ _ _ C hl hP hD hS)
theorem r_lor {x y : Int64} (hd : decode M.2.1 pc = .ok (.lor, 1))  (k : At G d M Q (pc + 1) lo (.long (x ||| y) :: st) S) : At G d M Q pc lo (.long y :: .long x :: st) S := by
  intro p e s m args below meth c A H locs ls C hl hP hD hS
  exact lv_lor C.1 C.2.1 hd  (k _ _ _ _ _ _ _ _ _ _ _ _ C hl hP hD hS)
theorem r_lushr {x : Int64} {y : Int32} (hd : decode M.2.1 pc = .ok (.lushr, 1))  (k : At G d M Q (pc + 1) lo (.long ((x.toUInt64 >>> (y.toInt64.toUInt64 &&& Int64.toUInt64 63)).toInt64) :: st) S) : At G d M Q pc lo (.int y :: .long x :: st) S := by
  intro p e s m args below meth c A H locs ls C hl hP hD hS
  exact lv_lushr C.1 C.2.1 hd rfl (k _ _ _ _ _ _ _ _ _ _ _ _ C hl hP hD hS)
theorem r_lshl {x : Int64} {y : Int32} (hd : decode M.2.1 pc = .ok (.lshl, 1))  (k : At G d M Q (pc + 1) lo (.long (x <<< (y.toInt64 &&& 63)) :: st) S) : At G d M Q pc lo (.int y :: .long x :: st) S := by
  intro p e s m args below meth c A H locs ls C hl hP hD hS
  exact lv_lshl C.1 C.2.1 hd rfl (k _ _ _ _ _ _ _ _ _ _ _ _ C hl hP hD hS)
theorem r_lcmp {x y : Int64} (hd : decode M.2.1 pc = .ok (.lcmp, 1))  (k : At G d M Q (pc + 1) lo (.int (lg_cmp x y) :: st) S) : At G d M Q pc lo (.long y :: .long x :: st) S := by
  intro p e s m args below meth c A H locs ls C hl hP hD hS
  exact W.lcmp C.1 C.2.1 hd  (k _ _ _ _ _ _ _ _ _ _ _ _ C hl hP hD hS)
theorem r_i2l {x : Int32} (hd : decode M.2.1 pc = .ok (.i2l, 1))  (k : At G d M Q (pc + 1) lo (.long x.toInt64 :: st) S) : At G d M Q pc lo (.int x :: st) S := by
  intro p e s m args below meth c A H locs ls C hl hP hD hS
  exact lv_i2l C.1 C.2.1 hd rfl (k _ _ _ _ _ _ _ _ _ _ _ _ C hl hP hD hS)
theorem r_l2i {x : Int64} (hd : decode M.2.1 pc = .ok (.l2i, 1))  (k : At G d M Q (pc + 1) lo (.int x.toInt32 :: st) S) : At G d M Q pc lo (.long x :: st) S := by
  intro p e s m args below meth c A H locs ls C hl hP hD hS
  exact lv_l2i C.1 C.2.1 hd rfl (k _ _ _ _ _ _ _ _ _ _ _ _ C hl hP hD hS)
theorem r_i2c {x : Int32} (hd : decode M.2.1 pc = .ok (.i2c, 1))  (k : At G d M Q (pc + 1) lo (.int (x.toUInt32 % 65536).toInt32 :: st) S) : At G d M Q pc lo (.int x :: st) S := by
  intro p e s m args below meth c A H locs ls C hl hP hD hS
  exact lv_i2c C.1 C.2.1 hd rfl (k _ _ _ _ _ _ _ _ _ _ _ _ C hl hP hD hS)
theorem r_dup {v : Value} (hd : decode M.2.1 pc = .ok (.dup, 1)) (hv : v.category = 1) (k : At G d M Q (pc + 1) lo (v :: v :: st) S) : At G d M Q pc lo (v :: st) S := by
  intro p e s m args below meth c A H locs ls C hl hP hD hS
  exact lv_dup C.1 C.2.1 hd hv (k _ _ _ _ _ _ _ _ _ _ _ _ C hl hP hD hS)
theorem r_pop {v : Value} (hd : decode M.2.1 pc = .ok (.pop, 1)) (hv : v.category = 1) (k : At G d M Q (pc + 1) lo (st) S) : At G d M Q pc lo (v :: st) S := by
  intro p e s m args below meth c A H locs ls C hl hP hD hS
  exact lv_pop C.1 C.2.1 hd hv (k _ _ _ _ _ _ _ _ _ _ _ _ C hl hP hD hS)
theorem r_dup2 {v w : Value} (hd : decode M.2.1 pc = .ok (.dup2, 1)) (hv : v.category = 1) (hw : w.category = 1) (k : At G d M Q (pc + 1) lo (v :: w :: v :: w :: st) S) : At G d M Q pc lo (v :: w :: st) S := by
  intro p e s m args below meth c A H locs ls C hl hP hD hS
  exact lv_dup2_11 C.1 C.2.1 hd hv hw (k _ _ _ _ _ _ _ _ _ _ _ _ C hl hP hD hS)
theorem r_if_eq {x : Int32} {off : Int} {tgt : Nat} (hd : decode M.2.1 pc = .ok (.ifCond .eq off, 3)) (ht : (pc : Int) + off = (tgt : Int)) (kt : x = 0 → At G d M Q tgt lo st S) (kf : ¬ (x = 0) → At G d M Q (pc + 3) lo st S) : At G d M Q pc lo (.int x :: st) S := by
  intro p e s m args below meth c A H locs ls C hl hP hD hS
  exact lv_if_eq C.1 C.2.1 hd ht (fun z => kt z _ _ _ _ _ _ _ _ _ _ _ _ C hl hP hD hS) (fun z => kf z _ _ _ _ _ _ _ _ _ _ _ _ C hl hP hD hS)
theorem r_icmp_eq {x y : Int32} {off : Int} {tgt : Nat} (hd : decode M.2.1 pc = .ok (.if_icmp .eq off, 3)) (ht : (pc : Int) + off = (tgt : Int)) (kt : x = y → At G d M Q tgt lo st S) (kf : ¬ (x = y) → At G d M Q (pc + 3) lo st S) : At G d M Q pc lo (.int y :: .int x :: st) S := by
  intro p e s m args below meth c A H locs ls C hl hP hD hS
  exact lv_icmp_eq C.1 C.2.1 hd ht (fun z => kt z _ _ _ _ _ _ _ _ _ _ _ _ C hl hP hD hS) (fun z => kf z _ _ _ _ _ _ _ _ _ _ _ _ C hl hP hD hS)
theorem r_if_ne {x : Int32} {off : Int} {tgt : Nat} (hd : decode M.2.1 pc = .ok (.ifCond .ne off, 3)) (ht : (pc : Int) + off = (tgt : Int)) (kt : x ≠ 0 → At G d M Q tgt lo st S) (kf : x = 0 → At G d M Q (pc + 3) lo st S) : At G d M Q pc lo (.int x :: st) S := by
  intro p e s m args below meth c A H locs ls C hl hP hD hS
  exact lv_if_ne C.1 C.2.1 hd ht (fun z => kt z _ _ _ _ _ _ _ _ _ _ _ _ C hl hP hD hS) (fun z => kf z _ _ _ _ _ _ _ _ _ _ _ _ C hl hP hD hS)
theorem r_icmp_ne {x y : Int32} {off : Int} {tgt : Nat} (hd : decode M.2.1 pc = .ok (.if_icmp .ne off, 3)) (ht : (pc : Int) + off = (tgt : Int)) (kt : x ≠ y → At G d M Q tgt lo st S) (kf : x = y → At G d M Q (pc + 3) lo st S) : At G d M Q pc lo (.int y :: .int x :: st) S := by
  intro p e s m args below meth c A H locs ls C hl hP hD hS
  exact lv_icmp_ne C.1 C.2.1 hd ht (fun z => kt z _ _ _ _ _ _ _ _ _ _ _ _ C hl hP hD hS) (fun z => kf z _ _ _ _ _ _ _ _ _ _ _ _ C hl hP hD hS)
theorem r_if_lt {x : Int32} {off : Int} {tgt : Nat} (hd : decode M.2.1 pc = .ok (.ifCond .lt off, 3)) (ht : (pc : Int) + off = (tgt : Int)) (kt : x < 0 → At G d M Q tgt lo st S) (kf : ¬ (x < 0) → At G d M Q (pc + 3) lo st S) : At G d M Q pc lo (.int x :: st) S := by
  intro p e s m args below meth c A H locs ls C hl hP hD hS
  exact lv_if_lt C.1 C.2.1 hd ht (fun z => kt z _ _ _ _ _ _ _ _ _ _ _ _ C hl hP hD hS) (fun z => kf z _ _ _ _ _ _ _ _ _ _ _ _ C hl hP hD hS)
theorem r_icmp_lt {x y : Int32} {off : Int} {tgt : Nat} (hd : decode M.2.1 pc = .ok (.if_icmp .lt off, 3)) (ht : (pc : Int) + off = (tgt : Int)) (kt : x < y → At G d M Q tgt lo st S) (kf : ¬ (x < y) → At G d M Q (pc + 3) lo st S) : At G d M Q pc lo (.int y :: .int x :: st) S := by
  intro p e s m args below meth c A H locs ls C hl hP hD hS
  exact lv_icmp_lt C.1 C.2.1 hd ht (fun z => kt z _ _ _ _ _ _ _ _ _ _ _ _ C hl hP hD hS) (fun z => kf z _ _ _ _ _ _ _ _ _ _ _ _ C hl hP hD hS)
theorem r_if_ge {x : Int32} {off : Int} {tgt : Nat} (hd : decode M.2.1 pc = .ok (.ifCond .ge off, 3)) (ht : (pc : Int) + off = (tgt : Int)) (kt : 0 ≤ x → At G d M Q tgt lo st S) (kf : ¬ (0 ≤ x) → At G d M Q (pc + 3) lo st S) : At G d M Q pc lo (.int x :: st) S := by
  intro p e s m args below meth c A H locs ls C hl hP hD hS
  exact lv_if_ge C.1 C.2.1 hd ht (fun z => kt z _ _ _ _ _ _ _ _ _ _ _ _ C hl hP hD hS) (fun z => kf z _ _ _ _ _ _ _ _ _ _ _ _ C hl hP hD hS)
theorem r_icmp_ge {x y : Int32} {off : Int} {tgt : Nat} (hd : decode M.2.1 pc = .ok (.if_icmp .ge off, 3)) (ht : (pc : Int) + off = (tgt : Int)) (kt : y ≤ x → At G d M Q tgt lo st S) (kf : ¬ (y ≤ x) → At G d M Q (pc + 3) lo st S) : At G d M Q pc lo (.int y :: .int x :: st) S := by
  intro p e s m args below meth c A H locs ls C hl hP hD hS
  exact lv_icmp_ge C.1 C.2.1 hd ht (fun z => kt z _ _ _ _ _ _ _ _ _ _ _ _ C hl hP hD hS) (fun z => kf z _ _ _ _ _ _ _ _ _ _ _ _ C hl hP hD hS)
theorem r_if_gt {x : Int32} {off : Int} {tgt : Nat} (hd : decode M.2.1 pc = .ok (.ifCond .gt off, 3)) (ht : (pc : Int) + off = (tgt : Int)) (kt : 0 < x → At G d M Q tgt lo st S) (kf : ¬ (0 < x) → At G d M Q (pc + 3) lo st S) : At G d M Q pc lo (.int x :: st) S := by
  intro p e s m args below meth c A H locs ls C hl hP hD hS
  exact lv_if_gt C.1 C.2.1 hd ht (fun z => kt z _ _ _ _ _ _ _ _ _ _ _ _ C hl hP hD hS) (fun z => kf z _ _ _ _ _ _ _ _ _ _ _ _ C hl hP hD hS)
theorem r_icmp_gt {x y : Int32} {off : Int} {tgt : Nat} (hd : decode M.2.1 pc = .ok (.if_icmp .gt off, 3)) (ht : (pc : Int) + off = (tgt : Int)) (kt : y < x → At G d M Q tgt lo st S) (kf : ¬ (y < x) → At G d M Q (pc + 3) lo st S) : At G d M Q pc lo (.int y :: .int x :: st) S := by
  intro p e s m args below meth c A H locs ls C hl hP hD hS
  exact lv_icmp_gt C.1 C.2.1 hd ht (fun z => kt z _ _ _ _ _ _ _ _ _ _ _ _ C hl hP hD hS) (fun z => kf z _ _ _ _ _ _ _ _ _ _ _ _ C hl hP hD hS)
theorem r_if_le {x : Int32} {off : Int} {tgt : Nat} (hd : decode M.2.1 pc = .ok (.ifCond .le off, 3)) (ht : (pc : Int) + off = (tgt : Int)) (kt : x ≤ 0 → At G d M Q tgt lo st S) (kf : ¬ (x ≤ 0) → At G d M Q (pc + 3) lo st S) : At G d M Q pc lo (.int x :: st) S := by
  intro p e s m args below meth c A H locs ls C hl hP hD hS
  exact lv_if_le C.1 C.2.1 hd ht (fun z => kt z _ _ _ _ _ _ _ _ _ _ _ _ C hl hP hD hS) (fun z => kf z _ _ _ _ _ _ _ _ _ _ _ _ C hl hP hD hS)
theorem r_icmp_le {x y : Int32} {off : Int} {tgt : Nat} (hd : decode M.2.1 pc = .ok (.if_icmp .le off, 3)) (ht : (pc : Int) + off = (tgt : Int)) (kt : x ≤ y → At G d M Q tgt lo st S) (kf : ¬ (x ≤ y) → At G d M Q (pc + 3) lo st S) : At G d M Q pc lo (.int y :: .int x :: st) S := by
  intro p e s m args below meth c A H locs ls C hl hP hD hS
  exact lv_icmp_le C.1 C.2.1 hd ht (fun z => kt z _ _ _ _ _ _ _ _ _ _ _ _ C hl hP hD hS) (fun z => kf z _ _ _ _ _ _ _ _ _ _ _ _ C hl hP hD hS)
theorem r_goto {off : Int} {tgt : Nat} (hd : decode M.2.1 pc = .ok (.goto off, 3)) (ht : (pc : Int) + off = (tgt : Int)) (k : At G d M Q tgt lo st S) : At G d M Q pc lo st S := by
  intro p e s m args below meth c A H locs ls C hl hP hD hS
  exact lv_goto C.1 C.2.1 hd ht (k _ _ _ _ _ _ _ _ _ _ _ _ C hl hP hD hS)
theorem r_tabIn {dflt lw hi : Int} {offs : Array Int} {len : Nat} {x : Int32} {off : Int} {tgt : Nat} (hd : decode M.2.1 pc = .ok (.tableswitch dflt lw hi offs, len)) (h1 : ¬ x.toInt < lw) (h2 : ¬ hi < x.toInt) (ho : offs[(x.toInt - lw).toNat]? = some off) (ht : (pc : Int) + off = (tgt : Int)) (k : At G d M Q tgt lo st S) : At G d M Q pc lo (.int x :: st) S := by
  intro p e s m args below meth c A H locs ls C hl hP hD hS
  exact lv_tableIn C.1 C.2.1 hd h1 h2 ho ht (k _ _ _ _ _ _ _ _ _ _ _ _ C hl hP hD hS)
theorem r_tabOut {dflt lw hi : Int} {offs : Array Int} {len : Nat} {x : Int32} {tgt : Nat} (hd : decode M.2.1 pc = .ok (.tableswitch dflt lw hi offs, len)) (h : x.toInt < lw ∨ hi < x.toInt) (ht : (pc : Int) + dflt = (tgt : Int)) (k : At G d M Q tgt lo st S) : At G d M Q pc lo (.int x :: st) S := by
  intro p e s m args below meth c A H locs ls C hl hP hD hS
  exact lv_tableOut C.1 C.2.1 hd h ht (k _ _ _ _ _ _ _ _ _ _ _ _ C hl hP hD hS)
theorem r_lookup {dflt : Int} {ps : Array (Int × Int)} {len : Nat} {x : Int32} {off : Int} {tgt : Nat} (hd : decode M.2.1 pc = .ok (.lookupswitch dflt ps, len)) (hp : (ps.toList.zip (ps.toList.drop 1)).all (fun (a, next) => a.1 < next.1) = true) (ho : Op.lookupswitch.offset ps.toList dflt x.toInt = off) (ht : (pc : Int) + off = (tgt : Int)) (k : At G d M Q tgt lo st S) : At G d M Q pc lo (.int x :: st) S := by
  intro p e s m args below meth c A H locs ls C hl hP hD hS
  exact lv_lookup C.1 C.2.1 hd hp ho ht (k _ _ _ _ _ _ _ _ _ _ _ _ C hl hP hD hS)
def KI (own : String) (i : Nat) (v : Int32) : Prop := Cond.constant own i v ∈ gtbl
def KL (own : String) (i : Nat) (v : Int64) : Prop := Cond.constantLong own i v ∈ gtbl
theorem r_ldcw {i : Nat} {v : Int32} (hk : KI M.1.cls i v) (hd : decode M.2.1 pc = .ok (.ldc_w i, 3)) (k : At G d M Q (pc + 3) lo (.int v :: st) S) : At G d M Q pc lo st S := by
  intro p e s m args below meth c A H locs ls C hl hP hD hS
  exact lv_ldcw C.1 C.2.1 C.2.2.2.2.1 (C.2.2.2.2.2.1 _ (List.mem_cons_of_mem _ hk)) hd (k _ _ _ _ _ _ _ _ _ _ _ _ C hl hP hD hS)
theorem r_ldc2 {i : Nat} {v : Int64} (hk : KL M.1.cls i v) (hd : decode M.2.1 pc = .ok (.ldc2_w i, 3)) (k : At G d M Q (pc + 3) lo (.long v :: st) S) : At G d M Q pc lo st S := by
  intro p e s m args below meth c A H locs ls C hl hP hD hS
  exact lv_ldc2 C.1 C.2.1 C.2.2.2.2.1 (C.2.2.2.2.2.1 _ (List.mem_cons_of_mem _ hk)) hd (k _ _ _ _ _ _ _ _ _ _ _ _ C hl hP hD hS)
/-- a field's link in the tables -/
def FL (own : String) (i ci f : Nat) : Prop := (ci < 6 ∧ f < fN ci) ∧ Cond.fieldLink own i (fR ci) (fT ci f).2.1 (fT ci f).2.2.1 ∈ gtbl
theorem hasO {a ci : Nat} (hk : kd a = ci) (hc : ci < 6) : (mW G S)[a]? = some (G.2.2.2 a, .inr (ci, mFs G S a ci)) := by
  rw [mW_at G S (kd_lt (by omega)), cellE_o hk hc]
theorem r_get {i ci f a : Nat} (hk : kd a = ci) (hf : FL M.1.cls i ci f) (hd : decode M.2.1 pc = .ok (.getfield i, 3)) {v : Value} (hv : (if isI ci f then .int (S a f) else rv G (rf a f)) = v) (hs : fT ci f = (fR ci, (fT ci f).2)) (k : At G d M Q (pc + 3) lo (v :: st) S) : At G d M Q pc lo (rv G a :: st) S := by
  intro p e s m args below meth c A H locs ls C hl hP hD hS
  subst hv
  exact va_get (D := G.2.1) (ci := ci) (C := fR ci) (T := fT ci) (N := fN ci) C.1 C.2.1 C.2.2.2.2.2.1 (fun w hw => List.mem_cons_of_mem _ (cls_in ci hf.1.1 w hw)) C.2.2.2.2.1 C.2.2.2.2.2.2.2.1 hP a (hasO hk hf.1.1) (cls_at ci hf.1.1) f hf.1.2 (C.2.2.2.2.2.1 _ (List.mem_cons_of_mem _ hf.2)) (fun x hx => by rw [hs] at hx; exact hx) (mFs_at hf.1.2) hd (k _ _ _ _ _ _ _ _ _ _ _ _ C hl hP hD hS)
theorem r_getI {i ci f a : Nat} (hk : kd a = ci) (hf : FL M.1.cls i ci f) (hi : isI ci f = true) (hs : fT ci f = (fR ci, (fT ci f).2)) (hd : decode M.2.1 pc = .ok (.getfield i, 3)) (k : At G d M Q (pc + 3) lo (.int (S a f) :: st) S) : At G d M Q pc lo (rv G a :: st) S := r_get hk hf hd (by rw [if_pos hi]) hs k
theorem r_getR {i ci f a b : Nat} (hk : kd a = ci) (hf : FL M.1.cls i ci f) (hi : isI ci f = false) (hs : fT ci f = (fR ci, (fT ci f).2)) (hd : decode M.2.1 pc = .ok (.getfield i, 3)) (hb : rf a f = b) (k : At G d M Q (pc + 3) lo (rv G b :: st) S) : At G d M Q pc lo (rv G a :: st) S := r_get hk hf hd (by rw [hi, hb]; rfl) hs k
theorem r_putT {i ci f a : Nat} {x : Int32} {ty : FieldType} (hk : kd a = ci) (hf : FL M.1.cls i ci f) (hi : isI ci f = true) (hs : fT ci f = (fR ci, (fT ci f).2)) (hfin : (fT ci f).2.2.2 = false) (hty : fY ci f = ty) (hn : narrow ty (.int x) = .int x) (hfit : fits ty (.int x) = true) (hd : decode M.2.1 pc = .ok (.putfield i, 3)) (k : At G d M Q (pc + 3) lo st (up1 S a (upd (S a) f x))) : At G d M Q pc lo (.int x :: rv G a :: st) S := by
  intro p e s m args below meth c A H locs ls C hl hP hD hS
  have ha : a < 199 := kd_lt (by have := hf.1.1; omega)
  refine va_put (D := G.2.1) (ci := ci) (C := fR ci) (T := fT ci) (N := fN ci) (ty := ty) C.1 C.2.1 C.2.2.2.2.2.1 (fun w hw => List.mem_cons_of_mem _ (cls_in ci hf.1.1 w hw)) (fY ci) (cls_ty ci hf.1.1) (cls_nm ci hf.1.1) C.2.2.2.2.1 C.2.2.2.2.2.2.2.1 hP hD hS a (hasO hk hf.1.1) (cls_at ci hf.1.1) f hf.1.2 (C.2.2.2.2.2.1 _ (List.mem_cons_of_mem _ hf.2)) (fun x hx => by rw [hs] at hx; exact hx) hfin (by rw [cls_ty ci hf.1.1 f hf.1.2, hty]) hn hfit (by rw [mFs_len]; exact hf.1.2) hd (fun H1 locs1 hP hD hS => ?_)
  rw [mFs_set hi, ← cellE_o hk hf.1.1, mW_set G ha (fun b hb => up1_n hb)] at hP hD
  exact k _ _ _ _ _ _ _ _ _ _ _ _ C hl hP hD hS
theorem r_putI {i ci f a : Nat} {x : Int32} (hk : kd a = ci) (hf : FL M.1.cls i ci f) (hi : isI ci f = true) (hs : fT ci f = (fR ci, (fT ci f).2)) (hfin : (fT ci f).2.2.2 = false) (hty : fY ci f = .int) (hd : decode M.2.1 pc = .ok (.putfield i, 3)) (k : At G d M Q (pc + 3) lo st (up1 S a (upd (S a) f x))) : At G d M Q pc lo (.int x :: rv G a :: st) S := r_putT hk hf hi hs hfin hty rfl rfl hd k
theorem in_of {x : Int32} {n N : Nat} (hx : x = nI n) (h : n < N) (hN : N < 2 ^ 31) : vp_in x N := by rw [hx]; exact vp_in_nI h hN
theorem ln_small (a : Nat) : ln a < 2 ^ 31 := by
  unfold ln
  by_cases h : a < 199
  · exact (by decide +kernel : ∀ a, a < 199 → lnL.getD a 0 < 2 ^ 31) a h
  · rw [List.getD_eq_getElem?_getD, List.getElem?_eq_none (by show 199 ≤ a; omega)]; decide
theorem r_iald {a j : Nat} {x : Int32} (hk : kd a = 6) (hx : x = nI j) (hj : j < ln a) (hd : decode M.2.1 pc = .ok (.iaload, 1)) (k : At G d M Q (pc + 1) lo (.int (S a j) :: st) S) : At G d M Q pc lo (.int x :: rv G a :: st) S := by
  intro p e s m args below meth c A H locs ls C hl hP hD hS
  have h1 := va_iald (tys := mTy G) C.1 C.2.1 C.2.2.2.2.2.2.2.1 hP a 0 (by rw [mW_at G S (kd_lt (by omega)), cellE_i hk (by decide) (by decide)]) rfl (in_of hx hj (ln_small a)) hd (rest := st) (ls := ls) (pc := pc) (m := m) (p := p) (l := G.1) (e := e) (R := mRm d) (s := s) (args := args) (below := below) (meth := meth) (c := c) (H := H) (locs := locs) (cells := 0) (slots := 0) (Q := MQ below (mPost G M Q A) args s 0 0 A) (D := G.2.1)
  have e : x.toNatClampNeg = j := by rw [hx]; exact nI_clamp (by have := ln_small a; omega)
  rw [e] at h1
  exact h1 (k _ _ _ _ _ _ _ _ _ _ _ _ C hl hP hD hS)
theorem r_cald {a j : Nat} {x : Int32} (hk : kd a = 7) (hx : x = nI j) (hj : j < ln a) (hd : decode M.2.1 pc = .ok (.caload, 1)) (k : At G d M Q (pc + 1) lo (.int (S a j) :: st) S) : At G d M Q pc lo (.int x :: rv G a :: st) S := by
  intro p e s m args below meth c A H locs ls C hl hP hD hS
  have h1 := va_cald (tys := mTy G) C.1 C.2.1 C.2.2.2.2.2.2.2.1 hP a 1 (by rw [mW_at G S (kd_lt (by omega)), cellE_i hk (by decide) (by decide)]) rfl (in_of hx hj (ln_small a)) hd (rest := st) (ls := ls) (pc := pc) (m := m) (p := p) (l := G.1) (e := e) (R := mRm d) (s := s) (args := args) (below := below) (meth := meth) (c := c) (H := H) (locs := locs) (cells := 0) (slots := 0) (Q := MQ below (mPost G M Q A) args s 0 0 A) (D := G.2.1)
  have e : x.toNatClampNeg = j := by rw [hx]; exact nI_clamp (by have := ln_small a; omega)
  rw [e] at h1
  exact h1 (k _ _ _ _ _ _ _ _ _ _ _ _ C hl hP hD hS)
theorem r_zald {a j : Nat} {x : Int32} (hk : kd a = 8) (hx : x = nI j) (hj : j < ln a) (hd : decode M.2.1 pc = .ok (.baload, 1)) (k : At G d M Q (pc + 1) lo (.int (S a j) :: st) S) : At G d M Q pc lo (.int x :: rv G a :: st) S := by
  intro p e s m args below meth c A H locs ls C hl hP hD hS
  have h1 := va_zald (tys := mTy G) C.1 C.2.1 C.2.2.2.2.2.2.2.1 hP a 2 (by rw [mW_at G S (kd_lt (by omega)), cellE_i hk (by decide) (by decide)]) rfl (in_of hx hj (ln_small a)) hd (rest := st) (ls := ls) (pc := pc) (m := m) (p := p) (l := G.1) (e := e) (R := mRm d) (s := s) (args := args) (below := below) (meth := meth) (c := c) (H := H) (locs := locs) (cells := 0) (slots := 0) (Q := MQ below (mPost G M Q A) args s 0 0 A) (D := G.2.1)
  have e : x.toNatClampNeg = j := by rw [hx]; exact nI_clamp (by have := ln_small a; omega)
  rw [e] at h1
  exact h1 (k _ _ _ _ _ _ _ _ _ _ _ _ C hl hP hD hS)
theorem r_iast {a j : Nat} {x y : Int32} (hk : kd a = 6) (hx : x = nI j) (hj : j < ln a) (hd : decode M.2.1 pc = .ok (.iastore, 1)) (k : At G d M Q (pc + 1) lo st (up1 S a (upd (S a) j y))) : At G d M Q pc lo (.int y :: .int x :: rv G a :: st) S := by
  intro p e s m args below meth c A H locs ls C hl hP hD hS
  have ha : a < 199 := kd_lt (by omega)
  have e : x.toNatClampNeg = j := by rw [hx]; exact nI_clamp (by have := ln_small a; omega)
  refine va_iast (D := G.2.1) (tys := mTy G) C.1 C.2.1 C.2.2.2.2.2.2.2.1 hP hD hS a 0 (by rw [mW_at G S ha, cellE_i hk (by decide) (by decide)]) rfl (in_of hx hj (ln_small a)) hd (fun H1 locs1 hP hD hS => ?_)
  have e2 : (Sum.inl (G.2.2.1 6, ln a, Sum.inl (upd (S a) x.toNatClampNeg y)) : va_E) = cellE G (up1 S a (upd (S a) j y)) a := by rw [cellE_i hk (by decide) (by decide), up1_s, e]
  rw [e2, mW_set G ha (fun b hb => up1_n hb)] at hP hD
  exact k _ _ _ _ _ _ _ _ _ _ _ _ C hl hP hD hS
theorem r_cast {a j : Nat} {x y : Int32} (hk : kd a = 7) (hx : x = nI j) (hj : j < ln a) (hd : decode M.2.1 pc = .ok (.castore, 1)) (k : At G d M Q (pc + 1) lo st (up1 S a (upd (S a) j (vp_nar .char y)))) : At G d M Q pc lo (.int y :: .int x :: rv G a :: st) S := by
  intro p e s m args below meth c A H locs ls C hl hP hD hS
  have ha : a < 199 := kd_lt (by omega)
  have e : x.toNatClampNeg = j := by rw [hx]; exact nI_clamp (by have := ln_small a; omega)
  refine va_cast (D := G.2.1) (tys := mTy G) C.1 C.2.1 C.2.2.2.2.2.2.2.1 hP hD hS a 1 (by rw [mW_at G S ha, cellE_i hk (by decide) (by decide)]) rfl (in_of hx hj (ln_small a)) hd (fun H1 locs1 hP hD hS => ?_)
  have e2 : (Sum.inl (G.2.2.1 7, ln a, Sum.inl (upd (S a) x.toNatClampNeg (vp_nar .char y))) : va_E) = cellE G (up1 S a (upd (S a) j (vp_nar .char y))) a := by rw [cellE_i hk (by decide) (by decide), up1_s, e]
  rw [e2, mW_set G ha (fun b hb => up1_n hb)] at hP hD
  exact k _ _ _ _ _ _ _ _ _ _ _ _ C hl hP hD hS
theorem r_zast {a j : Nat} {x y : Int32} (hk : kd a = 8) (hx : x = nI j) (hj : j < ln a) (hd : decode M.2.1 pc = .ok (.bastore, 1)) (k : At G d M Q (pc + 1) lo st (up1 S a (upd (S a) j (vp_nar .boolean y)))) : At G d M Q pc lo (.int y :: .int x :: rv G a :: st) S := by
  intro p e s m args below meth c A H locs ls C hl hP hD hS
  have ha : a < 199 := kd_lt (by omega)
  have e : x.toNatClampNeg = j := by rw [hx]; exact nI_clamp (by have := ln_small a; omega)
  refine va_zast (D := G.2.1) (tys := mTy G) C.1 C.2.1 C.2.2.2.2.2.2.2.1 hP hD hS a 2 (by rw [mW_at G S ha, cellE_i hk (by decide) (by decide)]) rfl (in_of hx hj (ln_small a)) hd (fun H1 locs1 hP hD hS => ?_)
  have e2 : (Sum.inl (G.2.2.1 8, ln a, Sum.inl (upd (S a) x.toNatClampNeg (vp_nar .boolean y))) : va_E) = cellE G (up1 S a (upd (S a) j (vp_nar .boolean y))) a := by rw [cellE_i hk (by decide) (by decide), up1_s, e]
  rw [e2, mW_set G ha (fun b hb => up1_n hb)] at hP hD
  exact k _ _ _ _ _ _ _ _ _ _ _ _ C hl hP hD hS
theorem r_aald9 {a j b : Nat} {x : Int32} (hk : kd a = 9) (hx : x = nI j) (hj : j < ln a) (hb : rf a j = b) (hd : decode M.2.1 pc = .ok (.aaload, 1)) (k : At G d M Q (pc + 1) lo (rv G b :: st) S) : At G d M Q pc lo (.int x :: rv G a :: st) S := by
  intro p e s m args below meth c A H locs ls C hl hP hD hS
  have e : x.toNatClampNeg = j := by rw [hx]; exact nI_clamp (by have := ln_small a; omega)
  refine va_aldq (D := G.2.1) (tys := mTy G) C.1 C.2.1 C.2.2.2.2.2.2.2.1 hP a 3 (by rw [mW_at G S (kd_lt (by omega)), cellE_r hk (by decide)]) rfl (in_of hx hj (ln_small a)) hd ?_
  show W p G.1 _ _ s m args below meth c H locs 0 0 _ (F0 m (pc + 1) ls (rv G (rf a x.toNatClampNeg) :: st))
  rw [e, hb]
  exact k _ _ _ _ _ _ _ _ _ _ _ _ C hl hP hD hS
theorem r_aald10 {a j b : Nat} {x : Int32} (hk : kd a = 10) (hx : x = nI j) (hj : j < ln a) (hb : rf a j = b) (hd : decode M.2.1 pc = .ok (.aaload, 1)) (k : At G d M Q (pc + 1) lo (rv G b :: st) S) : At G d M Q pc lo (.int x :: rv G a :: st) S := by
  intro p e s m args below meth c A H locs ls C hl hP hD hS
  have e : x.toNatClampNeg = j := by rw [hx]; exact nI_clamp (by have := ln_small a; omega)
  refine va_aldq (D := G.2.1) (tys := mTy G) C.1 C.2.1 C.2.2.2.2.2.2.2.1 hP a 4 (by rw [mW_at G S (kd_lt (by omega)), cellE_r hk (by decide)]) rfl (in_of hx hj (ln_small a)) hd ?_
  show W p G.1 _ _ s m args below meth c H locs 0 0 _ (F0 m (pc + 1) ls (rv G (rf a x.toNatClampNeg) :: st))
  rw [e, hb]
  exact k _ _ _ _ _ _ _ _ _ _ _ _ C hl hP hD hS
theorem r_copy {a b sp dp n i : Nat} {x y z : Int32} (hka : kd a = 6) (hkb : kd b = 6) (hx : x = nI sp) (hy : y = nI dp) (hz : z = nI n) (h1 : sp + n ≤ ln a) (h2 : dp + n ≤ ln b) (hl1 : Cond.methodLink M.1.cls i arraycopyName ∈ gtbl) (hr : (st.map fun v => v.category).sum = 0) (hd0 : 4 ≤ d) (hd : decode M.2.1 pc = .ok (.invokestatic i, 3)) (k : At G d M Q (pc + 3) lo st (up1 S b (va_cpy (S a) (S b) sp dp n))) : At G d M Q pc lo (.int z :: .int y :: rv G b :: .int x :: rv G a :: st) S := by
  intro p e s m args below meth c A H locs ls C hl hP hD hS
  have sa := ln_small a
  have sb := ln_small b
  have e1 : x.toNatClampNeg = sp := by rw [hx]; exact nI_clamp (by omega)
  have e2 : y.toNatClampNeg = dp := by rw [hy]; exact nI_clamp (by omega)
  have e3 : z.toNatClampNeg = n := by rw [hz]; exact nI_clamp (by omega)
  have ha : a < 199 := kd_lt (by omega)
  have hb : b < 199 := kd_lt (by omega)
  refine va_copyi (D := G.2.1) (tys := mTy G) (ty := .int) C.1 C.2.1 (C.2.2.1.trans hl.1.symm) C.2.2.2.2.1 (C.2.2.2.2.2.1 _ (List.mem_cons_of_mem _ hl1)) (C.2.2.2.2.2.1 _ (List.mem_cons_of_mem _ cp_nat)) (C.2.2.2.2.2.1 _ (List.mem_cons_of_mem _ cp_sta)) (C.2.2.2.2.2.1 _ (List.mem_cons_of_mem _ cp_ini)) C.2.2.2.2.2.2.2.1 hP hD hS a b 0 0 (by rw [mW_at G S ha, cellE_i hka (by decide) (by decide)]) (by rw [mW_at G S hb, cellE_i hkb (by decide) (by decide)]) rfl rfl rfl (by rw [hx]; exact nI_pos (by omega)) (by rw [hy]; exact nI_pos (by omega)) (by rw [hz]; exact nI_pos (by omega)) (by rw [e1, e3]; exact h1) (by rw [e2, e3]; exact h2) (fun _ _ => rfl) (show 1 ≤ d by omega) (show _ ≤ 30 * d by rw [hr]; exact cp_words hd0) hd (fun H1 locs1 hP hD hS => ?_)
  have e4 : (Sum.inl (G.2.2.1 6, ln b, Sum.inl (va_cpy (S a) (S b) x.toNatClampNeg y.toNatClampNeg z.toNatClampNeg)) : va_E) = cellE G (up1 S b (va_cpy (S a) (S b) sp dp n)) b := by rw [cellE_i hkb (by decide) (by decide), up1_s, e1, e2, e3]
  rw [e4, mW_set G hb (fun b hb => up1_n hb)] at hP hD
  exact k _ _ _ _ _ _ _ _ _ _ _ _ C hl hP hD hS
theorem r_zret {v : Int32} {ty : FieldType} (hr : M.2.2.2 = some ty) (hn : narrow ty (.int v) = .int v) (hd : decode M.2.1 pc = .ok (.ireturn, 1)) (hq : Q (some v) S) : At G d M Q pc lo [.int v] S := by
  intro p e s m args below meth c A H locs ls C hl hP hD hS
  refine W.zret (ty := ty) C.1 C.2.1 (C.2.2.2.1.trans hr) hn (fun t ht hW => ?_) hS.2.2 hd C.2.2.2.2.2.2.1
  unfold mPost
  rw [hr]
  exact ⟨⟨v, S, rfl, hq, by rw [ht]; exact hP, va_K.moved hW.alike C.2.2.2.2.2.2.2.1, hD⟩, hS.F ht⟩
theorem r_iret {v : Int32} (hr : M.2.2.2 = some .int) (hd : decode M.2.1 pc = .ok (.ireturn, 1)) (hq : Q (some v) S) : At G d M Q pc lo [.int v] S := r_zret hr rfl hd hq
theorem r_vret (hr : M.2.2.2 = none) (hd : decode M.2.1 pc = .ok (.return_, 1)) (hq : Q none S) : At G d M Q pc lo [] S := by
  intro p e s m args below meth c A H locs ls C hl hP hD hS
  refine W.vret C.1 C.2.1 (C.2.2.2.1.trans hr) (fun t ht hW => ?_) hS.2.2 hd C.2.2.2.2.2.2.1
  unfold mPost
  rw [hr]
  exact ⟨⟨S, rfl, hq, by rw [ht]; exact hP, va_K.moved hW.alike C.2.2.2.2.2.2.2.1, hD⟩, hS.F ht⟩
/-- what the tables say of a method that is called -/
def CM (M' : mM) (n : Nat) : Prop := (Cond.code M'.1 M'.2.1 M'.2.2.1 M'.2.2.2 ∈ gtbl ∧ Cond.initialized M'.1.cls ∈ gtbl ∧ M'.2.2.1 ≤ 11) ∧ M'.1.cls ≠ "java/lang/invoke/MethodHandle" ∧ M'.1.cls ≠ "java/lang/invoke/VarHandle" ∧ (parseMethodDescriptor M'.1.desc).map (fun d => d.parameters.length) = some n
def CV (M' : mM) (ci n : Nat) : Prop := CM M' n ∧ (ci < 6 ∧ M'.1.cls = fR ci) ∧ Cond.instanceMethod M'.1 ∈ gtbl ∧ Cond.selects M'.1.cls M'.1 M'.1 ∈ gtbl
def CS (M' : mM) (n : Nat) : Prop := CM M' n ∧ Cond.static M'.1 ∈ gtbl
def ML (own : String) (i : Nat) (M' : mM) : Prop := Cond.methodLink own i M'.1 ∈ gtbl
theorem gi_tbl {big : List Cond} (hb : ∀ w ∈ gtbl, w ∈ big) {w : Cond} (h : w ∈ gtbl) : w ∈ big ∧ ((w.onTables && w.keeps) = true ∨ ∃ ty, w = .arrayClass ty) := ⟨hb w h, good_of_word (tbl_good h)⟩
theorem gi_ws {big : List Cond} (hb : ∀ w ∈ gtbl, w ∈ big) {M' : mM} {n : Nat} (h : CM M' n) : GoodIn big (mWs M') := by
  intro w hw
  rcases List.mem_cons.mp hw with rfl | hw
  · exact gi_tbl hb h.1.1
  · exact gi_tbl hb hw
theorem gi_V {big : List Cond} (hb : ∀ w ∈ gtbl, w ∈ big) {M' : mM} {own : String} {i ci n : Nat} (h : CV M' ci n) (hl : ML own i M') : GoodIn big (wsV own i M'.1.cls M'.1 (mWs M')) := by
  intro w hw
  rcases List.mem_append.mp hw with hw | hw
  · simp only [List.mem_cons, List.not_mem_nil, or_false] at hw
    rcases hw with rfl | rfl | rfl | rfl
    · exact gi_tbl hb hl
    · exact gi_tbl hb h.2.2.1
    · exact gi_tbl hb h.2.2.2
    · exact gi_tbl hb h.1.1.2.1
  · exact gi_ws hb h.1 w hw
theorem gi_S {big : List Cond} (hb : ∀ w ∈ gtbl, w ∈ big) {M' : mM} {own : String} {i n : Nat} (h : CS M' n) (hl : ML own i M') : GoodIn big (va_wsS own i M'.1 (mWs M')) := by
  intro w hw
  rcases List.mem_append.mp hw with hw | hw
  · simp only [List.mem_cons, List.not_mem_nil, or_false] at hw
    rcases hw with rfl | rfl | rfl
    · exact gi_tbl hb hl
    · exact gi_tbl hb h.2
    · exact gi_tbl hb h.1.1.2.1
  · exact gi_ws hb h.1 w hw
theorem room_ok {d k : Nat} (h : k ≤ 11) : (mRm d).frames + 1 ≤ (mRm (d + 1)).frames ∧ 8 + (k + 11) + (mRm d).locals ≤ (mRm (d + 1)).locals := by
  refine ⟨Nat.le_refl _, ?_⟩
  show 8 + (k + 11) + 30 * d ≤ 30 * (d + 1)
  omega
theorem blindC {av : List Value} {S' : mS} {sz : Nat} : FrameBlind (va_Pc av (fun U => U.heap.size = sz ∧ va_P G.2.1 mcl (mW G S') U.heap ∧ va_K G.2.1 mcl (mTy G) U ∧ va_D (fun _ => True) (mW G S'))) := fun a U g mk q => by
  obtain ⟨q0, q1, qP, qK, qD⟩ := q
  exact ⟨q0, q1, qP, va_K.moved (u := U) (U := U.calling g mk a) (Vm.Alike.refl U.vm) qK, qD⟩
theorem freeC {A : Nat → Prop} {S : mS} {H0 H : Heap} {locs : List Loc} (hD : va_D A (mW G S)) (hS : va_S A H0 H locs) (hA : ∀ q, H0.size ≤ q → A q) : ∀ q, va_A (mW G S) H.size q → A q := by
  intro q h
  rcases h with ⟨k, e, h⟩ | h
  · exact hD.2 k (q, e) h
  · exact hA q (Nat.le_trans hS.1 h)
theorem apartC {A B : Nat → Prop} {S u : mS} (hD : va_D A (mW G S)) (hu : va_D B (mW G u)) : va_D A (mW G u) := by
  refine ⟨hu.1, fun k q hk => ?_⟩
  have hk9 : k < 199 := by
    have := (List.getElem?_eq_some_iff.mp hk).1
    simpa [mW] using this
  rw [mW_at G u hk9] at hk
  cases hk
  have h9 := hD.2 k _ (mW_at G S hk9)
  exact h9
theorem r_callVi {M' : mM} {As rest : List Value} {Qc : Option Int32 → mS → Prop} {ci a n i : Nat} (hc : CV M' ci n) (hk : kd a = ci) (hl1 : ML M.1.cls i M') {ty : FieldType} (hr : M'.2.2.2 = some ty) (hst : st = As.reverse ++ rv G a :: rest) (hn : As.length = n) (hW : (rest.map fun v => v.category).sum ≤ 8) (hd : decode M.2.1 pc = .ok (.invokevirtual i, 3)) (hcall : Call G d M' (rv G a :: As) S Qc) (k : ∀ r u, Qc (some r) u → At G (d + 1) M Q (pc + 3) lo (.int r :: rest) u) : At G (d + 1) M Q pc lo st S := by
  intro p e s m args below meth c A H locs ls C hl hP hD hS
  subst hst
  have hKK := C.2.2.2.2.2.2.2.1
  have hM := hcall H.size
  have hF := freeC (G := G) hD hS C.2.2.2.2.2.2.2.2
  have e0 : mPost G M' Qc (va_A (mW G S) H.size) = va_Qi (fun r u => Qc (some r) u) (mBh G (va_A (mW G S) H.size)) (va_A (mW G S) H.size) := by unfold mPost; rw [hr]
  rw [e0] at hM
  have hbl := blindC (G := G) (av := rv G a :: As) (S' := S) (sz := H.size)
  refine va_calli (A1 := va_A (mW G S) H.size) (va_runV (R := mRm (d + 1)) (As := As) (rest := rest) ⟨C.1, C.2.1, C.2.2.1, C.2.2.2.2.1, C.2.2.2.2.2.1⟩ hM (cwV n C.2.2.2.2.2.1 (gi_V (fun w hw => List.mem_cons_of_mem _ hw) hc hl1) rfl rfl rfl ⟨rfl, hc.1.2⟩ (room_ok hc.1.1.2.2)) ⟨hbl, by rw [hc.2.1.2]; exact va_recv (D := G.2.1) hKK hP (cls_at ci hc.2.1.1) (hasO hk hc.2.1.1), fun U hU hW => ⟨rfl, by rw [hU], by rw [hU]; exact hP, va_K.moved hW.alike hKK, hD.weaken (fun _ _ _ _ => trivial)⟩⟩ rfl hn hl.1 rfl (lv_room hW) hd ⟨Nat.le_refl 0, Nat.le_refl 0⟩) hS (fun q _ h => hF q h) hF (fun r u t H1 locs1 ht hvm hw hB hz1 hk1 hS1 => ?_)
  obtain ⟨hP1, hK1, hD1⟩ := hB
  rw [ht] at hP1
  exact k r u hw _ _ _ _ _ _ _ _ _ _ _ _ C hl hP1 (apartC hD hD1) hS1
theorem r_callVv {M' : mM} {As rest : List Value} {Qc : Option Int32 → mS → Prop} {ci a n i : Nat} (hc : CV M' ci n) (hk : kd a = ci) (hl1 : ML M.1.cls i M') (hr : M'.2.2.2 = none) (hst : st = As.reverse ++ rv G a :: rest) (hn : As.length = n) (hW : (rest.map fun v => v.category).sum ≤ 8) (hd : decode M.2.1 pc = .ok (.invokevirtual i, 3)) (hcall : Call G d M' (rv G a :: As) S Qc) (k : ∀ u, Qc none u → At G (d + 1) M Q (pc + 3) lo rest u) : At G (d + 1) M Q pc lo st S := by
  intro p e s m args below meth c A H locs ls C hl hP hD hS
  subst hst
  have hKK := C.2.2.2.2.2.2.2.1
  have hM := hcall H.size
  have hF := freeC (G := G) hD hS C.2.2.2.2.2.2.2.2
  have e0 : mPost G M' Qc (va_A (mW G S) H.size) = va_Qv (fun u => Qc none u) (mBh G (va_A (mW G S) H.size)) (va_A (mW G S) H.size) := by unfold mPost; rw [hr]
  rw [e0] at hM
  have hbl := blindC (G := G) (av := rv G a :: As) (S' := S) (sz := H.size)
  refine va_callv (A1 := va_A (mW G S) H.size) (va_runV (R := mRm (d + 1)) (As := As) (rest := rest) ⟨C.1, C.2.1, C.2.2.1, C.2.2.2.2.1, C.2.2.2.2.2.1⟩ hM (cwV n C.2.2.2.2.2.1 (gi_V (fun w hw => List.mem_cons_of_mem _ hw) hc hl1) rfl rfl rfl ⟨rfl, hc.1.2⟩ (room_ok hc.1.1.2.2)) ⟨hbl, by rw [hc.2.1.2]; exact va_recv (D := G.2.1) hKK hP (cls_at ci hc.2.1.1) (hasO hk hc.2.1.1), fun U hU hW => ⟨rfl, by rw [hU], by rw [hU]; exact hP, va_K.moved hW.alike hKK, hD.weaken (fun _ _ _ _ => trivial)⟩⟩ rfl hn hl.1 rfl (lv_room hW) hd ⟨Nat.le_refl 0, Nat.le_refl 0⟩) hS (fun q _ h => hF q h) hF (fun u t H1 locs1 ht hvm hw hB hz1 hk1 hS1 => ?_)
  obtain ⟨hP1, hK1, hD1⟩ := hB
  rw [ht] at hP1
  exact k u hw _ _ _ _ _ _ _ _ _ _ _ _ C hl hP1 (apartC hD hD1) hS1
theorem r_callSi {M' : mM} {As rest : List Value} {Qc : Option Int32 → mS → Prop} {n i : Nat} (hc : CS M' n) (hl1 : ML M.1.cls i M') {ty : FieldType} (hr : M'.2.2.2 = some ty) (hst : st = As.reverse ++ rest) (hn : As.length = n) (hW : (rest.map fun v => v.category).sum ≤ 8) (hd : decode M.2.1 pc = .ok (.invokestatic i, 3)) (hcall : Call G d M' (As) S Qc) (k : ∀ r u, Qc (some r) u → At G (d + 1) M Q (pc + 3) lo (.int r :: rest) u) : At G (d + 1) M Q pc lo st S := by
  intro p e s m args below meth c A H locs ls C hl hP hD hS
  subst hst
  have hKK := C.2.2.2.2.2.2.2.1
  have hM := hcall H.size
  have hF := freeC (G := G) hD hS C.2.2.2.2.2.2.2.2
  have e0 : mPost G M' Qc (va_A (mW G S) H.size) = va_Qi (fun r u => Qc (some r) u) (mBh G (va_A (mW G S) H.size)) (va_A (mW G S) H.size) := by unfold mPost; rw [hr]
  rw [e0] at hM
  have hbl := blindC (G := G) (av := As) (S' := S) (sz := H.size)
  refine va_calli (A1 := va_A (mW G S) H.size) (va_runS (R := mRm (d + 1)) (As := As) (rest := rest) ⟨C.1, C.2.1, C.2.2.1, C.2.2.2.2.1, C.2.2.2.2.2.1⟩ hM (va_cwS n C.2.2.2.2.2.1 (gi_S (fun w hw => List.mem_cons_of_mem _ hw) hc hl1) rfl rfl rfl hc.1.2 (room_ok hc.1.1.2.2)) ⟨hbl, fun U hU hW => ⟨rfl, by rw [hU], by rw [hU]; exact hP, va_K.moved hW.alike hKK, hD.weaken (fun _ _ _ _ => trivial)⟩⟩ rfl hn hl.1 rfl (lv_room hW) hd ⟨Nat.le_refl 0, Nat.le_refl 0⟩) hS (fun q _ h => hF q h) hF (fun r u t H1 locs1 ht hvm hw hB hz1 hk1 hS1 => ?_)
  obtain ⟨hP1, hK1, hD1⟩ := hB
  rw [ht] at hP1
  exact k r u hw _ _ _ _ _ _ _ _ _ _ _ _ C hl hP1 (apartC hD hD1) hS1
theorem r_callSv {M' : mM} {As rest : List Value} {Qc : Option Int32 → mS → Prop} {n i : Nat} (hc : CS M' n) (hl1 : ML M.1.cls i M') (hr : M'.2.2.2 = none) (hst : st = As.reverse ++ rest) (hn : As.length = n) (hW : (rest.map fun v => v.category).sum ≤ 8) (hd : decode M.2.1 pc = .ok (.invokestatic i, 3)) (hcall : Call G d M' (As) S Qc) (k : ∀ u, Qc none u → At G (d + 1) M Q (pc + 3) lo rest u) : At G (d + 1) M Q pc lo st S := by
  intro p e s m args below meth c A H locs ls C hl hP hD hS
  subst hst
  have hKK := C.2.2.2.2.2.2.2.1
  have hM := hcall H.size
  have hF := freeC (G := G) hD hS C.2.2.2.2.2.2.2.2
  have e0 : mPost G M' Qc (va_A (mW G S) H.size) = va_Qv (fun u => Qc none u) (mBh G (va_A (mW G S) H.size)) (va_A (mW G S) H.size) := by unfold mPost; rw [hr]
  rw [e0] at hM
  have hbl := blindC (G := G) (av := As) (S' := S) (sz := H.size)
  refine va_callv (A1 := va_A (mW G S) H.size) (va_runS (R := mRm (d + 1)) (As := As) (rest := rest) ⟨C.1, C.2.1, C.2.2.1, C.2.2.2.2.1, C.2.2.2.2.2.1⟩ hM (va_cwS n C.2.2.2.2.2.1 (gi_S (fun w hw => List.mem_cons_of_mem _ hw) hc hl1) rfl rfl rfl hc.1.2 (room_ok hc.1.1.2.2)) ⟨hbl, fun U hU hW => ⟨rfl, by rw [hU], by rw [hU]; exact hP, va_K.moved hW.alike hKK, hD.weaken (fun _ _ _ _ => trivial)⟩⟩ rfl hn hl.1 rfl (lv_room hW) hd ⟨Nat.le_refl 0, Nat.le_refl 0⟩) hS (fun q _ h => hF q h) hF (fun u t H1 locs1 ht hvm hw hB hz1 hk1 hS1 => ?_)
  obtain ⟨hP1, hK1, hD1⟩ := hB
  rw [ht] at hP1
  exact k u hw _ _ _ _ _ _ _ _ _ _ _ _ C hl hP1 (apartC hD hD1) hS1
theorem r_callViF {M' : mM} {As rest : List Value} {x : Int32} {S2 : mS} {ci a n i : Nat} (hc : CV M' ci n) (hk : kd a = ci) (hl1 : ML M.1.cls i M') {ty : FieldType} (hr : M'.2.2.2 = some ty) (hst : st = As.reverse ++ rv G a :: rest) (hn : As.length = n) (hW : (rest.map fun v => v.category).sum ≤ 8) (hd : decode M.2.1 pc = .ok (.invokevirtual i, 3)) (hcall : Call G d M' (rv G a :: As) S (fun v u => v = some x ∧ u = S2)) (k : At G (d + 1) M Q (pc + 3) lo (.int x :: rest) S2) : At G (d + 1) M Q pc lo st S :=
  r_callVi hc hk hl1 hr hst hn hW hd hcall (fun r u h => by obtain ⟨h1, rfl⟩ := h; cases h1; exact k)
theorem r_callVvF {M' : mM} {As rest : List Value} {S2 : mS} {ci a n i : Nat} (hc : CV M' ci n) (hk : kd a = ci) (hl1 : ML M.1.cls i M') (hr : M'.2.2.2 = none) (hst : st = As.reverse ++ rv G a :: rest) (hn : As.length = n) (hW : (rest.map fun v => v.category).sum ≤ 8) (hd : decode M.2.1 pc = .ok (.invokevirtual i, 3)) (hcall : Call G d M' (rv G a :: As) S (fun v u => v = none ∧ u = S2)) (k : At G (d + 1) M Q (pc + 3) lo rest S2) : At G (d + 1) M Q pc lo st S :=
  r_callVv hc hk hl1 hr hst hn hW hd hcall (fun u h => by obtain ⟨-, rfl⟩ := h; exact k)
theorem r_callSiF {M' : mM} {As rest : List Value} {x : Int32} {S2 : mS} {n i : Nat} (hc : CS M' n) (hl1 : ML M.1.cls i M') {ty : FieldType} (hr : M'.2.2.2 = some ty) (hst : st = As.reverse ++ rest) (hn : As.length = n) (hW : (rest.map fun v => v.category).sum ≤ 8) (hd : decode M.2.1 pc = .ok (.invokestatic i, 3)) (hcall : Call G d M' (As) S (fun v u => v = some x ∧ u = S2)) (k : At G (d + 1) M Q (pc + 3) lo (.int x :: rest) S2) : At G (d + 1) M Q pc lo st S :=
  r_callSi hc hl1 hr hst hn hW hd hcall (fun r u h => by obtain ⟨h1, rfl⟩ := h; cases h1; exact k)
theorem r_callSvF {M' : mM} {As rest : List Value} {S2 : mS} {n i : Nat} (hc : CS M' n) (hl1 : ML M.1.cls i M') (hr : M'.2.2.2 = none) (hst : st = As.reverse ++ rest) (hn : As.length = n) (hW : (rest.map fun v => v.category).sum ≤ 8) (hd : decode M.2.1 pc = .ok (.invokestatic i, 3)) (hcall : Call G d M' (As) S (fun v u => v = none ∧ u = S2)) (k : At G (d + 1) M Q (pc + 3) lo rest S2) : At G (d + 1) M Q pc lo st S :=
  r_callSv hc hl1 hr hst hn hW hd hcall (fun u h => by obtain ⟨-, rfl⟩ := h; exact k)
end ROWS
end
section
theorem l_L_9 : ML RL 9 M_X4_init := mem_g 56 (by decide +kernel) rfl
theorem l_X4_9 : ML RX4 9 M_X2_init := mem_g 64 (by decide +kernel) rfl
theorem l_X2_21 : ML RX2 21 M_X3_init := mem_g 71 (by decide +kernel) rfl
theorem f_X3_18 : FL RX3 18 3 0 := ⟨⟨by decide, by decide⟩, mem_g 75 (by decide +kernel) rfl⟩
theorem f_X4_133 : FL RX4 133 3 0 := ⟨⟨by decide, by decide⟩, mem_g 76 (by decide +kernel) rfl⟩
theorem f_X3_22 : FL RX3 22 3 1 := ⟨⟨by decide, by decide⟩, mem_g 77 (by decide +kernel) rfl⟩
theorem f_X4_109 : FL RX4 109 3 1 := ⟨⟨by decide, by decide⟩, mem_g 78 (by decide +kernel) rfl⟩
theorem f_X3_25 : FL RX3 25 3 2 := ⟨⟨by decide, by decide⟩, mem_g 79 (by decide +kernel) rfl⟩
theorem f_X4_136 : FL RX4 136 3 2 := ⟨⟨by decide, by decide⟩, mem_g 80 (by decide +kernel) rfl⟩
theorem f_X3_28 : FL RX3 28 3 3 := ⟨⟨by decide, by decide⟩, mem_g 81 (by decide +kernel) rfl⟩
theorem f_X4_145 : FL RX4 145 3 3 := ⟨⟨by decide, by decide⟩, mem_g 82 (by decide +kernel) rfl⟩
theorem f_X3_31 : FL RX3 31 3 4 := ⟨⟨by decide, by decide⟩, mem_g 83 (by decide +kernel) rfl⟩
theorem f_X4_148 : FL RX4 148 3 4 := ⟨⟨by decide, by decide⟩, mem_g 84 (by decide +kernel) rfl⟩
theorem f_X3_34 : FL RX3 34 3 5 := ⟨⟨by decide, by decide⟩, mem_g 85 (by decide +kernel) rfl⟩
theorem f_X2_45 : FL RX2 45 3 5 := ⟨⟨by decide, by decide⟩, mem_g 86 (by decide +kernel) rfl⟩
theorem f_X4_151 : FL RX4 151 3 5 := ⟨⟨by decide, by decide⟩, mem_g 87 (by decide +kernel) rfl⟩
theorem f_X3_37 : FL RX3 37 3 6 := ⟨⟨by decide, by decide⟩, mem_g 88 (by decide +kernel) rfl⟩
theorem f_X2_54 : FL RX2 54 3 6 := ⟨⟨by decide, by decide⟩, mem_g 89 (by decide +kernel) rfl⟩
theorem f_X4_154 : FL RX4 154 3 6 := ⟨⟨by decide, by decide⟩, mem_g 90 (by decide +kernel) rfl⟩
theorem f_X3_40 : FL RX3 40 3 7 := ⟨⟨by decide, by decide⟩, mem_g 91 (by decide +kernel) rfl⟩
theorem f_X4_157 : FL RX4 157 3 7 := ⟨⟨by decide, by decide⟩, mem_g 92 (by decide +kernel) rfl⟩
theorem f_X3_43 : FL RX3 43 3 8 := ⟨⟨by decide, by decide⟩, mem_g 93 (by decide +kernel) rfl⟩
theorem f_X2_42 : FL RX2 42 3 8 := ⟨⟨by decide, by decide⟩, mem_g 94 (by decide +kernel) rfl⟩
theorem f_X4_139 : FL RX4 139 3 8 := ⟨⟨by decide, by decide⟩, mem_g 95 (by decide +kernel) rfl⟩
theorem f_X3_46 : FL RX3 46 3 9 := ⟨⟨by decide, by decide⟩, mem_g 96 (by decide +kernel) rfl⟩
theorem f_X4_160 : FL RX4 160 3 9 := ⟨⟨by decide, by decide⟩, mem_g 97 (by decide +kernel) rfl⟩
theorem f_X3_9 : FL RX3 9 3 10 := ⟨⟨by decide, by decide⟩, mem_g 98 (by decide +kernel) rfl⟩
theorem f_X4_82 : FL RX4 82 3 10 := ⟨⟨by decide, by decide⟩, mem_g 99 (by decide +kernel) rfl⟩
theorem f_X3_15 : FL RX3 15 3 11 := ⟨⟨by decide, by decide⟩, mem_g 100 (by decide +kernel) rfl⟩
theorem f_X4_166 : FL RX4 166 3 11 := ⟨⟨by decide, by decide⟩, mem_g 101 (by decide +kernel) rfl⟩
theorem f_X2_9 : FL RX2 9 2 0 := ⟨⟨by decide, by decide⟩, mem_g 128 (by decide +kernel) rfl⟩
theorem f_X4_49 : FL RX4 49 2 0 := ⟨⟨by decide, by decide⟩, mem_g 129 (by decide +kernel) rfl⟩
theorem f_X2_17 : FL RX2 17 2 1 := ⟨⟨by decide, by decide⟩, mem_g 130 (by decide +kernel) rfl⟩
theorem f_X4_75 : FL RX4 75 2 1 := ⟨⟨by decide, by decide⟩, mem_g 131 (by decide +kernel) rfl⟩
theorem f_X2_28 : FL RX2 28 2 2 := ⟨⟨by decide, by decide⟩, mem_g 132 (by decide +kernel) rfl⟩
theorem f_X4_99 : FL RX4 99 2 2 := ⟨⟨by decide, by decide⟩, mem_g 133 (by decide +kernel) rfl⟩
theorem f_X2_32 : FL RX2 32 2 3 := ⟨⟨by decide, by decide⟩, mem_g 134 (by decide +kernel) rfl⟩
theorem f_X4_128 : FL RX4 128 2 3 := ⟨⟨by decide, by decide⟩, mem_g 135 (by decide +kernel) rfl⟩
theorem f_X2_35 : FL RX2 35 2 4 := ⟨⟨by decide, by decide⟩, mem_g 136 (by decide +kernel) rfl⟩
theorem f_X4_115 : FL RX4 115 2 4 := ⟨⟨by decide, by decide⟩, mem_g 137 (by decide +kernel) rfl⟩
theorem l_X4_18 : ML RX4 18 M_X0_init := mem_g 151 (by decide +kernel) rfl
theorem l_X0_17 : ML RX0 17 M_X2_init := mem_g 157 (by decide +kernel) rfl
theorem f_X0_13 : FL RX0 13 0 0 := ⟨⟨by decide, by decide⟩, mem_g 158 (by decide +kernel) rfl⟩
theorem f_X0_18 : FL RX0 18 0 1 := ⟨⟨by decide, by decide⟩, mem_g 159 (by decide +kernel) rfl⟩
theorem f_X0_22 : FL RX0 22 0 2 := ⟨⟨by decide, by decide⟩, mem_g 160 (by decide +kernel) rfl⟩
theorem f_X4_180 : FL RX4 180 0 2 := ⟨⟨by decide, by decide⟩, mem_g 161 (by decide +kernel) rfl⟩
theorem l_X4_33 : ML RX4 33 M_X1_init := mem_g 171 (by decide +kernel) rfl
theorem f_X1_9 : FL RX1 9 1 0 := ⟨⟨by decide, by decide⟩, mem_g 175 (by decide +kernel) rfl⟩
theorem f_X1_17 : FL RX1 17 1 1 := ⟨⟨by decide, by decide⟩, mem_g 176 (by decide +kernel) rfl⟩
theorem f_X4_177 : FL RX4 177 1 1 := ⟨⟨by decide, by decide⟩, mem_g 177 (by decide +kernel) rfl⟩
theorem f_X1_21 : FL RX1 21 1 2 := ⟨⟨by decide, by decide⟩, mem_g 178 (by decide +kernel) rfl⟩
theorem f_X4_204 : FL RX4 204 1 2 := ⟨⟨by decide, by decide⟩, mem_g 179 (by decide +kernel) rfl⟩
theorem f_X1_36 : FL RX1 36 1 3 := ⟨⟨by decide, by decide⟩, mem_g 180 (by decide +kernel) rfl⟩
theorem f_X4_218 : FL RX4 218 1 3 := ⟨⟨by decide, by decide⟩, mem_g 181 (by decide +kernel) rfl⟩
theorem f_X1_52 : FL RX1 52 1 4 := ⟨⟨by decide, by decide⟩, mem_g 182 (by decide +kernel) rfl⟩
theorem f_X4_225 : FL RX4 225 1 4 := ⟨⟨by decide, by decide⟩, mem_g 183 (by decide +kernel) rfl⟩
theorem f_X1_55 : FL RX1 55 1 5 := ⟨⟨by decide, by decide⟩, mem_g 184 (by decide +kernel) rfl⟩
theorem f_X4_222 : FL RX4 222 1 5 := ⟨⟨by decide, by decide⟩, mem_g 185 (by decide +kernel) rfl⟩
theorem f_X1_58 : FL RX1 58 1 6 := ⟨⟨by decide, by decide⟩, mem_g 186 (by decide +kernel) rfl⟩
theorem f_X4_228 : FL RX4 228 1 6 := ⟨⟨by decide, by decide⟩, mem_g 187 (by decide +kernel) rfl⟩
theorem l_X4_40 : ML RX4 40 M_X3_init := mem_g 206 (by decide +kernel) rfl
theorem f_X4_10 : FL RX4 10 4 0 := ⟨⟨by decide, by decide⟩, mem_g 207 (by decide +kernel) rfl⟩
theorem f_X4_19 : FL RX4 19 4 1 := ⟨⟨by decide, by decide⟩, mem_g 208 (by decide +kernel) rfl⟩
theorem f_X4_23 : FL RX4 23 4 2 := ⟨⟨by decide, by decide⟩, mem_g 209 (by decide +kernel) rfl⟩
theorem f_X4_27 : FL RX4 27 4 3 := ⟨⟨by decide, by decide⟩, mem_g 210 (by decide +kernel) rfl⟩
theorem f_X4_34 : FL RX4 34 4 4 := ⟨⟨by decide, by decide⟩, mem_g 211 (by decide +kernel) rfl⟩
theorem f_X4_41 : FL RX4 41 4 5 := ⟨⟨by decide, by decide⟩, mem_g 212 (by decide +kernel) rfl⟩
theorem l_L_13 : ML RL 13 M_X4_set := mem_g 226 (by decide +kernel) rfl
theorem l_X4_45 : ML RX4 45 M_X0_note := mem_g 230 (by decide +kernel) rfl
theorem l_X0_25 : ML RX0 25 M_X2_copyFrom := mem_g 234 (by decide +kernel) rfl
theorem l_X2_22 : Cond.methodLink RX2 22 arraycopyName ∈ gtbl := mem_g 238 (by decide +kernel) rfl
theorem l_X2_38 : ML RX2 38 M_X3_copyFrom := mem_g 241 (by decide +kernel) rfl
theorem l_X3_49 : Cond.methodLink RX3 49 arraycopyName ∈ gtbl := mem_g 245 (by decide +kernel) rfl
theorem l_X4_53 : ML RX4 53 M_X4_recorded := mem_g 246 (by decide +kernel) rfl
theorem l_X4_92 : ML RX4 92 M_X0_keepNoted := mem_g 250 (by decide +kernel) rfl
theorem l_L_18 : ML RL 18 M_X4_troop := mem_g 254 (by decide +kernel) rfl
theorem l_X4_57 : ML RX4 57 M_X4_addTroop := mem_g 258 (by decide +kernel) rfl
theorem l_X4_95 : ML RX4 95 M_X4_isSize := mem_g 262 (by decide +kernel) rfl
theorem l_X4_103 : ML RX4 103 M_X3_begin := mem_g 265 (by decide +kernel) rfl
theorem l_L_23 : ML RL 23 M_X4_resize := mem_g 269 (by decide +kernel) rfl
theorem l_X4_60 : ML RX4 60 M_X4_changeSize := mem_g 273 (by decide +kernel) rfl
theorem l_X4_106 : ML RX4 106 M_X4_isTroop := mem_g 277 (by decide +kernel) rfl
theorem l_L_27 : ML RL 27 M_X4_come := mem_g 281 (by decide +kernel) rfl
theorem l_X4_64 : ML RX4 64 M_X4_letCome := mem_g 285 (by decide +kernel) rfl
theorem l_X4_112 : ML RX4 112 M_X4_why := mem_g 289 (by decide +kernel) rfl
theorem l_X4_71 : ML RX4 71 M_X4_isScout := mem_g 293 (by decide +kernel) rfl
theorem l_X4_234 : ML RX4 234 M_X3_hasScout := mem_g 297 (by decide +kernel) rfl
theorem l_X4_79 : ML RX4 79 M_X3_howIs := mem_g 301 (by decide +kernel) rfl
theorem l_X3_59 : ML RX3 59 M_X3_isIn := mem_g 305 (by decide +kernel) rfl
theorem l_X4_118 : ML RX4 118 M_X3_takeIn := mem_g 308 (by decide +kernel) rfl
theorem l_X3_76 : ML RX3 76 M_X3_bringHome := mem_g 312 (by decide +kernel) rfl
theorem l_X3_80 : ML RX3 80 M_X3_openGate := mem_g 316 (by decide +kernel) rfl
theorem l_X3_67 : ML RX3 67 M_X3_waitedFor := mem_g 320 (by decide +kernel) rfl
theorem l_X3_63 : ML RX3 63 M_X3_everyone := mem_g 324 (by decide +kernel) rfl
theorem l_X3_86 : ML RX3 86 M_X3_beginHike := mem_g 328 (by decide +kernel) rfl
theorem l_X3_70 : ML RX3 70 M_J6_bitCount_0f7a4 := mem_g 332 (by decide +kernel) rfl
theorem k_J6_265 : KI RJ6 265 1431655765 := mem_g 335 (by decide +kernel) rfl
theorem k_J6_266 : KI RJ6 266 858993459 := mem_g 336 (by decide +kernel) rfl
theorem k_J6_267 : KI RJ6 267 252645135 := mem_g 337 (by decide +kernel) rfl
theorem l_L_32 : ML RL 32 M_X4_lose := mem_g 338 (by decide +kernel) rfl
theorem l_X4_68 : ML RX4 68 M_X4_loseScout := mem_g 342 (by decide +kernel) rfl
theorem l_X4_121 : ML RX4 121 M_X3_missScout := mem_g 346 (by decide +kernel) rfl
theorem l_X4_124 : ML RX4 124 M_X3_countDown := mem_g 350 (by decide +kernel) rfl
theorem l_L_36 : ML RL 36 M_X4_find := mem_g 354 (by decide +kernel) rfl
theorem l_X4_85 : ML RX4 85 M_X3_bringHome := mem_g 358 (by decide +kernel) rfl
theorem l_L_40 : ML RL 40 M_X4_pass := mem_g 359 (by decide +kernel) rfl
theorem l_X4_89 : ML RX4 89 M_X4_passMinutes := mem_g 363 (by decide +kernel) rfl
theorem l_X4_130 : ML RX4 130 M_X3_passMinute := mem_g 367 (by decide +kernel) rfl
theorem l_X3_83 : ML RX3 83 M_X3_walkOn := mem_g 371 (by decide +kernel) rfl
theorem l_X3_55 : ML RX3 55 M_X3_hasScout := mem_g 375 (by decide +kernel) rfl
theorem l_L_44 : ML RL 44 M_X4_ofTroop := mem_g 376 (by decide +kernel) rfl
theorem l_X4_142 : ML RX4 142 M_X3_atHome := mem_g 380 (by decide +kernel) rfl
theorem l_L_48 : ML RL 48 M_X4_of := mem_g 384 (by decide +kernel) rfl
theorem l_X4_163 : ML RX4 163 M_X3_knows := mem_g 388 (by decide +kernel) rfl
theorem l_L_52 : ML RL 52 M_X4_count := mem_g 392 (by decide +kernel) rfl
theorem l_X4_169 : ML RX4 169 M_X2_hikes := mem_g 396 (by decide +kernel) rfl
theorem l_X4_171 : ML RX4 171 M_X2_scoutsOnHikes := mem_g 400 (by decide +kernel) rfl
theorem l_X2_48 : ML RX2 48 M_J6_bitCount_0f7a4 := mem_g 404 (by decide +kernel) rfl
theorem l_X4_174 : ML RX4 174 M_X2_scoutsLost := mem_g 405 (by decide +kernel) rfl
theorem l_L_56 : ML RL 56 M_X4_why := mem_g 409 (by decide +kernel) rfl
theorem l_L_60 : ML RL 60 M_X4_waitsFor := mem_g 410 (by decide +kernel) rfl
theorem l_X4_183 : ML RX4 183 M_X3_waitedFor := mem_g 414 (by decide +kernel) rfl
theorem l_L_64 : ML RL 64 M_X4_opensIn := mem_g 415 (by decide +kernel) rfl
theorem l_X4_186 : ML RX4 186 M_X3_copyFrom := mem_g 419 (by decide +kernel) rfl
theorem l_L_68 : ML RL 68 M_X4_couldHike := mem_g 420 (by decide +kernel) rfl
theorem l_X4_190 : ML RX4 190 M_X3_canCome := mem_g 424 (by decide +kernel) rfl
theorem l_L_74 : ML RL 74 M_X4_put := mem_g 428 (by decide +kernel) rfl
theorem l_X4_193 : ML RX4 193 M_X1_charactersIn := mem_g 432 (by decide +kernel) rfl
theorem k_X1_15 : KL RX1 15 255 := mem_g 435 (by decide +kernel) rfl
theorem l_X4_197 : ML RX4 197 M_X1_addCharacters := mem_g 436 (by decide +kernel) rfl
theorem l_L_79 : ML RL 79 M_X4_wipe := mem_g 440 (by decide +kernel) rfl
theorem l_L_84 : ML RL 84 M_X4_fault := mem_g 444 (by decide +kernel) rfl
theorem l_X4_201 : ML RX4 201 M_X1_faultAt := mem_g 448 (by decide +kernel) rfl
theorem l_X1_24 : ML RX1 24 M_X1_readOrder := mem_g 452 (by decide +kernel) rfl
theorem l_X1_32 : ML RX1 32 M_X1_sign := mem_g 456 (by decide +kernel) rfl
theorem l_X1_40 : ML RX1 40 M_X1_readNumber := mem_g 460 (by decide +kernel) rfl
theorem l_X1_49 : ML RX1 49 M_X1_isDigit := mem_g 464 (by decide +kernel) rfl
theorem l_X1_43 : ML RX1 43 M_X1_readTroop := mem_g 468 (by decide +kernel) rfl
theorem l_X1_28 : ML RX1 28 M_X1_readSign := mem_g 472 (by decide +kernel) rfl
theorem l_X1_46 : ML RX1 46 M_X1_readColour := mem_g 476 (by decide +kernel) rfl
theorem l_L_88 : ML RL 88 M_X4_carryOut := mem_g 480 (by decide +kernel) rfl
theorem l_X4_207 : ML RX4 207 M_X1_readOrder := mem_g 484 (by decide +kernel) rfl
theorem l_X4_211 : ML RX4 211 M_X4_carryOrder := mem_g 485 (by decide +kernel) rfl
theorem l_X4_214 : ML RX4 214 M_X1_readSign := mem_g 489 (by decide +kernel) rfl
theorem l_L_92 : ML RL 92 M_X4_undo := mem_g 490 (by decide +kernel) rfl
theorem l_X4_229 : ML RX4 229 M_X0_takeBackInto := mem_g 494 (by decide +kernel) rfl
theorem l_L_96 : ML RL 96 M_X4_save := mem_g 498 (by decide +kernel) rfl
theorem l_X4_232 : ML RX4 232 M_X2_copyFrom := mem_g 502 (by decide +kernel) rfl
theorem l_L_100 : ML RL 100 M_X4_restore := mem_g 503 (by decide +kernel) rfl
theorem l_L_12 : ML RL 12 M_X5_init := mem_g 509 (by decide +kernel) rfl
theorem f_X5_7 : FL RX5 7 5 0 := ⟨⟨by decide, by decide⟩, mem_g 513 (by decide +kernel) rfl⟩
theorem f_X5_13 : FL RX5 13 5 1 := ⟨⟨by decide, by decide⟩, mem_g 514 (by decide +kernel) rfl⟩
theorem f_X5_16 : FL RX5 16 5 2 := ⟨⟨by decide, by decide⟩, mem_g 515 (by decide +kernel) rfl⟩
theorem f_X5_19 : FL RX5 19 5 3 := ⟨⟨by decide, by decide⟩, mem_g 516 (by decide +kernel) rfl⟩
theorem f_X5_22 : FL RX5 22 5 4 := ⟨⟨by decide, by decide⟩, mem_g 517 (by decide +kernel) rfl⟩
theorem f_X5_25 : FL RX5 25 5 5 := ⟨⟨by decide, by decide⟩, mem_g 518 (by decide +kernel) rfl⟩
theorem f_X5_55 : FL RX5 55 5 6 := ⟨⟨by decide, by decide⟩, mem_g 519 (by decide +kernel) rfl⟩
theorem f_X5_29 : FL RX5 29 5 7 := ⟨⟨by decide, by decide⟩, mem_g 520 (by decide +kernel) rfl⟩
theorem f_X5_120 : FL RX5 120 5 8 := ⟨⟨by decide, by decide⟩, mem_g 521 (by decide +kernel) rfl⟩
theorem f_X5_131 : FL RX5 131 5 9 := ⟨⟨by decide, by decide⟩, mem_g 522 (by decide +kernel) rfl⟩
theorem f_X5_32 : FL RX5 32 5 10 := ⟨⟨by decide, by decide⟩, mem_g 523 (by decide +kernel) rfl⟩
theorem l_L_95 : ML RL 95 M_X5_undo := mem_g 547 (by decide +kernel) rfl
theorem l_L_99 : ML RL 99 M_X5_save := mem_g 551 (by decide +kernel) rfl
theorem l_X5_35 : ML RX5 35 M_X5_in := mem_g 555 (by decide +kernel) rfl
theorem l_L_103 : ML RL 103 M_X5_restore := mem_g 558 (by decide +kernel) rfl
theorem l_X5_59 : ML RX5 59 M_X5_remember := mem_g 562 (by decide +kernel) rfl
theorem l_X5_62 : ML RX5 62 M_X5_record := mem_g 566 (by decide +kernel) rfl
theorem l_L_17 : ML RL 17 M_X5_set := mem_g 570 (by decide +kernel) rfl
theorem l_L_22 : ML RL 22 M_X5_troop := mem_g 574 (by decide +kernel) rfl
theorem l_X5_102 : ML RX5 102 M_X5_begins := mem_g 578 (by decide +kernel) rfl
theorem l_X5_76 : ML RX5 76 M_X5_lay := mem_g 582 (by decide +kernel) rfl
theorem l_L_26 : ML RL 26 M_X5_resize := mem_g 586 (by decide +kernel) rfl
theorem l_X5_105 : ML RX5 105 M_X5_sizes := mem_g 590 (by decide +kernel) rfl
theorem l_X5_39 : ML RX5 39 M_X5_isTroop := mem_g 594 (by decide +kernel) rfl
theorem l_X5_43 : ML RX5 43 M_X5_its := mem_g 598 (by decide +kernel) rfl
theorem l_L_31 : ML RL 31 M_X5_come := mem_g 602 (by decide +kernel) rfl
theorem l_X5_108 : ML RX5 108 M_X5_comes := mem_g 606 (by decide +kernel) rfl
theorem l_X5_90 : ML RX5 90 M_X5_why := mem_g 610 (by decide +kernel) rfl
theorem l_X5_93 : ML RX5 93 M_X5_isScout := mem_g 614 (by decide +kernel) rfl
theorem l_X5_47 : ML RX5 47 M_X5_scout := mem_g 618 (by decide +kernel) rfl
theorem l_X5_66 : ML RX5 66 M_X5_layScout := mem_g 622 (by decide +kernel) rfl
theorem l_X5_87 : ML RX5 87 M_X5_opens := mem_g 626 (by decide +kernel) rfl
theorem l_X5_84 : ML RX5 84 M_X5_opensOnce := mem_g 630 (by decide +kernel) rfl
theorem l_X5_70 : ML RX5 70 M_X5_awaited := mem_g 634 (by decide +kernel) rfl
theorem l_X5_51 : ML RX5 51 M_X5_isStruck := mem_g 638 (by decide +kernel) rfl
theorem l_X5_73 : ML RX5 73 M_X5_those := mem_g 642 (by decide +kernel) rfl
theorem l_X5_80 : ML RX5 80 M_X5_clear := mem_g 646 (by decide +kernel) rfl
theorem l_L_35 : ML RL 35 M_X5_lose := mem_g 650 (by decide +kernel) rfl
theorem l_X5_111 : ML RX5 111 M_X5_loses := mem_g 654 (by decide +kernel) rfl
theorem l_X5_96 : ML RX5 96 M_X5_size := mem_g 658 (by decide +kernel) rfl
theorem l_L_39 : ML RL 39 M_X5_find := mem_g 661 (by decide +kernel) rfl
theorem l_L_43 : ML RL 43 M_X5_pass := mem_g 665 (by decide +kernel) rfl
theorem l_X5_114 : ML RX5 114 M_X5_waits := mem_g 669 (by decide +kernel) rfl
theorem l_X5_99 : ML RX5 99 M_X5_minute := mem_g 673 (by decide +kernel) rfl
theorem l_L_47 : ML RL 47 M_X5_ofTroop := mem_g 677 (by decide +kernel) rfl
theorem l_L_51 : ML RL 51 M_X5_of := mem_g 681 (by decide +kernel) rfl
theorem l_L_55 : ML RL 55 M_X5_count := mem_g 685 (by decide +kernel) rfl
theorem l_X5_117 : ML RX5 117 M_X5_sum := mem_g 689 (by decide +kernel) rfl
theorem l_L_59 : ML RL 59 M_X5_why := mem_g 693 (by decide +kernel) rfl
theorem l_L_63 : ML RL 63 M_X5_waitsFor := mem_g 694 (by decide +kernel) rfl
theorem l_L_67 : ML RL 67 M_X5_opensIn := mem_g 698 (by decide +kernel) rfl
theorem l_X5_123 : ML RX5 123 M_X5_layAside := mem_g 702 (by decide +kernel) rfl
theorem l_X5_126 : ML RX5 126 M_X5_putBack := mem_g 706 (by decide +kernel) rfl
theorem l_L_71 : ML RL 71 M_X5_couldHike := mem_g 710 (by decide +kernel) rfl
theorem l_L_78 : ML RL 78 M_X5_put := mem_g 714 (by decide +kernel) rfl
theorem k_X5_129 : KL RX5 129 255 := mem_g 718 (by decide +kernel) rfl
theorem l_L_83 : ML RL 83 M_X5_wipe := mem_g 719 (by decide +kernel) rfl
theorem l_L_87 : ML RL 87 M_X5_fault := mem_g 723 (by decide +kernel) rfl
theorem l_X5_148 : ML RX5 148 M_X5_isWell := mem_g 727 (by decide +kernel) rfl
theorem l_X5_144 : ML RX5 144 M_X5_order := mem_g 731 (by decide +kernel) rfl
theorem l_X5_134 : ML RX5 134 M_X5_sees := mem_g 735 (by decide +kernel) rfl
theorem l_X5_141 : ML RX5 141 M_X5_behind := mem_g 739 (by decide +kernel) rfl
theorem l_X5_137 : ML RX5 137 M_X5_number := mem_g 743 (by decide +kernel) rfl
theorem l_L_91 : ML RL 91 M_X5_carryOut := mem_g 747 (by decide +kernel) rfl
theorem c_X0_note : CV M_X0_note 0 1 := ⟨⟨⟨mem_g 233 (by decide +kernel) rfl, mem_g 49 (by decide +kernel) rfl, by decide⟩, by decide +kernel, by decide +kernel, by decide +kernel⟩, ⟨by decide, rfl⟩, mem_g 231 (by decide +kernel) rfl, mem_g 232 (by decide +kernel) rfl⟩
theorem c_X0_keepNoted : CV M_X0_keepNoted 0 0 := ⟨⟨⟨mem_g 253 (by decide +kernel) rfl, mem_g 49 (by decide +kernel) rfl, by decide⟩, by decide +kernel, by decide +kernel, by decide +kernel⟩, ⟨by decide, rfl⟩, mem_g 251 (by decide +kernel) rfl, mem_g 252 (by decide +kernel) rfl⟩
theorem c_X0_takeBackInto : CV M_X0_takeBackInto 0 1 := ⟨⟨⟨mem_g 497 (by decide +kernel) rfl, mem_g 49 (by decide +kernel) rfl, by decide⟩, by decide +kernel, by decide +kernel, by decide +kernel⟩, ⟨by decide, rfl⟩, mem_g 495 (by decide +kernel) rfl, mem_g 496 (by decide +kernel) rfl⟩
theorem c_X1_charactersIn : CS M_X1_charactersIn 1 := ⟨⟨⟨mem_g 434 (by decide +kernel) rfl, mem_g 50 (by decide +kernel) rfl, by decide⟩, by decide +kernel, by decide +kernel, by decide +kernel⟩, mem_g 433 (by decide +kernel) rfl⟩
theorem c_X1_addCharacters : CV M_X1_addCharacters 1 2 := ⟨⟨⟨mem_g 439 (by decide +kernel) rfl, mem_g 50 (by decide +kernel) rfl, by decide⟩, by decide +kernel, by decide +kernel, by decide +kernel⟩, ⟨by decide, rfl⟩, mem_g 437 (by decide +kernel) rfl, mem_g 438 (by decide +kernel) rfl⟩
theorem c_X1_faultAt : CV M_X1_faultAt 1 0 := ⟨⟨⟨mem_g 451 (by decide +kernel) rfl, mem_g 50 (by decide +kernel) rfl, by decide⟩, by decide +kernel, by decide +kernel, by decide +kernel⟩, ⟨by decide, rfl⟩, mem_g 449 (by decide +kernel) rfl, mem_g 450 (by decide +kernel) rfl⟩
theorem c_X1_readOrder : CV M_X1_readOrder 1 0 := ⟨⟨⟨mem_g 455 (by decide +kernel) rfl, mem_g 50 (by decide +kernel) rfl, by decide⟩, by decide +kernel, by decide +kernel, by decide +kernel⟩, ⟨by decide, rfl⟩, mem_g 453 (by decide +kernel) rfl, mem_g 454 (by decide +kernel) rfl⟩
theorem c_X1_readSign : CV M_X1_readSign 1 1 := ⟨⟨⟨mem_g 475 (by decide +kernel) rfl, mem_g 50 (by decide +kernel) rfl, by decide⟩, by decide +kernel, by decide +kernel, by decide +kernel⟩, ⟨by decide, rfl⟩, mem_g 473 (by decide +kernel) rfl, mem_g 474 (by decide +kernel) rfl⟩
theorem c_X1_sign : CV M_X1_sign 1 0 := ⟨⟨⟨mem_g 459 (by decide +kernel) rfl, mem_g 50 (by decide +kernel) rfl, by decide⟩, by decide +kernel, by decide +kernel, by decide +kernel⟩, ⟨by decide, rfl⟩, mem_g 458 (by decide +kernel) rfl, mem_g 11 (by decide +kernel) rfl⟩
theorem c_X1_isDigit : CV M_X1_isDigit 1 0 := ⟨⟨⟨mem_g 467 (by decide +kernel) rfl, mem_g 50 (by decide +kernel) rfl, by decide⟩, by decide +kernel, by decide +kernel, by decide +kernel⟩, ⟨by decide, rfl⟩, mem_g 466 (by decide +kernel) rfl, mem_g 13 (by decide +kernel) rfl⟩
theorem c_X1_readTroop : CV M_X1_readTroop 1 0 := ⟨⟨⟨mem_g 471 (by decide +kernel) rfl, mem_g 50 (by decide +kernel) rfl, by decide⟩, by decide +kernel, by decide +kernel, by decide +kernel⟩, ⟨by decide, rfl⟩, mem_g 470 (by decide +kernel) rfl, mem_g 14 (by decide +kernel) rfl⟩
theorem c_X1_readNumber : CV M_X1_readNumber 1 0 := ⟨⟨⟨mem_g 463 (by decide +kernel) rfl, mem_g 50 (by decide +kernel) rfl, by decide⟩, by decide +kernel, by decide +kernel, by decide +kernel⟩, ⟨by decide, rfl⟩, mem_g 462 (by decide +kernel) rfl, mem_g 12 (by decide +kernel) rfl⟩
theorem c_X1_readColour : CV M_X1_readColour 1 0 := ⟨⟨⟨mem_g 479 (by decide +kernel) rfl, mem_g 50 (by decide +kernel) rfl, by decide⟩, by decide +kernel, by decide +kernel, by decide +kernel⟩, ⟨by decide, rfl⟩, mem_g 478 (by decide +kernel) rfl, mem_g 15 (by decide +kernel) rfl⟩
theorem c_X2_copyFrom : CV M_X2_copyFrom 2 1 := ⟨⟨⟨mem_g 237 (by decide +kernel) rfl, mem_g 47 (by decide +kernel) rfl, by decide⟩, by decide +kernel, by decide +kernel, by decide +kernel⟩, ⟨by decide, rfl⟩, mem_g 235 (by decide +kernel) rfl, mem_g 236 (by decide +kernel) rfl⟩
theorem c_X2_hikes : CV M_X2_hikes 2 0 := ⟨⟨⟨mem_g 399 (by decide +kernel) rfl, mem_g 47 (by decide +kernel) rfl, by decide⟩, by decide +kernel, by decide +kernel, by decide +kernel⟩, ⟨by decide, rfl⟩, mem_g 397 (by decide +kernel) rfl, mem_g 398 (by decide +kernel) rfl⟩
theorem c_X2_scoutsOnHikes : CV M_X2_scoutsOnHikes 2 0 := ⟨⟨⟨mem_g 403 (by decide +kernel) rfl, mem_g 47 (by decide +kernel) rfl, by decide⟩, by decide +kernel, by decide +kernel, by decide +kernel⟩, ⟨by decide, rfl⟩, mem_g 401 (by decide +kernel) rfl, mem_g 402 (by decide +kernel) rfl⟩
theorem c_X2_scoutsLost : CV M_X2_scoutsLost 2 0 := ⟨⟨⟨mem_g 408 (by decide +kernel) rfl, mem_g 47 (by decide +kernel) rfl, by decide⟩, by decide +kernel, by decide +kernel, by decide +kernel⟩, ⟨by decide, rfl⟩, mem_g 406 (by decide +kernel) rfl, mem_g 407 (by decide +kernel) rfl⟩
theorem c_X3_begin : CV M_X3_begin 3 1 := ⟨⟨⟨mem_g 268 (by decide +kernel) rfl, mem_g 48 (by decide +kernel) rfl, by decide⟩, by decide +kernel, by decide +kernel, by decide +kernel⟩, ⟨by decide, rfl⟩, mem_g 266 (by decide +kernel) rfl, mem_g 267 (by decide +kernel) rfl⟩
theorem c_X3_copyFrom : CV M_X3_copyFrom 3 1 := ⟨⟨⟨mem_g 244 (by decide +kernel) rfl, mem_g 48 (by decide +kernel) rfl, by decide⟩, by decide +kernel, by decide +kernel, by decide +kernel⟩, ⟨by decide, rfl⟩, mem_g 242 (by decide +kernel) rfl, mem_g 243 (by decide +kernel) rfl⟩
theorem c_X3_hasScout : CV M_X3_hasScout 3 1 := ⟨⟨⟨mem_g 300 (by decide +kernel) rfl, mem_g 48 (by decide +kernel) rfl, by decide⟩, by decide +kernel, by decide +kernel, by decide +kernel⟩, ⟨by decide, rfl⟩, mem_g 298 (by decide +kernel) rfl, mem_g 299 (by decide +kernel) rfl⟩
theorem c_X3_knows : CV M_X3_knows 3 1 := ⟨⟨⟨mem_g 391 (by decide +kernel) rfl, mem_g 48 (by decide +kernel) rfl, by decide⟩, by decide +kernel, by decide +kernel, by decide +kernel⟩, ⟨by decide, rfl⟩, mem_g 389 (by decide +kernel) rfl, mem_g 390 (by decide +kernel) rfl⟩
theorem c_X3_canCome : CV M_X3_canCome 3 1 := ⟨⟨⟨mem_g 427 (by decide +kernel) rfl, mem_g 48 (by decide +kernel) rfl, by decide⟩, by decide +kernel, by decide +kernel, by decide +kernel⟩, ⟨by decide, rfl⟩, mem_g 425 (by decide +kernel) rfl, mem_g 426 (by decide +kernel) rfl⟩
theorem c_X3_howIs : CV M_X3_howIs 3 1 := ⟨⟨⟨mem_g 304 (by decide +kernel) rfl, mem_g 48 (by decide +kernel) rfl, by decide⟩, by decide +kernel, by decide +kernel, by decide +kernel⟩, ⟨by decide, rfl⟩, mem_g 302 (by decide +kernel) rfl, mem_g 303 (by decide +kernel) rfl⟩
theorem c_X3_everyone : CV M_X3_everyone 3 0 := ⟨⟨⟨mem_g 327 (by decide +kernel) rfl, mem_g 48 (by decide +kernel) rfl, by decide⟩, by decide +kernel, by decide +kernel, by decide +kernel⟩, ⟨by decide, rfl⟩, mem_g 325 (by decide +kernel) rfl, mem_g 326 (by decide +kernel) rfl⟩
theorem c_X3_atHome : CV M_X3_atHome 3 0 := ⟨⟨⟨mem_g 383 (by decide +kernel) rfl, mem_g 48 (by decide +kernel) rfl, by decide⟩, by decide +kernel, by decide +kernel, by decide +kernel⟩, ⟨by decide, rfl⟩, mem_g 381 (by decide +kernel) rfl, mem_g 382 (by decide +kernel) rfl⟩
theorem c_X3_waitedFor : CV M_X3_waitedFor 3 0 := ⟨⟨⟨mem_g 323 (by decide +kernel) rfl, mem_g 48 (by decide +kernel) rfl, by decide⟩, by decide +kernel, by decide +kernel, by decide +kernel⟩, ⟨by decide, rfl⟩, mem_g 321 (by decide +kernel) rfl, mem_g 322 (by decide +kernel) rfl⟩
theorem c_X3_countDown : CV M_X3_countDown 3 0 := ⟨⟨⟨mem_g 353 (by decide +kernel) rfl, mem_g 48 (by decide +kernel) rfl, by decide⟩, by decide +kernel, by decide +kernel, by decide +kernel⟩, ⟨by decide, rfl⟩, mem_g 351 (by decide +kernel) rfl, mem_g 352 (by decide +kernel) rfl⟩
theorem c_X3_takeIn : CV M_X3_takeIn 3 3 := ⟨⟨⟨mem_g 311 (by decide +kernel) rfl, mem_g 48 (by decide +kernel) rfl, by decide⟩, by decide +kernel, by decide +kernel, by decide +kernel⟩, ⟨by decide, rfl⟩, mem_g 309 (by decide +kernel) rfl, mem_g 310 (by decide +kernel) rfl⟩
theorem c_X3_bringHome : CV M_X3_bringHome 3 1 := ⟨⟨⟨mem_g 315 (by decide +kernel) rfl, mem_g 48 (by decide +kernel) rfl, by decide⟩, by decide +kernel, by decide +kernel, by decide +kernel⟩, ⟨by decide, rfl⟩, mem_g 313 (by decide +kernel) rfl, mem_g 314 (by decide +kernel) rfl⟩
theorem c_X3_missScout : CV M_X3_missScout 3 1 := ⟨⟨⟨mem_g 349 (by decide +kernel) rfl, mem_g 48 (by decide +kernel) rfl, by decide⟩, by decide +kernel, by decide +kernel, by decide +kernel⟩, ⟨by decide, rfl⟩, mem_g 347 (by decide +kernel) rfl, mem_g 348 (by decide +kernel) rfl⟩
theorem c_X3_passMinute : CV M_X3_passMinute 3 2 := ⟨⟨⟨mem_g 370 (by decide +kernel) rfl, mem_g 48 (by decide +kernel) rfl, by decide⟩, by decide +kernel, by decide +kernel, by decide +kernel⟩, ⟨by decide, rfl⟩, mem_g 368 (by decide +kernel) rfl, mem_g 369 (by decide +kernel) rfl⟩
theorem c_X3_walkOn : CV M_X3_walkOn 3 1 := ⟨⟨⟨mem_g 374 (by decide +kernel) rfl, mem_g 48 (by decide +kernel) rfl, by decide⟩, by decide +kernel, by decide +kernel, by decide +kernel⟩, ⟨by decide, rfl⟩, mem_g 373 (by decide +kernel) rfl, mem_g 10 (by decide +kernel) rfl⟩
theorem c_X3_openGate : CV M_X3_openGate 3 1 := ⟨⟨⟨mem_g 319 (by decide +kernel) rfl, mem_g 48 (by decide +kernel) rfl, by decide⟩, by decide +kernel, by decide +kernel, by decide +kernel⟩, ⟨by decide, rfl⟩, mem_g 318 (by decide +kernel) rfl, mem_g 6 (by decide +kernel) rfl⟩
theorem c_X3_beginHike : CV M_X3_beginHike 3 1 := ⟨⟨⟨mem_g 331 (by decide +kernel) rfl, mem_g 48 (by decide +kernel) rfl, by decide⟩, by decide +kernel, by decide +kernel, by decide +kernel⟩, ⟨by decide, rfl⟩, mem_g 330 (by decide +kernel) rfl, mem_g 7 (by decide +kernel) rfl⟩
theorem c_X3_isIn : CS M_X3_isIn 2 := ⟨⟨⟨mem_g 307 (by decide +kernel) rfl, mem_g 48 (by decide +kernel) rfl, by decide⟩, by decide +kernel, by decide +kernel, by decide +kernel⟩, mem_g 306 (by decide +kernel) rfl⟩
theorem c_X4_set : CV M_X4_set 4 2 := ⟨⟨⟨mem_g 229 (by decide +kernel) rfl, mem_g 46 (by decide +kernel) rfl, by decide⟩, by decide +kernel, by decide +kernel, by decide +kernel⟩, ⟨by decide, rfl⟩, mem_g 227 (by decide +kernel) rfl, mem_g 228 (by decide +kernel) rfl⟩
theorem c_X4_troop : CV M_X4_troop 4 1 := ⟨⟨⟨mem_g 257 (by decide +kernel) rfl, mem_g 46 (by decide +kernel) rfl, by decide⟩, by decide +kernel, by decide +kernel, by decide +kernel⟩, ⟨by decide, rfl⟩, mem_g 255 (by decide +kernel) rfl, mem_g 256 (by decide +kernel) rfl⟩
theorem c_X4_resize : CV M_X4_resize 4 2 := ⟨⟨⟨mem_g 272 (by decide +kernel) rfl, mem_g 46 (by decide +kernel) rfl, by decide⟩, by decide +kernel, by decide +kernel, by decide +kernel⟩, ⟨by decide, rfl⟩, mem_g 270 (by decide +kernel) rfl, mem_g 271 (by decide +kernel) rfl⟩
theorem c_X4_come : CV M_X4_come 4 3 := ⟨⟨⟨mem_g 284 (by decide +kernel) rfl, mem_g 46 (by decide +kernel) rfl, by decide⟩, by decide +kernel, by decide +kernel, by decide +kernel⟩, ⟨by decide, rfl⟩, mem_g 282 (by decide +kernel) rfl, mem_g 283 (by decide +kernel) rfl⟩
theorem c_X4_lose : CV M_X4_lose 4 2 := ⟨⟨⟨mem_g 341 (by decide +kernel) rfl, mem_g 46 (by decide +kernel) rfl, by decide⟩, by decide +kernel, by decide +kernel, by decide +kernel⟩, ⟨by decide, rfl⟩, mem_g 339 (by decide +kernel) rfl, mem_g 340 (by decide +kernel) rfl⟩
theorem c_X4_find : CV M_X4_find 4 2 := ⟨⟨⟨mem_g 357 (by decide +kernel) rfl, mem_g 46 (by decide +kernel) rfl, by decide⟩, by decide +kernel, by decide +kernel, by decide +kernel⟩, ⟨by decide, rfl⟩, mem_g 355 (by decide +kernel) rfl, mem_g 356 (by decide +kernel) rfl⟩
theorem c_X4_pass : CV M_X4_pass 4 1 := ⟨⟨⟨mem_g 362 (by decide +kernel) rfl, mem_g 46 (by decide +kernel) rfl, by decide⟩, by decide +kernel, by decide +kernel, by decide +kernel⟩, ⟨by decide, rfl⟩, mem_g 360 (by decide +kernel) rfl, mem_g 361 (by decide +kernel) rfl⟩
theorem c_X4_recorded : CV M_X4_recorded 4 1 := ⟨⟨⟨mem_g 249 (by decide +kernel) rfl, mem_g 46 (by decide +kernel) rfl, by decide⟩, by decide +kernel, by decide +kernel, by decide +kernel⟩, ⟨by decide, rfl⟩, mem_g 248 (by decide +kernel) rfl, mem_g 0 (by decide +kernel) rfl⟩
theorem c_X4_addTroop : CV M_X4_addTroop 4 1 := ⟨⟨⟨mem_g 261 (by decide +kernel) rfl, mem_g 46 (by decide +kernel) rfl, by decide⟩, by decide +kernel, by decide +kernel, by decide +kernel⟩, ⟨by decide, rfl⟩, mem_g 260 (by decide +kernel) rfl, mem_g 1 (by decide +kernel) rfl⟩
theorem c_X4_changeSize : CV M_X4_changeSize 4 2 := ⟨⟨⟨mem_g 276 (by decide +kernel) rfl, mem_g 46 (by decide +kernel) rfl, by decide⟩, by decide +kernel, by decide +kernel, by decide +kernel⟩, ⟨by decide, rfl⟩, mem_g 275 (by decide +kernel) rfl, mem_g 2 (by decide +kernel) rfl⟩
theorem c_X4_letCome : CV M_X4_letCome 4 3 := ⟨⟨⟨mem_g 288 (by decide +kernel) rfl, mem_g 46 (by decide +kernel) rfl, by decide⟩, by decide +kernel, by decide +kernel, by decide +kernel⟩, ⟨by decide, rfl⟩, mem_g 287 (by decide +kernel) rfl, mem_g 4 (by decide +kernel) rfl⟩
theorem c_X4_loseScout : CV M_X4_loseScout 4 2 := ⟨⟨⟨mem_g 345 (by decide +kernel) rfl, mem_g 46 (by decide +kernel) rfl, by decide⟩, by decide +kernel, by decide +kernel, by decide +kernel⟩, ⟨by decide, rfl⟩, mem_g 344 (by decide +kernel) rfl, mem_g 8 (by decide +kernel) rfl⟩
theorem c_X4_passMinutes : CV M_X4_passMinutes 4 1 := ⟨⟨⟨mem_g 366 (by decide +kernel) rfl, mem_g 46 (by decide +kernel) rfl, by decide⟩, by decide +kernel, by decide +kernel, by decide +kernel⟩, ⟨by decide, rfl⟩, mem_g 365 (by decide +kernel) rfl, mem_g 9 (by decide +kernel) rfl⟩
theorem c_X4_ofTroop : CV M_X4_ofTroop 4 2 := ⟨⟨⟨mem_g 379 (by decide +kernel) rfl, mem_g 46 (by decide +kernel) rfl, by decide⟩, by decide +kernel, by decide +kernel, by decide +kernel⟩, ⟨by decide, rfl⟩, mem_g 377 (by decide +kernel) rfl, mem_g 378 (by decide +kernel) rfl⟩
theorem c_X4_of : CV M_X4_of 4 3 := ⟨⟨⟨mem_g 387 (by decide +kernel) rfl, mem_g 46 (by decide +kernel) rfl, by decide⟩, by decide +kernel, by decide +kernel, by decide +kernel⟩, ⟨by decide, rfl⟩, mem_g 385 (by decide +kernel) rfl, mem_g 386 (by decide +kernel) rfl⟩
theorem c_X4_count : CV M_X4_count 4 1 := ⟨⟨⟨mem_g 395 (by decide +kernel) rfl, mem_g 46 (by decide +kernel) rfl, by decide⟩, by decide +kernel, by decide +kernel, by decide +kernel⟩, ⟨by decide, rfl⟩, mem_g 393 (by decide +kernel) rfl, mem_g 394 (by decide +kernel) rfl⟩
theorem c_X4_why : CV M_X4_why 4 3 := ⟨⟨⟨mem_g 292 (by decide +kernel) rfl, mem_g 46 (by decide +kernel) rfl, by decide⟩, by decide +kernel, by decide +kernel, by decide +kernel⟩, ⟨by decide, rfl⟩, mem_g 290 (by decide +kernel) rfl, mem_g 291 (by decide +kernel) rfl⟩
theorem c_X4_waitsFor : CV M_X4_waitsFor 4 1 := ⟨⟨⟨mem_g 413 (by decide +kernel) rfl, mem_g 46 (by decide +kernel) rfl, by decide⟩, by decide +kernel, by decide +kernel, by decide +kernel⟩, ⟨by decide, rfl⟩, mem_g 411 (by decide +kernel) rfl, mem_g 412 (by decide +kernel) rfl⟩
theorem c_X4_opensIn : CV M_X4_opensIn 4 1 := ⟨⟨⟨mem_g 418 (by decide +kernel) rfl, mem_g 46 (by decide +kernel) rfl, by decide⟩, by decide +kernel, by decide +kernel, by decide +kernel⟩, ⟨by decide, rfl⟩, mem_g 416 (by decide +kernel) rfl, mem_g 417 (by decide +kernel) rfl⟩
theorem c_X4_couldHike : CV M_X4_couldHike 4 1 := ⟨⟨⟨mem_g 423 (by decide +kernel) rfl, mem_g 46 (by decide +kernel) rfl, by decide⟩, by decide +kernel, by decide +kernel, by decide +kernel⟩, ⟨by decide, rfl⟩, mem_g 421 (by decide +kernel) rfl, mem_g 422 (by decide +kernel) rfl⟩
theorem c_X4_put : CV M_X4_put 4 1 := ⟨⟨⟨mem_g 431 (by decide +kernel) rfl, mem_g 46 (by decide +kernel) rfl, by decide⟩, by decide +kernel, by decide +kernel, by decide +kernel⟩, ⟨by decide, rfl⟩, mem_g 429 (by decide +kernel) rfl, mem_g 430 (by decide +kernel) rfl⟩
theorem c_X4_wipe : CV M_X4_wipe 4 0 := ⟨⟨⟨mem_g 443 (by decide +kernel) rfl, mem_g 46 (by decide +kernel) rfl, by decide⟩, by decide +kernel, by decide +kernel, by decide +kernel⟩, ⟨by decide, rfl⟩, mem_g 441 (by decide +kernel) rfl, mem_g 442 (by decide +kernel) rfl⟩
theorem c_X4_fault : CV M_X4_fault 4 0 := ⟨⟨⟨mem_g 447 (by decide +kernel) rfl, mem_g 46 (by decide +kernel) rfl, by decide⟩, by decide +kernel, by decide +kernel, by decide +kernel⟩, ⟨by decide, rfl⟩, mem_g 445 (by decide +kernel) rfl, mem_g 446 (by decide +kernel) rfl⟩
theorem c_X4_carryOut : CV M_X4_carryOut 4 0 := ⟨⟨⟨mem_g 483 (by decide +kernel) rfl, mem_g 46 (by decide +kernel) rfl, by decide⟩, by decide +kernel, by decide +kernel, by decide +kernel⟩, ⟨by decide, rfl⟩, mem_g 481 (by decide +kernel) rfl, mem_g 482 (by decide +kernel) rfl⟩
theorem c_X4_carryOrder : CV M_X4_carryOrder 4 0 := ⟨⟨⟨mem_g 488 (by decide +kernel) rfl, mem_g 46 (by decide +kernel) rfl, by decide⟩, by decide +kernel, by decide +kernel, by decide +kernel⟩, ⟨by decide, rfl⟩, mem_g 487 (by decide +kernel) rfl, mem_g 16 (by decide +kernel) rfl⟩
theorem c_X4_undo : CV M_X4_undo 4 0 := ⟨⟨⟨mem_g 493 (by decide +kernel) rfl, mem_g 46 (by decide +kernel) rfl, by decide⟩, by decide +kernel, by decide +kernel, by decide +kernel⟩, ⟨by decide, rfl⟩, mem_g 491 (by decide +kernel) rfl, mem_g 492 (by decide +kernel) rfl⟩
theorem c_X4_save : CV M_X4_save 4 1 := ⟨⟨⟨mem_g 501 (by decide +kernel) rfl, mem_g 46 (by decide +kernel) rfl, by decide⟩, by decide +kernel, by decide +kernel, by decide +kernel⟩, ⟨by decide, rfl⟩, mem_g 499 (by decide +kernel) rfl, mem_g 500 (by decide +kernel) rfl⟩
theorem c_X4_restore : CV M_X4_restore 4 1 := ⟨⟨⟨mem_g 506 (by decide +kernel) rfl, mem_g 46 (by decide +kernel) rfl, by decide⟩, by decide +kernel, by decide +kernel, by decide +kernel⟩, ⟨by decide, rfl⟩, mem_g 504 (by decide +kernel) rfl, mem_g 505 (by decide +kernel) rfl⟩
theorem c_X4_isTroop : CV M_X4_isTroop 4 1 := ⟨⟨⟨mem_g 280 (by decide +kernel) rfl, mem_g 46 (by decide +kernel) rfl, by decide⟩, by decide +kernel, by decide +kernel, by decide +kernel⟩, ⟨by decide, rfl⟩, mem_g 279 (by decide +kernel) rfl, mem_g 3 (by decide +kernel) rfl⟩
theorem c_X4_isScout : CV M_X4_isScout 4 2 := ⟨⟨⟨mem_g 296 (by decide +kernel) rfl, mem_g 46 (by decide +kernel) rfl, by decide⟩, by decide +kernel, by decide +kernel, by decide +kernel⟩, ⟨by decide, rfl⟩, mem_g 295 (by decide +kernel) rfl, mem_g 5 (by decide +kernel) rfl⟩
theorem c_X4_isSize : CS M_X4_isSize 1 := ⟨⟨⟨mem_g 264 (by decide +kernel) rfl, mem_g 46 (by decide +kernel) rfl, by decide⟩, by decide +kernel, by decide +kernel, by decide +kernel⟩, mem_g 263 (by decide +kernel) rfl⟩
theorem c_X5_in : CS M_X5_in 3 := ⟨⟨⟨mem_g 557 (by decide +kernel) rfl, mem_g 51 (by decide +kernel) rfl, by decide⟩, by decide +kernel, by decide +kernel, by decide +kernel⟩, mem_g 556 (by decide +kernel) rfl⟩
theorem c_X5_isTroop : CV M_X5_isTroop 5 1 := ⟨⟨⟨mem_g 597 (by decide +kernel) rfl, mem_g 51 (by decide +kernel) rfl, by decide⟩, by decide +kernel, by decide +kernel, by decide +kernel⟩, ⟨by decide, rfl⟩, mem_g 596 (by decide +kernel) rfl, mem_g 22 (by decide +kernel) rfl⟩
theorem c_X5_its : CV M_X5_its 5 2 := ⟨⟨⟨mem_g 601 (by decide +kernel) rfl, mem_g 51 (by decide +kernel) rfl, by decide⟩, by decide +kernel, by decide +kernel, by decide +kernel⟩, ⟨by decide, rfl⟩, mem_g 600 (by decide +kernel) rfl, mem_g 23 (by decide +kernel) rfl⟩
theorem c_X5_lay : CV M_X5_lay 5 3 := ⟨⟨⟨mem_g 585 (by decide +kernel) rfl, mem_g 51 (by decide +kernel) rfl, by decide⟩, by decide +kernel, by decide +kernel, by decide +kernel⟩, ⟨by decide, rfl⟩, mem_g 584 (by decide +kernel) rfl, mem_g 20 (by decide +kernel) rfl⟩
theorem c_X5_scout : CV M_X5_scout 5 3 := ⟨⟨⟨mem_g 621 (by decide +kernel) rfl, mem_g 51 (by decide +kernel) rfl, by decide⟩, by decide +kernel, by decide +kernel, by decide +kernel⟩, ⟨by decide, rfl⟩, mem_g 620 (by decide +kernel) rfl, mem_g 26 (by decide +kernel) rfl⟩
theorem c_X5_layScout : CV M_X5_layScout 5 4 := ⟨⟨⟨mem_g 625 (by decide +kernel) rfl, mem_g 51 (by decide +kernel) rfl, by decide⟩, by decide +kernel, by decide +kernel, by decide +kernel⟩, ⟨by decide, rfl⟩, mem_g 624 (by decide +kernel) rfl, mem_g 27 (by decide +kernel) rfl⟩
theorem c_X5_isScout : CV M_X5_isScout 5 2 := ⟨⟨⟨mem_g 617 (by decide +kernel) rfl, mem_g 51 (by decide +kernel) rfl, by decide⟩, by decide +kernel, by decide +kernel, by decide +kernel⟩, ⟨by decide, rfl⟩, mem_g 616 (by decide +kernel) rfl, mem_g 25 (by decide +kernel) rfl⟩
theorem c_X5_isStruck : CV M_X5_isStruck 5 2 := ⟨⟨⟨mem_g 641 (by decide +kernel) rfl, mem_g 51 (by decide +kernel) rfl, by decide⟩, by decide +kernel, by decide +kernel, by decide +kernel⟩, ⟨by decide, rfl⟩, mem_g 640 (by decide +kernel) rfl, mem_g 31 (by decide +kernel) rfl⟩
theorem c_X5_those : CV M_X5_those 5 2 := ⟨⟨⟨mem_g 645 (by decide +kernel) rfl, mem_g 51 (by decide +kernel) rfl, by decide⟩, by decide +kernel, by decide +kernel, by decide +kernel⟩, ⟨by decide, rfl⟩, mem_g 644 (by decide +kernel) rfl, mem_g 32 (by decide +kernel) rfl⟩
theorem c_X5_size : CS M_X5_size 1 := ⟨⟨⟨mem_g 660 (by decide +kernel) rfl, mem_g 51 (by decide +kernel) rfl, by decide⟩, by decide +kernel, by decide +kernel, by decide +kernel⟩, mem_g 659 (by decide +kernel) rfl⟩
theorem c_X5_awaited : CV M_X5_awaited 5 1 := ⟨⟨⟨mem_g 637 (by decide +kernel) rfl, mem_g 51 (by decide +kernel) rfl, by decide⟩, by decide +kernel, by decide +kernel, by decide +kernel⟩, ⟨by decide, rfl⟩, mem_g 636 (by decide +kernel) rfl, mem_g 30 (by decide +kernel) rfl⟩
theorem c_X5_remember : CV M_X5_remember 5 0 := ⟨⟨⟨mem_g 565 (by decide +kernel) rfl, mem_g 51 (by decide +kernel) rfl, by decide⟩, by decide +kernel, by decide +kernel, by decide +kernel⟩, ⟨by decide, rfl⟩, mem_g 564 (by decide +kernel) rfl, mem_g 17 (by decide +kernel) rfl⟩
theorem c_X5_record : CV M_X5_record 5 1 := ⟨⟨⟨mem_g 569 (by decide +kernel) rfl, mem_g 51 (by decide +kernel) rfl, by decide⟩, by decide +kernel, by decide +kernel, by decide +kernel⟩, ⟨by decide, rfl⟩, mem_g 568 (by decide +kernel) rfl, mem_g 18 (by decide +kernel) rfl⟩
theorem c_X5_undo : CV M_X5_undo 5 0 := ⟨⟨⟨mem_g 550 (by decide +kernel) rfl, mem_g 51 (by decide +kernel) rfl, by decide⟩, by decide +kernel, by decide +kernel, by decide +kernel⟩, ⟨by decide, rfl⟩, mem_g 548 (by decide +kernel) rfl, mem_g 549 (by decide +kernel) rfl⟩
theorem c_X5_save : CV M_X5_save 5 1 := ⟨⟨⟨mem_g 554 (by decide +kernel) rfl, mem_g 51 (by decide +kernel) rfl, by decide⟩, by decide +kernel, by decide +kernel, by decide +kernel⟩, ⟨by decide, rfl⟩, mem_g 552 (by decide +kernel) rfl, mem_g 553 (by decide +kernel) rfl⟩
theorem c_X5_restore : CV M_X5_restore 5 1 := ⟨⟨⟨mem_g 561 (by decide +kernel) rfl, mem_g 51 (by decide +kernel) rfl, by decide⟩, by decide +kernel, by decide +kernel, by decide +kernel⟩, ⟨by decide, rfl⟩, mem_g 559 (by decide +kernel) rfl, mem_g 560 (by decide +kernel) rfl⟩
theorem c_X5_layAside : CV M_X5_layAside 5 0 := ⟨⟨⟨mem_g 705 (by decide +kernel) rfl, mem_g 51 (by decide +kernel) rfl, by decide⟩, by decide +kernel, by decide +kernel, by decide +kernel⟩, ⟨by decide, rfl⟩, mem_g 704 (by decide +kernel) rfl, mem_g 38 (by decide +kernel) rfl⟩
theorem c_X5_putBack : CV M_X5_putBack 5 0 := ⟨⟨⟨mem_g 709 (by decide +kernel) rfl, mem_g 51 (by decide +kernel) rfl, by decide⟩, by decide +kernel, by decide +kernel, by decide +kernel⟩, ⟨by decide, rfl⟩, mem_g 708 (by decide +kernel) rfl, mem_g 39 (by decide +kernel) rfl⟩
theorem c_X5_clear : CV M_X5_clear 5 2 := ⟨⟨⟨mem_g 649 (by decide +kernel) rfl, mem_g 51 (by decide +kernel) rfl, by decide⟩, by decide +kernel, by decide +kernel, by decide +kernel⟩, ⟨by decide, rfl⟩, mem_g 648 (by decide +kernel) rfl, mem_g 33 (by decide +kernel) rfl⟩
theorem c_X5_opensOnce : CV M_X5_opensOnce 5 1 := ⟨⟨⟨mem_g 633 (by decide +kernel) rfl, mem_g 51 (by decide +kernel) rfl, by decide⟩, by decide +kernel, by decide +kernel, by decide +kernel⟩, ⟨by decide, rfl⟩, mem_g 632 (by decide +kernel) rfl, mem_g 29 (by decide +kernel) rfl⟩
theorem c_X5_opens : CV M_X5_opens 5 1 := ⟨⟨⟨mem_g 629 (by decide +kernel) rfl, mem_g 51 (by decide +kernel) rfl, by decide⟩, by decide +kernel, by decide +kernel, by decide +kernel⟩, ⟨by decide, rfl⟩, mem_g 628 (by decide +kernel) rfl, mem_g 28 (by decide +kernel) rfl⟩
theorem c_X5_minute : CV M_X5_minute 5 1 := ⟨⟨⟨mem_g 676 (by decide +kernel) rfl, mem_g 51 (by decide +kernel) rfl, by decide⟩, by decide +kernel, by decide +kernel, by decide +kernel⟩, ⟨by decide, rfl⟩, mem_g 675 (by decide +kernel) rfl, mem_g 36 (by decide +kernel) rfl⟩
theorem c_X5_begins : CV M_X5_begins 5 1 := ⟨⟨⟨mem_g 581 (by decide +kernel) rfl, mem_g 51 (by decide +kernel) rfl, by decide⟩, by decide +kernel, by decide +kernel, by decide +kernel⟩, ⟨by decide, rfl⟩, mem_g 580 (by decide +kernel) rfl, mem_g 19 (by decide +kernel) rfl⟩
theorem c_X5_sizes : CV M_X5_sizes 5 2 := ⟨⟨⟨mem_g 593 (by decide +kernel) rfl, mem_g 51 (by decide +kernel) rfl, by decide⟩, by decide +kernel, by decide +kernel, by decide +kernel⟩, ⟨by decide, rfl⟩, mem_g 592 (by decide +kernel) rfl, mem_g 21 (by decide +kernel) rfl⟩
theorem c_X5_comes : CV M_X5_comes 5 3 := ⟨⟨⟨mem_g 609 (by decide +kernel) rfl, mem_g 51 (by decide +kernel) rfl, by decide⟩, by decide +kernel, by decide +kernel, by decide +kernel⟩, ⟨by decide, rfl⟩, mem_g 608 (by decide +kernel) rfl, mem_g 24 (by decide +kernel) rfl⟩
theorem c_X5_loses : CV M_X5_loses 5 2 := ⟨⟨⟨mem_g 657 (by decide +kernel) rfl, mem_g 51 (by decide +kernel) rfl, by decide⟩, by decide +kernel, by decide +kernel, by decide +kernel⟩, ⟨by decide, rfl⟩, mem_g 656 (by decide +kernel) rfl, mem_g 34 (by decide +kernel) rfl⟩
theorem c_X5_waits : CV M_X5_waits 5 1 := ⟨⟨⟨mem_g 672 (by decide +kernel) rfl, mem_g 51 (by decide +kernel) rfl, by decide⟩, by decide +kernel, by decide +kernel, by decide +kernel⟩, ⟨by decide, rfl⟩, mem_g 671 (by decide +kernel) rfl, mem_g 35 (by decide +kernel) rfl⟩
theorem c_X5_set : CV M_X5_set 5 2 := ⟨⟨⟨mem_g 573 (by decide +kernel) rfl, mem_g 51 (by decide +kernel) rfl, by decide⟩, by decide +kernel, by decide +kernel, by decide +kernel⟩, ⟨by decide, rfl⟩, mem_g 571 (by decide +kernel) rfl, mem_g 572 (by decide +kernel) rfl⟩
theorem c_X5_troop : CV M_X5_troop 5 1 := ⟨⟨⟨mem_g 577 (by decide +kernel) rfl, mem_g 51 (by decide +kernel) rfl, by decide⟩, by decide +kernel, by decide +kernel, by decide +kernel⟩, ⟨by decide, rfl⟩, mem_g 575 (by decide +kernel) rfl, mem_g 576 (by decide +kernel) rfl⟩
theorem c_X5_resize : CV M_X5_resize 5 2 := ⟨⟨⟨mem_g 589 (by decide +kernel) rfl, mem_g 51 (by decide +kernel) rfl, by decide⟩, by decide +kernel, by decide +kernel, by decide +kernel⟩, ⟨by decide, rfl⟩, mem_g 587 (by decide +kernel) rfl, mem_g 588 (by decide +kernel) rfl⟩
theorem c_X5_come : CV M_X5_come 5 3 := ⟨⟨⟨mem_g 605 (by decide +kernel) rfl, mem_g 51 (by decide +kernel) rfl, by decide⟩, by decide +kernel, by decide +kernel, by decide +kernel⟩, ⟨by decide, rfl⟩, mem_g 603 (by decide +kernel) rfl, mem_g 604 (by decide +kernel) rfl⟩
theorem c_X5_lose : CV M_X5_lose 5 2 := ⟨⟨⟨mem_g 653 (by decide +kernel) rfl, mem_g 51 (by decide +kernel) rfl, by decide⟩, by decide +kernel, by decide +kernel, by decide +kernel⟩, ⟨by decide, rfl⟩, mem_g 651 (by decide +kernel) rfl, mem_g 652 (by decide +kernel) rfl⟩
theorem c_X5_find : CV M_X5_find 5 2 := ⟨⟨⟨mem_g 664 (by decide +kernel) rfl, mem_g 51 (by decide +kernel) rfl, by decide⟩, by decide +kernel, by decide +kernel, by decide +kernel⟩, ⟨by decide, rfl⟩, mem_g 662 (by decide +kernel) rfl, mem_g 663 (by decide +kernel) rfl⟩
theorem c_X5_pass : CV M_X5_pass 5 1 := ⟨⟨⟨mem_g 668 (by decide +kernel) rfl, mem_g 51 (by decide +kernel) rfl, by decide⟩, by decide +kernel, by decide +kernel, by decide +kernel⟩, ⟨by decide, rfl⟩, mem_g 666 (by decide +kernel) rfl, mem_g 667 (by decide +kernel) rfl⟩
theorem c_X5_ofTroop : CV M_X5_ofTroop 5 2 := ⟨⟨⟨mem_g 680 (by decide +kernel) rfl, mem_g 51 (by decide +kernel) rfl, by decide⟩, by decide +kernel, by decide +kernel, by decide +kernel⟩, ⟨by decide, rfl⟩, mem_g 678 (by decide +kernel) rfl, mem_g 679 (by decide +kernel) rfl⟩
theorem c_X5_of : CV M_X5_of 5 3 := ⟨⟨⟨mem_g 684 (by decide +kernel) rfl, mem_g 51 (by decide +kernel) rfl, by decide⟩, by decide +kernel, by decide +kernel, by decide +kernel⟩, ⟨by decide, rfl⟩, mem_g 682 (by decide +kernel) rfl, mem_g 683 (by decide +kernel) rfl⟩
theorem c_X5_sum : CV M_X5_sum 5 1 := ⟨⟨⟨mem_g 692 (by decide +kernel) rfl, mem_g 51 (by decide +kernel) rfl, by decide⟩, by decide +kernel, by decide +kernel, by decide +kernel⟩, ⟨by decide, rfl⟩, mem_g 691 (by decide +kernel) rfl, mem_g 37 (by decide +kernel) rfl⟩
theorem c_X5_count : CV M_X5_count 5 1 := ⟨⟨⟨mem_g 688 (by decide +kernel) rfl, mem_g 51 (by decide +kernel) rfl, by decide⟩, by decide +kernel, by decide +kernel, by decide +kernel⟩, ⟨by decide, rfl⟩, mem_g 686 (by decide +kernel) rfl, mem_g 687 (by decide +kernel) rfl⟩
theorem c_X5_why : CV M_X5_why 5 3 := ⟨⟨⟨mem_g 613 (by decide +kernel) rfl, mem_g 51 (by decide +kernel) rfl, by decide⟩, by decide +kernel, by decide +kernel, by decide +kernel⟩, ⟨by decide, rfl⟩, mem_g 611 (by decide +kernel) rfl, mem_g 612 (by decide +kernel) rfl⟩
theorem c_X5_waitsFor : CV M_X5_waitsFor 5 1 := ⟨⟨⟨mem_g 697 (by decide +kernel) rfl, mem_g 51 (by decide +kernel) rfl, by decide⟩, by decide +kernel, by decide +kernel, by decide +kernel⟩, ⟨by decide, rfl⟩, mem_g 695 (by decide +kernel) rfl, mem_g 696 (by decide +kernel) rfl⟩
theorem c_X5_opensIn : CV M_X5_opensIn 5 1 := ⟨⟨⟨mem_g 701 (by decide +kernel) rfl, mem_g 51 (by decide +kernel) rfl, by decide⟩, by decide +kernel, by decide +kernel, by decide +kernel⟩, ⟨by decide, rfl⟩, mem_g 699 (by decide +kernel) rfl, mem_g 700 (by decide +kernel) rfl⟩
theorem c_X5_couldHike : CV M_X5_couldHike 5 1 := ⟨⟨⟨mem_g 713 (by decide +kernel) rfl, mem_g 51 (by decide +kernel) rfl, by decide⟩, by decide +kernel, by decide +kernel, by decide +kernel⟩, ⟨by decide, rfl⟩, mem_g 711 (by decide +kernel) rfl, mem_g 712 (by decide +kernel) rfl⟩
theorem c_X5_put : CV M_X5_put 5 1 := ⟨⟨⟨mem_g 717 (by decide +kernel) rfl, mem_g 51 (by decide +kernel) rfl, by decide⟩, by decide +kernel, by decide +kernel, by decide +kernel⟩, ⟨by decide, rfl⟩, mem_g 715 (by decide +kernel) rfl, mem_g 716 (by decide +kernel) rfl⟩
theorem c_X5_wipe : CV M_X5_wipe 5 0 := ⟨⟨⟨mem_g 722 (by decide +kernel) rfl, mem_g 51 (by decide +kernel) rfl, by decide⟩, by decide +kernel, by decide +kernel, by decide +kernel⟩, ⟨by decide, rfl⟩, mem_g 720 (by decide +kernel) rfl, mem_g 721 (by decide +kernel) rfl⟩
theorem c_X5_sees : CV M_X5_sees 5 2 := ⟨⟨⟨mem_g 738 (by decide +kernel) rfl, mem_g 51 (by decide +kernel) rfl, by decide⟩, by decide +kernel, by decide +kernel, by decide +kernel⟩, ⟨by decide, rfl⟩, mem_g 737 (by decide +kernel) rfl, mem_g 42 (by decide +kernel) rfl⟩
theorem c_X5_number : CV M_X5_number 5 0 := ⟨⟨⟨mem_g 746 (by decide +kernel) rfl, mem_g 51 (by decide +kernel) rfl, by decide⟩, by decide +kernel, by decide +kernel, by decide +kernel⟩, ⟨by decide, rfl⟩, mem_g 745 (by decide +kernel) rfl, mem_g 44 (by decide +kernel) rfl⟩
theorem c_X5_behind : CV M_X5_behind 5 1 := ⟨⟨⟨mem_g 742 (by decide +kernel) rfl, mem_g 51 (by decide +kernel) rfl, by decide⟩, by decide +kernel, by decide +kernel, by decide +kernel⟩, ⟨by decide, rfl⟩, mem_g 741 (by decide +kernel) rfl, mem_g 43 (by decide +kernel) rfl⟩
theorem c_X5_order : CV M_X5_order 5 1 := ⟨⟨⟨mem_g 734 (by decide +kernel) rfl, mem_g 51 (by decide +kernel) rfl, by decide⟩, by decide +kernel, by decide +kernel, by decide +kernel⟩, ⟨by decide, rfl⟩, mem_g 733 (by decide +kernel) rfl, mem_g 41 (by decide +kernel) rfl⟩
theorem c_X5_isWell : CV M_X5_isWell 5 0 := ⟨⟨⟨mem_g 730 (by decide +kernel) rfl, mem_g 51 (by decide +kernel) rfl, by decide⟩, by decide +kernel, by decide +kernel, by decide +kernel⟩, ⟨by decide, rfl⟩, mem_g 729 (by decide +kernel) rfl, mem_g 40 (by decide +kernel) rfl⟩
theorem c_X5_fault : CV M_X5_fault 5 0 := ⟨⟨⟨mem_g 726 (by decide +kernel) rfl, mem_g 51 (by decide +kernel) rfl, by decide⟩, by decide +kernel, by decide +kernel, by decide +kernel⟩, ⟨by decide, rfl⟩, mem_g 724 (by decide +kernel) rfl, mem_g 725 (by decide +kernel) rfl⟩
theorem c_X5_carryOut : CV M_X5_carryOut 5 0 := ⟨⟨⟨mem_g 750 (by decide +kernel) rfl, mem_g 51 (by decide +kernel) rfl, by decide⟩, by decide +kernel, by decide +kernel, by decide +kernel⟩, ⟨by decide, rfl⟩, mem_g 748 (by decide +kernel) rfl, mem_g 749 (by decide +kernel) rfl⟩
theorem c_J6_bitCount_0f7a4 : CS M_J6_bitCount_0f7a4 1 := ⟨⟨⟨mem_g 334 (by decide +kernel) rfl, mem_g 53 (by decide +kernel) rfl, by decide⟩, by decide +kernel, by decide +kernel, by decide +kernel⟩, mem_g 333 (by decide +kernel) rfl⟩
end
section
/-! bits of an Int32, masks, counting: (the rows up to b_sshr8 are the kit's, pasted) -/
/-! ===== Int32 by its bits: bt x i ===== -/
def bt (x : Int32) (i : Nat) : Bool := x.toBitVec.getLsbD i
theorem b_ext {x y : Int32} (h : ∀ i, i < 32 → bt x i = bt y i) : x = y := Int32.toBitVec_inj.mp (BitVec.eq_of_getLsbD_eq (fun i hi => h i hi))
theorem b_or (x y : Int32) (i : Nat) : bt (x ||| y) i = (bt x i || bt y i) := by unfold bt; rw [Int32.toBitVec_or, BitVec.getLsbD_or]
theorem b_and (x y : Int32) (i : Nat) : bt (x &&& y) i = (bt x i && bt y i) := by unfold bt; rw [Int32.toBitVec_and, BitVec.getLsbD_and]
theorem b_xor (x y : Int32) (i : Nat) : bt (x ^^^ y) i = (bt x i ^^ bt y i) := by unfold bt; rw [Int32.toBitVec_xor, BitVec.getLsbD_xor]
theorem b_big {x : Int32} {i : Nat} (h : 32 ≤ i) : bt x i = false := BitVec.getLsbD_of_ge _ _ h
theorem b_255 (i : Nat) : bt 255 i = decide (i < 8) := by
  rcases Nat.lt_or_ge i 32 with h | h
  · exact (by decide +kernel : ∀ i, i < 32 → bt 255 i = decide (i < 8)) i h
  · rw [b_big h, decide_eq_false (by omega)]
theorem b_65535 (i : Nat) : bt 65535 i = decide (i < 16) := by
  rcases Nat.lt_or_ge i 32 with h | h
  · exact (by decide +kernel : ∀ i, i < 32 → bt 65535 i = decide (i < 16)) i h
  · rw [b_big h, decide_eq_false (by omega)]
theorem b_m1 : ∀ i, i < 32 → bt (-1) i = true := by decide +kernel
theorem b_0 (i : Nat) : bt 0 i = false := BitVec.getLsbD_zero
theorem s_l : ∀ n, n < 32 → ((nI n &&& 31).toBitVec.smod 32).toNat = n := by decide +kernel
theorem s_u : ∀ n, n < 32 → (((nI n).toUInt32 &&& Int32.toUInt32 31).toBitVec % 32).toNat = n := by decide +kernel
theorem b_shl (n : Nat) (hn : n < 32) (x : Int32) {i : Nat} (hi : i < 32) : bt (x <<< (nI n &&& 31)) i = (decide (n ≤ i) && bt x (i - n)) := by
  unfold bt
  rw [Int32.toBitVec_shiftLeft]
  show (x.toBitVec <<< ((nI n &&& 31).toBitVec.smod 32).toNat).getLsbD i = _
  rw [s_l n hn, BitVec.getLsbD_shiftLeft]
  rcases Nat.lt_or_ge i n with h | h
  · simp [h, Nat.not_le.mpr h]
  · simp [hi, h, Nat.not_lt.mpr h]
theorem b_ushr (n : Nat) (hn : n < 32) (x : Int32) (i : Nat) : bt ((x.toUInt32 >>> ((nI n).toUInt32 &&& Int32.toUInt32 31)).toInt32) i = bt x (n + i) := by
  show (x.toUInt32 >>> ((nI n).toUInt32 &&& Int32.toUInt32 31)).toBitVec.getLsbD i = x.toUInt32.toBitVec.getLsbD (n + i)
  rw [UInt32.toBitVec_shiftRight]
  show (x.toUInt32.toBitVec >>> (((nI n).toUInt32 &&& Int32.toUInt32 31).toBitVec % 32).toNat).getLsbD i = _
  rw [s_u n hn, BitVec.getLsbD_ushiftRight]
theorem b_sshr (n : Nat) (hn : n < 32) (x : Int32) {i : Nat} (hi : i < 32) : bt (x >>> (nI n &&& 31)) i = if n + i < 32 then bt x (n + i) else bt x 31 := by
  unfold bt
  rw [Int32.toBitVec_shiftRight]
  show (x.toBitVec.sshiftRight ((nI n &&& 31).toBitVec.smod 32).toNat).getLsbD i = _
  rw [s_l n hn, BitVec.getLsbD_sshiftRight, BitVec.msb_eq_getLsbD_last]
  simp [hi]
theorem b_shl8 (x : Int32) {i : Nat} (hi : i < 32) : bt (x <<< ((8 : Int32) &&& 31)) i = (decide (8 ≤ i) && bt x (i - 8)) := b_shl 8 (by omega) x hi
theorem b_shl16 (x : Int32) {i : Nat} (hi : i < 32) : bt (x <<< ((16 : Int32) &&& 31)) i = (decide (16 ≤ i) && bt x (i - 16)) := b_shl 16 (by omega) x hi
theorem b_shl24 (x : Int32) {i : Nat} (hi : i < 32) : bt (x <<< ((24 : Int32) &&& 31)) i = (decide (24 ≤ i) && bt x (i - 24)) := b_shl 24 (by omega) x hi
theorem b_sshr8 (x : Int32) {i : Nat} (hi : i < 32) : bt (x >>> ((8 : Int32) &&& 31)) i = if 8 + i < 32 then bt x (8 + i) else bt x 31 := b_sshr 8 (by omega) x hi
def bI (b : Bool) : Int32 := if b = true then 1 else 0
theorem bI_t : bI true = 1 := rfl
theorem bI_f : bI false = 0 := rfl
theorem bI_0 (b : Bool) : bI b = 0 ↔ b = false := by cases b <;> decide
theorem bI_1 (b : Bool) : bI b = 1 ↔ b = true := by cases b <;> decide
theorem bI_nar (b : Bool) : narrow .boolean (.int (bI b)) = .int (bI b) := by cases b <;> rfl
theorem bt_lit1 : ∀ i, i < 32 → bt 1 i = decide (i = 0) := by decide +kernel
theorem bt_and1 (x : Int32) {j : Nat} (hj : j < 32) : ((x >>> (nI j &&& 31)) &&& 1) = bI (bt x j) := by
  refine b_ext fun i hi => ?_
  rw [b_and, b_sshr j hj x hi, bt_lit1 i hi]
  by_cases h : i = 0
  · subst h
    simp only [Nat.add_zero, hj, if_true, decide_true, Bool.and_true]
    cases bt x j <;> decide
  · simp only [h, decide_false, Bool.and_false]
    cases bt x j
    · exact (b_0 i).symm
    · rw [bI_t, bt_lit1 i hi]; simp [h]
theorem bt_one : ∀ n, n < 32 → ∀ i, i < 32 → bt ((1 : Int32) <<< (nI n &&& 31)) i = decide (i = n) := by
  intro n hn i hi
  rw [b_shl n hn _ hi, bt_lit1 _ (by omega)]
  by_cases h : i = n
  · subst h; simp
  · by_cases h2 : n ≤ i
    · have : ¬ i - n = 0 := by omega
      simp [h, h2, this]
    · simp [h, h2]
theorem bt_every : ∀ s, s ≤ 16 → ∀ i, i < 32 → bt (((1 : Int32) <<< (nI s &&& 31)) - 1) i = decide (i < s) := by
  intro s hs i hi
  exact (by decide +kernel : ∀ s, s < 17 → ∀ i, i < 32 → bt (((1 : Int32) <<< (nI s &&& 31)) - 1) i = decide (i < s)) s (by omega) i hi
theorem bt_not (x : Int32) {i : Nat} (hi : i < 32) : bt (x ^^^ (-1)) i = !(bt x i) := by rw [b_xor, b_m1 i hi, Bool.xor_true]
/-- the mask of the numbers below n that have it -/
def mkm (p : Nat → Bool) : Nat → Int32
  | 0 => 0
  | n + 1 => mkm p n ||| (if p n = true then (1 : Int32) <<< (nI n &&& 31) else 0)
theorem bt_mkm (p : Nat → Bool) : ∀ n, n ≤ 32 → ∀ i, i < 32 → bt (mkm p n) i = (decide (i < n) && p i) := by
  intro n
  induction n with
  | zero => intro _ i _; rw [mkm, b_0]; simp
  | succ n ih =>
    intro hn i hi
    rw [mkm, b_or, ih (by omega) i hi]
    by_cases hp : p n = true
    · rw [if_pos hp, bt_one n (by omega) i hi]
      by_cases h : i = n
      · subst h; simp [hp]
      · have : (i < n + 1) ↔ i < n := by omega
        simp [h, this]
    · rw [if_neg hp, b_0]
      by_cases h : i = n
      · subst h; simp [Bool.not_eq_true] at hp; simp [hp]
      · have : (i < n + 1) ↔ i < n := by omega
        simp [this]
theorem mkm_congr {p q : Nat → Bool} : ∀ n, (∀ k, k < n → p k = q k) → mkm p n = mkm q n := by
  intro n
  induction n with
  | zero => intro _; rfl
  | succ n ih => intro h; rw [mkm, mkm, ih (fun k hk => h k (by omega)), h n (by omega)]
theorem mkm_eq {p : Nat → Bool} {x : Int32} (h : ∀ i, i < 16 → bt x i = p i) (h2 : ∀ i, 16 ≤ i → i < 32 → bt x i = false) : x = mkm p 16 := by
  refine b_ext fun i hi => ?_
  rw [bt_mkm p 16 (by omega) i hi]
  by_cases h3 : i < 16
  · rw [h i h3]; simp [h3]
  · rw [h2 i (by omega) hi]; simp [h3]
theorem mkm_hi (p : Nat → Bool) : ∀ i, 16 ≤ i → i < 32 → bt (mkm p 16) i = false := fun i h hi => by rw [bt_mkm p 16 (by omega) i hi]; simp; omega
theorem mkm_bt (p : Nat → Bool) : ∀ i, i < 16 → bt (mkm p 16) i = p i := fun i h => by rw [bt_mkm p 16 (by omega) i (by omega)]; simp [h]
theorem mkm_0 (p : Nat → Bool) : mkm p 16 = 0 ↔ ∀ k, k < 16 → p k = false := by
  constructor
  · intro h k hk
    rw [← mkm_bt p k hk, h, b_0]
  · intro h
    refine b_ext fun i hi => ?_
    rw [b_0, bt_mkm p 16 (by omega) i hi]
    by_cases h3 : i < 16
    · simp [h i h3]
    · simp [h3]
theorem nI_lit (n : Nat) : (OfNat.ofNat n : Int32) = nI n := rfl
theorem bt_nI (n i : Nat) (hi : i < 32) : bt (nI n) i = n.testBit i := by
  show (BitVec.ofNat 32 n).getLsbD i = _
  rw [BitVec.getLsbD_ofNat]
  simp [hi]
/-- the sum of the bits below n -/
def szF (m : Int32) : Nat → Int32
  | 0 => 0
  | n + 1 => szF m n + ((m >>> (nI n &&& 31)) &&& 1)
/-- what the JDK's bitCount computes -/
def bcF (x : Int32) : Int32 :=
  let a := x - (((x.toUInt32 >>> ((1 : Int32).toUInt32 &&& Int32.toUInt32 31)).toInt32) &&& 1431655765)
  let b := (a &&& 858993459) + (((a.toUInt32 >>> ((2 : Int32).toUInt32 &&& Int32.toUInt32 31)).toInt32) &&& 858993459)
  let c := (b + ((b.toUInt32 >>> ((4 : Int32).toUInt32 &&& Int32.toUInt32 31)).toInt32)) &&& 252645135
  let e := c + ((c.toUInt32 >>> ((8 : Int32).toUInt32 &&& Int32.toUInt32 31)).toInt32)
  let f := e + ((e.toUInt32 >>> ((16 : Int32).toUInt32 &&& Int32.toUInt32 31)).toInt32)
  f &&& 63
def bcN1 (n : Nat) : Nat := Nat.sub n (Nat.land (Nat.div n 2) 1431655765)
def bcN2 (a : Nat) : Nat := Nat.add (Nat.land a 858993459) (Nat.land (Nat.div a 4) 858993459)
def bcN3 (b : Nat) : Nat := Nat.land (Nat.add b (Nat.div b 16)) 252645135
def bcN4 (c : Nat) : Nat := Nat.add c (Nat.div c 256)
def bcN5 (e : Nat) : Nat := Nat.land (Nat.add e (Nat.div e 65536)) 63
def bcN (n : Nat) : Nat := bcN5 (bcN4 (bcN3 (bcN2 (bcN1 n))))
def szN (n : Nat) : Nat → Nat
  | 0 => 0
  | k + 1 => Nat.add (szN n k) (Nat.mod (Nat.div n (Nat.pow 2 k)) 2)
def bcK (lo : Nat) : Nat → Bool
  | 0 => Nat.beq (bcN lo) (szN lo 16)
  | k + 1 => bcK lo k && bcK (Nat.add lo (Nat.pow 2 k)) k
theorem bcK_spec : ∀ k lo, bcK lo k = true → ∀ n, lo ≤ n → n < lo + 2 ^ k → bcN n = szN n 16 := by
  intro k
  induction k with
  | zero =>
    intro lo h n h1 h2
    have : n = lo := by simp at h2; omega
    subst this
    exact Nat.eq_of_beq_eq_true h
  | succ k ih =>
    intro lo h n h1 h2
    have hh : bcK lo k = true ∧ bcK (lo + 2 ^ k) k = true := by
      have : bcK lo (k + 1) = (bcK lo k && bcK (lo + 2 ^ k) k) := rfl
      rw [this, Bool.and_eq_true] at h
      exact h
    rw [Nat.pow_succ] at h2
    by_cases h3 : n < lo + 2 ^ k
    · exact ih lo hh.1 n h1 h3
    · exact ih _ hh.2 n (by omega) (by omega)
theorem bcK_ok : bcK 0 16 = true := by decide +kernel
theorem bcN_ok {n : Nat} (h : n < 65536) : bcN n = szN n 16 := bcK_spec 16 0 bcK_ok n (Nat.zero_le n) (by simpa using h)
theorem bc_and (a b : Nat) : nI a &&& nI b = nI (Nat.land a b) := by
  apply Int32.toBitVec_inj.mp
  rw [Int32.toBitVec_and]
  show BitVec.ofNat 32 a &&& BitVec.ofNat 32 b = BitVec.ofNat 32 (a &&& b)
  rw [BitVec.ofNat_and]
theorem bcF_N {n : Nat} (h : n < 65536) : bcF (nI n) = nI (bcN n) := by
  have u1 : ∀ k, k < 2 ^ 32 → ((nI k).toUInt32 >>> ((1 : Int32).toUInt32 &&& Int32.toUInt32 31)).toInt32 = nI (Nat.div k 2) := fun k hk => pk_ushrN hk 1 1 (by decide +kernel)
  have u2 : ∀ k, k < 2 ^ 32 → ((nI k).toUInt32 >>> ((2 : Int32).toUInt32 &&& Int32.toUInt32 31)).toInt32 = nI (Nat.div k 4) := fun k hk => pk_ushrN hk 2 2 (by decide +kernel)
  have u4 : ∀ k, k < 2 ^ 32 → ((nI k).toUInt32 >>> ((4 : Int32).toUInt32 &&& Int32.toUInt32 31)).toInt32 = nI (Nat.div k 16) := fun k hk => pk_ushrN hk 4 4 (by decide +kernel)
  have u8 : ∀ k, k < 2 ^ 32 → ((nI k).toUInt32 >>> ((8 : Int32).toUInt32 &&& Int32.toUInt32 31)).toInt32 = nI (Nat.div k 256) := fun k hk => pk_ushrN hk 8 8 (by decide +kernel)
  have u16 : ∀ k, k < 2 ^ 32 → ((nI k).toUInt32 >>> ((16 : Int32).toUInt32 &&& Int32.toUInt32 31)).toInt32 = nI (Nat.div k 65536) := fun k hk => pk_ushrN hk 16 16 (by decide +kernel)
  have le1 : Nat.land (Nat.div n 2) 1431655765 ≤ n := Nat.le_trans (Nat.and_le_left (n := Nat.div n 2) (m := 1431655765)) (Nat.div_le_self n 2)
  have b1 : bcN1 n < 65536 := Nat.lt_of_le_of_lt (Nat.sub_le _ _) h
  have b2 : bcN2 (bcN1 n) < 131072 := by
    have h1 : Nat.land (bcN1 n) 858993459 ≤ bcN1 n := Nat.and_le_left (n := bcN1 n) (m := 858993459)
    have h2 : Nat.land (Nat.div (bcN1 n) 4) 858993459 ≤ bcN1 n := Nat.le_trans (Nat.and_le_left (n := Nat.div (bcN1 n) 4) (m := 858993459)) (Nat.div_le_self _ _)
    show Nat.land (bcN1 n) 858993459 + Nat.land (Nat.div (bcN1 n) 4) 858993459 < 131072
    omega
  have b3 : bcN3 (bcN2 (bcN1 n)) < 2 ^ 31 := Nat.lt_of_le_of_lt (Nat.and_le_right (n := _) (m := 252645135)) (by decide)
  have b4 : bcN4 (bcN3 (bcN2 (bcN1 n))) < 2 ^ 32 := by
    have h1 : bcN3 (bcN2 (bcN1 n)) ≤ 252645135 := Nat.and_le_right (n := _) (m := 252645135)
    have h2 : Nat.div (bcN3 (bcN2 (bcN1 n))) 256 ≤ bcN3 (bcN2 (bcN1 n)) := Nat.div_le_self _ _
    show bcN3 (bcN2 (bcN1 n)) + Nat.div (bcN3 (bcN2 (bcN1 n))) 256 < 2 ^ 32
    omega
  have e1 : nI n - (((nI n).toUInt32 >>> ((1 : Int32).toUInt32 &&& Int32.toUInt32 31)).toInt32 &&& 1431655765) = nI (bcN1 n) := by
    rw [u1 n (by omega), show (1431655765 : Int32) = nI 1431655765 from rfl, bc_and, pk_sub le1]; rfl
  have e2 : ∀ a, a < 65536 → (nI a &&& 858993459) + (((nI a).toUInt32 >>> ((2 : Int32).toUInt32 &&& Int32.toUInt32 31)).toInt32 &&& 858993459) = nI (bcN2 a) := fun a ha => by
    rw [u2 a (by omega), show (858993459 : Int32) = nI 858993459 from rfl, bc_and, bc_and, nI_add]; rfl
  have e3 : ∀ a, a < 131072 → (nI a + ((nI a).toUInt32 >>> ((4 : Int32).toUInt32 &&& Int32.toUInt32 31)).toInt32) &&& 252645135 = nI (bcN3 a) := fun a ha => by
    rw [u4 a (by omega), show (252645135 : Int32) = nI 252645135 from rfl, nI_add, bc_and]; rfl
  have e4 : ∀ a, a < 2 ^ 31 → nI a + ((nI a).toUInt32 >>> ((8 : Int32).toUInt32 &&& Int32.toUInt32 31)).toInt32 = nI (bcN4 a) := fun a ha => by
    rw [u8 a (by omega), nI_add]; rfl
  have e5 : ∀ a, a < 2 ^ 32 → (nI a + ((nI a).toUInt32 >>> ((16 : Int32).toUInt32 &&& Int32.toUInt32 31)).toInt32) &&& 63 = nI (bcN5 a) := fun a ha => by
    rw [u16 a ha, show (63 : Int32) = nI 63 from rfl, nI_add, bc_and]; rfl
  unfold bcF
  simp only [e1, e2 _ b1, e3 _ b2, e4 _ b3, e5 _ b4]
  rfl
theorem szF_N (n : Nat) : ∀ k, k ≤ 16 → szF (nI n) k = nI (szN n k) := by
  intro k
  induction k with
  | zero => intro _; rfl
  | succ k ih =>
    intro h
    rw [szF, ih (by omega), bt_and1 _ (by omega), bt_nI n k (by omega)]
    have e : bI (n.testBit k) = nI (n / 2 ^ k % 2) := by
      have h1 : n.testBit k = decide (n / 2 ^ k % 2 = 1) := Nat.testBit_eq_decide_div_mod_eq
      rw [h1]
      rcases Nat.mod_two_eq_zero_or_one (n / 2 ^ k) with h2 | h2 <;> rw [h2] <;> decide
    rw [e, nI_add]; rfl
theorem bc_ok {m : Int32} (h : ∀ i, 16 ≤ i → i < 32 → bt m i = false) : bcF m = szF m 16 := by
  have hm : m = nI m.toBitVec.toNat := by
    apply Int32.toBitVec_inj.mp
    show m.toBitVec = BitVec.ofNat 32 m.toBitVec.toNat
    simp
  have hlt : m.toBitVec.toNat < 2 ^ 16 := by
    refine Nat.lt_pow_two_of_testBit _ fun i hi => ?_
    by_cases h2 : i < 32
    · exact h i hi h2
    · have : m.toBitVec.getLsbD i = false := BitVec.getLsbD_of_ge _ _ (by omega)
      exact this
  rw [hm, bcF_N (by simpa using hlt), szF_N _ 16 (Nat.le_refl _), bcN_ok (by simpa using hlt)]
end
section
/-! what both sides compute: a troop as four rows of numbers: sc (0 size, 1 colour, 2 next size, 3 hikes, 4 hikers, 5 struck), hw (how a scout is), fr (minutes), tm (hikes) -/
abbrev mT : Type := (Nat → Int32) × (Nat → Int32) × (Nat → Int32) × (Nat → Int32)
def tsz (T : mT) : Nat := (T.1 0).toNatClampNeg
/-- those who are so -/
def hm (T : mT) (h : Int32) : Int32 := mkm (fun k => T.2.1 k == h) 16
def awp (T : mT) (k : Nat) : Bool := decide (k < tsz T) && !(T.2.1 k == 1) && !(bt (T.1 5) k)
/-- who is waited for -/
def awM (T : mT) : Int32 := mkm (awp T) 16
def canO (T : mT) : Bool := decide (awM T = 0) && !(decide (hm T 1 = 0))
/-- the gate opens -/
def begT (T : mT) (away : Int32) : mT :=
  let ns := (T.1 2).toNatClampNeg
  (fun j => match j with | 0 => T.1 2 | 1 => 1 - T.1 1 | 2 => T.1 2 | 3 => T.1 3 + 1 | 4 => T.1 4 + szF (hm T 1) 16 | _ => 0,
   fun k => if T.2.1 k = 1 then 3 else if T.2.1 k = 3 then 3 else if ¬ k < ns then 0 else if T.2.1 k = 2 then 1 else T.2.1 k,
   fun k => if T.2.1 k = 1 then away else if T.2.1 k = 3 then T.2.2.1 k else if ¬ k < ns then 0 else T.2.2.1 k,
   fun k => if T.2.1 k = 1 then T.2.2.2 k + 1 else if T.2.1 k = 3 then T.2.2.2 k else if ¬ k < ns then 0 else T.2.2.2 k)
def opnN : Nat → mT → Int32 → Int32 × mT
  | 0, T, _ => (0, T)
  | n + 1, T, away => if canO T = true then ((opnN n (begT T away) away).1 + 1, (opnN n (begT T away) away).2) else (0, T)
/-- scouts walk on, lost ones are longer lost: those below n -/
def wlkT (T : mT) (pat : Int32) (n : Nat) : mT :=
  (fun j => if j = 5 then T.1 5 ||| mkm (fun k => decide (T.2.1 k = 4) && decide (pat < T.2.2.1 k + 1)) n else T.1 j,
   fun k => if k < n ∧ T.2.1 k = 3 ∧ T.2.2.1 k - 1 ≤ 0 then 0 else T.2.1 k,
   fun k => if k < n then (if T.2.1 k = 3 then (if T.2.2.1 k - 1 ≤ 0 then 0 else T.2.2.1 k - 1) else if T.2.1 k = 4 then T.2.2.1 k + 1 else T.2.2.1 k) else T.2.2.1 k,
   fun k => if k < n ∧ T.2.1 k = 3 ∧ T.2.2.1 k - 1 ≤ 0 ∧ ¬ k < tsz T then 0 else T.2.2.2 k)
def minT (T : mT) (pat away : Int32) : Int32 × mT := opnN 3 (wlkT T pat 16) away
def setH (T : mT) (k : Nat) (h : Int32) : mT := (T.1, upd T.2.1 k h, upd T.2.2.1 k 0, T.2.2.2)
def newT (size : Int32) : mT := (fun j => if j = 0 then size else if j = 2 then size else 0, fun _ => 0, fun _ => 0, fun _ => 0)
def rszT (T : mT) (size : Int32) : mT := (upd T.1 2 size, T.2.1, T.2.2.1, T.2.2.2)
/-- a troop as it can be -/
def WF (T : mT) : Prop := (∃ s n : Nat, T.1 0 = nI s ∧ 1 ≤ s ∧ s ≤ 16 ∧ T.1 2 = nI n ∧ 1 ≤ n ∧ n ≤ 16) ∧ (T.1 1 = 0 ∨ T.1 1 = 1) ∧
  ∀ k, k < 16 → (T.2.1 k = 0 ∨ T.2.1 k = 1 ∨ T.2.1 k = 2 ∨ T.2.1 k = 3 ∨ T.2.1 k = 4) ∧ (tsz T ≤ k → T.2.1 k = 0 ∨ T.2.1 k = 3) ∧ (T.2.1 k = 2 → T.2.2.1 k = 0)
theorem nI_cl {n : Nat} (h : n ≤ 16) : (nI n).toNatClampNeg = n := nI_clamp (by omega)
theorem WF.sz {T : mT} (h : WF T) : ∃ s, tsz T = s ∧ T.1 0 = nI s ∧ 1 ≤ s ∧ s ≤ 16 := by
  obtain ⟨⟨s, n, h1, h2, h3, -⟩, -⟩ := h
  exact ⟨s, by unfold tsz; rw [h1, nI_cl h3], h1, h2, h3⟩
theorem WF.nx {T : mT} (h : WF T) : ∃ n, (T.1 2).toNatClampNeg = n ∧ T.1 2 = nI n ∧ 1 ≤ n ∧ n ≤ 16 := by
  obtain ⟨⟨s, n, h1, h2, h3, h4, h5, h6⟩, -⟩ := h
  exact ⟨n, by rw [h4, nI_cl h6], h4, h5, h6⟩
theorem wf_set {T : mT} (h : WF T) {k : Nat} {x : Int32} (hk : k < tsz T) (hx : x = 0 ∨ x = 1 ∨ x = 2 ∨ x = 4) : WF (setH T k x) := by
  refine ⟨h.1, h.2.1, fun j hj => ?_⟩
  have hj3 := h.2.2 j hj
  have e : tsz (setH T k x) = tsz T := rfl
  rw [e]
  unfold setH
  dsimp only
  by_cases e : j = k
  · subst e
    simp only [upd, if_true]
    refine ⟨by rcases hx with h | h | h | h <;> simp [h], fun h => absurd hk (by omega), fun _ => trivial⟩
  · simp only [upd, if_neg e]
    exact hj3
theorem wf_rsz {T : mT} (h : WF T) {n : Nat} (h1 : 1 ≤ n) (h2 : n ≤ 16) : WF (rszT T (nI n)) := by
  obtain ⟨⟨s, n0, a1, a2, a3, -⟩, b, c⟩ := h
  refine ⟨⟨s, n, ?_, a2, a3, ?_, h1, h2⟩, ?_, fun k hk => ?_⟩
  · simp [rszT, upd, a1]
  · simp [rszT, upd]
  · simpa [rszT, upd] using b
  · have := c k hk
    have e : tsz (rszT T (nI n)) = tsz T := by simp [tsz, rszT, upd]
    rw [e]
    exact this
theorem wf_new {n : Nat} (h1 : 1 ≤ n) (h2 : n ≤ 16) : WF (newT (nI n)) :=
  ⟨⟨n, n, rfl, h1, h2, rfl, h1, h2⟩, Or.inl rfl, fun k _ => ⟨Or.inl rfl, fun _ => Or.inl rfl, fun _ => rfl⟩⟩
theorem wf_beg {T : mT} (h : WF T) (away : Int32) : WF (begT T away) := by
  obtain ⟨n, e1, e2, e3, e4⟩ := h.nx
  refine ⟨⟨n, n, e2, e3, e4, e2, e3, e4⟩, ?_, fun k hk => ?_⟩
  · rcases h.2.1 with z | z
    · right; show 1 - T.1 1 = 1; rw [z]; decide
    · left; show 1 - T.1 1 = 0; rw [z]; decide
  · obtain ⟨a1, a2, a3⟩ := h.2.2 k hk
    have et : tsz (begT T away) = n := e1
    rw [et]
    unfold begT
    dsimp only
    rw [e1]
    by_cases h1 : T.2.1 k = 1
    · simp [h1]
    · by_cases h3 : T.2.1 k = 3
      · simp [h3]
      · by_cases hn : k < n
        · by_cases h2 : T.2.1 k = 2
          · simp [h2, hn]
          · simp only [h1, h2, h3, hn, if_false, if_true, not_true_eq_false, not_false_eq_true, false_implies, and_true, true_and, false_or, or_false] at a1 ⊢
            exact ⟨a1, fun h => absurd hn (by omega)⟩
        · simp [h1, h3, hn]
theorem wf_wlk {T : mT} (h : WF T) (pat : Int32) {n : Nat} : WF (wlkT T pat n) := by
  have e0 : ∀ j, j ≠ 5 → (wlkT T pat n).1 j = T.1 j := fun j hj => by simp [wlkT, hj]
  have et : tsz (wlkT T pat n) = tsz T := by unfold tsz; rw [e0 0 (by decide)]
  refine ⟨?_, ?_, fun k hk => ?_⟩
  · rw [e0 0 (by decide), e0 2 (by decide)]; exact h.1
  · rw [e0 1 (by decide)]; exact h.2.1
  · obtain ⟨a1, a2, a3⟩ := h.2.2 k hk
    rw [et]
    unfold wlkT
    dsimp only
    by_cases h3 : k < n ∧ T.2.1 k = 3 ∧ T.2.2.1 k - 1 ≤ 0
    · rw [if_pos h3]; simp
    · rw [if_neg h3]
      refine ⟨a1, a2, fun z => ?_⟩
      have := a3 z
      simp [z, this]
theorem wf_opn (away : Int32) : ∀ n (T : mT), WF T → WF (opnN n T away).2 := by
  intro n
  induction n with
  | zero => intro T h; exact h
  | succ n ih =>
    intro T h
    unfold opnN
    split
    · exact ih _ (wf_beg h away)
    · exact h
theorem wf_min {T : mT} (h : WF T) (pat away : Int32) : WF (minT T pat away).2 := wf_opn away 3 _ (wf_wlk h pat)
/-- the class's picture of a troop: cells a, a+1, a+2 -/
def TP (S : mS) (a : Nat) (T : mT) : Prop :=
  (S a 0 = T.1 0 ∧ S a 1 = T.1 2 ∧ S a 2 = T.1 1 ∧ S a 7 = T.1 5 ∧ S a 8 = T.1 3 ∧ S a 9 = T.1 4) ∧
  (S a 3 = hm T 1 ∧ S a 4 = hm T 2 ∧ S a 5 = hm T 3 ∧ S a 6 = hm T 4) ∧
  ∀ k, k < 16 → S (a + 1) k = T.2.2.1 k ∧ S (a + 2) k = T.2.2.2 k
/-- the reference's picture of a troop: a stretch of its row -/
def MP (r : Nat → Int32) (t : Nat) (T : mT) : Prop :=
  (∀ j, j < 6 → r (5 + 54 * t + j) = T.1 j) ∧ ∀ k, k < 16 → r (11 + 54 * t + 3 * k) = T.2.1 k ∧ r (12 + 54 * t + 3 * k) = T.2.2.1 k ∧ r (13 + 54 * t + 3 * k) = T.2.2.2 k
theorem kdT {a : Nat} (h : kd a = 3) : kd (a + 1) = 6 ∧ kd (a + 2) = 6 ∧ ln (a + 1) = 16 ∧ ln (a + 2) = 16 ∧ rf a 10 = a + 1 ∧ rf a 11 = a + 2 := by
  have h2 := (by decide +kernel : ∀ a, a < 199 → kd a = 3 → kd (a + 1) = 6 ∧ kd (a + 2) = 6 ∧ ln (a + 1) = 16 ∧ ln (a + 2) = 16) a (kd_lt (by omega)) h
  refine ⟨h2.1, h2.2.1, h2.2.2.1, h2.2.2.2, ?_, ?_⟩
  · unfold rf; rw [h]; show a + 10 - 9 = a + 1; omega
  · unfold rf; rw [h]; show a + 11 - 9 = a + 2; omega
theorem TP.off {S u : mS} {a : Nat} {T : mT} (h : TP S a T) (h2 : ∀ b, b = a ∨ b = a + 1 ∨ b = a + 2 → u b = S b) : TP u a T := by
  unfold TP
  rw [h2 a (by omega), h2 (a + 1) (by omega), h2 (a + 2) (by omega)]
  exact h
end
section
/-! the class's Troop, method by method, over its picture -/
theorem i16 : (16 : Int32).toInt = 16 := by decide
theorem t_J6_bitCount_0f7a4 {G : mG} {d : Nat} {S : mS} {x : Int32} : Call G d M_J6_bitCount_0f7a4 [.int x] S (fun v u => v = some (bcF x) ∧ u = S) := by
  refine call_of (lo := [(0, .int x)]) (by decide +kernel) (Nat.le_of_ble_eq_true rfl) rfl ?_
  refine r_iload_n dJ6_bitCount_0f7a4_0 0 rfl ?_
  refine r_iload_n dJ6_bitCount_0f7a4_1 0 rfl ?_
  refine r_iconst dJ6_bitCount_0f7a4_2 (v := 1) rfl ?_
  refine r_iushr dJ6_bitCount_0f7a4_3 ?_
  refine r_ldcw k_J6_265 dJ6_bitCount_0f7a4_4 ?_
  refine r_iand dJ6_bitCount_0f7a4_7 ?_
  refine r_isub dJ6_bitCount_0f7a4_8 ?_
  refine r_istore_n (lo2 := [(0, _)]) dJ6_bitCount_0f7a4_9 rfl (Nat.le_of_ble_eq_true rfl) [0] rfl ?_
  refine r_iload_n dJ6_bitCount_0f7a4_10 0 rfl ?_
  refine r_ldcw k_J6_266 dJ6_bitCount_0f7a4_11 ?_
  refine r_iand dJ6_bitCount_0f7a4_14 ?_
  refine r_iload_n dJ6_bitCount_0f7a4_15 0 rfl ?_
  refine r_iconst dJ6_bitCount_0f7a4_16 (v := 2) rfl ?_
  refine r_iushr dJ6_bitCount_0f7a4_17 ?_
  refine r_ldcw k_J6_266 dJ6_bitCount_0f7a4_18 ?_
  refine r_iand dJ6_bitCount_0f7a4_21 ?_
  refine r_iadd dJ6_bitCount_0f7a4_22 ?_
  refine r_istore_n (lo2 := [(0, _)]) dJ6_bitCount_0f7a4_23 rfl (Nat.le_of_ble_eq_true rfl) [0] rfl ?_
  refine r_iload_n dJ6_bitCount_0f7a4_24 0 rfl ?_
  refine r_iload_n dJ6_bitCount_0f7a4_25 0 rfl ?_
  refine r_iconst dJ6_bitCount_0f7a4_26 (v := 4) rfl ?_
  refine r_iushr dJ6_bitCount_0f7a4_27 ?_
  refine r_iadd dJ6_bitCount_0f7a4_28 ?_
  refine r_ldcw k_J6_267 dJ6_bitCount_0f7a4_29 ?_
  refine r_iand dJ6_bitCount_0f7a4_32 ?_
  refine r_istore_n (lo2 := [(0, _)]) dJ6_bitCount_0f7a4_33 rfl (Nat.le_of_ble_eq_true rfl) [0] rfl ?_
  refine r_iload_n dJ6_bitCount_0f7a4_34 0 rfl ?_
  refine r_iload_n dJ6_bitCount_0f7a4_35 0 rfl ?_
  refine r_bipush dJ6_bitCount_0f7a4_36 (v := 8) (by decide +kernel) ?_
  refine r_iushr dJ6_bitCount_0f7a4_38 ?_
  refine r_iadd dJ6_bitCount_0f7a4_39 ?_
  refine r_istore_n (lo2 := [(0, _)]) dJ6_bitCount_0f7a4_40 rfl (Nat.le_of_ble_eq_true rfl) [0] rfl ?_
  refine r_iload_n dJ6_bitCount_0f7a4_41 0 rfl ?_
  refine r_iload_n dJ6_bitCount_0f7a4_42 0 rfl ?_
  refine r_bipush dJ6_bitCount_0f7a4_43 (v := 16) (by decide +kernel) ?_
  refine r_iushr dJ6_bitCount_0f7a4_45 ?_
  refine r_iadd dJ6_bitCount_0f7a4_46 ?_
  refine r_istore_n (lo2 := [(0, _)]) dJ6_bitCount_0f7a4_47 rfl (Nat.le_of_ble_eq_true rfl) [0] rfl ?_
  refine r_iload_n dJ6_bitCount_0f7a4_48 0 rfl ?_
  refine r_bipush dJ6_bitCount_0f7a4_49 (v := 63) (by decide +kernel) ?_
  refine r_iand dJ6_bitCount_0f7a4_51 ?_
  refine r_iret rfl dJ6_bitCount_0f7a4_52 ?_
  exact ⟨rfl, rfl⟩
theorem t_X3_isIn {G : mG} {d : Nat} {S : mS} {x y : Int32} {j : Nat} (hy : y = nI j) (hj : j < 32) : Call G d M_X3_isIn [.int x, .int y] S (fun v u => v = some (bI (bt x j)) ∧ u = S) := by
  refine call_of (lo := [(0, .int x), (1, .int y)]) (by decide +kernel) (Nat.le_of_ble_eq_true rfl) rfl ?_
  subst hy
  refine r_iload_n dX3_isIn_0 0 rfl ?_
  refine r_iload_n dX3_isIn_1 1 rfl ?_
  refine r_ishr dX3_isIn_2 ?_
  refine r_iconst dX3_isIn_3 (v := 1) rfl ?_
  refine r_iand dX3_isIn_4 ?_
  refine r_if_eq dX3_isIn_5 (tgt := 12) (by decide) (fun h5 => ?_) (fun h5 => ?_)
  · --t
    refine r_iconst dX3_isIn_12 (v := 0) rfl ?_
    refine r_zret rfl (by first | rfl | decide) dX3_isIn_13 ?_
    rw [bt_and1 x hj, bI_0] at h5
    exact ⟨by first | rw [h5]; rfl | (rw [Bool.not_eq_false] at h5; rw [h5]; rfl), rfl⟩
  · --f
    refine r_iconst dX3_isIn_8 (v := 1) rfl ?_
    refine r_goto dX3_isIn_9 (tgt := 13) (by decide) ?_
    refine r_zret rfl (by first | rfl | decide) dX3_isIn_13 ?_
    rw [bt_and1 x hj, bI_0] at h5
    exact ⟨by first | rw [h5]; rfl | (rw [Bool.not_eq_false] at h5; rw [h5]; rfl), rfl⟩
theorem t_X3_hasScout {G : mG} {d : Nat} {S : mS} {a : Nat} {k : Int32} (ha : kd a = 3) : Call G d M_X3_hasScout [rv G a, .int k] S (fun v u => v = some (bI (decide (0 ≤ k ∧ k < S a 0))) ∧ u = S) := by
  refine call_of (lo := [(0, rv G a), (1, .int k)]) (by decide +kernel) (Nat.le_of_ble_eq_true rfl) rfl ?_
  refine r_iload_n dX3_hasScout_0 1 rfl ?_
  refine r_if_lt dX3_hasScout_1 (tgt := 16) (by decide) (fun h1 => ?_) (fun h1 => ?_)
  · --t
    refine r_iconst dX3_hasScout_16 (v := 0) rfl ?_
    refine r_zret rfl (by first | rfl | decide) dX3_hasScout_17 ?_
    exact ⟨by first | (congr 1; simp_all [bI]; done) | (congr 1; simp_all [bI, Int32.le_iff_toInt_le, Int32.lt_iff_toInt_lt, i16]; (first | omega | (intros; omega))), rfl⟩
  · --f
    refine r_iload_n dX3_hasScout_4 1 rfl ?_
    refine r_aload_n dX3_hasScout_5 0 rfl ?_
    refine r_getI (by first | assumption | rfl) f_X3_18 rfl rfl dX3_hasScout_6 ?_
    refine r_icmp_ge dX3_hasScout_9 (tgt := 16) (by decide) (fun h9 => ?_) (fun h9 => ?_)
    · --t
      refine r_iconst dX3_hasScout_16 (v := 0) rfl ?_
      refine r_zret rfl (by first | rfl | decide) dX3_hasScout_17 ?_
      exact ⟨by first | (congr 1; simp_all [bI]; done) | (congr 1; simp_all [bI, Int32.le_iff_toInt_le, Int32.lt_iff_toInt_lt, i16]; (first | omega | (intros; omega))), rfl⟩
    · --f
      refine r_iconst dX3_hasScout_12 (v := 1) rfl ?_
      refine r_goto dX3_hasScout_13 (tgt := 17) (by decide) ?_
      refine r_zret rfl (by first | rfl | decide) dX3_hasScout_17 ?_
      exact ⟨by first | (congr 1; simp_all [bI]; done) | (congr 1; simp_all [bI, Int32.le_iff_toInt_le, Int32.lt_iff_toInt_lt, i16]; (first | omega | (intros; omega))), rfl⟩
theorem t_X3_everyone {G : mG} {d : Nat} {S : mS} {a : Nat} (ha : kd a = 3) : Call G d M_X3_everyone [rv G a] S (fun v u => v = some (((1 : Int32) <<< (S a 0 &&& 31)) - 1) ∧ u = S) := by
  refine call_of (lo := [(0, rv G a)]) (by decide +kernel) (Nat.le_of_ble_eq_true rfl) rfl ?_
  refine r_iconst dX3_everyone_0 (v := 1) rfl ?_
  refine r_aload_n dX3_everyone_1 0 rfl ?_
  refine r_getI (by first | assumption | rfl) f_X3_18 rfl rfl dX3_everyone_2 ?_
  refine r_ishl dX3_everyone_5 ?_
  refine r_iconst dX3_everyone_6 (v := 1) rfl ?_
  refine r_isub dX3_everyone_7 ?_
  refine r_iret rfl dX3_everyone_8 ?_
  exact ⟨rfl, rfl⟩
theorem t_X3_knows {G : mG} {d : Nat} {S : mS} {a : Nat} {k : Int32} (ha : kd a = 3) : Call G (d + 1) M_X3_knows [rv G a, .int k] S (fun v u => v = some (bI (decide (0 ≤ k ∧ k < S a 0) || (decide (0 ≤ k ∧ k < 16) && bt (S a 5) k.toNatClampNeg))) ∧ u = S) := by
  refine call_of (lo := [(0, rv G a), (1, .int k)]) (by decide +kernel) (Nat.le_of_ble_eq_true rfl) rfl ?_
  by_cases hk : 0 ≤ k ∧ k < 16
  · obtain ⟨j, hj, rfl⟩ : ∃ j, j < 16 ∧ k = nI j := by
      obtain ⟨j, h1, h2⟩ := nI_of (Int32.not_lt.mpr hk.1)
      exact ⟨j, by have := hk.2; rw [h2, show (16 : Int32) = nI 16 from rfl, nI_ltI h1 (by omega)] at this; exact this, h2⟩
    have hj32 : j < 32 := by omega
    have e : (nI j).toNatClampNeg = j := nI_clamp (by omega)
    refine r_aload_n dX3_knows_0 0 rfl ?_
    refine r_iload_n dX3_knows_1 1 rfl ?_
    refine r_callViF (As := [_]) c_X3_hasScout (by first | assumption | rfl) l_X3_55 rfl rfl rfl (Nat.le_of_ble_eq_true rfl) dX3_knows_2 (t_X3_hasScout ha) ?_
    refine r_if_ne dX3_knows_5 (tgt := 29) (by decide) (fun h5 => ?_) (fun h5 => ?_)
    · --t
      refine r_iconst dX3_knows_29 (v := 1) rfl ?_
      refine r_goto dX3_knows_30 (tgt := 34) (by decide) ?_
      refine r_zret rfl (by first | rfl | decide) dX3_knows_34 ?_
      exact ⟨by first | (congr 1; simp_all [bI]; done) | (congr 1; simp_all [bI, Int32.le_iff_toInt_le, Int32.lt_iff_toInt_lt, i16]; (first | omega | (intros; omega))), rfl⟩
    · --f
      refine r_iload_n dX3_knows_8 1 rfl ?_
      refine r_if_lt dX3_knows_9 (tgt := 33) (by decide) (fun h9 => ?_) (fun h9 => ?_)
      · --t
        refine r_iconst dX3_knows_33 (v := 0) rfl ?_
        refine r_zret rfl (by first | rfl | decide) dX3_knows_34 ?_
        exact ⟨by first | (congr 1; simp_all [bI]; done) | (congr 1; simp_all [bI, Int32.le_iff_toInt_le, Int32.lt_iff_toInt_lt, i16]; (first | omega | (intros; omega))), rfl⟩
      · --f
        refine r_iload_n dX3_knows_12 1 rfl ?_
        refine r_bipush dX3_knows_13 (v := 16) (by decide +kernel) ?_
        refine r_icmp_ge dX3_knows_15 (tgt := 33) (by decide) (fun h15 => ?_) (fun h15 => ?_)
        · --t
          refine r_iconst dX3_knows_33 (v := 0) rfl ?_
          refine r_zret rfl (by first | rfl | decide) dX3_knows_34 ?_
          exact ⟨by first | (congr 1; simp_all [bI]; done) | (congr 1; simp_all [bI, Int32.le_iff_toInt_le, Int32.lt_iff_toInt_lt, i16]; (first | omega | (intros; omega))), rfl⟩
        · --f
          refine r_aload_n dX3_knows_18 0 rfl ?_
          refine r_getI (by first | assumption | rfl) f_X3_34 rfl rfl dX3_knows_19 ?_
          refine r_iload_n dX3_knows_22 1 rfl ?_
          refine r_callSiF (As := [_, _]) c_X3_isIn l_X3_59 rfl rfl rfl (Nat.le_of_ble_eq_true rfl) dX3_knows_23 (t_X3_isIn rfl hj32) ?_
          refine r_if_eq dX3_knows_26 (tgt := 33) (by decide) (fun h26 => ?_) (fun h26 => ?_)
          · --t
            refine r_iconst dX3_knows_33 (v := 0) rfl ?_
            refine r_zret rfl (by first | rfl | decide) dX3_knows_34 ?_
            exact ⟨by first | (congr 1; simp_all [bI]; done) | (congr 1; simp_all [bI, Int32.le_iff_toInt_le, Int32.lt_iff_toInt_lt, i16]; (first | omega | (intros; omega))), rfl⟩
          · --f
            refine r_iconst dX3_knows_29 (v := 1) rfl ?_
            refine r_goto dX3_knows_30 (tgt := 34) (by decide) ?_
            refine r_zret rfl (by first | rfl | decide) dX3_knows_34 ?_
            exact ⟨by first | (congr 1; simp_all [bI]; done) | (congr 1; simp_all [bI, Int32.le_iff_toInt_le, Int32.lt_iff_toInt_lt, i16]; (first | omega | (intros; omega))), rfl⟩
  · have e : decide (0 ≤ k ∧ k < 16) = false := decide_eq_false hk
    rw [e]
    simp only [Bool.false_and, Bool.or_false]
    clear e
    refine r_aload_n dX3_knows_0 0 rfl ?_
    refine r_iload_n dX3_knows_1 1 rfl ?_
    refine r_callViF (As := [_]) c_X3_hasScout (by first | assumption | rfl) l_X3_55 rfl rfl rfl (Nat.le_of_ble_eq_true rfl) dX3_knows_2 (t_X3_hasScout ha) ?_
    refine r_if_ne dX3_knows_5 (tgt := 29) (by decide) (fun h5 => ?_) (fun h5 => ?_)
    · --t
      refine r_iconst dX3_knows_29 (v := 1) rfl ?_
      refine r_goto dX3_knows_30 (tgt := 34) (by decide) ?_
      refine r_zret rfl (by first | rfl | decide) dX3_knows_34 ?_
      exact ⟨by first | (congr 1; simp_all [bI]; done) | (congr 1; simp_all [bI, Int32.le_iff_toInt_le, Int32.lt_iff_toInt_lt, i16]; (first | omega | (intros; omega))), rfl⟩
    · --f
      refine r_iload_n dX3_knows_8 1 rfl ?_
      refine r_if_lt dX3_knows_9 (tgt := 33) (by decide) (fun h9 => ?_) (fun h9 => ?_)
      · --t
        refine r_iconst dX3_knows_33 (v := 0) rfl ?_
        refine r_zret rfl (by first | rfl | decide) dX3_knows_34 ?_
        exact ⟨by first | (congr 1; simp_all [bI]; done) | (congr 1; simp_all [bI, Int32.le_iff_toInt_le, Int32.lt_iff_toInt_lt, i16]; (first | omega | (intros; omega))), rfl⟩
      · --f
        refine r_iload_n dX3_knows_12 1 rfl ?_
        refine r_bipush dX3_knows_13 (v := 16) (by decide +kernel) ?_
        refine r_icmp_ge dX3_knows_15 (tgt := 33) (by decide) (fun h15 => ?_) (fun h15 => ?_)
        · --t
          refine r_iconst dX3_knows_33 (v := 0) rfl ?_
          refine r_zret rfl (by first | rfl | decide) dX3_knows_34 ?_
          exact ⟨by first | (congr 1; simp_all [bI]; done) | (congr 1; simp_all [bI, Int32.le_iff_toInt_le, Int32.lt_iff_toInt_lt, i16]; (first | omega | (intros; omega))), rfl⟩
        · --f
          exact absurd ⟨Int32.not_lt.mp h9, Int32.not_le.mp h15⟩ hk
theorem t_X3_canCome {G : mG} {d : Nat} {S : mS} {a j : Nat} (ha : kd a = 3) (hj : j < 16) : Call G (d + 1) M_X3_canCome [rv G a, .int (nI j)] S (fun v u => v = some (bI (decide (nI j < S a 0) && !(bt (S a 3 ||| S a 4 ||| S a 5) j))) ∧ u = S) := by
  refine call_of (lo := [(0, rv G a), (1, .int (nI j))]) (by decide +kernel) (Nat.le_of_ble_eq_true rfl) rfl ?_
  have hj32 : j < 32 := by omega
  have e : 0 ≤ nI j := nI_pos' (by omega)
  refine r_aload_n dX3_canCome_0 0 rfl ?_
  refine r_iload_n dX3_canCome_1 1 rfl ?_
  refine r_callViF (As := [_]) c_X3_hasScout (by first | assumption | rfl) l_X3_55 rfl rfl rfl (Nat.le_of_ble_eq_true rfl) dX3_canCome_2 (t_X3_hasScout ha) ?_
  refine r_if_eq dX3_canCome_5 (tgt := 33) (by decide) (fun h5 => ?_) (fun h5 => ?_)
  · --t
    refine r_iconst dX3_canCome_33 (v := 0) rfl ?_
    refine r_zret rfl (by first | rfl | decide) dX3_canCome_34 ?_
    exact ⟨by first | (congr 1; simp_all [bI]; done) | (congr 1; simp_all [bI, Int32.le_iff_toInt_le, Int32.lt_iff_toInt_lt, i16]; (first | omega | (intros; omega))), rfl⟩
  · --f
    refine r_aload_n dX3_canCome_8 0 rfl ?_
    refine r_getI (by first | assumption | rfl) f_X3_28 rfl rfl dX3_canCome_9 ?_
    refine r_aload_n dX3_canCome_12 0 rfl ?_
    refine r_getI (by first | assumption | rfl) f_X3_31 rfl rfl dX3_canCome_13 ?_
    refine r_ior dX3_canCome_16 ?_
    refine r_aload_n dX3_canCome_17 0 rfl ?_
    refine r_getI (by first | assumption | rfl) f_X3_34 rfl rfl dX3_canCome_18 ?_
    refine r_ior dX3_canCome_21 ?_
    refine r_iload_n dX3_canCome_22 1 rfl ?_
    refine r_callSiF (As := [_, _]) c_X3_isIn l_X3_59 rfl rfl rfl (Nat.le_of_ble_eq_true rfl) dX3_canCome_23 (t_X3_isIn rfl hj32) ?_
    refine r_if_ne dX3_canCome_26 (tgt := 33) (by decide) (fun h26 => ?_) (fun h26 => ?_)
    · --t
      refine r_iconst dX3_canCome_33 (v := 0) rfl ?_
      refine r_zret rfl (by first | rfl | decide) dX3_canCome_34 ?_
      exact ⟨by first | (congr 1; simp_all [bI]; done) | (congr 1; simp_all [bI, Int32.le_iff_toInt_le, Int32.lt_iff_toInt_lt, i16]; (first | omega | (intros; omega))), rfl⟩
    · --f
      refine r_iconst dX3_canCome_29 (v := 1) rfl ?_
      refine r_goto dX3_canCome_30 (tgt := 34) (by decide) ?_
      refine r_zret rfl (by first | rfl | decide) dX3_canCome_34 ?_
      exact ⟨by first | (congr 1; simp_all [bI]; done) | (congr 1; simp_all [bI, Int32.le_iff_toInt_le, Int32.lt_iff_toInt_lt, i16]; (first | omega | (intros; omega))), rfl⟩
theorem bt_hm (T : mT) (h : Int32) {j : Nat} (hj : j < 16) : bt (hm T h) j = (T.2.1 j == h) := mkm_bt _ j hj
theorem t_X3_howIs {G : mG} {d : Nat} {S : mS} {a j : Nat} {T : mT} (ha : kd a = 3) (hj : j < 16) (hT : TP S a T) (hW : WF T) : Call G (d + 1) M_X3_howIs [rv G a, .int (nI j)] S (fun v u => v = some (T.2.1 j) ∧ u = S) := by
  refine call_of (lo := [(0, rv G a), (1, .int (nI j))]) (by decide +kernel) (Nat.le_of_ble_eq_true rfl) rfl ?_
  have hj32 : j < 32 := by omega
  have e3 := hT.2.1.1
  have e4 := hT.2.1.2.1
  have e5 := hT.2.1.2.2.1
  have e6 := hT.2.1.2.2.2
  have hv := (hW.2.2 j hj).1
  refine r_aload_n dX3_howIs_0 0 rfl ?_
  refine r_getI (by first | assumption | rfl) f_X3_28 rfl rfl dX3_howIs_1 ?_
  refine r_iload_n dX3_howIs_4 1 rfl ?_
  refine r_callSiF (As := [_, _]) c_X3_isIn l_X3_59 rfl rfl rfl (Nat.le_of_ble_eq_true rfl) dX3_howIs_5 (t_X3_isIn rfl hj32) ?_
  refine r_if_eq dX3_howIs_8 (tgt := 13) (by decide) (fun h8 => ?_) (fun h8 => ?_)
  · --t
    refine r_aload_n dX3_howIs_13 0 rfl ?_
    refine r_getI (by first | assumption | rfl) f_X3_31 rfl rfl dX3_howIs_14 ?_
    refine r_iload_n dX3_howIs_17 1 rfl ?_
    refine r_callSiF (As := [_, _]) c_X3_isIn l_X3_59 rfl rfl rfl (Nat.le_of_ble_eq_true rfl) dX3_howIs_18 (t_X3_isIn rfl hj32) ?_
    refine r_if_eq dX3_howIs_21 (tgt := 26) (by decide) (fun h21 => ?_) (fun h21 => ?_)
    · --t
      refine r_aload_n dX3_howIs_26 0 rfl ?_
      refine r_getI (by first | assumption | rfl) f_X3_34 rfl rfl dX3_howIs_27 ?_
      refine r_iload_n dX3_howIs_30 1 rfl ?_
      refine r_callSiF (As := [_, _]) c_X3_isIn l_X3_59 rfl rfl rfl (Nat.le_of_ble_eq_true rfl) dX3_howIs_31 (t_X3_isIn rfl hj32) ?_
      refine r_if_eq dX3_howIs_34 (tgt := 39) (by decide) (fun h34 => ?_) (fun h34 => ?_)
      · --t
        refine r_aload_n dX3_howIs_39 0 rfl ?_
        refine r_getI (by first | assumption | rfl) f_X3_37 rfl rfl dX3_howIs_40 ?_
        refine r_iload_n dX3_howIs_43 1 rfl ?_
        refine r_callSiF (As := [_, _]) c_X3_isIn l_X3_59 rfl rfl rfl (Nat.le_of_ble_eq_true rfl) dX3_howIs_44 (t_X3_isIn rfl hj32) ?_
        refine r_if_eq dX3_howIs_47 (tgt := 54) (by decide) (fun h47 => ?_) (fun h47 => ?_)
        · --t
          refine r_iconst dX3_howIs_54 (v := 0) rfl ?_
          refine r_iret rfl dX3_howIs_55 ?_
          refine ⟨?_, rfl⟩
          simp only [bI_0, e3, e4, e5, e6, bt_hm T _ hj, beq_eq_false_iff_ne, beq_iff_eq, ne_eq] at *
          congr 1; simp_all
        · --f
          refine r_iconst dX3_howIs_50 (v := 4) rfl ?_
          refine r_goto dX3_howIs_51 (tgt := 55) (by decide) ?_
          refine r_iret rfl dX3_howIs_55 ?_
          refine ⟨?_, rfl⟩
          simp only [bI_0, e3, e4, e5, e6, bt_hm T _ hj, beq_eq_false_iff_ne, beq_iff_eq, ne_eq] at *
          congr 1; simp_all
      · --f
        refine r_iconst dX3_howIs_37 (v := 3) rfl ?_
        refine r_iret rfl dX3_howIs_38 ?_
        refine ⟨?_, rfl⟩
        simp only [bI_0, e3, e4, e5, e6, bt_hm T _ hj, beq_eq_false_iff_ne, beq_iff_eq, ne_eq] at *
        congr 1; simp_all
    · --f
      refine r_iconst dX3_howIs_24 (v := 2) rfl ?_
      refine r_iret rfl dX3_howIs_25 ?_
      refine ⟨?_, rfl⟩
      simp only [bI_0, e3, e4, e5, e6, bt_hm T _ hj, beq_eq_false_iff_ne, beq_iff_eq, ne_eq] at *
      congr 1; simp_all
  · --f
    refine r_iconst dX3_howIs_11 (v := 1) rfl ?_
    refine r_iret rfl dX3_howIs_12 ?_
    refine ⟨?_, rfl⟩
    simp only [bI_0, e3, e4, e5, e6, bt_hm T _ hj, beq_eq_false_iff_ne, beq_iff_eq, ne_eq] at *
    congr 1; simp_all
theorem t_X3_atHome {G : mG} {d : Nat} {S : mS} {a : Nat} {T : mT} (ha : kd a = 3) (hT : TP S a T) (hW : WF T) : Call G (d + 1) M_X3_atHome [rv G a] S (fun v u => v = some (mkm (fun k => decide (k < tsz T) && (T.2.1 k == 0)) 16) ∧ u = S) := by
  refine call_of (lo := [(0, rv G a)]) (by decide +kernel) (Nat.le_of_ble_eq_true rfl) rfl ?_
  obtain ⟨s, hs, hs2, hs3, hs4⟩ := hW.sz
  refine r_aload_n dX3_atHome_0 0 rfl ?_
  refine r_callViF (As := []) c_X3_everyone (by first | assumption | rfl) l_X3_63 rfl rfl rfl (Nat.le_of_ble_eq_true rfl) dX3_atHome_1 (t_X3_everyone ha) ?_
  refine r_aload_n dX3_atHome_4 0 rfl ?_
  refine r_getI (by first | assumption | rfl) f_X3_28 rfl rfl dX3_atHome_5 ?_
  refine r_aload_n dX3_atHome_8 0 rfl ?_
  refine r_getI (by first | assumption | rfl) f_X3_31 rfl rfl dX3_atHome_9 ?_
  refine r_ior dX3_atHome_12 ?_
  refine r_aload_n dX3_atHome_13 0 rfl ?_
  refine r_getI (by first | assumption | rfl) f_X3_34 rfl rfl dX3_atHome_14 ?_
  refine r_ior dX3_atHome_17 ?_
  refine r_aload_n dX3_atHome_18 0 rfl ?_
  refine r_getI (by first | assumption | rfl) f_X3_37 rfl rfl dX3_atHome_19 ?_
  refine r_ior dX3_atHome_22 ?_
  refine r_iconst dX3_atHome_23 (v := -1) rfl ?_
  refine r_ixor dX3_atHome_24 ?_
  refine r_iand dX3_atHome_25 ?_
  refine r_iret rfl dX3_atHome_26 ?_
  refine ⟨?_, rfl⟩
  congr 1
  rw [hT.1.1, hs2, hT.2.1.1, hT.2.1.2.1, hT.2.1.2.2.1, hT.2.1.2.2.2, hs]
  refine mkm_eq (fun i hi => ?_) (fun i h1 h2 => ?_)
  · have hv := (hW.2.2 i hi).1
    rw [b_and, bt_every s hs4 i (by omega), bt_not _ (by omega), b_or, b_or, b_or, bt_hm T _ hi, bt_hm T _ hi, bt_hm T _ hi, bt_hm T _ hi]
    rcases hv with h | h | h | h | h <;> simp [h]
  · rw [b_and, bt_every s hs4 i (by omega)]
    have : ¬ i < s := by omega
    simp [this]
theorem t_X3_waitedFor {G : mG} {d : Nat} {S : mS} {a : Nat} {T : mT} (ha : kd a = 3) (hT : TP S a T) (hW : WF T) : Call G (d + 1) M_X3_waitedFor [rv G a] S (fun v u => v = some (awM T) ∧ u = S) := by
  refine call_of (lo := [(0, rv G a)]) (by decide +kernel) (Nat.le_of_ble_eq_true rfl) rfl ?_
  obtain ⟨s, hs, hs2, hs3, hs4⟩ := hW.sz
  refine r_aload_n dX3_waitedFor_0 0 rfl ?_
  refine r_callViF (As := []) c_X3_everyone (by first | assumption | rfl) l_X3_63 rfl rfl rfl (Nat.le_of_ble_eq_true rfl) dX3_waitedFor_1 (t_X3_everyone ha) ?_
  refine r_aload_n dX3_waitedFor_4 0 rfl ?_
  refine r_getI (by first | assumption | rfl) f_X3_28 rfl rfl dX3_waitedFor_5 ?_
  refine r_aload_n dX3_waitedFor_8 0 rfl ?_
  refine r_getI (by first | assumption | rfl) f_X3_40 rfl rfl dX3_waitedFor_9 ?_
  refine r_ior dX3_waitedFor_12 ?_
  refine r_iconst dX3_waitedFor_13 (v := -1) rfl ?_
  refine r_ixor dX3_waitedFor_14 ?_
  refine r_iand dX3_waitedFor_15 ?_
  refine r_iret rfl dX3_waitedFor_16 ?_
  refine ⟨?_, rfl⟩
  congr 1
  rw [hT.1.1, hs2, hT.2.1.1, hT.1.2.2.2.1]
  refine mkm_eq (fun i hi => ?_) (fun i h1 h2 => ?_)
  · rw [b_and, bt_every s hs4 i (by omega), bt_not _ (by omega), b_or, bt_hm T _ hi]
    unfold awp
    rw [hs, Bool.not_or, Bool.and_assoc]
  · rw [b_and, bt_every s hs4 i (by omega)]
    have : ¬ i < s := by omega
    simp [this]
theorem t_X3_countDown {G : mG} {d : Nat} {S : mS} {a : Nat} {T : mT} (ha : kd a = 3) (hT : TP S a T) (hW : WF T) : Call G (d + 2) M_X3_countDown [rv G a] S (fun v u => v = some (szF (awM T) 16) ∧ u = S) := by
  refine call_of (lo := [(0, rv G a)]) (by decide +kernel) (Nat.le_of_ble_eq_true rfl) rfl ?_
  refine r_aload_n dX3_countDown_0 0 rfl ?_
  refine r_callViF (As := []) c_X3_waitedFor (by first | assumption | rfl) l_X3_67 rfl rfl rfl (Nat.le_of_ble_eq_true rfl) dX3_countDown_1 (t_X3_waitedFor ha hT hW) ?_
  refine r_callSiF (As := [_]) c_J6_bitCount_0f7a4 l_X3_70 rfl rfl rfl (Nat.le_of_ble_eq_true rfl) dX3_countDown_4 t_J6_bitCount_0f7a4 ?_
  refine r_iret rfl dX3_countDown_7 ?_
  exact ⟨by rw [bc_ok (m := awM T) (mkm_hi _)], rfl⟩
end
section
/-! the class's Troop: what changes it -/
theorem bI_n0 (b : Bool) : bI b ≠ 0 ↔ b = true := by cases b <;> decide
theorem ap1 (a : Nat) : (a = a + 1) = False := by simp
theorem ap2 (a : Nat) : (a = a + 2) = False := by simp
theorem ap3 (a : Nat) : (a + 1 = a) = False := by simp
theorem ap4 (a : Nat) : (a + 2 = a) = False := by simp
theorem ap5 (a : Nat) : (a + 1 = a + 2) = False := by simp
theorem ap6 (a : Nat) : (a + 2 = a + 1) = False := by simp
def FR (a : Nat) (S u : mS) : Prop := ∀ b, b ≠ a → b ≠ a + 1 → b ≠ a + 2 → u b = S b
theorem FR.rf {a : Nat} {S : mS} : FR a S S := fun _ _ _ _ => rfl
theorem FR.tr {a : Nat} {S u w : mS} (h : FR a S u) (h2 : FR a u w) : FR a S w := fun b h1 h3 h4 => (h2 b h1 h3 h4).trans (h b h1 h3 h4)
theorem FR.up0 {a : Nat} {S u : mS} {f : Nat → Int32} (h : FR a S u) : FR a S (up1 u a f) := fun b h1 h2 h3 => (up1_n h1).trans (h b h1 h2 h3)
theorem FR.up1' {a : Nat} {S u : mS} {f : Nat → Int32} (h : FR a S u) : FR a S (up1 u (a + 1) f) := fun b h1 h2 h3 => (up1_n h2).trans (h b h1 h2 h3)
theorem FR.up2 {a : Nat} {S u : mS} {f : Nat → Int32} (h : FR a S u) : FR a S (up1 u (a + 2) f) := fun b h1 h2 h3 => (up1_n h3).trans (h b h1 h2 h3)
def hmk (hw : Nat → Int32) (h : Int32) : Int32 := mkm (fun k => hw k == h) 16
theorem hm_hmk (T : mT) (h : Int32) : hm T h = hmk T.2.1 h := rfl
theorem hmk_in (hw : Nat → Int32) (h : Int32) {k : Nat} (hk : k < 16) : hmk hw h ||| ((1 : Int32) <<< (nI k &&& 31)) = hmk (upd hw k h) h := by
  refine mkm_eq (fun i hi => ?_) (fun i h1 h2 => ?_)
  · rw [b_or, hmk, mkm_bt _ i hi, bt_one k (by omega) i (by omega)]
    by_cases e : i = k
    · subst e; simp [upd]
    · simp [upd, e]
  · rw [b_or, hmk, mkm_hi _ i h1 h2, bt_one k (by omega) i h2]
    have : ¬ i = k := by omega
    simp [this]
theorem hmk_out (hw : Nat → Int32) {h x : Int32} {k : Nat} (hx : x ≠ h) (hk : k < 16) : hmk hw h &&& (((1 : Int32) <<< (nI k &&& 31)) ^^^ (-1)) = hmk (upd hw k x) h := by
  refine mkm_eq (fun i hi => ?_) (fun i h1 h2 => ?_)
  · rw [b_and, hmk, mkm_bt _ i hi, bt_not _ (by omega), bt_one k (by omega) i (by omega)]
    by_cases e : i = k
    · subst e; simp [upd, hx]
    · simp [upd, e]
  · rw [b_and, hmk, mkm_hi _ i h1 h2]; rfl
theorem hmk_no {hw : Nat → Int32} {h x : Int32} {k : Nat} (h1 : hw k ≠ h) (hx : x ≠ h) : hmk (upd hw k x) h = hmk hw h := by
  refine mkm_congr 16 fun i hi => ?_
  by_cases e : i = k
  · subst e
    show (upd hw i x i == h) = _
    rw [show upd hw i x i = x by simp [upd], beq_eq_false_iff_ne.mpr hx, beq_eq_false_iff_ne.mpr h1]
  · simp [upd, e]
/-- two troops that agree where a troop is -/
def TE (T T' : mT) : Prop := (∀ j, j < 6 → T.1 j = T'.1 j) ∧ ∀ k, k < 16 → T.2.1 k = T'.2.1 k ∧ T.2.2.1 k = T'.2.2.1 k ∧ T.2.2.2 k = T'.2.2.2 k
theorem TE.hm {T T' : mT} (h : TE T T') (x : Int32) : hm T x = hm T' x := mkm_congr 16 fun k hk => by rw [(h.2 k hk).1]
theorem TP.te {S : mS} {a : Nat} {T T' : mT} (h : TP S a T) (e : TE T T') : TP S a T' := by
  obtain ⟨⟨a1, a2, a3, a4, a5, a6⟩, ⟨b1, b2, b3, b4⟩, c⟩ := h
  refine ⟨⟨a1.trans (e.1 0 (by omega)), a2.trans (e.1 2 (by omega)), a3.trans (e.1 1 (by omega)), a4.trans (e.1 5 (by omega)), a5.trans (e.1 3 (by omega)), a6.trans (e.1 4 (by omega))⟩, ⟨b1.trans (e.hm 1), b2.trans (e.hm 2), b3.trans (e.hm 3), b4.trans (e.hm 4)⟩, fun k hk => ?_⟩
  exact ⟨(c k hk).1.trans (e.2 k hk).2.1, (c k hk).2.trans (e.2 k hk).2.2⟩
theorem set_set (T : mT) {j : Nat} {h x : Int32} (hx : x ≠ h ∧ 0 ≠ h) (hj : j < 16) : hm (setH T j 0) h = hm (setH T j x) h := by
  show hmk (upd T.2.1 j 0) h = hmk (upd T.2.1 j x) h
  rw [← hmk_out T.2.1 hx.2 hj, ← hmk_out T.2.1 hx.1 hj]
theorem upd_upd (f : Nat → Int32) (k : Nat) (x y : Int32) : upd (upd f k x) k y = upd f k y := by funext j; simp only [upd]; split <;> rfl
theorem set_in (T : mT) {j : Nat} {h : Int32} (hj : j < 16) : hm (setH T j 0) h ||| ((1 : Int32) <<< (nI j &&& 31)) = hm (setH T j h) h := by
  show hmk (upd T.2.1 j 0) h ||| _ = hmk (upd T.2.1 j h) h
  rw [hmk_in _ h hj, upd_upd]
theorem t_X3_bringHome {G : mG} {d : Nat} {S : mS} {a j : Nat} {T : mT} (ha : kd a = 3) (hj : j < 16) (hT : TP S a T) : Call G d M_X3_bringHome [rv G a, .int (nI j)] S (fun v u => v = none ∧ TP u a (setH T j 0) ∧ FR a S u) := by
  refine call_of (lo := [(0, rv G a), (1, .int (nI j))]) (by decide +kernel) (Nat.le_of_ble_eq_true rfl) rfl ?_
  obtain ⟨k1, k2, l1, l2, f1, f2⟩ := kdT ha
  obtain ⟨⟨a1, a2, a3, a4, a5, a6⟩, ⟨b1, b2, b3, b4⟩, c⟩ := hT
  refine r_aload_n dX3_bringHome_0 0 rfl ?_
  refine r_dup dX3_bringHome_1 rfl ?_
  refine r_getI (by first | assumption | rfl) f_X3_28 rfl rfl dX3_bringHome_2 ?_
  refine r_iconst dX3_bringHome_5 (v := 1) rfl ?_
  refine r_iload_n dX3_bringHome_6 1 rfl ?_
  refine r_ishl dX3_bringHome_7 ?_
  refine r_iconst dX3_bringHome_8 (v := -1) rfl ?_
  refine r_ixor dX3_bringHome_9 ?_
  refine r_iand dX3_bringHome_10 ?_
  refine r_putI (by first | assumption | rfl) f_X3_28 rfl rfl rfl rfl dX3_bringHome_11 ?_
  refine r_aload_n dX3_bringHome_14 0 rfl ?_
  refine r_dup dX3_bringHome_15 rfl ?_
  refine r_getI (by first | assumption | rfl) f_X3_31 rfl rfl dX3_bringHome_16 ?_
  refine r_iconst dX3_bringHome_19 (v := 1) rfl ?_
  refine r_iload_n dX3_bringHome_20 1 rfl ?_
  refine r_ishl dX3_bringHome_21 ?_
  refine r_iconst dX3_bringHome_22 (v := -1) rfl ?_
  refine r_ixor dX3_bringHome_23 ?_
  refine r_iand dX3_bringHome_24 ?_
  refine r_putI (by first | assumption | rfl) f_X3_31 rfl rfl rfl rfl dX3_bringHome_25 ?_
  refine r_aload_n dX3_bringHome_28 0 rfl ?_
  refine r_dup dX3_bringHome_29 rfl ?_
  refine r_getI (by first | assumption | rfl) f_X3_34 rfl rfl dX3_bringHome_30 ?_
  refine r_iconst dX3_bringHome_33 (v := 1) rfl ?_
  refine r_iload_n dX3_bringHome_34 1 rfl ?_
  refine r_ishl dX3_bringHome_35 ?_
  refine r_iconst dX3_bringHome_36 (v := -1) rfl ?_
  refine r_ixor dX3_bringHome_37 ?_
  refine r_iand dX3_bringHome_38 ?_
  refine r_putI (by first | assumption | rfl) f_X3_34 rfl rfl rfl rfl dX3_bringHome_39 ?_
  refine r_aload_n dX3_bringHome_42 0 rfl ?_
  refine r_dup dX3_bringHome_43 rfl ?_
  refine r_getI (by first | assumption | rfl) f_X3_37 rfl rfl dX3_bringHome_44 ?_
  refine r_iconst dX3_bringHome_47 (v := 1) rfl ?_
  refine r_iload_n dX3_bringHome_48 1 rfl ?_
  refine r_ishl dX3_bringHome_49 ?_
  refine r_iconst dX3_bringHome_50 (v := -1) rfl ?_
  refine r_ixor dX3_bringHome_51 ?_
  refine r_iand dX3_bringHome_52 ?_
  refine r_putI (by first | assumption | rfl) f_X3_37 rfl rfl rfl rfl dX3_bringHome_53 ?_
  refine r_aload_n dX3_bringHome_56 0 rfl ?_
  refine r_getR (by first | assumption | rfl) f_X3_9 rfl rfl dX3_bringHome_57 (by first | assumption | rfl) ?_
  refine r_iload_n dX3_bringHome_60 1 rfl ?_
  refine r_iconst dX3_bringHome_61 (v := 0) rfl ?_
  refine r_iast (j := _) (by first | assumption | rfl) (by first | assumption | rfl) (by rw [l1]; exact hj) dX3_bringHome_62 ?_
  refine r_vret rfl dX3_bringHome_63 ?_
  refine ⟨rfl, ⟨⟨?_, ?_, ?_, ?_, ?_, ?_⟩, ⟨?_, ?_, ?_, ?_⟩, fun i hi => ⟨?_, ?_⟩⟩, (((((FR.rf).up0).up0).up0).up0).up1'⟩
  · simp only [up1, upd, ap1, ap2, reduceIte]; exact a1
  · simp only [up1, upd, ap1, ap2, reduceIte]; exact a2
  · simp only [up1, upd, ap1, ap2, reduceIte]; exact a3
  · simp only [up1, upd, ap1, ap2, reduceIte]; exact a4
  · simp only [up1, upd, ap1, ap2, reduceIte]; exact a5
  · simp only [up1, upd, ap1, ap2, reduceIte]; exact a6
  · simp only [up1, upd, ap1, ap2, reduceIte]; rw [b1]; exact hmk_out T.2.1 (by decide) hj
  · simp only [up1, upd, ap1, ap2, reduceIte]; rw [b2]; exact hmk_out T.2.1 (by decide) hj
  · simp only [up1, upd, ap1, ap2, reduceIte]; rw [b3]; exact hmk_out T.2.1 (by decide) hj
  · simp only [up1, upd, ap1, ap2, reduceIte]; rw [b4]; exact hmk_out T.2.1 (by decide) hj
  · simp only [up1, upd, setH, ap3, reduceIte, (c i hi).1]
  · simp only [up1, upd, setH, ap4, ap6, reduceIte, (c i hi).2]
theorem t_X3_missScout {G : mG} {d : Nat} {S : mS} {a j : Nat} {T : mT} (ha : kd a = 3) (hj : j < 16) (hT : TP S a T) : Call G (d + 1) M_X3_missScout [rv G a, .int (nI j)] S (fun v u => v = none ∧ TP u a (setH T j 4) ∧ FR a S u) := by
  refine call_of (lo := [(0, rv G a), (1, .int (nI j))]) (by decide +kernel) (Nat.le_of_ble_eq_true rfl) rfl ?_
  obtain ⟨k1, k2, l1, l2, f1, f2⟩ := kdT ha
  refine r_aload_n dX3_missScout_0 0 rfl ?_
  refine r_iload_n dX3_missScout_1 1 rfl ?_
  refine r_callVv (As := [_]) c_X3_bringHome (by first | assumption | rfl) l_X3_76 rfl rfl rfl (Nat.le_of_ble_eq_true rfl) dX3_missScout_2 (t_X3_bringHome ha hj hT) (fun u2 q2 => ?_)
  obtain ⟨-, hT1, hF1⟩ := q2
  obtain ⟨⟨a1, a2, a3, a4, a5, a6⟩, ⟨b1, b2, b3, b4⟩, c⟩ := hT1
  refine r_aload_n dX3_missScout_5 0 rfl ?_
  refine r_dup dX3_missScout_6 rfl ?_
  refine r_getI (by first | assumption | rfl) f_X3_37 rfl rfl dX3_missScout_7 ?_
  refine r_iconst dX3_missScout_10 (v := 1) rfl ?_
  refine r_iload_n dX3_missScout_11 1 rfl ?_
  refine r_ishl dX3_missScout_12 ?_
  refine r_ior dX3_missScout_13 ?_
  refine r_putI (by first | assumption | rfl) f_X3_37 rfl rfl rfl rfl dX3_missScout_14 ?_
  refine r_vret rfl dX3_missScout_17 ?_
  refine ⟨rfl, ⟨⟨?_, ?_, ?_, ?_, ?_, ?_⟩, ⟨?_, ?_, ?_, ?_⟩, fun i hi => ⟨?_, ?_⟩⟩, hF1.up0⟩
  · simp only [up1, upd, reduceIte]; exact a1
  · simp only [up1, upd, reduceIte]; exact a2
  · simp only [up1, upd, reduceIte]; exact a3
  · simp only [up1, upd, reduceIte]; exact a4
  · simp only [up1, upd, reduceIte]; exact a5
  · simp only [up1, upd, reduceIte]; exact a6
  · simp only [up1, upd, reduceIte]; rw [b1]; exact set_set T (by decide) hj
  · simp only [up1, upd, reduceIte]; rw [b2]; exact set_set T (by decide) hj
  · simp only [up1, upd, reduceIte]; rw [b3]; exact set_set T (by decide) hj
  · simp only [up1, upd, reduceIte]; rw [b4]; exact set_in T hj
  · simp only [up1, ap3, reduceIte]; exact (c i hi).1
  · simp only [up1, ap4, reduceIte]; exact (c i hi).2

theorem TP.fr {S : mS} {a j : Nat} {T : mT} (x : Int32) (h : TP S a T) : TP (up1 S (a + 1) (upd (S (a + 1)) j x)) a (T.1, T.2.1, upd T.2.2.1 j x, T.2.2.2) := by
  obtain ⟨⟨a1, a2, a3, a4, a5, a6⟩, ⟨b1, b2, b3, b4⟩, c⟩ := h
  refine ⟨?_, ?_, fun i hi => ⟨?_, ?_⟩⟩
  · simp only [up1, ap1, reduceIte]; exact ⟨a1, a2, a3, a4, a5, a6⟩
  · simp only [up1, ap1, reduceIte]; exact ⟨b1, b2, b3, b4⟩
  · simp only [up1, reduceIte, upd, (c i hi).1]
  · simp only [up1, ap6, reduceIte]; exact (c i hi).2
theorem TP.tm {S : mS} {a j : Nat} {T : mT} (x : Int32) (h : TP S a T) : TP (up1 S (a + 2) (upd (S (a + 2)) j x)) a (T.1, T.2.1, T.2.2.1, upd T.2.2.2 j x) := by
  obtain ⟨⟨a1, a2, a3, a4, a5, a6⟩, ⟨b1, b2, b3, b4⟩, c⟩ := h
  refine ⟨?_, ?_, fun i hi => ⟨?_, ?_⟩⟩
  · simp only [up1, ap2, reduceIte]; exact ⟨a1, a2, a3, a4, a5, a6⟩
  · simp only [up1, ap2, reduceIte]; exact ⟨b1, b2, b3, b4⟩
  · simp only [up1, ap5, reduceIte]; exact (c i hi).1
  · simp only [up1, reduceIte, upd, (c i hi).2]
theorem TP.struck {S : mS} {a : Nat} {T : mT} (x : Int32) (h : TP S a T) : TP (up1 S a (upd (S a) 7 x)) a (upd T.1 5 x, T.2) := by
  obtain ⟨⟨a1, a2, a3, a4, a5, a6⟩, ⟨b1, b2, b3, b4⟩, c⟩ := h
  refine ⟨?_, ?_, fun i hi => ⟨?_, ?_⟩⟩
  · simp only [up1, upd, reduceIte, Nat.reduceEqDiff]; exact ⟨a1, a2, a3, trivial, a5, a6⟩
  · simp only [up1, upd, reduceIte, Nat.reduceEqDiff]; exact ⟨b1, b2, b3, b4⟩
  · simp only [up1, ap3, reduceIte]; exact (c i hi).1
  · simp only [up1, ap4, reduceIte]; exact (c i hi).2
def wk1 (T : mT) (j : Nat) : mT := if T.2.2.1 j - 1 ≤ 0 then (T.1, upd T.2.1 j 0, upd T.2.2.1 j 0, if j < tsz T then T.2.2.2 else upd T.2.2.2 j 0) else (T.1, T.2.1, upd T.2.2.1 j (T.2.2.1 j - 1), T.2.2.2)
theorem sz_lt {T : mT} (hW : WF T) {j : Nat} (hj : j < 16) : (0 ≤ nI j ∧ nI j < T.1 0) ↔ j < tsz T := by
  obtain ⟨s, hs, hs2, hs3, hs4⟩ := hW.sz
  rw [hs, hs2, nI_ltI (by omega) (by omega)]
  exact ⟨fun h => h.2, fun h => ⟨nI_pos' (by omega), h⟩⟩
theorem t_X3_walkOn {G : mG} {d : Nat} {S : mS} {a j : Nat} {T : mT} (ha : kd a = 3) (hj : j < 16) (hT : TP S a T) (hW : WF T) : Call G (d + 1) M_X3_walkOn [rv G a, .int (nI j)] S (fun v u => v = none ∧ TP u a (wk1 T j) ∧ FR a S u) := by
  refine call_of (lo := [(0, rv G a), (1, .int (nI j))]) (by decide +kernel) (Nat.le_of_ble_eq_true rfl) rfl ?_
  obtain ⟨k1, k2, l1, l2, f1, f2⟩ := kdT ha
  have hl1 : j < ln (a + 1) := by rw [l1]; exact hj
  have hl2 : j < ln (a + 2) := by rw [l2]; exact hj
  have e0 := (hT.2.2 j hj).1
  have hT1 := hT.fr (j := j) (S (a + 1) j - 1)
  have e1 : up1 S (a + 1) (upd (S (a + 1)) j (S (a + 1) j - 1)) (a + 1) j = T.2.2.1 j - 1 := by simp only [up1, upd, reduceIte, e0]
  have hF1 : FR a S (up1 S (a + 1) (upd (S (a + 1)) j (S (a + 1) j - 1))) := (FR.rf).up1'
  refine r_aload_n dX3_walkOn_0 0 rfl ?_
  refine r_getR (by first | assumption | rfl) f_X3_9 rfl rfl dX3_walkOn_1 (by first | assumption | rfl) ?_
  refine r_iload_n dX3_walkOn_4 1 rfl ?_
  refine r_dup2 dX3_walkOn_5 rfl rfl ?_
  refine r_iald (j := _) (by first | assumption | rfl) (by first | assumption | rfl) (by first | assumption | decide) dX3_walkOn_6 ?_
  refine r_iconst dX3_walkOn_7 (v := 1) rfl ?_
  refine r_isub dX3_walkOn_8 ?_
  refine r_iast (j := _) (by first | assumption | rfl) (by first | assumption | rfl) (by first | assumption | decide) dX3_walkOn_9 ?_
  generalize up1 S (a + 1) (upd (S (a + 1)) j (S (a + 1) j - 1)) = S1 at hT1 e1 hF1 ⊢
  refine r_aload_n dX3_walkOn_10 0 rfl ?_
  refine r_getR (by first | assumption | rfl) f_X3_9 rfl rfl dX3_walkOn_11 (by first | assumption | rfl) ?_
  refine r_iload_n dX3_walkOn_14 1 rfl ?_
  refine r_iald (j := _) (by first | assumption | rfl) (by first | assumption | rfl) (by first | assumption | decide) dX3_walkOn_15 ?_
  refine r_if_gt dX3_walkOn_16 (tgt := 39) (by decide) (fun h16 => ?_) (fun h16 => ?_)
  · --t
    rw [e1] at h16
    refine r_vret rfl dX3_walkOn_39 ⟨rfl, ?_, hF1⟩
    unfold wk1
    rw [if_neg (Int32.not_le.mpr h16)]
    exact hT1.te ⟨fun _ _ => rfl, fun i hi => ⟨rfl, by simp only [e0], rfl⟩⟩
  · --f
    rw [e1] at h16
    refine r_aload_n dX3_walkOn_19 0 rfl ?_
    refine r_iload_n dX3_walkOn_20 1 rfl ?_
    refine r_callVv (As := [_]) c_X3_bringHome (by first | assumption | rfl) l_X3_76 rfl rfl rfl (Nat.le_of_ble_eq_true rfl) dX3_walkOn_21 (t_X3_bringHome ha hj hT1) (fun u21 q21 => ?_)
    obtain ⟨-, hT2, hF2⟩ := q21
    refine r_aload_n dX3_walkOn_24 0 rfl ?_
    refine r_iload_n dX3_walkOn_25 1 rfl ?_
    refine r_callViF (As := [_]) c_X3_hasScout (by first | assumption | rfl) l_X3_55 rfl rfl rfl (Nat.le_of_ble_eq_true rfl) dX3_walkOn_26 (t_X3_hasScout ha) ?_
    refine r_if_ne dX3_walkOn_29 (tgt := 39) (by decide) (fun h29 => ?_) (fun h29 => ?_)
    · --t
      refine r_vret rfl dX3_walkOn_39 ⟨rfl, ?_, hF1.tr hF2⟩
      rw [bI_n0, decide_eq_true_iff, hT2.1.1] at h29
      unfold wk1
      rw [if_pos (Int32.not_lt.mp h16), if_pos ((sz_lt hW hj).mp h29)]
      exact hT2.te ⟨fun _ _ => rfl, fun i hi => ⟨rfl, by simp only [setH, upd_upd], rfl⟩⟩
    · --f
      refine r_aload_n dX3_walkOn_32 0 rfl ?_
      refine r_getR (by first | assumption | rfl) f_X3_15 rfl rfl dX3_walkOn_33 (by first | assumption | rfl) ?_
      refine r_iload_n dX3_walkOn_36 1 rfl ?_
      refine r_iconst dX3_walkOn_37 (v := 0) rfl ?_
      refine r_iast (j := _) (by first | assumption | rfl) (by first | assumption | rfl) (by first | assumption | decide) dX3_walkOn_38 ?_
      skip
      refine r_vret rfl dX3_walkOn_39 ?_
      rw [bI_0, decide_eq_false_iff_not, hT2.1.1] at h29
      refine ⟨rfl, ?_, (hF1.tr hF2).up2⟩
      unfold wk1
      rw [if_pos (Int32.not_lt.mp h16), if_neg (fun z => h29 ((sz_lt hW hj).mpr z))]
      exact (hT2.tm 0).te ⟨fun _ _ => rfl, fun i hi => ⟨rfl, by simp only [setH, upd_upd], rfl⟩⟩
theorem TE.rf {T : mT} : TE T T := ⟨fun _ _ => rfl, fun _ _ => ⟨rfl, rfl, rfl⟩⟩
theorem wlk_hw {T : mT} {pat : Int32} {k : Nat} : (wlkT T pat k).2.1 k = T.2.1 k := by simp [wlkT]
theorem wlk_fr {T : mT} {pat : Int32} {k : Nat} : (wlkT T pat k).2.2.1 k = T.2.2.1 k := by simp [wlkT]
theorem wlk_sz {T : mT} {pat : Int32} {k : Nat} : tsz (wlkT T pat k) = tsz T := by simp [wlkT, tsz]
theorem wlk_0 {T : mT} {pat : Int32} : TE T (wlkT T pat 0) := by
  refine ⟨fun j _ => ?_, fun k _ => ⟨?_, ?_, ?_⟩⟩
  · simp only [wlkT, mkm, Int32.or_zero]; split <;> simp_all
  · simp [wlkT]
  · simp [wlkT]
  · simp [wlkT]
theorem wlk_3 {T : mT} {pat : Int32} {k : Nat} (h : T.2.1 k = 3) : TE (wk1 (wlkT T pat k) k) (wlkT T pat (k + 1)) := by
  have h4 : ¬ T.2.1 k = 4 := by rw [h]; decide
  unfold wk1
  rw [wlk_fr, wlk_sz]
  by_cases h2 : T.2.2.1 k - 1 ≤ 0
  · rw [if_pos h2]
    refine ⟨fun j _ => ?_, fun i hi => ⟨?_, ?_, ?_⟩⟩
    · simp [wlkT, mkm, h4]
    · simp only [wlkT, upd]
      by_cases e : i = k
      · subst e; simp [h, h2]
      · have : i < k + 1 ↔ i < k := by omega
        simp [e, this]
    · simp only [wlkT, upd]
      by_cases e : i = k
      · subst e; simp [h, h2]
      · have : i < k + 1 ↔ i < k := by omega
        simp [e, this]
    · by_cases e : i = k
      · subst e
        by_cases h5 : i < tsz T
        · simp [wlkT, upd, h, h2, h5]
          intro z; omega
        · simp [wlkT, upd, h, h2, h5]
      · have : i < k + 1 ↔ i < k := by omega
        by_cases h5 : k < tsz T
        · simp [wlkT, upd, e, this, h5]
        · simp [wlkT, upd, e, this, h5]
  · rw [if_neg h2]
    refine ⟨fun j _ => ?_, fun i hi => ⟨?_, ?_, ?_⟩⟩
    · simp [wlkT, mkm, h4]
    · simp only [wlkT]
      by_cases e : i = k
      · subst e; simp [h2]
      · have : i < k + 1 ↔ i < k := by omega
        simp [this]
    · simp only [wlkT, upd]
      by_cases e : i = k
      · subst e; simp [h, h2]
      · have : i < k + 1 ↔ i < k := by omega
        simp [e, this]
    · simp only [wlkT]
      by_cases e : i = k
      · subst e; simp [h2]
      · have : i < k + 1 ↔ i < k := by omega
        simp [this]
theorem wlk_4 {T : mT} {pat : Int32} {k : Nat} (h : T.2.1 k = 4) : TE ((if pat < T.2.2.1 k + 1 then upd (wlkT T pat k).1 5 ((wlkT T pat k).1 5 ||| ((1 : Int32) <<< (nI k &&& 31))) else (wlkT T pat k).1), (wlkT T pat k).2.1, upd (wlkT T pat k).2.2.1 k (T.2.2.1 k + 1), (wlkT T pat k).2.2.2) (wlkT T pat (k + 1)) := by
  have h3 : ¬ T.2.1 k = 3 := by rw [h]; decide
  refine ⟨fun j _ => ?_, fun i hi => ⟨?_, ?_, ?_⟩⟩
  · by_cases h2 : pat < T.2.2.1 k + 1
    · by_cases e : j = 5
      · subst e; simp [wlkT, mkm, h, h2, upd, Int32.or_assoc]
      · simp [wlkT, upd, h2, e]
    · by_cases e : j = 5
      · subst e; simp [wlkT, mkm, h2]
      · simp [wlkT, h2, e]
  · simp only [wlkT]
    by_cases e : i = k
    · subst e; simp [h3]
    · have : i < k + 1 ↔ i < k := by omega
      simp [this]
  · simp only [wlkT, upd]
    by_cases e : i = k
    · subst e; simp [h]
    · have : i < k + 1 ↔ i < k := by omega
      simp [e, this]
  · simp only [wlkT]
    by_cases e : i = k
    · subst e; simp [h3]
    · have : i < k + 1 ↔ i < k := by omega
      simp [this]
theorem wlk_n {T : mT} {pat : Int32} {k : Nat} (h3 : ¬ T.2.1 k = 3) (h4 : ¬ T.2.1 k = 4) : TE (wlkT T pat k) (wlkT T pat (k + 1)) := by
  refine ⟨fun j _ => ?_, fun i hi => ⟨?_, ?_, ?_⟩⟩
  · simp [wlkT, mkm, h4]
  · simp only [wlkT]
    by_cases e : i = k
    · subst e; simp [h3]
    · have : i < k + 1 ↔ i < k := by omega
      simp [this]
  · simp only [wlkT]
    by_cases e : i = k
    · subst e; simp [h3, h4]
    · have : i < k + 1 ↔ i < k := by omega
      simp [this]
  · simp only [wlkT]
    by_cases e : i = k
    · subst e; simp [h3]
    · have : i < k + 1 ↔ i < k := by omega
      simp [this]
theorem wlk_no {T : mT} {pat : Int32} (h3 : hm T 3 = 0) (h4 : hm T 4 = 0) : ∀ n, n ≤ 16 → TE T (wlkT T pat n) := by
  have n3 : ∀ k, k < 16 → ¬ T.2.1 k = 3 := fun k hk z => by
    have := (mkm_0 _).mp h3 k hk
    simp [z] at this
  have n4 : ∀ k, k < 16 → ¬ T.2.1 k = 4 := fun k hk z => by
    have := (mkm_0 _).mp h4 k hk
    simp [z] at this
  intro n
  induction n with
  | zero => intro _; exact wlk_0
  | succ n ih =>
    intro hn
    obtain ⟨e1, e2⟩ := ih (by omega)
    obtain ⟨g1, g2⟩ := wlk_n (pat := pat) (n3 n (by omega)) (n4 n (by omega))
    exact ⟨fun j hj => (e1 j hj).trans (g1 j hj), fun k hk => ⟨(e2 k hk).1.trans (g2 k hk).1, (e2 k hk).2.1.trans (g2 k hk).2.1, (e2 k hk).2.2.trans (g2 k hk).2.2⟩⟩
end
section
/-! the class's Troop: the gate, a minute, coming, beginning, copying -/
theorem at_gen {G : mG} {d : Nat} {M : mM} {Q : Option Int32 → mS → Prop} {pc : Nat} {lo : List (Nat × Value)} {st : List Value} {S : mS} (h : ∀ w, w = S → At G d M Q pc lo st w) : At G d M Q pc lo st S := h S rfl
theorem TE.tr {T U V : mT} (h : TE T U) (g : TE U V) : TE T V := ⟨fun j hj => (h.1 j hj).trans (g.1 j hj), fun k hk => ⟨(h.2 k hk).1.trans (g.2 k hk).1, (h.2 k hk).2.1.trans (g.2 k hk).2.1, (h.2 k hk).2.2.trans (g.2 k hk).2.2⟩⟩
theorem c16 {k : Nat} (h : k < 16) : ¬ (16 : Int32) ≤ nI k := nI_ge (b := 16) h (by decide)
/-- the first loop of beginHike: those inside below n get their minutes and one hike more -/
def bg1 (T : mT) (away : Int32) (n : Nat) : mT := (T.1, T.2.1, fun k => if k < n ∧ T.2.1 k = 1 then away else T.2.2.1 k, fun k => if k < n ∧ T.2.1 k = 1 then T.2.2.2 k + 1 else T.2.2.2 k)
/-- behind the straight part -/
def bg2 (T : mT) (away : Int32) : mT := ((begT T away).1, (begT T away).2.1, (bg1 T away 16).2.2)
/-- the second loop: those below n who are none any more -/
def bg3 (T : mT) (away : Int32) (n : Nat) : mT := ((begT T away).1, (begT T away).2.1, fun k => if (T.1 2).toNatClampNeg ≤ k ∧ k < n ∧ ¬ (begT T away).2.1 k = 3 then 0 else (bg1 T away 16).2.2.1 k, fun k => if (T.1 2).toNatClampNeg ≤ k ∧ k < n ∧ ¬ (begT T away).2.1 k = 3 then 0 else (bg1 T away 16).2.2.2 k)
theorem bg1_0 {T : mT} {away : Int32} : TE T (bg1 T away 0) := ⟨fun _ _ => rfl, fun k _ => ⟨rfl, by simp [bg1], by simp [bg1]⟩⟩
theorem bg1_y {T : mT} {away : Int32} {k : Nat} (h : T.2.1 k = 1) : TE (T.1, T.2.1, upd (bg1 T away k).2.2.1 k away, upd (bg1 T away k).2.2.2 k (T.2.2.2 k + 1)) (bg1 T away (k + 1)) := by
  refine ⟨fun _ _ => rfl, fun i _ => ⟨rfl, ?_, ?_⟩⟩
  · simp only [bg1, upd]
    by_cases e : i = k
    · subst e; simp [h]
    · have : i < k + 1 ↔ i < k := by omega
      simp [e, this]
  · simp only [bg1, upd]
    by_cases e : i = k
    · subst e; simp [h]
    · have : i < k + 1 ↔ i < k := by omega
      simp [e, this]
theorem bg1_n {T : mT} {away : Int32} {k : Nat} (h : ¬ T.2.1 k = 1) : TE (bg1 T away k) (bg1 T away (k + 1)) := by
  refine ⟨fun _ _ => rfl, fun i _ => ⟨rfl, ?_, ?_⟩⟩
  · simp only [bg1]
    by_cases e : i = k
    · subst e; simp [h]
    · have : i < k + 1 ↔ i < k := by omega
      simp [this]
  · simp only [bg1]
    by_cases e : i = k
    · subst e; simp [h]
    · have : i < k + 1 ↔ i < k := by omega
      simp [this]
theorem bg3_0 {T : mT} {away : Int32} {n : Nat} (hn : n = (T.1 2).toNatClampNeg) : TE (bg2 T away) (bg3 T away n) := by
  refine ⟨fun _ _ => rfl, fun k _ => ⟨rfl, ?_, ?_⟩⟩
  · have : ¬ ((T.1 2).toNatClampNeg ≤ k ∧ k < n ∧ ¬ (begT T away).2.1 k = 3) := by omega
    simp only [bg2, bg3, if_neg this]
  · have : ¬ ((T.1 2).toNatClampNeg ≤ k ∧ k < n ∧ ¬ (begT T away).2.1 k = 3) := by omega
    simp only [bg2, bg3, if_neg this]
theorem bg3_y {T : mT} {away : Int32} {k : Nat} (hn : (T.1 2).toNatClampNeg ≤ k) (h : ¬ (begT T away).2.1 k = 3) : TE ((bg3 T away k).1, (bg3 T away k).2.1, upd (bg3 T away k).2.2.1 k 0, upd (bg3 T away k).2.2.2 k 0) (bg3 T away (k + 1)) := by
  refine ⟨fun _ _ => rfl, fun i _ => ⟨rfl, ?_, ?_⟩⟩
  · simp only [bg3, upd]
    by_cases e : i = k
    · subst e; simp [h, hn]
    · have : i < k + 1 ↔ i < k := by omega
      simp [e, this]
  · simp only [bg3, upd]
    by_cases e : i = k
    · subst e; simp [h, hn]
    · have : i < k + 1 ↔ i < k := by omega
      simp [e, this]
theorem bg3_n {T : mT} {away : Int32} {k : Nat} (h : (begT T away).2.1 k = 3) : TE (bg3 T away k) (bg3 T away (k + 1)) := by
  refine ⟨fun _ _ => rfl, fun i _ => ⟨rfl, ?_, ?_⟩⟩
  · simp only [bg3]
    by_cases e : i = k
    · subst e; simp [h]
    · have : i < k + 1 ↔ i < k := by omega
      simp [this]
  · simp only [bg3]
    by_cases e : i = k
    · subst e; simp [h]
    · have : i < k + 1 ↔ i < k := by omega
      simp [this]
theorem bg3_16 {T : mT} {away : Int32} : TE (bg3 T away 16) (begT T away) := by
  refine ⟨fun _ _ => rfl, fun k hk => ⟨rfl, ?_, ?_⟩⟩
  · by_cases h1 : T.2.1 k = 1
    · simp [bg3, bg1, begT, h1, hk]
    · by_cases h3 : T.2.1 k = 3
      · simp [bg3, bg1, begT, h3]
      · by_cases hn : k < (T.1 2).toNatClampNeg
        · have : ¬ (T.1 2).toNatClampNeg ≤ k := by omega
          simp [bg3, bg1, begT, h1, h3, hn, this]
        · have : (T.1 2).toNatClampNeg ≤ k := by omega
          simp [bg3, bg1, begT, h1, h3, this, hk]
  · by_cases h1 : T.2.1 k = 1
    · simp [bg3, bg1, begT, h1, hk]
    · by_cases h3 : T.2.1 k = 3
      · simp [bg3, bg1, begT, h3]
      · by_cases hn : k < (T.1 2).toNatClampNeg
        · have : ¬ (T.1 2).toNatClampNeg ≤ k := by omega
          simp [bg3, bg1, begT, h1, h3, hn, this]
        · have : (T.1 2).toNatClampNeg ≤ k := by omega
          simp [bg3, bg1, begT, h1, h3, this, hk]
section HIKE
variable {G : mG} {d : Nat} {S0 : mS} {a : Nat} {T : mT} {away : Int32} {Q : Option Int32 → mS → Prop}
theorem lp_X3_beginHike1 (ha : kd a = 3) (hx : ∀ u, TP u a (bg1 T away 16) → FR a S0 u → At G (d + 1) M_X3_beginHike Q 42 [(0, rv G a), (1, .int away)] [] u) : ∀ n k S, n + k = 16 → TP S a (bg1 T away k) → FR a S0 S → At G (d + 1) M_X3_beginHike Q 2 [(0, rv G a), (1, .int away), (2, .int (nI k))] [] S := by
  obtain ⟨k1, k2, l1, l2, f1, f2⟩ := kdT ha
  intro n
  induction n with
  | zero =>
    intro k S hk hT hF
    obtain rfl : k = 16 := by omega
    refine r_iload_n dX3_beginHike_2 2 rfl ?_
    refine r_bipush dX3_beginHike_3 (v := 16) (by decide +kernel) ?_
    refine r_icmp_ge dX3_beginHike_5 (tgt := 42) (by decide) (fun h5 => ?_) (fun h5 => ?_)
    · --t
      exact r_sub [0, 1] rfl (hx _ hT hF)
    · --f
      exact absurd (show (16 : Int32) ≤ nI 16 by decide) h5
  | succ n ih =>
    intro k S hk hT hF
    have hk16 : k < 16 := by omega
    have hk32 : k < 32 := by omega
    have hl1 : k < ln (a + 1) := by rw [l1]; exact hk16
    have hl2 : k < ln (a + 2) := by rw [l2]; exact hk16
    have eb : bt (S a 3) k = (T.2.1 k == 1) := by rw [hT.2.1.1, bt_hm _ _ hk16]; rfl
    have e2 : up1 S (a + 1) (upd (S (a + 1)) k away) (a + 2) k = T.2.2.2 k := by rw [up1_n (by omega), (hT.2.2 k hk16).2]; simp [bg1]
    refine r_iload_n dX3_beginHike_2 2 rfl ?_
    refine r_bipush dX3_beginHike_3 (v := 16) (by decide +kernel) ?_
    refine r_icmp_ge dX3_beginHike_5 (tgt := 42) (by decide) (fun h5 => ?_) (fun h5 => ?_)
    · --t
      exact absurd h5 (c16 hk16)
    · --f
      refine r_aload_n dX3_beginHike_8 0 rfl ?_
      refine r_getI (by first | assumption | rfl) f_X3_28 rfl rfl dX3_beginHike_9 ?_
      refine r_iload_n dX3_beginHike_12 2 rfl ?_
      refine r_callSiF (As := [_, _]) c_X3_isIn l_X3_59 rfl rfl rfl (Nat.le_of_ble_eq_true rfl) dX3_beginHike_13 (t_X3_isIn rfl hk32) ?_
      refine r_if_eq dX3_beginHike_16 (tgt := 36) (by decide) (fun h16 => ?_) (fun h16 => ?_)
      · --t
        rw [eb, bI_0, beq_eq_false_iff_ne] at h16
        refine r_iinc (lo2 := [(0, _), (1, _), (2, _)]) dX3_beginHike_36 2 rfl (w := 1) rfl (Nat.le_of_ble_eq_true rfl) [1, 2, 0] rfl ?_
        refine r_goto dX3_beginHike_39 (tgt := 2) (by decide) ?_
        rw [nI_1]
        exact ih (k + 1) _ (by omega) (hT.te (bg1_n h16)) hF
      · --f
        refine r_aload_n dX3_beginHike_19 0 rfl ?_
        refine r_getR (by first | assumption | rfl) f_X3_9 rfl rfl dX3_beginHike_20 (by first | assumption | rfl) ?_
        refine r_iload_n dX3_beginHike_23 2 rfl ?_
        refine r_iload_n dX3_beginHike_24 1 rfl ?_
        refine r_iast (j := _) (by first | assumption | rfl) (by first | assumption | rfl) (by first | assumption | decide) dX3_beginHike_25 ?_
        refine r_aload_n dX3_beginHike_26 0 rfl ?_
        refine r_getR (by first | assumption | rfl) f_X3_15 rfl rfl dX3_beginHike_27 (by first | assumption | rfl) ?_
        refine r_iload_n dX3_beginHike_30 2 rfl ?_
        refine r_dup2 dX3_beginHike_31 rfl rfl ?_
        refine r_iald (j := _) (by first | assumption | rfl) (by first | assumption | rfl) (by first | assumption | decide) dX3_beginHike_32 ?_
        refine r_iconst dX3_beginHike_33 (v := 1) rfl ?_
        refine r_iadd dX3_beginHike_34 ?_
        refine r_iast (j := _) (by first | assumption | rfl) (by first | assumption | rfl) (by first | assumption | decide) dX3_beginHike_35 ?_
        refine r_iinc (lo2 := [(0, _), (1, _), (2, _)]) dX3_beginHike_36 2 rfl (w := 1) rfl (Nat.le_of_ble_eq_true rfl) [1, 2, 0] rfl ?_
        refine r_goto dX3_beginHike_39 (tgt := 2) (by decide) ?_
        rw [nI_1]
        rw [eb, bI_0, beq_eq_false_iff_ne, ne_eq, Classical.not_not] at h16
        have h1 := (hT.fr (j := k) away).tm (j := k) (T.2.2.2 k + 1)
        rw [e2]
        exact ih (k + 1) _ (by omega) (TP.te h1 (bg1_y h16)) (hF.up1'.up2)
theorem lp_X3_beginHike2 (ha : kd a = 3) (hW : WF T) (hx : ∀ u, TP u a (begT T away) → FR a S0 u → Q none u) : ∀ n k S, n + k = 16 → (T.1 2).toNatClampNeg ≤ k → TP S a (bg3 T away k) → FR a S0 S → At G (d + 1) M_X3_beginHike Q 140 [(0, rv G a), (1, .int away), (2, .int (nI k))] [] S := by
  obtain ⟨k1, k2, l1, l2, f1, f2⟩ := kdT ha
  intro n
  induction n with
  | zero =>
    intro k S hk hn hT hF
    obtain rfl : k = 16 := by omega
    refine r_iload_n dX3_beginHike_140 2 rfl ?_
    refine r_bipush dX3_beginHike_141 (v := 16) (by decide +kernel) ?_
    refine r_icmp_ge dX3_beginHike_143 (tgt := 177) (by decide) (fun h143 => ?_) (fun h143 => ?_)
    · --t
      refine r_vret rfl dX3_beginHike_177 ?_
      exact hx _ (hT.te bg3_16) hF
    · --f
      exact absurd (show (16 : Int32) ≤ nI 16 by decide) h143
  | succ n ih =>
    intro k S hk hn hT hF
    have hk16 : k < 16 := by omega
    have hk32 : k < 32 := by omega
    have hl1 : k < ln (a + 1) := by rw [l1]; exact hk16
    have hl2 : k < ln (a + 2) := by rw [l2]; exact hk16
    have eb : bt (S a 5) k = ((begT T away).2.1 k == 3) := by rw [hT.2.1.2.2.1, bt_hm _ _ hk16]; rfl
    refine r_iload_n dX3_beginHike_140 2 rfl ?_
    refine r_bipush dX3_beginHike_141 (v := 16) (by decide +kernel) ?_
    refine r_icmp_ge dX3_beginHike_143 (tgt := 177) (by decide) (fun h143 => ?_) (fun h143 => ?_)
    · --t
      exact absurd h143 (c16 hk16)
    · --f
      refine r_aload_n dX3_beginHike_146 0 rfl ?_
      refine r_getI (by first | assumption | rfl) f_X3_34 rfl rfl dX3_beginHike_147 ?_
      refine r_iload_n dX3_beginHike_150 2 rfl ?_
      refine r_callSiF (As := [_, _]) c_X3_isIn l_X3_59 rfl rfl rfl (Nat.le_of_ble_eq_true rfl) dX3_beginHike_151 (t_X3_isIn rfl hk32) ?_
      refine r_if_ne dX3_beginHike_154 (tgt := 171) (by decide) (fun h154 => ?_) (fun h154 => ?_)
      · --t
        rw [eb, bI_n0, beq_iff_eq] at h154
        refine r_iinc (lo2 := [(0, _), (1, _), (2, _)]) dX3_beginHike_171 2 rfl (w := 1) rfl (Nat.le_of_ble_eq_true rfl) [1, 2, 0] rfl ?_
        refine r_goto dX3_beginHike_174 (tgt := 140) (by decide) ?_
        rw [nI_1]
        exact ih (k + 1) _ (by omega) (by omega) (hT.te (bg3_n h154)) hF
      · --f
        refine r_aload_n dX3_beginHike_157 0 rfl ?_
        refine r_getR (by first | assumption | rfl) f_X3_9 rfl rfl dX3_beginHike_158 (by first | assumption | rfl) ?_
        refine r_iload_n dX3_beginHike_161 2 rfl ?_
        refine r_iconst dX3_beginHike_162 (v := 0) rfl ?_
        refine r_iast (j := _) (by first | assumption | rfl) (by first | assumption | rfl) (by first | assumption | decide) dX3_beginHike_163 ?_
        refine r_aload_n dX3_beginHike_164 0 rfl ?_
        refine r_getR (by first | assumption | rfl) f_X3_15 rfl rfl dX3_beginHike_165 (by first | assumption | rfl) ?_
        refine r_iload_n dX3_beginHike_168 2 rfl ?_
        refine r_iconst dX3_beginHike_169 (v := 0) rfl ?_
        refine r_iast (j := _) (by first | assumption | rfl) (by first | assumption | rfl) (by first | assumption | decide) dX3_beginHike_170 ?_
        refine r_iinc (lo2 := [(0, _), (1, _), (2, _)]) dX3_beginHike_171 2 rfl (w := 1) rfl (Nat.le_of_ble_eq_true rfl) [1, 2, 0] rfl ?_
        refine r_goto dX3_beginHike_174 (tgt := 140) (by decide) ?_
        rw [nI_1]
        rw [eb, bI_0, beq_eq_false_iff_ne] at h154
        have h1 := (hT.fr (j := k) 0).tm (j := k) 0
        exact ih (k + 1) _ (by omega) (by omega) (TP.te h1 (bg3_y hn h154)) (hF.up1'.up2)
end HIKE

theorem TP.sc {S u : mS} {a : Nat} {T T' : mT} (h : TP S a T) (h1 : u (a + 1) = S (a + 1)) (h2 : u (a + 2) = S (a + 2)) (e1 : u a 0 = T'.1 0) (e2 : u a 1 = T'.1 2) (e3 : u a 2 = T'.1 1) (e4 : u a 7 = T'.1 5) (e5 : u a 8 = T'.1 3) (e6 : u a 9 = T'.1 4)
    (m1 : u a 3 = hm T' 1) (m2 : u a 4 = hm T' 2) (m3 : u a 5 = hm T' 3) (m4 : u a 6 = hm T' 4) (hr : T'.2.2 = T.2.2) : TP u a T' := by
  refine ⟨⟨e1, e2, e3, e4, e5, e6⟩, ⟨m1, m2, m3, m4⟩, fun k hk => ?_⟩
  rw [h1, h2, hr]
  exact h.2.2 k hk
theorem hm_beg1 {T : mT} {away : Int32} {n : Nat} (hn : (T.1 2).toNatClampNeg = n) (h16 : n ≤ 16) (e2 : T.1 2 = nI n) (hW : WF T) : hm T 2 &&& (((1 : Int32) <<< (T.1 2 &&& 31)) - 1) = mkm (fun k => (begT T away).2.1 k == 1) 16 := by
  rw [e2]
  refine mkm_eq (fun i hi => ?_) (fun i h1 h2 => ?_)
  · rw [b_and, bt_hm _ _ hi, bt_every n h16 i (by omega)]
    unfold begT
    dsimp only
    rw [hn]
    have hv := (hW.2.2 i hi).1
    by_cases hl : i < n
    · rcases hv with h | h | h | h | h <;> simp [h, hl]
    · rcases hv with h | h | h | h | h <;> simp [h, hl]
  · rw [b_and, hm, mkm_hi _ i h1 h2]; rfl
theorem hm_beg2 {T : mT} {away : Int32} (hW : WF T) : 0 = mkm (fun k => (begT T away).2.1 k == 2) 16 := by
  symm
  rw [mkm_0]
  intro i hi
  have hv := (hW.2.2 i hi).1
  unfold begT
  dsimp only
  by_cases hl : i < (T.1 2).toNatClampNeg
  · rcases hv with h | h | h | h | h <;> simp [h, hl]
  · rcases hv with h | h | h | h | h <;> simp [h, hl]
theorem hm_beg3 {T : mT} {away : Int32} (hW : WF T) : hm T 3 ||| hm T 1 = mkm (fun k => (begT T away).2.1 k == 3) 16 := by
  refine mkm_eq (fun i hi => ?_) (fun i h1 h2 => ?_)
  · rw [b_or, bt_hm _ _ hi, bt_hm _ _ hi]
    have hv := (hW.2.2 i hi).1
    unfold begT
    dsimp only
    by_cases hl : i < (T.1 2).toNatClampNeg
    · rcases hv with h | h | h | h | h <;> simp [h, hl]
    · rcases hv with h | h | h | h | h <;> simp [h, hl]
  · rw [b_or, hm, mkm_hi _ i h1 h2, hm, mkm_hi _ i h1 h2]; rfl
theorem hm_beg4 {T : mT} {away : Int32} {n : Nat} (hn : (T.1 2).toNatClampNeg = n) (h16 : n ≤ 16) (e2 : T.1 2 = nI n) (hW : WF T) : hm T 4 &&& (((1 : Int32) <<< (T.1 2 &&& 31)) - 1) = mkm (fun k => (begT T away).2.1 k == 4) 16 := by
  rw [e2]
  refine mkm_eq (fun i hi => ?_) (fun i h1 h2 => ?_)
  · rw [b_and, bt_hm _ _ hi, bt_every n h16 i (by omega)]
    unfold begT
    dsimp only
    rw [hn]
    have hv := (hW.2.2 i hi).1
    by_cases hl : i < n
    · rcases hv with h | h | h | h | h <;> simp [h, hl]
    · rcases hv with h | h | h | h | h <;> simp [h, hl]
  · rw [b_and, hm, mkm_hi _ i h1 h2]; rfl
theorem t_X3_beginHike {G : mG} {d : Nat} {S : mS} {a : Nat} {T : mT} {away : Int32} (ha : kd a = 3) (hT : TP S a T) (hW : WF T) : Call G (d + 1) M_X3_beginHike [rv G a, .int away] S (fun v u => v = none ∧ TP u a (begT T away) ∧ FR a S u) := by
  refine call_of (lo := [(0, rv G a), (1, .int away)]) (by decide +kernel) (Nat.le_of_ble_eq_true rfl) rfl ?_
  refine r_iconst dX3_beginHike_0 (v := 0) rfl ?_
  refine r_istore_n (lo2 := [(0, _), (1, _), (2, _)]) dX3_beginHike_1 rfl (Nat.le_of_ble_eq_true rfl) [1, 2, 0] rfl ?_
  refine lp_X3_beginHike1 (T := T) ha (fun u hT hF => ?_) 16 0 S (by omega) (hT.te bg1_0) FR.rf
  obtain ⟨n, hn, e2, hn1, hn2⟩ := hW.nx
  obtain ⟨⟨a1, a2, a3, a4, a5, a6⟩, ⟨b1, b2, b3, b4⟩, c⟩ := id hT
  replace b1 : u a 3 = hm T 1 := b1
  replace b2 : u a 4 = hm T 2 := b2
  replace b3 : u a 5 = hm T 3 := b3
  replace b4 : u a 6 = hm T 4 := b4
  replace a2 : u a 1 = T.1 2 := a2
  refine r_aload_n dX3_beginHike_42 0 rfl ?_
  refine r_dup dX3_beginHike_43 rfl ?_
  refine r_getI (by first | assumption | rfl) f_X3_43 rfl rfl dX3_beginHike_44 ?_
  refine r_iconst dX3_beginHike_47 (v := 1) rfl ?_
  refine r_iadd dX3_beginHike_48 ?_
  refine r_putI (by first | assumption | rfl) f_X3_43 rfl rfl rfl rfl dX3_beginHike_49 ?_
  refine r_aload_n dX3_beginHike_52 0 rfl ?_
  refine r_dup dX3_beginHike_53 rfl ?_
  refine r_getI (by first | assumption | rfl) f_X3_46 rfl rfl dX3_beginHike_54 ?_
  refine r_aload_n dX3_beginHike_57 0 rfl ?_
  refine r_getI (by first | assumption | rfl) f_X3_28 rfl rfl dX3_beginHike_58 ?_
  refine r_callSiF (As := [_]) c_J6_bitCount_0f7a4 l_X3_70 rfl rfl rfl (Nat.le_of_ble_eq_true rfl) dX3_beginHike_61 t_J6_bitCount_0f7a4 ?_
  refine r_iadd dX3_beginHike_64 ?_
  refine r_putI (by first | assumption | rfl) f_X3_46 rfl rfl rfl rfl dX3_beginHike_65 ?_
  refine r_aload_n dX3_beginHike_68 0 rfl ?_
  refine r_dup dX3_beginHike_69 rfl ?_
  refine r_getI (by first | assumption | rfl) f_X3_34 rfl rfl dX3_beginHike_70 ?_
  refine r_aload_n dX3_beginHike_73 0 rfl ?_
  refine r_getI (by first | assumption | rfl) f_X3_28 rfl rfl dX3_beginHike_74 ?_
  refine r_ior dX3_beginHike_77 ?_
  refine r_putI (by first | assumption | rfl) f_X3_34 rfl rfl rfl rfl dX3_beginHike_78 ?_
  refine r_aload_n dX3_beginHike_81 0 rfl ?_
  refine r_iconst dX3_beginHike_82 (v := 1) rfl ?_
  refine r_aload_n dX3_beginHike_83 0 rfl ?_
  refine r_getI (by first | assumption | rfl) f_X3_25 rfl rfl dX3_beginHike_84 ?_
  refine r_isub dX3_beginHike_87 ?_
  refine r_putI (by first | assumption | rfl) f_X3_25 rfl rfl rfl rfl dX3_beginHike_88 ?_
  refine r_aload_n dX3_beginHike_91 0 rfl ?_
  refine r_aload_n dX3_beginHike_92 0 rfl ?_
  refine r_getI (by first | assumption | rfl) f_X3_22 rfl rfl dX3_beginHike_93 ?_
  refine r_putI (by first | assumption | rfl) f_X3_18 rfl rfl rfl rfl dX3_beginHike_96 ?_
  refine r_aload_n dX3_beginHike_99 0 rfl ?_
  refine r_dup dX3_beginHike_100 rfl ?_
  refine r_getI (by first | assumption | rfl) f_X3_37 rfl rfl dX3_beginHike_101 ?_
  refine r_aload_n dX3_beginHike_104 0 rfl ?_
  refine r_callViF (As := []) c_X3_everyone (by first | assumption | rfl) l_X3_63 rfl rfl rfl (Nat.le_of_ble_eq_true rfl) dX3_beginHike_105 (t_X3_everyone ha) ?_
  refine r_iand dX3_beginHike_108 ?_
  refine r_putI (by first | assumption | rfl) f_X3_37 rfl rfl rfl rfl dX3_beginHike_109 ?_
  refine r_aload_n dX3_beginHike_112 0 rfl ?_
  refine r_iconst dX3_beginHike_113 (v := 0) rfl ?_
  refine r_putI (by first | assumption | rfl) f_X3_40 rfl rfl rfl rfl dX3_beginHike_114 ?_
  refine r_aload_n dX3_beginHike_117 0 rfl ?_
  refine r_aload_n dX3_beginHike_118 0 rfl ?_
  refine r_getI (by first | assumption | rfl) f_X3_31 rfl rfl dX3_beginHike_119 ?_
  refine r_aload_n dX3_beginHike_122 0 rfl ?_
  refine r_callViF (As := []) c_X3_everyone (by first | assumption | rfl) l_X3_63 rfl rfl rfl (Nat.le_of_ble_eq_true rfl) dX3_beginHike_123 (t_X3_everyone ha) ?_
  refine r_iand dX3_beginHike_126 ?_
  refine r_putI (by first | assumption | rfl) f_X3_28 rfl rfl rfl rfl dX3_beginHike_127 ?_
  refine r_aload_n dX3_beginHike_130 0 rfl ?_
  refine r_iconst dX3_beginHike_131 (v := 0) rfl ?_
  refine r_putI (by first | assumption | rfl) f_X3_31 rfl rfl rfl rfl dX3_beginHike_132 ?_
  refine at_gen (fun w hw => ?_)
  have hF2 : FR a S w := by rw [hw]; exact hF.up0.up0.up0.up0.up0.up0.up0.up0.up0
  have hT2 : TP w a (bg2 T away) := by
    refine TP.sc hT ?_ ?_ ?_ ?_ ?_ ?_ ?_ ?_ ?_ ?_ ?_ ?_ rfl <;> rw [hw] <;> simp only [up1, upd, reduceIte, Nat.reduceEqDiff, ap3, ap4]
    · exact a2
    · exact a2
    · rw [a3]; rfl
    · rfl
    · rw [a5]; rfl
    · rw [a6, b1, bc_ok (m := hm T 1) (mkm_hi _)]; rfl
    · rw [b2, a2]; exact hm_beg1 (away := away) hn hn2 e2 hW
    · exact hm_beg2 (T := T) (away := away) hW
    · rw [b1, b3]; exact hm_beg3 (away := away) hW
    · rw [b4, a2]; exact hm_beg4 (away := away) hn hn2 e2 hW
  have es : w a 0 = nI n := hT2.1.1.trans e2
  clear hw
  refine r_aload_n dX3_beginHike_135 0 rfl ?_
  refine r_getI (by first | assumption | rfl) f_X3_18 rfl rfl dX3_beginHike_136 ?_
  refine r_istore_n (lo2 := [(0, _), (1, _), (2, _)]) dX3_beginHike_139 rfl (Nat.le_of_ble_eq_true rfl) [1, 2, 0] rfl ?_
  rw [es]
  exact lp_X3_beginHike2 ha hW (fun u hT hF => ⟨rfl, hT, hF⟩) (16 - n) n _ (by omega) (by omega) (hT2.te (bg3_0 hn.symm)) hF2
theorem tk_in {u w : mS} {a j : Nat} {T : mT} {c : Prop} [Decidable c] (hj : j < 16) (h : TP u a (setH T j 0)) (h1 : c → w = up1 u a (upd (u a) 3 (u a 3 ||| ((1 : Int32) <<< (nI j &&& 31))))) (h2 : ¬ c → w = up1 u a (upd (u a) 4 (u a 4 ||| ((1 : Int32) <<< (nI j &&& 31))))) : TP w a (setH T j (if c then 1 else 2)) := by
  obtain ⟨⟨a1, a2, a3, a4, a5, a6⟩, ⟨b1, b2, b3, b4⟩, c1⟩ := id h
  by_cases z : c
  · rw [h1 z, if_pos z]
    refine TP.sc h ?_ ?_ ?_ ?_ ?_ ?_ ?_ ?_ ?_ ?_ ?_ ?_ rfl <;> simp only [up1, upd, reduceIte, Nat.reduceEqDiff, ap3, ap4]
    · exact a1
    · exact a2
    · exact a3
    · exact a4
    · exact a5
    · exact a6
    · rw [b1]; exact set_in T hj
    · rw [b2]; exact set_set T (by decide) hj
    · rw [b3]; exact set_set T (by decide) hj
    · rw [b4]; exact set_set T (by decide) hj
  · rw [h2 z, if_neg z]
    refine TP.sc h ?_ ?_ ?_ ?_ ?_ ?_ ?_ ?_ ?_ ?_ ?_ ?_ rfl <;> simp only [up1, upd, reduceIte, Nat.reduceEqDiff, ap3, ap4]
    · exact a1
    · exact a2
    · exact a3
    · exact a4
    · exact a5
    · exact a6
    · rw [b1]; exact set_set T (by decide) hj
    · rw [b2]; exact set_in T hj
    · rw [b3]; exact set_set T (by decide) hj
    · rw [b4]; exact set_set T (by decide) hj
theorem opn_f {T : mT} {away : Int32} {n : Nat} (h : ¬ canO T = true) : opnN n T away = (0, T) := by
  cases n with
  | zero => rfl
  | succ n => rw [opnN, if_neg h]
theorem lp_X3_openGate {G : mG} {d : Nat} {S0 : mS} {a : Nat} {away : Int32} {Q : Option Int32 → mS → Prop} (ha : kd a = 3) : ∀ n i S (T : mT), n + i = 3 → TP S a T → WF T → FR a S0 S → (∀ u, TP u a (opnN n T away).2 → FR a S0 u → Q (some (nI i + (opnN n T away).1)) u) → At G (d + 2) M_X3_openGate Q 2 [(0, rv G a), (1, .int away), (2, .int (nI i))] [] S := by
  intro n
  induction n with
  | zero =>
    intro i S T hi hT hW hF hQ
    obtain rfl : i = 3 := by omega
    refine r_iload_n dX3_openGate_2 2 rfl ?_
    refine r_iconst dX3_openGate_3 (v := 3) rfl ?_
    refine r_icmp_ge dX3_openGate_4 (tgt := 32) (by decide) (fun h4 => ?_) (fun h4 => ?_)
    · --t
      refine r_iload_n dX3_openGate_32 2 rfl ?_
      refine r_iret rfl dX3_openGate_33 ?_
      have h1 := hQ _ hT hF
      rw [show nI 3 + (opnN 0 T away).1 = nI 3 by show nI 3 + 0 = nI 3; decide] at h1
      exact h1
    · --f
      exact absurd (show (3 : Int32) ≤ nI 3 by decide) h4
  | succ n ih =>
    intro i S T hi hT hW hF hQ
    have hi3 : i < 3 := by omega
    have stop : ¬ canO T = true → Q (some (nI i)) S := fun h => by
      have h1 := hQ S (by rw [opn_f h]; exact hT) hF
      rw [opn_f h] at h1
      rw [show nI i + (0 : Int32) = nI i from Int32.add_zero _] at h1
      exact h1
    refine r_iload_n dX3_openGate_2 2 rfl ?_
    refine r_iconst dX3_openGate_3 (v := 3) rfl ?_
    refine r_icmp_ge dX3_openGate_4 (tgt := 32) (by decide) (fun h4 => ?_) (fun h4 => ?_)
    · --t
      exact absurd h4 (nI_ge (b := 3) hi3 (by decide))
    · --f
      refine r_aload_n dX3_openGate_7 0 rfl ?_
      refine r_getI (by first | assumption | rfl) f_X3_28 rfl rfl dX3_openGate_8 ?_
      refine r_if_eq dX3_openGate_11 (tgt := 32) (by decide) (fun h11 => ?_) (fun h11 => ?_)
      · --t
        refine r_iload_n dX3_openGate_32 2 rfl ?_
        refine r_iret rfl dX3_openGate_33 ?_
        exact stop (by simp only [canO]; first | (rw [hT.2.1.1] at h11; simp [h11]; done) | simp [h18])
      · --f
        refine r_aload_n dX3_openGate_14 0 rfl ?_
        refine r_callViF (As := []) c_X3_waitedFor (by first | assumption | rfl) l_X3_67 rfl rfl rfl (Nat.le_of_ble_eq_true rfl) dX3_openGate_15 (t_X3_waitedFor ha hT hW) ?_
        refine r_if_ne dX3_openGate_18 (tgt := 32) (by decide) (fun h18 => ?_) (fun h18 => ?_)
        · --t
          refine r_iload_n dX3_openGate_32 2 rfl ?_
          refine r_iret rfl dX3_openGate_33 ?_
          exact stop (by simp only [canO]; first | (rw [hT.2.1.1] at h11; simp [h11]; done) | simp [h18])
        · --f
          refine r_aload_n dX3_openGate_21 0 rfl ?_
          refine r_iload_n dX3_openGate_22 1 rfl ?_
          refine r_callVv (As := [_]) c_X3_beginHike (by first | assumption | rfl) l_X3_86 rfl rfl rfl (Nat.le_of_ble_eq_true rfl) dX3_openGate_23 (t_X3_beginHike ha hT hW) (fun u23 q23 => ?_)
          obtain ⟨-, hT2, hF2⟩ := q23
          refine r_iinc (lo2 := [(0, _), (1, _), (2, _)]) dX3_openGate_26 2 rfl (w := 1) rfl (Nat.le_of_ble_eq_true rfl) [1, 2, 0] rfl ?_
          refine r_goto dX3_openGate_29 (tgt := 2) (by decide) ?_
          rw [nI_1]
          rw [hT.2.1.1] at h11
          have hc : canO T = true := by simp only [canO]; simp [h11, h18]
          have e1 : opnN (n + 1) T away = ((opnN n (begT T away) away).1 + 1, (opnN n (begT T away) away).2) := by rw [opnN, if_pos hc]
          refine ih (i + 1) _ (begT T away) (by omega) hT2 (wf_beg hW away) (hF.tr hF2) (fun u hTu hFu => ?_)
          have h1 := hQ u (by rw [e1]; exact hTu) hFu
          rw [e1] at h1
          rw [show nI i + ((opnN n (begT T away) away).1 + 1) = nI (i + 1) + (opnN n (begT T away) away).1 by rw [← nI_1, Int32.add_assoc, Int32.add_comm 1]] at h1
          exact h1
theorem t_X3_openGate {G : mG} {d : Nat} {S : mS} {a : Nat} {T : mT} {away : Int32} (ha : kd a = 3) (hT : TP S a T) (hW : WF T) : Call G (d + 2) M_X3_openGate [rv G a, .int away] S (fun v u => v = some (opnN 3 T away).1 ∧ TP u a (opnN 3 T away).2 ∧ FR a S u) := by
  refine call_of (lo := [(0, rv G a), (1, .int away)]) (by decide +kernel) (Nat.le_of_ble_eq_true rfl) rfl ?_
  refine r_iconst dX3_openGate_0 (v := 0) rfl ?_
  refine r_istore_n (lo2 := [(0, _), (1, _), (2, _)]) dX3_openGate_1 rfl (Nat.le_of_ble_eq_true rfl) [1, 2, 0] rfl ?_
  refine lp_X3_openGate ha 3 0 S T (by omega) hT hW FR.rf (fun u hT hF => ⟨?_, hT, hF⟩)
  rw [show nI 0 + (opnN 3 T away).1 = (opnN 3 T away).1 from Int32.zero_add _]
theorem t_X3_takeIn {G : mG} {d : Nat} {S : mS} {a j : Nat} {T : mT} {col away : Int32} (ha : kd a = 3) (hj : j < tsz T) (hT : TP S a T) (hW : WF T) : Call G (d + 3) M_X3_takeIn [rv G a, .int (nI j), .int col, .int away] S (fun v u => v = some (opnN 3 (setH T j (if col = T.1 1 then 1 else 2)) away).1 ∧ TP u a (opnN 3 (setH T j (if col = T.1 1 then 1 else 2)) away).2 ∧ FR a S u) := by
  refine call_of (lo := [(0, rv G a), (1, .int (nI j)), (2, .int col), (3, .int away)]) (by decide +kernel) (Nat.le_of_ble_eq_true rfl) rfl ?_
  have hj16 : j < 16 := by obtain ⟨s, h1, h2, h3, h4⟩ := hW.sz; omega
  refine r_aload_n dX3_takeIn_0 0 rfl ?_
  refine r_iload_n dX3_takeIn_1 1 rfl ?_
  refine r_callVv (As := [_]) c_X3_bringHome (by first | assumption | rfl) l_X3_76 rfl rfl rfl (Nat.le_of_ble_eq_true rfl) dX3_takeIn_2 (t_X3_bringHome ha hj16 hT) (fun u2 q2 => ?_)
  obtain ⟨-, hT1, hF1⟩ := q2
  refine r_iload_n dX3_takeIn_5 2 rfl ?_
  refine r_aload_n dX3_takeIn_6 0 rfl ?_
  refine r_getI (by first | assumption | rfl) f_X3_25 rfl rfl dX3_takeIn_7 ?_
  refine r_icmp_ne dX3_takeIn_10 (tgt := 28) (by decide) (fun h10 => ?_) (fun h10 => ?_)
  · --t
    refine r_aload_n dX3_takeIn_28 0 rfl ?_
    refine r_dup dX3_takeIn_29 rfl ?_
    refine r_getI (by first | assumption | rfl) f_X3_31 rfl rfl dX3_takeIn_30 ?_
    refine r_iconst dX3_takeIn_33 (v := 1) rfl ?_
    refine r_iload_n dX3_takeIn_34 1 rfl ?_
    refine r_ishl dX3_takeIn_35 ?_
    refine r_ior dX3_takeIn_36 ?_
    refine r_putI (by first | assumption | rfl) f_X3_31 rfl rfl rfl rfl dX3_takeIn_37 ?_
    refine at_gen (fun w hw => ?_)
    have hx : (col = T.1 1 → w = up1 u2 a (upd (u2 a) 3 (u2 a 3 ||| ((1 : Int32) <<< (nI j &&& 31))))) ∧ (¬ col = T.1 1 → w = up1 u2 a (upd (u2 a) 4 (u2 a 4 ||| ((1 : Int32) <<< (nI j &&& 31))))) := by
      rw [hT1.1.2.2.1] at h10
      have h10' : _ := h10
      exact ⟨fun z => by first | exact hw | exact absurd z h10', fun z => by first | exact hw | exact absurd h10' z | exact absurd (Classical.not_not.mp h10') z⟩
    have hW2 : WF (setH T j (if col = T.1 1 then 1 else 2)) := wf_set hW hj (by by_cases z : col = T.1 1 <;> simp [z])
    have hT2 : TP w a (setH T j (if col = T.1 1 then 1 else 2)) := tk_in hj16 hT1 hx.1 hx.2
    have hF2 : FR a S w := by rw [hw]; exact hF1.up0
    clear hw hx
    refine r_aload_n dX3_takeIn_40 0 rfl ?_
    refine r_iload_n dX3_takeIn_41 3 rfl ?_
    refine r_callVi (As := [_]) c_X3_openGate (by first | assumption | rfl) l_X3_80 rfl rfl rfl (Nat.le_of_ble_eq_true rfl) dX3_takeIn_42 (t_X3_openGate ha hT2 hW2) (fun r42 u42 q42 => ?_)
    obtain ⟨h3, hT3, hF3⟩ := q42
    cases h3
    refine r_iret rfl dX3_takeIn_45 ?_
    exact ⟨rfl, hT3, hF2.tr hF3⟩
  · --f
    refine r_aload_n dX3_takeIn_13 0 rfl ?_
    refine r_dup dX3_takeIn_14 rfl ?_
    refine r_getI (by first | assumption | rfl) f_X3_28 rfl rfl dX3_takeIn_15 ?_
    refine r_iconst dX3_takeIn_18 (v := 1) rfl ?_
    refine r_iload_n dX3_takeIn_19 1 rfl ?_
    refine r_ishl dX3_takeIn_20 ?_
    refine r_ior dX3_takeIn_21 ?_
    refine r_putI (by first | assumption | rfl) f_X3_28 rfl rfl rfl rfl dX3_takeIn_22 ?_
    refine r_goto dX3_takeIn_25 (tgt := 40) (by decide) ?_
    refine at_gen (fun w hw => ?_)
    have hx : (col = T.1 1 → w = up1 u2 a (upd (u2 a) 3 (u2 a 3 ||| ((1 : Int32) <<< (nI j &&& 31))))) ∧ (¬ col = T.1 1 → w = up1 u2 a (upd (u2 a) 4 (u2 a 4 ||| ((1 : Int32) <<< (nI j &&& 31))))) := by
      rw [hT1.1.2.2.1] at h10
      have h10' : _ := h10
      exact ⟨fun z => by first | exact hw | exact absurd z h10', fun z => by first | exact hw | exact absurd h10' z | exact absurd (Classical.not_not.mp h10') z⟩
    have hW2 : WF (setH T j (if col = T.1 1 then 1 else 2)) := wf_set hW hj (by by_cases z : col = T.1 1 <;> simp [z])
    have hT2 : TP w a (setH T j (if col = T.1 1 then 1 else 2)) := tk_in hj16 hT1 hx.1 hx.2
    have hF2 : FR a S w := by rw [hw]; exact hF1.up0
    clear hw hx
    refine r_aload_n dX3_takeIn_40 0 rfl ?_
    refine r_iload_n dX3_takeIn_41 3 rfl ?_
    refine r_callVi (As := [_]) c_X3_openGate (by first | assumption | rfl) l_X3_80 rfl rfl rfl (Nat.le_of_ble_eq_true rfl) dX3_takeIn_42 (t_X3_openGate ha hT2 hW2) (fun r42 u42 q42 => ?_)
    obtain ⟨h3, hT3, hF3⟩ := q42
    cases h3
    refine r_iret rfl dX3_takeIn_45 ?_
    exact ⟨rfl, hT3, hF2.tr hF3⟩
end
section
/-! the class's Troop: a minute, beginning, copying -/
theorem or0_l {x y : Int32} (h : x ||| y = 0) : x = 0 := by
  refine b_ext fun i hi => ?_
  have := b_or x y i
  rw [h, b_0] at this
  rw [b_0]
  cases hx : bt x i
  · rfl
  · rw [hx] at this; simp at this
theorem or0_r {x y : Int32} (h : x ||| y = 0) : y = 0 := by
  rw [Int32.or_comm] at h
  exact or0_l h
theorem lp_X3_passMinute {G : mG} {d : Nat} {S0 : mS} {a : Nat} {T : mT} {pat away : Int32} {Q : Option Int32 → mS → Prop} (ha : kd a = 3) (hW : WF T) (hx : ∀ u, TP u a (wlkT T pat 16) → FR a S0 u → At G (d + 3) M_X3_passMinute Q 88 [(0, rv G a), (1, .int pat), (2, .int away)] [] u) : ∀ n k S, n + k = 16 → TP S a (wlkT T pat k) → FR a S0 S → At G (d + 3) M_X3_passMinute Q 14 [(0, rv G a), (1, .int pat), (2, .int away), (3, .int (nI k))] [] S := by
  obtain ⟨k1, k2, l1, l2, f1, f2⟩ := kdT ha
  intro n
  induction n with
  | zero =>
    intro k S hk hT hF
    obtain rfl : k = 16 := by omega
    refine r_iload_n dX3_passMinute_14 3 rfl ?_
    refine r_bipush dX3_passMinute_15 (v := 16) (by decide +kernel) ?_
    refine r_icmp_ge dX3_passMinute_17 (tgt := 88) (by decide) (fun h17 => ?_) (fun h17 => ?_)
    · --t
      exact r_sub [0, 1, 2] rfl (hx _ hT hF)
    · --f
      exact absurd (show (16 : Int32) ≤ nI 16 by decide) h17
  | succ n ih =>
    intro k S hk hT hF
    have hk16 : k < 16 := by omega
    have hk32 : k < 32 := by omega
    have hl1 : k < ln (a + 1) := by rw [l1]; exact hk16
    have hl2 : k < ln (a + 2) := by rw [l2]; exact hk16
    have hWk : WF (wlkT T pat k) := wf_wlk hW pat
    have eb3 : bt (S a 5) k = (T.2.1 k == 3) := by rw [hT.2.1.2.2.1, bt_hm _ _ hk16, wlk_hw]
    have eb4 : bt (S a 6) k = (T.2.1 k == 4) := by rw [hT.2.1.2.2.2, bt_hm _ _ hk16, wlk_hw]
    have e1 : S (a + 1) k = T.2.2.1 k := by rw [(hT.2.2 k hk16).1, wlk_fr]
    have e2 : up1 S (a + 1) (upd (S (a + 1)) k (S (a + 1) k + 1)) (a + 1) k = T.2.2.1 k + 1 := by rw [up1_s, upd, if_pos rfl, e1]
    refine r_iload_n dX3_passMinute_14 3 rfl ?_
    refine r_bipush dX3_passMinute_15 (v := 16) (by decide +kernel) ?_
    refine r_icmp_ge dX3_passMinute_17 (tgt := 88) (by decide) (fun h17 => ?_) (fun h17 => ?_)
    · --t
      exact absurd h17 (c16 hk16)
    · --f
      refine r_aload_n dX3_passMinute_20 0 rfl ?_
      refine r_getI (by first | assumption | rfl) f_X3_34 rfl rfl dX3_passMinute_21 ?_
      refine r_iload_n dX3_passMinute_24 3 rfl ?_
      refine r_callSiF (As := [_, _]) c_X3_isIn l_X3_59 rfl rfl rfl (Nat.le_of_ble_eq_true rfl) dX3_passMinute_25 (t_X3_isIn rfl hk32) ?_
      refine r_if_eq dX3_passMinute_28 (tgt := 39) (by decide) (fun h28 => ?_) (fun h28 => ?_)
      · --t
        refine r_aload_n dX3_passMinute_39 0 rfl ?_
        refine r_getI (by first | assumption | rfl) f_X3_37 rfl rfl dX3_passMinute_40 ?_
        refine r_iload_n dX3_passMinute_43 3 rfl ?_
        refine r_callSiF (As := [_, _]) c_X3_isIn l_X3_59 rfl rfl rfl (Nat.le_of_ble_eq_true rfl) dX3_passMinute_44 (t_X3_isIn rfl hk32) ?_
        refine r_if_eq dX3_passMinute_47 (tgt := 82) (by decide) (fun h47 => ?_) (fun h47 => ?_)
        · --t
          refine r_iinc (lo2 := [(0, _), (1, _), (2, _), (3, _)]) dX3_passMinute_82 3 rfl (w := 1) rfl (Nat.le_of_ble_eq_true rfl) [1, 2, 3, 0] rfl ?_
          refine r_goto dX3_passMinute_85 (tgt := 14) (by decide) ?_
          rw [nI_1]
          refine ih (k + 1) _ (by omega) ?_ ?_
          · first
              | (rw [eb3, bI_0, beq_eq_false_iff_ne, ne_eq, Classical.not_not] at h28; exact hT2.te (wlk_3 h28))
              | (rw [eb3, bI_0, beq_eq_false_iff_ne] at h28; rw [eb4, bI_0, beq_eq_false_iff_ne] at h47; exact hT.te (wlk_n h28 h47))
              | (rw [eb4, bI_0, beq_eq_false_iff_ne, ne_eq, Classical.not_not] at h47; rw [e2] at h67
                 have h1 := hT.fr (j := k) (S (a + 1) k + 1)
                 refine h1.te ?_
                 have h2 := wlk_4 (pat := pat) h47
                 rw [if_neg (Int32.not_lt.mpr h67)] at h2
                 rw [e1]
                 exact h2)
              | (rw [eb4, bI_0, beq_eq_false_iff_ne, ne_eq, Classical.not_not] at h47; rw [e2] at h67
                 have h1 := (hT.fr (j := k) (S (a + 1) k + 1)).struck (up1 S (a + 1) (upd (S (a + 1)) k (S (a + 1) k + 1)) a 7 ||| ((1 : Int32) <<< (nI k &&& 31)))
                 have h3 : up1 S (a + 1) (upd (S (a + 1)) k (S (a + 1) k + 1)) a 7 = (wlkT T pat k).1 5 := by rw [up1_n (by omega)]; exact hT.1.2.2.2.1
                 refine h1.te ?_
                 have h2 := wlk_4 (pat := pat) h47
                 rw [if_pos (Int32.not_le.mp h67)] at h2
                 rw [h3, e1]
                 exact h2)
          · first | exact hF.tr hF2 | exact hF.up1'.up0 | exact hF.up1' | exact hF
        · --f
          refine r_aload_n dX3_passMinute_50 0 rfl ?_
          refine r_getR (by first | assumption | rfl) f_X3_9 rfl rfl dX3_passMinute_51 (by first | assumption | rfl) ?_
          refine r_iload_n dX3_passMinute_54 3 rfl ?_
          refine r_dup2 dX3_passMinute_55 rfl rfl ?_
          refine r_iald (j := _) (by first | assumption | rfl) (by first | assumption | rfl) (by first | assumption | decide) dX3_passMinute_56 ?_
          refine r_iconst dX3_passMinute_57 (v := 1) rfl ?_
          refine r_iadd dX3_passMinute_58 ?_
          refine r_iast (j := _) (by first | assumption | rfl) (by first | assumption | rfl) (by first | assumption | decide) dX3_passMinute_59 ?_
          refine r_aload_n dX3_passMinute_60 0 rfl ?_
          refine r_getR (by first | assumption | rfl) f_X3_9 rfl rfl dX3_passMinute_61 (by first | assumption | rfl) ?_
          refine r_iload_n dX3_passMinute_64 3 rfl ?_
          refine r_iald (j := _) (by first | assumption | rfl) (by first | assumption | rfl) (by first | assumption | decide) dX3_passMinute_65 ?_
          refine r_iload_n dX3_passMinute_66 1 rfl ?_
          refine r_icmp_le dX3_passMinute_67 (tgt := 82) (by decide) (fun h67 => ?_) (fun h67 => ?_)
          · --t
            refine r_iinc (lo2 := [(0, _), (1, _), (2, _), (3, _)]) dX3_passMinute_82 3 rfl (w := 1) rfl (Nat.le_of_ble_eq_true rfl) [1, 2, 3, 0] rfl ?_
            refine r_goto dX3_passMinute_85 (tgt := 14) (by decide) ?_
            rw [nI_1]
            refine ih (k + 1) _ (by omega) ?_ ?_
            · first
                | (rw [eb3, bI_0, beq_eq_false_iff_ne, ne_eq, Classical.not_not] at h28; exact hT2.te (wlk_3 h28))
                | (rw [eb3, bI_0, beq_eq_false_iff_ne] at h28; rw [eb4, bI_0, beq_eq_false_iff_ne] at h47; exact hT.te (wlk_n h28 h47))
                | (rw [eb4, bI_0, beq_eq_false_iff_ne, ne_eq, Classical.not_not] at h47; rw [e2] at h67
                   have h1 := hT.fr (j := k) (S (a + 1) k + 1)
                   refine h1.te ?_
                   have h2 := wlk_4 (pat := pat) h47
                   rw [if_neg (Int32.not_lt.mpr h67)] at h2
                   rw [e1]
                   exact h2)
                | (rw [eb4, bI_0, beq_eq_false_iff_ne, ne_eq, Classical.not_not] at h47; rw [e2] at h67
                   have h1 := (hT.fr (j := k) (S (a + 1) k + 1)).struck (up1 S (a + 1) (upd (S (a + 1)) k (S (a + 1) k + 1)) a 7 ||| ((1 : Int32) <<< (nI k &&& 31)))
                   have h3 : up1 S (a + 1) (upd (S (a + 1)) k (S (a + 1) k + 1)) a 7 = (wlkT T pat k).1 5 := by rw [up1_n (by omega)]; exact hT.1.2.2.2.1
                   refine h1.te ?_
                   have h2 := wlk_4 (pat := pat) h47
                   rw [if_pos (Int32.not_le.mp h67)] at h2
                   rw [h3, e1]
                   exact h2)
            · first | exact hF.tr hF2 | exact hF.up1'.up0 | exact hF.up1' | exact hF
          · --f
            refine r_aload_n dX3_passMinute_70 0 rfl ?_
            refine r_dup dX3_passMinute_71 rfl ?_
            refine r_getI (by first | assumption | rfl) f_X3_40 rfl rfl dX3_passMinute_72 ?_
            refine r_iconst dX3_passMinute_75 (v := 1) rfl ?_
            refine r_iload_n dX3_passMinute_76 3 rfl ?_
            refine r_ishl dX3_passMinute_77 ?_
            refine r_ior dX3_passMinute_78 ?_
            refine r_putI (by first | assumption | rfl) f_X3_40 rfl rfl rfl rfl dX3_passMinute_79 ?_
            refine r_iinc (lo2 := [(0, _), (1, _), (2, _), (3, _)]) dX3_passMinute_82 3 rfl (w := 1) rfl (Nat.le_of_ble_eq_true rfl) [1, 2, 3, 0] rfl ?_
            refine r_goto dX3_passMinute_85 (tgt := 14) (by decide) ?_
            rw [nI_1]
            refine ih (k + 1) _ (by omega) ?_ ?_
            · first
                | (rw [eb3, bI_0, beq_eq_false_iff_ne, ne_eq, Classical.not_not] at h28; exact hT2.te (wlk_3 h28))
                | (rw [eb3, bI_0, beq_eq_false_iff_ne] at h28; rw [eb4, bI_0, beq_eq_false_iff_ne] at h47; exact hT.te (wlk_n h28 h47))
                | (rw [eb4, bI_0, beq_eq_false_iff_ne, ne_eq, Classical.not_not] at h47; rw [e2] at h67
                   have h1 := hT.fr (j := k) (S (a + 1) k + 1)
                   refine h1.te ?_
                   have h2 := wlk_4 (pat := pat) h47
                   rw [if_neg (Int32.not_lt.mpr h67)] at h2
                   rw [e1]
                   exact h2)
                | (rw [eb4, bI_0, beq_eq_false_iff_ne, ne_eq, Classical.not_not] at h47; rw [e2] at h67
                   have h1 := (hT.fr (j := k) (S (a + 1) k + 1)).struck (up1 S (a + 1) (upd (S (a + 1)) k (S (a + 1) k + 1)) a 7 ||| ((1 : Int32) <<< (nI k &&& 31)))
                   have h3 : up1 S (a + 1) (upd (S (a + 1)) k (S (a + 1) k + 1)) a 7 = (wlkT T pat k).1 5 := by rw [up1_n (by omega)]; exact hT.1.2.2.2.1
                   refine h1.te ?_
                   have h2 := wlk_4 (pat := pat) h47
                   rw [if_pos (Int32.not_le.mp h67)] at h2
                   rw [h3, e1]
                   exact h2)
            · first | exact hF.tr hF2 | exact hF.up1'.up0 | exact hF.up1' | exact hF
      · --f
        refine r_aload_n dX3_passMinute_31 0 rfl ?_
        refine r_iload_n dX3_passMinute_32 3 rfl ?_
        refine r_callVv (As := [_]) c_X3_walkOn (by first | assumption | rfl) l_X3_83 rfl rfl rfl (Nat.le_of_ble_eq_true rfl) dX3_passMinute_33 (t_X3_walkOn ha hk16 hT hWk) (fun u33 q33 => ?_)
        obtain ⟨-, hT2, hF2⟩ := q33
        refine r_goto dX3_passMinute_36 (tgt := 82) (by decide) ?_
        refine r_iinc (lo2 := [(0, _), (1, _), (2, _), (3, _)]) dX3_passMinute_82 3 rfl (w := 1) rfl (Nat.le_of_ble_eq_true rfl) [1, 2, 3, 0] rfl ?_
        refine r_goto dX3_passMinute_85 (tgt := 14) (by decide) ?_
        rw [nI_1]
        refine ih (k + 1) _ (by omega) ?_ ?_
        · first
            | (rw [eb3, bI_0, beq_eq_false_iff_ne, ne_eq, Classical.not_not] at h28; exact hT2.te (wlk_3 h28))
            | (rw [eb3, bI_0, beq_eq_false_iff_ne] at h28; rw [eb4, bI_0, beq_eq_false_iff_ne] at h47; exact hT.te (wlk_n h28 h47))
            | (rw [eb4, bI_0, beq_eq_false_iff_ne, ne_eq, Classical.not_not] at h47; rw [e2] at h67
               have h1 := hT.fr (j := k) (S (a + 1) k + 1)
               refine h1.te ?_
               have h2 := wlk_4 (pat := pat) h47
               rw [if_neg (Int32.not_lt.mpr h67)] at h2
               rw [e1]
               exact h2)
            | (rw [eb4, bI_0, beq_eq_false_iff_ne, ne_eq, Classical.not_not] at h47; rw [e2] at h67
               have h1 := (hT.fr (j := k) (S (a + 1) k + 1)).struck (up1 S (a + 1) (upd (S (a + 1)) k (S (a + 1) k + 1)) a 7 ||| ((1 : Int32) <<< (nI k &&& 31)))
               have h3 : up1 S (a + 1) (upd (S (a + 1)) k (S (a + 1) k + 1)) a 7 = (wlkT T pat k).1 5 := by rw [up1_n (by omega)]; exact hT.1.2.2.2.1
               refine h1.te ?_
               have h2 := wlk_4 (pat := pat) h47
               rw [if_pos (Int32.not_le.mp h67)] at h2
               rw [h3, e1]
               exact h2)
        · first | exact hF.tr hF2 | exact hF.up1'.up0 | exact hF.up1' | exact hF
theorem t_X3_passMinute {G : mG} {d : Nat} {S : mS} {a : Nat} {T : mT} {pat away : Int32} (ha : kd a = 3) (hT : TP S a T) (hW : WF T) : Call G (d + 3) M_X3_passMinute [rv G a, .int pat, .int away] S (fun v u => v = some (minT T pat away).1 ∧ TP u a (minT T pat away).2 ∧ FR a S u) := by
  refine call_of (lo := [(0, rv G a), (1, .int pat), (2, .int away)]) (by decide +kernel) (Nat.le_of_ble_eq_true rfl) rfl ?_
  have fin : ∀ u, TP u a (wlkT T pat 16) → FR a S u → At G (d + 3) M_X3_passMinute (fun v u => v = some (minT T pat away).1 ∧ TP u a (minT T pat away).2 ∧ FR a S u) 88 [(0, rv G a), (1, .int pat), (2, .int away)] [] u := by
    intro u hTu hFu
    have hWu : WF (wlkT T pat 16) := wf_wlk hW pat
    refine r_aload_n dX3_passMinute_88 0 rfl ?_
    refine r_iload_n dX3_passMinute_89 2 rfl ?_
    refine r_callVi (As := [_]) c_X3_openGate (by first | assumption | rfl) l_X3_80 rfl rfl rfl (Nat.le_of_ble_eq_true rfl) dX3_passMinute_90 (t_X3_openGate ha hTu hWu) (fun r90 u90 q90 => ?_)
    obtain ⟨h3, hT3, hF3⟩ := q90
    cases h3
    refine r_iret rfl dX3_passMinute_93 ?_
    exact ⟨rfl, hT3, hFu.tr hF3⟩
  refine r_aload_n dX3_passMinute_0 0 rfl ?_
  refine r_getI (by first | assumption | rfl) f_X3_34 rfl rfl dX3_passMinute_1 ?_
  refine r_aload_n dX3_passMinute_4 0 rfl ?_
  refine r_getI (by first | assumption | rfl) f_X3_37 rfl rfl dX3_passMinute_5 ?_
  refine r_ior dX3_passMinute_8 ?_
  refine r_if_eq dX3_passMinute_9 (tgt := 88) (by decide) (fun h9 => ?_) (fun h9 => ?_)
  · --t
    rw [hT.2.1.2.2.1, hT.2.1.2.2.2] at h9
    have h3 : hm T 3 = 0 := or0_l h9
    have h4 : hm T 4 = 0 := or0_r h9
    exact fin S (hT.te (wlk_no h3 h4 16 (Nat.le_refl _))) FR.rf
  · --f
    refine r_iconst dX3_passMinute_12 (v := 0) rfl ?_
    refine r_istore_n (lo2 := [(0, _), (1, _), (2, _), (3, _)]) dX3_passMinute_13 rfl (Nat.le_of_ble_eq_true rfl) [1, 2, 3, 0] rfl ?_
    exact lp_X3_passMinute (T := T) ha hW fin 16 0 S (by omega) (hT.te wlk_0) FR.rf

theorem lp_X3_begin {G : mG} {d : Nat} {S0 : mS} {a : Nat} {x : Int32} {Q : Option Int32 → mS → Prop} (ha : kd a = 3) (hx : ∀ u, TP u a (newT x) → FR a S0 u → Q none u) : ∀ n k S, n + k = 16 → (S a 0 = x ∧ S a 1 = x ∧ S a 2 = 0 ∧ S a 7 = 0 ∧ S a 8 = 0 ∧ S a 9 = 0) → (S a 3 = 0 ∧ S a 4 = 0 ∧ S a 5 = 0 ∧ S a 6 = 0) → (∀ i, i < k → S (a + 1) i = 0 ∧ S (a + 2) i = 0) → FR a S0 S → At G d M_X3_begin Q 52 [(0, rv G a), (1, .int x), (2, .int (nI k))] [] S := by
  obtain ⟨k1, k2, l1, l2, f1, f2⟩ := kdT ha
  intro n
  induction n with
  | zero =>
    intro k S hk h1 h2 h3 hF
    obtain rfl : k = 16 := by omega
    refine r_iload_n dX3_begin_52 2 rfl ?_
    refine r_bipush dX3_begin_53 (v := 16) (by decide +kernel) ?_
    refine r_icmp_ge dX3_begin_55 (tgt := 78) (by decide) (fun h55 => ?_) (fun h55 => ?_)
    · --t
      refine r_vret rfl dX3_begin_78 ?_
      refine hx _ ⟨h1, ?_, fun i hi => h3 i hi⟩ hF
      refine ⟨h2.1.trans ?_, h2.2.1.trans ?_, h2.2.2.1.trans ?_, h2.2.2.2.trans ?_⟩ <;> exact ((mkm_0 _).mpr (fun k hk => by simp [newT])).symm
    · --f
      exact absurd (show (16 : Int32) ≤ nI 16 by decide) h55
  | succ n ih =>
    intro k S hk h1 h2 h3 hF
    have hk16 : k < 16 := by omega
    have hl1 : k < ln (a + 1) := by rw [l1]; exact hk16
    have hl2 : k < ln (a + 2) := by rw [l2]; exact hk16
    refine r_iload_n dX3_begin_52 2 rfl ?_
    refine r_bipush dX3_begin_53 (v := 16) (by decide +kernel) ?_
    refine r_icmp_ge dX3_begin_55 (tgt := 78) (by decide) (fun h55 => ?_) (fun h55 => ?_)
    · --t
      exact absurd h55 (c16 hk16)
    · --f
      refine r_aload_n dX3_begin_58 0 rfl ?_
      refine r_getR (by first | assumption | rfl) f_X3_9 rfl rfl dX3_begin_59 (by first | assumption | rfl) ?_
      refine r_iload_n dX3_begin_62 2 rfl ?_
      refine r_iconst dX3_begin_63 (v := 0) rfl ?_
      refine r_iast (j := _) (by first | assumption | rfl) (by first | assumption | rfl) (by first | assumption | decide) dX3_begin_64 ?_
      refine r_aload_n dX3_begin_65 0 rfl ?_
      refine r_getR (by first | assumption | rfl) f_X3_15 rfl rfl dX3_begin_66 (by first | assumption | rfl) ?_
      refine r_iload_n dX3_begin_69 2 rfl ?_
      refine r_iconst dX3_begin_70 (v := 0) rfl ?_
      refine r_iast (j := _) (by first | assumption | rfl) (by first | assumption | rfl) (by first | assumption | decide) dX3_begin_71 ?_
      refine r_iinc (lo2 := [(0, _), (1, _), (2, _)]) dX3_begin_72 2 rfl (w := 1) rfl (Nat.le_of_ble_eq_true rfl) [1, 2, 0] rfl ?_
      refine r_goto dX3_begin_75 (tgt := 52) (by decide) ?_
      rw [nI_1]
      refine ih (k + 1) _ (by omega) ?_ ?_ (fun i hi => ?_) hF.up1'.up2
      · simp only [up1, ap1, ap2, reduceIte]; exact h1
      · simp only [up1, ap1, ap2, reduceIte]; exact h2
      · simp only [up1, upd, ap5, ap6, reduceIte]
        by_cases e : i = k
        · subst e; simp
        · simp only [e, reduceIte]; exact h3 i (by omega)
theorem t_X3_begin {G : mG} {d : Nat} {S : mS} {a : Nat} {x : Int32} (ha : kd a = 3) : Call G d M_X3_begin [rv G a, .int x] S (fun v u => v = none ∧ TP u a (newT x) ∧ FR a S u) := by
  refine call_of (lo := [(0, rv G a), (1, .int x)]) (by decide +kernel) (Nat.le_of_ble_eq_true rfl) rfl ?_
  refine r_aload_n dX3_begin_0 0 rfl ?_
  refine r_iload_n dX3_begin_1 1 rfl ?_
  refine r_putI (by first | assumption | rfl) f_X3_18 rfl rfl rfl rfl dX3_begin_2 ?_
  refine r_aload_n dX3_begin_5 0 rfl ?_
  refine r_iload_n dX3_begin_6 1 rfl ?_
  refine r_putI (by first | assumption | rfl) f_X3_22 rfl rfl rfl rfl dX3_begin_7 ?_
  refine r_aload_n dX3_begin_10 0 rfl ?_
  refine r_iconst dX3_begin_11 (v := 0) rfl ?_
  refine r_putI (by first | assumption | rfl) f_X3_25 rfl rfl rfl rfl dX3_begin_12 ?_
  refine r_aload_n dX3_begin_15 0 rfl ?_
  refine r_iconst dX3_begin_16 (v := 0) rfl ?_
  refine r_putI (by first | assumption | rfl) f_X3_28 rfl rfl rfl rfl dX3_begin_17 ?_
  refine r_aload_n dX3_begin_20 0 rfl ?_
  refine r_iconst dX3_begin_21 (v := 0) rfl ?_
  refine r_putI (by first | assumption | rfl) f_X3_31 rfl rfl rfl rfl dX3_begin_22 ?_
  refine r_aload_n dX3_begin_25 0 rfl ?_
  refine r_iconst dX3_begin_26 (v := 0) rfl ?_
  refine r_putI (by first | assumption | rfl) f_X3_34 rfl rfl rfl rfl dX3_begin_27 ?_
  refine r_aload_n dX3_begin_30 0 rfl ?_
  refine r_iconst dX3_begin_31 (v := 0) rfl ?_
  refine r_putI (by first | assumption | rfl) f_X3_37 rfl rfl rfl rfl dX3_begin_32 ?_
  refine r_aload_n dX3_begin_35 0 rfl ?_
  refine r_iconst dX3_begin_36 (v := 0) rfl ?_
  refine r_putI (by first | assumption | rfl) f_X3_40 rfl rfl rfl rfl dX3_begin_37 ?_
  refine r_aload_n dX3_begin_40 0 rfl ?_
  refine r_iconst dX3_begin_41 (v := 0) rfl ?_
  refine r_putI (by first | assumption | rfl) f_X3_43 rfl rfl rfl rfl dX3_begin_42 ?_
  refine r_aload_n dX3_begin_45 0 rfl ?_
  refine r_iconst dX3_begin_46 (v := 0) rfl ?_
  refine r_putI (by first | assumption | rfl) f_X3_46 rfl rfl rfl rfl dX3_begin_47 ?_
  refine r_iconst dX3_begin_50 (v := 0) rfl ?_
  refine r_istore_n (lo2 := [(0, _), (1, _), (2, _)]) dX3_begin_51 rfl (Nat.le_of_ble_eq_true rfl) [1, 2, 0] rfl ?_
  refine at_gen (fun w hw => ?_)
  refine lp_X3_begin (S0 := S) ha (fun u h1 h2 => ⟨rfl, h1, h2⟩) 16 0 w (by omega) ?_ ?_ (fun i hi => absurd hi (by omega)) ?_
  · rw [hw]; simp only [up1, upd, reduceIte, Nat.reduceEqDiff]; exact ⟨trivial, trivial, trivial, trivial, trivial, trivial⟩
  · rw [hw]; simp only [up1, upd, reduceIte, Nat.reduceEqDiff]; exact ⟨trivial, trivial, trivial, trivial⟩
  · rw [hw]; exact FR.rf.up0.up0.up0.up0.up0.up0.up0.up0.up0.up0
theorem kdT2 {a b : Nat} (ha : kd a = 3) (hb : kd b = 3) (h : b ≠ a) : b ≠ a + 1 ∧ b ≠ a + 2 ∧ b + 1 ≠ a ∧ b + 1 ≠ a + 1 ∧ b + 1 ≠ a + 2 ∧ b + 2 ≠ a ∧ b + 2 ≠ a + 1 ∧ b + 2 ≠ a + 2 := by
  obtain ⟨k1, k2, -⟩ := kdT ha
  obtain ⟨g1, g2, -⟩ := kdT hb
  refine ⟨?_, ?_, ?_, ?_, ?_, ?_, ?_, ?_⟩ <;> intro e
  · rw [e] at hb; omega
  · rw [e] at hb; omega
  · rw [e] at g1; omega
  · omega
  · have : b = a + 1 := by omega
    rw [this] at hb; omega
  · rw [e] at g2; omega
  · have : a = b + 1 := by omega
    rw [this] at ha; omega
  · omega
theorem cpy16 {f g : Nat → Int32} {k : Nat} (h : k < 16) : va_cpy f g 0 0 16 k = f k := by rw [pk_cpy_in (Nat.zero_le _) (by omega)]; simp
theorem t_X3_copyFrom {G : mG} {d : Nat} {S : mS} {a b : Nat} {T : mT} (ha : kd a = 3) (hb : kd b = 3) (hab : b ≠ a) (hT : TP S b T) : Call G (d + 4) M_X3_copyFrom [rv G a, rv G b] S (fun v u => v = none ∧ TP u a T ∧ FR a S u) := by
  refine call_of (lo := [(0, rv G a), (1, rv G b)]) (by decide +kernel) (Nat.le_of_ble_eq_true rfl) rfl ?_
  obtain ⟨k1, k2, l1, l2, f1, f2⟩ := kdT ha
  obtain ⟨g1, g2, m1, m2, n1, n2⟩ := kdT hb
  obtain ⟨z1, z2, z3, z4, z5, z6, z7, z8⟩ := kdT2 ha hb hab
  obtain ⟨⟨a1, a2, a3, a4, a5, a6⟩, ⟨b1, b2, b3, b4⟩, c⟩ := hT
  refine r_aload_n dX3_copyFrom_0 0 rfl ?_
  refine r_aload_n dX3_copyFrom_1 1 rfl ?_
  refine r_getI (by first | assumption | rfl) f_X3_18 rfl rfl dX3_copyFrom_2 ?_
  refine r_putI (by first | assumption | rfl) f_X3_18 rfl rfl rfl rfl dX3_copyFrom_5 ?_
  refine r_aload_n dX3_copyFrom_8 0 rfl ?_
  refine r_aload_n dX3_copyFrom_9 1 rfl ?_
  refine r_getI (by first | assumption | rfl) f_X3_22 rfl rfl dX3_copyFrom_10 ?_
  refine r_putI (by first | assumption | rfl) f_X3_22 rfl rfl rfl rfl dX3_copyFrom_13 ?_
  refine r_aload_n dX3_copyFrom_16 0 rfl ?_
  refine r_aload_n dX3_copyFrom_17 1 rfl ?_
  refine r_getI (by first | assumption | rfl) f_X3_25 rfl rfl dX3_copyFrom_18 ?_
  refine r_putI (by first | assumption | rfl) f_X3_25 rfl rfl rfl rfl dX3_copyFrom_21 ?_
  refine r_aload_n dX3_copyFrom_24 0 rfl ?_
  refine r_aload_n dX3_copyFrom_25 1 rfl ?_
  refine r_getI (by first | assumption | rfl) f_X3_28 rfl rfl dX3_copyFrom_26 ?_
  refine r_putI (by first | assumption | rfl) f_X3_28 rfl rfl rfl rfl dX3_copyFrom_29 ?_
  refine r_aload_n dX3_copyFrom_32 0 rfl ?_
  refine r_aload_n dX3_copyFrom_33 1 rfl ?_
  refine r_getI (by first | assumption | rfl) f_X3_31 rfl rfl dX3_copyFrom_34 ?_
  refine r_putI (by first | assumption | rfl) f_X3_31 rfl rfl rfl rfl dX3_copyFrom_37 ?_
  refine r_aload_n dX3_copyFrom_40 0 rfl ?_
  refine r_aload_n dX3_copyFrom_41 1 rfl ?_
  refine r_getI (by first | assumption | rfl) f_X3_34 rfl rfl dX3_copyFrom_42 ?_
  refine r_putI (by first | assumption | rfl) f_X3_34 rfl rfl rfl rfl dX3_copyFrom_45 ?_
  refine r_aload_n dX3_copyFrom_48 0 rfl ?_
  refine r_aload_n dX3_copyFrom_49 1 rfl ?_
  refine r_getI (by first | assumption | rfl) f_X3_37 rfl rfl dX3_copyFrom_50 ?_
  refine r_putI (by first | assumption | rfl) f_X3_37 rfl rfl rfl rfl dX3_copyFrom_53 ?_
  refine r_aload_n dX3_copyFrom_56 0 rfl ?_
  refine r_aload_n dX3_copyFrom_57 1 rfl ?_
  refine r_getI (by first | assumption | rfl) f_X3_40 rfl rfl dX3_copyFrom_58 ?_
  refine r_putI (by first | assumption | rfl) f_X3_40 rfl rfl rfl rfl dX3_copyFrom_61 ?_
  refine r_aload_n dX3_copyFrom_64 0 rfl ?_
  refine r_aload_n dX3_copyFrom_65 1 rfl ?_
  refine r_getI (by first | assumption | rfl) f_X3_43 rfl rfl dX3_copyFrom_66 ?_
  refine r_putI (by first | assumption | rfl) f_X3_43 rfl rfl rfl rfl dX3_copyFrom_69 ?_
  refine r_aload_n dX3_copyFrom_72 0 rfl ?_
  refine r_aload_n dX3_copyFrom_73 1 rfl ?_
  refine r_getI (by first | assumption | rfl) f_X3_46 rfl rfl dX3_copyFrom_74 ?_
  refine r_putI (by first | assumption | rfl) f_X3_46 rfl rfl rfl rfl dX3_copyFrom_77 ?_
  refine r_aload_n dX3_copyFrom_80 1 rfl ?_
  refine r_getR (by first | assumption | rfl) f_X3_9 rfl rfl dX3_copyFrom_81 (by first | assumption | rfl) ?_
  refine r_iconst dX3_copyFrom_84 (v := 0) rfl ?_
  refine r_aload_n dX3_copyFrom_85 0 rfl ?_
  refine r_getR (by first | assumption | rfl) f_X3_9 rfl rfl dX3_copyFrom_86 (by first | assumption | rfl) ?_
  refine r_iconst dX3_copyFrom_89 (v := 0) rfl ?_
  refine r_bipush dX3_copyFrom_90 (v := 16) (by decide +kernel) ?_
  refine r_copy (sp := 0) (dp := 0) (n := 16) (by first | assumption | rfl) (by first | assumption | rfl) rfl rfl rfl (by rw [m1]; decide) (by rw [l1]; decide) l_X3_49 rfl (by omega) dX3_copyFrom_92 ?_
  refine r_aload_n dX3_copyFrom_95 1 rfl ?_
  refine r_getR (by first | assumption | rfl) f_X3_15 rfl rfl dX3_copyFrom_96 (by first | assumption | rfl) ?_
  refine r_iconst dX3_copyFrom_99 (v := 0) rfl ?_
  refine r_aload_n dX3_copyFrom_100 0 rfl ?_
  refine r_getR (by first | assumption | rfl) f_X3_15 rfl rfl dX3_copyFrom_101 (by first | assumption | rfl) ?_
  refine r_iconst dX3_copyFrom_104 (v := 0) rfl ?_
  refine r_bipush dX3_copyFrom_105 (v := 16) (by decide +kernel) ?_
  refine r_copy (sp := 0) (dp := 0) (n := 16) (by first | assumption | rfl) (by first | assumption | rfl) rfl rfl rfl (by rw [m2]; decide) (by rw [l2]; decide) l_X3_49 rfl (by omega) dX3_copyFrom_107 ?_
  refine r_vret rfl dX3_copyFrom_110 ?_
  refine ⟨rfl, ⟨?_, ?_, fun k hk => ?_⟩, FR.rf.up0.up0.up0.up0.up0.up0.up0.up0.up0.up0.up1'.up2⟩
  · simp only [up1, upd, reduceIte, Nat.reduceEqDiff, ap1, ap2, hab]; exact ⟨a1, a2, a3, a4, a5, a6⟩
  · simp only [up1, upd, reduceIte, Nat.reduceEqDiff, ap1, ap2, hab]; exact ⟨b1, b2, b3, b4⟩
  · simp only [up1, ap3, ap4, ap5, ap6, reduceIte, z3, z4, z5, z6, z7, z8, cpy16 hk]; exact c k hk
end
section
/-! the class's State and History. N = (globals: 0 patience, 1 away, 2 minutes, 3 troops, 4 early comings; the troops) -/
abbrev mN : Type := (Nat → Int32) × (Nat → mT)
def cnt (N : mN) : Nat := (N.1 3).toNatClampNeg
def WN (N : mN) : Prop := (∃ c, N.1 3 = nI c ∧ c ≤ 5) ∧ ∀ t, t < cnt N → WF (N.2 t)
theorem WN.cn {N : mN} (h : WN N) : N.1 3 = nI (cnt N) ∧ cnt N ≤ 5 := by
  obtain ⟨⟨c, h1, h2⟩, -⟩ := h
  have : cnt N = c := by unfold cnt; rw [h1]; exact nI_clamp (by omega)
  rw [this]; exact ⟨h1, h2⟩
def SP (S : mS) (b : Nat) (N : mN) : Prop := (S (b + 1) 0 = N.1 0 ∧ S (b + 1) 1 = N.1 1 ∧ S b 2 = N.1 3 ∧ S b 3 = N.1 2 ∧ S b 4 = N.1 4) ∧ ∀ t, t < cnt N → TP S (b + 3 + 3 * t) (N.2 t)
def FS (b : Nat) (S u : mS) : Prop := ∀ c, (c < b ∨ b + 18 ≤ c) → u c = S c
theorem FS.rf {b : Nat} {S : mS} : FS b S S := fun _ _ => rfl
theorem FS.tr {b : Nat} {S u w : mS} (h : FS b S u) (g : FS b u w) : FS b S w := fun c hc => (g c hc).trans (h c hc)
theorem FS.up {b c : Nat} {S u : mS} {f : Nat → Int32} (h : FS b S u) (h1 : b ≤ c) (h2 : c < b + 18) : FS b S (up1 u c f) := fun x hx => (up1_n (by omega)).trans (h x hx)
theorem FS.fr {b t : Nat} {S u w : mS} (h : FS b S u) (ht : t < 5) (g : FR (b + 3 + 3 * t) u w) : FS b S w := fun x hx => (g x (by omega) (by omega) (by omega)).trans (h x hx)
theorem SP.off {S u : mS} {b : Nat} {N : mN} (h : SP S b N) (hc : cnt N ≤ 5) (g : ∀ c, b ≤ c → c < b + 18 → u c = S c) : SP u b N := by
  refine ⟨?_, fun t ht => ?_⟩
  · rw [g (b + 1) (by omega) (by omega), g b (by omega) (by omega)]; exact h.1
  · exact (h.2 t ht).off (fun x hx => g x (by omega) (by omega))
theorem kdS {b : Nat} (h : kd b = 2) : kd (b + 1) = 6 ∧ kd (b + 2) = 10 ∧ ln (b + 1) = 2 ∧ ln (b + 2) = 5 ∧ rf b 0 = b + 1 ∧ rf b 1 = b + 2 ∧ (∀ t, rf (b + 2) t = b + 3 + 3 * t) ∧ (∀ t, t < 5 → kd (b + 3 + 3 * t) = 3) := by
  have h2 := (by decide +kernel : ∀ b, b < 199 → kd b = 2 → (kd (b + 1) = 6 ∧ kd (b + 2) = 10 ∧ ln (b + 1) = 2 ∧ ln (b + 2) = 5) ∧ ∀ t, t < 5 → kd (b + 3 + 3 * t) = 3) b (kd_lt (by omega)) h
  refine ⟨h2.1.1, h2.1.2.1, h2.1.2.2.1, h2.1.2.2.2, ?_, ?_, ?_, h2.2⟩
  · unfold rf; rw [h]; rfl
  · unfold rf; rw [h]; rfl
  · intro t; unfold rf; rw [h2.1.2.1]; show b + 2 + 1 + 3 * t = b + 3 + 3 * t; omega
theorem kdS2 {a b : Nat} (ha : kd a = 2) (hb : kd b = 2) (h : a ≠ b) : a + 18 ≤ b ∨ b + 18 ≤ a := by
  have key := (by decide +kernel : ∀ b, b < 199 → kd b = 2 → b = 1 ∨ b = 148 ∨ b = 166 ∨ (21 ≤ b ∧ (b - 21) % 18 = 0 ∧ b ≤ 129))
  have h1 := key a (kd_lt (by omega)) ha
  have h2 := key b (kd_lt (by omega)) hb
  omega
theorem cpy2 {f g : Nat → Int32} {k : Nat} (h : k < 2) : va_cpy f g 0 0 2 k = f k := by rw [pk_cpy_in (Nat.zero_le _) (by omega)]; simp
section STATE
variable {G : mG} {d : Nat} {S0 : mS} {a b : Nat} {N : mN} {Q : Option Int32 → mS → Prop}
theorem lp_X2_copyFrom (ha : kd a = 2) (hb : kd b = 2) (hab : a ≠ b) (hW : WN N) (hP : SP S0 b N) (hx : ∀ u, SP u a N → FS a S0 u → Q none u) : ∀ n t S, n + t = cnt N → (S (a + 1) 0 = N.1 0 ∧ S (a + 1) 1 = N.1 1 ∧ S a 2 = N.1 3 ∧ S a 3 = N.1 2 ∧ S a 4 = N.1 4) → (∀ i, i < t → TP S (a + 3 + 3 * i) (N.2 i)) → FS a S0 S → At G (d + 5) M_X2_copyFrom Q 40 [(0, rv G a), (1, rv G b), (2, .int (nI t))] [] S := by
  obtain ⟨k1, k2, l1, l2, f1, f2, f3, k3⟩ := kdS ha
  obtain ⟨g1, g2, m1, m2, e1, e2, e3, g3⟩ := kdS hb
  obtain ⟨hc, hc5⟩ := hW.cn
  have hd := kdS2 ha hb hab
  intro n
  induction n with
  | zero =>
    intro t S ht h1 h2 hF
    obtain rfl : t = cnt N := by omega
    refine r_iload_n dX2_copyFrom_40 2 rfl ?_
    refine r_aload_n dX2_copyFrom_41 0 rfl ?_
    refine r_getI (by first | assumption | rfl) f_X2_28 rfl rfl dX2_copyFrom_42 ?_
    refine r_icmp_ge dX2_copyFrom_45 (tgt := 69) (by decide) (fun h45 => ?_) (fun h45 => ?_)
    · --t
      refine r_vret rfl dX2_copyFrom_69 ?_
      exact hx _ ⟨h1, h2⟩ hF
    · --f
      exact absurd (by rw [h1.2.2.1, hc]; exact Int32.le_refl _) h45
  | succ n ih =>
    intro t S ht h1 h2 hF
    have ht5 : t < 5 := by omega
    have hl : t < ln (a + 2) := by rw [l2]; exact ht5
    have hl' : t < ln (b + 2) := by rw [m2]; exact ht5
    have hta := k3 t ht5
    have htb := g3 t ht5
    have hTb : TP S (b + 3 + 3 * t) (N.2 t) := (hP.2 t (by omega)).off (fun x hx => hF x (by omega))
    refine r_iload_n dX2_copyFrom_40 2 rfl ?_
    refine r_aload_n dX2_copyFrom_41 0 rfl ?_
    refine r_getI (by first | assumption | rfl) f_X2_28 rfl rfl dX2_copyFrom_42 ?_
    refine r_icmp_ge dX2_copyFrom_45 (tgt := 69) (by decide) (fun h45 => ?_) (fun h45 => ?_)
    · --t
      exact absurd (by rw [h1.2.2.1, hc] at h45; exact h45) (nI_ge (show t < cnt N by omega) (by omega))
    · --f
      refine r_aload_n dX2_copyFrom_48 0 rfl ?_
      refine r_getR (by first | assumption | rfl) f_X2_17 rfl rfl dX2_copyFrom_49 (by first | assumption | rfl) ?_
      refine r_iload_n dX2_copyFrom_52 2 rfl ?_
      refine r_aald10 (j := _) (by first | assumption | rfl) (by first | assumption | rfl) (by first | assumption | decide) (f3 t) dX2_copyFrom_53 ?_
      refine r_aload_n dX2_copyFrom_54 1 rfl ?_
      refine r_getR (by first | assumption | rfl) f_X2_17 rfl rfl dX2_copyFrom_55 (by first | assumption | rfl) ?_
      refine r_iload_n dX2_copyFrom_58 2 rfl ?_
      refine r_aald10 (j := _) (by first | assumption | rfl) (by first | assumption | rfl) (by first | assumption | decide) (e3 t) dX2_copyFrom_59 ?_
      refine r_callVv (As := [_]) c_X3_copyFrom (by first | assumption | rfl) l_X2_38 rfl rfl rfl (Nat.le_of_ble_eq_true rfl) dX2_copyFrom_60 (t_X3_copyFrom hta htb (by omega) hTb) (fun u60 q60 => ?_)
      obtain ⟨-, hT2, hF2⟩ := q60
      refine r_iinc (lo2 := [(0, _), (1, _), (2, _)]) dX2_copyFrom_63 2 rfl (w := 1) rfl (Nat.le_of_ble_eq_true rfl) [1, 2, 0] rfl ?_
      refine r_goto dX2_copyFrom_66 (tgt := 40) (by decide) ?_
      rw [nI_1]
      refine ih (t + 1) _ (by omega) ?_ (fun i hi => ?_) (hF.fr ht5 hF2)
      · rw [hF2 (a + 1) (by omega) (by omega) (by omega), hF2 a (by omega) (by omega) (by omega)]; exact h1
      · by_cases e : i = t
        · subst e; exact hT2
        · exact (h2 i (by omega)).off (fun x hx => hF2 x (by omega) (by omega) (by omega))
theorem t_X2_copyFrom {S : mS} (ha : kd a = 2) (hb : kd b = 2) (hab : a ≠ b) (hW : WN N) (hP : SP S b N) : Call G (d + 5) M_X2_copyFrom [rv G a, rv G b] S (fun v u => v = none ∧ SP u a N ∧ FS a S u) := by
  refine call_of (lo := [(0, rv G a), (1, rv G b)]) (by decide +kernel) (Nat.le_of_ble_eq_true rfl) rfl ?_
  obtain ⟨k1, k2, l1, l2, f1, f2, f3, k3⟩ := kdS ha
  obtain ⟨g1, g2, m1, m2, e1, e2, e3, g3⟩ := kdS hb
  have hd := kdS2 ha hb hab
  refine r_aload_n dX2_copyFrom_0 1 rfl ?_
  refine r_getR (by first | assumption | rfl) f_X2_9 rfl rfl dX2_copyFrom_1 (by first | assumption | rfl) ?_
  refine r_iconst dX2_copyFrom_4 (v := 0) rfl ?_
  refine r_aload_n dX2_copyFrom_5 0 rfl ?_
  refine r_getR (by first | assumption | rfl) f_X2_9 rfl rfl dX2_copyFrom_6 (by first | assumption | rfl) ?_
  refine r_iconst dX2_copyFrom_9 (v := 0) rfl ?_
  refine r_iconst dX2_copyFrom_10 (v := 2) rfl ?_
  refine r_copy (sp := 0) (dp := 0) (n := 2) (by first | assumption | rfl) (by first | assumption | rfl) rfl rfl rfl (by rw [m1]; decide) (by rw [l1]; decide) l_X2_22 rfl (by omega) dX2_copyFrom_11 ?_
  refine r_aload_n dX2_copyFrom_14 0 rfl ?_
  refine r_aload_n dX2_copyFrom_15 1 rfl ?_
  refine r_getI (by first | assumption | rfl) f_X2_28 rfl rfl dX2_copyFrom_16 ?_
  refine r_putI (by first | assumption | rfl) f_X2_28 rfl rfl rfl rfl dX2_copyFrom_19 ?_
  refine r_aload_n dX2_copyFrom_22 0 rfl ?_
  refine r_aload_n dX2_copyFrom_23 1 rfl ?_
  refine r_getI (by first | assumption | rfl) f_X2_32 rfl rfl dX2_copyFrom_24 ?_
  refine r_putI (by first | assumption | rfl) f_X2_32 rfl rfl rfl rfl dX2_copyFrom_27 ?_
  refine r_aload_n dX2_copyFrom_30 0 rfl ?_
  refine r_aload_n dX2_copyFrom_31 1 rfl ?_
  refine r_getI (by first | assumption | rfl) f_X2_35 rfl rfl dX2_copyFrom_32 ?_
  refine r_putI (by first | assumption | rfl) f_X2_35 rfl rfl rfl rfl dX2_copyFrom_35 ?_
  refine r_iconst dX2_copyFrom_38 (v := 0) rfl ?_
  refine r_istore_n (lo2 := [(0, _), (1, _), (2, _)]) dX2_copyFrom_39 rfl (Nat.le_of_ble_eq_true rfl) [1, 2, 0] rfl ?_
  refine at_gen (fun w hw => ?_)
  refine lp_X2_copyFrom (S0 := S) ha hb hab hW hP (fun u h1 h2 => ⟨rfl, h1, h2⟩) (cnt N) 0 w (by omega) ?_ (fun i hi => absurd hi (by omega)) ?_
  · have n1 : (b = a) = False := by simp; omega
    have n2 : (b = a + 1) = False := by simp; omega
    rw [hw]; simp only [up1, upd, reduceIte, Nat.reduceEqDiff, ap1, ap3, n1, n2, cpy2 (show 0 < 2 by omega), cpy2 (show 1 < 2 by omega)]; exact hP.1
  · rw [hw]; exact (((FS.rf.up (by omega) (by omega)).up (by omega) (by omega)).up (by omega) (by omega)).up (by omega) (by omega)
def sumN (f : mT → Int32) (N : mN) : Nat → Int32
  | 0 => 0
  | n + 1 => sumN f N n + f (N.2 n)
theorem lp_X2_hikes {S : mS} (ha : kd a = 2) (hW : WN N) (hP : SP S a N) (hx : Q (some (sumN (fun T => T.1 3) N (cnt N))) S) : ∀ n t, n + t = cnt N → At G d M_X2_hikes Q 4 [(0, rv G a), (1, .int (sumN (fun T => T.1 3) N t)), (2, .int (nI t))] [] S := by
  obtain ⟨k1, k2, l1, l2, f1, f2, f3, k3⟩ := kdS ha
  obtain ⟨hc, hc5⟩ := hW.cn
  intro n
  induction n with
  | zero =>
    intro t ht
    obtain rfl : t = cnt N := by omega
    refine r_iload_n dX2_hikes_4 2 rfl ?_
    refine r_aload_n dX2_hikes_5 0 rfl ?_
    refine r_getI (by first | assumption | rfl) f_X2_28 rfl rfl dX2_hikes_6 ?_
    refine r_icmp_ge dX2_hikes_9 (tgt := 30) (by decide) (fun h9 => ?_) (fun h9 => ?_)
    · --t
      refine r_iload_n dX2_hikes_30 1 rfl ?_
      refine r_iret rfl dX2_hikes_31 ?_
      exact hx
    · --f
      exact absurd (by rw [hP.1.2.2.1, hc]; exact Int32.le_refl _) h9
  | succ n ih =>
    intro t ht
    have ht5 : t < 5 := by omega
    have hl : t < ln (a + 2) := by rw [l2]; exact ht5
    have hta := k3 t ht5
    refine r_iload_n dX2_hikes_4 2 rfl ?_
    refine r_aload_n dX2_hikes_5 0 rfl ?_
    refine r_getI (by first | assumption | rfl) f_X2_28 rfl rfl dX2_hikes_6 ?_
    refine r_icmp_ge dX2_hikes_9 (tgt := 30) (by decide) (fun h9 => ?_) (fun h9 => ?_)
    · --t
      exact absurd (by rw [hP.1.2.2.1, hc] at h9; exact h9) (nI_ge (show t < cnt N by omega) (by omega))
    · --f
      refine r_iload_n dX2_hikes_12 1 rfl ?_
      refine r_aload_n dX2_hikes_13 0 rfl ?_
      refine r_getR (by first | assumption | rfl) f_X2_17 rfl rfl dX2_hikes_14 (by first | assumption | rfl) ?_
      refine r_iload_n dX2_hikes_17 2 rfl ?_
      refine r_aald10 (j := _) (by first | assumption | rfl) (by first | assumption | rfl) (by first | assumption | decide) (f3 t) dX2_hikes_18 ?_
      refine r_getI (by first | assumption | rfl) f_X2_42 rfl rfl dX2_hikes_19 ?_
      refine r_iadd dX2_hikes_22 ?_
      refine r_istore_n (lo2 := [(0, _), (1, _), (2, _)]) dX2_hikes_23 rfl (Nat.le_of_ble_eq_true rfl) [1, 0, 2] rfl ?_
      refine r_iinc (lo2 := [(0, _), (1, _), (2, _)]) dX2_hikes_24 2 rfl (w := 1) rfl (Nat.le_of_ble_eq_true rfl) [1, 2, 0] rfl ?_
      refine r_goto dX2_hikes_27 (tgt := 4) (by decide) ?_
      rw [nI_1, (hP.2 t (by omega)).1.2.2.2.2.1]
      exact ih (t + 1) (by omega)
theorem t_X2_hikes {S : mS} (ha : kd a = 2) (hW : WN N) (hP : SP S a N) : Call G d M_X2_hikes [rv G a] S (fun v u => v = some (sumN (fun T => T.1 3) N (cnt N)) ∧ u = S) := by
  refine call_of (lo := [(0, rv G a)]) (by decide +kernel) (Nat.le_of_ble_eq_true rfl) rfl ?_
  refine r_iconst dX2_hikes_0 (v := 0) rfl ?_
  refine r_istore_n (lo2 := [(0, _), (1, _)]) dX2_hikes_1 rfl (Nat.le_of_ble_eq_true rfl) [1, 0] rfl ?_
  refine r_iconst dX2_hikes_2 (v := 0) rfl ?_
  refine r_istore_n (lo2 := [(0, _), (1, _), (2, _)]) dX2_hikes_3 rfl (Nat.le_of_ble_eq_true rfl) [1, 2, 0] rfl ?_
  exact lp_X2_hikes ha hW hP ⟨rfl, rfl⟩ (cnt N) 0 (by omega)
theorem lp_X2_scoutsOnHikes {S : mS} (ha : kd a = 2) (hW : WN N) (hP : SP S a N) (hx : Q (some (sumN (fun T => szF (hm T 3) 16) N (cnt N))) S) : ∀ n t, n + t = cnt N → At G (d + 1) M_X2_scoutsOnHikes Q 4 [(0, rv G a), (1, .int (sumN (fun T => szF (hm T 3) 16) N t)), (2, .int (nI t))] [] S := by
  obtain ⟨k1, k2, l1, l2, f1, f2, f3, k3⟩ := kdS ha
  obtain ⟨hc, hc5⟩ := hW.cn
  intro n
  induction n with
  | zero =>
    intro t ht
    obtain rfl : t = cnt N := by omega
    refine r_iload_n dX2_scoutsOnHikes_4 2 rfl ?_
    refine r_aload_n dX2_scoutsOnHikes_5 0 rfl ?_
    refine r_getI (by first | assumption | rfl) f_X2_28 rfl rfl dX2_scoutsOnHikes_6 ?_
    refine r_icmp_ge dX2_scoutsOnHikes_9 (tgt := 33) (by decide) (fun h9 => ?_) (fun h9 => ?_)
    · --t
      refine r_iload_n dX2_scoutsOnHikes_33 1 rfl ?_
      refine r_iret rfl dX2_scoutsOnHikes_34 ?_
      exact hx
    · --f
      exact absurd (by rw [hP.1.2.2.1, hc]; exact Int32.le_refl _) h9
  | succ n ih =>
    intro t ht
    have ht5 : t < 5 := by omega
    have hl : t < ln (a + 2) := by rw [l2]; exact ht5
    have hta := k3 t ht5
    refine r_iload_n dX2_scoutsOnHikes_4 2 rfl ?_
    refine r_aload_n dX2_scoutsOnHikes_5 0 rfl ?_
    refine r_getI (by first | assumption | rfl) f_X2_28 rfl rfl dX2_scoutsOnHikes_6 ?_
    refine r_icmp_ge dX2_scoutsOnHikes_9 (tgt := 33) (by decide) (fun h9 => ?_) (fun h9 => ?_)
    · --t
      exact absurd (by rw [hP.1.2.2.1, hc] at h9; exact h9) (nI_ge (show t < cnt N by omega) (by omega))
    · --f
      refine r_iload_n dX2_scoutsOnHikes_12 1 rfl ?_
      refine r_aload_n dX2_scoutsOnHikes_13 0 rfl ?_
      refine r_getR (by first | assumption | rfl) f_X2_17 rfl rfl dX2_scoutsOnHikes_14 (by first | assumption | rfl) ?_
      refine r_iload_n dX2_scoutsOnHikes_17 2 rfl ?_
      refine r_aald10 (j := _) (by first | assumption | rfl) (by first | assumption | rfl) (by first | assumption | decide) (f3 t) dX2_scoutsOnHikes_18 ?_
      refine r_getI (by first | assumption | rfl) f_X2_45 rfl rfl dX2_scoutsOnHikes_19 ?_
      refine r_callSiF (As := [_]) c_J6_bitCount_0f7a4 l_X2_48 rfl rfl rfl (Nat.le_of_ble_eq_true rfl) dX2_scoutsOnHikes_22 t_J6_bitCount_0f7a4 ?_
      refine r_iadd dX2_scoutsOnHikes_25 ?_
      refine r_istore_n (lo2 := [(0, _), (1, _), (2, _)]) dX2_scoutsOnHikes_26 rfl (Nat.le_of_ble_eq_true rfl) [1, 0, 2] rfl ?_
      refine r_iinc (lo2 := [(0, _), (1, _), (2, _)]) dX2_scoutsOnHikes_27 2 rfl (w := 1) rfl (Nat.le_of_ble_eq_true rfl) [1, 2, 0] rfl ?_
      refine r_goto dX2_scoutsOnHikes_30 (tgt := 4) (by decide) ?_
      rw [nI_1, (hP.2 t (by omega)).2.1.2.2.1, bc_ok (m := hm (N.2 t) 3) (mkm_hi _)]
      exact ih (t + 1) (by omega)
theorem t_X2_scoutsOnHikes {S : mS} (ha : kd a = 2) (hW : WN N) (hP : SP S a N) : Call G (d + 1) M_X2_scoutsOnHikes [rv G a] S (fun v u => v = some (sumN (fun T => szF (hm T 3) 16) N (cnt N)) ∧ u = S) := by
  refine call_of (lo := [(0, rv G a)]) (by decide +kernel) (Nat.le_of_ble_eq_true rfl) rfl ?_
  refine r_iconst dX2_scoutsOnHikes_0 (v := 0) rfl ?_
  refine r_istore_n (lo2 := [(0, _), (1, _)]) dX2_scoutsOnHikes_1 rfl (Nat.le_of_ble_eq_true rfl) [1, 0] rfl ?_
  refine r_iconst dX2_scoutsOnHikes_2 (v := 0) rfl ?_
  refine r_istore_n (lo2 := [(0, _), (1, _), (2, _)]) dX2_scoutsOnHikes_3 rfl (Nat.le_of_ble_eq_true rfl) [1, 2, 0] rfl ?_
  exact lp_X2_scoutsOnHikes ha hW hP ⟨rfl, rfl⟩ (cnt N) 0 (by omega)
theorem lp_X2_scoutsLost {S : mS} (ha : kd a = 2) (hW : WN N) (hP : SP S a N) (hx : Q (some (sumN (fun T => szF (hm T 4) 16) N (cnt N))) S) : ∀ n t, n + t = cnt N → At G (d + 1) M_X2_scoutsLost Q 4 [(0, rv G a), (1, .int (sumN (fun T => szF (hm T 4) 16) N t)), (2, .int (nI t))] [] S := by
  obtain ⟨k1, k2, l1, l2, f1, f2, f3, k3⟩ := kdS ha
  obtain ⟨hc, hc5⟩ := hW.cn
  intro n
  induction n with
  | zero =>
    intro t ht
    obtain rfl : t = cnt N := by omega
    refine r_iload_n dX2_scoutsLost_4 2 rfl ?_
    refine r_aload_n dX2_scoutsLost_5 0 rfl ?_
    refine r_getI (by first | assumption | rfl) f_X2_28 rfl rfl dX2_scoutsLost_6 ?_
    refine r_icmp_ge dX2_scoutsLost_9 (tgt := 33) (by decide) (fun h9 => ?_) (fun h9 => ?_)
    · --t
      refine r_iload_n dX2_scoutsLost_33 1 rfl ?_
      refine r_iret rfl dX2_scoutsLost_34 ?_
      exact hx
    · --f
      exact absurd (by rw [hP.1.2.2.1, hc]; exact Int32.le_refl _) h9
  | succ n ih =>
    intro t ht
    have ht5 : t < 5 := by omega
    have hl : t < ln (a + 2) := by rw [l2]; exact ht5
    have hta := k3 t ht5
    refine r_iload_n dX2_scoutsLost_4 2 rfl ?_
    refine r_aload_n dX2_scoutsLost_5 0 rfl ?_
    refine r_getI (by first | assumption | rfl) f_X2_28 rfl rfl dX2_scoutsLost_6 ?_
    refine r_icmp_ge dX2_scoutsLost_9 (tgt := 33) (by decide) (fun h9 => ?_) (fun h9 => ?_)
    · --t
      exact absurd (by rw [hP.1.2.2.1, hc] at h9; exact h9) (nI_ge (show t < cnt N by omega) (by omega))
    · --f
      refine r_iload_n dX2_scoutsLost_12 1 rfl ?_
      refine r_aload_n dX2_scoutsLost_13 0 rfl ?_
      refine r_getR (by first | assumption | rfl) f_X2_17 rfl rfl dX2_scoutsLost_14 (by first | assumption | rfl) ?_
      refine r_iload_n dX2_scoutsLost_17 2 rfl ?_
      refine r_aald10 (j := _) (by first | assumption | rfl) (by first | assumption | rfl) (by first | assumption | decide) (f3 t) dX2_scoutsLost_18 ?_
      refine r_getI (by first | assumption | rfl) f_X2_54 rfl rfl dX2_scoutsLost_19 ?_
      refine r_callSiF (As := [_]) c_J6_bitCount_0f7a4 l_X2_48 rfl rfl rfl (Nat.le_of_ble_eq_true rfl) dX2_scoutsLost_22 t_J6_bitCount_0f7a4 ?_
      refine r_iadd dX2_scoutsLost_25 ?_
      refine r_istore_n (lo2 := [(0, _), (1, _), (2, _)]) dX2_scoutsLost_26 rfl (Nat.le_of_ble_eq_true rfl) [1, 0, 2] rfl ?_
      refine r_iinc (lo2 := [(0, _), (1, _), (2, _)]) dX2_scoutsLost_27 2 rfl (w := 1) rfl (Nat.le_of_ble_eq_true rfl) [1, 2, 0] rfl ?_
      refine r_goto dX2_scoutsLost_30 (tgt := 4) (by decide) ?_
      rw [nI_1, (hP.2 t (by omega)).2.1.2.2.2, bc_ok (m := hm (N.2 t) 4) (mkm_hi _)]
      exact ih (t + 1) (by omega)
theorem t_X2_scoutsLost {S : mS} (ha : kd a = 2) (hW : WN N) (hP : SP S a N) : Call G (d + 1) M_X2_scoutsLost [rv G a] S (fun v u => v = some (sumN (fun T => szF (hm T 4) 16) N (cnt N)) ∧ u = S) := by
  refine call_of (lo := [(0, rv G a)]) (by decide +kernel) (Nat.le_of_ble_eq_true rfl) rfl ?_
  refine r_iconst dX2_scoutsLost_0 (v := 0) rfl ?_
  refine r_istore_n (lo2 := [(0, _), (1, _)]) dX2_scoutsLost_1 rfl (Nat.le_of_ble_eq_true rfl) [1, 0] rfl ?_
  refine r_iconst dX2_scoutsLost_2 (v := 0) rfl ?_
  refine r_istore_n (lo2 := [(0, _), (1, _), (2, _)]) dX2_scoutsLost_3 rfl (Nat.le_of_ble_eq_true rfl) [1, 2, 0] rfl ?_
  exact lp_X2_scoutsLost ha hW hP ⟨rfl, rfl⟩ (cnt N) 0 (by omega)
end STATE
end
section
/-! the class's History: cells 19 and 20, seven States from 21 on -/
def pl (m : Nat) : Nat := 21 + 18 * (m % 7)
theorem kdP {m : Nat} : kd (pl m) = 2 := (by decide +kernel : ∀ m, m < 7 → kd (21 + 18 * m) = 2) (m % 7) (Nat.mod_lt _ (by decide))
/-- n states are kept, h 0 is the oldest; the oldest lies at o -/
def HPo (S : mS) (o n : Nat) (h : Nat → mN) : Prop := (o < 7 ∧ S 19 1 = nI o) ∧ (n ≤ 6 ∧ S 19 2 = nI n) ∧ ∀ i, i < n → WN (h i) ∧ SP S (pl (o + i)) (h i)
def HP (S : mS) (n : Nat) (h : Nat → mN) : Prop := ∃ o, HPo S o n h
/-- and N is noted behind them -/
def HN (S : mS) (n : Nat) (h : Nat → mN) (N : mN) : Prop := ∃ o, HPo S o n h ∧ WN N ∧ SP S (pl (o + n)) N
theorem HN.hp {S : mS} {n : Nat} {h : Nat → mN} {N : mN} (g : HN S n h N) : HP S n h := by obtain ⟨o, g, -⟩ := g; exact ⟨o, g⟩
def psN (n : Nat) : Nat := if n < 6 then n + 1 else 6
def psH (n : Nat) (h : Nat → mN) (N : mN) : Nat → mN := if n < 6 then (fun i => if i = n then N else h i) else (fun i => if i < 5 then h (i + 1) else N)
/-- the cells of the history -/
def FH (S u : mS) : Prop := ∀ c, (c < 19 ∨ 147 ≤ c) → u c = S c
theorem FH.rf {S : mS} : FH S S := fun _ _ => rfl
theorem FH.tr {S u w : mS} (h : FH S u) (g : FH u w) : FH S w := fun c hc => (g c hc).trans (h c hc)
theorem HPo.off {S u : mS} {o n : Nat} {h : Nat → mN} (g : HPo S o n h) (k : ∀ c, 19 ≤ c → c < 147 → u c = S c) : HPo u o n h := by
  refine ⟨by rw [k 19 (by omega) (by omega)]; exact g.1, by rw [k 19 (by omega) (by omega)]; exact g.2.1, fun i hi => ⟨(g.2.2 i hi).1, (g.2.2 i hi).2.off (g.2.2 i hi).1.cn.2 (fun c h1 h2 => k c (by unfold pl at h1; omega) (by unfold pl at h2; omega))⟩⟩
theorem HP.off {S u : mS} {n : Nat} {h : Nat → mN} (g : HP S n h) (k : ∀ c, 19 ≤ c → c < 147 → u c = S c) : HP u n h := by obtain ⟨o, g⟩ := g; exact ⟨o, g.off k⟩
theorem HN.off {S u : mS} {n : Nat} {h : Nat → mN} {N : mN} (g : HN S n h N) (k : ∀ c, 19 ≤ c → c < 147 → u c = S c) : HN u n h N := by
  obtain ⟨o, g, w, g2⟩ := g
  exact ⟨o, g.off k, w, g2.off w.cn.2 (fun c h1 h2 => k c (by unfold pl at h1; omega) (by unfold pl at h2; omega))⟩
theorem nI_7 {x y : Int32} {a b : Nat} (hx : x = nI a) (hy : y = nI b) (ha : a < 100) (hb : b < 100) : (x + y) - (x + y) / 7 * 7 = nI ((a + b) % 7) := by
  rw [hx, hy, nI_add]; exact pk_rem (d := 7) (by omega) (by omega) (by omega)
section HIST
variable {G : mG} {d : Nat} {S : mS} {n : Nat} {h : Nat → mN} {N : mN}
theorem t_X0_note (hP : HP S n h) (hW : WN N) (hN : SP S 1 N) : Call G (d + 6) M_X0_note [rv G 19, rv G 1] S (fun v u => v = none ∧ HN u n h N ∧ FH S u) := by
  refine call_of (lo := [(0, rv G 19), (1, rv G 1)]) (by decide +kernel) (Nat.le_of_ble_eq_true rfl) rfl ?_
  obtain ⟨o, ⟨ho, eo⟩, ⟨hn, en⟩, hi⟩ := hP
  have hj : (o + n) % 7 < ln 20 := show (o + n) % 7 < 7 from Nat.mod_lt _ (by decide)
  have h1 : kd 1 = 2 := rfl
  refine r_aload_n dX0_note_0 0 rfl ?_
  refine r_getR (by first | assumption | rfl) f_X0_13 rfl rfl dX0_note_1 (by first | assumption | rfl) ?_
  refine r_aload_n dX0_note_4 0 rfl ?_
  refine r_getI (by first | assumption | rfl) f_X0_18 rfl rfl dX0_note_5 ?_
  refine r_aload_n dX0_note_8 0 rfl ?_
  refine r_getI (by first | assumption | rfl) f_X0_22 rfl rfl dX0_note_9 ?_
  refine r_iadd dX0_note_12 ?_
  refine r_bipush dX0_note_13 (v := 7) (by decide +kernel) ?_
  refine r_irem dX0_note_15 (by decide) ?_
  refine r_aald9 (j := _) (by first | assumption | rfl) (nI_7 eo en (by omega) (by omega)) (by first | assumption | decide) (show rf 20 ((o + n) % 7) = pl (o + n) from rfl) dX0_note_16 ?_
  refine r_aload_n dX0_note_17 1 rfl ?_
  refine r_callVv (As := [_]) c_X2_copyFrom kdP l_X0_25 rfl rfl rfl (Nat.le_of_ble_eq_true rfl) dX0_note_18 (t_X2_copyFrom kdP h1 (by unfold pl; omega) hW hN) (fun u18 q18 => ?_)
  obtain ⟨-, hP2, hF2⟩ := q18
  refine r_vret rfl dX0_note_21 ?_
  refine ⟨rfl, ⟨o, ⟨⟨ho, ?_⟩, ⟨hn, ?_⟩, fun i hi2 => ⟨(hi i hi2).1, (hi i hi2).2.off (hi i hi2).1.cn.2 (fun c c1 c2 => hF2 c ?_)⟩⟩, hW, hP2⟩, fun c hc => hF2 c (by unfold pl; omega)⟩
  · rw [hF2 19 (by unfold pl; omega)]; exact eo
  · rw [hF2 19 (by unfold pl; omega)]; exact en
  · unfold pl at c1 c2 ⊢; omega
theorem t_X0_keepNoted (hP : HN S n h N) : Call G d M_X0_keepNoted [rv G 19] S (fun v u => v = none ∧ HP u (psN n) (psH n h N) ∧ FH S u) := by
  refine call_of (lo := [(0, rv G 19)]) (by decide +kernel) (Nat.le_of_ble_eq_true rfl) rfl ?_
  obtain ⟨o, ⟨⟨ho, eo⟩, ⟨hn, en⟩, hi⟩, hW, hN⟩ := hP
  have off : ∀ {f : Nat → Int32} {b : Nat} {N' : mN}, WN N' → SP S (pl b) N' → SP (up1 S 19 f) (pl b) N' := fun w z => z.off w.cn.2 (fun c c1 c2 => up1_n (by unfold pl at c1; omega))
  refine r_aload_n dX0_keepNoted_0 0 rfl ?_
  refine r_getI (by first | assumption | rfl) f_X0_22 rfl rfl dX0_keepNoted_1 ?_
  refine r_bipush dX0_keepNoted_4 (v := 6) (by decide +kernel) ?_
  refine r_icmp_ge dX0_keepNoted_6 (tgt := 22) (by decide) (fun h6 => ?_) (fun h6 => ?_)
  · --t
    refine r_aload_n dX0_keepNoted_22 0 rfl ?_
    refine r_aload_n dX0_keepNoted_23 0 rfl ?_
    refine r_getI (by first | assumption | rfl) f_X0_18 rfl rfl dX0_keepNoted_24 ?_
    refine r_iconst dX0_keepNoted_27 (v := 1) rfl ?_
    refine r_iadd dX0_keepNoted_28 ?_
    refine r_bipush dX0_keepNoted_29 (v := 7) (by decide +kernel) ?_
    refine r_irem dX0_keepNoted_31 (by decide) ?_
    refine r_putI (by first | assumption | rfl) f_X0_18 rfl rfl rfl rfl dX0_keepNoted_32 ?_
    refine r_vret rfl dX0_keepNoted_35 ?_
    rw [en, show (6 : Int32) = nI 6 from rfl, nI_leI (by omega) (by omega)] at h6
    refine ⟨rfl, ?_, fun c hc => up1_n (by omega)⟩
    first
      | (have h7 : n < 6 := by omega
         refine ⟨o, ⟨ho, by simp only [up1_s, upd, reduceIte, Nat.reduceEqDiff]; exact eo⟩, ⟨by unfold psN; rw [if_pos h7]; omega, by simp only [up1_s, upd, reduceIte]; rw [en, nI_1]; unfold psN; rw [if_pos h7]⟩, fun i hi2 => ?_⟩
         unfold psN at hi2
         unfold psH
         rw [if_pos h7] at hi2 ⊢
         by_cases e : i = n
         · subst e; simp only [reduceIte]; exact ⟨hW, off hW hN⟩
         · simp only [e, reduceIte]; exact ⟨(hi i (by omega)).1, off (hi i (by omega)).1 (hi i (by omega)).2⟩)
      | (have h7 : ¬ n < 6 := by omega
         obtain rfl : n = 6 := by omega
         refine ⟨(o + 1) % 7, ⟨Nat.mod_lt _ (by decide), by simp only [up1_s, upd, reduceIte]; exact nI_7 eo (b := 1) rfl (by omega) (by omega)⟩, ⟨by decide, by simp only [up1_s, upd, reduceIte, Nat.reduceEqDiff]; rw [en]; rfl⟩, fun i hi2 => ?_⟩
         unfold psN at hi2
         unfold psH
         rw [if_neg h7] at hi2 ⊢
         have e1 : pl ((o + 1) % 7 + i) = pl (o + (i + 1)) := by unfold pl; omega
         rw [e1]
         by_cases e : i < 5
         · simp only [e, reduceIte]; exact ⟨(hi (i + 1) (by omega)).1, off (hi (i + 1) (by omega)).1 (hi (i + 1) (by omega)).2⟩
         · obtain rfl : i = 5 := by omega
           simp only [e, reduceIte]; exact ⟨hW, off hW hN⟩)
  · --f
    refine r_aload_n dX0_keepNoted_9 0 rfl ?_
    refine r_dup dX0_keepNoted_10 rfl ?_
    refine r_getI (by first | assumption | rfl) f_X0_22 rfl rfl dX0_keepNoted_11 ?_
    refine r_iconst dX0_keepNoted_14 (v := 1) rfl ?_
    refine r_iadd dX0_keepNoted_15 ?_
    refine r_putI (by first | assumption | rfl) f_X0_22 rfl rfl rfl rfl dX0_keepNoted_16 ?_
    refine r_goto dX0_keepNoted_19 (tgt := 35) (by decide) ?_
    refine r_vret rfl dX0_keepNoted_35 ?_
    rw [en, show (6 : Int32) = nI 6 from rfl, nI_leI (by omega) (by omega)] at h6
    refine ⟨rfl, ?_, fun c hc => up1_n (by omega)⟩
    first
      | (have h7 : n < 6 := by omega
         refine ⟨o, ⟨ho, by simp only [up1_s, upd, reduceIte, Nat.reduceEqDiff]; exact eo⟩, ⟨by unfold psN; rw [if_pos h7]; omega, by simp only [up1_s, upd, reduceIte]; rw [en, nI_1]; unfold psN; rw [if_pos h7]⟩, fun i hi2 => ?_⟩
         unfold psN at hi2
         unfold psH
         rw [if_pos h7] at hi2 ⊢
         by_cases e : i = n
         · subst e; simp only [reduceIte]; exact ⟨hW, off hW hN⟩
         · simp only [e, reduceIte]; exact ⟨(hi i (by omega)).1, off (hi i (by omega)).1 (hi i (by omega)).2⟩)
      | (have h7 : ¬ n < 6 := by omega
         obtain rfl : n = 6 := by omega
         refine ⟨(o + 1) % 7, ⟨Nat.mod_lt _ (by decide), by simp only [up1_s, upd, reduceIte]; exact nI_7 eo (b := 1) rfl (by omega) (by omega)⟩, ⟨by decide, by simp only [up1_s, upd, reduceIte, Nat.reduceEqDiff]; rw [en]; rfl⟩, fun i hi2 => ?_⟩
         unfold psN at hi2
         unfold psH
         rw [if_neg h7] at hi2 ⊢
         have e1 : pl ((o + 1) % 7 + i) = pl (o + (i + 1)) := by unfold pl; omega
         rw [e1]
         by_cases e : i < 5
         · simp only [e, reduceIte]; exact ⟨(hi (i + 1) (by omega)).1, off (hi (i + 1) (by omega)).1 (hi (i + 1) (by omega)).2⟩
         · obtain rfl : i = 5 := by omega
           simp only [e, reduceIte]; exact ⟨hW, off hW hN⟩)
theorem t_X0_takeBackInto (hP : HP S n h) (hn0 : 0 < n) : Call G (d + 6) M_X0_takeBackInto [rv G 19, rv G 1] S (fun v u => v = none ∧ HP u (n - 1) h ∧ WN (h (n - 1)) ∧ SP u 1 (h (n - 1)) ∧ ∀ c, (c < 1 ∨ 147 ≤ c) → u c = S c) := by
  refine call_of (lo := [(0, rv G 19), (1, rv G 1)]) (by decide +kernel) (Nat.le_of_ble_eq_true rfl) rfl ?_
  obtain ⟨o, ⟨ho, eo⟩, ⟨hn, en⟩, hi⟩ := hP
  have h1 : kd 1 = 2 := rfl
  have hj : (o + (n - 1)) % 7 < ln 20 := show (o + (n - 1)) % 7 < 7 from Nat.mod_lt _ (by decide)
  have e1 : S 19 2 - 1 = nI (n - 1) := by rw [en]; exact pk_sub (b := 1) (by omega)
  have hP2 : SP (up1 S 19 (upd (S 19) 2 (S 19 2 - 1))) (pl (o + (n - 1))) (h (n - 1)) := (hi (n - 1) (by omega)).2.off (hi (n - 1) (by omega)).1.cn.2 (fun c c1 c2 => up1_n (by unfold pl at c1; omega))
  have hWn := (hi (n - 1) (by omega)).1
  refine r_aload_n dX0_takeBackInto_0 0 rfl ?_
  refine r_getI (by first | assumption | rfl) f_X0_22 rfl rfl dX0_takeBackInto_1 ?_
  refine r_if_le dX0_takeBackInto_4 (tgt := 38) (by decide) (fun h4 => ?_) (fun h4 => ?_)
  · --t
    exact absurd h4 (by rw [en]; exact nI_nle hn0 (by omega))
  · --f
    refine r_aload_n dX0_takeBackInto_7 0 rfl ?_
    refine r_dup dX0_takeBackInto_8 rfl ?_
    refine r_getI (by first | assumption | rfl) f_X0_22 rfl rfl dX0_takeBackInto_9 ?_
    refine r_iconst dX0_takeBackInto_12 (v := 1) rfl ?_
    refine r_isub dX0_takeBackInto_13 ?_
    refine r_putI (by first | assumption | rfl) f_X0_22 rfl rfl rfl rfl dX0_takeBackInto_14 ?_
    refine at_gen (fun w hw => ?_)
    rw [← hw] at hP2
    have w1 : w 19 1 = nI o := by rw [hw]; simp only [up1_s, upd, reduceIte, Nat.reduceEqDiff]; exact eo
    have w2 : w 19 2 = nI (n - 1) := by rw [hw]; simp only [up1_s, upd, reduceIte]; exact e1
    have w3 : ∀ c, c ≠ 19 → w c = S c := fun c hc => by rw [hw]; exact up1_n hc
    clear hw
    refine r_aload_n dX0_takeBackInto_17 1 rfl ?_
    refine r_aload_n dX0_takeBackInto_18 0 rfl ?_
    refine r_getR (by first | assumption | rfl) f_X0_13 rfl rfl dX0_takeBackInto_19 (by first | assumption | rfl) ?_
    refine r_aload_n dX0_takeBackInto_22 0 rfl ?_
    refine r_getI (by first | assumption | rfl) f_X0_18 rfl rfl dX0_takeBackInto_23 ?_
    refine r_aload_n dX0_takeBackInto_26 0 rfl ?_
    refine r_getI (by first | assumption | rfl) f_X0_22 rfl rfl dX0_takeBackInto_27 ?_
    refine r_iadd dX0_takeBackInto_30 ?_
    refine r_bipush dX0_takeBackInto_31 (v := 7) (by decide +kernel) ?_
    refine r_irem dX0_takeBackInto_33 (by decide) ?_
    refine r_aald9 (j := _) (by first | assumption | rfl) (nI_7 w1 w2 (by omega) (by omega)) (by first | assumption | decide) (show rf 20 ((o + (n - 1)) % 7) = pl (o + (n - 1)) from rfl) dX0_takeBackInto_34 ?_
    refine r_callVv (As := [_]) c_X2_copyFrom h1 l_X0_25 rfl rfl rfl (Nat.le_of_ble_eq_true rfl) dX0_takeBackInto_35 (t_X2_copyFrom h1 kdP (by unfold pl; omega) hWn hP2) (fun u35 q35 => ?_)
    obtain ⟨-, hP3, hF3⟩ := q35
    refine r_vret rfl dX0_takeBackInto_38 ?_
    refine ⟨rfl, ⟨o, ⟨ho, ?_⟩, ⟨by omega, ?_⟩, fun i hi2 => ⟨(hi i (by omega)).1, (hi i (by omega)).2.off (hi i (by omega)).1.cn.2 (fun c c1 c2 => ?_)⟩⟩, hWn, hP3, fun c hc => ?_⟩
    · rw [hF3 19 (by omega)]; exact w1
    · rw [hF3 19 (by omega)]; exact w2
    · unfold pl at c1 c2; rw [hF3 c (by omega)]; exact w3 c (by omega)
    · rw [hF3 c (by omega)]; exact w3 c (by omega)
end HIST
end
section
/-! what the calls answer and make of N: both sides compute this -/
def isTr (N : mN) (t : Int32) : Bool := decide (0 ≤ t ∧ t < N.1 3)
def isSc (N : mN) (t k : Int32) : Bool := isTr N t && decide (0 ≤ k ∧ k < (N.2 t.toNatClampNeg).1 0)
def setTr (N : mN) (t : Nat) (T : mT) : mN := (N.1, fun i => if i = t then T else N.2 i)
def isSz (s : Int32) : Bool := decide (1 ≤ s ∧ s ≤ 16)
def addN (N : mN) (s : Int32) : mN := (upd N.1 3 (N.1 3 + 1), fun t => if t = cnt N then newT s else N.2 t)
def addO (N : mN) (s : Int32) : Int32 × mN := if isSz s = true then (if 5 ≤ N.1 3 then (-4, N) else (N.1 3, addN N s)) else (-2, N)
def rszO (N : mN) (t s : Int32) : Int32 × mN := if isTr N t = true then (if isSz s = true then ((N.2 t.toNatClampNeg).1 2, setTr N t.toNatClampNeg (rszT (N.2 t.toNatClampNeg) s)) else (-2, N)) else (-1, N)
def whyT (T : mT) (k : Nat) (c : Int32) : Int32 := if T.2.1 k = 3 then 1 else if T.2.1 k = 1 then 2 else if T.2.1 k = 2 then 3 else if c = T.1 1 then 0 else 4
def whyA (N : mN) (t k c : Int32) : Int32 := if isSc N t k = true then (if c < 0 ∨ 1 < c then -2 else whyT (N.2 t.toNatClampNeg) k.toNatClampNeg c) else -1
def comN (N : mN) (t k : Nat) (h : Int32) : Int32 × mN := ((opnN 3 (setH (N.2 t) k h) (N.1 1)).1, setTr N t (opnN 3 (setH (N.2 t) k h) (N.1 1)).2)
def eryN (N : mN) : mN := (upd N.1 4 (N.1 4 + 1), N.2)
def comO (N : mN) (t k c : Int32) : Int32 × mN :=
  if whyA N t k c < 0 then (whyA N t k c, N) else if whyA N t k c = 4 then comN (eryN N) t.toNatClampNeg k.toNatClampNeg 2 else if whyA N t k c = 0 then comN N t.toNatClampNeg k.toNatClampNeg 1 else (-5, N)
def losO (N : mN) (t k : Int32) : Int32 × mN := if isSc N t k = true then (if (N.2 t.toNatClampNeg).2.1 k.toNatClampNeg = 3 ∨ (N.2 t.toNatClampNeg).2.1 k.toNatClampNeg = 4 then (-5, N) else (szF (awM (setH (N.2 t.toNatClampNeg) k.toNatClampNeg 4)) 16, setTr N t.toNatClampNeg (setH (N.2 t.toNatClampNeg) k.toNatClampNeg 4))) else (-1, N)
def finO (N : mN) (t k : Int32) : Int32 × mN := if isSc N t k = true then (if (N.2 t.toNatClampNeg).2.1 k.toNatClampNeg = 4 then ((N.2 t.toNatClampNeg).2.2.1 k.toNatClampNeg, setTr N t.toNatClampNeg (setH (N.2 t.toNatClampNeg) k.toNatClampNeg 0)) else (-5, N)) else (-1, N)
/-- a minute: the troops below n are through -/
def trM (N : mN) (n : Nat) : mN := (N.1, fun t => if t < n then (minT (N.2 t) (N.1 0) (N.1 1)).2 else N.2 t)
def ansM (N : mN) (n : Nat) : Int32 := sumN (fun T => (minT T (N.1 0) (N.1 1)).1) N n
def itM : Nat → mN → Int32 × mN
  | 0, N => (0, N)
  | i + 1, N => (ansM N (cnt N) + (itM i (trM N (cnt N))).1, (itM i (trM N (cnt N))).2)
def addM (N : mN) (m : Int32) : mN := (upd N.1 2 (N.1 2 + m), N.2)
def pasO (N : mN) (m : Int32) : Int32 × mN := if m < 1 ∨ 99 < m then (-2, N) else if 9999 < N.1 2 + m then (-5, N) else ((itM m.toNatClampNeg N).1, addM (itM m.toNatClampNeg N).2 m)
def setO (N : mN) (s v : Int32) : Int32 × mN := if (s = 0 ∧ 0 ≤ v ∧ v ≤ 99) ∨ (s = 1 ∧ 1 ≤ v ∧ v ≤ 99) then (N.1 s.toNatClampNeg, (upd N.1 s.toNatClampNeg v, N.2)) else (-2, N)
def ofTA (N : mN) (t w : Int32) : Int32 := if isTr N t = true then
    (if w = 0 then (N.2 t.toNatClampNeg).1 0 else if w = 1 then (N.2 t.toNatClampNeg).1 1 else if w = 2 then (N.2 t.toNatClampNeg).1 2 else if w = 3 then szF (awM (N.2 t.toNatClampNeg)) 16
      else if w = 4 then (N.2 t.toNatClampNeg).1 3 else if w = 5 then mkm (fun k => decide (k < tsz (N.2 t.toNatClampNeg)) && ((N.2 t.toNatClampNeg).2.1 k == 0)) 16
      else if w = 6 then hm (N.2 t.toNatClampNeg) 1 else if w = 7 then hm (N.2 t.toNatClampNeg) 2 else if w = 8 then hm (N.2 t.toNatClampNeg) 3 else if w = 9 then hm (N.2 t.toNatClampNeg) 4
      else if w = 10 then (N.2 t.toNatClampNeg).1 5 else if w = 11 then (N.2 t.toNatClampNeg).1 4 else -2) else -1
def knwT (T : mT) (k : Int32) : Bool := decide (0 ≤ k ∧ k < T.1 0) || (decide (0 ≤ k ∧ k < 16) && (T.2.1 k.toNatClampNeg == 3))
def ofA (N : mN) (t k w : Int32) : Int32 := if isTr N t = true then (if knwT (N.2 t.toNatClampNeg) k = true then
    (if w = 0 then (N.2 t.toNatClampNeg).2.1 k.toNatClampNeg else if w = 1 then (N.2 t.toNatClampNeg).2.2.1 k.toNatClampNeg else if w = 2 then (N.2 t.toNatClampNeg).2.2.2 k.toNatClampNeg
      else if w = 3 then ((N.2 t.toNatClampNeg).1 5 >>> (k &&& 31)) &&& 1 else -2) else -1) else -1
def cntA (N : mN) (len n : Nat) (w : Int32) : Int32 := if w = 0 then N.1 2 else if w = 1 then N.1 3 else if w = 2 then sumN (fun T => T.1 3) N (cnt N) else if w = 3 then sumN (fun T => szF (hm T 3) 16) N (cnt N)
    else if w = 4 then sumN (fun T => szF (hm T 4) 16) N (cnt N) else if w = 5 then N.1 4 else if w = 6 then N.1 0 else if w = 7 then N.1 1 else if w = 8 then nI len else if w = 9 then nI n else -2
def waiA (N : mN) (t : Int32) : Int32 := if isTr N t = true then awM (N.2 t.toNatClampNeg) else -1
def opIn : Nat → Nat → mT → Int32 → Int32 → Int32
  | 0, _, _, _, _ => -6
  | f + 1, m, T, p, a => if 0 < (minT T p a).1 then nI m else opIn f (m + 1) (minT T p a).2 p a
def opIA (N : mN) (t : Int32) : Int32 := if isTr N t = true then opIn 200 1 (N.2 t.toNatClampNeg) (N.1 0) (N.1 1) else -1
def cnC (T : mT) (k : Nat) : Bool := decide (k < tsz T) && !(T.2.1 k == 1) && !(T.2.1 k == 2) && !(T.2.1 k == 3)
def cHs (T : mT) (a : Int32) : Nat → Int32 × mT
  | 0 => (0, T)
  | i + 1 => if cnC (cHs T a i).2 (i % 16) = true then ((cHs T a i).1 + (opnN 3 (setH (cHs T a i).2 (i % 16) 1) a).1, (opnN 3 (setH (cHs T a i).2 (i % 16) 1) a).2) else cHs T a i
def couA (N : mN) (t : Int32) : Int32 := if isTr N t = true then (cHs (N.2 t.toNatClampNeg) (N.1 1) 48).1 else -1
theorem tr_cases {N : mN} (hW : WN N) (t : Int32) : isTr N t = false ∨ ∃ T, isTr N t = true ∧ t = nI T ∧ T < cnt N ∧ T < 5 ∧ t.toNatClampNeg = T := by
  cases h : isTr N t
  · exact Or.inl rfl
  · right
    obtain ⟨hc, hc5⟩ := hW.cn
    obtain ⟨h1, h2⟩ := of_decide_eq_true h
    obtain ⟨j, hj, rfl⟩ := nI_of (Int32.not_lt.mpr h1)
    rw [hc, nI_ltI hj (by omega)] at h2
    exact ⟨j, rfl, rfl, h2, by omega, nI_clamp hj⟩
theorem sc_cases {N : mN} (hW : WN N) (t k : Int32) : isSc N t k = false ∨ ∃ T K, isSc N t k = true ∧ isTr N t = true ∧ t = nI T ∧ T < cnt N ∧ T < 5 ∧ t.toNatClampNeg = T ∧ k = nI K ∧ K < tsz (N.2 T) ∧ K < 16 ∧ k.toNatClampNeg = K := by
  cases h : isSc N t k
  · exact Or.inl rfl
  · right
    unfold isSc at h
    rw [Bool.and_eq_true] at h
    obtain ⟨h0, h⟩ := h
    rcases tr_cases hW t with z | ⟨T, -, rfl, hT, hT5, eT⟩
    · rw [h0] at z; cases z
    · obtain ⟨h1, h2⟩ := of_decide_eq_true h
      rw [eT] at h2
      obtain ⟨s, e1, e2, e3, e4⟩ := (hW.2 T hT).sz
      obtain ⟨j, hj, rfl⟩ := nI_of (Int32.not_lt.mpr h1)
      rw [e2, nI_ltI hj (by omega)] at h2
      exact ⟨T, j, rfl, h0, rfl, hT, hT5, eT, rfl, by omega, by omega, nI_clamp hj⟩
theorem WN.tr {N : mN} (h : WN N) {t : Nat} {T : mT} (hT : WF T) : WN (setTr N t T) := by
  refine ⟨h.1, fun i hi => ?_⟩
  show WF (if i = t then T else N.2 i)
  by_cases e : i = t
  · rw [if_pos e]; exact hT
  · rw [if_neg e]; exact h.2 i hi
theorem WN.glob {N : mN} (h : WN N) {g : Nat → Int32} (hg : g 3 = N.1 3) : WN (g, N.2) := by
  refine ⟨?_, fun i hi => h.2 i ?_⟩
  · obtain ⟨c, h1, h2⟩ := h.1
    exact ⟨c, by show g 3 = nI c; rw [hg]; exact h1, h2⟩
  · unfold cnt at hi ⊢; rw [← hg]; exact hi
theorem cnt_g {N : mN} {g : Nat → Int32} (hg : g 3 = N.1 3) : cnt (g, N.2) = cnt N := by unfold cnt; rw [← hg]
theorem sz_cases (s : Int32) : isSz s = false ∨ ∃ n, isSz s = true ∧ s = nI n ∧ 1 ≤ n ∧ n ≤ 16 := by
  cases h : isSz s
  · exact Or.inl rfl
  · right
    obtain ⟨h1, h2⟩ := of_decide_eq_true h
    have h0 : ¬ s < 0 := by
      intro z
      rw [Int32.lt_iff_toInt_lt] at z
      rw [Int32.le_iff_toInt_le] at h1
      have e1 : (1 : Int32).toInt = 1 := by decide
      have e0 : (0 : Int32).toInt = 0 := by decide
      omega
    obtain ⟨j, hj, rfl⟩ := nI_of h0
    rw [show (1 : Int32) = nI 1 from rfl, nI_leI (by omega) hj] at h1
    rw [show (16 : Int32) = nI 16 from rfl, nI_leI hj (by omega)] at h2
    exact ⟨j, rfl, rfl, h1, h2⟩
theorem wn_add {N : mN} (hW : WN N) (h : cnt N < 5) {n : Nat} (h1 : 1 ≤ n) (h2 : n ≤ 16) : WN (addN N (nI n)) ∧ cnt (addN N (nI n)) = cnt N + 1 := by
  obtain ⟨hc, hc5⟩ := hW.cn
  have e : (addN N (nI n)).1 3 = nI (cnt N + 1) := by show upd N.1 3 (N.1 3 + 1) 3 = _; rw [upd, if_pos rfl, hc, nI_1]
  have e2 : cnt (addN N (nI n)) = cnt N + 1 := by unfold cnt at e ⊢; rw [e]; exact nI_clamp (by unfold cnt at h; omega)
  refine ⟨⟨⟨cnt N + 1, e, by omega⟩, fun t ht => ?_⟩, e2⟩
  rw [e2] at ht
  show WF (if t = cnt N then newT (nI n) else N.2 t)
  by_cases z : t = cnt N
  · rw [if_pos z]; exact wf_new h1 h2
  · rw [if_neg z]; exact hW.2 t (by omega)
theorem wn_trM {N : mN} (hW : WN N) (n : Nat) : WN (trM N n) := by
  refine ⟨hW.1, fun t ht => ?_⟩
  show WF (if t < n then _ else N.2 t)
  by_cases z : t < n
  · rw [if_pos z]; exact wf_min (hW.2 t ht) _ _
  · rw [if_neg z]; exact hW.2 t ht
theorem wn_itM : ∀ n (N : mN), WN N → WN (itM n N).2 ∧ cnt (itM n N).2 = cnt N ∧ (itM n N).2.1 = N.1 := by
  intro n
  induction n with
  | zero => intro N h; exact ⟨h, rfl, rfl⟩
  | succ n ih =>
    intro N h
    obtain ⟨a, b, c⟩ := ih (trM N (cnt N)) (wn_trM h _)
    exact ⟨a, b.trans rfl, c.trans rfl⟩
theorem WN.add0 {N : mN} (hW : WN N) (s : Int32) : WN (addO N s).2 := by
  unfold addO
  rcases sz_cases s with h | ⟨n, h, rfl, h1, h2⟩
  · rw [h]; exact hW
  · rw [h, if_pos rfl]
    obtain ⟨hc, hc5⟩ := hW.cn
    by_cases h5 : 5 ≤ N.1 3
    · rw [if_pos h5]; exact hW
    · rw [if_neg h5]
      refine (wn_add hW ?_ h1 h2).1
      rw [hc, show (5 : Int32) = nI 5 from rfl, nI_leI (by omega) (by omega)] at h5
      omega
theorem SP.tr {S u : mS} {N : mN} {t : Nat} {T : mT} (h : SP S 1 N) (ht : t < cnt N) (hc : cnt N ≤ 5) (hT : TP u (4 + 3 * t) T) (hF : FR (4 + 3 * t) S u) : SP u 1 (setTr N t T) := by
  refine ⟨?_, fun i hi => ?_⟩
  · rw [hF (1 + 1) (by omega) (by omega) (by omega), hF 1 (by omega) (by omega) (by omega)]; exact h.1
  · show TP u (1 + 3 + 3 * i) (if i = t then T else N.2 i)
    by_cases e : i = t
    · subst e; rw [if_pos rfl]; exact hT
    · rw [if_neg e]; exact (h.2 i hi).off (fun x hx => hF x (by omega) (by omega) (by omega))
theorem fs_fr {S u : mS} {t : Nat} (h : FR (4 + 3 * t) S u) (ht : t < 5) : FS 1 S u := fun c hc => h c (by omega) (by omega) (by omega)
theorem kd4 {t : Nat} (h : t < 5) : kd (4 + 3 * t) = 3 := (by decide +kernel : ∀ t, t < 5 → kd (4 + 3 * t) = 3) t h
theorem rf3 (t : Nat) : rf 3 t = 4 + 3 * t := rfl
end
section
/-! the class's own methods over its State at cell 1 -/
theorem tab_split (x : Int32) (lw n : Nat) (h : lw + n < 1000) : (x.toInt < (lw : Int) ∨ (lw : Int) + n ≤ x.toInt) ∨ ∃ j, j < n ∧ x = nI (lw + j) := by
  by_cases h1 : x.toInt < (lw : Int)
  · exact Or.inl (Or.inl h1)
  · by_cases h2 : (lw : Int) + n ≤ x.toInt
    · exact Or.inl (Or.inr h2)
    · right
      refine ⟨(x.toInt - lw).toNat, by omega, ?_⟩
      apply Int32.toInt_inj.mp
      rw [nI_toInt (by omega)]
      omega
theorem tab_out {x lw hi : Int} {n : Nat} (h : x < lw ∨ lw + n ≤ x) (hn : hi < lw + n) : x < lw ∨ hi < x := by omega
theorem i1 : (1 : Int32).toInt = 1 := by decide
theorem tab_no {x y : Int32} {lw n : Int} (h : x.toInt < lw ∨ lw + n ≤ x.toInt) (h1 : lw ≤ y.toInt) (h2 : y.toInt < lw + n) : ¬ x = y := by rintro rfl; omega
theorem bI_not {b : Bool} (h : b = false) : bI b = 0 := by rw [h]; rfl
theorem bI_yes {b : Bool} (h : b = true) : bI b = 1 := by rw [h]; rfl
section GATES
variable {G : mG} {d : Nat} {S : mS} {N : mN} {t k c s w : Int32}
theorem t_X4_isSize : Call G d M_X4_isSize [.int s] S (fun v u => v = some (bI (isSz s)) ∧ u = S) := by
  refine call_of (lo := [(0, .int s)]) (by decide +kernel) (Nat.le_of_ble_eq_true rfl) rfl ?_
  refine r_iload_n dX4_isSize_0 0 rfl ?_
  refine r_iconst dX4_isSize_1 (v := 1) rfl ?_
  refine r_icmp_lt dX4_isSize_2 (tgt := 15) (by decide) (fun h2 => ?_) (fun h2 => ?_)
  · --t
    refine r_iconst dX4_isSize_15 (v := 0) rfl ?_
    refine r_zret rfl (by first | rfl | decide) dX4_isSize_16 ?_
    exact ⟨by first | (congr 1; simp_all [bI, isSz]; done) | (congr 1; simp_all [bI, isSz, Int32.le_iff_toInt_le, Int32.lt_iff_toInt_lt, i16, i1]; omega), rfl⟩
  · --f
    refine r_iload_n dX4_isSize_5 0 rfl ?_
    refine r_bipush dX4_isSize_6 (v := 16) (by decide +kernel) ?_
    refine r_icmp_gt dX4_isSize_8 (tgt := 15) (by decide) (fun h8 => ?_) (fun h8 => ?_)
    · --t
      refine r_iconst dX4_isSize_15 (v := 0) rfl ?_
      refine r_zret rfl (by first | rfl | decide) dX4_isSize_16 ?_
      exact ⟨by first | (congr 1; simp_all [bI, isSz]; done) | (congr 1; simp_all [bI, isSz, Int32.le_iff_toInt_le, Int32.lt_iff_toInt_lt, i16, i1]; omega), rfl⟩
    · --f
      refine r_iconst dX4_isSize_11 (v := 1) rfl ?_
      refine r_goto dX4_isSize_12 (tgt := 16) (by decide) ?_
      refine r_zret rfl (by first | rfl | decide) dX4_isSize_16 ?_
      exact ⟨by first | (congr 1; simp_all [bI, isSz]; done) | (congr 1; simp_all [bI, isSz, Int32.le_iff_toInt_le, Int32.lt_iff_toInt_lt, i16, i1]; omega), rfl⟩
theorem t_X4_isTroop (hP : SP S 1 N) : Call G d M_X4_isTroop [rv G 0, .int t] S (fun v u => v = some (bI (isTr N t)) ∧ u = S) := by
  refine call_of (lo := [(0, rv G 0), (1, .int t)]) (by decide +kernel) (Nat.le_of_ble_eq_true rfl) rfl ?_
  have e := hP.1.2.2.1
  refine r_iload_n dX4_isTroop_0 1 rfl ?_
  refine r_if_lt dX4_isTroop_1 (tgt := 19) (by decide) (fun h1 => ?_) (fun h1 => ?_)
  · --t
    refine r_iconst dX4_isTroop_19 (v := 0) rfl ?_
    refine r_zret rfl (by first | rfl | decide) dX4_isTroop_20 ?_
    exact ⟨by first | (congr 1; simp_all [bI, isTr]; done) | (congr 1; simp_all [bI, isTr, Int32.le_iff_toInt_le, Int32.lt_iff_toInt_lt]; omega), rfl⟩
  · --f
    refine r_iload_n dX4_isTroop_4 1 rfl ?_
    refine r_aload_n dX4_isTroop_5 0 rfl ?_
    refine r_getR (b := 1) (by first | assumption | rfl) f_X4_10 rfl rfl dX4_isTroop_6 rfl ?_
    refine r_getI (by first | assumption | rfl) f_X4_99 rfl rfl dX4_isTroop_9 ?_
    refine r_icmp_ge dX4_isTroop_12 (tgt := 19) (by decide) (fun h12 => ?_) (fun h12 => ?_)
    · --t
      refine r_iconst dX4_isTroop_19 (v := 0) rfl ?_
      refine r_zret rfl (by first | rfl | decide) dX4_isTroop_20 ?_
      exact ⟨by first | (congr 1; simp_all [bI, isTr]; done) | (congr 1; simp_all [bI, isTr, Int32.le_iff_toInt_le, Int32.lt_iff_toInt_lt]; omega), rfl⟩
    · --f
      refine r_iconst dX4_isTroop_15 (v := 1) rfl ?_
      refine r_goto dX4_isTroop_16 (tgt := 20) (by decide) ?_
      refine r_zret rfl (by first | rfl | decide) dX4_isTroop_20 ?_
      exact ⟨by first | (congr 1; simp_all [bI, isTr]; done) | (congr 1; simp_all [bI, isTr, Int32.le_iff_toInt_le, Int32.lt_iff_toInt_lt]; omega), rfl⟩
theorem t_X4_isScout (hW : WN N) (hP : SP S 1 N) : Call G (d + 1) M_X4_isScout [rv G 0, .int t, .int k] S (fun v u => v = some (bI (isSc N t k)) ∧ u = S) := by
  refine call_of (lo := [(0, rv G 0), (1, .int t), (2, .int k)]) (by decide +kernel) (Nat.le_of_ble_eq_true rfl) rfl ?_
  rcases tr_cases hW t with h | ⟨T, h, rfl, hT, hT5, eT⟩
  ·
    refine r_aload_n dX4_isScout_0 0 rfl ?_
    refine r_iload_n dX4_isScout_1 1 rfl ?_
    refine r_callViF (As := [_]) c_X4_isTroop (by first | assumption | rfl) l_X4_106 rfl rfl rfl (Nat.le_of_ble_eq_true rfl) dX4_isScout_2 (t_X4_isTroop hP) ?_
    refine r_if_eq dX4_isScout_5 (tgt := 28) (by decide) (fun h5 => ?_) (fun h5 => ?_)
    · --t
      refine r_iconst dX4_isScout_28 (v := 0) rfl ?_
      refine r_zret rfl (by first | rfl | decide) dX4_isScout_29 ?_
      exact ⟨by unfold isSc; rw [h]; rfl, rfl⟩
    · --f
      exact absurd (bI_not h) h5
  · have ha := kd4 hT5
    have e := (hP.2 T hT).1.1
    have e2 : S (4 + 3 * T) 0 = (N.2 T).1 0 := e
    refine r_aload_n dX4_isScout_0 0 rfl ?_
    refine r_iload_n dX4_isScout_1 1 rfl ?_
    refine r_callViF (As := [_]) c_X4_isTroop (by first | assumption | rfl) l_X4_106 rfl rfl rfl (Nat.le_of_ble_eq_true rfl) dX4_isScout_2 (t_X4_isTroop hP) ?_
    refine r_if_eq dX4_isScout_5 (tgt := 28) (by decide) (fun h5 => ?_) (fun h5 => ?_)
    · --t
      exact absurd (bI_yes h) (by rw [h5]; decide)
    · --f
      refine r_aload_n dX4_isScout_8 0 rfl ?_
      refine r_getR (b := 1) (by first | assumption | rfl) f_X4_10 rfl rfl dX4_isScout_9 rfl ?_
      refine r_getR (b := 3) (by first | assumption | rfl) f_X4_75 rfl rfl dX4_isScout_12 rfl ?_
      refine r_iload_n dX4_isScout_15 1 rfl ?_
      refine r_aald10 (j := _) (by first | assumption | rfl) (by first | assumption | rfl) (by first | assumption | decide) (rf3 _) dX4_isScout_16 ?_
      refine r_iload_n dX4_isScout_17 2 rfl ?_
      refine r_callViF (As := [_]) c_X3_hasScout (by first | assumption | rfl) l_X4_234 rfl rfl rfl (Nat.le_of_ble_eq_true rfl) dX4_isScout_18 (t_X3_hasScout ha) ?_
      refine r_if_eq dX4_isScout_21 (tgt := 28) (by decide) (fun h21 => ?_) (fun h21 => ?_)
      · --t
        refine r_iconst dX4_isScout_28 (v := 0) rfl ?_
        refine r_zret rfl (by first | rfl | decide) dX4_isScout_29 ?_
        exact ⟨by unfold isSc; rw [h, eT]; simp_all [bI], rfl⟩
      · --f
        refine r_iconst dX4_isScout_24 (v := 1) rfl ?_
        refine r_goto dX4_isScout_25 (tgt := 29) (by decide) ?_
        refine r_zret rfl (by first | rfl | decide) dX4_isScout_29 ?_
        exact ⟨by unfold isSc; rw [h, eT]; simp_all [bI], rfl⟩
theorem t_X4_why (hW : WN N) (hP : SP S 1 N) : Call G (d + 2) M_X4_why [rv G 0, .int t, .int k, .int c] S (fun v u => v = some (whyA N t k c) ∧ u = S) := by
  refine call_of (lo := [(0, rv G 0), (1, .int t), (2, .int k), (3, .int c)]) (by decide +kernel) (Nat.le_of_ble_eq_true rfl) rfl ?_
  rcases sc_cases hW t k with h | ⟨T, K, h, -, rfl, hT, hT5, eT, rfl, hK, hK16, eK⟩
  ·
    refine r_aload_n dX4_why_0 0 rfl ?_
    refine r_iload_n dX4_why_1 1 rfl ?_
    refine r_iload_n dX4_why_2 2 rfl ?_
    refine r_callViF (As := [_, _]) c_X4_isScout (by first | assumption | rfl) l_X4_71 rfl rfl rfl (Nat.le_of_ble_eq_true rfl) dX4_why_3 (t_X4_isScout hW hP) ?_
    refine r_if_ne dX4_why_6 (tgt := 11) (by decide) (fun h6 => ?_) (fun h6 => ?_)
    · --t
      exact absurd (bI_not h) h6
    · --f
      refine r_iconst dX4_why_9 (v := -1) rfl ?_
      refine r_iret rfl dX4_why_10 ?_
      exact ⟨by unfold whyA; rw [h]; rfl, rfl⟩
  · have ha := kd4 hT5
    have hTT : TP S (4 + 3 * T) (N.2 T) := hP.2 T hT
    have hWT := hW.2 T hT
    have e2 : S (4 + 3 * T) 2 = (N.2 T).1 1 := hTT.1.2.2.1
    refine r_aload_n dX4_why_0 0 rfl ?_
    refine r_iload_n dX4_why_1 1 rfl ?_
    refine r_iload_n dX4_why_2 2 rfl ?_
    refine r_callViF (As := [_, _]) c_X4_isScout (by first | assumption | rfl) l_X4_71 rfl rfl rfl (Nat.le_of_ble_eq_true rfl) dX4_why_3 (t_X4_isScout hW hP) ?_
    refine r_if_ne dX4_why_6 (tgt := 11) (by decide) (fun h6 => ?_) (fun h6 => ?_)
    · --t
      refine r_iload_n dX4_why_11 3 rfl ?_
      refine r_if_lt dX4_why_12 (tgt := 20) (by decide) (fun h12 => ?_) (fun h12 => ?_)
      · --t
        refine r_bipush dX4_why_20 (v := -2) (by decide +kernel) ?_
        refine r_iret rfl dX4_why_22 ?_
        refine ⟨?_, rfl⟩
        unfold whyA
        rw [h, if_pos rfl, eT, eK]
        first
          | (rw [if_neg (by intro z; rcases z with z | z; exact h12 z; exact absurd h17 (Int32.not_le.mpr z))]; unfold whyT; first | (rw [hv40]; rfl) | (have n1 := tab_no hsw40 (y := 1) (by decide) (by decide); have n2 := tab_no hsw40 (y := 2) (by decide) (by decide); have n3 := tab_no hsw40 (y := 3) (by decide) (by decide); rw [e2] at h80; simp_all))
          | (rw [if_pos (by first | exact Or.inl h12 | exact Or.inr (Int32.not_le.mp h17))])
      · --f
        refine r_iload_n dX4_why_15 3 rfl ?_
        refine r_iconst dX4_why_16 (v := 1) rfl ?_
        refine r_icmp_le dX4_why_17 (tgt := 23) (by decide) (fun h17 => ?_) (fun h17 => ?_)
        · --t
          refine r_aload_n dX4_why_23 0 rfl ?_
          refine r_getR (b := 1) (by first | assumption | rfl) f_X4_10 rfl rfl dX4_why_24 rfl ?_
          refine r_getR (b := 3) (by first | assumption | rfl) f_X4_75 rfl rfl dX4_why_27 rfl ?_
          refine r_iload_n dX4_why_30 1 rfl ?_
          refine r_aald10 (j := _) (by first | assumption | rfl) (by first | assumption | rfl) (by first | assumption | decide) (rf3 _) dX4_why_31 ?_
          refine r_astore (lo2 := [(0, _), (1, _), (2, _), (3, _), (4, _)]) dX4_why_32 (Nat.le_of_ble_eq_true rfl) [1, 2, 3, 4, 0] rfl ?_
          refine r_aload dX4_why_34 4 rfl ?_
          refine r_iload_n dX4_why_36 2 rfl ?_
          refine r_callViF (As := [_]) c_X3_howIs (by first | assumption | rfl) l_X4_79 rfl rfl rfl (Nat.le_of_ble_eq_true rfl) dX4_why_37 (t_X3_howIs ha hK16 hTT hWT) ?_
          rcases tab_split ((N.2 T).2.1 K) 1 3 (by decide) with hsw40 | ⟨j40, hj40, hsw40⟩
          · --default
            refine r_tabOut (tgt := 74) dX4_why_40 (tab_out hsw40 (by decide)) (by decide) ?_
            refine r_iload_n dX4_why_74 3 rfl ?_
            refine r_aload dX4_why_75 4 rfl ?_
            refine r_getI (by first | assumption | rfl) f_X4_136 rfl rfl dX4_why_77 ?_
            refine r_icmp_ne dX4_why_80 (tgt := 87) (by decide) (fun h80 => ?_) (fun h80 => ?_)
            · --t
              refine r_iconst dX4_why_87 (v := 4) rfl ?_
              refine r_iret rfl dX4_why_88 ?_
              refine ⟨?_, rfl⟩
              unfold whyA
              rw [h, if_pos rfl, eT, eK]
              first
                | (rw [if_neg (by intro z; rcases z with z | z; exact h12 z; exact absurd h17 (Int32.not_le.mpr z))]; unfold whyT; first | (rw [hv40]; rfl) | (have n1 := tab_no hsw40 (y := 1) (by decide) (by decide); have n2 := tab_no hsw40 (y := 2) (by decide) (by decide); have n3 := tab_no hsw40 (y := 3) (by decide) (by decide); rw [e2] at h80; simp_all))
                | (rw [if_pos (by first | exact Or.inl h12 | exact Or.inr (Int32.not_le.mp h17))])
            · --f
              refine r_iconst dX4_why_83 (v := 0) rfl ?_
              refine r_goto dX4_why_84 (tgt := 88) (by decide) ?_
              refine r_iret rfl dX4_why_88 ?_
              refine ⟨?_, rfl⟩
              unfold whyA
              rw [h, if_pos rfl, eT, eK]
              first
                | (rw [if_neg (by intro z; rcases z with z | z; exact h12 z; exact absurd h17 (Int32.not_le.mpr z))]; unfold whyT; first | (rw [hv40]; rfl) | (have n1 := tab_no hsw40 (y := 1) (by decide) (by decide); have n2 := tab_no hsw40 (y := 2) (by decide) (by decide); have n3 := tab_no hsw40 (y := 3) (by decide) (by decide); rw [e2] at h80; simp_all))
                | (rw [if_pos (by first | exact Or.inl h12 | exact Or.inr (Int32.not_le.mp h17))])
          · --in
            match j40, hj40, hsw40 with
            | 0, _, hsw40 =>
              have hv40 : ((N.2 T).2.1 K) = 1 := hsw40
              clear hsw40
              rw [hv40]
              refine r_tabIn (off := 30) (tgt := 70) dX4_why_40 (by decide) (by decide) rfl (by decide) ?_
              refine r_iconst dX4_why_70 (v := 2) rfl ?_
              refine r_iret rfl dX4_why_71 ?_
              refine ⟨?_, rfl⟩
              unfold whyA
              rw [h, if_pos rfl, eT, eK]
              first
                | (rw [if_neg (by intro z; rcases z with z | z; exact h12 z; exact absurd h17 (Int32.not_le.mpr z))]; unfold whyT; first | (rw [hv40]; rfl) | (have n1 := tab_no hsw40 (y := 1) (by decide) (by decide); have n2 := tab_no hsw40 (y := 2) (by decide) (by decide); have n3 := tab_no hsw40 (y := 3) (by decide) (by decide); rw [e2] at h80; simp_all))
                | (rw [if_pos (by first | exact Or.inl h12 | exact Or.inr (Int32.not_le.mp h17))])
            | 1, _, hsw40 =>
              have hv40 : ((N.2 T).2.1 K) = 2 := hsw40
              clear hsw40
              rw [hv40]
              refine r_tabIn (off := 32) (tgt := 72) dX4_why_40 (by decide) (by decide) rfl (by decide) ?_
              refine r_iconst dX4_why_72 (v := 3) rfl ?_
              refine r_iret rfl dX4_why_73 ?_
              refine ⟨?_, rfl⟩
              unfold whyA
              rw [h, if_pos rfl, eT, eK]
              first
                | (rw [if_neg (by intro z; rcases z with z | z; exact h12 z; exact absurd h17 (Int32.not_le.mpr z))]; unfold whyT; first | (rw [hv40]; rfl) | (have n1 := tab_no hsw40 (y := 1) (by decide) (by decide); have n2 := tab_no hsw40 (y := 2) (by decide) (by decide); have n3 := tab_no hsw40 (y := 3) (by decide) (by decide); rw [e2] at h80; simp_all))
                | (rw [if_pos (by first | exact Or.inl h12 | exact Or.inr (Int32.not_le.mp h17))])
            | 2, _, hsw40 =>
              have hv40 : ((N.2 T).2.1 K) = 3 := hsw40
              clear hsw40
              rw [hv40]
              refine r_tabIn (off := 28) (tgt := 68) dX4_why_40 (by decide) (by decide) rfl (by decide) ?_
              refine r_iconst dX4_why_68 (v := 1) rfl ?_
              refine r_iret rfl dX4_why_69 ?_
              refine ⟨?_, rfl⟩
              unfold whyA
              rw [h, if_pos rfl, eT, eK]
              first
                | (rw [if_neg (by intro z; rcases z with z | z; exact h12 z; exact absurd h17 (Int32.not_le.mpr z))]; unfold whyT; first | (rw [hv40]; rfl) | (have n1 := tab_no hsw40 (y := 1) (by decide) (by decide); have n2 := tab_no hsw40 (y := 2) (by decide) (by decide); have n3 := tab_no hsw40 (y := 3) (by decide) (by decide); rw [e2] at h80; simp_all))
                | (rw [if_pos (by first | exact Or.inl h12 | exact Or.inr (Int32.not_le.mp h17))])
            | (j + 3), hj, _ => exact absurd hj (by omega)
        · --f
          refine r_bipush dX4_why_20 (v := -2) (by decide +kernel) ?_
          refine r_iret rfl dX4_why_22 ?_
          refine ⟨?_, rfl⟩
          unfold whyA
          rw [h, if_pos rfl, eT, eK]
          first
            | (rw [if_neg (by intro z; rcases z with z | z; exact h12 z; exact absurd h17 (Int32.not_le.mpr z))]; unfold whyT; first | (rw [hv40]; rfl) | (have n1 := tab_no hsw40 (y := 1) (by decide) (by decide); have n2 := tab_no hsw40 (y := 2) (by decide) (by decide); have n3 := tab_no hsw40 (y := 3) (by decide) (by decide); rw [e2] at h80; simp_all))
            | (rw [if_pos (by first | exact Or.inl h12 | exact Or.inr (Int32.not_le.mp h17))])
    · --f
      exact absurd (bI_yes h) (by rw [h6]; decide)
theorem t_X4_addTroop (hW : WN N) (hP : SP S 1 N) : Call G (d + 1) M_X4_addTroop [rv G 0, .int s] S (fun v u => v = some (addO N s).1 ∧ SP u 1 (addO N s).2 ∧ FS 1 S u) := by
  refine call_of (lo := [(0, rv G 0), (1, .int s)]) (by decide +kernel) (Nat.le_of_ble_eq_true rfl) rfl ?_
  obtain ⟨hc, hc5⟩ := hW.cn
  have ec := hP.1.2.2.1
  rcases sz_cases s with h | ⟨n, h, rfl, hn1, hn2⟩
  ·
    refine r_iload_n dX4_addTroop_0 1 rfl ?_
    refine r_callSiF (As := [_]) c_X4_isSize l_X4_95 rfl rfl rfl (Nat.le_of_ble_eq_true rfl) dX4_addTroop_1 (t_X4_isSize) ?_
    refine r_if_ne dX4_addTroop_4 (tgt := 10) (by decide) (fun h4 => ?_) (fun h4 => ?_)
    · --t
      exact absurd (bI_not h) h4
    · --f
      refine r_bipush dX4_addTroop_7 (v := -2) (by decide +kernel) ?_
      refine r_iret rfl dX4_addTroop_9 ?_
      unfold addO; rw [h]; exact ⟨rfl, hP, FS.rf⟩
  · have h5 : cnt N < 5 → ¬ 5 ≤ N.1 3 := fun z => by rw [hc]; exact nI_ge (b := 5) z (by decide)
    by_cases hlt : cnt N < 5
    · have hl : cnt N < ln 3 := hlt
      have ha := kd4 hlt
      refine r_iload_n dX4_addTroop_0 1 rfl ?_
      refine r_callSiF (As := [_]) c_X4_isSize l_X4_95 rfl rfl rfl (Nat.le_of_ble_eq_true rfl) dX4_addTroop_1 (t_X4_isSize) ?_
      refine r_if_ne dX4_addTroop_4 (tgt := 10) (by decide) (fun h4 => ?_) (fun h4 => ?_)
      · --t
        refine r_aload_n dX4_addTroop_10 0 rfl ?_
        refine r_getR (b := 1) (by first | assumption | rfl) f_X4_10 rfl rfl dX4_addTroop_11 rfl ?_
        refine r_getI (by first | assumption | rfl) f_X4_99 rfl rfl dX4_addTroop_14 ?_
        refine r_iconst dX4_addTroop_17 (v := 5) rfl ?_
        refine r_icmp_lt dX4_addTroop_18 (tgt := 24) (by decide) (fun h18 => ?_) (fun h18 => ?_)
        · --t
          refine r_aload_n dX4_addTroop_24 0 rfl ?_
          refine r_getR (b := 1) (by first | assumption | rfl) f_X4_10 rfl rfl dX4_addTroop_25 rfl ?_
          refine r_getI (by first | assumption | rfl) f_X4_99 rfl rfl dX4_addTroop_28 ?_
          refine r_istore_n (lo2 := [(0, _), (1, _), (2, _)]) dX4_addTroop_31 rfl (Nat.le_of_ble_eq_true rfl) [1, 2, 0] rfl ?_
          refine r_aload_n dX4_addTroop_32 0 rfl ?_
          refine r_getR (b := 1) (by first | assumption | rfl) f_X4_10 rfl rfl dX4_addTroop_33 rfl ?_
          refine r_getR (b := 3) (by first | assumption | rfl) f_X4_75 rfl rfl dX4_addTroop_36 rfl ?_
          refine r_iload_n dX4_addTroop_39 2 rfl ?_
          refine r_aald10 (j := (cnt N)) (by first | assumption | rfl) (by rw [ec, hc]) (by first | assumption | decide) (rf3 _) dX4_addTroop_40 ?_
          refine r_iload_n dX4_addTroop_41 1 rfl ?_
          refine r_callVv (As := [_]) c_X3_begin (by first | assumption | rfl) l_X4_103 rfl rfl rfl (Nat.le_of_ble_eq_true rfl) dX4_addTroop_42 (t_X3_begin ha) (fun u42 q42 => ?_)
          obtain ⟨-, hT2, hF2⟩ := q42
          refine r_aload_n dX4_addTroop_45 0 rfl ?_
          refine r_getR (b := 1) (by first | assumption | rfl) f_X4_10 rfl rfl dX4_addTroop_46 rfl ?_
          refine r_dup dX4_addTroop_49 rfl ?_
          refine r_getI (by first | assumption | rfl) f_X4_99 rfl rfl dX4_addTroop_50 ?_
          refine r_iconst dX4_addTroop_53 (v := 1) rfl ?_
          refine r_iadd dX4_addTroop_54 ?_
          refine r_putI (by first | assumption | rfl) f_X4_99 rfl rfl rfl rfl dX4_addTroop_55 ?_
          refine r_iload_n dX4_addTroop_58 2 rfl ?_
          refine r_iret rfl dX4_addTroop_59 ?_
          unfold addO
          rw [h, if_pos rfl, if_neg (h5 hlt)]
          have w1 : u42 1 = S 1 := hF2 1 (by omega) (by omega) (by omega)
          refine ⟨by rw [ec], ⟨?_, fun i hi => ?_⟩, fun x hx => ?_⟩
          · have e4 : up1 u42 1 (upd (u42 1) 2 (u42 1 2 + 1)) (1 + 1) = S 2 := (up1_n (by omega)).trans (hF2 2 (by omega) (by omega) (by omega))
            rw [e4, up1_s, w1]
            refine ⟨hP.1.1, hP.1.2.1, ?_, hP.1.2.2.2.1, hP.1.2.2.2.2⟩
            show upd (S 1) 2 (S 1 2 + 1) 2 = upd N.1 3 (N.1 3 + 1) 3
            simp only [upd, reduceIte, ec]
          · show TP _ (1 + 3 + 3 * i) (if i = cnt N then newT (nI n) else N.2 i)
            have hi2 : i < cnt N + 1 := by rw [← (wn_add hW hlt hn1 hn2).2]; exact hi
            have z : TP u42 (1 + 3 + 3 * i) (if i = cnt N then newT (nI n) else N.2 i) := by
              by_cases e : i = cnt N
              · subst e; rw [if_pos rfl]; exact hT2
              · rw [if_neg e]; exact (hP.2 i (by omega)).off (fun x hx => hF2 x (by omega) (by omega) (by omega))
            exact z.off (fun x hx => up1_n (by omega))
          · rw [up1_n (by omega)]; exact fs_fr hF2 hlt x hx
        · --f
          exact absurd (by rw [← ec]; exact Int32.not_lt.mp h18) (h5 hlt)
      · --f
        exact absurd (bI_yes h) (by rw [h4]; decide)
    · have hge : 5 ≤ N.1 3 := by rw [hc]; exact nI_le (a := 5) (by omega) (by omega)
      refine r_iload_n dX4_addTroop_0 1 rfl ?_
      refine r_callSiF (As := [_]) c_X4_isSize l_X4_95 rfl rfl rfl (Nat.le_of_ble_eq_true rfl) dX4_addTroop_1 (t_X4_isSize) ?_
      refine r_if_ne dX4_addTroop_4 (tgt := 10) (by decide) (fun h4 => ?_) (fun h4 => ?_)
      · --t
        refine r_aload_n dX4_addTroop_10 0 rfl ?_
        refine r_getR (b := 1) (by first | assumption | rfl) f_X4_10 rfl rfl dX4_addTroop_11 rfl ?_
        refine r_getI (by first | assumption | rfl) f_X4_99 rfl rfl dX4_addTroop_14 ?_
        refine r_iconst dX4_addTroop_17 (v := 5) rfl ?_
        refine r_icmp_lt dX4_addTroop_18 (tgt := 24) (by decide) (fun h18 => ?_) (fun h18 => ?_)
        · --t
          exact absurd (by rw [← ec] at hge; exact hge) (Int32.not_le.mpr h18)
        · --f
          refine r_bipush dX4_addTroop_21 (v := -4) (by decide +kernel) ?_
          refine r_iret rfl dX4_addTroop_23 ?_
          unfold addO; rw [h, if_pos rfl, if_pos hge]; exact ⟨rfl, hP, FS.rf⟩
      · --f
        exact absurd (bI_yes h) (by rw [h4]; decide)
theorem SP.nx {u : mS} {T : Nat} {x : Int32} (h : SP S 1 N) (hT : T < cnt N) (hc : cnt N ≤ 5) (hu : u = up1 S (4 + 3 * T) (upd (S (4 + 3 * T)) 1 x)) : SP u 1 (setTr N T (rszT (N.2 T) x)) ∧ FS 1 S u := by
  have hF : FR (4 + 3 * T) S u := by rw [hu]; exact FR.rf.up0
  refine ⟨h.tr hT hc ?_ hF, fs_fr hF (by omega)⟩
  have g : TP S (4 + 3 * T) (N.2 T) := h.2 T hT
  obtain ⟨⟨a1, a2, a3, a4, a5, a6⟩, ⟨b1, b2, b3, b4⟩, c⟩ := id g
  rw [hu]
  refine TP.sc g ?_ ?_ ?_ ?_ ?_ ?_ ?_ ?_ ?_ ?_ ?_ ?_ rfl <;> simp only [up1, upd, reduceIte, Nat.reduceEqDiff, ap3, ap4]
  · exact a1
  · rfl
  · exact a3
  · exact a4
  · exact a5
  · exact a6
  · exact b1
  · exact b2
  · exact b3
  · exact b4
theorem t_X4_changeSize (hW : WN N) (hP : SP S 1 N) : Call G (d + 1) M_X4_changeSize [rv G 0, .int t, .int s] S (fun v u => v = some (rszO N t s).1 ∧ SP u 1 (rszO N t s).2 ∧ FS 1 S u) := by
  refine call_of (lo := [(0, rv G 0), (1, .int t), (2, .int s)]) (by decide +kernel) (Nat.le_of_ble_eq_true rfl) rfl ?_
  obtain ⟨hc, hc5⟩ := hW.cn
  rcases tr_cases hW t with h | ⟨T, h, rfl, hT, hT5, eT⟩
  ·
    refine r_aload_n dX4_changeSize_0 0 rfl ?_
    refine r_iload_n dX4_changeSize_1 1 rfl ?_
    refine r_callViF (As := [_]) c_X4_isTroop (by first | assumption | rfl) l_X4_106 rfl rfl rfl (Nat.le_of_ble_eq_true rfl) dX4_changeSize_2 (t_X4_isTroop hP) ?_
    refine r_if_ne dX4_changeSize_5 (tgt := 10) (by decide) (fun h5 => ?_) (fun h5 => ?_)
    · --t
      exact absurd (bI_not h) h5
    · --f
      refine r_iconst dX4_changeSize_8 (v := -1) rfl ?_
      refine r_iret rfl dX4_changeSize_9 ?_
      unfold rszO; rw [h]; exact ⟨rfl, hP, FS.rf⟩
  · have ha := kd4 hT5
    have hl : T < ln 3 := hT5
    rcases sz_cases s with h2 | ⟨n, h2, rfl, hn1, hn2⟩
    ·
      refine r_aload_n dX4_changeSize_0 0 rfl ?_
      refine r_iload_n dX4_changeSize_1 1 rfl ?_
      refine r_callViF (As := [_]) c_X4_isTroop (by first | assumption | rfl) l_X4_106 rfl rfl rfl (Nat.le_of_ble_eq_true rfl) dX4_changeSize_2 (t_X4_isTroop hP) ?_
      refine r_if_ne dX4_changeSize_5 (tgt := 10) (by decide) (fun h5 => ?_) (fun h5 => ?_)
      · --t
        refine r_iload_n dX4_changeSize_10 2 rfl ?_
        refine r_callSiF (As := [_]) c_X4_isSize l_X4_95 rfl rfl rfl (Nat.le_of_ble_eq_true rfl) dX4_changeSize_11 (t_X4_isSize) ?_
        refine r_if_ne dX4_changeSize_14 (tgt := 20) (by decide) (fun h14 => ?_) (fun h14 => ?_)
        · --t
          exact absurd (bI_not h2) h14
        · --f
          refine r_bipush dX4_changeSize_17 (v := -2) (by decide +kernel) ?_
          refine r_iret rfl dX4_changeSize_19 ?_
          unfold rszO; rw [h, h2]; exact ⟨rfl, hP, FS.rf⟩
      · --f
        exact absurd (bI_yes h) (by rw [h5]; decide)
    · have hTT : TP S (4 + 3 * T) (N.2 T) := hP.2 T hT
      refine r_aload_n dX4_changeSize_0 0 rfl ?_
      refine r_iload_n dX4_changeSize_1 1 rfl ?_
      refine r_callViF (As := [_]) c_X4_isTroop (by first | assumption | rfl) l_X4_106 rfl rfl rfl (Nat.le_of_ble_eq_true rfl) dX4_changeSize_2 (t_X4_isTroop hP) ?_
      refine r_if_ne dX4_changeSize_5 (tgt := 10) (by decide) (fun h5 => ?_) (fun h5 => ?_)
      · --t
        refine r_iload_n dX4_changeSize_10 2 rfl ?_
        refine r_callSiF (As := [_]) c_X4_isSize l_X4_95 rfl rfl rfl (Nat.le_of_ble_eq_true rfl) dX4_changeSize_11 (t_X4_isSize) ?_
        refine r_if_ne dX4_changeSize_14 (tgt := 20) (by decide) (fun h14 => ?_) (fun h14 => ?_)
        · --t
          refine r_aload_n dX4_changeSize_20 0 rfl ?_
          refine r_getR (b := 1) (by first | assumption | rfl) f_X4_10 rfl rfl dX4_changeSize_21 rfl ?_
          refine r_getR (b := 3) (by first | assumption | rfl) f_X4_75 rfl rfl dX4_changeSize_24 rfl ?_
          refine r_iload_n dX4_changeSize_27 1 rfl ?_
          refine r_aald10 (j := _) (by first | assumption | rfl) (by first | assumption | rfl) (by first | assumption | decide) (rf3 _) dX4_changeSize_28 ?_
          refine r_astore_n (lo2 := [(0, _), (1, _), (2, _), (3, _)]) dX4_changeSize_29 rfl (Nat.le_of_ble_eq_true rfl) [1, 2, 3, 0] rfl ?_
          refine r_aload_n dX4_changeSize_30 3 rfl ?_
          refine r_getI (by first | assumption | rfl) f_X4_109 rfl rfl dX4_changeSize_31 ?_
          refine r_istore (lo2 := [(0, _), (1, _), (2, _), (3, _), (4, _)]) dX4_changeSize_34 (Nat.le_of_ble_eq_true rfl) [1, 2, 3, 4, 0] rfl ?_
          refine r_aload_n dX4_changeSize_36 3 rfl ?_
          refine r_iload_n dX4_changeSize_37 2 rfl ?_
          refine r_putI (by first | assumption | rfl) f_X4_109 rfl rfl rfl rfl dX4_changeSize_38 ?_
          refine r_iload dX4_changeSize_41 4 rfl ?_
          refine r_iret rfl dX4_changeSize_43 ?_
          unfold rszO; rw [h, h2, if_pos rfl, if_pos rfl, eT]
          obtain ⟨z1, z2⟩ := SP.nx hP hT hc5 rfl
          exact ⟨by rw [hTT.1.2.1], z1, z2⟩
        · --f
          exact absurd (bI_yes h2) (by rw [h14]; decide)
      · --f
        exact absurd (bI_yes h) (by rw [h5]; decide)
end GATES
end
section
/-! the class's own methods: coming, losing, minutes, and what is asked -/
theorem why_in {N : mN} (hW : WN N) {t k c : Int32} (h : whyA N t k c = 0 ∨ whyA N t k c = 4) : ∃ T K, t = nI T ∧ T < cnt N ∧ T < 5 ∧ t.toNatClampNeg = T ∧ k = nI K ∧ K < tsz (N.2 T) ∧ K < 16 ∧ k.toNatClampNeg = K ∧ (whyA N t k c = 0 ↔ c = (N.2 T).1 1) := by
  rcases sc_cases hW t k with z | ⟨T, K, z, -, rfl, hT, hT5, eT, rfl, hK, hK16, eK⟩
  · unfold whyA at h; rw [z, if_neg (by decide)] at h; exact absurd h (by decide)
  · refine ⟨T, K, rfl, hT, hT5, eT, rfl, hK, hK16, eK, ?_⟩
    unfold whyA at h ⊢
    rw [z, if_pos rfl] at h ⊢
    by_cases y : c < 0 ∨ 1 < c
    · rw [if_pos y] at h; exact absurd h (by decide)
    · rw [if_neg y, eT, eK] at h ⊢
      unfold whyT at h ⊢
      by_cases h3 : (N.2 T).2.1 K = 3
      · rw [if_pos h3] at h; exact absurd h (by decide)
      · by_cases h1 : (N.2 T).2.1 K = 1
        · rw [if_neg h3, if_pos h1] at h; exact absurd h (by decide)
        · by_cases h2 : (N.2 T).2.1 K = 2
          · rw [if_neg h3, if_neg h1, if_pos h2] at h; exact absurd h (by decide)
          · rw [if_neg h3, if_neg h1, if_neg h2]
            by_cases hc : c = (N.2 T).1 1
            · simp [hc]
            · simp [hc]
theorem SP.ery {S : mS} {N : mN} (h : SP S 1 N) : SP (up1 S 1 (upd (S 1) 4 (S 1 4 + 1))) 1 (eryN N) ∧ FS 1 S (up1 S 1 (upd (S 1) 4 (S 1 4 + 1))) := by
  refine ⟨⟨?_, fun t ht => ?_⟩, FS.rf.up (by omega) (by omega)⟩
  · rw [up1_n (show 1 + 1 ≠ 1 by omega), up1_s]
    refine ⟨h.1.1, h.1.2.1, h.1.2.2.1, h.1.2.2.2.1, ?_⟩
    show upd (S 1) 4 (S 1 4 + 1) 4 = upd N.1 4 (N.1 4 + 1) 4
    rw [upd, upd, if_pos rfl, if_pos rfl, h.1.2.2.2.2]
  · have e : cnt (eryN N) = cnt N := rfl
    rw [e] at ht
    exact (h.2 t ht).off (fun x hx => up1_n (by omega))
theorem wn_ery {N : mN} (h : WN N) : WN (eryN N) := h.glob rfl
section GATES
variable {G : mG} {d : Nat} {S : mS} {N : mN} {t k c s w : Int32}
theorem t_X4_letCome (hW : WN N) (hP : SP S 1 N) : Call G (d + 4) M_X4_letCome [rv G 0, .int t, .int k, .int c] S (fun v u => v = some (comO N t k c).1 ∧ SP u 1 (comO N t k c).2 ∧ FS 1 S u) := by
  refine call_of (lo := [(0, rv G 0), (1, .int t), (2, .int k), (3, .int c)]) (by decide +kernel) (Nat.le_of_ble_eq_true rfl) rfl ?_
  have hwhy := @t_X4_why G (d + 1) S N t k c hW hP
  unfold comO
  by_cases hn : whyA N t k c < 0
  · rw [if_pos hn]
    refine r_aload_n dX4_letCome_0 0 rfl ?_
    refine r_iload_n dX4_letCome_1 1 rfl ?_
    refine r_iload_n dX4_letCome_2 2 rfl ?_
    refine r_iload_n dX4_letCome_3 3 rfl ?_
    refine r_callViF (As := [_, _, _]) c_X4_why (by first | assumption | rfl) l_X4_112 rfl rfl rfl (Nat.le_of_ble_eq_true rfl) dX4_letCome_4 hwhy ?_
    refine r_istore (lo2 := [(0, _), (1, _), (2, _), (3, _), (4, _)]) dX4_letCome_7 (Nat.le_of_ble_eq_true rfl) [1, 2, 3, 4, 0] rfl ?_
    refine r_iload dX4_letCome_9 4 rfl ?_
    refine r_if_ge dX4_letCome_11 (tgt := 17) (by decide) (fun h11 => ?_) (fun h11 => ?_)
    · --t
      exact absurd hn (Int32.not_lt.mpr h11)
    · --f
      refine r_iload dX4_letCome_14 4 rfl ?_
      refine r_iret rfl dX4_letCome_16 ?_
      exact ⟨rfl, hP, FS.rf⟩
  · rw [if_neg hn]
    by_cases h4 : whyA N t k c = 4
    · obtain ⟨T, K, rfl, hT, hT5, eT, rfl, hK, hK16, eK, hcol⟩ := why_in hW (Or.inr h4)
      have hcol2 : ¬ c = (N.2 T).1 1 := fun z => by rw [hcol.mpr z] at h4; exact absurd h4 (by decide)
      rw [if_pos h4, eT, eK]
      obtain ⟨hP2, hF2⟩ := SP.ery hP
      have ha := kd4 hT5
      have hl : T < ln 3 := hT5
      have hWT := hW.2 T hT
      have e5 : up1 S 1 (upd (S 1) 4 (S 1 4 + 1)) 2 1 = N.1 1 := hP2.1.2.1
      have hTT : TP (up1 S 1 (upd (S 1) 4 (S 1 4 + 1))) (4 + 3 * T) (N.2 T) := hP2.2 T hT
      have htk := fun aw => @t_X3_takeIn G d (up1 S 1 (upd (S 1) 4 (S 1 4 + 1))) (4 + 3 * T) K (N.2 T) c aw ha hK hTT hWT
      rw [if_neg hcol2] at htk
      refine r_aload_n dX4_letCome_0 0 rfl ?_
      refine r_iload_n dX4_letCome_1 1 rfl ?_
      refine r_iload_n dX4_letCome_2 2 rfl ?_
      refine r_iload_n dX4_letCome_3 3 rfl ?_
      refine r_callViF (As := [_, _, _]) c_X4_why (by first | assumption | rfl) l_X4_112 rfl rfl rfl (Nat.le_of_ble_eq_true rfl) dX4_letCome_4 hwhy ?_
      refine r_istore (lo2 := [(0, _), (1, _), (2, _), (3, _), (4, _)]) dX4_letCome_7 (Nat.le_of_ble_eq_true rfl) [1, 2, 3, 4, 0] rfl ?_
      refine r_iload dX4_letCome_9 4 rfl ?_
      refine r_if_ge dX4_letCome_11 (tgt := 17) (by decide) (fun h11 => ?_) (fun h11 => ?_)
      · --t
        refine r_iload dX4_letCome_17 4 rfl ?_
        refine r_iconst dX4_letCome_19 (v := 4) rfl ?_
        refine r_icmp_ne dX4_letCome_20 (tgt := 39) (by decide) (fun h20 => ?_) (fun h20 => ?_)
        · --t
          exact absurd h4 h20
        · --f
          refine r_aload_n dX4_letCome_23 0 rfl ?_
          refine r_getR (b := 1) (by first | assumption | rfl) f_X4_10 rfl rfl dX4_letCome_24 rfl ?_
          refine r_dup dX4_letCome_27 rfl ?_
          refine r_getI (by first | assumption | rfl) f_X4_115 rfl rfl dX4_letCome_28 ?_
          refine r_iconst dX4_letCome_31 (v := 1) rfl ?_
          refine r_iadd dX4_letCome_32 ?_
          refine r_putI (by first | assumption | rfl) f_X4_115 rfl rfl rfl rfl dX4_letCome_33 ?_
          refine r_goto dX4_letCome_36 (tgt := 47) (by decide) ?_
          refine r_aload_n dX4_letCome_47 0 rfl ?_
          refine r_getR (b := 1) (by first | assumption | rfl) f_X4_10 rfl rfl dX4_letCome_48 rfl ?_
          refine r_getR (b := 3) (by first | assumption | rfl) f_X4_75 rfl rfl dX4_letCome_51 rfl ?_
          refine r_iload_n dX4_letCome_54 1 rfl ?_
          refine r_aald10 (j := _) (by first | assumption | rfl) (by first | assumption | rfl) (by first | assumption | decide) (rf3 _) dX4_letCome_55 ?_
          refine r_iload_n dX4_letCome_56 2 rfl ?_
          refine r_iload_n dX4_letCome_57 3 rfl ?_
          refine r_aload_n dX4_letCome_58 0 rfl ?_
          refine r_getR (b := 1) (by first | assumption | rfl) f_X4_10 rfl rfl dX4_letCome_59 rfl ?_
          refine r_getR (b := 2) (by first | assumption | rfl) f_X4_49 rfl rfl dX4_letCome_62 rfl ?_
          refine r_iconst dX4_letCome_65 (v := 1) rfl ?_
          refine r_iald (j := 1) (by first | assumption | rfl) (by first | assumption | rfl) (show 1 < ln 2 by decide) dX4_letCome_66 ?_
          refine r_callVi (As := [_, _, _]) c_X3_takeIn (by first | assumption | rfl) l_X4_118 rfl rfl rfl (Nat.le_of_ble_eq_true rfl) dX4_letCome_67 (htk _) (fun r67 u67 q67 => ?_)
          obtain ⟨h3, hT3, hF3⟩ := q67
          cases h3
          refine r_iret rfl dX4_letCome_70 ?_
          rw [e5] at hT3 ⊢
          exact ⟨rfl, hP2.tr hT (hW.cn.2) hT3 hF3, hF2.tr (fs_fr hF3 hT5)⟩
      · --f
        exact absurd h11 (by rw [h4]; decide)
    · rw [if_neg h4]
      by_cases h0 : whyA N t k c = 0
      · obtain ⟨T, K, rfl, hT, hT5, eT, rfl, hK, hK16, eK, hcol⟩ := why_in hW (Or.inl h0)
        rw [if_pos h0, eT, eK]
        have ha := kd4 hT5
        have hl : T < ln 3 := hT5
        have hWT := hW.2 T hT
        have e5 : S 2 1 = N.1 1 := hP.1.2.1
        have hTT : TP S (4 + 3 * T) (N.2 T) := hP.2 T hT
        have htk := fun aw => @t_X3_takeIn G d S (4 + 3 * T) K (N.2 T) c aw ha hK hTT hWT
        rw [if_pos (hcol.mp h0)] at htk
        refine r_aload_n dX4_letCome_0 0 rfl ?_
        refine r_iload_n dX4_letCome_1 1 rfl ?_
        refine r_iload_n dX4_letCome_2 2 rfl ?_
        refine r_iload_n dX4_letCome_3 3 rfl ?_
        refine r_callViF (As := [_, _, _]) c_X4_why (by first | assumption | rfl) l_X4_112 rfl rfl rfl (Nat.le_of_ble_eq_true rfl) dX4_letCome_4 hwhy ?_
        refine r_istore (lo2 := [(0, _), (1, _), (2, _), (3, _), (4, _)]) dX4_letCome_7 (Nat.le_of_ble_eq_true rfl) [1, 2, 3, 4, 0] rfl ?_
        refine r_iload dX4_letCome_9 4 rfl ?_
        refine r_if_ge dX4_letCome_11 (tgt := 17) (by decide) (fun h11 => ?_) (fun h11 => ?_)
        · --t
          refine r_iload dX4_letCome_17 4 rfl ?_
          refine r_iconst dX4_letCome_19 (v := 4) rfl ?_
          refine r_icmp_ne dX4_letCome_20 (tgt := 39) (by decide) (fun h20 => ?_) (fun h20 => ?_)
          · --t
            refine r_iload dX4_letCome_39 4 rfl ?_
            refine r_if_eq dX4_letCome_41 (tgt := 47) (by decide) (fun h41 => ?_) (fun h41 => ?_)
            · --t
              refine r_aload_n dX4_letCome_47 0 rfl ?_
              refine r_getR (b := 1) (by first | assumption | rfl) f_X4_10 rfl rfl dX4_letCome_48 rfl ?_
              refine r_getR (b := 3) (by first | assumption | rfl) f_X4_75 rfl rfl dX4_letCome_51 rfl ?_
              refine r_iload_n dX4_letCome_54 1 rfl ?_
              refine r_aald10 (j := _) (by first | assumption | rfl) (by first | assumption | rfl) (by first | assumption | decide) (rf3 _) dX4_letCome_55 ?_
              refine r_iload_n dX4_letCome_56 2 rfl ?_
              refine r_iload_n dX4_letCome_57 3 rfl ?_
              refine r_aload_n dX4_letCome_58 0 rfl ?_
              refine r_getR (b := 1) (by first | assumption | rfl) f_X4_10 rfl rfl dX4_letCome_59 rfl ?_
              refine r_getR (b := 2) (by first | assumption | rfl) f_X4_49 rfl rfl dX4_letCome_62 rfl ?_
              refine r_iconst dX4_letCome_65 (v := 1) rfl ?_
              refine r_iald (j := 1) (by first | assumption | rfl) (by first | assumption | rfl) (show 1 < ln 2 by decide) dX4_letCome_66 ?_
              refine r_callVi (As := [_, _, _]) c_X3_takeIn (by first | assumption | rfl) l_X4_118 rfl rfl rfl (Nat.le_of_ble_eq_true rfl) dX4_letCome_67 (htk _) (fun r67 u67 q67 => ?_)
              obtain ⟨h3, hT3, hF3⟩ := q67
              cases h3
              refine r_iret rfl dX4_letCome_70 ?_
              rw [e5] at hT3 ⊢
              exact ⟨rfl, hP.tr hT (hW.cn.2) hT3 hF3, fs_fr hF3 hT5⟩
            · --f
              exact absurd h0 h41
          · --f
            exact absurd h20 h4
        · --f
          exact absurd h11 (by rw [h0]; decide)
      · rw [if_neg h0]
        refine r_aload_n dX4_letCome_0 0 rfl ?_
        refine r_iload_n dX4_letCome_1 1 rfl ?_
        refine r_iload_n dX4_letCome_2 2 rfl ?_
        refine r_iload_n dX4_letCome_3 3 rfl ?_
        refine r_callViF (As := [_, _, _]) c_X4_why (by first | assumption | rfl) l_X4_112 rfl rfl rfl (Nat.le_of_ble_eq_true rfl) dX4_letCome_4 hwhy ?_
        refine r_istore (lo2 := [(0, _), (1, _), (2, _), (3, _), (4, _)]) dX4_letCome_7 (Nat.le_of_ble_eq_true rfl) [1, 2, 3, 4, 0] rfl ?_
        refine r_iload dX4_letCome_9 4 rfl ?_
        refine r_if_ge dX4_letCome_11 (tgt := 17) (by decide) (fun h11 => ?_) (fun h11 => ?_)
        · --t
          refine r_iload dX4_letCome_17 4 rfl ?_
          refine r_iconst dX4_letCome_19 (v := 4) rfl ?_
          refine r_icmp_ne dX4_letCome_20 (tgt := 39) (by decide) (fun h20 => ?_) (fun h20 => ?_)
          · --t
            refine r_iload dX4_letCome_39 4 rfl ?_
            refine r_if_eq dX4_letCome_41 (tgt := 47) (by decide) (fun h41 => ?_) (fun h41 => ?_)
            · --t
              exact absurd h41 h0
            · --f
              refine r_bipush dX4_letCome_44 (v := -5) (by decide +kernel) ?_
              refine r_iret rfl dX4_letCome_46 ?_
              exact ⟨rfl, hP, FS.rf⟩
          · --f
            exact absurd h20 h4
        · --f
          exact absurd (Int32.not_le.mp h11) hn
theorem t_X4_loseScout (hW : WN N) (hP : SP S 1 N) : Call G (d + 3) M_X4_loseScout [rv G 0, .int t, .int k] S (fun v u => v = some (losO N t k).1 ∧ SP u 1 (losO N t k).2 ∧ FS 1 S u) := by
  refine call_of (lo := [(0, rv G 0), (1, .int t), (2, .int k)]) (by decide +kernel) (Nat.le_of_ble_eq_true rfl) rfl ?_
  unfold losO
  rcases sc_cases hW t k with h | ⟨T, K, h, -, rfl, hT, hT5, eT, rfl, hK, hK16, eK⟩
  ·
    refine r_aload_n dX4_loseScout_0 0 rfl ?_
    refine r_iload_n dX4_loseScout_1 1 rfl ?_
    refine r_iload_n dX4_loseScout_2 2 rfl ?_
    refine r_callViF (As := [_, _]) c_X4_isScout (by first | assumption | rfl) l_X4_71 rfl rfl rfl (Nat.le_of_ble_eq_true rfl) dX4_loseScout_3 (t_X4_isScout hW hP) ?_
    refine r_if_ne dX4_loseScout_6 (tgt := 11) (by decide) (fun h6 => ?_) (fun h6 => ?_)
    · --t
      exact absurd (bI_not h) h6
    · --f
      refine r_iconst dX4_loseScout_9 (v := -1) rfl ?_
      refine r_iret rfl dX4_loseScout_10 ?_
      rw [h]; exact ⟨rfl, hP, FS.rf⟩
  · have ha := kd4 hT5
    have hl : T < ln 3 := hT5
    have hTT : TP S (4 + 3 * T) (N.2 T) := hP.2 T hT
    have hWT := hW.2 T hT
    have hWs : WF (setH (N.2 T) K 4) := wf_set hWT hK (by simp)
    rw [h, if_pos rfl, eT, eK]
    refine r_aload_n dX4_loseScout_0 0 rfl ?_
    refine r_iload_n dX4_loseScout_1 1 rfl ?_
    refine r_iload_n dX4_loseScout_2 2 rfl ?_
    refine r_callViF (As := [_, _]) c_X4_isScout (by first | assumption | rfl) l_X4_71 rfl rfl rfl (Nat.le_of_ble_eq_true rfl) dX4_loseScout_3 (t_X4_isScout hW hP) ?_
    refine r_if_ne dX4_loseScout_6 (tgt := 11) (by decide) (fun h6 => ?_) (fun h6 => ?_)
    · --t
      refine r_aload_n dX4_loseScout_11 0 rfl ?_
      refine r_getR (b := 1) (by first | assumption | rfl) f_X4_10 rfl rfl dX4_loseScout_12 rfl ?_
      refine r_getR (b := 3) (by first | assumption | rfl) f_X4_75 rfl rfl dX4_loseScout_15 rfl ?_
      refine r_iload_n dX4_loseScout_18 1 rfl ?_
      refine r_aald10 (j := _) (by first | assumption | rfl) (by first | assumption | rfl) (by first | assumption | decide) (rf3 _) dX4_loseScout_19 ?_
      refine r_astore_n (lo2 := [(0, _), (1, _), (2, _), (3, _)]) dX4_loseScout_20 rfl (Nat.le_of_ble_eq_true rfl) [1, 2, 3, 0] rfl ?_
      refine r_aload_n dX4_loseScout_21 3 rfl ?_
      refine r_iload_n dX4_loseScout_22 2 rfl ?_
      refine r_callViF (As := [_]) c_X3_howIs (by first | assumption | rfl) l_X4_79 rfl rfl rfl (Nat.le_of_ble_eq_true rfl) dX4_loseScout_23 (t_X3_howIs ha hK16 hTT hWT) ?_
      refine r_istore (lo2 := [(0, _), (1, _), (2, _), (3, _), (4, _)]) dX4_loseScout_26 (Nat.le_of_ble_eq_true rfl) [1, 2, 3, 4, 0] rfl ?_
      refine r_iload dX4_loseScout_28 4 rfl ?_
      refine r_iconst dX4_loseScout_30 (v := 3) rfl ?_
      refine r_icmp_eq dX4_loseScout_31 (tgt := 40) (by decide) (fun h31 => ?_) (fun h31 => ?_)
      · --t
        refine r_bipush dX4_loseScout_40 (v := -5) (by decide +kernel) ?_
        refine r_iret rfl dX4_loseScout_42 ?_
        rw [if_pos (by first | exact Or.inl h31 | exact Or.inr h37)]; exact ⟨rfl, hP, FS.rf⟩
      · --f
        refine r_iload dX4_loseScout_34 4 rfl ?_
        refine r_iconst dX4_loseScout_36 (v := 4) rfl ?_
        refine r_icmp_ne dX4_loseScout_37 (tgt := 43) (by decide) (fun h37 => ?_) (fun h37 => ?_)
        · --t
          refine r_aload_n dX4_loseScout_43 3 rfl ?_
          refine r_iload_n dX4_loseScout_44 2 rfl ?_
          refine r_callVv (As := [_]) c_X3_missScout (by first | assumption | rfl) l_X4_121 rfl rfl rfl (Nat.le_of_ble_eq_true rfl) dX4_loseScout_45 (t_X3_missScout ha hK16 hTT) (fun u45 q45 => ?_)
          obtain ⟨-, hT2, hF2⟩ := q45
          refine r_aload_n dX4_loseScout_48 3 rfl ?_
          refine r_callViF (As := []) c_X3_countDown (by first | assumption | rfl) l_X4_124 rfl rfl rfl (Nat.le_of_ble_eq_true rfl) dX4_loseScout_49 (t_X3_countDown ha hT2 hWs) ?_
          refine r_iret rfl dX4_loseScout_52 ?_
          rw [if_neg (by intro z; rcases z with z | z; exact h31 z; exact absurd z h37)]
          exact ⟨rfl, hP.tr hT hW.cn.2 hT2 hF2, fs_fr hF2 hT5⟩
        · --f
          refine r_bipush dX4_loseScout_40 (v := -5) (by decide +kernel) ?_
          refine r_iret rfl dX4_loseScout_42 ?_
          rw [if_pos (by first | exact Or.inl h31 | exact Or.inr h37)]; exact ⟨rfl, hP, FS.rf⟩
    · --f
      exact absurd (bI_yes h) (by rw [h6]; decide)
end GATES
end
section
/-! the class's own methods: minutes, and what is asked -/
theorem trM_0 (N : mN) : trM N 0 = N := by
  unfold trM
  show (N.1, fun t => if t < 0 then _ else N.2 t) = N
  simp
theorem SP.tM {S u : mS} {N : mN} {t : Nat} (h : SP S 1 (trM N t)) (ht : t < cnt N) (hc : cnt N ≤ 5) (hT : TP u (4 + 3 * t) (minT (N.2 t) (N.1 0) (N.1 1)).2) (hF : FR (4 + 3 * t) S u) : SP u 1 (trM N (t + 1)) := by
  refine ⟨?_, fun i hi => ?_⟩
  · rw [hF (1 + 1) (by omega) (by omega) (by omega), hF 1 (by omega) (by omega) (by omega)]; exact h.1
  · show TP u (1 + 3 + 3 * i) (if i < t + 1 then (minT (N.2 i) (N.1 0) (N.1 1)).2 else N.2 i)
    by_cases e : i = t
    · subst e; rw [if_pos (by omega)]; exact hT
    · have h2 : TP S (1 + 3 + 3 * i) (if i < t then (minT (N.2 i) (N.1 0) (N.1 1)).2 else N.2 i) := h.2 i hi
      have e2 : i < t + 1 ↔ i < t := by omega
      simp only [e2]
      exact h2.off (fun x hx => hF x (by omega) (by omega) (by omega))
section GATES
variable {G : mG} {d : Nat} {S0 : mS} {Q : Option Int32 → mS → Prop}
theorem lp_X4_pass1 {N : mN} {m i x : Int32} (hW : WN N) (hx : ∀ u, SP u 1 (trM N (cnt N)) → FS 1 S0 u → At G (d + 4) M_X4_passMinutes Q 96 [(0, rv G 0), (1, .int m), (2, .int (x + ansM N (cnt N))), (3, .int i)] [] u) : ∀ n t S, n + t = cnt N → SP S 1 (trM N t) → FS 1 S0 S → At G (d + 4) M_X4_passMinutes Q 44 [(0, rv G 0), (1, .int m), (2, .int (x + ansM N t)), (3, .int i), (4, .int (nI t))] [] S := by
  obtain ⟨hc, hc5⟩ := hW.cn
  intro n
  induction n with
  | zero =>
    intro t S ht hP hF
    obtain rfl : t = cnt N := by omega
    have ec : S 1 2 = nI (cnt N) := hP.1.2.2.1.trans hc
    refine r_iload dX4_passMinutes_44 4 rfl ?_
    refine r_aload_n dX4_passMinutes_46 0 rfl ?_
    refine r_getR (b := 1) (by first | assumption | rfl) f_X4_10 rfl rfl dX4_passMinutes_47 rfl ?_
    refine r_getI (by first | assumption | rfl) f_X4_99 rfl rfl dX4_passMinutes_50 ?_
    refine r_icmp_ge dX4_passMinutes_53 (tgt := 96) (by decide) (fun h53 => ?_) (fun h53 => ?_)
    · --t
      exact r_sub [0, 1, 2, 3] rfl (hx _ hP hF)
    · --f
      exact absurd (by rw [ec]; exact Int32.le_refl _) h53
  | succ n ih =>
    intro t S ht hP hF
    have htc : t < cnt N := by omega
    have ht5 : t < 5 := by omega
    have ec : S 1 2 = nI (cnt N) := hP.1.2.2.1.trans hc
    have hl : t < ln 3 := ht5
    have ha := kd4 ht5
    have e0 : S 2 0 = N.1 0 := hP.1.1
    have e1 : S 2 1 = N.1 1 := hP.1.2.1
    have hTT : TP S (4 + 3 * t) (N.2 t) := by
      have z : TP S (1 + 3 + 3 * t) (if t < t then (minT (N.2 t) (N.1 0) (N.1 1)).2 else N.2 t) := hP.2 t htc
      rw [if_neg (by omega)] at z
      exact z
    have hWT := hW.2 t htc
    refine r_iload dX4_passMinutes_44 4 rfl ?_
    refine r_aload_n dX4_passMinutes_46 0 rfl ?_
    refine r_getR (b := 1) (by first | assumption | rfl) f_X4_10 rfl rfl dX4_passMinutes_47 rfl ?_
    refine r_getI (by first | assumption | rfl) f_X4_99 rfl rfl dX4_passMinutes_50 ?_
    refine r_icmp_ge dX4_passMinutes_53 (tgt := 96) (by decide) (fun h53 => ?_) (fun h53 => ?_)
    · --t
      exact absurd (by rw [ec] at h53; exact h53) (nI_ge htc (by omega))
    · --f
      refine r_iload_n dX4_passMinutes_56 2 rfl ?_
      refine r_aload_n dX4_passMinutes_57 0 rfl ?_
      refine r_getR (b := 1) (by first | assumption | rfl) f_X4_10 rfl rfl dX4_passMinutes_58 rfl ?_
      refine r_getR (b := 3) (by first | assumption | rfl) f_X4_75 rfl rfl dX4_passMinutes_61 rfl ?_
      refine r_iload dX4_passMinutes_64 4 rfl ?_
      refine r_aald10 (j := _) (by first | assumption | rfl) (by first | assumption | rfl) (by first | assumption | decide) (rf3 _) dX4_passMinutes_66 ?_
      refine r_aload_n dX4_passMinutes_67 0 rfl ?_
      refine r_getR (b := 1) (by first | assumption | rfl) f_X4_10 rfl rfl dX4_passMinutes_68 rfl ?_
      refine r_getR (b := 2) (by first | assumption | rfl) f_X4_49 rfl rfl dX4_passMinutes_71 rfl ?_
      refine r_iconst dX4_passMinutes_74 (v := 0) rfl ?_
      refine r_iald (j := 0) (by first | assumption | rfl) (by first | assumption | rfl) (show 0 < ln 2 by decide) dX4_passMinutes_75 ?_
      refine r_aload_n dX4_passMinutes_76 0 rfl ?_
      refine r_getR (b := 1) (by first | assumption | rfl) f_X4_10 rfl rfl dX4_passMinutes_77 rfl ?_
      refine r_getR (b := 2) (by first | assumption | rfl) f_X4_49 rfl rfl dX4_passMinutes_80 rfl ?_
      refine r_iconst dX4_passMinutes_83 (v := 1) rfl ?_
      refine r_iald (j := 1) (by first | assumption | rfl) (by first | assumption | rfl) (show 1 < ln 2 by decide) dX4_passMinutes_84 ?_
      refine r_callVi (As := [_, _]) c_X3_passMinute (by first | assumption | rfl) l_X4_130 rfl rfl rfl (Nat.le_of_ble_eq_true rfl) dX4_passMinutes_85 (t_X3_passMinute ha hTT hWT) (fun r85 u85 q85 => ?_)
      obtain ⟨h3, hT3, hF3⟩ := q85
      cases h3
      rw [e0, e1] at hT3 ⊢
      refine r_iadd dX4_passMinutes_88 ?_
      refine r_istore_n (lo2 := [(0, _), (1, _), (2, _), (3, _), (4, _)]) dX4_passMinutes_89 rfl (Nat.le_of_ble_eq_true rfl) [1, 2, 0, 3, 4] rfl ?_
      refine r_iinc (lo2 := [(0, _), (1, _), (2, _), (3, _), (4, _)]) dX4_passMinutes_90 4 rfl (w := 1) rfl (Nat.le_of_ble_eq_true rfl) [1, 2, 3, 4, 0] rfl ?_
      refine r_goto dX4_passMinutes_93 (tgt := 44) (by decide) ?_
      rw [nI_1, Int32.add_assoc]
      exact ih (t + 1) _ (by omega) (hP.tM htc hc5 hT3 hF3) (hF.tr (fs_fr hF3 ht5))
theorem lp_X4_pass2 {m : Int32} {mm : Nat} (hm : m = nI mm) (hmm : mm < 1000) : ∀ n i (N : mN) x S, n + i = mm → WN N → SP S 1 N → FS 1 S0 S → (∀ u, SP u 1 (itM n N).2 → FS 1 S0 u → At G (d + 4) M_X4_passMinutes Q 102 [(0, rv G 0), (1, .int m), (2, .int (x + (itM n N).1))] [] u) → At G (d + 4) M_X4_passMinutes Q 36 [(0, rv G 0), (1, .int m), (2, .int x), (3, .int (nI i))] [] S := by
  subst hm
  intro n
  induction n with
  | zero =>
    intro i N x S hi hW hP hF hx
    obtain rfl : i = mm := by omega
    refine r_iload_n dX4_passMinutes_36 3 rfl ?_
    refine r_iload_n dX4_passMinutes_37 1 rfl ?_
    refine r_icmp_ge dX4_passMinutes_38 (tgt := 102) (by decide) (fun h38 => ?_) (fun h38 => ?_)
    · --t
      have z := hx S hP hF
      rw [show x + (itM 0 N).1 = x from Int32.add_zero x] at z
      exact r_sub [0, 1, 2] rfl z
    · --f
      exact absurd (Int32.le_refl _) h38
  | succ n ih =>
    intro i N x S hi hW hP hF hx
    have him : i < mm := by omega
    refine r_iload_n dX4_passMinutes_36 3 rfl ?_
    refine r_iload_n dX4_passMinutes_37 1 rfl ?_
    refine r_icmp_ge dX4_passMinutes_38 (tgt := 102) (by decide) (fun h38 => ?_) (fun h38 => ?_)
    · --t
      exact absurd h38 (nI_ge him (by omega))
    · --f
      refine r_iconst dX4_passMinutes_41 (v := 0) rfl ?_
      refine r_istore (lo2 := [(0, _), (1, _), (2, _), (3, _), (4, _)]) dX4_passMinutes_42 (Nat.le_of_ble_eq_true rfl) [1, 2, 3, 4, 0] rfl ?_
      have key := @lp_X4_pass1 G d S0 Q N (nI mm) (nI i) x hW (fun u hPu hFu => ?_) (cnt N) 0 S (by omega) (by rw [trM_0]; exact hP) hF
      · rw [show x + ansM N 0 = x from Int32.add_zero x] at key
        exact key
      · refine r_iinc (lo2 := [(0, _), (1, _), (2, _), (3, _)]) dX4_passMinutes_96 3 rfl (w := 1) rfl (Nat.le_of_ble_eq_true rfl) [1, 2, 3, 0] rfl ?_
        refine r_goto dX4_passMinutes_99 (tgt := 36) (by decide) ?_
        rw [nI_1]
        refine ih (i + 1) (trM N (cnt N)) _ u (by omega) (wn_trM hW _) hPu hFu (fun w hPw hFw => ?_)
        rw [Int32.add_assoc]
        exact hx w hPw hFw
variable {S : mS} {N : mN} {t k c s w : Int32}
theorem SP.adM {m : Int32} (h : SP S 1 N) : SP (up1 S 1 (upd (S 1) 3 (S 1 3 + m))) 1 (addM N m) ∧ FS 1 S (up1 S 1 (upd (S 1) 3 (S 1 3 + m))) := by
  refine ⟨⟨?_, fun t ht => ?_⟩, FS.rf.up (by omega) (by omega)⟩
  · rw [up1_n (show 1 + 1 ≠ 1 by omega), up1_s]
    refine ⟨h.1.1, h.1.2.1, h.1.2.2.1, ?_, h.1.2.2.2.2⟩
    show upd (S 1) 3 (S 1 3 + m) 3 = upd N.1 2 (N.1 2 + m) 2
    rw [upd, upd, if_pos rfl, if_pos rfl, h.1.2.2.2.1]
  · have e : cnt (addM N m) = cnt N := rfl
    rw [e] at ht
    exact (h.2 t ht).off (fun x hx => up1_n (by omega))
theorem i99 : (99 : Int32).toInt = 99 := by decide
theorem t_X4_passMinutes {m : Int32} (hW : WN N) (hP : SP S 1 N) : Call G (d + 4) M_X4_passMinutes [rv G 0, .int m] S (fun v u => v = some (pasO N m).1 ∧ SP u 1 (pasO N m).2 ∧ FS 1 S u) := by
  refine call_of (lo := [(0, rv G 0), (1, .int m)]) (by decide +kernel) (Nat.le_of_ble_eq_true rfl) rfl ?_
  have em : S 1 3 = N.1 2 := hP.1.2.2.2.1
  unfold pasO
  by_cases h1 : m < 1 ∨ 99 < m
  · rw [if_pos h1]
    refine r_iload_n dX4_passMinutes_0 1 rfl ?_
    refine r_iconst dX4_passMinutes_1 (v := 1) rfl ?_
    refine r_icmp_lt dX4_passMinutes_2 (tgt := 11) (by decide) (fun h2 => ?_) (fun h2 => ?_)
    · --t
      refine r_bipush dX4_passMinutes_11 (v := -2) (by decide +kernel) ?_
      refine r_iret rfl dX4_passMinutes_13 ?_
      exact ⟨rfl, hP, FS.rf⟩
    · --f
      refine r_iload_n dX4_passMinutes_5 1 rfl ?_
      refine r_bipush dX4_passMinutes_6 (v := 99) (by decide +kernel) ?_
      refine r_icmp_le dX4_passMinutes_8 (tgt := 14) (by decide) (fun h8 => ?_) (fun h8 => ?_)
      · --t
        exact (h1.elim h2 (Int32.not_lt.mpr h8)).elim
      · --f
        refine r_bipush dX4_passMinutes_11 (v := -2) (by decide +kernel) ?_
        refine r_iret rfl dX4_passMinutes_13 ?_
        exact ⟨rfl, hP, FS.rf⟩
  · rw [if_neg h1]
    obtain ⟨mm, hmm, rfl⟩ : ∃ j, j < 100 ∧ m = nI j := by
      have a1 : ¬ m < 1 := fun z => h1 (Or.inl z)
      have a2 : ¬ 99 < m := fun z => h1 (Or.inr z)
      have a0 : ¬ m < 0 := by
        intro z
        rw [Int32.lt_iff_toInt_lt] at z a1
        rw [i1] at a1
        have e0 : (0 : Int32).toInt = 0 := by decide
        omega
      obtain ⟨j, hj, rfl⟩ := nI_of a0
      rw [show (99 : Int32) = nI 99 from rfl, nI_ltI (by omega) hj] at a2
      exact ⟨j, by omega, rfl⟩
    by_cases h9 : 9999 < N.1 2 + nI mm
    · rw [if_pos h9]
      refine r_iload_n dX4_passMinutes_0 1 rfl ?_
      refine r_iconst dX4_passMinutes_1 (v := 1) rfl ?_
      refine r_icmp_lt dX4_passMinutes_2 (tgt := 11) (by decide) (fun h2 => ?_) (fun h2 => ?_)
      · --t
        exact absurd (Or.inl h2) h1
      · --f
        refine r_iload_n dX4_passMinutes_5 1 rfl ?_
        refine r_bipush dX4_passMinutes_6 (v := 99) (by decide +kernel) ?_
        refine r_icmp_le dX4_passMinutes_8 (tgt := 14) (by decide) (fun h8 => ?_) (fun h8 => ?_)
        · --t
          refine r_aload_n dX4_passMinutes_14 0 rfl ?_
          refine r_getR (b := 1) (by first | assumption | rfl) f_X4_10 rfl rfl dX4_passMinutes_15 rfl ?_
          refine r_getI (by first | assumption | rfl) f_X4_128 rfl rfl dX4_passMinutes_18 ?_
          refine r_iload_n dX4_passMinutes_21 1 rfl ?_
          refine r_iadd dX4_passMinutes_22 ?_
          refine r_sipush dX4_passMinutes_23 (v := 9999) (by decide +kernel) ?_
          refine r_icmp_le dX4_passMinutes_26 (tgt := 32) (by decide) (fun h26 => ?_) (fun h26 => ?_)
          · --t
            exact absurd (by rw [← em] at h9; exact h9) (Int32.not_lt.mpr h26)
          · --f
            refine r_bipush dX4_passMinutes_29 (v := -5) (by decide +kernel) ?_
            refine r_iret rfl dX4_passMinutes_31 ?_
            exact ⟨rfl, hP, FS.rf⟩
        · --f
          exact absurd (Or.inr (Int32.not_le.mp h8)) h1
    · rw [if_neg h9, nI_clamp (n := mm) (by omega)]
      refine r_iload_n dX4_passMinutes_0 1 rfl ?_
      refine r_iconst dX4_passMinutes_1 (v := 1) rfl ?_
      refine r_icmp_lt dX4_passMinutes_2 (tgt := 11) (by decide) (fun h2 => ?_) (fun h2 => ?_)
      · --t
        exact absurd (Or.inl h2) h1
      · --f
        refine r_iload_n dX4_passMinutes_5 1 rfl ?_
        refine r_bipush dX4_passMinutes_6 (v := 99) (by decide +kernel) ?_
        refine r_icmp_le dX4_passMinutes_8 (tgt := 14) (by decide) (fun h8 => ?_) (fun h8 => ?_)
        · --t
          refine r_aload_n dX4_passMinutes_14 0 rfl ?_
          refine r_getR (b := 1) (by first | assumption | rfl) f_X4_10 rfl rfl dX4_passMinutes_15 rfl ?_
          refine r_getI (by first | assumption | rfl) f_X4_128 rfl rfl dX4_passMinutes_18 ?_
          refine r_iload_n dX4_passMinutes_21 1 rfl ?_
          refine r_iadd dX4_passMinutes_22 ?_
          refine r_sipush dX4_passMinutes_23 (v := 9999) (by decide +kernel) ?_
          refine r_icmp_le dX4_passMinutes_26 (tgt := 32) (by decide) (fun h26 => ?_) (fun h26 => ?_)
          · --t
            refine r_iconst dX4_passMinutes_32 (v := 0) rfl ?_
            refine r_istore_n (lo2 := [(0, _), (1, _), (2, _)]) dX4_passMinutes_33 rfl (Nat.le_of_ble_eq_true rfl) [1, 2, 0] rfl ?_
            refine r_iconst dX4_passMinutes_34 (v := 0) rfl ?_
            refine r_istore_n (lo2 := [(0, _), (1, _), (2, _), (3, _)]) dX4_passMinutes_35 rfl (Nat.le_of_ble_eq_true rfl) [1, 2, 3, 0] rfl ?_
            refine lp_X4_pass2 (S0 := S) (mm := mm) rfl (by omega) mm 0 N 0 S (by omega) hW hP FS.rf (fun u hPu hFu => ?_)
            rw [show (0 : Int32) + (itM mm N).1 = (itM mm N).1 from Int32.zero_add _]
            obtain ⟨z1, z2⟩ := hPu.adM (m := nI mm)
            refine r_aload_n dX4_passMinutes_102 0 rfl ?_
            refine r_getR (b := 1) rfl f_X4_10 rfl rfl dX4_passMinutes_103 rfl ?_
            refine r_dup dX4_passMinutes_106 rfl ?_
            refine r_getI rfl f_X4_128 rfl rfl dX4_passMinutes_107 ?_
            refine r_iload_n dX4_passMinutes_110 1 rfl ?_
            refine r_iadd dX4_passMinutes_111 ?_
            refine r_putI rfl f_X4_128 rfl rfl rfl rfl dX4_passMinutes_112 ?_
            refine r_iload_n dX4_passMinutes_115 2 rfl ?_
            refine r_iret rfl dX4_passMinutes_116 ?_
            exact ⟨rfl, z1, hFu.tr z2⟩
          · --f
            exact absurd (by rw [em] at h26; exact Int32.not_le.mp h26) h9
        · --f
          exact absurd (Or.inr (Int32.not_le.mp h8)) h1
theorem t_X4_waitsFor (hW : WN N) (hP : SP S 1 N) : Call G (d + 2) M_X4_waitsFor [rv G 0, .int t] S (fun v u => v = some (waiA N t) ∧ u = S) := by
  refine call_of (lo := [(0, rv G 0), (1, .int t)]) (by decide +kernel) (Nat.le_of_ble_eq_true rfl) rfl ?_
  unfold waiA
  rcases tr_cases hW t with h | ⟨T, h, rfl, hT, hT5, eT⟩
  ·
    refine r_aload_n dX4_waitsFor_0 0 rfl ?_
    refine r_iload_n dX4_waitsFor_1 1 rfl ?_
    refine r_callViF (As := [_]) c_X4_isTroop (by first | assumption | rfl) l_X4_106 rfl rfl rfl (Nat.le_of_ble_eq_true rfl) dX4_waitsFor_2 (t_X4_isTroop hP) ?_
    refine r_if_ne dX4_waitsFor_5 (tgt := 10) (by decide) (fun h5 => ?_) (fun h5 => ?_)
    · --t
      exact absurd (bI_not h) h5
    · --f
      refine r_iconst dX4_waitsFor_8 (v := -1) rfl ?_
      refine r_iret rfl dX4_waitsFor_9 ?_
      rw [h]; exact ⟨rfl, rfl⟩
  · have ha := kd4 hT5
    have hl : T < ln 3 := hT5
    have hTT : TP S (4 + 3 * T) (N.2 T) := hP.2 T hT
    have hWT := hW.2 T hT
    refine r_aload_n dX4_waitsFor_0 0 rfl ?_
    refine r_iload_n dX4_waitsFor_1 1 rfl ?_
    refine r_callViF (As := [_]) c_X4_isTroop (by first | assumption | rfl) l_X4_106 rfl rfl rfl (Nat.le_of_ble_eq_true rfl) dX4_waitsFor_2 (t_X4_isTroop hP) ?_
    refine r_if_ne dX4_waitsFor_5 (tgt := 10) (by decide) (fun h5 => ?_) (fun h5 => ?_)
    · --t
      refine r_aload_n dX4_waitsFor_10 0 rfl ?_
      refine r_getR (b := 1) (by first | assumption | rfl) f_X4_10 rfl rfl dX4_waitsFor_11 rfl ?_
      refine r_getR (b := 3) (by first | assumption | rfl) f_X4_75 rfl rfl dX4_waitsFor_14 rfl ?_
      refine r_iload_n dX4_waitsFor_17 1 rfl ?_
      refine r_aald10 (j := _) (by first | assumption | rfl) (by first | assumption | rfl) (by first | assumption | decide) (rf3 _) dX4_waitsFor_18 ?_
      refine r_callViF (As := []) c_X3_waitedFor (by first | assumption | rfl) l_X4_183 rfl rfl rfl (Nat.le_of_ble_eq_true rfl) dX4_waitsFor_19 (t_X3_waitedFor ha hTT hWT) ?_
      refine r_iret rfl dX4_waitsFor_22 ?_
      rw [h, if_pos rfl, eT]; exact ⟨rfl, rfl⟩
    · --f
      exact absurd (bI_yes h) (by rw [h5]; decide)
end GATES
end
section
/-! the class's own methods: what is asked -/
theorem knw_eq {T : mT} (k : Int32) : (decide (0 ≤ k ∧ k < T.1 0) || (decide (0 ≤ k ∧ k < 16) && bt (hm T 3) k.toNatClampNeg)) = knwT T k := by
  unfold knwT
  by_cases h : 0 ≤ k ∧ k < 16
  · obtain ⟨j, hj, rfl⟩ := nI_of (Int32.not_lt.mpr h.1)
    have h2 := h.2
    rw [show (16 : Int32) = nI 16 from rfl, nI_ltI hj (by omega)] at h2
    rw [nI_clamp hj, bt_hm T 3 h2]
  · rw [decide_eq_false h]; rfl
theorem knw_in {T : mT} {k : Int32} (hW : WF T) (h : knwT T k = true) : ∃ K, k = nI K ∧ K < 16 ∧ k.toNatClampNeg = K := by
  unfold knwT at h
  rw [Bool.or_eq_true, Bool.and_eq_true] at h
  obtain ⟨s, e1, e2, e3, e4⟩ := hW.sz
  rcases h with h | ⟨h, -⟩
  · obtain ⟨h1, h2⟩ := of_decide_eq_true h
    obtain ⟨j, hj, rfl⟩ := nI_of (Int32.not_lt.mpr h1)
    rw [e2, nI_ltI hj (by omega)] at h2
    exact ⟨j, rfl, by omega, nI_clamp hj⟩
  · obtain ⟨h1, h2⟩ := of_decide_eq_true h
    obtain ⟨j, hj, rfl⟩ := nI_of (Int32.not_lt.mpr h1)
    rw [show (16 : Int32) = nI 16 from rfl, nI_ltI hj (by omega)] at h2
    exact ⟨j, rfl, h2, nI_clamp hj⟩
section GATES
variable {G : mG} {d : Nat} {S : mS} {N : mN} {t k c s w : Int32}
theorem t_X4_ofTroop (hW : WN N) (hP : SP S 1 N) : Call G (d + 3) M_X4_ofTroop [rv G 0, .int t, .int w] S (fun v u => v = some (ofTA N t w) ∧ u = S) := by
  refine call_of (lo := [(0, rv G 0), (1, .int t), (2, .int w)]) (by decide +kernel) (Nat.le_of_ble_eq_true rfl) rfl ?_
  unfold ofTA
  rcases tr_cases hW t with h | ⟨T, h, rfl, hT, hT5, eT⟩
  ·
    refine r_aload_n dX4_ofTroop_0 0 rfl ?_
    refine r_iload_n dX4_ofTroop_1 1 rfl ?_
    refine r_callViF (As := [_]) c_X4_isTroop (by first | assumption | rfl) l_X4_106 rfl rfl rfl (Nat.le_of_ble_eq_true rfl) dX4_ofTroop_2 (t_X4_isTroop hP) ?_
    refine r_if_ne dX4_ofTroop_5 (tgt := 10) (by decide) (fun h5 => ?_) (fun h5 => ?_)
    · --t
      exact absurd (bI_not h) h5
    · --f
      refine r_iconst dX4_ofTroop_8 (v := -1) rfl ?_
      refine r_iret rfl dX4_ofTroop_9 ?_
      rw [h]; exact ⟨rfl, rfl⟩
  · have ha := kd4 hT5
    have hl : T < ln 3 := hT5
    have hTT : TP S (4 + 3 * T) (N.2 T) := hP.2 T hT
    have hWT := hW.2 T hT
    obtain ⟨⟨a1, a2, a3, a4, a5, a6⟩, ⟨b1, b2, b3, b4⟩, -⟩ := id hTT
    rw [h, if_pos rfl, eT]
    refine r_aload_n dX4_ofTroop_0 0 rfl ?_
    refine r_iload_n dX4_ofTroop_1 1 rfl ?_
    refine r_callViF (As := [_]) c_X4_isTroop (by first | assumption | rfl) l_X4_106 rfl rfl rfl (Nat.le_of_ble_eq_true rfl) dX4_ofTroop_2 (t_X4_isTroop hP) ?_
    refine r_if_ne dX4_ofTroop_5 (tgt := 10) (by decide) (fun h5 => ?_) (fun h5 => ?_)
    · --t
      refine r_aload_n dX4_ofTroop_10 0 rfl ?_
      refine r_getR (b := 1) (by first | assumption | rfl) f_X4_10 rfl rfl dX4_ofTroop_11 rfl ?_
      refine r_getR (b := 3) (by first | assumption | rfl) f_X4_75 rfl rfl dX4_ofTroop_14 rfl ?_
      refine r_iload_n dX4_ofTroop_17 1 rfl ?_
      refine r_aald10 (j := _) (by first | assumption | rfl) (by first | assumption | rfl) (by first | assumption | decide) (rf3 _) dX4_ofTroop_18 ?_
      refine r_astore_n (lo2 := [(0, _), (1, _), (2, _), (3, _)]) dX4_ofTroop_19 rfl (Nat.le_of_ble_eq_true rfl) [1, 2, 3, 0] rfl ?_
      refine r_iload_n dX4_ofTroop_20 2 rfl ?_
      rcases tab_split w 0 12 (by decide) with hsw21 | ⟨j21, hj21, hsw21⟩
      · --default
        refine r_tabOut (tgt := 144) dX4_ofTroop_21 (tab_out hsw21 (by decide)) (by decide) ?_
        refine r_bipush dX4_ofTroop_144 (v := -2) (by decide +kernel) ?_
        refine r_iret rfl dX4_ofTroop_146 ?_
        rw [if_neg (tab_no hsw21 (y := 0) (by decide) (by decide)), if_neg (tab_no hsw21 (y := 1) (by decide) (by decide)), if_neg (tab_no hsw21 (y := 2) (by decide) (by decide)), if_neg (tab_no hsw21 (y := 3) (by decide) (by decide)), if_neg (tab_no hsw21 (y := 4) (by decide) (by decide)), if_neg (tab_no hsw21 (y := 5) (by decide) (by decide)), if_neg (tab_no hsw21 (y := 6) (by decide) (by decide)), if_neg (tab_no hsw21 (y := 7) (by decide) (by decide)), if_neg (tab_no hsw21 (y := 8) (by decide) (by decide)), if_neg (tab_no hsw21 (y := 9) (by decide) (by decide)), if_neg (tab_no hsw21 (y := 10) (by decide) (by decide)), if_neg (tab_no hsw21 (y := 11) (by decide) (by decide))]; exact ⟨rfl, rfl⟩
      · --in
        match j21, hj21, hsw21 with
        | 0, _, hsw21 =>
          have hv21 : w = 0 := hsw21
          clear hsw21
          subst hv21
          refine r_tabIn (off := 63) (tgt := 84) dX4_ofTroop_21 (by decide) (by decide) rfl (by decide) ?_
          refine r_aload_n dX4_ofTroop_84 3 rfl ?_
          refine r_getI (by first | assumption | rfl) f_X4_133 rfl rfl dX4_ofTroop_85 ?_
          refine r_iret rfl dX4_ofTroop_88 ?_
          exact ⟨by first | rfl | (rw [a1]; rfl) | (rw [a2]; rfl) | (rw [a3]; rfl) | (rw [a4]; rfl) | (rw [a5]; rfl) | (rw [a6]; rfl) | (rw [b1]; rfl) | (rw [b2]; rfl) | (rw [b3]; rfl) | (rw [b4]; rfl), rfl⟩
        | 1, _, hsw21 =>
          have hv21 : w = 1 := hsw21
          clear hsw21
          subst hv21
          refine r_tabIn (off := 68) (tgt := 89) dX4_ofTroop_21 (by decide) (by decide) rfl (by decide) ?_
          refine r_aload_n dX4_ofTroop_89 3 rfl ?_
          refine r_getI (by first | assumption | rfl) f_X4_136 rfl rfl dX4_ofTroop_90 ?_
          refine r_iret rfl dX4_ofTroop_93 ?_
          exact ⟨by first | rfl | (rw [a1]; rfl) | (rw [a2]; rfl) | (rw [a3]; rfl) | (rw [a4]; rfl) | (rw [a5]; rfl) | (rw [a6]; rfl) | (rw [b1]; rfl) | (rw [b2]; rfl) | (rw [b3]; rfl) | (rw [b4]; rfl), rfl⟩
        | 2, _, hsw21 =>
          have hv21 : w = 2 := hsw21
          clear hsw21
          subst hv21
          refine r_tabIn (off := 73) (tgt := 94) dX4_ofTroop_21 (by decide) (by decide) rfl (by decide) ?_
          refine r_aload_n dX4_ofTroop_94 3 rfl ?_
          refine r_getI (by first | assumption | rfl) f_X4_109 rfl rfl dX4_ofTroop_95 ?_
          refine r_iret rfl dX4_ofTroop_98 ?_
          exact ⟨by first | rfl | (rw [a1]; rfl) | (rw [a2]; rfl) | (rw [a3]; rfl) | (rw [a4]; rfl) | (rw [a5]; rfl) | (rw [a6]; rfl) | (rw [b1]; rfl) | (rw [b2]; rfl) | (rw [b3]; rfl) | (rw [b4]; rfl), rfl⟩
        | 3, _, hsw21 =>
          have hv21 : w = 3 := hsw21
          clear hsw21
          subst hv21
          refine r_tabIn (off := 78) (tgt := 99) dX4_ofTroop_21 (by decide) (by decide) rfl (by decide) ?_
          refine r_aload_n dX4_ofTroop_99 3 rfl ?_
          refine r_callViF (As := []) c_X3_countDown (by first | assumption | rfl) l_X4_124 rfl rfl rfl (Nat.le_of_ble_eq_true rfl) dX4_ofTroop_100 (t_X3_countDown ha hTT hWT) ?_
          refine r_iret rfl dX4_ofTroop_103 ?_
          exact ⟨by first | rfl | (rw [a1]; rfl) | (rw [a2]; rfl) | (rw [a3]; rfl) | (rw [a4]; rfl) | (rw [a5]; rfl) | (rw [a6]; rfl) | (rw [b1]; rfl) | (rw [b2]; rfl) | (rw [b3]; rfl) | (rw [b4]; rfl), rfl⟩
        | 4, _, hsw21 =>
          have hv21 : w = 4 := hsw21
          clear hsw21
          subst hv21
          refine r_tabIn (off := 83) (tgt := 104) dX4_ofTroop_21 (by decide) (by decide) rfl (by decide) ?_
          refine r_aload_n dX4_ofTroop_104 3 rfl ?_
          refine r_getI (by first | assumption | rfl) f_X4_139 rfl rfl dX4_ofTroop_105 ?_
          refine r_iret rfl dX4_ofTroop_108 ?_
          exact ⟨by first | rfl | (rw [a1]; rfl) | (rw [a2]; rfl) | (rw [a3]; rfl) | (rw [a4]; rfl) | (rw [a5]; rfl) | (rw [a6]; rfl) | (rw [b1]; rfl) | (rw [b2]; rfl) | (rw [b3]; rfl) | (rw [b4]; rfl), rfl⟩
        | 5, _, hsw21 =>
          have hv21 : w = 5 := hsw21
          clear hsw21
          subst hv21
          refine r_tabIn (off := 88) (tgt := 109) dX4_ofTroop_21 (by decide) (by decide) rfl (by decide) ?_
          refine r_aload_n dX4_ofTroop_109 3 rfl ?_
          refine r_callViF (As := []) c_X3_atHome (by first | assumption | rfl) l_X4_142 rfl rfl rfl (Nat.le_of_ble_eq_true rfl) dX4_ofTroop_110 (t_X3_atHome ha hTT hWT) ?_
          refine r_iret rfl dX4_ofTroop_113 ?_
          exact ⟨by first | rfl | (rw [a1]; rfl) | (rw [a2]; rfl) | (rw [a3]; rfl) | (rw [a4]; rfl) | (rw [a5]; rfl) | (rw [a6]; rfl) | (rw [b1]; rfl) | (rw [b2]; rfl) | (rw [b3]; rfl) | (rw [b4]; rfl), rfl⟩
        | 6, _, hsw21 =>
          have hv21 : w = 6 := hsw21
          clear hsw21
          subst hv21
          refine r_tabIn (off := 93) (tgt := 114) dX4_ofTroop_21 (by decide) (by decide) rfl (by decide) ?_
          refine r_aload_n dX4_ofTroop_114 3 rfl ?_
          refine r_getI (by first | assumption | rfl) f_X4_145 rfl rfl dX4_ofTroop_115 ?_
          refine r_iret rfl dX4_ofTroop_118 ?_
          exact ⟨by first | rfl | (rw [a1]; rfl) | (rw [a2]; rfl) | (rw [a3]; rfl) | (rw [a4]; rfl) | (rw [a5]; rfl) | (rw [a6]; rfl) | (rw [b1]; rfl) | (rw [b2]; rfl) | (rw [b3]; rfl) | (rw [b4]; rfl), rfl⟩
        | 7, _, hsw21 =>
          have hv21 : w = 7 := hsw21
          clear hsw21
          subst hv21
          refine r_tabIn (off := 98) (tgt := 119) dX4_ofTroop_21 (by decide) (by decide) rfl (by decide) ?_
          refine r_aload_n dX4_ofTroop_119 3 rfl ?_
          refine r_getI (by first | assumption | rfl) f_X4_148 rfl rfl dX4_ofTroop_120 ?_
          refine r_iret rfl dX4_ofTroop_123 ?_
          exact ⟨by first | rfl | (rw [a1]; rfl) | (rw [a2]; rfl) | (rw [a3]; rfl) | (rw [a4]; rfl) | (rw [a5]; rfl) | (rw [a6]; rfl) | (rw [b1]; rfl) | (rw [b2]; rfl) | (rw [b3]; rfl) | (rw [b4]; rfl), rfl⟩
        | 8, _, hsw21 =>
          have hv21 : w = 8 := hsw21
          clear hsw21
          subst hv21
          refine r_tabIn (off := 103) (tgt := 124) dX4_ofTroop_21 (by decide) (by decide) rfl (by decide) ?_
          refine r_aload_n dX4_ofTroop_124 3 rfl ?_
          refine r_getI (by first | assumption | rfl) f_X4_151 rfl rfl dX4_ofTroop_125 ?_
          refine r_iret rfl dX4_ofTroop_128 ?_
          exact ⟨by first | rfl | (rw [a1]; rfl) | (rw [a2]; rfl) | (rw [a3]; rfl) | (rw [a4]; rfl) | (rw [a5]; rfl) | (rw [a6]; rfl) | (rw [b1]; rfl) | (rw [b2]; rfl) | (rw [b3]; rfl) | (rw [b4]; rfl), rfl⟩
        | 9, _, hsw21 =>
          have hv21 : w = 9 := hsw21
          clear hsw21
          subst hv21
          refine r_tabIn (off := 108) (tgt := 129) dX4_ofTroop_21 (by decide) (by decide) rfl (by decide) ?_
          refine r_aload_n dX4_ofTroop_129 3 rfl ?_
          refine r_getI (by first | assumption | rfl) f_X4_154 rfl rfl dX4_ofTroop_130 ?_
          refine r_iret rfl dX4_ofTroop_133 ?_
          exact ⟨by first | rfl | (rw [a1]; rfl) | (rw [a2]; rfl) | (rw [a3]; rfl) | (rw [a4]; rfl) | (rw [a5]; rfl) | (rw [a6]; rfl) | (rw [b1]; rfl) | (rw [b2]; rfl) | (rw [b3]; rfl) | (rw [b4]; rfl), rfl⟩
        | 10, _, hsw21 =>
          have hv21 : w = 10 := hsw21
          clear hsw21
          subst hv21
          refine r_tabIn (off := 113) (tgt := 134) dX4_ofTroop_21 (by decide) (by decide) rfl (by decide) ?_
          refine r_aload_n dX4_ofTroop_134 3 rfl ?_
          refine r_getI (by first | assumption | rfl) f_X4_157 rfl rfl dX4_ofTroop_135 ?_
          refine r_iret rfl dX4_ofTroop_138 ?_
          exact ⟨by first | rfl | (rw [a1]; rfl) | (rw [a2]; rfl) | (rw [a3]; rfl) | (rw [a4]; rfl) | (rw [a5]; rfl) | (rw [a6]; rfl) | (rw [b1]; rfl) | (rw [b2]; rfl) | (rw [b3]; rfl) | (rw [b4]; rfl), rfl⟩
        | 11, _, hsw21 =>
          have hv21 : w = 11 := hsw21
          clear hsw21
          subst hv21
          refine r_tabIn (off := 118) (tgt := 139) dX4_ofTroop_21 (by decide) (by decide) rfl (by decide) ?_
          refine r_aload_n dX4_ofTroop_139 3 rfl ?_
          refine r_getI (by first | assumption | rfl) f_X4_160 rfl rfl dX4_ofTroop_140 ?_
          refine r_iret rfl dX4_ofTroop_143 ?_
          exact ⟨by first | rfl | (rw [a1]; rfl) | (rw [a2]; rfl) | (rw [a3]; rfl) | (rw [a4]; rfl) | (rw [a5]; rfl) | (rw [a6]; rfl) | (rw [b1]; rfl) | (rw [b2]; rfl) | (rw [b3]; rfl) | (rw [b4]; rfl), rfl⟩
        | (j + 12), hj, _ => exact absurd hj (by omega)
    · --f
      exact absurd (bI_yes h) (by rw [h5]; decide)
theorem t_X4_of (hW : WN N) (hP : SP S 1 N) : Call G (d + 3) M_X4_of [rv G 0, .int t, .int k, .int w] S (fun v u => v = some (ofA N t k w) ∧ u = S) := by
  refine call_of (lo := [(0, rv G 0), (1, .int t), (2, .int k), (3, .int w)]) (by decide +kernel) (Nat.le_of_ble_eq_true rfl) rfl ?_
  unfold ofA
  rcases tr_cases hW t with h | ⟨T, h, rfl, hT, hT5, eT⟩
  ·
    refine r_aload_n dX4_of_0 0 rfl ?_
    refine r_iload_n dX4_of_1 1 rfl ?_
    refine r_callViF (As := [_]) c_X4_isTroop (by first | assumption | rfl) l_X4_106 rfl rfl rfl (Nat.le_of_ble_eq_true rfl) dX4_of_2 (t_X4_isTroop hP) ?_
    refine r_if_ne dX4_of_5 (tgt := 10) (by decide) (fun h5 => ?_) (fun h5 => ?_)
    · --t
      exact absurd (bI_not h) h5
    · --f
      refine r_iconst dX4_of_8 (v := -1) rfl ?_
      refine r_iret rfl dX4_of_9 ?_
      rw [h]; exact ⟨rfl, rfl⟩
  · have ha := kd4 hT5
    have hl : T < ln 3 := hT5
    obtain ⟨k1, k2, l1, l2, f1, f2⟩ := kdT ha
    have hTT : TP S (4 + 3 * T) (N.2 T) := hP.2 T hT
    have hWT := hW.2 T hT
    have hkn := @t_X3_knows G (d + 1) S (4 + 3 * T) k ha
    rw [hTT.1.1, hTT.2.1.2.2.1, knw_eq] at hkn
    rw [h, if_pos rfl, eT]
    cases hk : knwT (N.2 T) k
    · rw [hk] at hkn
      refine r_aload_n dX4_of_0 0 rfl ?_
      refine r_iload_n dX4_of_1 1 rfl ?_
      refine r_callViF (As := [_]) c_X4_isTroop (by first | assumption | rfl) l_X4_106 rfl rfl rfl (Nat.le_of_ble_eq_true rfl) dX4_of_2 (t_X4_isTroop hP) ?_
      refine r_if_ne dX4_of_5 (tgt := 10) (by decide) (fun h5 => ?_) (fun h5 => ?_)
      · --t
        refine r_aload_n dX4_of_10 0 rfl ?_
        refine r_getR (b := 1) (by first | assumption | rfl) f_X4_10 rfl rfl dX4_of_11 rfl ?_
        refine r_getR (b := 3) (by first | assumption | rfl) f_X4_75 rfl rfl dX4_of_14 rfl ?_
        refine r_iload_n dX4_of_17 1 rfl ?_
        refine r_aald10 (j := _) (by first | assumption | rfl) (by first | assumption | rfl) (by first | assumption | decide) (rf3 _) dX4_of_18 ?_
        refine r_astore (lo2 := [(0, _), (1, _), (2, _), (3, _), (4, _)]) dX4_of_19 (Nat.le_of_ble_eq_true rfl) [1, 2, 3, 4, 0] rfl ?_
        refine r_aload dX4_of_21 4 rfl ?_
        refine r_iload_n dX4_of_23 2 rfl ?_
        refine r_callViF (As := [_]) c_X3_knows (by first | assumption | rfl) l_X4_163 rfl rfl rfl (Nat.le_of_ble_eq_true rfl) dX4_of_24 hkn ?_
        refine r_if_ne dX4_of_27 (tgt := 32) (by decide) (fun h27 => ?_) (fun h27 => ?_)
        · --t
          exact absurd rfl h27
        · --f
          refine r_iconst dX4_of_30 (v := -1) rfl ?_
          refine r_iret rfl dX4_of_31 ?_
          exact ⟨rfl, rfl⟩
      · --f
        exact absurd (bI_yes h) (by rw [h5]; decide)
    · obtain ⟨K, rfl, hK, eK⟩ := knw_in hWT hk
      rw [hk] at hkn
      rw [if_pos rfl, eK]
      have hl1 : K < ln (4 + 3 * T + 1) := by rw [l1]; exact hK
      have hl2 : K < ln (4 + 3 * T + 2) := by rw [l2]; exact hK
      refine r_aload_n dX4_of_0 0 rfl ?_
      refine r_iload_n dX4_of_1 1 rfl ?_
      refine r_callViF (As := [_]) c_X4_isTroop (by first | assumption | rfl) l_X4_106 rfl rfl rfl (Nat.le_of_ble_eq_true rfl) dX4_of_2 (t_X4_isTroop hP) ?_
      refine r_if_ne dX4_of_5 (tgt := 10) (by decide) (fun h5 => ?_) (fun h5 => ?_)
      · --t
        refine r_aload_n dX4_of_10 0 rfl ?_
        refine r_getR (b := 1) (by first | assumption | rfl) f_X4_10 rfl rfl dX4_of_11 rfl ?_
        refine r_getR (b := 3) (by first | assumption | rfl) f_X4_75 rfl rfl dX4_of_14 rfl ?_
        refine r_iload_n dX4_of_17 1 rfl ?_
        refine r_aald10 (j := _) (by first | assumption | rfl) (by first | assumption | rfl) (by first | assumption | decide) (rf3 _) dX4_of_18 ?_
        refine r_astore (lo2 := [(0, _), (1, _), (2, _), (3, _), (4, _)]) dX4_of_19 (Nat.le_of_ble_eq_true rfl) [1, 2, 3, 4, 0] rfl ?_
        refine r_aload dX4_of_21 4 rfl ?_
        refine r_iload_n dX4_of_23 2 rfl ?_
        refine r_callViF (As := [_]) c_X3_knows (by first | assumption | rfl) l_X4_163 rfl rfl rfl (Nat.le_of_ble_eq_true rfl) dX4_of_24 hkn ?_
        refine r_if_ne dX4_of_27 (tgt := 32) (by decide) (fun h27 => ?_) (fun h27 => ?_)
        · --t
          refine r_iload_n dX4_of_32 3 rfl ?_
          rcases tab_split w 0 4 (by decide) with hsw33 | ⟨j33, hj33, hsw33⟩
          · --default
            refine r_tabOut (tgt := 97) dX4_of_33 (tab_out hsw33 (by decide)) (by decide) ?_
            refine r_bipush dX4_of_97 (v := -2) (by decide +kernel) ?_
            refine r_iret rfl dX4_of_99 ?_
            rw [if_neg (tab_no hsw33 (y := 0) (by decide) (by decide)), if_neg (tab_no hsw33 (y := 1) (by decide) (by decide)), if_neg (tab_no hsw33 (y := 2) (by decide) (by decide)), if_neg (tab_no hsw33 (y := 3) (by decide) (by decide))]; exact ⟨rfl, rfl⟩
          · --in
            match j33, hj33, hsw33 with
            | 0, _, hsw33 =>
              have hv33 : w = 0 := hsw33
              clear hsw33
              subst hv33
              refine r_tabIn (off := 31) (tgt := 64) dX4_of_33 (by decide) (by decide) rfl (by decide) ?_
              refine r_aload dX4_of_64 4 rfl ?_
              refine r_iload_n dX4_of_66 2 rfl ?_
              refine r_callViF (As := [_]) c_X3_howIs (by first | assumption | rfl) l_X4_79 rfl rfl rfl (Nat.le_of_ble_eq_true rfl) dX4_of_67 (t_X3_howIs ha hK hTT hWT) ?_
              refine r_iret rfl dX4_of_70 ?_
              exact ⟨by first | rfl | (rw [(hTT.2.2 K hK).1]; rfl) | (rw [(hTT.2.2 K hK).2]; rfl) | (rw [hTT.1.2.2.2.1]; rfl), rfl⟩
            | 1, _, hsw33 =>
              have hv33 : w = 1 := hsw33
              clear hsw33
              subst hv33
              refine r_tabIn (off := 38) (tgt := 71) dX4_of_33 (by decide) (by decide) rfl (by decide) ?_
              refine r_aload dX4_of_71 4 rfl ?_
              refine r_getR (by first | assumption | rfl) f_X4_82 rfl rfl dX4_of_73 (by first | assumption | rfl) ?_
              refine r_iload_n dX4_of_76 2 rfl ?_
              refine r_iald (j := _) (by first | assumption | rfl) (by first | assumption | rfl) (by first | assumption | decide) dX4_of_77 ?_
              refine r_iret rfl dX4_of_78 ?_
              exact ⟨by first | rfl | (rw [(hTT.2.2 K hK).1]; rfl) | (rw [(hTT.2.2 K hK).2]; rfl) | (rw [hTT.1.2.2.2.1]; rfl), rfl⟩
            | 2, _, hsw33 =>
              have hv33 : w = 2 := hsw33
              clear hsw33
              subst hv33
              refine r_tabIn (off := 46) (tgt := 79) dX4_of_33 (by decide) (by decide) rfl (by decide) ?_
              refine r_aload dX4_of_79 4 rfl ?_
              refine r_getR (by first | assumption | rfl) f_X4_166 rfl rfl dX4_of_81 (by first | assumption | rfl) ?_
              refine r_iload_n dX4_of_84 2 rfl ?_
              refine r_iald (j := _) (by first | assumption | rfl) (by first | assumption | rfl) (by first | assumption | decide) dX4_of_85 ?_
              refine r_iret rfl dX4_of_86 ?_
              exact ⟨by first | rfl | (rw [(hTT.2.2 K hK).1]; rfl) | (rw [(hTT.2.2 K hK).2]; rfl) | (rw [hTT.1.2.2.2.1]; rfl), rfl⟩
            | 3, _, hsw33 =>
              have hv33 : w = 3 := hsw33
              clear hsw33
              subst hv33
              refine r_tabIn (off := 54) (tgt := 87) dX4_of_33 (by decide) (by decide) rfl (by decide) ?_
              refine r_aload dX4_of_87 4 rfl ?_
              refine r_getI (by first | assumption | rfl) f_X4_157 rfl rfl dX4_of_89 ?_
              refine r_iload_n dX4_of_92 2 rfl ?_
              refine r_ishr dX4_of_93 ?_
              refine r_iconst dX4_of_94 (v := 1) rfl ?_
              refine r_iand dX4_of_95 ?_
              refine r_iret rfl dX4_of_96 ?_
              exact ⟨by first | rfl | (rw [(hTT.2.2 K hK).1]; rfl) | (rw [(hTT.2.2 K hK).2]; rfl) | (rw [hTT.1.2.2.2.1]; rfl), rfl⟩
            | (j + 4), hj, _ => exact absurd hj (by omega)
        · --f
          exact absurd h27 (by decide)
      · --f
        exact absurd (bI_yes h) (by rw [h5]; decide)
theorem t_X4_count {n len : Nat} (hW : WN N) (hP : SP S 1 N) (hn : S 19 2 = nI n) (hl : S 185 1 = nI len) : Call G (d + 2) M_X4_count [rv G 0, .int w] S (fun v u => v = some (cntA N len n w) ∧ u = S) := by
  refine call_of (lo := [(0, rv G 0), (1, .int w)]) (by decide +kernel) (Nat.le_of_ble_eq_true rfl) rfl ?_
  obtain ⟨a1, a2, a3, a4, a5⟩ := id hP.1
  have h1 : kd 1 = 2 := rfl
  unfold cntA
  refine r_iload_n dX4_count_0 1 rfl ?_
  rcases tab_split w 0 10 (by decide) with hsw1 | ⟨j1, hj1, hsw1⟩
  · --default
    refine r_tabOut (tgt := 140) dX4_count_1 (tab_out hsw1 (by decide)) (by decide) ?_
    refine r_bipush dX4_count_140 (v := -2) (by decide +kernel) ?_
    refine r_iret rfl dX4_count_142 ?_
    rw [if_neg (tab_no hsw1 (y := 0) (by decide) (by decide)), if_neg (tab_no hsw1 (y := 1) (by decide) (by decide)), if_neg (tab_no hsw1 (y := 2) (by decide) (by decide)), if_neg (tab_no hsw1 (y := 3) (by decide) (by decide)), if_neg (tab_no hsw1 (y := 4) (by decide) (by decide)), if_neg (tab_no hsw1 (y := 5) (by decide) (by decide)), if_neg (tab_no hsw1 (y := 6) (by decide) (by decide)), if_neg (tab_no hsw1 (y := 7) (by decide) (by decide)), if_neg (tab_no hsw1 (y := 8) (by decide) (by decide)), if_neg (tab_no hsw1 (y := 9) (by decide) (by decide))]; exact ⟨rfl, rfl⟩
  · --in
    match j1, hj1, hsw1 with
    | 0, _, hsw1 =>
      have hv1 : w = 0 := hsw1
      clear hsw1
      subst hv1
      refine r_tabIn (off := 55) (tgt := 56) dX4_count_1 (by decide) (by decide) rfl (by decide) ?_
      refine r_aload_n dX4_count_56 0 rfl ?_
      refine r_getR (b := 1) (by first | assumption | rfl) f_X4_10 rfl rfl dX4_count_57 rfl ?_
      refine r_getI (by first | assumption | rfl) f_X4_128 rfl rfl dX4_count_60 ?_
      refine r_iret rfl dX4_count_63 ?_
      exact ⟨by first | rfl | (rw [hn]; rfl) | (rw [hl]; rfl) | exact congrArg some a1 | exact congrArg some a2 | exact congrArg some a3 | exact congrArg some a4 | exact congrArg some a5, rfl⟩
    | 1, _, hsw1 =>
      have hv1 : w = 1 := hsw1
      clear hsw1
      subst hv1
      refine r_tabIn (off := 63) (tgt := 64) dX4_count_1 (by decide) (by decide) rfl (by decide) ?_
      refine r_aload_n dX4_count_64 0 rfl ?_
      refine r_getR (b := 1) (by first | assumption | rfl) f_X4_10 rfl rfl dX4_count_65 rfl ?_
      refine r_getI (by first | assumption | rfl) f_X4_99 rfl rfl dX4_count_68 ?_
      refine r_iret rfl dX4_count_71 ?_
      exact ⟨by first | rfl | (rw [hn]; rfl) | (rw [hl]; rfl) | exact congrArg some a1 | exact congrArg some a2 | exact congrArg some a3 | exact congrArg some a4 | exact congrArg some a5, rfl⟩
    | 2, _, hsw1 =>
      have hv1 : w = 2 := hsw1
      clear hsw1
      subst hv1
      refine r_tabIn (off := 71) (tgt := 72) dX4_count_1 (by decide) (by decide) rfl (by decide) ?_
      refine r_aload_n dX4_count_72 0 rfl ?_
      refine r_getR (b := 1) (by first | assumption | rfl) f_X4_10 rfl rfl dX4_count_73 rfl ?_
      refine r_callViF (As := []) c_X2_hikes (by first | assumption | rfl) l_X4_169 rfl rfl rfl (Nat.le_of_ble_eq_true rfl) dX4_count_76 (t_X2_hikes h1 hW hP) ?_
      refine r_iret rfl dX4_count_79 ?_
      exact ⟨by first | rfl | (rw [hn]; rfl) | (rw [hl]; rfl) | exact congrArg some a1 | exact congrArg some a2 | exact congrArg some a3 | exact congrArg some a4 | exact congrArg some a5, rfl⟩
    | 3, _, hsw1 =>
      have hv1 : w = 3 := hsw1
      clear hsw1
      subst hv1
      refine r_tabIn (off := 79) (tgt := 80) dX4_count_1 (by decide) (by decide) rfl (by decide) ?_
      refine r_aload_n dX4_count_80 0 rfl ?_
      refine r_getR (b := 1) (by first | assumption | rfl) f_X4_10 rfl rfl dX4_count_81 rfl ?_
      refine r_callViF (As := []) c_X2_scoutsOnHikes (by first | assumption | rfl) l_X4_171 rfl rfl rfl (Nat.le_of_ble_eq_true rfl) dX4_count_84 (t_X2_scoutsOnHikes h1 hW hP) ?_
      refine r_iret rfl dX4_count_87 ?_
      exact ⟨by first | rfl | (rw [hn]; rfl) | (rw [hl]; rfl) | exact congrArg some a1 | exact congrArg some a2 | exact congrArg some a3 | exact congrArg some a4 | exact congrArg some a5, rfl⟩
    | 4, _, hsw1 =>
      have hv1 : w = 4 := hsw1
      clear hsw1
      subst hv1
      refine r_tabIn (off := 87) (tgt := 88) dX4_count_1 (by decide) (by decide) rfl (by decide) ?_
      refine r_aload_n dX4_count_88 0 rfl ?_
      refine r_getR (b := 1) (by first | assumption | rfl) f_X4_10 rfl rfl dX4_count_89 rfl ?_
      refine r_callViF (As := []) c_X2_scoutsLost (by first | assumption | rfl) l_X4_174 rfl rfl rfl (Nat.le_of_ble_eq_true rfl) dX4_count_92 (t_X2_scoutsLost h1 hW hP) ?_
      refine r_iret rfl dX4_count_95 ?_
      exact ⟨by first | rfl | (rw [hn]; rfl) | (rw [hl]; rfl) | exact congrArg some a1 | exact congrArg some a2 | exact congrArg some a3 | exact congrArg some a4 | exact congrArg some a5, rfl⟩
    | 5, _, hsw1 =>
      have hv1 : w = 5 := hsw1
      clear hsw1
      subst hv1
      refine r_tabIn (off := 95) (tgt := 96) dX4_count_1 (by decide) (by decide) rfl (by decide) ?_
      refine r_aload_n dX4_count_96 0 rfl ?_
      refine r_getR (b := 1) (by first | assumption | rfl) f_X4_10 rfl rfl dX4_count_97 rfl ?_
      refine r_getI (by first | assumption | rfl) f_X4_115 rfl rfl dX4_count_100 ?_
      refine r_iret rfl dX4_count_103 ?_
      exact ⟨by first | rfl | (rw [hn]; rfl) | (rw [hl]; rfl) | exact congrArg some a1 | exact congrArg some a2 | exact congrArg some a3 | exact congrArg some a4 | exact congrArg some a5, rfl⟩
    | 6, _, hsw1 =>
      have hv1 : w = 6 := hsw1
      clear hsw1
      subst hv1
      refine r_tabIn (off := 103) (tgt := 104) dX4_count_1 (by decide) (by decide) rfl (by decide) ?_
      refine r_aload_n dX4_count_104 0 rfl ?_
      refine r_getR (b := 1) (by first | assumption | rfl) f_X4_10 rfl rfl dX4_count_105 rfl ?_
      refine r_getR (b := 2) (by first | assumption | rfl) f_X4_49 rfl rfl dX4_count_108 rfl ?_
      refine r_iconst dX4_count_111 (v := 0) rfl ?_
      refine r_iald (j := 0) (by first | assumption | rfl) (by first | assumption | rfl) (show 0 < ln 2 by decide) dX4_count_112 ?_
      refine r_iret rfl dX4_count_113 ?_
      exact ⟨by first | rfl | (rw [hn]; rfl) | (rw [hl]; rfl) | exact congrArg some a1 | exact congrArg some a2 | exact congrArg some a3 | exact congrArg some a4 | exact congrArg some a5, rfl⟩
    | 7, _, hsw1 =>
      have hv1 : w = 7 := hsw1
      clear hsw1
      subst hv1
      refine r_tabIn (off := 113) (tgt := 114) dX4_count_1 (by decide) (by decide) rfl (by decide) ?_
      refine r_aload_n dX4_count_114 0 rfl ?_
      refine r_getR (b := 1) (by first | assumption | rfl) f_X4_10 rfl rfl dX4_count_115 rfl ?_
      refine r_getR (b := 2) (by first | assumption | rfl) f_X4_49 rfl rfl dX4_count_118 rfl ?_
      refine r_iconst dX4_count_121 (v := 1) rfl ?_
      refine r_iald (j := 1) (by first | assumption | rfl) (by first | assumption | rfl) (show 1 < ln 2 by decide) dX4_count_122 ?_
      refine r_iret rfl dX4_count_123 ?_
      exact ⟨by first | rfl | (rw [hn]; rfl) | (rw [hl]; rfl) | exact congrArg some a1 | exact congrArg some a2 | exact congrArg some a3 | exact congrArg some a4 | exact congrArg some a5, rfl⟩
    | 8, _, hsw1 =>
      have hv1 : w = 8 := hsw1
      clear hsw1
      subst hv1
      refine r_tabIn (off := 123) (tgt := 124) dX4_count_1 (by decide) (by decide) rfl (by decide) ?_
      refine r_aload_n dX4_count_124 0 rfl ?_
      refine r_getR (b := 185) (by first | assumption | rfl) f_X4_34 rfl rfl dX4_count_125 rfl ?_
      refine r_getI (by first | assumption | rfl) f_X4_177 rfl rfl dX4_count_128 ?_
      refine r_iret rfl dX4_count_131 ?_
      exact ⟨by first | rfl | (rw [hn]; rfl) | (rw [hl]; rfl) | exact congrArg some a1 | exact congrArg some a2 | exact congrArg some a3 | exact congrArg some a4 | exact congrArg some a5, rfl⟩
    | 9, _, hsw1 =>
      have hv1 : w = 9 := hsw1
      clear hsw1
      subst hv1
      refine r_tabIn (off := 131) (tgt := 132) dX4_count_1 (by decide) (by decide) rfl (by decide) ?_
      refine r_aload_n dX4_count_132 0 rfl ?_
      refine r_getR (b := 19) (by first | assumption | rfl) f_X4_19 rfl rfl dX4_count_133 rfl ?_
      refine r_getI (by first | assumption | rfl) f_X4_180 rfl rfl dX4_count_136 ?_
      refine r_iret rfl dX4_count_139 ?_
      exact ⟨by first | rfl | (rw [hn]; rfl) | (rw [hl]; rfl) | exact congrArg some a1 | exact congrArg some a2 | exact congrArg some a3 | exact congrArg some a4 | exact congrArg some a5, rfl⟩
    | (j + 10), hj, _ => exact absurd hj (by omega)
theorem lp_X4_opensIn {S0 : mS} {Q : Option Int32 → mS → Prop} {x : Int32} (hP : SP S0 1 N) : ∀ f m S (T : mT), f + m = 201 → TP S 187 T → WF T → FR 187 S0 S → (∀ u, FR 187 S0 u → Q (some (opIn f m T (N.1 0) (N.1 1))) u) → At G (d + 4) M_X4_opensIn Q 28 [(0, rv G 0), (1, .int x), (2, .int (nI m))] [] S := by
  have h1 : kd 187 = 3 := rfl
  intro f
  induction f with
  | zero =>
    intro m S T hm hT hW hF hQ
    obtain rfl : m = 201 := by omega
    refine r_iload_n dX4_opensIn_28 2 rfl ?_
    refine r_sipush dX4_opensIn_29 (v := 200) (by decide +kernel) ?_
    refine r_icmp_gt dX4_opensIn_32 (tgt := 71) (by decide) (fun h32 => ?_) (fun h32 => ?_)
    · --t
      refine r_bipush dX4_opensIn_71 (v := -6) (by decide +kernel) ?_
      refine r_iret rfl dX4_opensIn_73 ?_
      exact hQ _ hF
    · --f
      exact absurd (show nI 201 ≤ 200 from by first | exact h32 | exact Int32.not_lt.mp h32) (by decide)
  | succ f ih =>
    intro m S T hm hT hW hF hQ
    have hm2 : m ≤ 200 := by omega
    have e0 : S 2 0 = N.1 0 := by rw [hF 2 (by omega) (by omega) (by omega)]; exact hP.1.1
    have e1 : S 2 1 = N.1 1 := by rw [hF 2 (by omega) (by omega) (by omega)]; exact hP.1.2.1
    refine r_iload_n dX4_opensIn_28 2 rfl ?_
    refine r_sipush dX4_opensIn_29 (v := 200) (by decide +kernel) ?_
    refine r_icmp_gt dX4_opensIn_32 (tgt := 71) (by decide) (fun h32 => ?_) (fun h32 => ?_)
    · --t
      exact absurd h32 (Int32.not_lt.mpr (nI_le (b := 200) hm2 (by decide)))
    · --f
      refine r_aload_n dX4_opensIn_35 0 rfl ?_
      refine r_getR (b := 187) (by first | assumption | rfl) f_X4_41 rfl rfl dX4_opensIn_36 rfl ?_
      refine r_aload_n dX4_opensIn_39 0 rfl ?_
      refine r_getR (b := 1) (by first | assumption | rfl) f_X4_10 rfl rfl dX4_opensIn_40 rfl ?_
      refine r_getR (b := 2) (by first | assumption | rfl) f_X4_49 rfl rfl dX4_opensIn_43 rfl ?_
      refine r_iconst dX4_opensIn_46 (v := 0) rfl ?_
      refine r_iald (j := 0) (by first | assumption | rfl) (by first | assumption | rfl) (show 0 < ln 2 by decide) dX4_opensIn_47 ?_
      refine r_aload_n dX4_opensIn_48 0 rfl ?_
      refine r_getR (b := 1) (by first | assumption | rfl) f_X4_10 rfl rfl dX4_opensIn_49 rfl ?_
      refine r_getR (b := 2) (by first | assumption | rfl) f_X4_49 rfl rfl dX4_opensIn_52 rfl ?_
      refine r_iconst dX4_opensIn_55 (v := 1) rfl ?_
      refine r_iald (j := 1) (by first | assumption | rfl) (by first | assumption | rfl) (show 1 < ln 2 by decide) dX4_opensIn_56 ?_
      refine r_callVi (As := [_, _]) c_X3_passMinute (by first | assumption | rfl) l_X4_130 rfl rfl rfl (Nat.le_of_ble_eq_true rfl) dX4_opensIn_57 (t_X3_passMinute h1 hT hW) (fun r57 u57 q57 => ?_)
      obtain ⟨h3, hT3, hF3⟩ := q57
      cases h3
      rw [e0, e1] at hT3 ⊢
      refine r_if_le dX4_opensIn_60 (tgt := 65) (by decide) (fun h60 => ?_) (fun h60 => ?_)
      · --t
        refine r_iinc (lo2 := [(0, _), (1, _), (2, _)]) dX4_opensIn_65 2 rfl (w := 1) rfl (Nat.le_of_ble_eq_true rfl) [1, 2, 0] rfl ?_
        refine r_goto dX4_opensIn_68 (tgt := 28) (by decide) ?_
        rw [nI_1]
        refine ih (m + 1) _ _ (by omega) hT3 (wf_min hW _ _) (hF.tr hF3) (fun u hu => ?_)
        have z := hQ u hu
        unfold opIn at z
        rw [if_neg (by first | exact Int32.not_lt.mpr h60 | exact h60)] at z
        exact z
      · --f
        refine r_iload_n dX4_opensIn_63 2 rfl ?_
        refine r_iret rfl dX4_opensIn_64 ?_
        have z := hQ _ (hF.tr hF3)
        unfold opIn at z
        rw [if_pos (by first | exact Int32.not_le.mp h60 | exact h60)] at z
        exact z
theorem t_X4_opensIn (hW : WN N) (hP : SP S 1 N) : Call G (d + 5) M_X4_opensIn [rv G 0, .int t] S (fun v u => v = some (opIA N t) ∧ FR 187 S u) := by
  refine call_of (lo := [(0, rv G 0), (1, .int t)]) (by decide +kernel) (Nat.le_of_ble_eq_true rfl) rfl ?_
  have h1 : kd 187 = 3 := rfl
  unfold opIA
  rcases tr_cases hW t with h | ⟨T, h, rfl, hT, hT5, eT⟩
  ·
    refine r_aload_n dX4_opensIn_0 0 rfl ?_
    refine r_iload_n dX4_opensIn_1 1 rfl ?_
    refine r_callViF (As := [_]) c_X4_isTroop (by first | assumption | rfl) l_X4_106 rfl rfl rfl (Nat.le_of_ble_eq_true rfl) dX4_opensIn_2 (t_X4_isTroop hP) ?_
    refine r_if_ne dX4_opensIn_5 (tgt := 10) (by decide) (fun h5 => ?_) (fun h5 => ?_)
    · --t
      exact absurd (bI_not h) h5
    · --f
      refine r_iconst dX4_opensIn_8 (v := -1) rfl ?_
      refine r_iret rfl dX4_opensIn_9 ?_
      rw [h]; exact ⟨rfl, FR.rf⟩
  · have ha := kd4 hT5
    have hl : T < ln 3 := hT5
    have hTT : TP S (4 + 3 * T) (N.2 T) := hP.2 T hT
    have hWT := hW.2 T hT
    rw [h, if_pos rfl, eT]
    refine r_aload_n dX4_opensIn_0 0 rfl ?_
    refine r_iload_n dX4_opensIn_1 1 rfl ?_
    refine r_callViF (As := [_]) c_X4_isTroop (by first | assumption | rfl) l_X4_106 rfl rfl rfl (Nat.le_of_ble_eq_true rfl) dX4_opensIn_2 (t_X4_isTroop hP) ?_
    refine r_if_ne dX4_opensIn_5 (tgt := 10) (by decide) (fun h5 => ?_) (fun h5 => ?_)
    · --t
      refine r_aload_n dX4_opensIn_10 0 rfl ?_
      refine r_getR (b := 187) (by first | assumption | rfl) f_X4_41 rfl rfl dX4_opensIn_11 rfl ?_
      refine r_aload_n dX4_opensIn_14 0 rfl ?_
      refine r_getR (b := 1) (by first | assumption | rfl) f_X4_10 rfl rfl dX4_opensIn_15 rfl ?_
      refine r_getR (b := 3) (by first | assumption | rfl) f_X4_75 rfl rfl dX4_opensIn_18 rfl ?_
      refine r_iload_n dX4_opensIn_21 1 rfl ?_
      refine r_aald10 (j := _) (by first | assumption | rfl) (by first | assumption | rfl) (by first | assumption | decide) (rf3 _) dX4_opensIn_22 ?_
      refine r_callVv (As := [_]) c_X3_copyFrom (by first | assumption | rfl) l_X4_186 rfl rfl rfl (Nat.le_of_ble_eq_true rfl) dX4_opensIn_23 (t_X3_copyFrom h1 ha (by omega) hTT) (fun u23 q23 => ?_)
      obtain ⟨-, hT2, hF2⟩ := q23
      refine r_iconst dX4_opensIn_26 (v := 1) rfl ?_
      refine r_istore_n (lo2 := [(0, _), (1, _), (2, _)]) dX4_opensIn_27 rfl (Nat.le_of_ble_eq_true rfl) [1, 2, 0] rfl ?_
      exact lp_X4_opensIn (S0 := S) (d := d + 1) hP 200 1 _ _ (by omega) hT2 hWT hF2 (fun u hu => ⟨rfl, hu⟩)
    · --f
      exact absurd (bI_yes h) (by rw [h5]; decide)
theorem cHs_wf {T : mT} {a : Int32} (hW : WF T) : ∀ i, WF (cHs T a i).2 := by
  intro i
  induction i with
  | zero => exact hW
  | succ i ih =>
    unfold cHs
    split
    · rename_i h
      refine wf_opn a 3 _ (wf_set ih ?_ (by simp))
      unfold cnC at h
      simp only [Bool.and_eq_true, decide_eq_true_eq] at h
      exact h.1.1.1
    · exact ih
theorem cnC_eq {S : mS} {a j : Nat} {T : mT} (hT : TP S a T) (hW : WF T) (hj : j < 16) : (decide (nI j < S a 0) && !(bt (S a 3 ||| S a 4 ||| S a 5) j)) = cnC T j := by
  obtain ⟨s, e1, e2, e3, e4⟩ := hW.sz
  unfold cnC
  rw [hT.1.1, e2, e1, b_or, b_or, hT.2.1.1, hT.2.1.2.1, hT.2.1.2.2.1, bt_hm _ _ hj, bt_hm _ _ hj, bt_hm _ _ hj]
  have : decide (nI j < nI s) = decide (j < s) := by simp only [nI_ltI (show j < 2 ^ 31 by omega) (show s < 2 ^ 31 by omega)]
  rw [this, Bool.not_or, Bool.not_or, Bool.and_assoc, Bool.and_assoc, Bool.and_assoc]
theorem lp_X4_could1 {S0 : mS} {Q : Option Int32 → mS → Prop} {x : Int32} {T : mT} {r : Nat} (hP : SP S0 1 N) (hW : WF T) (hx : ∀ u, TP u 187 (cHs T (N.1 1) (16 * r + 16)).2 → FR 187 S0 u → At G (d + 4) M_X4_couldHike Q 91 [(0, rv G 0), (1, .int x), (2, .int (cHs T (N.1 1) (16 * r + 16)).1), (3, .int (nI r))] [] u) : ∀ n j S, n + j = 16 → TP S 187 (cHs T (N.1 1) (16 * r + j)).2 → FR 187 S0 S → At G (d + 4) M_X4_couldHike Q 38 [(0, rv G 0), (1, .int x), (2, .int (cHs T (N.1 1) (16 * r + j)).1), (3, .int (nI r)), (4, .int (nI j))] [] S := by
  have h1 : kd 187 = 3 := rfl
  intro n
  induction n with
  | zero =>
    intro j S hj hT hF
    obtain rfl : j = 16 := by omega
    refine r_iload dX4_couldHike_38 4 rfl ?_
    refine r_bipush dX4_couldHike_40 (v := 16) (by decide +kernel) ?_
    refine r_icmp_ge dX4_couldHike_42 (tgt := 91) (by decide) (fun h42 => ?_) (fun h42 => ?_)
    · --t
      exact r_sub [0, 1, 2, 3] rfl (hx _ hT hF)
    · --f
      exact absurd (show (16 : Int32) ≤ nI 16 by decide) h42
  | succ n ih =>
    intro j S hj hT hF
    have hj16 : j < 16 := by omega
    have em : (16 * r + j) % 16 = j := by omega
    have hWj := cHs_wf hW (a := N.1 1) (16 * r + j)
    have e1 : S 2 1 = N.1 1 := by rw [hF 2 (by omega) (by omega) (by omega)]; exact hP.1.2.1
    have hcn := @t_X3_canCome G (d + 2) S 187 j h1 hj16
    rw [cnC_eq hT hWj hj16] at hcn
    cases hc : cnC (cHs T (N.1 1) (16 * r + j)).2 j
    · rw [hc] at hcn
      have es : cHs T (N.1 1) (16 * r + (j + 1)) = cHs T (N.1 1) (16 * r + j) := by rw [show 16 * r + (j + 1) = (16 * r + j) + 1 by omega, cHs, em, hc, if_neg (by decide)]
      refine r_iload dX4_couldHike_38 4 rfl ?_
      refine r_bipush dX4_couldHike_40 (v := 16) (by decide +kernel) ?_
      refine r_icmp_ge dX4_couldHike_42 (tgt := 91) (by decide) (fun h42 => ?_) (fun h42 => ?_)
      · --t
        exact absurd h42 (c16 hj16)
      · --f
        refine r_aload_n dX4_couldHike_45 0 rfl ?_
        refine r_getR (b := 187) (by first | assumption | rfl) f_X4_41 rfl rfl dX4_couldHike_46 rfl ?_
        refine r_iload dX4_couldHike_49 4 rfl ?_
        refine r_callViF (As := [_]) c_X3_canCome (by first | assumption | rfl) l_X4_190 rfl rfl rfl (Nat.le_of_ble_eq_true rfl) dX4_couldHike_51 hcn ?_
        refine r_if_eq dX4_couldHike_54 (tgt := 85) (by decide) (fun h54 => ?_) (fun h54 => ?_)
        · --t
          refine r_iinc (lo2 := [(0, _), (1, _), (2, _), (3, _), (4, _)]) dX4_couldHike_85 4 rfl (w := 1) rfl (Nat.le_of_ble_eq_true rfl) [1, 2, 3, 4, 0] rfl ?_
          refine r_goto dX4_couldHike_88 (tgt := 38) (by decide) ?_
          rw [nI_1, ← es]
          exact ih (j + 1) _ (by omega) (by rw [es]; exact hT) hF
        · --f
          exact absurd rfl h54
    · rw [hc] at hcn
      have hjs : j < tsz (cHs T (N.1 1) (16 * r + j)).2 := by
        unfold cnC at hc
        simp only [Bool.and_eq_true, decide_eq_true_eq] at hc
        exact hc.1.1.1
      have es : cHs T (N.1 1) (16 * r + (j + 1)) = ((cHs T (N.1 1) (16 * r + j)).1 + (opnN 3 (setH (cHs T (N.1 1) (16 * r + j)).2 j 1) (N.1 1)).1, (opnN 3 (setH (cHs T (N.1 1) (16 * r + j)).2 j 1) (N.1 1)).2) := by rw [show 16 * r + (j + 1) = (16 * r + j) + 1 by omega, cHs, em, hc, if_pos rfl]
      have htk := fun co aw => @t_X3_takeIn G d S 187 j _ co aw h1 hjs hT hWj
      have ec := hT.1.2.2.1
      refine r_iload dX4_couldHike_38 4 rfl ?_
      refine r_bipush dX4_couldHike_40 (v := 16) (by decide +kernel) ?_
      refine r_icmp_ge dX4_couldHike_42 (tgt := 91) (by decide) (fun h42 => ?_) (fun h42 => ?_)
      · --t
        exact absurd h42 (c16 hj16)
      · --f
        refine r_aload_n dX4_couldHike_45 0 rfl ?_
        refine r_getR (b := 187) (by first | assumption | rfl) f_X4_41 rfl rfl dX4_couldHike_46 rfl ?_
        refine r_iload dX4_couldHike_49 4 rfl ?_
        refine r_callViF (As := [_]) c_X3_canCome (by first | assumption | rfl) l_X4_190 rfl rfl rfl (Nat.le_of_ble_eq_true rfl) dX4_couldHike_51 hcn ?_
        refine r_if_eq dX4_couldHike_54 (tgt := 85) (by decide) (fun h54 => ?_) (fun h54 => ?_)
        · --t
          exact absurd h54 (by decide)
        · --f
          refine r_iload_n dX4_couldHike_57 2 rfl ?_
          refine r_aload_n dX4_couldHike_58 0 rfl ?_
          refine r_getR (b := 187) (by first | assumption | rfl) f_X4_41 rfl rfl dX4_couldHike_59 rfl ?_
          refine r_iload dX4_couldHike_62 4 rfl ?_
          refine r_aload_n dX4_couldHike_64 0 rfl ?_
          refine r_getR (b := 187) (by first | assumption | rfl) f_X4_41 rfl rfl dX4_couldHike_65 rfl ?_
          refine r_getI (by first | assumption | rfl) f_X4_136 rfl rfl dX4_couldHike_68 ?_
          refine r_aload_n dX4_couldHike_71 0 rfl ?_
          refine r_getR (b := 1) (by first | assumption | rfl) f_X4_10 rfl rfl dX4_couldHike_72 rfl ?_
          refine r_getR (b := 2) (by first | assumption | rfl) f_X4_49 rfl rfl dX4_couldHike_75 rfl ?_
          refine r_iconst dX4_couldHike_78 (v := 1) rfl ?_
          refine r_iald (j := 1) (by first | assumption | rfl) (by first | assumption | rfl) (show 1 < ln 2 by decide) dX4_couldHike_79 ?_
          refine r_callVi (As := [_, _, _]) c_X3_takeIn (by first | assumption | rfl) l_X4_118 rfl rfl rfl (Nat.le_of_ble_eq_true rfl) dX4_couldHike_80 (htk _ _) (fun r80 u80 q80 => ?_)
          obtain ⟨h3, hT3, hF3⟩ := q80
          cases h3
          rw [if_pos ec, e1] at hT3 ⊢
          refine r_iadd dX4_couldHike_83 ?_
          refine r_istore_n (lo2 := [(0, _), (1, _), (2, _), (3, _), (4, _)]) dX4_couldHike_84 rfl (Nat.le_of_ble_eq_true rfl) [1, 2, 0, 3, 4] rfl ?_
          refine r_iinc (lo2 := [(0, _), (1, _), (2, _), (3, _), (4, _)]) dX4_couldHike_85 4 rfl (w := 1) rfl (Nat.le_of_ble_eq_true rfl) [1, 2, 3, 4, 0] rfl ?_
          refine r_goto dX4_couldHike_88 (tgt := 38) (by decide) ?_
          have z := ih (j + 1) _ (by omega) (by rw [es]; exact hT3) (hF.tr hF3)
          rw [es] at z
          rw [nI_1]
          exact z
theorem lp_X4_could2 {S0 : mS} {Q : Option Int32 → mS → Prop} {x : Int32} {T : mT} (hP : SP S0 1 N) (hW : WF T) (hx : ∀ u, FR 187 S0 u → Q (some (cHs T (N.1 1) 48).1) u) : ∀ n r S, n + r = 3 → TP S 187 (cHs T (N.1 1) (16 * r)).2 → FR 187 S0 S → At G (d + 4) M_X4_couldHike Q 30 [(0, rv G 0), (1, .int x), (2, .int (cHs T (N.1 1) (16 * r)).1), (3, .int (nI r))] [] S := by
  intro n
  induction n with
  | zero =>
    intro r S hr hT hF
    obtain rfl : r = 3 := by omega
    refine r_iload_n dX4_couldHike_30 3 rfl ?_
    refine r_iconst dX4_couldHike_31 (v := 3) rfl ?_
    refine r_icmp_ge dX4_couldHike_32 (tgt := 97) (by decide) (fun h32 => ?_) (fun h32 => ?_)
    · --t
      refine r_iload_n dX4_couldHike_97 2 rfl ?_
      refine r_iret rfl dX4_couldHike_98 ?_
      exact hx _ hF
    · --f
      exact absurd (show (3 : Int32) ≤ nI 3 by decide) h32
  | succ n ih =>
    intro r S hr hT hF
    have hr3 : r < 3 := by omega
    refine r_iload_n dX4_couldHike_30 3 rfl ?_
    refine r_iconst dX4_couldHike_31 (v := 3) rfl ?_
    refine r_icmp_ge dX4_couldHike_32 (tgt := 97) (by decide) (fun h32 => ?_) (fun h32 => ?_)
    · --t
      exact absurd h32 (nI_ge (b := 3) hr3 (by decide))
    · --f
      refine r_iconst dX4_couldHike_35 (v := 0) rfl ?_
      refine r_istore (lo2 := [(0, _), (1, _), (2, _), (3, _), (4, _)]) dX4_couldHike_36 (Nat.le_of_ble_eq_true rfl) [1, 2, 3, 4, 0] rfl ?_
      refine lp_X4_could1 (r := r) hP hW (fun u hTu hFu => ?_) 16 0 S (by omega) hT hF
      refine r_iinc (lo2 := [(0, _), (1, _), (2, _), (3, _)]) dX4_couldHike_91 3 rfl (w := 1) rfl (Nat.le_of_ble_eq_true rfl) [1, 2, 3, 0] rfl ?_
      refine r_goto dX4_couldHike_94 (tgt := 30) (by decide) ?_
      rw [nI_1]
      exact ih (r + 1) u (by omega) hTu hFu
theorem t_X4_couldHike (hW : WN N) (hP : SP S 1 N) : Call G (d + 5) M_X4_couldHike [rv G 0, .int t] S (fun v u => v = some (couA N t) ∧ FR 187 S u) := by
  refine call_of (lo := [(0, rv G 0), (1, .int t)]) (by decide +kernel) (Nat.le_of_ble_eq_true rfl) rfl ?_
  have h1 : kd 187 = 3 := rfl
  unfold couA
  rcases tr_cases hW t with h | ⟨T, h, rfl, hT, hT5, eT⟩
  ·
    refine r_aload_n dX4_couldHike_0 0 rfl ?_
    refine r_iload_n dX4_couldHike_1 1 rfl ?_
    refine r_callViF (As := [_]) c_X4_isTroop (by first | assumption | rfl) l_X4_106 rfl rfl rfl (Nat.le_of_ble_eq_true rfl) dX4_couldHike_2 (t_X4_isTroop hP) ?_
    refine r_if_ne dX4_couldHike_5 (tgt := 10) (by decide) (fun h5 => ?_) (fun h5 => ?_)
    · --t
      exact absurd (bI_not h) h5
    · --f
      refine r_iconst dX4_couldHike_8 (v := -1) rfl ?_
      refine r_iret rfl dX4_couldHike_9 ?_
      rw [h]; exact ⟨rfl, FR.rf⟩
  · have ha := kd4 hT5
    have hl : T < ln 3 := hT5
    have hTT : TP S (4 + 3 * T) (N.2 T) := hP.2 T hT
    have hWT := hW.2 T hT
    rw [h, if_pos rfl, eT]
    refine r_aload_n dX4_couldHike_0 0 rfl ?_
    refine r_iload_n dX4_couldHike_1 1 rfl ?_
    refine r_callViF (As := [_]) c_X4_isTroop (by first | assumption | rfl) l_X4_106 rfl rfl rfl (Nat.le_of_ble_eq_true rfl) dX4_couldHike_2 (t_X4_isTroop hP) ?_
    refine r_if_ne dX4_couldHike_5 (tgt := 10) (by decide) (fun h5 => ?_) (fun h5 => ?_)
    · --t
      refine r_aload_n dX4_couldHike_10 0 rfl ?_
      refine r_getR (b := 187) (by first | assumption | rfl) f_X4_41 rfl rfl dX4_couldHike_11 rfl ?_
      refine r_aload_n dX4_couldHike_14 0 rfl ?_
      refine r_getR (b := 1) (by first | assumption | rfl) f_X4_10 rfl rfl dX4_couldHike_15 rfl ?_
      refine r_getR (b := 3) (by first | assumption | rfl) f_X4_75 rfl rfl dX4_couldHike_18 rfl ?_
      refine r_iload_n dX4_couldHike_21 1 rfl ?_
      refine r_aald10 (j := _) (by first | assumption | rfl) (by first | assumption | rfl) (by first | assumption | decide) (rf3 _) dX4_couldHike_22 ?_
      refine r_callVv (As := [_]) c_X3_copyFrom (by first | assumption | rfl) l_X4_186 rfl rfl rfl (Nat.le_of_ble_eq_true rfl) dX4_couldHike_23 (t_X3_copyFrom h1 ha (by omega) hTT) (fun u23 q23 => ?_)
      obtain ⟨-, hT2, hF2⟩ := q23
      refine r_iconst dX4_couldHike_26 (v := 0) rfl ?_
      refine r_istore_n (lo2 := [(0, _), (1, _), (2, _)]) dX4_couldHike_27 rfl (Nat.le_of_ble_eq_true rfl) [1, 2, 0] rfl ?_
      refine r_iconst dX4_couldHike_28 (v := 0) rfl ?_
      refine r_istore_n (lo2 := [(0, _), (1, _), (2, _), (3, _)]) dX4_couldHike_29 rfl (Nat.le_of_ble_eq_true rfl) [1, 2, 3, 0] rfl ?_
      exact lp_X4_could2 (S0 := S) (d := d + 1) hP hWT (fun u hu => ⟨rfl, hu⟩) 3 0 _ (by omega) hT2 hF2
    · --f
      exact absurd (bI_yes h) (by rw [h5]; decide)
end GATES
end
section
/-! the pad: reading a text -/
def sg (P : Nat → Int32) (len i : Nat) : Int32 := if i < len then P i else 0
def dgt (x : Int32) : Bool := decide (48 ≤ x ∧ x ≤ 57)
def rN (P : Nat → Int32) (len i : Nat) : Bool × Nat × Int32 :=
  if dgt (sg P len i) = true then (if 0 < sg P len i - 48 ∧ dgt (sg P len (i + 1)) = true then (true, i + 2, (sg P len i - 48) * 10 + sg P len (i + 1) - 48) else (true, i + 1, sg P len i - 48)) else (false, i, 0)
/-- a digit, a sign, a number -/
def rB (P : Nat → Int32) (len i : Nat) (c : Int32) : Bool × Nat × Int32 × Int32 :=
  if dgt (sg P len i) = true then (if sg P len (i + 1) = c then ((rN P len (i + 2)).1, (rN P len (i + 2)).2.1, sg P len i - 48, (rN P len (i + 2)).2.2) else (false, i + 1, 0, 0)) else (false, i, 0, 0)
/-- an order: whether it is one, where it ends (or breaks off), its kind, troop, number, colour -/
def rO (P : Nat → Int32) (len i : Nat) : Bool × Nat × Int32 × Int32 × Int32 × Int32 :=
  if sg P len i = 110 ∨ sg P len i = 116 then ((rN P len (i + 1)).1, (rN P len (i + 1)).2.1, sg P len i, 0, (rN P len (i + 1)).2.2, 0)
  else if sg P len i = 99 then (if (rB P len (i + 1) 46).1 = true then (if sg P len (rB P len (i + 1) 46).2.1 = 114 ∨ sg P len (rB P len (i + 1) 46).2.1 = 98
      then (true, (rB P len (i + 1) 46).2.1 + 1, 99, (rB P len (i + 1) 46).2.2.1, (rB P len (i + 1) 46).2.2.2, if sg P len (rB P len (i + 1) 46).2.1 = 98 then 1 else 0)
      else (false, (rB P len (i + 1) 46).2.1, 0, 0, 0, 0)) else (false, (rB P len (i + 1) 46).2.1, 0, 0, 0, 0))
  else if sg P len i = 108 then ((rB P len (i + 1) 46).1, (rB P len (i + 1) 46).2.1, 108, (rB P len (i + 1) 46).2.2.1, (rB P len (i + 1) 46).2.2.2, 0)
  else if sg P len i = 115 then ((rB P len (i + 1) 61).1, (rB P len (i + 1) 61).2.1, 115, (rB P len (i + 1) 61).2.2.1, (rB P len (i + 1) 61).2.2.2, 0)
  else (false, i, 0, 0, 0, 0)
def chr (x : Int32) : Prop := ∃ c, x = nI c ∧ 33 ≤ c ∧ c ≤ 126
def PD (S : mS) (P : Nat → Int32) (len i : Nat) : Prop := (S 185 1 = nI len ∧ len ≤ 80 ∧ S 185 2 = nI i ∧ i ≤ len) ∧ ∀ j, j < len → S 186 j = P j ∧ chr (P j)
def FP (S u : mS) : Prop := ∀ b, b ≠ 185 → u b = S b
theorem FP.rf {S : mS} : FP S S := fun _ _ => rfl
theorem FP.tr {S u w : mS} (h : FP S u) (g : FP u w) : FP S w := fun b hb => (g b hb).trans (h b hb)
theorem FP.up {S u : mS} {f : Nat → Int32} (h : FP S u) : FP S (up1 u 185 f) := fun b hb => (up1_n hb).trans (h b hb)
theorem PD.fld {S : mS} {P : Nat → Int32} {len i k : Nat} {x : Int32} (h : PD S P len i) (h1 : k ≠ 1) (h2 : k ≠ 2) : PD (up1 S 185 (upd (S 185) k x)) P len i := by
  refine ⟨?_, fun j hj => ?_⟩
  · rw [up1_s, upd, upd, if_neg (fun z => h1 z.symm), if_neg (fun z => h2 z.symm)]; exact h.1
  · rw [up1_n (by omega)]; exact h.2 j hj
theorem PD.at {S : mS} {P : Nat → Int32} {len i m : Nat} {x : Int32} (h : PD S P len i) (hx : x = nI m) (hm : m ≤ len) : PD (up1 S 185 (upd (S 185) 2 x)) P len m := by
  refine ⟨?_, fun j hj => ?_⟩
  · rw [up1_s, upd, upd, if_neg (by omega), if_pos rfl]; exact ⟨h.1.1, h.1.2.1, hx, hm⟩
  · rw [up1_n (by omega)]; exact h.2 j hj
theorem chr_nar {x : Int32} (h : chr x ∨ x = 0) : narrow .char (.int x) = .int x ∧ fits .char (.int x) = true := by
  rcases h with ⟨c, rfl, h1, h2⟩ | rfl
  · exact pk_charN (by omega)
  · exact ⟨rfl, rfl⟩
theorem sg_chr {S : mS} {P : Nat → Int32} {len i : Nat} (h : PD S P len i) (j : Nat) : chr (sg P len j) ∨ sg P len j = 0 := by
  unfold sg
  by_cases hj : j < len
  · rw [if_pos hj]; exact Or.inl (h.2 j hj).2
  · rw [if_neg hj]; exact Or.inr rfl
theorem sg_lt {P : Nat → Int32} {len i : Nat} (h : sg P len i ≠ 0) : i < len := by
  refine Nat.not_le.mp fun z => h ?_
  unfold sg
  rw [if_neg (by omega)]
theorem dgt_lt {P : Nat → Int32} {len i : Nat} (h : dgt (sg P len i) = true) : i < len := by
  refine sg_lt (P := P) (fun z => ?_)
  rw [z] at h
  exact absurd h (by decide)
theorem i48 : (48 : Int32).toInt = 48 := by decide
theorem i57 : (57 : Int32).toInt = 57 := by decide
section PADR
variable {G : mG} {d : Nat} {S : mS} {P : Nat → Int32} {len i : Nat}
theorem t_X1_sign (h : PD S P len i) : Call G d M_X1_sign [rv G 185] S (fun v u => v = some (sg P len i) ∧ u = S) := by
  refine call_of (lo := [(0, rv G 185)]) (by decide +kernel) (Nat.le_of_ble_eq_true rfl) rfl ?_
  obtain ⟨⟨e1, e2, e3, e4⟩, hc⟩ := id h
  by_cases hi : i < len
  · have hl : i < ln 186 := show i < 80 by omega
    have en : narrow .char (.int (S 186 i)) = .int (S 186 i) := by rw [(hc i hi).1]; exact (chr_nar (Or.inl (hc i hi).2)).1
    refine r_aload_n dX1_sign_0 0 rfl ?_
    refine r_getI (by first | assumption | rfl) f_X1_21 rfl rfl dX1_sign_1 ?_
    refine r_aload_n dX1_sign_4 0 rfl ?_
    refine r_getI (by first | assumption | rfl) f_X1_17 rfl rfl dX1_sign_5 ?_
    refine r_icmp_ge dX1_sign_8 (tgt := 23) (by decide) (fun h8 => ?_) (fun h8 => ?_)
    · --t
      exact absurd (by rw [e1, e3] at h8; exact h8) (nI_ge hi (by omega))
    · --f
      refine r_aload_n dX1_sign_11 0 rfl ?_
      refine r_getR (b := 186) (by first | assumption | rfl) f_X1_9 rfl rfl dX1_sign_12 rfl ?_
      refine r_aload_n dX1_sign_15 0 rfl ?_
      refine r_getI (by first | assumption | rfl) f_X1_21 rfl rfl dX1_sign_16 ?_
      refine r_cald (j := _) (by first | assumption | rfl) e3 (by first | assumption | decide) dX1_sign_19 ?_
      refine r_goto dX1_sign_20 (tgt := 24) (by decide) ?_
      refine r_zret rfl en dX1_sign_24 ?_
      exact ⟨by unfold sg; rw [if_pos hi, (hc i hi).1], rfl⟩
  · have hge : ¬ i < len := hi
    refine r_aload_n dX1_sign_0 0 rfl ?_
    refine r_getI (by first | assumption | rfl) f_X1_21 rfl rfl dX1_sign_1 ?_
    refine r_aload_n dX1_sign_4 0 rfl ?_
    refine r_getI (by first | assumption | rfl) f_X1_17 rfl rfl dX1_sign_5 ?_
    refine r_icmp_ge dX1_sign_8 (tgt := 23) (by decide) (fun h8 => ?_) (fun h8 => ?_)
    · --t
      refine r_iconst dX1_sign_23 (v := 0) rfl ?_
      refine r_zret rfl (by first | rfl | decide) dX1_sign_24 ?_
      exact ⟨by unfold sg; rw [if_neg hi], rfl⟩
    · --f
      exact absurd (by rw [e1, e3]; exact nI_le (Nat.not_lt.mp hi) (by omega)) h8
theorem t_X1_isDigit (h : PD S P len i) : Call G (d + 1) M_X1_isDigit [rv G 185] S (fun v u => v = some (bI (dgt (sg P len i))) ∧ u = S) := by
  refine call_of (lo := [(0, rv G 185)]) (by decide +kernel) (Nat.le_of_ble_eq_true rfl) rfl ?_
  refine r_aload_n dX1_isDigit_0 0 rfl ?_
  refine r_callViF (As := []) c_X1_sign (by first | assumption | rfl) l_X1_32 rfl rfl rfl (Nat.le_of_ble_eq_true rfl) dX1_isDigit_1 (t_X1_sign h) ?_
  refine r_bipush dX1_isDigit_4 (v := 48) (by decide +kernel) ?_
  refine r_icmp_lt dX1_isDigit_6 (tgt := 22) (by decide) (fun h6 => ?_) (fun h6 => ?_)
  · --t
    refine r_iconst dX1_isDigit_22 (v := 0) rfl ?_
    refine r_zret rfl (by first | rfl | decide) dX1_isDigit_23 ?_
    exact ⟨by first | (congr 1; simp_all [bI, dgt]; done) | (congr 1; simp_all [bI, dgt, Int32.le_iff_toInt_le, Int32.lt_iff_toInt_lt, i48, i57]; omega), rfl⟩
  · --f
    refine r_aload_n dX1_isDigit_9 0 rfl ?_
    refine r_callViF (As := []) c_X1_sign (by first | assumption | rfl) l_X1_32 rfl rfl rfl (Nat.le_of_ble_eq_true rfl) dX1_isDigit_10 (t_X1_sign h) ?_
    refine r_bipush dX1_isDigit_13 (v := 57) (by decide +kernel) ?_
    refine r_icmp_gt dX1_isDigit_15 (tgt := 22) (by decide) (fun h15 => ?_) (fun h15 => ?_)
    · --t
      refine r_iconst dX1_isDigit_22 (v := 0) rfl ?_
      refine r_zret rfl (by first | rfl | decide) dX1_isDigit_23 ?_
      exact ⟨by first | (congr 1; simp_all [bI, dgt]; done) | (congr 1; simp_all [bI, dgt, Int32.le_iff_toInt_le, Int32.lt_iff_toInt_lt, i48, i57]; omega), rfl⟩
    · --f
      refine r_iconst dX1_isDigit_18 (v := 1) rfl ?_
      refine r_goto dX1_isDigit_19 (tgt := 23) (by decide) ?_
      refine r_zret rfl (by first | rfl | decide) dX1_isDigit_23 ?_
      exact ⟨by first | (congr 1; simp_all [bI, dgt]; done) | (congr 1; simp_all [bI, dgt, Int32.le_iff_toInt_le, Int32.lt_iff_toInt_lt, i48, i57]; omega), rfl⟩
theorem t_X1_readSign {c : Int32} (hc : c ≠ 0) (h : PD S P len i) : Call G (d + 1) M_X1_readSign [rv G 185, .int c] S (fun v u => v = some (bI (decide (sg P len i = c))) ∧ PD u P len (if sg P len i = c then i + 1 else i) ∧ FP S u ∧ ∀ k, k ≠ 2 → u 185 k = S 185 k) := by
  refine call_of (lo := [(0, rv G 185), (1, .int c)]) (by decide +kernel) (Nat.le_of_ble_eq_true rfl) rfl ?_
  by_cases e : sg P len i = c
  · have hi : i < len := sg_lt (by rw [e]; exact hc)
    have e2 : S 185 2 + 1 = nI (i + 1) := by rw [h.1.2.2.1, nI_1]
    refine r_aload_n dX1_readSign_0 0 rfl ?_
    refine r_callViF (As := []) c_X1_sign (by first | assumption | rfl) l_X1_32 rfl rfl rfl (Nat.le_of_ble_eq_true rfl) dX1_readSign_1 (t_X1_sign h) ?_
    refine r_iload_n dX1_readSign_4 1 rfl ?_
    refine r_icmp_eq dX1_readSign_5 (tgt := 10) (by decide) (fun h5 => ?_) (fun h5 => ?_)
    · --t
      refine r_aload_n dX1_readSign_10 0 rfl ?_
      refine r_dup dX1_readSign_11 rfl ?_
      refine r_getI (by first | assumption | rfl) f_X1_21 rfl rfl dX1_readSign_12 ?_
      refine r_iconst dX1_readSign_15 (v := 1) rfl ?_
      refine r_iadd dX1_readSign_16 ?_
      refine r_putI (by first | assumption | rfl) f_X1_21 rfl rfl rfl rfl dX1_readSign_17 ?_
      refine r_iconst dX1_readSign_20 (v := 1) rfl ?_
      refine r_zret rfl (by first | rfl | decide) dX1_readSign_21 ?_
      rw [if_pos e, decide_eq_true e]
      exact ⟨rfl, h.at e2 (by omega), FP.rf.up, fun k hk => by rw [up1_s, upd, if_neg hk]⟩
    · --f
      exact absurd e h5
  ·
    refine r_aload_n dX1_readSign_0 0 rfl ?_
    refine r_callViF (As := []) c_X1_sign (by first | assumption | rfl) l_X1_32 rfl rfl rfl (Nat.le_of_ble_eq_true rfl) dX1_readSign_1 (t_X1_sign h) ?_
    refine r_iload_n dX1_readSign_4 1 rfl ?_
    refine r_icmp_eq dX1_readSign_5 (tgt := 10) (by decide) (fun h5 => ?_) (fun h5 => ?_)
    · --t
      exact absurd h5 e
    · --f
      refine r_iconst dX1_readSign_8 (v := 0) rfl ?_
      refine r_zret rfl (by first | rfl | decide) dX1_readSign_9 ?_
      rw [if_neg e, decide_eq_false e]
      exact ⟨rfl, h, FP.rf, fun k hk => rfl⟩
theorem t_X1_readTroop (h : PD S P len i) : Call G (d + 2) M_X1_readTroop [rv G 185] S (fun v u => v = some (bI (dgt (sg P len i))) ∧ PD u P len (if dgt (sg P len i) = true then i + 1 else i) ∧ FP S u ∧ (∀ k, k ≠ 2 → k ≠ 4 → u 185 k = S 185 k) ∧ (dgt (sg P len i) = true → u 185 4 = sg P len i - 48)) := by
  refine call_of (lo := [(0, rv G 185)]) (by decide +kernel) (Nat.le_of_ble_eq_true rfl) rfl ?_
  have hdg := @t_X1_isDigit G d S P len i h
  cases e : dgt (sg P len i)
  · rw [e] at hdg
    refine r_aload_n dX1_readTroop_0 0 rfl ?_
    refine r_callViF (As := []) c_X1_isDigit (by first | assumption | rfl) l_X1_49 rfl rfl rfl (Nat.le_of_ble_eq_true rfl) dX1_readTroop_1 hdg ?_
    refine r_if_ne dX1_readTroop_4 (tgt := 9) (by decide) (fun h4 => ?_) (fun h4 => ?_)
    · --t
      exact absurd rfl h4
    · --f
      refine r_iconst dX1_readTroop_7 (v := 0) rfl ?_
      refine r_zret rfl (by first | rfl | decide) dX1_readTroop_8 ?_
      exact ⟨rfl, h, FP.rf, fun _ _ _ => rfl, fun z => absurd z (by decide)⟩
  · rw [e] at hdg
    have hi := dgt_lt e
    have h1 := h.fld (k := 4) (x := sg P len i - 48) (by decide) (by decide)
    have e2 : up1 S 185 (upd (S 185) 4 (sg P len i - 48)) 185 2 + 1 = nI (i + 1) := by rw [h1.1.2.2.1, nI_1]
    refine r_aload_n dX1_readTroop_0 0 rfl ?_
    refine r_callViF (As := []) c_X1_isDigit (by first | assumption | rfl) l_X1_49 rfl rfl rfl (Nat.le_of_ble_eq_true rfl) dX1_readTroop_1 hdg ?_
    refine r_if_ne dX1_readTroop_4 (tgt := 9) (by decide) (fun h4 => ?_) (fun h4 => ?_)
    · --t
      refine r_aload_n dX1_readTroop_9 0 rfl ?_
      refine r_aload_n dX1_readTroop_10 0 rfl ?_
      refine r_callViF (As := []) c_X1_sign (by first | assumption | rfl) l_X1_32 rfl rfl rfl (Nat.le_of_ble_eq_true rfl) dX1_readTroop_11 (t_X1_sign h) ?_
      refine r_bipush dX1_readTroop_14 (v := 48) (by decide +kernel) ?_
      refine r_isub dX1_readTroop_16 ?_
      refine r_putI (by first | assumption | rfl) f_X1_52 rfl rfl rfl rfl dX1_readTroop_17 ?_
      refine r_aload_n dX1_readTroop_20 0 rfl ?_
      refine r_dup dX1_readTroop_21 rfl ?_
      refine r_getI (by first | assumption | rfl) f_X1_21 rfl rfl dX1_readTroop_22 ?_
      refine r_iconst dX1_readTroop_25 (v := 1) rfl ?_
      refine r_iadd dX1_readTroop_26 ?_
      refine r_putI (by first | assumption | rfl) f_X1_21 rfl rfl rfl rfl dX1_readTroop_27 ?_
      refine r_iconst dX1_readTroop_30 (v := 1) rfl ?_
      refine r_zret rfl (by first | rfl | decide) dX1_readTroop_31 ?_
      exact ⟨rfl, h1.at (m := i + 1) e2 (by omega), FP.rf.up.up, fun k k1 k2 => by simp only [up1_s, upd, if_neg k1, if_neg k2], fun _ => by simp only [up1_s, upd, reduceIte, Nat.reduceEqDiff]⟩
    · --f
      exact absurd h4 (by decide)
theorem rN_le {i : Nat} (h : i ≤ len) : (rN P len i).2.1 ≤ len ∧ i ≤ (rN P len i).2.1 := by
  unfold rN
  by_cases e : dgt (sg P len i) = true
  · rw [if_pos e]
    have := dgt_lt e
    by_cases e2 : 0 < sg P len i - 48 ∧ dgt (sg P len (i + 1)) = true
    · rw [if_pos e2]; have := dgt_lt e2.2; exact ⟨by show i + 2 ≤ len; omega, by show i ≤ i + 2; omega⟩
    · rw [if_neg e2]; exact ⟨by show i + 1 ≤ len; omega, by show i ≤ i + 1; omega⟩
  · rw [if_neg e]; exact ⟨h, Nat.le_refl _⟩
theorem t_X1_readNumber (h : PD S P len i) : Call G (d + 2) M_X1_readNumber [rv G 185] S (fun v u => v = some (bI (rN P len i).1) ∧ PD u P len (rN P len i).2.1 ∧ FP S u ∧ (∀ k, k ≠ 2 → k ≠ 5 → u 185 k = S 185 k) ∧ ((rN P len i).1 = true → u 185 5 = (rN P len i).2.2)) := by
  refine call_of (lo := [(0, rv G 185)]) (by decide +kernel) (Nat.le_of_ble_eq_true rfl) rfl ?_
  have hdg := @t_X1_isDigit G d S P len i h
  unfold rN
  cases e : dgt (sg P len i)
  · rw [e] at hdg
    rw [if_neg (by decide)]
    refine r_aload_n dX1_readNumber_0 0 rfl ?_
    refine r_callViF (As := []) c_X1_isDigit (by first | assumption | rfl) l_X1_49 rfl rfl rfl (Nat.le_of_ble_eq_true rfl) dX1_readNumber_1 hdg ?_
    refine r_if_ne dX1_readNumber_4 (tgt := 9) (by decide) (fun h4 => ?_) (fun h4 => ?_)
    · --t
      exact absurd rfl h4
    · --f
      refine r_iconst dX1_readNumber_7 (v := 0) rfl ?_
      refine r_zret rfl (by first | rfl | decide) dX1_readNumber_8 ?_
      exact ⟨rfl, h, FP.rf, fun _ _ _ => rfl, fun z => absurd (show false = true from z) (by decide)⟩
  · rw [e] at hdg
    rw [if_pos rfl]
    have hi := dgt_lt e
    have h1 := h.fld (k := 5) (x := sg P len i - 48) (by decide) (by decide)
    have e2 : up1 S 185 (upd (S 185) 5 (sg P len i - 48)) 185 2 + 1 = nI (i + 1) := by rw [h1.1.2.2.1, nI_1]
    have h2 := h1.at e2 (by omega)
    refine r_aload_n dX1_readNumber_0 0 rfl ?_
    refine r_callViF (As := []) c_X1_isDigit (by first | assumption | rfl) l_X1_49 rfl rfl rfl (Nat.le_of_ble_eq_true rfl) dX1_readNumber_1 hdg ?_
    refine r_if_ne dX1_readNumber_4 (tgt := 9) (by decide) (fun h4 => ?_) (fun h4 => ?_)
    · --t
      refine r_aload_n dX1_readNumber_9 0 rfl ?_
      refine r_aload_n dX1_readNumber_10 0 rfl ?_
      refine r_callViF (As := []) c_X1_sign (by first | assumption | rfl) l_X1_32 rfl rfl rfl (Nat.le_of_ble_eq_true rfl) dX1_readNumber_11 (t_X1_sign h) ?_
      refine r_bipush dX1_readNumber_14 (v := 48) (by decide +kernel) ?_
      refine r_isub dX1_readNumber_16 ?_
      refine r_putI (by first | assumption | rfl) f_X1_55 rfl rfl rfl rfl dX1_readNumber_17 ?_
      refine r_aload_n dX1_readNumber_20 0 rfl ?_
      refine r_dup dX1_readNumber_21 rfl ?_
      refine r_getI (by first | assumption | rfl) f_X1_21 rfl rfl dX1_readNumber_22 ?_
      refine r_iconst dX1_readNumber_25 (v := 1) rfl ?_
      refine r_iadd dX1_readNumber_26 ?_
      refine r_putI (by first | assumption | rfl) f_X1_21 rfl rfl rfl rfl dX1_readNumber_27 ?_
      refine at_gen (fun w hw => ?_)
      have g1 : PD w P len (i + 1) := by rw [hw]; exact h2
      have g2 : FP S w := by rw [hw]; exact FP.rf.up.up
      have g3 : ∀ k, k ≠ 2 → k ≠ 5 → w 185 k = S 185 k := fun k k1 k2 => by rw [hw]; simp only [up1_s, upd, if_neg k1, if_neg k2]
      have g4 : w 185 5 = sg P len i - 48 := by rw [hw]; simp only [up1_s, upd, reduceIte, Nat.reduceEqDiff]
      clear hw
      have hdg2 := @t_X1_isDigit G d w P len (i + 1) g1
      by_cases e3 : 0 < sg P len i - 48
      · by_cases e4 : dgt (sg P len (i + 1)) = true
        · rw [if_pos ⟨e3, e4⟩]
          rw [e4] at hdg2
          have hi2 := dgt_lt e4
          have g5 := g1.fld (k := 5) (x := w 185 5 * 10 + sg P len (i + 1) - 48) (by decide) (by decide)
          have e5 : up1 w 185 (upd (w 185) 5 (w 185 5 * 10 + sg P len (i + 1) - 48)) 185 2 + 1 = nI (i + 2) := by rw [g5.1.2.2.1, nI_1]
          refine r_aload_n dX1_readNumber_30 0 rfl ?_
          refine r_getI (by first | assumption | rfl) f_X1_55 rfl rfl dX1_readNumber_31 ?_
          refine r_if_le dX1_readNumber_34 (tgt := 73) (by decide) (fun h34 => ?_) (fun h34 => ?_)
          · --t
            exact absurd (by rw [g4] at h34; exact h34) (Int32.not_le.mpr e3)
          · --f
            refine r_aload_n dX1_readNumber_37 0 rfl ?_
            refine r_callViF (As := []) c_X1_isDigit (by first | assumption | rfl) l_X1_49 rfl rfl rfl (Nat.le_of_ble_eq_true rfl) dX1_readNumber_38 hdg2 ?_
            refine r_if_eq dX1_readNumber_41 (tgt := 73) (by decide) (fun h41 => ?_) (fun h41 => ?_)
            · --t
              exact absurd h41 (by decide)
            · --f
              refine r_aload_n dX1_readNumber_44 0 rfl ?_
              refine r_aload_n dX1_readNumber_45 0 rfl ?_
              refine r_getI (by first | assumption | rfl) f_X1_55 rfl rfl dX1_readNumber_46 ?_
              refine r_bipush dX1_readNumber_49 (v := 10) (by decide +kernel) ?_
              refine r_imul dX1_readNumber_51 ?_
              refine r_aload_n dX1_readNumber_52 0 rfl ?_
              refine r_callViF (As := []) c_X1_sign (by first | assumption | rfl) l_X1_32 rfl rfl rfl (Nat.le_of_ble_eq_true rfl) dX1_readNumber_53 (t_X1_sign g1) ?_
              refine r_iadd dX1_readNumber_56 ?_
              refine r_bipush dX1_readNumber_57 (v := 48) (by decide +kernel) ?_
              refine r_isub dX1_readNumber_59 ?_
              refine r_putI (by first | assumption | rfl) f_X1_55 rfl rfl rfl rfl dX1_readNumber_60 ?_
              refine r_aload_n dX1_readNumber_63 0 rfl ?_
              refine r_dup dX1_readNumber_64 rfl ?_
              refine r_getI (by first | assumption | rfl) f_X1_21 rfl rfl dX1_readNumber_65 ?_
              refine r_iconst dX1_readNumber_68 (v := 1) rfl ?_
              refine r_iadd dX1_readNumber_69 ?_
              refine r_putI (by first | assumption | rfl) f_X1_21 rfl rfl rfl rfl dX1_readNumber_70 ?_
              refine r_iconst dX1_readNumber_73 (v := 1) rfl ?_
              refine r_zret rfl (by first | rfl | decide) dX1_readNumber_74 ?_
              exact ⟨rfl, g5.at (m := i + 2) e5 (by omega), g2.up.up, fun k k1 k2 => by simp only [up1_s, upd, if_neg k1, if_neg k2]; exact g3 k k1 k2, fun _ => by simp only [up1_s, upd, reduceIte, Nat.reduceEqDiff, g4]⟩
        · rw [if_neg (fun z => e4 z.2)]
          rw [Bool.not_eq_true] at e4
          rw [e4] at hdg2
          refine r_aload_n dX1_readNumber_30 0 rfl ?_
          refine r_getI (by first | assumption | rfl) f_X1_55 rfl rfl dX1_readNumber_31 ?_
          refine r_if_le dX1_readNumber_34 (tgt := 73) (by decide) (fun h34 => ?_) (fun h34 => ?_)
          · --t
            exact absurd (by rw [g4] at h34; exact h34) (Int32.not_le.mpr e3)
          · --f
            refine r_aload_n dX1_readNumber_37 0 rfl ?_
            refine r_callViF (As := []) c_X1_isDigit (by first | assumption | rfl) l_X1_49 rfl rfl rfl (Nat.le_of_ble_eq_true rfl) dX1_readNumber_38 hdg2 ?_
            refine r_if_eq dX1_readNumber_41 (tgt := 73) (by decide) (fun h41 => ?_) (fun h41 => ?_)
            · --t
              refine r_iconst dX1_readNumber_73 (v := 1) rfl ?_
              refine r_zret rfl (by first | rfl | decide) dX1_readNumber_74 ?_
              exact ⟨rfl, g1, g2, g3, fun _ => g4⟩
            · --f
              exact absurd rfl h41
      · rw [if_neg (fun z => e3 z.1)]
        refine r_aload_n dX1_readNumber_30 0 rfl ?_
        refine r_getI (by first | assumption | rfl) f_X1_55 rfl rfl dX1_readNumber_31 ?_
        refine r_if_le dX1_readNumber_34 (tgt := 73) (by decide) (fun h34 => ?_) (fun h34 => ?_)
        · --t
          refine r_iconst dX1_readNumber_73 (v := 1) rfl ?_
          refine r_zret rfl (by first | rfl | decide) dX1_readNumber_74 ?_
          exact ⟨rfl, g1, g2, g3, fun _ => g4⟩
        · --f
          exact absurd (by rw [g4] at h34; exact Int32.not_le.mp h34) e3
    · --f
      exact absurd h4 (by decide)
end PADR
end
section
/-! the pad: orders and faults -/
theorem i98 : (98 : Int32) = nI 98 := rfl
section PADR
variable {G : mG} {d : Nat} {S : mS} {P : Nat → Int32} {len i : Nat}
theorem t_X1_readColour (h : PD S P len i) : Call G (d + 1) M_X1_readColour [rv G 185] S (fun v u => v = some (bI (decide (sg P len i = 114 ∨ sg P len i = 98))) ∧ PD u P len (if sg P len i = 114 ∨ sg P len i = 98 then i + 1 else i) ∧ FP S u ∧ (∀ k, k ≠ 2 → k ≠ 6 → u 185 k = S 185 k) ∧ (sg P len i = 114 ∨ sg P len i = 98 → u 185 6 = if sg P len i = 98 then 1 else 0)) := by
  refine call_of (lo := [(0, rv G 185)]) (by decide +kernel) (Nat.le_of_ble_eq_true rfl) rfl ?_
  by_cases e : sg P len i = 114 ∨ sg P len i = 98
  · have hi : i < len := sg_lt (P := P) (fun z => by rw [z] at e; exact absurd e (by decide))
    rw [if_pos e, decide_eq_true e]
    by_cases e7 : sg P len i = 114
    · have g0 := @PD.fld S P len i 6 0 h (by decide) (by decide)
      have e2 : up1 S 185 (upd (S 185) 6 0) 185 2 + 1 = nI (i + 1) := by rw [g0.1.2.2.1, nI_1]
      refine r_aload_n dX1_readColour_0 0 rfl ?_
      refine r_callViF (As := []) c_X1_sign (by first | assumption | rfl) l_X1_32 rfl rfl rfl (Nat.le_of_ble_eq_true rfl) dX1_readColour_1 (t_X1_sign h) ?_
      refine r_bipush dX1_readColour_4 (v := 114) (by decide +kernel) ?_
      refine r_icmp_eq dX1_readColour_6 (tgt := 20) (by decide) (fun h6 => ?_) (fun h6 => ?_)
      · --t
        refine r_aload_n dX1_readColour_20 0 rfl ?_
        refine r_aload_n dX1_readColour_21 0 rfl ?_
        refine r_callViF (As := []) c_X1_sign (by first | assumption | rfl) l_X1_32 rfl rfl rfl (Nat.le_of_ble_eq_true rfl) dX1_readColour_22 (t_X1_sign h) ?_
        refine r_bipush dX1_readColour_25 (v := 114) (by decide +kernel) ?_
        refine r_icmp_ne dX1_readColour_27 (tgt := 34) (by decide) (fun h27 => ?_) (fun h27 => ?_)
        · --t
          exact absurd e7 h27
        · --f
          refine r_iconst dX1_readColour_30 (v := 0) rfl ?_
          refine r_goto dX1_readColour_31 (tgt := 35) (by decide) ?_
          refine r_putI (by first | assumption | rfl) f_X1_58 rfl rfl rfl rfl dX1_readColour_35 ?_
          refine r_aload_n dX1_readColour_38 0 rfl ?_
          refine r_dup dX1_readColour_39 rfl ?_
          refine r_getI (by first | assumption | rfl) f_X1_21 rfl rfl dX1_readColour_40 ?_
          refine r_iconst dX1_readColour_43 (v := 1) rfl ?_
          refine r_iadd dX1_readColour_44 ?_
          refine r_putI (by first | assumption | rfl) f_X1_21 rfl rfl rfl rfl dX1_readColour_45 ?_
          refine r_iconst dX1_readColour_48 (v := 1) rfl ?_
          refine r_zret rfl (by first | rfl | decide) dX1_readColour_49 ?_
          exact ⟨rfl, g0.at (m := i + 1) e2 (by omega), FP.rf.up.up, fun k k1 k2 => by simp only [up1_s, upd, if_neg k1, if_neg k2], fun _ => by simp only [up1_s, upd, reduceIte, Nat.reduceEqDiff]; rw [e7]; rfl⟩
      · --f
        exact absurd e7 h6
    · have g0 := @PD.fld S P len i 6 1 h (by decide) (by decide)
      have e2 : up1 S 185 (upd (S 185) 6 1) 185 2 + 1 = nI (i + 1) := by rw [g0.1.2.2.1, nI_1]
      refine r_aload_n dX1_readColour_0 0 rfl ?_
      refine r_callViF (As := []) c_X1_sign (by first | assumption | rfl) l_X1_32 rfl rfl rfl (Nat.le_of_ble_eq_true rfl) dX1_readColour_1 (t_X1_sign h) ?_
      refine r_bipush dX1_readColour_4 (v := 114) (by decide +kernel) ?_
      refine r_icmp_eq dX1_readColour_6 (tgt := 20) (by decide) (fun h6 => ?_) (fun h6 => ?_)
      · --t
        exact absurd h6 e7
      · --f
        refine r_aload_n dX1_readColour_9 0 rfl ?_
        refine r_callViF (As := []) c_X1_sign (by first | assumption | rfl) l_X1_32 rfl rfl rfl (Nat.le_of_ble_eq_true rfl) dX1_readColour_10 (t_X1_sign h) ?_
        refine r_bipush dX1_readColour_13 (v := 98) (by decide +kernel) ?_
        refine r_icmp_eq dX1_readColour_15 (tgt := 20) (by decide) (fun h15 => ?_) (fun h15 => ?_)
        · --t
          refine r_aload_n dX1_readColour_20 0 rfl ?_
          refine r_aload_n dX1_readColour_21 0 rfl ?_
          refine r_callViF (As := []) c_X1_sign (by first | assumption | rfl) l_X1_32 rfl rfl rfl (Nat.le_of_ble_eq_true rfl) dX1_readColour_22 (t_X1_sign h) ?_
          refine r_bipush dX1_readColour_25 (v := 114) (by decide +kernel) ?_
          refine r_icmp_ne dX1_readColour_27 (tgt := 34) (by decide) (fun h27 => ?_) (fun h27 => ?_)
          · --t
            refine r_iconst dX1_readColour_34 (v := 1) rfl ?_
            refine r_putI (by first | assumption | rfl) f_X1_58 rfl rfl rfl rfl dX1_readColour_35 ?_
            refine r_aload_n dX1_readColour_38 0 rfl ?_
            refine r_dup dX1_readColour_39 rfl ?_
            refine r_getI (by first | assumption | rfl) f_X1_21 rfl rfl dX1_readColour_40 ?_
            refine r_iconst dX1_readColour_43 (v := 1) rfl ?_
            refine r_iadd dX1_readColour_44 ?_
            refine r_putI (by first | assumption | rfl) f_X1_21 rfl rfl rfl rfl dX1_readColour_45 ?_
            refine r_iconst dX1_readColour_48 (v := 1) rfl ?_
            refine r_zret rfl (by first | rfl | decide) dX1_readColour_49 ?_
            exact ⟨rfl, g0.at (m := i + 1) e2 (by omega), FP.rf.up.up, fun k k1 k2 => by simp only [up1_s, upd, if_neg k1, if_neg k2], fun _ => by simp only [up1_s, upd, reduceIte, Nat.reduceEqDiff]; rw [if_pos (e.resolve_left e7)]⟩
          · --f
            exact absurd h27 e7
        · --f
          exact absurd (e.resolve_left e7) h15
  · rw [if_neg e, decide_eq_false e]
    refine r_aload_n dX1_readColour_0 0 rfl ?_
    refine r_callViF (As := []) c_X1_sign (by first | assumption | rfl) l_X1_32 rfl rfl rfl (Nat.le_of_ble_eq_true rfl) dX1_readColour_1 (t_X1_sign h) ?_
    refine r_bipush dX1_readColour_4 (v := 114) (by decide +kernel) ?_
    refine r_icmp_eq dX1_readColour_6 (tgt := 20) (by decide) (fun h6 => ?_) (fun h6 => ?_)
    · --t
      exact absurd (Or.inl h6) e
    · --f
      refine r_aload_n dX1_readColour_9 0 rfl ?_
      refine r_callViF (As := []) c_X1_sign (by first | assumption | rfl) l_X1_32 rfl rfl rfl (Nat.le_of_ble_eq_true rfl) dX1_readColour_10 (t_X1_sign h) ?_
      refine r_bipush dX1_readColour_13 (v := 98) (by decide +kernel) ?_
      refine r_icmp_eq dX1_readColour_15 (tgt := 20) (by decide) (fun h15 => ?_) (fun h15 => ?_)
      · --t
        exact absurd (Or.inr h15) e
      · --f
        refine r_iconst dX1_readColour_18 (v := 0) rfl ?_
        refine r_zret rfl (by first | rfl | decide) dX1_readColour_19 ?_
        exact ⟨rfl, h, FP.rf, fun _ _ _ => rfl, fun z => absurd z e⟩
/-- a digit, a sign, a number, as the class reads them -/
theorem rB_le {c : Int32} {i : Nat} (h : i ≤ len) (hc : c ≠ 0) : (rB P len i c).2.1 ≤ len ∧ i ≤ (rB P len i c).2.1 := by
  unfold rB
  by_cases e : dgt (sg P len i) = true
  · rw [if_pos e]
    have := dgt_lt e
    by_cases e2 : sg P len (i + 1) = c
    · rw [if_pos e2]
      have h2 : i + 1 < len := sg_lt (P := P) (by rw [e2]; exact hc)
      have h3 := @rN_le P len (i + 2) (by omega)
      exact ⟨h3.1, by show i ≤ (rN P len (i + 2)).2.1; omega⟩
    · rw [if_neg e2]; exact ⟨by show i + 1 ≤ len; omega, by show i ≤ i + 1; omega⟩
  · rw [if_neg e]; exact ⟨h, Nat.le_refl _⟩
theorem rO_le {i : Nat} (h : i ≤ len) : (rO P len i).2.1 ≤ len ∧ ((rO P len i).1 = true → i + 2 ≤ (rO P len i).2.1) := by
  have rn : ∀ j, j ≤ len → (rN P len j).1 = true → j + 1 ≤ (rN P len j).2.1 := by
    intro j hj
    unfold rN
    by_cases e : dgt (sg P len j) = true
    · rw [if_pos e]
      by_cases e2 : 0 < sg P len j - 48 ∧ dgt (sg P len (j + 1)) = true
      · rw [if_pos e2]; intro _; show j + 1 ≤ j + 2; omega
      · rw [if_neg e2]; intro _; exact Nat.le_refl _
    · rw [if_neg e]; intro z; exact absurd (show false = true from z) (by decide)
  have rb : ∀ j c, j ≤ len → c ≠ 0 → (rB P len j c).1 = true → j + 3 ≤ (rB P len j c).2.1 := by
    intro j c hj hc
    unfold rB
    by_cases e : dgt (sg P len j) = true
    · rw [if_pos e]
      by_cases e2 : sg P len (j + 1) = c
      · rw [if_pos e2]
        have h2 : j + 1 < len := sg_lt (P := P) (by rw [e2]; exact hc)
        intro z
        have := rn (j + 2) (by omega) z
        show j + 3 ≤ (rN P len (j + 2)).2.1
        omega
      · rw [if_neg e2]; intro z; exact absurd (show false = true from z) (by decide)
    · rw [if_neg e]; intro z; exact absurd (show false = true from z) (by decide)
  unfold rO
  by_cases e1 : sg P len i = 110 ∨ sg P len i = 116
  · rw [if_pos e1]
    have hi : i < len := sg_lt (P := P) (fun z => by rw [z] at e1; exact absurd e1 (by decide))
    have h3 := @rN_le P len (i + 1) (by omega)
    exact ⟨h3.1, fun z => rn (i + 1) (by omega) z⟩
  · rw [if_neg e1]
    by_cases e2 : sg P len i = 99
    · rw [if_pos e2]
      have hi : i < len := sg_lt (P := P) (fun z => by rw [z] at e2; exact absurd e2 (by decide))
      have h3 := @rB_le P len 46 (i + 1) (by omega) (by decide)
      by_cases e3 : (rB P len (i + 1) 46).1 = true
      · rw [if_pos e3]
        have h4 := rb (i + 1) 46 (by omega) (by decide) e3
        by_cases e4 : sg P len (rB P len (i + 1) 46).2.1 = 114 ∨ sg P len (rB P len (i + 1) 46).2.1 = 98
        · rw [if_pos e4]
          have h5 : (rB P len (i + 1) 46).2.1 < len := sg_lt (P := P) (fun z => by rw [z] at e4; exact absurd e4 (by decide))
          exact ⟨by show (rB P len (i + 1) 46).2.1 + 1 ≤ len; omega, fun _ => by show i + 2 ≤ (rB P len (i + 1) 46).2.1 + 1; omega⟩
        · rw [if_neg e4]; exact ⟨h3.1, fun z => absurd (show false = true from z) (by decide)⟩
      · rw [if_neg e3]; exact ⟨h3.1, fun z => absurd (show false = true from z) (by decide)⟩
    · rw [if_neg e2]
      by_cases e3 : sg P len i = 108
      · rw [if_pos e3]
        have hi : i < len := sg_lt (P := P) (fun z => by rw [z] at e3; exact absurd e3 (by decide))
        exact ⟨(@rB_le P len 46 (i + 1) (by omega) (by decide)).1, fun z => by have := rb (i + 1) 46 (by omega) (by decide) z; show i + 2 ≤ (rB P len (i + 1) 46).2.1; omega⟩
      · rw [if_neg e3]
        by_cases e4 : sg P len i = 115
        · rw [if_pos e4]
          have hi : i < len := sg_lt (P := P) (fun z => by rw [z] at e4; exact absurd e4 (by decide))
          exact ⟨(@rB_le P len 61 (i + 1) (by omega) (by decide)).1, fun z => by have := rb (i + 1) 61 (by omega) (by decide) z; show i + 2 ≤ (rB P len (i + 1) 61).2.1; omega⟩
        · rw [if_neg e4]; exact ⟨h, fun z => absurd (show false = true from z) (by decide)⟩
end PADR
end
section
/-! the pad: an order, as the class reads it -/
section PADO
variable {G : mG} {d : Nat} {S : mS} {P : Nat → Int32} {len i : Nat}
theorem t_X1_readOrder (h : PD S P len i) : Call G (d + 4) M_X1_readOrder [rv G 185] S (fun v u => v = some (bI (rO P len i).1) ∧ PD u P len (rO P len i).2.1 ∧ FP S u ∧ ((rO P len i).1 = true → u 185 3 = (rO P len i).2.2.1 ∧ (¬ ((rO P len i).2.2.1 = 110 ∨ (rO P len i).2.2.1 = 116) → u 185 4 = (rO P len i).2.2.2.1) ∧ u 185 5 = (rO P len i).2.2.2.2.1 ∧ ((rO P len i).2.2.1 = 99 → u 185 6 = (rO P len i).2.2.2.2.2))) := by
  refine call_of (lo := [(0, rv G 185)]) (by decide +kernel) (Nat.le_of_ble_eq_true rfl) rfl ?_
  refine r_aload_n dX1_readOrder_0 0 rfl ?_
  refine r_aload_n dX1_readOrder_1 0 rfl ?_
  refine r_callViF (As := []) c_X1_sign (by first | assumption | rfl) l_X1_32 rfl rfl rfl (Nat.le_of_ble_eq_true rfl) dX1_readOrder_2 (t_X1_sign h) ?_
  refine r_putT (ty := .char) (by first | assumption | rfl) f_X1_36 rfl rfl rfl rfl (chr_nar (sg_chr h i)).1 (chr_nar (sg_chr h i)).2 dX1_readOrder_5 ?_
  refine at_gen (fun w hw => ?_)
  have g1 : PD w P len i := by rw [hw]; exact h.fld (by decide) (by decide)
  have gF : FP S w := by rw [hw]; exact FP.rf.up
  have gk : w 185 3 = sg P len i := by rw [hw]; simp only [up1_s, upd, reduceIte]
  clear hw
  refine r_aload_n dX1_readOrder_8 0 rfl ?_
  refine r_getI (by first | assumption | rfl) f_X1_36 rfl rfl dX1_readOrder_9 ?_
  rw [gk]
  by_cases hk12_0 : sg P len i = 99
  · --key 99
    rw [hk12_0]
    refine r_lookup (off := 67) (tgt := 79) dX1_readOrder_12 (by decide) (by decide) (by decide) ?_
    refine r_aload_n dX1_readOrder_79 0 rfl ?_
    refine r_dup dX1_readOrder_80 rfl ?_
    refine r_getI (by first | assumption | rfl) f_X1_21 rfl rfl dX1_readOrder_81 ?_
    refine r_iconst dX1_readOrder_84 (v := 1) rfl ?_
    refine r_iadd dX1_readOrder_85 ?_
    refine r_putI (by first | assumption | rfl) f_X1_21 rfl rfl rfl rfl dX1_readOrder_86 ?_
    refine at_gen (fun w2 hw2 => ?_)
    have g2 : PD w2 P len (i + 1) := by rw [hw2]; exact g1.at (m := i + 1) (by rw [g1.1.2.2.1, nI_1]) (sg_lt (P := P) (by rw [hk12_0]; decide))
    have g3 : FP S w2 := by rw [hw2]; exact gF.up
    have g4 : w2 185 3 = 99 := by rw [hw2]; simp only [up1_s, upd, Nat.reduceEqDiff, reduceIte]; rw [gk, hk12_0]
    clear hw2
    have hrt := @t_X1_readTroop G (d + 1) w2 P len (i + 1) g2
    cases e1 : dgt (sg P len (i + 1))
    · rw [e1, if_neg (by decide)] at hrt
      have er : rO P len i = (false, i + 1, 0, 0, 0, 0) := by unfold rO; rw [if_neg (show ¬ (sg P len i = 110 ∨ sg P len i = 116) by rw [hk12_0]; decide), if_pos hk12_0, (show rB P len (i + 1) 46 = (false, i + 1, 0, 0) by unfold rB; rw [e1]; rfl), if_neg (fun z => absurd (show false = true from z) (by decide))]
      rw [er]
      refine r_aload_n dX1_readOrder_89 0 rfl ?_
      refine r_callVi (As := []) c_X1_readTroop (by first | assumption | rfl) l_X1_43 rfl rfl rfl (Nat.le_of_ble_eq_true rfl) dX1_readOrder_90 hrt (fun r90 u90 q90 => ?_)
      obtain ⟨hr1, p1, f1, k1, v1⟩ := q90
      cases hr1
      refine r_if_eq dX1_readOrder_93 (tgt := 123) (by decide) (fun h93 => ?_) (fun h93 => ?_)
      · --t
        refine r_iconst dX1_readOrder_123 (v := 0) rfl ?_
        refine r_zret rfl (by first | rfl | decide) dX1_readOrder_124 ?_
        exact ⟨rfl, p1, g3.tr f1, fun z => absurd (show false = true from z) (by decide)⟩
      · --f
        exact absurd rfl h93
    · rw [e1, if_pos rfl] at hrt
      by_cases e2 : sg P len (i + 1 + 1) = 46
      · have hrs : ∀ u, PD u P len (i + 1 + 1) → _ := fun u hu => @t_X1_readSign G (d + 2) u P len (i + 1 + 1) 46 (by decide) hu
        rw [if_pos e2, decide_eq_true e2] at hrs
        have hrn : ∀ u, PD u P len (i + 1 + 2) → _ := fun u hu => @t_X1_readNumber G (d + 1) u P len (i + 1 + 2) hu
        cases e3 : (rN P len (i + 1 + 2)).1
        · rw [e3] at hrn
          have er : rO P len i = (false, (rN P len (i + 1 + 2)).2.1, 0, 0, 0, 0) := by unfold rO; rw [if_neg (show ¬ (sg P len i = 110 ∨ sg P len i = 116) by rw [hk12_0]; decide), if_pos hk12_0, (show rB P len (i + 1) 46 = ((rN P len (i + 1 + 2)).1, (rN P len (i + 1 + 2)).2.1, sg P len (i + 1) - 48, (rN P len (i + 1 + 2)).2.2) by unfold rB; rw [e1, if_pos rfl, if_pos e2]), e3, if_neg (by decide)]
          rw [er]
          refine r_aload_n dX1_readOrder_89 0 rfl ?_
          refine r_callVi (As := []) c_X1_readTroop (by first | assumption | rfl) l_X1_43 rfl rfl rfl (Nat.le_of_ble_eq_true rfl) dX1_readOrder_90 hrt (fun r90 u90 q90 => ?_)
          obtain ⟨hr1, p1, f1, k1, v1⟩ := q90
          cases hr1
          refine r_if_eq dX1_readOrder_93 (tgt := 123) (by decide) (fun h93 => ?_) (fun h93 => ?_)
          · --t
            exact absurd h93 (by decide)
          · --f
            refine r_aload_n dX1_readOrder_96 0 rfl ?_
            refine r_bipush dX1_readOrder_97 (v := 46) (by decide +kernel) ?_
            refine r_callVi (As := [_]) c_X1_readSign (by first | assumption | rfl) l_X1_28 rfl rfl rfl (Nat.le_of_ble_eq_true rfl) dX1_readOrder_99 (hrs _ p1) (fun r99 u99 q99 => ?_)
            obtain ⟨hr2, p2, f2, k2⟩ := q99
            cases hr2
            refine r_if_eq dX1_readOrder_102 (tgt := 123) (by decide) (fun h102 => ?_) (fun h102 => ?_)
            · --t
              exact absurd h102 (by decide)
            · --f
              refine r_aload_n dX1_readOrder_105 0 rfl ?_
              refine r_callVi (As := []) c_X1_readNumber (by first | assumption | rfl) l_X1_40 rfl rfl rfl (Nat.le_of_ble_eq_true rfl) dX1_readOrder_106 (hrn _ p2) (fun r106 u106 q106 => ?_)
              obtain ⟨hr3, p3, f3, k3, v3⟩ := q106
              cases hr3
              refine r_if_eq dX1_readOrder_109 (tgt := 123) (by decide) (fun h109 => ?_) (fun h109 => ?_)
              · --t
                refine r_iconst dX1_readOrder_123 (v := 0) rfl ?_
                refine r_zret rfl (by first | rfl | decide) dX1_readOrder_124 ?_
                exact ⟨rfl, p3, ((g3.tr f1).tr f2).tr f3, fun z => absurd (show false = true from z) (by decide)⟩
              · --f
                exact absurd rfl h109
        · rw [e3] at hrn
          have hrc : ∀ u, PD u P len (rN P len (i + 1 + 2)).2.1 → _ := fun u hu => @t_X1_readColour G (d + 2) u P len (rN P len (i + 1 + 2)).2.1 hu
          by_cases e4 : sg P len (rN P len (i + 1 + 2)).2.1 = 114 ∨ sg P len (rN P len (i + 1 + 2)).2.1 = 98
          · rw [if_pos e4, decide_eq_true e4] at hrc
            have er : rO P len i = (true, (rN P len (i + 1 + 2)).2.1 + 1, 99, sg P len (i + 1) - 48, (rN P len (i + 1 + 2)).2.2, if sg P len (rN P len (i + 1 + 2)).2.1 = 98 then 1 else 0) := by unfold rO; rw [if_neg (show ¬ (sg P len i = 110 ∨ sg P len i = 116) by rw [hk12_0]; decide), if_pos hk12_0, (show rB P len (i + 1) 46 = ((rN P len (i + 1 + 2)).1, (rN P len (i + 1 + 2)).2.1, sg P len (i + 1) - 48, (rN P len (i + 1 + 2)).2.2) by unfold rB; rw [e1, if_pos rfl, if_pos e2]), e3, if_pos rfl, if_pos e4]
            rw [er]
            refine r_aload_n dX1_readOrder_89 0 rfl ?_
            refine r_callVi (As := []) c_X1_readTroop (by first | assumption | rfl) l_X1_43 rfl rfl rfl (Nat.le_of_ble_eq_true rfl) dX1_readOrder_90 hrt (fun r90 u90 q90 => ?_)
            obtain ⟨hr1, p1, f1, k1, v1⟩ := q90
            cases hr1
            refine r_if_eq dX1_readOrder_93 (tgt := 123) (by decide) (fun h93 => ?_) (fun h93 => ?_)
            · --t
              exact absurd h93 (by decide)
            · --f
              refine r_aload_n dX1_readOrder_96 0 rfl ?_
              refine r_bipush dX1_readOrder_97 (v := 46) (by decide +kernel) ?_
              refine r_callVi (As := [_]) c_X1_readSign (by first | assumption | rfl) l_X1_28 rfl rfl rfl (Nat.le_of_ble_eq_true rfl) dX1_readOrder_99 (hrs _ p1) (fun r99 u99 q99 => ?_)
              obtain ⟨hr2, p2, f2, k2⟩ := q99
              cases hr2
              refine r_if_eq dX1_readOrder_102 (tgt := 123) (by decide) (fun h102 => ?_) (fun h102 => ?_)
              · --t
                exact absurd h102 (by decide)
              · --f
                refine r_aload_n dX1_readOrder_105 0 rfl ?_
                refine r_callVi (As := []) c_X1_readNumber (by first | assumption | rfl) l_X1_40 rfl rfl rfl (Nat.le_of_ble_eq_true rfl) dX1_readOrder_106 (hrn _ p2) (fun r106 u106 q106 => ?_)
                obtain ⟨hr3, p3, f3, k3, v3⟩ := q106
                cases hr3
                refine r_if_eq dX1_readOrder_109 (tgt := 123) (by decide) (fun h109 => ?_) (fun h109 => ?_)
                · --t
                  exact absurd h109 (by decide)
                · --f
                  refine r_aload_n dX1_readOrder_112 0 rfl ?_
                  refine r_callVi (As := []) c_X1_readColour (by first | assumption | rfl) l_X1_46 rfl rfl rfl (Nat.le_of_ble_eq_true rfl) dX1_readOrder_113 (hrc _ p3) (fun r113 u113 q113 => ?_)
                  obtain ⟨hr4, p4, f4, k4, v4⟩ := q113
                  cases hr4
                  refine r_if_eq dX1_readOrder_116 (tgt := 123) (by decide) (fun h116 => ?_) (fun h116 => ?_)
                  · --t
                    exact absurd h116 (by decide)
                  · --f
                    refine r_iconst dX1_readOrder_119 (v := 1) rfl ?_
                    refine r_goto dX1_readOrder_120 (tgt := 124) (by decide) ?_
                    refine r_zret rfl (by first | rfl | decide) dX1_readOrder_124 ?_
                    refine ⟨rfl, p4, (((g3.tr f1).tr f2).tr f3).tr f4, fun _ => ⟨?_, fun _ => ?_, ?_, fun _ => v4 e4⟩⟩
                    · rw [k4 3 (by decide) (by decide), k3 3 (by decide) (by decide), k2 3 (by decide), k1 3 (by decide) (by decide)]; exact g4
                    · rw [k4 4 (by decide) (by decide), k3 4 (by decide) (by decide), k2 4 (by decide)]; exact v1 rfl
                    · rw [k4 5 (by decide) (by decide)]; exact v3 rfl
          · rw [if_neg e4, decide_eq_false e4] at hrc
            have er : rO P len i = (false, (rN P len (i + 1 + 2)).2.1, 0, 0, 0, 0) := by unfold rO; rw [if_neg (show ¬ (sg P len i = 110 ∨ sg P len i = 116) by rw [hk12_0]; decide), if_pos hk12_0, (show rB P len (i + 1) 46 = ((rN P len (i + 1 + 2)).1, (rN P len (i + 1 + 2)).2.1, sg P len (i + 1) - 48, (rN P len (i + 1 + 2)).2.2) by unfold rB; rw [e1, if_pos rfl, if_pos e2]), e3, if_pos rfl, if_neg e4]
            rw [er]
            refine r_aload_n dX1_readOrder_89 0 rfl ?_
            refine r_callVi (As := []) c_X1_readTroop (by first | assumption | rfl) l_X1_43 rfl rfl rfl (Nat.le_of_ble_eq_true rfl) dX1_readOrder_90 hrt (fun r90 u90 q90 => ?_)
            obtain ⟨hr1, p1, f1, k1, v1⟩ := q90
            cases hr1
            refine r_if_eq dX1_readOrder_93 (tgt := 123) (by decide) (fun h93 => ?_) (fun h93 => ?_)
            · --t
              exact absurd h93 (by decide)
            · --f
              refine r_aload_n dX1_readOrder_96 0 rfl ?_
              refine r_bipush dX1_readOrder_97 (v := 46) (by decide +kernel) ?_
              refine r_callVi (As := [_]) c_X1_readSign (by first | assumption | rfl) l_X1_28 rfl rfl rfl (Nat.le_of_ble_eq_true rfl) dX1_readOrder_99 (hrs _ p1) (fun r99 u99 q99 => ?_)
              obtain ⟨hr2, p2, f2, k2⟩ := q99
              cases hr2
              refine r_if_eq dX1_readOrder_102 (tgt := 123) (by decide) (fun h102 => ?_) (fun h102 => ?_)
              · --t
                exact absurd h102 (by decide)
              · --f
                refine r_aload_n dX1_readOrder_105 0 rfl ?_
                refine r_callVi (As := []) c_X1_readNumber (by first | assumption | rfl) l_X1_40 rfl rfl rfl (Nat.le_of_ble_eq_true rfl) dX1_readOrder_106 (hrn _ p2) (fun r106 u106 q106 => ?_)
                obtain ⟨hr3, p3, f3, k3, v3⟩ := q106
                cases hr3
                refine r_if_eq dX1_readOrder_109 (tgt := 123) (by decide) (fun h109 => ?_) (fun h109 => ?_)
                · --t
                  exact absurd h109 (by decide)
                · --f
                  refine r_aload_n dX1_readOrder_112 0 rfl ?_
                  refine r_callVi (As := []) c_X1_readColour (by first | assumption | rfl) l_X1_46 rfl rfl rfl (Nat.le_of_ble_eq_true rfl) dX1_readOrder_113 (hrc _ p3) (fun r113 u113 q113 => ?_)
                  obtain ⟨hr4, p4, f4, k4, v4⟩ := q113
                  cases hr4
                  refine r_if_eq dX1_readOrder_116 (tgt := 123) (by decide) (fun h116 => ?_) (fun h116 => ?_)
                  · --t
                    refine r_iconst dX1_readOrder_123 (v := 0) rfl ?_
                    refine r_zret rfl (by first | rfl | decide) dX1_readOrder_124 ?_
                    exact ⟨rfl, p4, (((g3.tr f1).tr f2).tr f3).tr f4, fun z => absurd (show false = true from z) (by decide)⟩
                  · --f
                    exact absurd rfl h116
      · have hrs : ∀ u, PD u P len (i + 1 + 1) → _ := fun u hu => @t_X1_readSign G (d + 2) u P len (i + 1 + 1) 46 (by decide) hu
        rw [if_neg e2, decide_eq_false e2] at hrs
        have er : rO P len i = (false, i + 1 + 1, 0, 0, 0, 0) := by unfold rO; rw [if_neg (show ¬ (sg P len i = 110 ∨ sg P len i = 116) by rw [hk12_0]; decide), if_pos hk12_0, (show rB P len (i + 1) 46 = (false, i + 1 + 1, 0, 0) by unfold rB; rw [e1, if_pos rfl, if_neg e2]), if_neg (fun z => absurd (show false = true from z) (by decide))]
        rw [er]
        refine r_aload_n dX1_readOrder_89 0 rfl ?_
        refine r_callVi (As := []) c_X1_readTroop (by first | assumption | rfl) l_X1_43 rfl rfl rfl (Nat.le_of_ble_eq_true rfl) dX1_readOrder_90 hrt (fun r90 u90 q90 => ?_)
        obtain ⟨hr1, p1, f1, k1, v1⟩ := q90
        cases hr1
        refine r_if_eq dX1_readOrder_93 (tgt := 123) (by decide) (fun h93 => ?_) (fun h93 => ?_)
        · --t
          exact absurd h93 (by decide)
        · --f
          refine r_aload_n dX1_readOrder_96 0 rfl ?_
          refine r_bipush dX1_readOrder_97 (v := 46) (by decide +kernel) ?_
          refine r_callVi (As := [_]) c_X1_readSign (by first | assumption | rfl) l_X1_28 rfl rfl rfl (Nat.le_of_ble_eq_true rfl) dX1_readOrder_99 (hrs _ p1) (fun r99 u99 q99 => ?_)
          obtain ⟨hr2, p2, f2, k2⟩ := q99
          cases hr2
          refine r_if_eq dX1_readOrder_102 (tgt := 123) (by decide) (fun h102 => ?_) (fun h102 => ?_)
          · --t
            refine r_iconst dX1_readOrder_123 (v := 0) rfl ?_
            refine r_zret rfl (by first | rfl | decide) dX1_readOrder_124 ?_
            exact ⟨rfl, p2, (g3.tr f1).tr f2, fun z => absurd (show false = true from z) (by decide)⟩
          · --f
            exact absurd rfl h102
  by_cases hk12_1 : sg P len i = 108
  · --key 108
    rw [hk12_1]
    refine r_lookup (off := 113) (tgt := 125) dX1_readOrder_12 (by decide) (by decide) (by decide) ?_
    refine r_aload_n dX1_readOrder_125 0 rfl ?_
    refine r_dup dX1_readOrder_126 rfl ?_
    refine r_getI (by first | assumption | rfl) f_X1_21 rfl rfl dX1_readOrder_127 ?_
    refine r_iconst dX1_readOrder_130 (v := 1) rfl ?_
    refine r_iadd dX1_readOrder_131 ?_
    refine r_putI (by first | assumption | rfl) f_X1_21 rfl rfl rfl rfl dX1_readOrder_132 ?_
    refine at_gen (fun w2 hw2 => ?_)
    have g2 : PD w2 P len (i + 1) := by rw [hw2]; exact g1.at (m := i + 1) (by rw [g1.1.2.2.1, nI_1]) (sg_lt (P := P) (by rw [hk12_1]; decide))
    have g3 : FP S w2 := by rw [hw2]; exact gF.up
    have g4 : w2 185 3 = 108 := by rw [hw2]; simp only [up1_s, upd, Nat.reduceEqDiff, reduceIte]; rw [gk, hk12_1]
    clear hw2
    have hrt := @t_X1_readTroop G (d + 1) w2 P len (i + 1) g2
    cases e1 : dgt (sg P len (i + 1))
    · rw [e1, if_neg (by decide)] at hrt
      have er : rO P len i = (false, i + 1, 108, 0, 0, 0) := by unfold rO; rw [if_neg (show ¬ (sg P len i = 110 ∨ sg P len i = 116) by rw [hk12_1]; decide), if_neg (show ¬ sg P len i = 99 by rw [hk12_1]; decide), if_pos hk12_1, (show rB P len (i + 1) 46 = (false, i + 1, 0, 0) by unfold rB; rw [e1]; rfl)]
      rw [er]
      refine r_aload_n dX1_readOrder_135 0 rfl ?_
      refine r_callVi (As := []) c_X1_readTroop (by first | assumption | rfl) l_X1_43 rfl rfl rfl (Nat.le_of_ble_eq_true rfl) dX1_readOrder_136 hrt (fun r136 u136 q136 => ?_)
      obtain ⟨hr1, p1, f1, k1, v1⟩ := q136
      cases hr1
      refine r_if_eq dX1_readOrder_139 (tgt := 162) (by decide) (fun h139 => ?_) (fun h139 => ?_)
      · --t
        refine r_iconst dX1_readOrder_162 (v := 0) rfl ?_
        refine r_zret rfl (by first | rfl | decide) dX1_readOrder_163 ?_
        exact ⟨rfl, p1, g3.tr f1, fun z => absurd (show false = true from z) (by decide)⟩
      · --f
        exact absurd rfl h139
    · rw [e1, if_pos rfl] at hrt
      by_cases e2 : sg P len (i + 1 + 1) = 46
      · have hrs : ∀ u, PD u P len (i + 1 + 1) → _ := fun u hu => @t_X1_readSign G (d + 2) u P len (i + 1 + 1) 46 (by decide) hu
        rw [if_pos e2, decide_eq_true e2] at hrs
        have hrn : ∀ u, PD u P len (i + 1 + 2) → _ := fun u hu => @t_X1_readNumber G (d + 1) u P len (i + 1 + 2) hu
        cases e3 : (rN P len (i + 1 + 2)).1
        · rw [e3] at hrn
          have er : rO P len i = (false, (rN P len (i + 1 + 2)).2.1, 108, sg P len (i + 1) - 48, (rN P len (i + 1 + 2)).2.2, 0) := by unfold rO; rw [if_neg (show ¬ (sg P len i = 110 ∨ sg P len i = 116) by rw [hk12_1]; decide), if_neg (show ¬ sg P len i = 99 by rw [hk12_1]; decide), if_pos hk12_1, (show rB P len (i + 1) 46 = ((rN P len (i + 1 + 2)).1, (rN P len (i + 1 + 2)).2.1, sg P len (i + 1) - 48, (rN P len (i + 1 + 2)).2.2) by unfold rB; rw [e1, if_pos rfl, if_pos e2]), e3]
          rw [er]
          refine r_aload_n dX1_readOrder_135 0 rfl ?_
          refine r_callVi (As := []) c_X1_readTroop (by first | assumption | rfl) l_X1_43 rfl rfl rfl (Nat.le_of_ble_eq_true rfl) dX1_readOrder_136 hrt (fun r136 u136 q136 => ?_)
          obtain ⟨hr1, p1, f1, k1, v1⟩ := q136
          cases hr1
          refine r_if_eq dX1_readOrder_139 (tgt := 162) (by decide) (fun h139 => ?_) (fun h139 => ?_)
          · --t
            exact absurd h139 (by decide)
          · --f
            refine r_aload_n dX1_readOrder_142 0 rfl ?_
            refine r_bipush dX1_readOrder_143 (v := 46) (by decide +kernel) ?_
            refine r_callVi (As := [_]) c_X1_readSign (by first | assumption | rfl) l_X1_28 rfl rfl rfl (Nat.le_of_ble_eq_true rfl) dX1_readOrder_145 (hrs _ p1) (fun r145 u145 q145 => ?_)
            obtain ⟨hr2, p2, f2, k2⟩ := q145
            cases hr2
            refine r_if_eq dX1_readOrder_148 (tgt := 162) (by decide) (fun h148 => ?_) (fun h148 => ?_)
            · --t
              exact absurd h148 (by decide)
            · --f
              refine r_aload_n dX1_readOrder_151 0 rfl ?_
              refine r_callVi (As := []) c_X1_readNumber (by first | assumption | rfl) l_X1_40 rfl rfl rfl (Nat.le_of_ble_eq_true rfl) dX1_readOrder_152 (hrn _ p2) (fun r152 u152 q152 => ?_)
              obtain ⟨hr3, p3, f3, k3, v3⟩ := q152
              cases hr3
              refine r_if_eq dX1_readOrder_155 (tgt := 162) (by decide) (fun h155 => ?_) (fun h155 => ?_)
              · --t
                refine r_iconst dX1_readOrder_162 (v := 0) rfl ?_
                refine r_zret rfl (by first | rfl | decide) dX1_readOrder_163 ?_
                exact ⟨rfl, p3, ((g3.tr f1).tr f2).tr f3, fun z => absurd (show false = true from z) (by decide)⟩
              · --f
                exact absurd rfl h155
        · rw [e3] at hrn
          have er : rO P len i = (true, (rN P len (i + 1 + 2)).2.1, 108, sg P len (i + 1) - 48, (rN P len (i + 1 + 2)).2.2, 0) := by unfold rO; rw [if_neg (show ¬ (sg P len i = 110 ∨ sg P len i = 116) by rw [hk12_1]; decide), if_neg (show ¬ sg P len i = 99 by rw [hk12_1]; decide), if_pos hk12_1, (show rB P len (i + 1) 46 = ((rN P len (i + 1 + 2)).1, (rN P len (i + 1 + 2)).2.1, sg P len (i + 1) - 48, (rN P len (i + 1 + 2)).2.2) by unfold rB; rw [e1, if_pos rfl, if_pos e2]), e3]
          rw [er]
          refine r_aload_n dX1_readOrder_135 0 rfl ?_
          refine r_callVi (As := []) c_X1_readTroop (by first | assumption | rfl) l_X1_43 rfl rfl rfl (Nat.le_of_ble_eq_true rfl) dX1_readOrder_136 hrt (fun r136 u136 q136 => ?_)
          obtain ⟨hr1, p1, f1, k1, v1⟩ := q136
          cases hr1
          refine r_if_eq dX1_readOrder_139 (tgt := 162) (by decide) (fun h139 => ?_) (fun h139 => ?_)
          · --t
            exact absurd h139 (by decide)
          · --f
            refine r_aload_n dX1_readOrder_142 0 rfl ?_
            refine r_bipush dX1_readOrder_143 (v := 46) (by decide +kernel) ?_
            refine r_callVi (As := [_]) c_X1_readSign (by first | assumption | rfl) l_X1_28 rfl rfl rfl (Nat.le_of_ble_eq_true rfl) dX1_readOrder_145 (hrs _ p1) (fun r145 u145 q145 => ?_)
            obtain ⟨hr2, p2, f2, k2⟩ := q145
            cases hr2
            refine r_if_eq dX1_readOrder_148 (tgt := 162) (by decide) (fun h148 => ?_) (fun h148 => ?_)
            · --t
              exact absurd h148 (by decide)
            · --f
              refine r_aload_n dX1_readOrder_151 0 rfl ?_
              refine r_callVi (As := []) c_X1_readNumber (by first | assumption | rfl) l_X1_40 rfl rfl rfl (Nat.le_of_ble_eq_true rfl) dX1_readOrder_152 (hrn _ p2) (fun r152 u152 q152 => ?_)
              obtain ⟨hr3, p3, f3, k3, v3⟩ := q152
              cases hr3
              refine r_if_eq dX1_readOrder_155 (tgt := 162) (by decide) (fun h155 => ?_) (fun h155 => ?_)
              · --t
                exact absurd h155 (by decide)
              · --f
                refine r_iconst dX1_readOrder_158 (v := 1) rfl ?_
                refine r_goto dX1_readOrder_159 (tgt := 163) (by decide) ?_
                refine r_zret rfl (by first | rfl | decide) dX1_readOrder_163 ?_
                refine ⟨rfl, p3, ((g3.tr f1).tr f2).tr f3, fun _ => ⟨?_, fun _ => ?_, v3 rfl, fun z => absurd (show (108 : Int32) = 99 from z) (by decide)⟩⟩
                · rw [k3 3 (by decide) (by decide), k2 3 (by decide), k1 3 (by decide) (by decide)]; exact g4
                · rw [k3 4 (by decide) (by decide), k2 4 (by decide)]; exact v1 rfl
      · have hrs : ∀ u, PD u P len (i + 1 + 1) → _ := fun u hu => @t_X1_readSign G (d + 2) u P len (i + 1 + 1) 46 (by decide) hu
        rw [if_neg e2, decide_eq_false e2] at hrs
        have er : rO P len i = (false, i + 1 + 1, 108, 0, 0, 0) := by unfold rO; rw [if_neg (show ¬ (sg P len i = 110 ∨ sg P len i = 116) by rw [hk12_1]; decide), if_neg (show ¬ sg P len i = 99 by rw [hk12_1]; decide), if_pos hk12_1, (show rB P len (i + 1) 46 = (false, i + 1 + 1, 0, 0) by unfold rB; rw [e1, if_pos rfl, if_neg e2])]
        rw [er]
        refine r_aload_n dX1_readOrder_135 0 rfl ?_
        refine r_callVi (As := []) c_X1_readTroop (by first | assumption | rfl) l_X1_43 rfl rfl rfl (Nat.le_of_ble_eq_true rfl) dX1_readOrder_136 hrt (fun r136 u136 q136 => ?_)
        obtain ⟨hr1, p1, f1, k1, v1⟩ := q136
        cases hr1
        refine r_if_eq dX1_readOrder_139 (tgt := 162) (by decide) (fun h139 => ?_) (fun h139 => ?_)
        · --t
          exact absurd h139 (by decide)
        · --f
          refine r_aload_n dX1_readOrder_142 0 rfl ?_
          refine r_bipush dX1_readOrder_143 (v := 46) (by decide +kernel) ?_
          refine r_callVi (As := [_]) c_X1_readSign (by first | assumption | rfl) l_X1_28 rfl rfl rfl (Nat.le_of_ble_eq_true rfl) dX1_readOrder_145 (hrs _ p1) (fun r145 u145 q145 => ?_)
          obtain ⟨hr2, p2, f2, k2⟩ := q145
          cases hr2
          refine r_if_eq dX1_readOrder_148 (tgt := 162) (by decide) (fun h148 => ?_) (fun h148 => ?_)
          · --t
            refine r_iconst dX1_readOrder_162 (v := 0) rfl ?_
            refine r_zret rfl (by first | rfl | decide) dX1_readOrder_163 ?_
            exact ⟨rfl, p2, (g3.tr f1).tr f2, fun z => absurd (show false = true from z) (by decide)⟩
          · --f
            exact absurd rfl h148
  by_cases hk12_2 : sg P len i = 110
  · --key 110
    rw [hk12_2]
    refine r_lookup (off := 52) (tgt := 64) dX1_readOrder_12 (by decide) (by decide) (by decide) ?_
    refine r_aload_n dX1_readOrder_64 0 rfl ?_
    refine r_dup dX1_readOrder_65 rfl ?_
    refine r_getI (by first | assumption | rfl) f_X1_21 rfl rfl dX1_readOrder_66 ?_
    refine r_iconst dX1_readOrder_69 (v := 1) rfl ?_
    refine r_iadd dX1_readOrder_70 ?_
    refine r_putI (by first | assumption | rfl) f_X1_21 rfl rfl rfl rfl dX1_readOrder_71 ?_
    refine at_gen (fun w2 hw2 => ?_)
    have g2 : PD w2 P len (i + 1) := by rw [hw2]; exact g1.at (m := i + 1) (by rw [g1.1.2.2.1, nI_1]) (sg_lt (P := P) (by rw [hk12_2]; decide))
    have g3 : FP S w2 := by rw [hw2]; exact gF.up
    have g4 : w2 185 3 = 110 := by rw [hw2]; simp only [up1_s, upd, Nat.reduceEqDiff, reduceIte]; rw [gk, hk12_2]
    clear hw2
    have hor : sg P len i = 110 ∨ sg P len i = 116 := by rw [hk12_2]; decide
    have hrn := @t_X1_readNumber G (d + 1) w2 P len (i + 1) g2
    have er : rO P len i = ((rN P len (i + 1)).1, (rN P len (i + 1)).2.1, sg P len i, 0, (rN P len (i + 1)).2.2, 0) := by unfold rO; rw [if_pos hor]
    rw [er]
    refine r_aload_n dX1_readOrder_74 0 rfl ?_
    refine r_callVi (As := []) c_X1_readNumber (by first | assumption | rfl) l_X1_40 rfl rfl rfl (Nat.le_of_ble_eq_true rfl) dX1_readOrder_75 hrn (fun r75 u75 q75 => ?_)
    obtain ⟨hr3, p3, f3, k3, v3⟩ := q75
    cases hr3
    refine r_zret rfl (bI_nar _) dX1_readOrder_78 ?_
    refine ⟨rfl, p3, g3.tr f3, fun z => ⟨?_, fun y => absurd (show sg P len i = 110 ∨ sg P len i = 116 from hor) y, v3 z, fun y => absurd (show sg P len i = 99 from y) (by rw [hk12_2]; decide)⟩⟩
    rw [k3 3 (by decide) (by decide)]; exact g4.trans hk12_2.symm
  by_cases hk12_3 : sg P len i = 115
  · --key 115
    rw [hk12_3]
    refine r_lookup (off := 152) (tgt := 164) dX1_readOrder_12 (by decide) (by decide) (by decide) ?_
    refine r_aload_n dX1_readOrder_164 0 rfl ?_
    refine r_dup dX1_readOrder_165 rfl ?_
    refine r_getI (by first | assumption | rfl) f_X1_21 rfl rfl dX1_readOrder_166 ?_
    refine r_iconst dX1_readOrder_169 (v := 1) rfl ?_
    refine r_iadd dX1_readOrder_170 ?_
    refine r_putI (by first | assumption | rfl) f_X1_21 rfl rfl rfl rfl dX1_readOrder_171 ?_
    refine at_gen (fun w2 hw2 => ?_)
    have g2 : PD w2 P len (i + 1) := by rw [hw2]; exact g1.at (m := i + 1) (by rw [g1.1.2.2.1, nI_1]) (sg_lt (P := P) (by rw [hk12_3]; decide))
    have g3 : FP S w2 := by rw [hw2]; exact gF.up
    have g4 : w2 185 3 = 115 := by rw [hw2]; simp only [up1_s, upd, Nat.reduceEqDiff, reduceIte]; rw [gk, hk12_3]
    clear hw2
    have hrt := @t_X1_readTroop G (d + 1) w2 P len (i + 1) g2
    cases e1 : dgt (sg P len (i + 1))
    · rw [e1, if_neg (by decide)] at hrt
      have er : rO P len i = (false, i + 1, 115, 0, 0, 0) := by unfold rO; rw [if_neg (show ¬ (sg P len i = 110 ∨ sg P len i = 116) by rw [hk12_3]; decide), if_neg (show ¬ sg P len i = 99 by rw [hk12_3]; decide), if_neg (show ¬ sg P len i = 108 by rw [hk12_3]; decide), if_pos hk12_3, (show rB P len (i + 1) 61 = (false, i + 1, 0, 0) by unfold rB; rw [e1]; rfl)]
      rw [er]
      refine r_aload_n dX1_readOrder_174 0 rfl ?_
      refine r_callVi (As := []) c_X1_readTroop (by first | assumption | rfl) l_X1_43 rfl rfl rfl (Nat.le_of_ble_eq_true rfl) dX1_readOrder_175 hrt (fun r175 u175 q175 => ?_)
      obtain ⟨hr1, p1, f1, k1, v1⟩ := q175
      cases hr1
      refine r_if_eq dX1_readOrder_178 (tgt := 201) (by decide) (fun h178 => ?_) (fun h178 => ?_)
      · --t
        refine r_iconst dX1_readOrder_201 (v := 0) rfl ?_
        refine r_zret rfl (by first | rfl | decide) dX1_readOrder_202 ?_
        exact ⟨rfl, p1, g3.tr f1, fun z => absurd (show false = true from z) (by decide)⟩
      · --f
        exact absurd rfl h178
    · rw [e1, if_pos rfl] at hrt
      by_cases e2 : sg P len (i + 1 + 1) = 61
      · have hrs : ∀ u, PD u P len (i + 1 + 1) → _ := fun u hu => @t_X1_readSign G (d + 2) u P len (i + 1 + 1) 61 (by decide) hu
        rw [if_pos e2, decide_eq_true e2] at hrs
        have hrn : ∀ u, PD u P len (i + 1 + 2) → _ := fun u hu => @t_X1_readNumber G (d + 1) u P len (i + 1 + 2) hu
        cases e3 : (rN P len (i + 1 + 2)).1
        · rw [e3] at hrn
          have er : rO P len i = (false, (rN P len (i + 1 + 2)).2.1, 115, sg P len (i + 1) - 48, (rN P len (i + 1 + 2)).2.2, 0) := by unfold rO; rw [if_neg (show ¬ (sg P len i = 110 ∨ sg P len i = 116) by rw [hk12_3]; decide), if_neg (show ¬ sg P len i = 99 by rw [hk12_3]; decide), if_neg (show ¬ sg P len i = 108 by rw [hk12_3]; decide), if_pos hk12_3, (show rB P len (i + 1) 61 = ((rN P len (i + 1 + 2)).1, (rN P len (i + 1 + 2)).2.1, sg P len (i + 1) - 48, (rN P len (i + 1 + 2)).2.2) by unfold rB; rw [e1, if_pos rfl, if_pos e2]), e3]
          rw [er]
          refine r_aload_n dX1_readOrder_174 0 rfl ?_
          refine r_callVi (As := []) c_X1_readTroop (by first | assumption | rfl) l_X1_43 rfl rfl rfl (Nat.le_of_ble_eq_true rfl) dX1_readOrder_175 hrt (fun r175 u175 q175 => ?_)
          obtain ⟨hr1, p1, f1, k1, v1⟩ := q175
          cases hr1
          refine r_if_eq dX1_readOrder_178 (tgt := 201) (by decide) (fun h178 => ?_) (fun h178 => ?_)
          · --t
            exact absurd h178 (by decide)
          · --f
            refine r_aload_n dX1_readOrder_181 0 rfl ?_
            refine r_bipush dX1_readOrder_182 (v := 61) (by decide +kernel) ?_
            refine r_callVi (As := [_]) c_X1_readSign (by first | assumption | rfl) l_X1_28 rfl rfl rfl (Nat.le_of_ble_eq_true rfl) dX1_readOrder_184 (hrs _ p1) (fun r184 u184 q184 => ?_)
            obtain ⟨hr2, p2, f2, k2⟩ := q184
            cases hr2
            refine r_if_eq dX1_readOrder_187 (tgt := 201) (by decide) (fun h187 => ?_) (fun h187 => ?_)
            · --t
              exact absurd h187 (by decide)
            · --f
              refine r_aload_n dX1_readOrder_190 0 rfl ?_
              refine r_callVi (As := []) c_X1_readNumber (by first | assumption | rfl) l_X1_40 rfl rfl rfl (Nat.le_of_ble_eq_true rfl) dX1_readOrder_191 (hrn _ p2) (fun r191 u191 q191 => ?_)
              obtain ⟨hr3, p3, f3, k3, v3⟩ := q191
              cases hr3
              refine r_if_eq dX1_readOrder_194 (tgt := 201) (by decide) (fun h194 => ?_) (fun h194 => ?_)
              · --t
                refine r_iconst dX1_readOrder_201 (v := 0) rfl ?_
                refine r_zret rfl (by first | rfl | decide) dX1_readOrder_202 ?_
                exact ⟨rfl, p3, ((g3.tr f1).tr f2).tr f3, fun z => absurd (show false = true from z) (by decide)⟩
              · --f
                exact absurd rfl h194
        · rw [e3] at hrn
          have er : rO P len i = (true, (rN P len (i + 1 + 2)).2.1, 115, sg P len (i + 1) - 48, (rN P len (i + 1 + 2)).2.2, 0) := by unfold rO; rw [if_neg (show ¬ (sg P len i = 110 ∨ sg P len i = 116) by rw [hk12_3]; decide), if_neg (show ¬ sg P len i = 99 by rw [hk12_3]; decide), if_neg (show ¬ sg P len i = 108 by rw [hk12_3]; decide), if_pos hk12_3, (show rB P len (i + 1) 61 = ((rN P len (i + 1 + 2)).1, (rN P len (i + 1 + 2)).2.1, sg P len (i + 1) - 48, (rN P len (i + 1 + 2)).2.2) by unfold rB; rw [e1, if_pos rfl, if_pos e2]), e3]
          rw [er]
          refine r_aload_n dX1_readOrder_174 0 rfl ?_
          refine r_callVi (As := []) c_X1_readTroop (by first | assumption | rfl) l_X1_43 rfl rfl rfl (Nat.le_of_ble_eq_true rfl) dX1_readOrder_175 hrt (fun r175 u175 q175 => ?_)
          obtain ⟨hr1, p1, f1, k1, v1⟩ := q175
          cases hr1
          refine r_if_eq dX1_readOrder_178 (tgt := 201) (by decide) (fun h178 => ?_) (fun h178 => ?_)
          · --t
            exact absurd h178 (by decide)
          · --f
            refine r_aload_n dX1_readOrder_181 0 rfl ?_
            refine r_bipush dX1_readOrder_182 (v := 61) (by decide +kernel) ?_
            refine r_callVi (As := [_]) c_X1_readSign (by first | assumption | rfl) l_X1_28 rfl rfl rfl (Nat.le_of_ble_eq_true rfl) dX1_readOrder_184 (hrs _ p1) (fun r184 u184 q184 => ?_)
            obtain ⟨hr2, p2, f2, k2⟩ := q184
            cases hr2
            refine r_if_eq dX1_readOrder_187 (tgt := 201) (by decide) (fun h187 => ?_) (fun h187 => ?_)
            · --t
              exact absurd h187 (by decide)
            · --f
              refine r_aload_n dX1_readOrder_190 0 rfl ?_
              refine r_callVi (As := []) c_X1_readNumber (by first | assumption | rfl) l_X1_40 rfl rfl rfl (Nat.le_of_ble_eq_true rfl) dX1_readOrder_191 (hrn _ p2) (fun r191 u191 q191 => ?_)
              obtain ⟨hr3, p3, f3, k3, v3⟩ := q191
              cases hr3
              refine r_if_eq dX1_readOrder_194 (tgt := 201) (by decide) (fun h194 => ?_) (fun h194 => ?_)
              · --t
                exact absurd h194 (by decide)
              · --f
                refine r_iconst dX1_readOrder_197 (v := 1) rfl ?_
                refine r_goto dX1_readOrder_198 (tgt := 202) (by decide) ?_
                refine r_zret rfl (by first | rfl | decide) dX1_readOrder_202 ?_
                refine ⟨rfl, p3, ((g3.tr f1).tr f2).tr f3, fun _ => ⟨?_, fun _ => ?_, v3 rfl, fun z => absurd (show (115 : Int32) = 99 from z) (by decide)⟩⟩
                · rw [k3 3 (by decide) (by decide), k2 3 (by decide), k1 3 (by decide) (by decide)]; exact g4
                · rw [k3 4 (by decide) (by decide), k2 4 (by decide)]; exact v1 rfl
      · have hrs : ∀ u, PD u P len (i + 1 + 1) → _ := fun u hu => @t_X1_readSign G (d + 2) u P len (i + 1 + 1) 61 (by decide) hu
        rw [if_neg e2, decide_eq_false e2] at hrs
        have er : rO P len i = (false, i + 1 + 1, 115, 0, 0, 0) := by unfold rO; rw [if_neg (show ¬ (sg P len i = 110 ∨ sg P len i = 116) by rw [hk12_3]; decide), if_neg (show ¬ sg P len i = 99 by rw [hk12_3]; decide), if_neg (show ¬ sg P len i = 108 by rw [hk12_3]; decide), if_pos hk12_3, (show rB P len (i + 1) 61 = (false, i + 1 + 1, 0, 0) by unfold rB; rw [e1, if_pos rfl, if_neg e2])]
        rw [er]
        refine r_aload_n dX1_readOrder_174 0 rfl ?_
        refine r_callVi (As := []) c_X1_readTroop (by first | assumption | rfl) l_X1_43 rfl rfl rfl (Nat.le_of_ble_eq_true rfl) dX1_readOrder_175 hrt (fun r175 u175 q175 => ?_)
        obtain ⟨hr1, p1, f1, k1, v1⟩ := q175
        cases hr1
        refine r_if_eq dX1_readOrder_178 (tgt := 201) (by decide) (fun h178 => ?_) (fun h178 => ?_)
        · --t
          exact absurd h178 (by decide)
        · --f
          refine r_aload_n dX1_readOrder_181 0 rfl ?_
          refine r_bipush dX1_readOrder_182 (v := 61) (by decide +kernel) ?_
          refine r_callVi (As := [_]) c_X1_readSign (by first | assumption | rfl) l_X1_28 rfl rfl rfl (Nat.le_of_ble_eq_true rfl) dX1_readOrder_184 (hrs _ p1) (fun r184 u184 q184 => ?_)
          obtain ⟨hr2, p2, f2, k2⟩ := q184
          cases hr2
          refine r_if_eq dX1_readOrder_187 (tgt := 201) (by decide) (fun h187 => ?_) (fun h187 => ?_)
          · --t
            refine r_iconst dX1_readOrder_201 (v := 0) rfl ?_
            refine r_zret rfl (by first | rfl | decide) dX1_readOrder_202 ?_
            exact ⟨rfl, p2, (g3.tr f1).tr f2, fun z => absurd (show false = true from z) (by decide)⟩
          · --f
            exact absurd rfl h187
  by_cases hk12_4 : sg P len i = 116
  · --key 116
    rw [hk12_4]
    refine r_lookup (off := 52) (tgt := 64) dX1_readOrder_12 (by decide) (by decide) (by decide) ?_
    refine r_aload_n dX1_readOrder_64 0 rfl ?_
    refine r_dup dX1_readOrder_65 rfl ?_
    refine r_getI (by first | assumption | rfl) f_X1_21 rfl rfl dX1_readOrder_66 ?_
    refine r_iconst dX1_readOrder_69 (v := 1) rfl ?_
    refine r_iadd dX1_readOrder_70 ?_
    refine r_putI (by first | assumption | rfl) f_X1_21 rfl rfl rfl rfl dX1_readOrder_71 ?_
    refine at_gen (fun w2 hw2 => ?_)
    have g2 : PD w2 P len (i + 1) := by rw [hw2]; exact g1.at (m := i + 1) (by rw [g1.1.2.2.1, nI_1]) (sg_lt (P := P) (by rw [hk12_4]; decide))
    have g3 : FP S w2 := by rw [hw2]; exact gF.up
    have g4 : w2 185 3 = 116 := by rw [hw2]; simp only [up1_s, upd, Nat.reduceEqDiff, reduceIte]; rw [gk, hk12_4]
    clear hw2
    have hor : sg P len i = 110 ∨ sg P len i = 116 := by rw [hk12_4]; decide
    have hrn := @t_X1_readNumber G (d + 1) w2 P len (i + 1) g2
    have er : rO P len i = ((rN P len (i + 1)).1, (rN P len (i + 1)).2.1, sg P len i, 0, (rN P len (i + 1)).2.2, 0) := by unfold rO; rw [if_pos hor]
    rw [er]
    refine r_aload_n dX1_readOrder_74 0 rfl ?_
    refine r_callVi (As := []) c_X1_readNumber (by first | assumption | rfl) l_X1_40 rfl rfl rfl (Nat.le_of_ble_eq_true rfl) dX1_readOrder_75 hrn (fun r75 u75 q75 => ?_)
    obtain ⟨hr3, p3, f3, k3, v3⟩ := q75
    cases hr3
    refine r_zret rfl (bI_nar _) dX1_readOrder_78 ?_
    refine ⟨rfl, p3, g3.tr f3, fun z => ⟨?_, fun y => absurd (show sg P len i = 110 ∨ sg P len i = 116 from hor) y, v3 z, fun y => absurd (show sg P len i = 99 from y) (by rw [hk12_4]; decide)⟩⟩
    rw [k3 3 (by decide) (by decide)]; exact g4.trans hk12_4.symm
  refine r_lookup (off := 191) (tgt := 203) dX1_readOrder_12 (by decide) (show Op.lookupswitch.offset [(99, 67), (108, 113), (110, 52), (115, 152), (116, 52)] 191 _ = 191 by rw [lv_osw hk12_0 (by decide), lv_osw hk12_1 (by decide), lv_osw hk12_2 (by decide), lv_osw hk12_3 (by decide), lv_osw hk12_4 (by decide)]; rfl) (by decide) ?_
  refine r_iconst dX1_readOrder_203 (v := 0) rfl ?_
  refine r_zret rfl (by first | rfl | decide) dX1_readOrder_204 ?_
  have er : rO P len i = (false, i, 0, 0, 0, 0) := by unfold rO; rw [if_neg (show ¬ (sg P len i = 110 ∨ sg P len i = 116) from fun z => z.elim hk12_2 hk12_4), if_neg hk12_0, if_neg hk12_1, if_neg hk12_3]
  rw [er]
  exact ⟨rfl, g1, gF, fun z => absurd (show false = true from z) (by decide)⟩
end PADO
end
section
/-! the pad: faults, characters -/
def fl (P : Nat → Int32) (len : Nat) : Nat → Nat → Bool × Nat
  | 0, i => (false, i)
  | f + 1, i => if (rO P len i).1 = true then (if len ≤ (rO P len i).2.1 then (true, (rO P len i).2.1) else if sg P len (rO P len i).2.1 = 59 then fl P len f ((rO P len i).2.1 + 1) else (false, (rO P len i).2.1)) else (false, (rO P len i).2.1)
def fauA (P : Nat → Int32) (len : Nat) : Int32 := if (fl P len 80 0).1 = true then -6 else nI (fl P len 80 0).2
/-- the pad as it lies between calls -/
def PB (S : mS) (P : Nat → Int32) (len : Nat) : Prop := (S 185 1 = nI len ∧ len ≤ 80) ∧ ∀ j, j < len → S 186 j = P j ∧ chr (P j)
theorem PD.pb {S : mS} {P : Nat → Int32} {len i : Nat} (h : PD S P len i) : PB S P len := ⟨⟨h.1.1, h.1.2.1⟩, h.2⟩
theorem PB.pd {S : mS} {P : Nat → Int32} {len : Nat} (h : PB S P len) : PD (up1 S 185 (upd (S 185) 2 0)) P len 0 := by
  refine ⟨?_, fun j hj => ?_⟩
  · rw [up1_s, upd, upd, if_neg (by omega), if_pos rfl]; exact ⟨h.1.1, h.1.2, rfl, Nat.zero_le _⟩
  · rw [up1_n (by omega)]; exact h.2 j hj
theorem PB.off {S u : mS} {P : Nat → Int32} {len : Nat} (h : PB S P len) (h1 : u 185 = S 185) (h2 : u 186 = S 186) : PB u P len := by
  unfold PB; rw [h1, h2]; exact h
def shN (x : Int64) : Nat → Int64
  | 0 => x
  | k + 1 => ((shN x k).toUInt64 >>> ((8 : Int32).toInt64.toUInt64 &&& Int64.toUInt64 63)).toInt64
def cdN (x : Int64) (k : Nat) : Int32 := (shN x k &&& 255).toInt32
def chN (x : Int64) : Nat → Nat → Nat
  | 0, k => k
  | f + 1, k => if shN x k = 0 then k else if cdN x k < 33 ∨ 126 < cdN x k then 0 else chN x f (k + 1)
theorem chN_le (x : Int64) : ∀ f k, chN x f k ≤ f + k := by
  intro f
  induction f with
  | zero => intro k; exact Nat.le_of_eq (by simp [chN])
  | succ f ih =>
    intro k
    unfold chN
    split
    · omega
    · split
      · omega
      · have := ih (k + 1); omega
theorem chN_ok (x : Int64) : ∀ f k, (∀ j, j < k → ¬ (cdN x j < 33 ∨ 126 < cdN x j)) → ∀ j, j < chN x f k → ¬ (cdN x j < 33 ∨ 126 < cdN x j) := by
  intro f
  induction f with
  | zero => intro k h; exact h
  | succ f ih =>
    intro k h
    unfold chN
    split
    · exact h
    · split
      · intro j hj; exact absurd hj (by omega)
      · rename_i h2
        refine ih (k + 1) (fun j hj => ?_)
        by_cases e : j = k
        · subst e; exact h2
        · exact h j (by omega)
theorem chr_of {x : Int32} (h : ¬ (x < 33 ∨ 126 < x)) : chr x := by
  have a1 : ¬ x < 33 := fun z => h (Or.inl z)
  have a2 : ¬ 126 < x := fun z => h (Or.inr z)
  have a0 : ¬ x < 0 := by
    intro z
    rw [Int32.lt_iff_toInt_lt] at z a1
    have e0 : (0 : Int32).toInt = 0 := by decide
    have e3 : (33 : Int32).toInt = 33 := by decide
    omega
  obtain ⟨j, hj, rfl⟩ := nI_of a0
  rw [show (33 : Int32) = nI 33 from rfl, nI_ltI hj (by omega)] at a1
  rw [show (126 : Int32) = nI 126 from rfl, nI_ltI (by omega) hj] at a2
  exact ⟨j, rfl, by omega, by omega⟩
theorem chr_cast {x : Int32} (h : chr x) : (x.toUInt32 % 65536).toInt32 = x ∧ vp_nar .char x = x := by
  obtain ⟨c, rfl, h1, h2⟩ := h
  refine ⟨?_, ?_⟩
  · rw [pk_char]
    have e : (nI c).toBitVec.toNat = c := pk_tn (by omega)
    rw [e, Nat.mod_eq_of_lt (by omega)]
  · unfold vp_nar
    rw [(pk_charN (q := c) (by omega)).1]
def apP (P : Nat → Int32) (len m : Nat) (x : Int64) : Nat → Int32 := fun j => if j < len then P j else cdN x (len + m - 1 - j)
theorem lcmp0 (x : Int64) : lg_cmp x 0 = 0 ↔ x = 0 := by
  unfold lg_cmp
  by_cases h : x = 0
  · subst h; decide
  · by_cases h2 : x > 0
    · rw [if_pos h2]; exact ⟨fun z => absurd z (by decide), fun z => absurd z h⟩
    · rw [if_neg h2, if_neg h]; exact ⟨fun z => absurd z (by decide), fun z => absurd z h⟩
section PADC
variable {G : mG} {d : Nat} {S : mS} {P : Nat → Int32} {len i : Nat}
theorem lp_X1_faultAt {S0 : mS} {Q : Option Int32 → mS → Prop} : ∀ f o i S, f + o = 80 → 3 * o ≤ i → PD S P len i → FP S0 S → (∀ u, PB u P len → FP S0 u → Q (some (if (fl P len f i).1 = true then -6 else nI (fl P len f i).2)) u) → At G (d + 5) M_X1_faultAt Q 7 [(0, rv G 185), (1, .int (nI o))] [] S := by
  intro f
  induction f with
  | zero =>
    intro o i S ho hi hP hF hQ
    have := hP.1.2.1
    have := hP.1.2.2.2
    omega
  | succ f ih =>
    intro o i S ho hi hP hF hQ
    have ho80 : o < 80 := by omega
    have hro := rO_le (P := P) hP.1.2.2.2
    refine r_iload_n dX1_faultAt_7 1 rfl ?_
    refine r_bipush dX1_faultAt_8 (v := 80) (by decide +kernel) ?_
    refine r_icmp_ge dX1_faultAt_10 (tgt := 59) (by decide) (fun h10 => ?_) (fun h10 => ?_)
    · --t
      exact absurd h10 (nI_ge (b := 80) ho80 (by decide))
    · --f
      refine r_aload_n dX1_faultAt_13 0 rfl ?_
      refine r_callVi (As := []) c_X1_readOrder (by first | assumption | rfl) l_X1_24 rfl rfl rfl (Nat.le_of_ble_eq_true rfl) dX1_faultAt_14 (t_X1_readOrder hP) (fun r14 u14 q14 => ?_)
      obtain ⟨hr, hP2, hF2, -⟩ := q14
      cases hr
      refine r_if_ne dX1_faultAt_17 (tgt := 25) (by decide) (fun h17 => ?_) (fun h17 => ?_)
      · --t
        refine r_aload_n dX1_faultAt_25 0 rfl ?_
        refine r_getI (by first | assumption | rfl) f_X1_21 rfl rfl dX1_faultAt_26 ?_
        refine r_aload_n dX1_faultAt_29 0 rfl ?_
        refine r_getI (by first | assumption | rfl) f_X1_17 rfl rfl dX1_faultAt_30 ?_
        refine r_icmp_lt dX1_faultAt_33 (tgt := 39) (by decide) (fun h33 => ?_) (fun h33 => ?_)
        · --t
          refine r_aload_n dX1_faultAt_39 0 rfl ?_
          refine r_bipush dX1_faultAt_40 (v := 59) (by decide +kernel) ?_
          refine r_callVi (As := [_]) c_X1_readSign (by first | assumption | rfl) l_X1_28 rfl rfl rfl (Nat.le_of_ble_eq_true rfl) dX1_faultAt_42 (t_X1_readSign (by decide) hP2) (fun r42 u42 q42 => ?_)
          obtain ⟨hr, hP3, hF3, -⟩ := q42
          cases hr
          refine r_if_ne dX1_faultAt_45 (tgt := 53) (by decide) (fun h45 => ?_) (fun h45 => ?_)
          · --t
            refine r_iinc (lo2 := [(0, _), (1, _)]) dX1_faultAt_53 1 rfl (w := 1) rfl (Nat.le_of_ble_eq_true rfl) [1, 0] rfl ?_
            refine r_goto dX1_faultAt_56 (tgt := 7) (by decide) ?_
            rw [bI_n0] at h17
            rw [hP2.1.2.2.1, hP2.1.1] at h33
            have hlt : ¬ len ≤ (rO P len i).2.1 := by
              have := hP2.1.2.1
              have h9 := hP2.1.2.2.2
              rw [nI_ltI (by omega) (by omega)] at h33
              omega
            rw [bI_n0, decide_eq_true_iff] at h45
            rw [if_pos h45] at hP3
            rw [nI_1]
            refine ih (o + 1) _ _ (by omega) (by have := hro.2 h17; omega) hP3 ((hF.tr hF2).tr hF3) (fun u hu hFu => ?_)
            have z := hQ u hu hFu
            unfold fl at z
            rw [h17, if_pos rfl, if_neg hlt, if_pos h45] at z
            exact z
          · --f
            refine r_aload_n dX1_faultAt_48 0 rfl ?_
            refine r_getI (by first | assumption | rfl) f_X1_21 rfl rfl dX1_faultAt_49 ?_
            refine r_iret rfl dX1_faultAt_52 ?_
            rw [bI_n0] at h17
            rw [hP2.1.2.2.1, hP2.1.1] at h33
            have hlt : ¬ len ≤ (rO P len i).2.1 := by
              have := hP2.1.2.1
              have h9 := hP2.1.2.2.2
              rw [nI_ltI (by omega) (by omega)] at h33
              omega
            rw [bI_0, decide_eq_false_iff_not] at h45
            rw [if_neg h45] at hP3
            have z := hQ _ hP3.pb ((hF.tr hF2).tr hF3)
            unfold fl at z
            rw [h17, if_pos rfl, if_neg hlt, if_neg h45] at z
            rw [hP3.1.2.2.1]
            exact z
        · --f
          refine r_bipush dX1_faultAt_36 (v := -6) (by decide +kernel) ?_
          refine r_iret rfl dX1_faultAt_38 ?_
          rw [bI_n0] at h17
          rw [hP2.1.2.2.1, hP2.1.1] at h33
          have hge : len ≤ (rO P len i).2.1 := by
            have := hP2.1.2.1
            have h9 := hP2.1.2.2.2
            rw [nI_ltI (by omega) (by omega)] at h33
            omega
          have z := hQ _ hP2.pb (hF.tr hF2)
          unfold fl at z
          rw [h17, if_pos rfl, if_pos hge] at z
          exact z
      · --f
        refine r_aload_n dX1_faultAt_20 0 rfl ?_
        refine r_getI (by first | assumption | rfl) f_X1_21 rfl rfl dX1_faultAt_21 ?_
        refine r_iret rfl dX1_faultAt_24 ?_
        rw [bI_0] at h17
        have z := hQ _ hP2.pb (hF.tr hF2)
        unfold fl at z
        rw [h17] at z
        rw [hP2.1.2.2.1]
        exact z
theorem t_X1_faultAt (h : PB S P len) : Call G (d + 5) M_X1_faultAt [rv G 185] S (fun v u => v = some (fauA P len) ∧ PB u P len ∧ FP S u) := by
  refine call_of (lo := [(0, rv G 185)]) (by decide +kernel) (Nat.le_of_ble_eq_true rfl) rfl ?_
  refine r_aload_n dX1_faultAt_0 0 rfl ?_
  refine r_iconst dX1_faultAt_1 (v := 0) rfl ?_
  refine r_putI (by first | assumption | rfl) f_X1_21 rfl rfl rfl rfl dX1_faultAt_2 ?_
  refine r_iconst dX1_faultAt_5 (v := 0) rfl ?_
  refine r_istore_n (lo2 := [(0, _), (1, _)]) dX1_faultAt_6 rfl (Nat.le_of_ble_eq_true rfl) [1, 0] rfl ?_
  exact lp_X1_faultAt (S0 := S) 80 0 0 _ (by omega) (by omega) h.pd FP.rf.up (fun u h1 h2 => ⟨rfl, h1, h2⟩)
theorem lp_X1_charactersIn {Q : Option Int32 → mS → Prop} {x : Int64} : ∀ f k (lo5 : List (Nat × Value)), (lo5 = [] ∨ ∃ y, lo5 = [(5, .int y)]) → f + k = 8 → Q (some (nI (chN x f k))) S → At G d M_X1_charactersIn Q 5 ([(0, .long x), (2, .long (shN x k)), (4, .int (nI k))] ++ lo5) [] S := by
  intro f
  induction f with
  | zero =>
    intro k lo5 h5 hk hQ
    obtain rfl : k = 8 := by omega
    refine r_sub [0, 1, 2] (lo2 := [(0, _), (2, _), (4, _)]) rfl ?_
    refine r_iload dX1_charactersIn_5 2 rfl ?_
    refine r_bipush dX1_charactersIn_7 (v := 8) (by decide +kernel) ?_
    refine r_icmp_ge dX1_charactersIn_9 (tgt := 53) (by decide) (fun h9 => ?_) (fun h9 => ?_)
    · --t
      refine r_iload dX1_charactersIn_53 2 rfl ?_
      refine r_iret rfl dX1_charactersIn_55 ?_
      exact hQ
    · --f
      exact absurd (show (8 : Int32) ≤ nI 8 by decide) h9
  | succ f ih =>
    intro k lo5 h5 hk hQ
    have hk8 : k < 8 := by omega
    refine r_sub [0, 1, 2] (lo2 := [(0, _), (2, _), (4, _)]) rfl ?_
    refine r_iload dX1_charactersIn_5 2 rfl ?_
    refine r_bipush dX1_charactersIn_7 (v := 8) (by decide +kernel) ?_
    refine r_icmp_ge dX1_charactersIn_9 (tgt := 53) (by decide) (fun h9 => ?_) (fun h9 => ?_)
    · --t
      exact absurd h9 (nI_ge (b := 8) hk8 (by decide))
    · --f
      refine r_lload_n dX1_charactersIn_12 1 rfl ?_
      refine r_lconst dX1_charactersIn_13 (v := 0) rfl ?_
      refine r_lcmp dX1_charactersIn_14 ?_
      refine r_if_eq dX1_charactersIn_15 (tgt := 53) (by decide) (fun h15 => ?_) (fun h15 => ?_)
      · --t
        refine r_iload dX1_charactersIn_53 2 rfl ?_
        refine r_iret rfl dX1_charactersIn_55 ?_
        rw [lcmp0] at h15
        unfold chN at hQ
        rw [if_pos h15] at hQ
        exact hQ
      · --f
        refine r_lload_n dX1_charactersIn_18 1 rfl ?_
        refine r_ldc2 k_X1_15 dX1_charactersIn_19 ?_
        refine r_land dX1_charactersIn_22 ?_
        refine r_l2i dX1_charactersIn_23 ?_
        refine r_istore (lo2 := [(0, _), (2, _), (4, _), (5, _)]) dX1_charactersIn_24 (Nat.le_of_ble_eq_true rfl) [1, 2, 3, 0] rfl ?_
        refine r_iload dX1_charactersIn_26 3 rfl ?_
        refine r_bipush dX1_charactersIn_28 (v := 33) (by decide +kernel) ?_
        refine r_icmp_lt dX1_charactersIn_30 (tgt := 40) (by decide) (fun h30 => ?_) (fun h30 => ?_)
        · --t
          refine r_iconst dX1_charactersIn_40 (v := 0) rfl ?_
          refine r_iret rfl dX1_charactersIn_41 ?_
          rw [lcmp0] at h15
          unfold chN at hQ
          rw [if_neg h15, if_pos (by first | exact Or.inl h30 | exact Or.inr (Int32.not_le.mp h37))] at hQ
          exact hQ
        · --f
          refine r_iload dX1_charactersIn_33 3 rfl ?_
          refine r_bipush dX1_charactersIn_35 (v := 126) (by decide +kernel) ?_
          refine r_icmp_le dX1_charactersIn_37 (tgt := 42) (by decide) (fun h37 => ?_) (fun h37 => ?_)
          · --t
            refine r_lload_n dX1_charactersIn_42 1 rfl ?_
            refine r_bipush dX1_charactersIn_43 (v := 8) (by decide +kernel) ?_
            refine r_lushr dX1_charactersIn_45 ?_
            refine r_lstore_n (lo2 := [(0, _), (2, _), (4, _), (5, _)]) dX1_charactersIn_46 rfl (Nat.le_of_ble_eq_true rfl) [1, 0, 2, 3] rfl ?_
            refine r_iinc (lo2 := [(0, _), (2, _), (4, _), (5, _)]) dX1_charactersIn_47 2 rfl (w := 1) rfl (Nat.le_of_ble_eq_true rfl) [1, 2, 0, 3] rfl ?_
            refine r_goto dX1_charactersIn_50 (tgt := 5) (by decide) ?_
            rw [lcmp0] at h15
            unfold chN at hQ
            rw [if_neg h15, if_neg (fun z => z.elim h30 (Int32.not_lt.mpr h37))] at hQ
            rw [nI_1]
            exact ih (k + 1) [(5, .int (cdN x k))] (Or.inr ⟨_, rfl⟩) (by omega) hQ
          · --f
            refine r_iconst dX1_charactersIn_40 (v := 0) rfl ?_
            refine r_iret rfl dX1_charactersIn_41 ?_
            rw [lcmp0] at h15
            unfold chN at hQ
            rw [if_neg h15, if_pos (by first | exact Or.inl h30 | exact Or.inr (Int32.not_le.mp h37))] at hQ
            exact hQ
theorem t_X1_charactersIn {x : Int64} : Call G d M_X1_charactersIn [.long x] S (fun v u => v = some (nI (chN x 8 0)) ∧ u = S) := by
  refine call_of (lo := [(0, .long x)]) (by decide +kernel) (Nat.le_of_ble_eq_true rfl) rfl ?_
  refine r_lload_n dX1_charactersIn_0 0 rfl ?_
  refine r_lstore_n (lo2 := [(0, _), (2, _)]) dX1_charactersIn_1 rfl (Nat.le_of_ble_eq_true rfl) [1, 0] rfl ?_
  refine r_iconst dX1_charactersIn_2 (v := 0) rfl ?_
  refine r_istore (lo2 := [(0, _), (2, _), (4, _)]) dX1_charactersIn_3 (Nat.le_of_ble_eq_true rfl) [1, 2, 0] rfl ?_
  exact lp_X1_charactersIn 8 0 [] (Or.inl rfl) (by omega) ⟨rfl, rfl⟩
theorem lp_X1_addCharacters {S0 : mS} {Q : Option Int32 → mS → Prop} {x : Int64} {m : Nat} (hl : S0 185 1 = nI len) (hm : len + m ≤ 80) (hc : ∀ j, j < m → chr (cdN x j)) (hx : ∀ u, (∀ j, j < len → u 186 j = S0 186 j) → (∀ j, len ≤ j → j < len + m → u 186 j = cdN x (len + m - 1 - j)) → (∀ b, b ≠ 186 → u b = S0 b) → At G d M_X1_addCharacters Q 50 [(0, rv G 185), (3, .int (nI m))] [] u) :
    ∀ r S, r ≤ m → (∀ j, j < len → S 186 j = S0 186 j) → (∀ j, len + r ≤ j → j < len + m → S 186 j = cdN x (len + m - 1 - j)) → (∀ b, b ≠ 186 → S b = S0 b) → At G d M_X1_addCharacters Q 13 [(0, rv G 185), (1, .long x), (3, .int (nI m)), (4, .long (shN x (m - r))), (6, .int (nI (len + r) - 1))] [] S := by
  intro r
  induction r with
  | zero =>
    intro S hr h1 h2 h3
    have e1 : S 185 1 = nI len := by rw [h3 185 (by omega)]; exact hl
    have e2 : nI (len + 0) - 1 < nI len := by
      rw [Int32.lt_iff_toInt_lt, show (1 : Int32) = nI 1 from rfl, pk_sub_toInt (by omega) (by omega), nI_toInt (by omega)]
      omega
    refine r_iload dX1_addCharacters_13 4 rfl ?_
    refine r_aload_n dX1_addCharacters_15 0 rfl ?_
    refine r_getI (by first | assumption | rfl) f_X1_17 rfl rfl dX1_addCharacters_16 ?_
    refine r_icmp_lt dX1_addCharacters_19 (tgt := 50) (by decide) (fun h19 => ?_) (fun h19 => ?_)
    · --t
      exact r_sub [0, 2] rfl (hx S h1 (fun j a b => h2 j (by omega) b) h3)
    · --f
      exact absurd (by rw [e1]; exact e2) h19
  | succ r ih =>
    intro S hr h1 h2 h3
    have e1 : S 185 1 = nI len := by rw [h3 185 (by omega)]; exact hl
    have e2 : nI (len + (r + 1)) - 1 = nI (len + r) := pk_sub (b := 1) (by omega)
    have hj : len + r < ln 186 := show len + r < 80 by omega
    have hch := hc (m - (r + 1)) (by omega)
    have hca := chr_cast hch
    have es : shN x (m - r) = ((shN x (m - (r + 1))).toUInt64 >>> ((8 : Int32).toInt64.toUInt64 &&& Int64.toUInt64 63)).toInt64 := by
      rw [show m - r = (m - (r + 1)) + 1 by omega]; rfl
    rw [e2]
    refine r_iload dX1_addCharacters_13 4 rfl ?_
    refine r_aload_n dX1_addCharacters_15 0 rfl ?_
    refine r_getI (by first | assumption | rfl) f_X1_17 rfl rfl dX1_addCharacters_16 ?_
    refine r_icmp_lt dX1_addCharacters_19 (tgt := 50) (by decide) (fun h19 => ?_) (fun h19 => ?_)
    · --t
      exact absurd (by rw [e1] at h19; exact h19) (Int32.not_lt.mpr (nI_le (by omega) (by omega)))
    · --f
      refine r_aload_n dX1_addCharacters_22 0 rfl ?_
      refine r_getR (b := 186) (by first | assumption | rfl) f_X1_9 rfl rfl dX1_addCharacters_23 rfl ?_
      refine r_iload dX1_addCharacters_26 4 rfl ?_
      refine r_lload dX1_addCharacters_28 3 rfl ?_
      refine r_ldc2 k_X1_15 dX1_addCharacters_30 ?_
      refine r_land dX1_addCharacters_33 ?_
      refine r_l2i dX1_addCharacters_34 ?_
      refine r_i2c dX1_addCharacters_35 ?_
      refine r_cast (j := (len + r)) (by first | assumption | rfl) rfl hj dX1_addCharacters_36 ?_
      refine r_lload dX1_addCharacters_37 3 rfl ?_
      refine r_bipush dX1_addCharacters_39 (v := 8) (by decide +kernel) ?_
      refine r_lushr dX1_addCharacters_41 ?_
      refine r_lstore (lo2 := [(0, _), (1, _), (3, _), (4, _), (6, _)]) dX1_addCharacters_42 (Nat.le_of_ble_eq_true rfl) [1, 2, 3, 0, 4] rfl ?_
      refine r_iinc (lo2 := [(0, _), (1, _), (3, _), (4, _), (6, _)]) dX1_addCharacters_44 4 rfl (w := -1) rfl (Nat.le_of_ble_eq_true rfl) [1, 2, 3, 4, 0] rfl ?_
      refine r_goto dX1_addCharacters_47 (tgt := 13) (by decide) ?_
      rw [← Int32.sub_eq_add_neg, ← es]
      have ev : vp_nar .char ((shN x (m - (r + 1)) &&& 255).toInt32.toUInt32 % 65536).toInt32 = cdN x (m - (r + 1)) := by
        show vp_nar .char ((cdN x (m - (r + 1))).toUInt32 % 65536).toInt32 = _
        rw [hca.1, hca.2]
      rw [ev]
      refine ih _ (by omega) (fun j hj => ?_) (fun j ha hb => ?_) (fun b hb => ?_)
      · rw [up1_s, upd, if_neg (by omega)]; exact h1 j hj
      · rw [up1_s, upd]
        by_cases e : j = len + r
        · subst e; rw [if_pos rfl]; congr 1; omega
        · rw [if_neg e]; exact h2 j (by omega) hb
      · rw [up1_n hb]; exact h3 b hb
theorem t_X1_addCharacters {x : Int64} {m : Nat} (h : PB S P len) (hm : len + m ≤ 80) (hc : ∀ j, j < m → chr (cdN x j)) : Call G d M_X1_addCharacters [rv G 185, .long x, .int (nI m)] S (fun v u => v = none ∧ PB u (apP P len m x) (len + m) ∧ ∀ b, b ≠ 185 → b ≠ 186 → u b = S b) := by
  refine call_of (lo := [(0, rv G 185), (1, .long x), (3, .int (nI m))]) (by decide +kernel) (Nat.le_of_ble_eq_true rfl) rfl ?_
  refine r_lload_n dX1_addCharacters_0 1 rfl ?_
  refine r_lstore (lo2 := [(0, _), (1, _), (3, _), (4, _)]) dX1_addCharacters_1 (Nat.le_of_ble_eq_true rfl) [1, 2, 3, 0] rfl ?_
  refine r_aload_n dX1_addCharacters_3 0 rfl ?_
  refine r_getI (by first | assumption | rfl) f_X1_17 rfl rfl dX1_addCharacters_4 ?_
  refine r_iload_n dX1_addCharacters_7 2 rfl ?_
  refine r_iadd dX1_addCharacters_8 ?_
  refine r_iconst dX1_addCharacters_9 (v := 1) rfl ?_
  refine r_isub dX1_addCharacters_10 ?_
  refine r_istore (lo2 := [(0, _), (1, _), (3, _), (4, _), (6, _)]) dX1_addCharacters_11 (Nat.le_of_ble_eq_true rfl) [1, 2, 3, 4, 0] rfl ?_
  rw [h.1.1, nI_add]
  have key := @lp_X1_addCharacters G d len S (fun v u => v = none ∧ PB u (apP P len m x) (len + m) ∧ ∀ b, b ≠ 185 → b ≠ 186 → u b = S b) x m h.1.1 hm hc (fun u h1 h2 h3 => ?_) m S (Nat.le_refl _) (fun _ _ => rfl) (fun j a b => absurd b (by omega)) (fun _ _ => rfl)
  · rw [Nat.sub_self] at key; exact key
  · refine r_aload_n dX1_addCharacters_50 0 rfl ?_
    refine r_dup dX1_addCharacters_51 rfl ?_
    refine r_getI (by first | assumption | rfl) f_X1_17 rfl rfl dX1_addCharacters_52 ?_
    refine r_iload_n dX1_addCharacters_55 1 rfl ?_
    refine r_iadd dX1_addCharacters_56 ?_
    refine r_putI (by first | assumption | rfl) f_X1_17 rfl rfl rfl rfl dX1_addCharacters_57 ?_
    refine r_vret rfl dX1_addCharacters_60 ?_
    refine ⟨rfl, ⟨⟨?_, hm⟩, fun j hj => ?_⟩, fun b b1 b2 => ?_⟩
    · rw [up1_s, upd, if_pos rfl, h3 185 (by omega), h.1.1, nI_add]
    · rw [up1_n (by omega)]
      unfold apP
      by_cases e : j < len
      · rw [if_pos e, h1 j e]; exact h.2 j e
      · rw [if_neg e]; exact ⟨h2 j (by omega) hj, hc _ (by omega)⟩
    · rw [up1_n b1]; exact h3 b b2
end PADC
end
section
/-! the class's public changes -/
theorem wn_rsz {N : mN} (hW : WN N) (t s : Int32) : WN (rszO N t s).2 := by
  unfold rszO
  rcases tr_cases hW t with h | ⟨T, h, rfl, hT, hT5, eT⟩
  · rw [h]; exact hW
  · rw [h, if_pos rfl, eT]
    rcases sz_cases s with h2 | ⟨n, h2, rfl, hn1, hn2⟩
    · rw [h2]; exact hW
    · rw [h2, if_pos rfl]; exact hW.tr (wf_rsz (hW.2 T hT) hn1 hn2)
theorem wn_comN {N : mN} (hW : WN N) {T K : Nat} {h : Int32} (hT : T < cnt N) (hK : K < tsz (N.2 T)) (hh : h = 1 ∨ h = 2) : WN (comN N T K h).2 :=
  hW.tr (wf_opn _ 3 _ (wf_set (hW.2 T hT) hK (by rcases hh with z | z <;> simp [z])))
theorem wn_com {N : mN} (hW : WN N) (t k c : Int32) : WN (comO N t k c).2 := by
  unfold comO
  by_cases h : whyA N t k c < 0
  · rw [if_pos h]; exact hW
  · rw [if_neg h]
    by_cases h4 : whyA N t k c = 4
    · obtain ⟨T, K, rfl, hT, hT5, eT, rfl, hK, hK16, eK, -⟩ := why_in hW (Or.inr h4)
      rw [if_pos h4, eT, eK]
      exact wn_comN (wn_ery hW) hT hK (Or.inr rfl)
    · rw [if_neg h4]
      by_cases h0 : whyA N t k c = 0
      · obtain ⟨T, K, rfl, hT, hT5, eT, rfl, hK, hK16, eK, -⟩ := why_in hW (Or.inl h0)
        rw [if_pos h0, eT, eK]
        exact wn_comN hW hT hK (Or.inl rfl)
      · rw [if_neg h0]; exact hW
theorem wn_los {N : mN} (hW : WN N) (t k : Int32) : WN (losO N t k).2 := by
  unfold losO
  rcases sc_cases hW t k with h | ⟨T, K, h, -, rfl, hT, hT5, eT, rfl, hK, hK16, eK⟩
  · rw [h]; exact hW
  · rw [h, if_pos rfl, eT, eK]
    split
    · exact hW
    · exact hW.tr (wf_set (hW.2 T hT) hK (by simp))
theorem wn_fin {N : mN} (hW : WN N) (t k : Int32) : WN (finO N t k).2 := by
  unfold finO
  rcases sc_cases hW t k with h | ⟨T, K, h, -, rfl, hT, hT5, eT, rfl, hK, hK16, eK⟩
  · rw [h]; exact hW
  · rw [h, if_pos rfl, eT, eK]
    split
    · exact hW.tr (wf_set (hW.2 T hT) hK (by simp))
    · exact hW
theorem wn_pas {N : mN} (hW : WN N) (m : Int32) : WN (pasO N m).2 := by
  unfold pasO
  split
  · exact hW
  · split
    · exact hW
    · exact (wn_itM m.toNatClampNeg N hW).1.glob (by simp [upd])
theorem wn_set {N : mN} (hW : WN N) (s v : Int32) : WN (setO N s v).2 := by
  unfold setO
  split
  · rename_i h
    refine hW.glob ?_
    rcases h with ⟨rfl, -⟩ | ⟨rfl, -⟩ <;> rfl
  · exact hW
/-- an order of a text, carried out -/
def exO (N : mN) (k t n c : Int32) : Int32 × mN := if k = 110 then addO N n else if k = 99 then comO N t n c else if k = 108 then losO N t n else if k = 115 then rszO N t n else if k = 116 then pasO N n else (-3, N)
def exR (N : mN) (r : Bool × Nat × Int32 × Int32 × Int32 × Int32) : Int32 × mN := exO N r.2.2.1 r.2.2.2.1 r.2.2.2.2.1 r.2.2.2.2.2
theorem wn_ex {N : mN} (hW : WN N) (k t n c : Int32) : WN (exO N k t n c).2 := by
  unfold exO
  split
  · exact hW.add0 n
  · split
    · exact wn_com hW t n c
    · split
      · exact wn_los hW t n
      · split
        · exact wn_rsz hW t n
        · split
          · exact wn_pas hW n
          · exact hW
def cyN (P : Nat → Int32) (len : Nat) : Nat → Nat → mN → Nat × mN
  | 0, _, N => (0, N)
  | f + 1, i, N => if (rO P len i).1 = true then (if (exR N (rO P len i)).1 < 0 then (0, (exR N (rO P len i)).2) else if len ≤ (rO P len i).2.1 then (1, (exR N (rO P len i)).2)
      else ((cyN P len f ((rO P len i).2.1 + 1) (exR N (rO P len i)).2).1 + 1, (cyN P len f ((rO P len i).2.1 + 1) (exR N (rO P len i)).2).2)) else (0, N)
theorem wn_cy {P : Nat → Int32} {len : Nat} : ∀ f i (N : mN), WN N → WN (cyN P len f i N).2 := by
  intro f
  induction f with
  | zero => intro i N h; exact h
  | succ f ih =>
    intro i N h
    unfold cyN
    have h2 : WN (exR N (rO P len i)).2 := wn_ex h _ _ _ _
    split
    · split
      · exact h2
      · split
        · exact h2
        · exact ih _ _ h2
    · exact h
theorem cy_le {P : Nat → Int32} {len : Nat} : ∀ f i (N : mN), (cyN P len f i N).1 ≤ f := by
  intro f
  induction f with
  | zero => intro i N; exact Nat.le_refl _
  | succ f ih =>
    intro i N
    unfold cyN
    split
    · split
      · exact Nat.zero_le _
      · split
        · show 1 ≤ f + 1; omega
        · have := ih ((rO P len i).2.1 + 1) (exR N (rO P len i)).2
          show _ + 1 ≤ f + 1
          omega
    · exact Nat.zero_le _
theorem SP.fp {S u : mS} {N : mN} (h : SP S 1 N) (hc : cnt N ≤ 5) (g : FP S u) : SP u 1 N := h.off hc (fun c c1 c2 => g c (by omega))
theorem HP.fs {S u : mS} {n : Nat} {h : Nat → mN} (g : HP S n h) (k : FS 1 S u) : HP u n h := g.off (fun c c1 c2 => k c (by omega))
theorem HN.fs {S u : mS} {n : Nat} {h : Nat → mN} {N : mN} (g : HN S n h N) (k : FS 1 S u) : HN u n h N := g.off (fun c c1 c2 => k c (by omega))
def rcN (x : Int32) (n : Nat) : Nat := if x < 0 then n else psN n
def rcH (x : Int32) (n : Nat) (h : Nat → mN) (N : mN) : Nat → mN := if x < 0 then h else psH n h N
/-- between the calls: the cells of the current state and of the history alone may have changed -/
def FC (S u : mS) : Prop := ∀ c, (c < 1 ∨ 147 ≤ c) → u c = S c
section PUB
variable {G : mG} {d : Nat} {S : mS} {N : mN} {n : Nat} {h : Nat → mN} {t k c s v x : Int32}
theorem t_X4_recorded (hP : HN S n h N) : Call G (d + 1) M_X4_recorded [rv G 0, .int x] S (fun v u => v = some x ∧ HP u (rcN x n) (rcH x n h N) ∧ FH S u) := by
  refine call_of (lo := [(0, rv G 0), (1, .int x)]) (by decide +kernel) (Nat.le_of_ble_eq_true rfl) rfl ?_
  unfold rcN rcH
  by_cases hx : x < 0
  · rw [if_pos hx, if_pos hx]
    refine r_iload_n dX4_recorded_0 1 rfl ?_
    refine r_if_lt dX4_recorded_1 (tgt := 11) (by decide) (fun h1 => ?_) (fun h1 => ?_)
    · --t
      refine r_iload_n dX4_recorded_11 1 rfl ?_
      refine r_iret rfl dX4_recorded_12 ?_
      exact ⟨rfl, hP.hp, FH.rf⟩
    · --f
      exact absurd hx h1
  · rw [if_neg hx, if_neg hx]
    refine r_iload_n dX4_recorded_0 1 rfl ?_
    refine r_if_lt dX4_recorded_1 (tgt := 11) (by decide) (fun h1 => ?_) (fun h1 => ?_)
    · --t
      exact absurd h1 hx
    · --f
      refine r_aload_n dX4_recorded_4 0 rfl ?_
      refine r_getR (b := 19) (by first | assumption | rfl) f_X4_19 rfl rfl dX4_recorded_5 rfl ?_
      refine r_callVv (As := []) c_X0_keepNoted (by first | assumption | rfl) l_X4_92 rfl rfl rfl (Nat.le_of_ble_eq_true rfl) dX4_recorded_8 (t_X0_keepNoted hP) (fun u8 q8 => ?_)
      obtain ⟨-, hP2, hF2⟩ := q8
      refine r_iload_n dX4_recorded_11 1 rfl ?_
      refine r_iret rfl dX4_recorded_12 ?_
      exact ⟨rfl, hP2, hF2⟩
theorem SP.fh {S u : mS} {N : mN} (h : SP S 1 N) (hc : cnt N ≤ 5) (g : FH S u) : SP u 1 N := h.off hc (fun c c1 c2 => g c (by omega))
theorem t_X4_troop (hW : WN N) (hS : SP S 1 N) (hH : HP S n h) : Call G (d + 7) M_X4_troop [rv G 0, .int s] S (fun v u => v = some (addO N s).1 ∧ SP u 1 (addO N s).2 ∧ HP u (rcN (addO N s).1 n) (rcH (addO N s).1 n h N) ∧ FC S u) := by
  refine call_of (lo := [(0, rv G 0), (1, .int s)]) (by decide +kernel) (Nat.le_of_ble_eq_true rfl) rfl ?_
  refine r_aload_n dX4_troop_0 0 rfl ?_
  refine r_getR (b := 19) (by first | assumption | rfl) f_X4_19 rfl rfl dX4_troop_1 rfl ?_
  refine r_aload_n dX4_troop_4 0 rfl ?_
  refine r_getR (b := 1) (by first | assumption | rfl) f_X4_10 rfl rfl dX4_troop_5 rfl ?_
  refine r_callVv (As := [_]) c_X0_note (by first | assumption | rfl) l_X4_45 rfl rfl rfl (Nat.le_of_ble_eq_true rfl) dX4_troop_8 (t_X0_note hH hW hS) (fun u8 q8 => ?_)
  obtain ⟨-, g1, f1⟩ := q8
  refine r_aload_n dX4_troop_11 0 rfl ?_
  refine r_aload_n dX4_troop_12 0 rfl ?_
  refine r_iload_n dX4_troop_13 1 rfl ?_
  refine r_callVi (As := [_]) c_X4_addTroop (by first | assumption | rfl) l_X4_57 rfl rfl rfl (Nat.le_of_ble_eq_true rfl) dX4_troop_14 (t_X4_addTroop hW (hS.fh hW.cn.2 f1)) (fun r14 u14 q14 => ?_)
  obtain ⟨e2, g2, f2⟩ := q14
  cases e2
  refine r_callVi (As := [_]) c_X4_recorded (by first | assumption | rfl) l_X4_53 rfl rfl rfl (Nat.le_of_ble_eq_true rfl) dX4_troop_17 (t_X4_recorded (g1.fs f2)) (fun r17 u17 q17 => ?_)
  obtain ⟨e3, g3, f3⟩ := q17
  cases e3
  refine r_iret rfl dX4_troop_20 ?_
  exact ⟨rfl, g2.fh (hW.add0 s).cn.2 f3, g3, fun b hb => (f3 b (by omega)).trans ((f2 b (by omega)).trans (f1 b (by omega)))⟩
theorem t_X4_resize (hW : WN N) (hS : SP S 1 N) (hH : HP S n h) : Call G (d + 7) M_X4_resize [rv G 0, .int t, .int s] S (fun v u => v = some (rszO N t s).1 ∧ SP u 1 (rszO N t s).2 ∧ HP u (rcN (rszO N t s).1 n) (rcH (rszO N t s).1 n h N) ∧ FC S u) := by
  refine call_of (lo := [(0, rv G 0), (1, .int t), (2, .int s)]) (by decide +kernel) (Nat.le_of_ble_eq_true rfl) rfl ?_
  refine r_aload_n dX4_resize_0 0 rfl ?_
  refine r_getR (b := 19) (by first | assumption | rfl) f_X4_19 rfl rfl dX4_resize_1 rfl ?_
  refine r_aload_n dX4_resize_4 0 rfl ?_
  refine r_getR (b := 1) (by first | assumption | rfl) f_X4_10 rfl rfl dX4_resize_5 rfl ?_
  refine r_callVv (As := [_]) c_X0_note (by first | assumption | rfl) l_X4_45 rfl rfl rfl (Nat.le_of_ble_eq_true rfl) dX4_resize_8 (t_X0_note hH hW hS) (fun u8 q8 => ?_)
  obtain ⟨-, g1, f1⟩ := q8
  refine r_aload_n dX4_resize_11 0 rfl ?_
  refine r_aload_n dX4_resize_12 0 rfl ?_
  refine r_iload_n dX4_resize_13 1 rfl ?_
  refine r_iload_n dX4_resize_14 2 rfl ?_
  refine r_callVi (As := [_, _]) c_X4_changeSize (by first | assumption | rfl) l_X4_60 rfl rfl rfl (Nat.le_of_ble_eq_true rfl) dX4_resize_15 (t_X4_changeSize hW (hS.fh hW.cn.2 f1)) (fun r15 u15 q15 => ?_)
  obtain ⟨e2, g2, f2⟩ := q15
  cases e2
  refine r_callVi (As := [_]) c_X4_recorded (by first | assumption | rfl) l_X4_53 rfl rfl rfl (Nat.le_of_ble_eq_true rfl) dX4_resize_18 (t_X4_recorded (g1.fs f2)) (fun r18 u18 q18 => ?_)
  obtain ⟨e3, g3, f3⟩ := q18
  cases e3
  refine r_iret rfl dX4_resize_21 ?_
  exact ⟨rfl, g2.fh (wn_rsz hW t s).cn.2 f3, g3, fun b hb => (f3 b (by omega)).trans ((f2 b (by omega)).trans (f1 b (by omega)))⟩
theorem t_X4_come (hW : WN N) (hS : SP S 1 N) (hH : HP S n h) : Call G (d + 7) M_X4_come [rv G 0, .int t, .int k, .int c] S (fun v u => v = some (comO N t k c).1 ∧ SP u 1 (comO N t k c).2 ∧ HP u (rcN (comO N t k c).1 n) (rcH (comO N t k c).1 n h N) ∧ FC S u) := by
  refine call_of (lo := [(0, rv G 0), (1, .int t), (2, .int k), (3, .int c)]) (by decide +kernel) (Nat.le_of_ble_eq_true rfl) rfl ?_
  refine r_aload_n dX4_come_0 0 rfl ?_
  refine r_getR (b := 19) (by first | assumption | rfl) f_X4_19 rfl rfl dX4_come_1 rfl ?_
  refine r_aload_n dX4_come_4 0 rfl ?_
  refine r_getR (b := 1) (by first | assumption | rfl) f_X4_10 rfl rfl dX4_come_5 rfl ?_
  refine r_callVv (As := [_]) c_X0_note (by first | assumption | rfl) l_X4_45 rfl rfl rfl (Nat.le_of_ble_eq_true rfl) dX4_come_8 (t_X0_note hH hW hS) (fun u8 q8 => ?_)
  obtain ⟨-, g1, f1⟩ := q8
  refine r_aload_n dX4_come_11 0 rfl ?_
  refine r_aload_n dX4_come_12 0 rfl ?_
  refine r_iload_n dX4_come_13 1 rfl ?_
  refine r_iload_n dX4_come_14 2 rfl ?_
  refine r_iload_n dX4_come_15 3 rfl ?_
  refine r_callVi (As := [_, _, _]) c_X4_letCome (by first | assumption | rfl) l_X4_64 rfl rfl rfl (Nat.le_of_ble_eq_true rfl) dX4_come_16 (t_X4_letCome hW (hS.fh hW.cn.2 f1)) (fun r16 u16 q16 => ?_)
  obtain ⟨e2, g2, f2⟩ := q16
  cases e2
  refine r_callVi (As := [_]) c_X4_recorded (by first | assumption | rfl) l_X4_53 rfl rfl rfl (Nat.le_of_ble_eq_true rfl) dX4_come_19 (t_X4_recorded (g1.fs f2)) (fun r19 u19 q19 => ?_)
  obtain ⟨e3, g3, f3⟩ := q19
  cases e3
  refine r_iret rfl dX4_come_22 ?_
  exact ⟨rfl, g2.fh (wn_com hW t k c).cn.2 f3, g3, fun b hb => (f3 b (by omega)).trans ((f2 b (by omega)).trans (f1 b (by omega)))⟩
theorem t_X4_lose (hW : WN N) (hS : SP S 1 N) (hH : HP S n h) : Call G (d + 7) M_X4_lose [rv G 0, .int t, .int k] S (fun v u => v = some (losO N t k).1 ∧ SP u 1 (losO N t k).2 ∧ HP u (rcN (losO N t k).1 n) (rcH (losO N t k).1 n h N) ∧ FC S u) := by
  refine call_of (lo := [(0, rv G 0), (1, .int t), (2, .int k)]) (by decide +kernel) (Nat.le_of_ble_eq_true rfl) rfl ?_
  refine r_aload_n dX4_lose_0 0 rfl ?_
  refine r_getR (b := 19) (by first | assumption | rfl) f_X4_19 rfl rfl dX4_lose_1 rfl ?_
  refine r_aload_n dX4_lose_4 0 rfl ?_
  refine r_getR (b := 1) (by first | assumption | rfl) f_X4_10 rfl rfl dX4_lose_5 rfl ?_
  refine r_callVv (As := [_]) c_X0_note (by first | assumption | rfl) l_X4_45 rfl rfl rfl (Nat.le_of_ble_eq_true rfl) dX4_lose_8 (t_X0_note hH hW hS) (fun u8 q8 => ?_)
  obtain ⟨-, g1, f1⟩ := q8
  refine r_aload_n dX4_lose_11 0 rfl ?_
  refine r_aload_n dX4_lose_12 0 rfl ?_
  refine r_iload_n dX4_lose_13 1 rfl ?_
  refine r_iload_n dX4_lose_14 2 rfl ?_
  refine r_callVi (As := [_, _]) c_X4_loseScout (by first | assumption | rfl) l_X4_68 rfl rfl rfl (Nat.le_of_ble_eq_true rfl) dX4_lose_15 (t_X4_loseScout hW (hS.fh hW.cn.2 f1)) (fun r15 u15 q15 => ?_)
  obtain ⟨e2, g2, f2⟩ := q15
  cases e2
  refine r_callVi (As := [_]) c_X4_recorded (by first | assumption | rfl) l_X4_53 rfl rfl rfl (Nat.le_of_ble_eq_true rfl) dX4_lose_18 (t_X4_recorded (g1.fs f2)) (fun r18 u18 q18 => ?_)
  obtain ⟨e3, g3, f3⟩ := q18
  cases e3
  refine r_iret rfl dX4_lose_21 ?_
  exact ⟨rfl, g2.fh (wn_los hW t k).cn.2 f3, g3, fun b hb => (f3 b (by omega)).trans ((f2 b (by omega)).trans (f1 b (by omega)))⟩
theorem t_X4_pass (hW : WN N) (hS : SP S 1 N) (hH : HP S n h) : Call G (d + 7) M_X4_pass [rv G 0, .int t] S (fun v u => v = some (pasO N t).1 ∧ SP u 1 (pasO N t).2 ∧ HP u (rcN (pasO N t).1 n) (rcH (pasO N t).1 n h N) ∧ FC S u) := by
  refine call_of (lo := [(0, rv G 0), (1, .int t)]) (by decide +kernel) (Nat.le_of_ble_eq_true rfl) rfl ?_
  refine r_aload_n dX4_pass_0 0 rfl ?_
  refine r_getR (b := 19) (by first | assumption | rfl) f_X4_19 rfl rfl dX4_pass_1 rfl ?_
  refine r_aload_n dX4_pass_4 0 rfl ?_
  refine r_getR (b := 1) (by first | assumption | rfl) f_X4_10 rfl rfl dX4_pass_5 rfl ?_
  refine r_callVv (As := [_]) c_X0_note (by first | assumption | rfl) l_X4_45 rfl rfl rfl (Nat.le_of_ble_eq_true rfl) dX4_pass_8 (t_X0_note hH hW hS) (fun u8 q8 => ?_)
  obtain ⟨-, g1, f1⟩ := q8
  refine r_aload_n dX4_pass_11 0 rfl ?_
  refine r_aload_n dX4_pass_12 0 rfl ?_
  refine r_iload_n dX4_pass_13 1 rfl ?_
  refine r_callVi (As := [_]) c_X4_passMinutes (by first | assumption | rfl) l_X4_89 rfl rfl rfl (Nat.le_of_ble_eq_true rfl) dX4_pass_14 (t_X4_passMinutes hW (hS.fh hW.cn.2 f1)) (fun r14 u14 q14 => ?_)
  obtain ⟨e2, g2, f2⟩ := q14
  cases e2
  refine r_callVi (As := [_]) c_X4_recorded (by first | assumption | rfl) l_X4_53 rfl rfl rfl (Nat.le_of_ble_eq_true rfl) dX4_pass_17 (t_X4_recorded (g1.fs f2)) (fun r17 u17 q17 => ?_)
  obtain ⟨e3, g3, f3⟩ := q17
  cases e3
  refine r_iret rfl dX4_pass_20 ?_
  exact ⟨rfl, g2.fh (wn_pas hW t).cn.2 f3, g3, fun b hb => (f3 b (by omega)).trans ((f2 b (by omega)).trans (f1 b (by omega)))⟩
theorem t_X4_find (hW : WN N) (hS : SP S 1 N) (hH : HP S n h) : Call G (d + 7) M_X4_find [rv G 0, .int t, .int k] S (fun v u => v = some (finO N t k).1 ∧ SP u 1 (finO N t k).2 ∧ HP u (rcN (finO N t k).1 n) (rcH (finO N t k).1 n h N) ∧ FC S u) := by
  refine call_of (lo := [(0, rv G 0), (1, .int t), (2, .int k)]) (by decide +kernel) (Nat.le_of_ble_eq_true rfl) rfl ?_
  unfold finO
  rcases sc_cases hW t k with g | ⟨T, K, g, -, rfl, hT, hT5, eT, rfl, hK, hK16, eK⟩
  · rw [g, if_neg (show ¬ false = true by decide)]
    refine r_aload_n dX4_find_0 0 rfl ?_
    refine r_iload_n dX4_find_1 1 rfl ?_
    refine r_iload_n dX4_find_2 2 rfl ?_
    refine r_callViF (As := [_, _]) c_X4_isScout (by first | assumption | rfl) l_X4_71 rfl rfl rfl (Nat.le_of_ble_eq_true rfl) dX4_find_3 (t_X4_isScout hW hS) ?_
    refine r_if_ne dX4_find_6 (tgt := 11) (by decide) (fun h6 => ?_) (fun h6 => ?_)
    · --t
      exact absurd (bI_not g) h6
    · --f
      refine r_iconst dX4_find_9 (v := -1) rfl ?_
      refine r_iret rfl dX4_find_10 ?_
      exact ⟨rfl, hS, hH, fun _ _ => rfl⟩
  · have ha := kd4 hT5
    obtain ⟨k1, k2, l1, l2, f1', f2'⟩ := kdT ha
    have hl : T < ln 3 := hT5
    have hl1 : K < ln (4 + 3 * T + 1) := by rw [l1]; exact hK16
    have hTT : TP S (4 + 3 * T) (N.2 T) := hS.2 T hT
    have hWT := hW.2 T hT
    rw [g, if_pos rfl, eT, eK]
    by_cases h4 : (N.2 T).2.1 K = 4
    · rw [if_pos h4]
      refine r_aload_n dX4_find_0 0 rfl ?_
      refine r_iload_n dX4_find_1 1 rfl ?_
      refine r_iload_n dX4_find_2 2 rfl ?_
      refine r_callViF (As := [_, _]) c_X4_isScout (by first | assumption | rfl) l_X4_71 rfl rfl rfl (Nat.le_of_ble_eq_true rfl) dX4_find_3 (t_X4_isScout hW hS) ?_
      refine r_if_ne dX4_find_6 (tgt := 11) (by decide) (fun h6 => ?_) (fun h6 => ?_)
      · --t
        refine r_aload_n dX4_find_11 0 rfl ?_
        refine r_getR (b := 1) (by first | assumption | rfl) f_X4_10 rfl rfl dX4_find_12 rfl ?_
        refine r_getR (b := 3) (by first | assumption | rfl) f_X4_75 rfl rfl dX4_find_15 rfl ?_
        refine r_iload_n dX4_find_18 1 rfl ?_
        refine r_aald10 (j := _) (by first | assumption | rfl) (by first | assumption | rfl) (by first | assumption | decide) (rf3 _) dX4_find_19 ?_
        refine r_astore_n (lo2 := [(0, _), (1, _), (2, _), (3, _)]) dX4_find_20 rfl (Nat.le_of_ble_eq_true rfl) [1, 2, 3, 0] rfl ?_
        refine r_aload_n dX4_find_21 3 rfl ?_
        refine r_iload_n dX4_find_22 2 rfl ?_
        refine r_callViF (As := [_]) c_X3_howIs (by first | assumption | rfl) l_X4_79 rfl rfl rfl (Nat.le_of_ble_eq_true rfl) dX4_find_23 (t_X3_howIs ha hK16 hTT hWT) ?_
        refine r_iconst dX4_find_26 (v := 4) rfl ?_
        refine r_icmp_eq dX4_find_27 (tgt := 33) (by decide) (fun h27 => ?_) (fun h27 => ?_)
        · --t
          refine r_aload_n dX4_find_33 0 rfl ?_
          refine r_getR (b := 19) (by first | assumption | rfl) f_X4_19 rfl rfl dX4_find_34 rfl ?_
          refine r_aload_n dX4_find_37 0 rfl ?_
          refine r_getR (b := 1) (by first | assumption | rfl) f_X4_10 rfl rfl dX4_find_38 rfl ?_
          refine r_callVv (As := [_]) c_X0_note (by first | assumption | rfl) l_X4_45 rfl rfl rfl (Nat.le_of_ble_eq_true rfl) dX4_find_41 (t_X0_note hH hW hS) (fun u41 q41 => ?_)
          obtain ⟨-, g1, f1⟩ := q41
          have hS1 := hS.fh hW.cn.2 f1
          have hTT1 : TP u41 (4 + 3 * T) (N.2 T) := hS1.2 T hT
          refine r_aload_n dX4_find_44 3 rfl ?_
          refine r_getR (by first | assumption | rfl) f_X4_82 rfl rfl dX4_find_45 (by first | assumption | rfl) ?_
          refine r_iload_n dX4_find_48 2 rfl ?_
          refine r_iald (j := _) (by first | assumption | rfl) (by first | assumption | rfl) (by first | assumption | decide) dX4_find_49 ?_
          refine r_istore (lo2 := [(0, _), (1, _), (2, _), (3, _), (4, _)]) dX4_find_50 (Nat.le_of_ble_eq_true rfl) [1, 2, 3, 4, 0] rfl ?_
          refine r_aload_n dX4_find_52 3 rfl ?_
          refine r_iload_n dX4_find_53 2 rfl ?_
          refine r_callVv (As := [_]) c_X3_bringHome (by first | assumption | rfl) l_X4_85 rfl rfl rfl (Nat.le_of_ble_eq_true rfl) dX4_find_54 (t_X3_bringHome ha hK16 hTT1) (fun u54 q54 => ?_)
          obtain ⟨-, g2, f2⟩ := q54
          refine r_aload_n dX4_find_57 0 rfl ?_
          refine r_iload dX4_find_58 4 rfl ?_
          refine r_callVi (As := [_]) c_X4_recorded (by first | assumption | rfl) l_X4_53 rfl rfl rfl (Nat.le_of_ble_eq_true rfl) dX4_find_60 (t_X4_recorded (g1.fs (fs_fr f2 hT5))) (fun r60 u60 q60 => ?_)
          obtain ⟨e3, g3, f3⟩ := q60
          cases e3
          refine r_iret rfl dX4_find_63 ?_
          have e1 : u41 (4 + 3 * T + 1) K = (N.2 T).2.2.1 K := (hTT1.2.2 K hK16).1
          rw [e1] at g3 ⊢
          have z := hS1.tr hT hW.cn.2 g2 f2
          exact ⟨rfl, z.fh hW.cn.2 f3, g3, fun b hb => (f3 b (by omega)).trans ((fs_fr f2 hT5 b (by omega)).trans (f1 b (by omega)))⟩
        · --f
          exact absurd h4 h27
      · --f
        exact absurd (bI_yes g) (by rw [h6]; decide)
    · rw [if_neg h4]
      refine r_aload_n dX4_find_0 0 rfl ?_
      refine r_iload_n dX4_find_1 1 rfl ?_
      refine r_iload_n dX4_find_2 2 rfl ?_
      refine r_callViF (As := [_, _]) c_X4_isScout (by first | assumption | rfl) l_X4_71 rfl rfl rfl (Nat.le_of_ble_eq_true rfl) dX4_find_3 (t_X4_isScout hW hS) ?_
      refine r_if_ne dX4_find_6 (tgt := 11) (by decide) (fun h6 => ?_) (fun h6 => ?_)
      · --t
        refine r_aload_n dX4_find_11 0 rfl ?_
        refine r_getR (b := 1) (by first | assumption | rfl) f_X4_10 rfl rfl dX4_find_12 rfl ?_
        refine r_getR (b := 3) (by first | assumption | rfl) f_X4_75 rfl rfl dX4_find_15 rfl ?_
        refine r_iload_n dX4_find_18 1 rfl ?_
        refine r_aald10 (j := _) (by first | assumption | rfl) (by first | assumption | rfl) (by first | assumption | decide) (rf3 _) dX4_find_19 ?_
        refine r_astore_n (lo2 := [(0, _), (1, _), (2, _), (3, _)]) dX4_find_20 rfl (Nat.le_of_ble_eq_true rfl) [1, 2, 3, 0] rfl ?_
        refine r_aload_n dX4_find_21 3 rfl ?_
        refine r_iload_n dX4_find_22 2 rfl ?_
        refine r_callViF (As := [_]) c_X3_howIs (by first | assumption | rfl) l_X4_79 rfl rfl rfl (Nat.le_of_ble_eq_true rfl) dX4_find_23 (t_X3_howIs ha hK16 hTT hWT) ?_
        refine r_iconst dX4_find_26 (v := 4) rfl ?_
        refine r_icmp_eq dX4_find_27 (tgt := 33) (by decide) (fun h27 => ?_) (fun h27 => ?_)
        · --t
          exact absurd h27 h4
        · --f
          refine r_bipush dX4_find_30 (v := -5) (by decide +kernel) ?_
          refine r_iret rfl dX4_find_32 ?_
          exact ⟨rfl, hS, hH, fun _ _ => rfl⟩
      · --f
        exact absurd (bI_yes g) (by rw [h6]; decide)
end PUB
end
section
/-! the class's public methods: set, undo, slots, the pad -/
def SL (S : mS) (sv : Nat → Bool) (sl : Nat → mN) : Prop := ∀ j, j < 2 → S 184 j = bI (sv j) ∧ (sv j = true → WN (sl j) ∧ SP S (148 + 18 * j) (sl j))
theorem SL.off {S u : mS} {sv : Nat → Bool} {sl : Nat → mN} (h : SL S sv sl) (g : ∀ c, 148 ≤ c → c < 185 → u c = S c) : SL u sv sl := fun j hj =>
  ⟨by rw [g 184 (by omega) (by omega)]; exact (h j hj).1, fun z => ⟨((h j hj).2 z).1, ((h j hj).2 z).2.off ((h j hj).2 z).1.cn.2 (fun c c1 c2 => g c (by omega) (by omega))⟩⟩
def savA (N : mN) (s : Int32) : Int32 := if s < 0 ∨ 1 < s then -2 else N.1 3
def svB (s : Int32) (sv : Nat → Bool) : Nat → Bool := if s < 0 ∨ 1 < s then sv else fun j => if j = s.toNatClampNeg then true else sv j
def svL (s : Int32) (N : mN) (sl : Nat → mN) : Nat → mN := if s < 0 ∨ 1 < s then sl else fun j => if j = s.toNatClampNeg then N else sl j
def resO (N : mN) (sv : Nat → Bool) (sl : Nat → mN) (s : Int32) : Int32 × mN := if s < 0 ∨ 1 < s then (-2, N) else if sv s.toNatClampNeg = true then ((sl s.toNatClampNeg).1 3, sl s.toNatClampNeg) else (-5, N)
def undA (n : Nat) : Int32 := if n = 0 then -5 else nI (n - 1)
def undN (n : Nat) (h : Nat → mN) (N : mN) : mN := if n = 0 then N else h (n - 1)
theorem le1_of {s : Int32} (h : s < 2) : s ≤ 1 := by
  rw [Int32.lt_iff_toInt_lt] at h
  rw [Int32.le_iff_toInt_le]
  have e1 : (1 : Int32).toInt = 1 := by decide
  have e2 : (2 : Int32).toInt = 2 := by decide
  omega
theorem sl_cases (s : Int32) : (s < 0 ∨ 1 < s) ∨ ∃ j, j < 2 ∧ s = nI j ∧ s.toNatClampNeg = j ∧ ¬ (s < 0 ∨ 1 < s) := by
  by_cases h : s < 0 ∨ 1 < s
  · exact Or.inl h
  · right
    have a1 : ¬ s < 0 := fun z => h (Or.inl z)
    have a2 : ¬ 1 < s := fun z => h (Or.inr z)
    obtain ⟨j, hj, rfl⟩ := nI_of a1
    rw [show (1 : Int32) = nI 1 from rfl, nI_ltI (by omega) hj] at a2
    exact ⟨j, by omega, rfl, nI_clamp hj, h⟩
section PUB
variable {G : mG} {d : Nat} {S : mS} {N : mN} {n : Nat} {h : Nat → mN} {t k c s v x : Int32} {sv : Nat → Bool} {sl : Nat → mN} {P : Nat → Int32} {len : Nat}
theorem kd148 {j : Nat} (hj : j < 2) : kd (148 + 18 * j) = 2 := (by decide +kernel : ∀ j, j < 2 → kd (148 + 18 * j) = 2) j hj
theorem SP.stn {S : mS} {N : mN} (hS : SP S 1 N) {i : Nat} (hi : i < 2) {y : Int32} : SP (up1 S 2 (upd (S 2) i y)) 1 (upd N.1 i y, N.2) := by
  refine ⟨?_, fun t ht => ?_⟩
  · rw [up1_s, up1_n (show 1 ≠ 2 by omega)]
    refine ⟨?_, ?_, hS.1.2.2.1.trans ?_, hS.1.2.2.2.1.trans ?_, hS.1.2.2.2.2.trans ?_⟩
    · show upd (S 2) i y 0 = upd N.1 i y 0
      have e := hS.1.1
      simp only [upd]; split
      · rfl
      · exact e
    · show upd (S 2) i y 1 = upd N.1 i y 1
      have e := hS.1.2.1
      simp only [upd]; split
      · rfl
      · exact e
    · simp only [upd]; rw [if_neg (by omega)]
    · simp only [upd]; rw [if_neg (by omega)]
    · simp only [upd]; rw [if_neg (by omega)]
  · have e : cnt (upd N.1 i y, N.2) = cnt N := cnt_g (by simp only [upd]; rw [if_neg (by omega)])
    rw [e] at ht
    exact (hS.2 t ht).off (fun x hx => up1_n (by omega))
theorem t_X4_set (hW : WN N) (hS : SP S 1 N) (hH : HP S n h) : Call G (d + 7) M_X4_set [rv G 0, .int s, .int v] S (fun r u => r = some (setO N s v).1 ∧ SP u 1 (setO N s v).2 ∧ HP u (rcN (setO N s v).1 n) (rcH (setO N s v).1 n h N) ∧ FC S u) := by
  refine call_of (lo := [(0, rv G 0), (1, .int s), (2, .int v)]) (by decide +kernel) (Nat.le_of_ble_eq_true rfl) rfl ?_
  unfold setO
  by_cases hc : (s = 0 ∧ 0 ≤ v ∧ v ≤ 99) ∨ (s = 1 ∧ 1 ≤ v ∧ v ≤ 99)
  · rw [if_pos hc]
    obtain ⟨i, hi, rfl, ei⟩ : ∃ i, i < 2 ∧ s = nI i ∧ s.toNatClampNeg = i := by
      rcases hc with ⟨rfl, -⟩ | ⟨rfl, -⟩
      · exact ⟨0, by omega, rfl, rfl⟩
      · exact ⟨1, by omega, rfl, rfl⟩
    have hl : i < ln 2 := hi
    have hs0 : ¬ nI i < 0 := nI_pos (by omega)
    have hs2 : nI i < 2 := nI_lt (b := 2) hi (by decide)
    rw [ei]
    have hv99 : v ≤ 99 := by rcases hc with ⟨-, -, z⟩ | ⟨-, -, z⟩ <;> exact z
    have hW2 : WN (upd N.1 i v, N.2) := hW.glob (by simp only [upd]; rw [if_neg (by omega)])
    have hlow : (nI i = 1 → 1 ≤ v) ∧ (¬ nI i = 1 → 0 ≤ v) := by
      rcases hc with ⟨z, y, -⟩ | ⟨z, y, -⟩
      · rw [z]; exact ⟨fun y => absurd y (by decide), fun _ => y⟩
      · exact ⟨fun _ => y, fun y => absurd z y⟩
    refine r_iload_n dX4_set_0 1 rfl ?_
    refine r_if_lt dX4_set_1 (tgt := 9) (by decide) (fun h1 => ?_) (fun h1 => ?_)
    · --t
      exact absurd h1 hs0
    · --f
      refine r_iload_n dX4_set_4 1 rfl ?_
      refine r_iconst dX4_set_5 (v := 2) rfl ?_
      refine r_icmp_lt dX4_set_6 (tgt := 12) (by decide) (fun h6 => ?_) (fun h6 => ?_)
      · --t
        refine r_iload_n dX4_set_12 1 rfl ?_
        refine r_iconst dX4_set_13 (v := 1) rfl ?_
        refine r_icmp_ne dX4_set_14 (tgt := 21) (by decide) (fun h14 => ?_) (fun h14 => ?_)
        · --t
          refine r_iconst dX4_set_21 (v := 0) rfl ?_
          refine r_istore_n (lo2 := [(0, _), (1, _), (2, _), (3, _)]) dX4_set_22 rfl (Nat.le_of_ble_eq_true rfl) [1, 2, 3, 0] rfl ?_
          refine r_iload_n dX4_set_23 2 rfl ?_
          refine r_iload_n dX4_set_24 3 rfl ?_
          refine r_icmp_lt dX4_set_25 (tgt := 34) (by decide) (fun h25 => ?_) (fun h25 => ?_)
          · --t
            exact (by first | exact absurd (hlow.1 h14) (Int32.not_le.mpr h25) | exact absurd (hlow.2 h14) (Int32.not_le.mpr h25))
          · --f
            refine r_iload_n dX4_set_28 2 rfl ?_
            refine r_bipush dX4_set_29 (v := 99) (by decide +kernel) ?_
            refine r_icmp_le dX4_set_31 (tgt := 37) (by decide) (fun h31 => ?_) (fun h31 => ?_)
            · --t
              refine r_aload_n dX4_set_37 0 rfl ?_
              refine r_getR (b := 19) (by first | assumption | rfl) f_X4_19 rfl rfl dX4_set_38 rfl ?_
              refine r_aload_n dX4_set_41 0 rfl ?_
              refine r_getR (b := 1) (by first | assumption | rfl) f_X4_10 rfl rfl dX4_set_42 rfl ?_
              refine r_callVv (As := [_]) c_X0_note (by first | assumption | rfl) l_X4_45 rfl rfl rfl (Nat.le_of_ble_eq_true rfl) dX4_set_45 (t_X0_note hH hW hS) (fun u45 q45 => ?_)
              obtain ⟨-, g1, f1⟩ := q45
              have hS1 := hS.fh hW.cn.2 f1
              refine r_aload_n dX4_set_48 0 rfl ?_
              refine r_getR (b := 1) (by first | assumption | rfl) f_X4_10 rfl rfl dX4_set_49 rfl ?_
              refine r_getR (b := 2) (by first | assumption | rfl) f_X4_49 rfl rfl dX4_set_52 rfl ?_
              refine r_iload_n dX4_set_55 1 rfl ?_
              refine r_iald (j := i) (by first | assumption | rfl) (by first | assumption | rfl) (by first | assumption | decide) dX4_set_56 ?_
              refine r_istore (lo2 := [(0, _), (1, _), (2, _), (3, _), (4, _)]) dX4_set_57 (Nat.le_of_ble_eq_true rfl) [1, 2, 3, 4, 0] rfl ?_
              refine r_aload_n dX4_set_59 0 rfl ?_
              refine r_getR (b := 1) (by first | assumption | rfl) f_X4_10 rfl rfl dX4_set_60 rfl ?_
              refine r_getR (b := 2) (by first | assumption | rfl) f_X4_49 rfl rfl dX4_set_63 rfl ?_
              refine r_iload_n dX4_set_66 1 rfl ?_
              refine r_iload_n dX4_set_67 2 rfl ?_
              refine r_iast (j := i) (by first | assumption | rfl) (by first | assumption | rfl) (by first | assumption | decide) dX4_set_68 ?_
              refine r_aload_n dX4_set_69 0 rfl ?_
              refine r_iload dX4_set_70 4 rfl ?_
              refine r_callVi (As := [_]) c_X4_recorded (by first | assumption | rfl) l_X4_53 rfl rfl rfl (Nat.le_of_ble_eq_true rfl) dX4_set_72 (t_X4_recorded (N := N) (g1.off (fun c c1 c2 => up1_n (by omega)))) (fun r72 u72 q72 => ?_)
              obtain ⟨e3, g3, f3⟩ := q72
              cases e3
              refine r_iret rfl dX4_set_75 ?_
              have e1 : u45 2 i = N.1 i := by
                have z0 : u45 2 0 = N.1 0 := hS1.1.1
                have z1 : u45 2 1 = N.1 1 := hS1.1.2.1
                rcases (by omega : i = 0 ∨ i = 1) with rfl | rfl
                · exact z0
                · exact z1
              rw [e1] at g3 ⊢
              exact ⟨rfl, (hS1.stn hi).fh hW2.cn.2 f3, g3, fun b hb => (f3 b (by omega)).trans ((up1_n (by omega)).trans (f1 b (by omega)))⟩
            · --f
              exact absurd hv99 h31
        · --f
          refine r_iconst dX4_set_17 (v := 1) rfl ?_
          refine r_goto dX4_set_18 (tgt := 22) (by decide) ?_
          refine r_istore_n (lo2 := [(0, _), (1, _), (2, _), (3, _)]) dX4_set_22 rfl (Nat.le_of_ble_eq_true rfl) [1, 2, 3, 0] rfl ?_
          refine r_iload_n dX4_set_23 2 rfl ?_
          refine r_iload_n dX4_set_24 3 rfl ?_
          refine r_icmp_lt dX4_set_25 (tgt := 34) (by decide) (fun h25 => ?_) (fun h25 => ?_)
          · --t
            exact (by first | exact absurd (hlow.1 h14) (Int32.not_le.mpr h25) | exact absurd (hlow.2 h14) (Int32.not_le.mpr h25))
          · --f
            refine r_iload_n dX4_set_28 2 rfl ?_
            refine r_bipush dX4_set_29 (v := 99) (by decide +kernel) ?_
            refine r_icmp_le dX4_set_31 (tgt := 37) (by decide) (fun h31 => ?_) (fun h31 => ?_)
            · --t
              refine r_aload_n dX4_set_37 0 rfl ?_
              refine r_getR (b := 19) (by first | assumption | rfl) f_X4_19 rfl rfl dX4_set_38 rfl ?_
              refine r_aload_n dX4_set_41 0 rfl ?_
              refine r_getR (b := 1) (by first | assumption | rfl) f_X4_10 rfl rfl dX4_set_42 rfl ?_
              refine r_callVv (As := [_]) c_X0_note (by first | assumption | rfl) l_X4_45 rfl rfl rfl (Nat.le_of_ble_eq_true rfl) dX4_set_45 (t_X0_note hH hW hS) (fun u45 q45 => ?_)
              obtain ⟨-, g1, f1⟩ := q45
              have hS1 := hS.fh hW.cn.2 f1
              refine r_aload_n dX4_set_48 0 rfl ?_
              refine r_getR (b := 1) (by first | assumption | rfl) f_X4_10 rfl rfl dX4_set_49 rfl ?_
              refine r_getR (b := 2) (by first | assumption | rfl) f_X4_49 rfl rfl dX4_set_52 rfl ?_
              refine r_iload_n dX4_set_55 1 rfl ?_
              refine r_iald (j := i) (by first | assumption | rfl) (by first | assumption | rfl) (by first | assumption | decide) dX4_set_56 ?_
              refine r_istore (lo2 := [(0, _), (1, _), (2, _), (3, _), (4, _)]) dX4_set_57 (Nat.le_of_ble_eq_true rfl) [1, 2, 3, 4, 0] rfl ?_
              refine r_aload_n dX4_set_59 0 rfl ?_
              refine r_getR (b := 1) (by first | assumption | rfl) f_X4_10 rfl rfl dX4_set_60 rfl ?_
              refine r_getR (b := 2) (by first | assumption | rfl) f_X4_49 rfl rfl dX4_set_63 rfl ?_
              refine r_iload_n dX4_set_66 1 rfl ?_
              refine r_iload_n dX4_set_67 2 rfl ?_
              refine r_iast (j := i) (by first | assumption | rfl) (by first | assumption | rfl) (by first | assumption | decide) dX4_set_68 ?_
              refine r_aload_n dX4_set_69 0 rfl ?_
              refine r_iload dX4_set_70 4 rfl ?_
              refine r_callVi (As := [_]) c_X4_recorded (by first | assumption | rfl) l_X4_53 rfl rfl rfl (Nat.le_of_ble_eq_true rfl) dX4_set_72 (t_X4_recorded (N := N) (g1.off (fun c c1 c2 => up1_n (by omega)))) (fun r72 u72 q72 => ?_)
              obtain ⟨e3, g3, f3⟩ := q72
              cases e3
              refine r_iret rfl dX4_set_75 ?_
              have e1 : u45 2 i = N.1 i := by
                have z0 : u45 2 0 = N.1 0 := hS1.1.1
                have z1 : u45 2 1 = N.1 1 := hS1.1.2.1
                rcases (by omega : i = 0 ∨ i = 1) with rfl | rfl
                · exact z0
                · exact z1
              rw [e1] at g3 ⊢
              exact ⟨rfl, (hS1.stn hi).fh hW2.cn.2 f3, g3, fun b hb => (f3 b (by omega)).trans ((up1_n (by omega)).trans (f1 b (by omega)))⟩
            · --f
              exact absurd hv99 h31
      · --f
        exact absurd hs2 h6
  · rw [if_neg hc]
    have big : s < 0 ∨ ¬ s < 2 ∨ (s = 1 ∧ (v < 1 ∨ ¬ v ≤ 99)) ∨ (¬ s = 1 ∧ (v < 0 ∨ ¬ v ≤ 99)) := by
      by_cases a1 : s < 0
      · exact Or.inl a1
      · by_cases a2 : s < 2
        · right; right
          by_cases a3 : s = 1
          · left
            refine ⟨a3, ?_⟩
            by_cases a4 : v < 1
            · exact Or.inl a4
            · exact Or.inr (fun z => hc (Or.inr ⟨a3, Int32.not_lt.mp a4, z⟩))
          · right
            refine ⟨a3, ?_⟩
            have a0 : s = 0 := by
              obtain ⟨j, hj, rfl⟩ := nI_of a1
              rw [show (2 : Int32) = nI 2 from rfl, nI_ltI hj (by omega)] at a2
              rw [show (1 : Int32) = nI 1 from rfl, nI_eq hj (by omega)] at a3
              rw [show j = 0 by omega]; rfl
            by_cases a4 : v < 0
            · exact Or.inl a4
            · exact Or.inr (fun z => hc (Or.inl ⟨a0, Int32.not_lt.mp a4, z⟩))
        · exact Or.inr (Or.inl a2)
    refine r_iload_n dX4_set_0 1 rfl ?_
    refine r_if_lt dX4_set_1 (tgt := 9) (by decide) (fun h1 => ?_) (fun h1 => ?_)
    · --t
      refine r_bipush dX4_set_9 (v := -2) (by decide +kernel) ?_
      refine r_iret rfl dX4_set_11 ?_
      exact ⟨rfl, hS, hH, fun _ _ => rfl⟩
    · --f
      refine r_iload_n dX4_set_4 1 rfl ?_
      refine r_iconst dX4_set_5 (v := 2) rfl ?_
      refine r_icmp_lt dX4_set_6 (tgt := 12) (by decide) (fun h6 => ?_) (fun h6 => ?_)
      · --t
        refine r_iload_n dX4_set_12 1 rfl ?_
        refine r_iconst dX4_set_13 (v := 1) rfl ?_
        refine r_icmp_ne dX4_set_14 (tgt := 21) (by decide) (fun h14 => ?_) (fun h14 => ?_)
        · --t
          refine r_iconst dX4_set_21 (v := 0) rfl ?_
          refine r_istore_n (lo2 := [(0, _), (1, _), (2, _), (3, _)]) dX4_set_22 rfl (Nat.le_of_ble_eq_true rfl) [1, 2, 3, 0] rfl ?_
          refine r_iload_n dX4_set_23 2 rfl ?_
          refine r_iload_n dX4_set_24 3 rfl ?_
          refine r_icmp_lt dX4_set_25 (tgt := 34) (by decide) (fun h25 => ?_) (fun h25 => ?_)
          · --t
            refine r_bipush dX4_set_34 (v := -2) (by decide +kernel) ?_
            refine r_iret rfl dX4_set_36 ?_
            exact ⟨rfl, hS, hH, fun _ _ => rfl⟩
          · --f
            refine r_iload_n dX4_set_28 2 rfl ?_
            refine r_bipush dX4_set_29 (v := 99) (by decide +kernel) ?_
            refine r_icmp_le dX4_set_31 (tgt := 37) (by decide) (fun h31 => ?_) (fun h31 => ?_)
            · --t
              rcases big with z | z | ⟨z, y⟩ | ⟨z, y⟩
              · exact absurd z h1
              · exact absurd h6 z
              · first | exact absurd z h14 | exact (y.elim h25 (fun w => w h31)).elim
              · first | exact absurd h14 z | exact (y.elim h25 (fun w => w h31)).elim
            · --f
              refine r_bipush dX4_set_34 (v := -2) (by decide +kernel) ?_
              refine r_iret rfl dX4_set_36 ?_
              exact ⟨rfl, hS, hH, fun _ _ => rfl⟩
        · --f
          refine r_iconst dX4_set_17 (v := 1) rfl ?_
          refine r_goto dX4_set_18 (tgt := 22) (by decide) ?_
          refine r_istore_n (lo2 := [(0, _), (1, _), (2, _), (3, _)]) dX4_set_22 rfl (Nat.le_of_ble_eq_true rfl) [1, 2, 3, 0] rfl ?_
          refine r_iload_n dX4_set_23 2 rfl ?_
          refine r_iload_n dX4_set_24 3 rfl ?_
          refine r_icmp_lt dX4_set_25 (tgt := 34) (by decide) (fun h25 => ?_) (fun h25 => ?_)
          · --t
            refine r_bipush dX4_set_34 (v := -2) (by decide +kernel) ?_
            refine r_iret rfl dX4_set_36 ?_
            exact ⟨rfl, hS, hH, fun _ _ => rfl⟩
          · --f
            refine r_iload_n dX4_set_28 2 rfl ?_
            refine r_bipush dX4_set_29 (v := 99) (by decide +kernel) ?_
            refine r_icmp_le dX4_set_31 (tgt := 37) (by decide) (fun h31 => ?_) (fun h31 => ?_)
            · --t
              rcases big with z | z | ⟨z, y⟩ | ⟨z, y⟩
              · exact absurd z h1
              · exact absurd h6 z
              · first | exact absurd z h14 | exact (y.elim h25 (fun w => w h31)).elim
              · first | exact absurd h14 z | exact (y.elim h25 (fun w => w h31)).elim
            · --f
              refine r_bipush dX4_set_34 (v := -2) (by decide +kernel) ?_
              refine r_iret rfl dX4_set_36 ?_
              exact ⟨rfl, hS, hH, fun _ _ => rfl⟩
      · --f
        refine r_bipush dX4_set_9 (v := -2) (by decide +kernel) ?_
        refine r_iret rfl dX4_set_11 ?_
        exact ⟨rfl, hS, hH, fun _ _ => rfl⟩
theorem t_X4_undo (hW : WN N) (hS : SP S 1 N) (hH : HP S n h) : Call G (d + 7) M_X4_undo [rv G 0] S (fun r u => r = some (undA n) ∧ SP u 1 (undN n h N) ∧ WN (undN n h N) ∧ HP u (n - 1) h ∧ FC S u) := by
  refine call_of (lo := [(0, rv G 0)]) (by decide +kernel) (Nat.le_of_ble_eq_true rfl) rfl ?_
  have en : S 19 2 = nI n := by obtain ⟨o, -, ⟨-, z⟩, -⟩ := hH; exact z
  have hn6 : n ≤ 6 := by obtain ⟨o, -, ⟨z, -⟩, -⟩ := hH; exact z
  unfold undA undN
  by_cases hn : n = 0
  · subst hn
    rw [if_pos rfl, if_pos rfl]
    refine r_aload_n dX4_undo_0 0 rfl ?_
    refine r_getR (b := 19) (by first | assumption | rfl) f_X4_19 rfl rfl dX4_undo_1 rfl ?_
    refine r_getI (by first | assumption | rfl) f_X4_180 rfl rfl dX4_undo_4 ?_
    refine r_if_ne dX4_undo_7 (tgt := 13) (by decide) (fun h7 => ?_) (fun h7 => ?_)
    · --t
      exact absurd en h7
    · --f
      refine r_bipush dX4_undo_10 (v := -5) (by decide +kernel) ?_
      refine r_iret rfl dX4_undo_12 ?_
      exact ⟨rfl, hS, hW, hH, fun _ _ => rfl⟩
  · rw [if_neg hn, if_neg hn]
    refine r_aload_n dX4_undo_0 0 rfl ?_
    refine r_getR (b := 19) (by first | assumption | rfl) f_X4_19 rfl rfl dX4_undo_1 rfl ?_
    refine r_getI (by first | assumption | rfl) f_X4_180 rfl rfl dX4_undo_4 ?_
    refine r_if_ne dX4_undo_7 (tgt := 13) (by decide) (fun h7 => ?_) (fun h7 => ?_)
    · --t
      refine r_aload_n dX4_undo_13 0 rfl ?_
      refine r_getR (b := 19) (by first | assumption | rfl) f_X4_19 rfl rfl dX4_undo_14 rfl ?_
      refine r_aload_n dX4_undo_17 0 rfl ?_
      refine r_getR (b := 1) (by first | assumption | rfl) f_X4_10 rfl rfl dX4_undo_18 rfl ?_
      refine r_callVv (As := [_]) c_X0_takeBackInto (by first | assumption | rfl) l_X4_229 rfl rfl rfl (Nat.le_of_ble_eq_true rfl) dX4_undo_21 (t_X0_takeBackInto hH (by omega)) (fun u21 q21 => ?_)
      obtain ⟨-, g1, w1, g2, f1⟩ := q21
      refine r_aload_n dX4_undo_24 0 rfl ?_
      refine r_getR (b := 19) (by first | assumption | rfl) f_X4_19 rfl rfl dX4_undo_25 rfl ?_
      refine r_getI (by first | assumption | rfl) f_X4_180 rfl rfl dX4_undo_28 ?_
      refine r_iret rfl dX4_undo_31 ?_
      have e2 : u21 19 2 = nI (n - 1) := by obtain ⟨o, -, ⟨-, z⟩, -⟩ := g1; exact z
      rw [e2]
      exact ⟨rfl, g2, w1, g1, f1⟩
    · --f
      exact absurd (by rw [en] at h7; exact h7) (nI_ne0 (by omega) (by omega))
theorem t_X4_save (hW : WN N) (hS : SP S 1 N) (hL : SL S sv sl) : Call G (d + 6) M_X4_save [rv G 0, .int s] S (fun r u => r = some (savA N s) ∧ SL u (svB s sv) (svL s N sl) ∧ ∀ c, (c < 148 ∨ 185 ≤ c) → u c = S c) := by
  refine call_of (lo := [(0, rv G 0), (1, .int s)]) (by decide +kernel) (Nat.le_of_ble_eq_true rfl) rfl ?_
  unfold savA svB svL
  rcases sl_cases s with g | ⟨j, hj, rfl, ej, g⟩
  · rw [if_pos g, if_pos g, if_pos g]
    refine r_iload_n dX4_save_0 1 rfl ?_
    refine r_if_lt dX4_save_1 (tgt := 9) (by decide) (fun h1 => ?_) (fun h1 => ?_)
    · --t
      refine r_bipush dX4_save_9 (v := -2) (by decide +kernel) ?_
      refine r_iret rfl dX4_save_11 ?_
      exact ⟨rfl, hL, fun _ _ => rfl⟩
    · --f
      refine r_iload_n dX4_save_4 1 rfl ?_
      refine r_iconst dX4_save_5 (v := 2) rfl ?_
      refine r_icmp_lt dX4_save_6 (tgt := 12) (by decide) (fun h6 => ?_) (fun h6 => ?_)
      · --t
        exact (g.elim h1 (fun z => absurd z (by first | exact Int32.not_lt.mpr (le1_of h6)))).elim
      · --f
        refine r_bipush dX4_save_9 (v := -2) (by decide +kernel) ?_
        refine r_iret rfl dX4_save_11 ?_
        exact ⟨rfl, hL, fun _ _ => rfl⟩
  · rw [if_neg g, if_neg g, if_neg g, ej]
    have hs2 : nI j < 2 := nI_lt (b := 2) hj (by decide)
    have hl : j < ln 147 := hj
    have hl2 : j < ln 184 := hj
    have hk := kd148 hj
    have h1' : kd 1 = 2 := rfl
    refine r_iload_n dX4_save_0 1 rfl ?_
    refine r_if_lt dX4_save_1 (tgt := 9) (by decide) (fun h1 => ?_) (fun h1 => ?_)
    · --t
      exact absurd (Or.inl h1) g
    · --f
      refine r_iload_n dX4_save_4 1 rfl ?_
      refine r_iconst dX4_save_5 (v := 2) rfl ?_
      refine r_icmp_lt dX4_save_6 (tgt := 12) (by decide) (fun h6 => ?_) (fun h6 => ?_)
      · --t
        refine r_aload_n dX4_save_12 0 rfl ?_
        refine r_getR (b := 147) (by first | assumption | rfl) f_X4_23 rfl rfl dX4_save_13 rfl ?_
        refine r_iload_n dX4_save_16 1 rfl ?_
        refine r_aald9 (j := _) (by first | assumption | rfl) (by first | assumption | rfl) (by first | assumption | decide) (show rf 147 j = 148 + 18 * j from rfl) dX4_save_17 ?_
        refine r_aload_n dX4_save_18 0 rfl ?_
        refine r_getR (b := 1) (by first | assumption | rfl) f_X4_10 rfl rfl dX4_save_19 rfl ?_
        refine r_callVv (As := [_]) c_X2_copyFrom (by first | assumption | rfl) l_X4_232 rfl rfl rfl (Nat.le_of_ble_eq_true rfl) dX4_save_22 (t_X2_copyFrom hk h1' (by omega) hW hS) (fun u22 q22 => ?_)
        obtain ⟨-, g1, f1⟩ := q22
        refine r_aload_n dX4_save_25 0 rfl ?_
        refine r_getR (b := 184) (by first | assumption | rfl) f_X4_27 rfl rfl dX4_save_26 rfl ?_
        refine r_iload_n dX4_save_29 1 rfl ?_
        refine r_iconst dX4_save_30 (v := 1) rfl ?_
        refine r_zast (j := _) (by first | assumption | rfl) (by first | assumption | rfl) (by first | assumption | decide) dX4_save_31 ?_
        refine r_aload_n dX4_save_32 0 rfl ?_
        refine r_getR (b := 1) (by first | assumption | rfl) f_X4_10 rfl rfl dX4_save_33 rfl ?_
        refine r_getI (by first | assumption | rfl) f_X4_99 rfl rfl dX4_save_36 ?_
        refine r_iret rfl dX4_save_39 ?_
        have e1 : up1 u22 184 (upd (u22 184) j (vp_nar .boolean 1)) 1 2 = N.1 3 := by rw [up1_n (by omega), f1 1 (by omega)]; exact hS.1.2.2.1
        rw [e1]
        refine ⟨rfl, fun i hi => ?_, fun c hc => (up1_n (by omega)).trans (f1 c (by omega))⟩
        dsimp only
        by_cases e : i = j
        · subst e
          rw [if_pos rfl, if_pos rfl]
          exact ⟨by rw [up1_s, upd, if_pos rfl]; rfl, fun _ => ⟨hW, g1.off hW.cn.2 (fun c c1 c2 => up1_n (by omega))⟩⟩
        · rw [if_neg e, if_neg e]
          refine ⟨by rw [up1_s, upd, if_neg e, f1 184 (by omega)]; exact (hL i hi).1, fun z => ⟨((hL i hi).2 z).1, ((hL i hi).2 z).2.off ((hL i hi).2 z).1.cn.2 (fun c c1 c2 => (up1_n (by omega)).trans (f1 c (by omega)))⟩⟩
      · --f
        exact absurd hs2 h6
theorem t_X4_restore (hW : WN N) (hS : SP S 1 N) (hH : HP S n h) (hL : SL S sv sl) : Call G (d + 7) M_X4_restore [rv G 0, .int s] S (fun r u => r = some (resO N sv sl s).1 ∧ SP u 1 (resO N sv sl s).2 ∧ WN (resO N sv sl s).2 ∧ HP u (rcN (resO N sv sl s).1 n) (rcH (resO N sv sl s).1 n h N) ∧ FC S u) := by
  refine call_of (lo := [(0, rv G 0), (1, .int s)]) (by decide +kernel) (Nat.le_of_ble_eq_true rfl) rfl ?_
  unfold resO
  rcases sl_cases s with g | ⟨j, hj, rfl, ej, g⟩
  · rw [if_pos g]
    refine r_iload_n dX4_restore_0 1 rfl ?_
    refine r_if_lt dX4_restore_1 (tgt := 9) (by decide) (fun h1 => ?_) (fun h1 => ?_)
    · --t
      refine r_bipush dX4_restore_9 (v := -2) (by decide +kernel) ?_
      refine r_iret rfl dX4_restore_11 ?_
      exact ⟨rfl, hS, hW, hH, fun _ _ => rfl⟩
    · --f
      refine r_iload_n dX4_restore_4 1 rfl ?_
      refine r_iconst dX4_restore_5 (v := 2) rfl ?_
      refine r_icmp_lt dX4_restore_6 (tgt := 12) (by decide) (fun h6 => ?_) (fun h6 => ?_)
      · --t
        exact (g.elim h1 (fun z => absurd z (Int32.not_lt.mpr (le1_of h6)))).elim
      · --f
        refine r_bipush dX4_restore_9 (v := -2) (by decide +kernel) ?_
        refine r_iret rfl dX4_restore_11 ?_
        exact ⟨rfl, hS, hW, hH, fun _ _ => rfl⟩
  · rw [if_neg g, ej]
    have hs2 : nI j < 2 := nI_lt (b := 2) hj (by decide)
    have hl : j < ln 147 := hj
    have hl2 : j < ln 184 := hj
    have hk := kd148 hj
    have h1' : kd 1 = 2 := rfl
    have es := (hL j hj).1
    cases esv : sv j
    · rw [if_neg (by decide)]
      rw [esv] at es
      refine r_iload_n dX4_restore_0 1 rfl ?_
      refine r_if_lt dX4_restore_1 (tgt := 9) (by decide) (fun h1 => ?_) (fun h1 => ?_)
      · --t
        exact absurd (Or.inl h1) g
      · --f
        refine r_iload_n dX4_restore_4 1 rfl ?_
        refine r_iconst dX4_restore_5 (v := 2) rfl ?_
        refine r_icmp_lt dX4_restore_6 (tgt := 12) (by decide) (fun h6 => ?_) (fun h6 => ?_)
        · --t
          refine r_aload_n dX4_restore_12 0 rfl ?_
          refine r_getR (b := 184) (by first | assumption | rfl) f_X4_27 rfl rfl dX4_restore_13 rfl ?_
          refine r_iload_n dX4_restore_16 1 rfl ?_
          refine r_zald (j := _) (by first | assumption | rfl) (by first | assumption | rfl) (by first | assumption | decide) dX4_restore_17 ?_
          refine r_if_ne dX4_restore_18 (tgt := 24) (by decide) (fun h18 => ?_) (fun h18 => ?_)
          · --t
            exact absurd es h18
          · --f
            refine r_bipush dX4_restore_21 (v := -5) (by decide +kernel) ?_
            refine r_iret rfl dX4_restore_23 ?_
            exact ⟨rfl, hS, hW, hH, fun _ _ => rfl⟩
        · --f
          exact absurd hs2 h6
    · rw [if_pos rfl]
      rw [esv] at es
      obtain ⟨wl, pl'⟩ := (hL j hj).2 esv
      refine r_iload_n dX4_restore_0 1 rfl ?_
      refine r_if_lt dX4_restore_1 (tgt := 9) (by decide) (fun h1 => ?_) (fun h1 => ?_)
      · --t
        exact absurd (Or.inl h1) g
      · --f
        refine r_iload_n dX4_restore_4 1 rfl ?_
        refine r_iconst dX4_restore_5 (v := 2) rfl ?_
        refine r_icmp_lt dX4_restore_6 (tgt := 12) (by decide) (fun h6 => ?_) (fun h6 => ?_)
        · --t
          refine r_aload_n dX4_restore_12 0 rfl ?_
          refine r_getR (b := 184) (by first | assumption | rfl) f_X4_27 rfl rfl dX4_restore_13 rfl ?_
          refine r_iload_n dX4_restore_16 1 rfl ?_
          refine r_zald (j := _) (by first | assumption | rfl) (by first | assumption | rfl) (by first | assumption | decide) dX4_restore_17 ?_
          refine r_if_ne dX4_restore_18 (tgt := 24) (by decide) (fun h18 => ?_) (fun h18 => ?_)
          · --t
            refine r_aload_n dX4_restore_24 0 rfl ?_
            refine r_getR (b := 19) (by first | assumption | rfl) f_X4_19 rfl rfl dX4_restore_25 rfl ?_
            refine r_aload_n dX4_restore_28 0 rfl ?_
            refine r_getR (b := 1) (by first | assumption | rfl) f_X4_10 rfl rfl dX4_restore_29 rfl ?_
            refine r_callVv (As := [_]) c_X0_note (by first | assumption | rfl) l_X4_45 rfl rfl rfl (Nat.le_of_ble_eq_true rfl) dX4_restore_32 (t_X0_note hH hW hS) (fun u32 q32 => ?_)
            obtain ⟨-, g1, f1⟩ := q32
            refine r_aload_n dX4_restore_35 0 rfl ?_
            refine r_getR (b := 1) (by first | assumption | rfl) f_X4_10 rfl rfl dX4_restore_36 rfl ?_
            refine r_aload_n dX4_restore_39 0 rfl ?_
            refine r_getR (b := 147) (by first | assumption | rfl) f_X4_23 rfl rfl dX4_restore_40 rfl ?_
            refine r_iload_n dX4_restore_43 1 rfl ?_
            refine r_aald9 (j := _) (by first | assumption | rfl) (by first | assumption | rfl) (by first | assumption | decide) (show rf 147 j = 148 + 18 * j from rfl) dX4_restore_44 ?_
            refine r_callVv (As := [_]) c_X2_copyFrom (by first | assumption | rfl) l_X4_232 rfl rfl rfl (Nat.le_of_ble_eq_true rfl) dX4_restore_45 (t_X2_copyFrom h1' hk (by omega) wl (pl'.off wl.cn.2 (fun c c1 c2 => f1 c (by omega)))) (fun u45 q45 => ?_)
            obtain ⟨-, g2, f2⟩ := q45
            refine r_aload_n dX4_restore_48 0 rfl ?_
            refine r_aload_n dX4_restore_49 0 rfl ?_
            refine r_getR (b := 1) (by first | assumption | rfl) f_X4_10 rfl rfl dX4_restore_50 rfl ?_
            refine r_getI (by first | assumption | rfl) f_X4_99 rfl rfl dX4_restore_53 ?_
            refine r_callVi (As := [_]) c_X4_recorded (by first | assumption | rfl) l_X4_53 rfl rfl rfl (Nat.le_of_ble_eq_true rfl) dX4_restore_56 (t_X4_recorded (N := N) (g1.fs f2)) (fun r56 u56 q56 => ?_)
            obtain ⟨e3, g3, f3⟩ := q56
            cases e3
            refine r_iret rfl dX4_restore_59 ?_
            have e1 : u45 1 2 = (sl j).1 3 := g2.1.2.2.1
            rw [e1] at g3 ⊢
            exact ⟨rfl, g2.fh wl.cn.2 f3, wl, g3, fun b hb => (f3 b (by omega)).trans ((f2 b (by omega)).trans (f1 b (by omega)))⟩
          · --f
            exact absurd (by rw [es] at h18; exact h18) (by decide)
        · --f
          exact absurd hs2 h6
end PUB
end
section
/-! the class's public methods: the pad and its orders -/
def putA (x : Int64) (len : Nat) : Int32 := if chN x 8 0 = 0 then -2 else if 80 < len + chN x 8 0 then -4 else nI (len + chN x 8 0)
def putL (x : Int64) (len : Nat) : Nat := if chN x 8 0 = 0 then len else if 80 < len + chN x 8 0 then len else len + chN x 8 0
def putP (x : Int64) (len : Nat) (P : Nat → Int32) : Nat → Int32 := if chN x 8 0 = 0 then P else if 80 < len + chN x 8 0 then P else apP P len (chN x 8 0) x
/-- carryOut: its answer, whether anything is done -/
def carOk (P : Nat → Int32) (len : Nat) : Bool := (fl P len 80 0).1
section PUB
variable {G : mG} {d : Nat} {S : mS} {N : mN} {n : Nat} {h : Nat → mN} {P : Nat → Int32} {len : Nat}
theorem t_X4_put {x : Int64} (hP : PB S P len) : Call G (d + 1) M_X4_put [rv G 0, .long x] S (fun r u => r = some (putA x len) ∧ PB u (putP x len P) (putL x len) ∧ ∀ b, b ≠ 185 → b ≠ 186 → u b = S b) := by
  refine call_of (lo := [(0, rv G 0), (1, .long x)]) (by decide +kernel) (Nat.le_of_ble_eq_true rfl) rfl ?_
  have h8 := chN_le x 8 0
  have hok := chN_ok x 8 0 (fun j hj => absurd hj (by omega))
  unfold putA putP putL
  by_cases h0 : chN x 8 0 = 0
  · rw [if_pos h0, if_pos h0, if_pos h0]
    refine r_lload_n dX4_put_0 1 rfl ?_
    refine r_callSiF (As := [_]) c_X1_charactersIn l_X4_193 rfl rfl rfl (Nat.le_of_ble_eq_true rfl) dX4_put_1 t_X1_charactersIn ?_
    refine r_istore_n (lo2 := [(0, _), (1, _), (3, _)]) dX4_put_4 rfl (Nat.le_of_ble_eq_true rfl) [1, 2, 0] rfl ?_
    refine r_iload_n dX4_put_5 2 rfl ?_
    refine r_if_ne dX4_put_6 (tgt := 12) (by decide) (fun h6 => ?_) (fun h6 => ?_)
    · --t
      exact absurd (by rw [h0]; rfl) h6
    · --f
      refine r_bipush dX4_put_9 (v := -2) (by decide +kernel) ?_
      refine r_iret rfl dX4_put_11 ?_
      exact ⟨rfl, hP, fun _ _ _ => rfl⟩
  · rw [if_neg h0, if_neg h0, if_neg h0]
    have hne : ¬ nI (chN x 8 0) = 0 := nI_ne0 (by omega) (by omega)
    have e1 : S 185 1 + nI (chN x 8 0) = nI (len + chN x 8 0) := by rw [hP.1.1, nI_add]
    have h80 := hP.1.2
    by_cases hb : 80 < len + chN x 8 0
    · rw [if_pos hb, if_pos hb, if_pos hb]
      refine r_lload_n dX4_put_0 1 rfl ?_
      refine r_callSiF (As := [_]) c_X1_charactersIn l_X4_193 rfl rfl rfl (Nat.le_of_ble_eq_true rfl) dX4_put_1 t_X1_charactersIn ?_
      refine r_istore_n (lo2 := [(0, _), (1, _), (3, _)]) dX4_put_4 rfl (Nat.le_of_ble_eq_true rfl) [1, 2, 0] rfl ?_
      refine r_iload_n dX4_put_5 2 rfl ?_
      refine r_if_ne dX4_put_6 (tgt := 12) (by decide) (fun h6 => ?_) (fun h6 => ?_)
      · --t
        refine r_aload_n dX4_put_12 0 rfl ?_
        refine r_getR (b := 185) (by first | assumption | rfl) f_X4_34 rfl rfl dX4_put_13 rfl ?_
        refine r_getI (by first | assumption | rfl) f_X4_177 rfl rfl dX4_put_16 ?_
        refine r_iload_n dX4_put_19 2 rfl ?_
        refine r_iadd dX4_put_20 ?_
        refine r_bipush dX4_put_21 (v := 80) (by decide +kernel) ?_
        refine r_icmp_le dX4_put_23 (tgt := 29) (by decide) (fun h23 => ?_) (fun h23 => ?_)
        · --t
          exact absurd (by rw [e1] at h23; exact h23) (Int32.not_le.mpr (nI_lt (a := 80) hb (by omega)))
        · --f
          refine r_bipush dX4_put_26 (v := -4) (by decide +kernel) ?_
          refine r_iret rfl dX4_put_28 ?_
          exact ⟨rfl, hP, fun _ _ _ => rfl⟩
      · --f
        exact absurd h6 hne
    · rw [if_neg hb, if_neg hb, if_neg hb]
      refine r_lload_n dX4_put_0 1 rfl ?_
      refine r_callSiF (As := [_]) c_X1_charactersIn l_X4_193 rfl rfl rfl (Nat.le_of_ble_eq_true rfl) dX4_put_1 t_X1_charactersIn ?_
      refine r_istore_n (lo2 := [(0, _), (1, _), (3, _)]) dX4_put_4 rfl (Nat.le_of_ble_eq_true rfl) [1, 2, 0] rfl ?_
      refine r_iload_n dX4_put_5 2 rfl ?_
      refine r_if_ne dX4_put_6 (tgt := 12) (by decide) (fun h6 => ?_) (fun h6 => ?_)
      · --t
        refine r_aload_n dX4_put_12 0 rfl ?_
        refine r_getR (b := 185) (by first | assumption | rfl) f_X4_34 rfl rfl dX4_put_13 rfl ?_
        refine r_getI (by first | assumption | rfl) f_X4_177 rfl rfl dX4_put_16 ?_
        refine r_iload_n dX4_put_19 2 rfl ?_
        refine r_iadd dX4_put_20 ?_
        refine r_bipush dX4_put_21 (v := 80) (by decide +kernel) ?_
        refine r_icmp_le dX4_put_23 (tgt := 29) (by decide) (fun h23 => ?_) (fun h23 => ?_)
        · --t
          refine r_aload_n dX4_put_29 0 rfl ?_
          refine r_getR (b := 185) (by first | assumption | rfl) f_X4_34 rfl rfl dX4_put_30 rfl ?_
          refine r_lload_n dX4_put_33 1 rfl ?_
          refine r_iload_n dX4_put_34 2 rfl ?_
          refine r_callVv (As := [_, _]) c_X1_addCharacters (by first | assumption | rfl) l_X4_197 rfl rfl rfl (Nat.le_of_ble_eq_true rfl) dX4_put_35 (t_X1_addCharacters hP (by omega) (fun j hj => chr_of (hok j hj))) (fun u35 q35 => ?_)
          obtain ⟨-, g1, f1⟩ := q35
          refine r_aload_n dX4_put_38 0 rfl ?_
          refine r_getR (b := 185) (by first | assumption | rfl) f_X4_34 rfl rfl dX4_put_39 rfl ?_
          refine r_getI (by first | assumption | rfl) f_X4_177 rfl rfl dX4_put_42 ?_
          refine r_iret rfl dX4_put_45 ?_
          rw [g1.1.1]
          exact ⟨rfl, g1, f1⟩
        · --f
          exact absurd (by rw [e1]; exact nI_le (b := 80) (Nat.not_lt.mp hb) (by decide)) h23
      · --f
        exact absurd h6 hne
theorem t_X4_wipe (hP : PB S P len) : Call G d M_X4_wipe [rv G 0] S (fun r u => r = some (nI len) ∧ PB u P 0 ∧ ∀ b, b ≠ 185 → u b = S b) := by
  refine call_of (lo := [(0, rv G 0)]) (by decide +kernel) (Nat.le_of_ble_eq_true rfl) rfl ?_
  refine r_aload_n dX4_wipe_0 0 rfl ?_
  refine r_getR (b := 185) (by first | assumption | rfl) f_X4_34 rfl rfl dX4_wipe_1 rfl ?_
  refine r_getI (by first | assumption | rfl) f_X4_177 rfl rfl dX4_wipe_4 ?_
  refine r_istore_n (lo2 := [(0, _), (1, _)]) dX4_wipe_7 rfl (Nat.le_of_ble_eq_true rfl) [1, 0] rfl ?_
  refine r_aload_n dX4_wipe_8 0 rfl ?_
  refine r_getR (b := 185) (by first | assumption | rfl) f_X4_34 rfl rfl dX4_wipe_9 rfl ?_
  refine r_iconst dX4_wipe_12 (v := 0) rfl ?_
  refine r_putI (by first | assumption | rfl) f_X4_177 rfl rfl rfl rfl dX4_wipe_13 ?_
  refine r_iload_n dX4_wipe_16 1 rfl ?_
  refine r_iret rfl dX4_wipe_17 ?_
  rw [hP.1.1]
  exact ⟨rfl, ⟨⟨by rw [up1_s, upd, if_pos rfl]; rfl, by omega⟩, fun j hj => absurd hj (by omega)⟩, fun b hb => up1_n hb⟩
theorem t_X4_fault (hP : PB S P len) : Call G (d + 6) M_X4_fault [rv G 0] S (fun r u => r = some (fauA P len) ∧ PB u P len ∧ ∀ b, b ≠ 185 → u b = S b) := by
  refine call_of (lo := [(0, rv G 0)]) (by decide +kernel) (Nat.le_of_ble_eq_true rfl) rfl ?_
  refine r_aload_n dX4_fault_0 0 rfl ?_
  refine r_getR (b := 185) (by first | assumption | rfl) f_X4_34 rfl rfl dX4_fault_1 rfl ?_
  refine r_callVi (As := []) c_X1_faultAt (by first | assumption | rfl) l_X4_201 rfl rfl rfl (Nat.le_of_ble_eq_true rfl) dX4_fault_4 (t_X1_faultAt hP) (fun r4 u4 q4 => ?_)
  obtain ⟨hr, g1, f1⟩ := q4
  cases hr
  refine r_iret rfl dX4_fault_7 ?_
  exact ⟨rfl, g1, f1⟩
theorem rO_kind {i : Nat} (h : (rO P len i).1 = true) : (rO P len i).2.2.1 = 110 ∨ (rO P len i).2.2.1 = 116 ∨ (rO P len i).2.2.1 = 99 ∨ (rO P len i).2.2.1 = 108 ∨ (rO P len i).2.2.1 = 115 := by
  unfold rO at h ⊢
  by_cases e1 : sg P len i = 110 ∨ sg P len i = 116
  · rw [if_pos e1]; exact e1.elim Or.inl (fun z => Or.inr (Or.inl z))
  · rw [if_neg e1] at h ⊢
    by_cases e2 : sg P len i = 99
    · rw [if_pos e2] at h ⊢
      by_cases e3 : (rB P len (i + 1) 46).1 = true
      · rw [if_pos e3] at h ⊢
        by_cases e4 : sg P len (rB P len (i + 1) 46).2.1 = 114 ∨ sg P len (rB P len (i + 1) 46).2.1 = 98
        · rw [if_pos e4]; exact Or.inr (Or.inr (Or.inl rfl))
        · rw [if_neg e4] at h; exact absurd (show false = true from h) (by decide)
      · rw [if_neg e3] at h; exact absurd (show false = true from h) (by decide)
    · rw [if_neg e2] at h ⊢
      by_cases e3 : sg P len i = 108
      · rw [if_pos e3]; exact Or.inr (Or.inr (Or.inr (Or.inl rfl)))
      · rw [if_neg e3] at h ⊢
        by_cases e4 : sg P len i = 115
        · rw [if_pos e4]; exact Or.inr (Or.inr (Or.inr (Or.inr rfl)))
        · rw [if_neg e4] at h; exact absurd (show false = true from h) (by decide)
theorem t_X4_carryOrder {k t m c : Int32} (hW : WN N) (hS : SP S 1 N) (hk : k = 110 ∨ k = 116 ∨ k = 99 ∨ k = 108 ∨ k = 115) (e3 : S 185 3 = k) (e4 : ¬ (k = 110 ∨ k = 116) → S 185 4 = t) (e5 : S 185 5 = m) (e6 : k = 99 → S 185 6 = c) : Call G (d + 5) M_X4_carryOrder [rv G 0] S (fun r u => r = some (exO N k t m c).1 ∧ SP u 1 (exO N k t m c).2 ∧ FS 1 S u) := by
  refine call_of (lo := [(0, rv G 0)]) (by decide +kernel) (Nat.le_of_ble_eq_true rfl) rfl ?_
  unfold exO
  subst e5
  refine r_aload_n dX4_carryOrder_0 0 rfl ?_
  refine r_getR (b := 185) (by first | assumption | rfl) f_X4_34 rfl rfl dX4_carryOrder_1 rfl ?_
  refine r_getI (by first | assumption | rfl) f_X4_218 rfl rfl dX4_carryOrder_4 ?_
  rw [e3]
  by_cases hk7_0 : k = 99
  · --key 99
    rw [hk7_0]
    have ek : k = _ := hk7_0
    clear hk7_0 hk
    refine r_lookup (off := 61) (tgt := 68) dX4_carryOrder_7 (by decide) (by decide) (by decide) ?_
    refine r_aload_n dX4_carryOrder_68 0 rfl ?_
    refine r_aload_n dX4_carryOrder_69 0 rfl ?_
    refine r_getR (b := 185) (by first | assumption | rfl) f_X4_34 rfl rfl dX4_carryOrder_70 rfl ?_
    refine r_getI (by first | assumption | rfl) f_X4_225 rfl rfl dX4_carryOrder_73 ?_
    refine r_aload_n dX4_carryOrder_76 0 rfl ?_
    refine r_getR (b := 185) (by first | assumption | rfl) f_X4_34 rfl rfl dX4_carryOrder_77 rfl ?_
    refine r_getI (by first | assumption | rfl) f_X4_222 rfl rfl dX4_carryOrder_80 ?_
    refine r_aload_n dX4_carryOrder_83 0 rfl ?_
    refine r_getR (b := 185) (by first | assumption | rfl) f_X4_34 rfl rfl dX4_carryOrder_84 rfl ?_
    refine r_getI (by first | assumption | rfl) f_X4_228 rfl rfl dX4_carryOrder_87 ?_
    refine r_callVi (As := [_, _, _]) c_X4_letCome (by first | assumption | rfl) l_X4_64 rfl rfl rfl (Nat.le_of_ble_eq_true rfl) dX4_carryOrder_90 (t_X4_letCome hW hS) (fun r90 u90 q90 => ?_)
    obtain ⟨hr, g1, f1⟩ := q90
    cases hr
    refine r_iret rfl dX4_carryOrder_93 ?_
    subst ek
    rw [e4 (by decide), e6 rfl] at g1 ⊢
    exact ⟨rfl, g1, f1⟩
  by_cases hk7_1 : k = 108
  · --key 108
    rw [hk7_1]
    have ek : k = _ := hk7_1
    clear hk7_1 hk
    refine r_lookup (off := 87) (tgt := 94) dX4_carryOrder_7 (by decide) (by decide) (by decide) ?_
    refine r_aload_n dX4_carryOrder_94 0 rfl ?_
    refine r_aload_n dX4_carryOrder_95 0 rfl ?_
    refine r_getR (b := 185) (by first | assumption | rfl) f_X4_34 rfl rfl dX4_carryOrder_96 rfl ?_
    refine r_getI (by first | assumption | rfl) f_X4_225 rfl rfl dX4_carryOrder_99 ?_
    refine r_aload_n dX4_carryOrder_102 0 rfl ?_
    refine r_getR (b := 185) (by first | assumption | rfl) f_X4_34 rfl rfl dX4_carryOrder_103 rfl ?_
    refine r_getI (by first | assumption | rfl) f_X4_222 rfl rfl dX4_carryOrder_106 ?_
    refine r_callVi (As := [_, _]) c_X4_loseScout (by first | assumption | rfl) l_X4_68 rfl rfl rfl (Nat.le_of_ble_eq_true rfl) dX4_carryOrder_109 (t_X4_loseScout hW hS) (fun r109 u109 q109 => ?_)
    obtain ⟨hr, g1, f1⟩ := q109
    cases hr
    refine r_iret rfl dX4_carryOrder_112 ?_
    subst ek
    rw [e4 (by decide)] at g1 ⊢
    exact ⟨rfl, g1, f1⟩
  by_cases hk7_2 : k = 110
  · --key 110
    rw [hk7_2]
    have ek : k = _ := hk7_2
    clear hk7_2 hk
    refine r_lookup (off := 49) (tgt := 56) dX4_carryOrder_7 (by decide) (by decide) (by decide) ?_
    refine r_aload_n dX4_carryOrder_56 0 rfl ?_
    refine r_aload_n dX4_carryOrder_57 0 rfl ?_
    refine r_getR (b := 185) (by first | assumption | rfl) f_X4_34 rfl rfl dX4_carryOrder_58 rfl ?_
    refine r_getI (by first | assumption | rfl) f_X4_222 rfl rfl dX4_carryOrder_61 ?_
    refine r_callVi (As := [_]) c_X4_addTroop (by first | assumption | rfl) l_X4_57 rfl rfl rfl (Nat.le_of_ble_eq_true rfl) dX4_carryOrder_64 (t_X4_addTroop hW hS) (fun r64 u64 q64 => ?_)
    obtain ⟨hr, g1, f1⟩ := q64
    cases hr
    refine r_iret rfl dX4_carryOrder_67 ?_
    subst ek
    exact ⟨rfl, g1, f1⟩
  by_cases hk7_3 : k = 115
  · --key 115
    rw [hk7_3]
    have ek : k = _ := hk7_3
    clear hk7_3 hk
    refine r_lookup (off := 106) (tgt := 113) dX4_carryOrder_7 (by decide) (by decide) (by decide) ?_
    refine r_aload_n dX4_carryOrder_113 0 rfl ?_
    refine r_aload_n dX4_carryOrder_114 0 rfl ?_
    refine r_getR (b := 185) (by first | assumption | rfl) f_X4_34 rfl rfl dX4_carryOrder_115 rfl ?_
    refine r_getI (by first | assumption | rfl) f_X4_225 rfl rfl dX4_carryOrder_118 ?_
    refine r_aload_n dX4_carryOrder_121 0 rfl ?_
    refine r_getR (b := 185) (by first | assumption | rfl) f_X4_34 rfl rfl dX4_carryOrder_122 rfl ?_
    refine r_getI (by first | assumption | rfl) f_X4_222 rfl rfl dX4_carryOrder_125 ?_
    refine r_callVi (As := [_, _]) c_X4_changeSize (by first | assumption | rfl) l_X4_60 rfl rfl rfl (Nat.le_of_ble_eq_true rfl) dX4_carryOrder_128 (t_X4_changeSize hW hS) (fun r128 u128 q128 => ?_)
    obtain ⟨hr, g1, f1⟩ := q128
    cases hr
    refine r_iret rfl dX4_carryOrder_131 ?_
    subst ek
    rw [e4 (by decide)] at g1 ⊢
    exact ⟨rfl, g1, f1⟩
  by_cases hk7_4 : k = 116
  · --key 116
    rw [hk7_4]
    have ek : k = _ := hk7_4
    clear hk7_4 hk
    refine r_lookup (off := 125) (tgt := 132) dX4_carryOrder_7 (by decide) (by decide) (by decide) ?_
    refine r_aload_n dX4_carryOrder_132 0 rfl ?_
    refine r_aload_n dX4_carryOrder_133 0 rfl ?_
    refine r_getR (b := 185) (by first | assumption | rfl) f_X4_34 rfl rfl dX4_carryOrder_134 rfl ?_
    refine r_getI (by first | assumption | rfl) f_X4_222 rfl rfl dX4_carryOrder_137 ?_
    refine r_callVi (As := [_]) c_X4_passMinutes (by first | assumption | rfl) l_X4_89 rfl rfl rfl (Nat.le_of_ble_eq_true rfl) dX4_carryOrder_140 (t_X4_passMinutes hW hS) (fun r140 u140 q140 => ?_)
    obtain ⟨hr, g1, f1⟩ := q140
    cases hr
    refine r_iret rfl dX4_carryOrder_143 ?_
    subst ek
    exact ⟨rfl, g1, f1⟩
  refine r_lookup (off := 137) (tgt := 144) dX4_carryOrder_7 (by decide) (show Op.lookupswitch.offset [(99, 61), (108, 87), (110, 49), (115, 106), (116, 125)] 137 _ = 137 by rw [lv_osw hk7_0 (by decide), lv_osw hk7_1 (by decide), lv_osw hk7_2 (by decide), lv_osw hk7_3 (by decide), lv_osw hk7_4 (by decide)]; rfl) (by decide) ?_
  refine r_bipush dX4_carryOrder_144 (v := -3) (by decide +kernel) ?_
  refine r_iret rfl dX4_carryOrder_146 ?_
  exact (hk.elim hk7_2 (fun z => z.elim hk7_4 (fun z => z.elim hk7_0 (fun z => z.elim hk7_1 hk7_3)))).elim
/-- the cells of the current state and of the pad alone may have changed -/
def FQ (S u : mS) : Prop := ∀ b, (b < 1 ∨ 19 ≤ b) → b ≠ 185 → u b = S b
theorem rO_end : (rO P len len).1 = false := by
  have e : sg P len len = 0 := by unfold sg; rw [if_neg (by omega)]
  unfold rO
  rw [e]
  rfl
theorem lp_X4_carry0 {S0 : mS} {Q : Option Int32 → mS → Prop} {o : Nat} (ho : o ≤ 80) (hP : PD S P len len) (hF : FQ S0 S) (hx : ∀ u, (∀ b, b ≠ 185 → u b = S b) → PB u P len → FQ S0 u → At G (d + 6) M_X4_carryOut Q 75 [(0, rv G 0), (1, .int (nI o))] [] u) : At G (d + 6) M_X4_carryOut Q 36 [(0, rv G 0), (1, .int (nI o))] [] S := by
  have hro := @t_X1_readOrder G (d + 1) S P len len hP
  rw [rO_end] at hro
  refine r_iload_n dX4_carryOut_36 1 rfl ?_
  refine r_bipush dX4_carryOut_37 (v := 80) (by decide +kernel) ?_
  refine r_icmp_ge dX4_carryOut_39 (tgt := 75) (by decide) (fun h39 => ?_) (fun h39 => ?_)
  · --t
    first | exact hx S (fun _ _ => rfl) hP.pb hF | exact hx _ f1 g1.pb (fun b h1 h2 => (f1 b h2).trans (hF b h1 h2))
  · --f
    refine r_aload_n dX4_carryOut_42 0 rfl ?_
    refine r_getR (b := 185) (by first | assumption | rfl) f_X4_34 rfl rfl dX4_carryOut_43 rfl ?_
    refine r_callVi (As := []) c_X1_readOrder (by first | assumption | rfl) l_X4_207 rfl rfl rfl (Nat.le_of_ble_eq_true rfl) dX4_carryOut_46 hro (fun r46 u46 q46 => ?_)
    obtain ⟨hr, g1, f1, -⟩ := q46
    cases hr
    refine r_if_eq dX4_carryOut_49 (tgt := 75) (by decide) (fun h49 => ?_) (fun h49 => ?_)
    · --t
      first | exact hx S (fun _ _ => rfl) hP.pb hF | exact hx _ f1 g1.pb (fun b h1 h2 => (f1 b h2).trans (hF b h1 h2))
    · --f
      exact absurd rfl h49
theorem lp_X4_carry {S0 : mS} {Q : Option Int32 → mS → Prop} : ∀ f o i (N : mN) S, f + o = 80 → (fl P len f i).1 = true → PD S P len i → SP S 1 N → WN N → FQ S0 S → (∀ u, SP u 1 (cyN P len f i N).2 → PB u P len → FQ S0 u → At G (d + 6) M_X4_carryOut Q 75 [(0, rv G 0), (1, .int (nI (o + (cyN P len f i N).1)))] [] u) → At G (d + 6) M_X4_carryOut Q 36 [(0, rv G 0), (1, .int (nI o))] [] S := by
  intro f
  induction f with
  | zero => intro o i N S ho hf; exact absurd (show false = true from hf) (by decide)
  | succ f ih =>
    intro o i N S ho hf hP hS hW hF hx
    have ho80 : o < 80 := by omega
    have hro := rO_le (P := P) hP.1.2.2.2
    unfold fl at hf
    cases e1 : (rO P len i).1
    · rw [e1] at hf; exact absurd (show false = true from hf) (by decide)
    · rw [e1, if_pos rfl] at hf
      have hkd := rO_kind e1
      have hread := @t_X1_readOrder G (d + 1) S P len i hP
      rw [e1] at hread
      unfold cyN at hx
      rw [if_pos e1] at hx
      have hWe : WN (exR N (rO P len i)).2 := wn_ex hW _ _ _ _
      refine r_iload_n dX4_carryOut_36 1 rfl ?_
      refine r_bipush dX4_carryOut_37 (v := 80) (by decide +kernel) ?_
      refine r_icmp_ge dX4_carryOut_39 (tgt := 75) (by decide) (fun h39 => ?_) (fun h39 => ?_)
      · --t
        exact absurd h39 (nI_ge (b := 80) ho80 (by decide))
      · --f
        refine r_aload_n dX4_carryOut_42 0 rfl ?_
        refine r_getR (b := 185) (by first | assumption | rfl) f_X4_34 rfl rfl dX4_carryOut_43 rfl ?_
        refine r_callVi (As := []) c_X1_readOrder (by first | assumption | rfl) l_X4_207 rfl rfl rfl (Nat.le_of_ble_eq_true rfl) dX4_carryOut_46 hread (fun r46 u46 q46 => ?_)
        obtain ⟨hr, g1, f1, k1⟩ := q46
        cases hr
        refine r_if_eq dX4_carryOut_49 (tgt := 75) (by decide) (fun h49 => ?_) (fun h49 => ?_)
        · --t
          exact absurd h49 (by decide)
        · --f
          refine r_aload_n dX4_carryOut_52 0 rfl ?_
          refine r_callVi (As := []) c_X4_carryOrder (by first | assumption | rfl) l_X4_211 rfl rfl rfl (Nat.le_of_ble_eq_true rfl) dX4_carryOut_53 (t_X4_carryOrder (t := (rO P len i).2.2.2.1) (c := (rO P len i).2.2.2.2.2) hW (hS.fp hW.cn.2 f1) hkd (k1 rfl).1 (k1 rfl).2.1 (k1 rfl).2.2.1 (k1 rfl).2.2.2) (fun r53 u53 q53 => ?_)
          obtain ⟨hr, g2, f2⟩ := q53
          cases hr
          replace g2 : SP u53 1 (exR N (rO P len i)).2 := g2
          have g3 : PD u53 P len (rO P len i).2.1 := ⟨by rw [f2 185 (by omega)]; exact g1.1, fun j hj => by rw [f2 186 (by omega)]; exact g1.2 j hj⟩
          have f3 : FQ S0 u53 := fun b b1 b2 => (f2 b (by omega)).trans ((f1 b b2).trans (hF b b1 b2))
          refine r_if_lt dX4_carryOut_56 (tgt := 75) (by decide) (fun h56 => ?_) (fun h56 => ?_)
          · --t
            replace h56 : (exR N (rO P len i)).1 < 0 := h56
            rw [if_pos h56] at hx
            exact hx _ g2 g3.pb f3
          · --f
            refine r_iinc (lo2 := [(0, _), (1, _)]) dX4_carryOut_59 1 rfl (w := 1) rfl (Nat.le_of_ble_eq_true rfl) [1, 0] rfl ?_
            refine r_aload_n dX4_carryOut_62 0 rfl ?_
            refine r_getR (b := 185) (by first | assumption | rfl) f_X4_34 rfl rfl dX4_carryOut_63 rfl ?_
            refine r_bipush dX4_carryOut_66 (v := 59) (by decide +kernel) ?_
            refine r_callVi (As := [_]) c_X1_readSign (by first | assumption | rfl) l_X4_214 rfl rfl rfl (Nat.le_of_ble_eq_true rfl) dX4_carryOut_68 (t_X1_readSign (c := 59) (by decide) g3) (fun r68 u68 q68 => ?_)
            obtain ⟨hr, g4, f4, -⟩ := q68
            refine r_pop dX4_carryOut_71 rfl ?_
            refine r_goto dX4_carryOut_72 (tgt := 36) (by decide) ?_
            replace h56 : ¬ (exR N (rO P len i)).1 < 0 := h56
            rw [if_neg h56] at hx
            rw [nI_1]
            have f5 : FQ S0 u68 := fun b b1 b2 => (f4 b b2).trans (f3 b b1 b2)
            have g5 : SP u68 1 (exR N (rO P len i)).2 := g2.fp hWe.cn.2 f4
            by_cases e2 : len ≤ (rO P len i).2.1
            · rw [if_pos e2] at hx
              have e3 : (rO P len i).2.1 = len := by have := hro.1; omega
              have e4 : ¬ sg P len len = 59 := by unfold sg; rw [if_neg (by omega)]; decide
              rw [e3, if_neg e4] at g4
              exact lp_X4_carry0 (by omega) g4 f5 (fun u z1 z2 z3 => hx u (g5.fp hWe.cn.2 z1) z2 z3)
            · rw [if_neg e2] at hf hx
              by_cases e3 : sg P len (rO P len i).2.1 = 59
              · rw [if_pos e3] at hf
                rw [if_pos e3] at g4
                refine ih (o + 1) _ _ u68 (by omega) hf g4 g5 hWe f5 (fun u z1 z2 z3 => ?_)
                rw [show o + 1 + (cyN P len f ((rO P len i).2.1 + 1) (exR N (rO P len i)).2).1 = o + ((cyN P len f ((rO P len i).2.1 + 1) (exR N (rO P len i)).2).1 + 1) by omega]
                exact hx u z1 z2 z3
              · rw [if_neg e3] at hf
                exact absurd (show false = true from hf) (by decide)
theorem fl_le : ∀ f i, i ≤ len → (fl P len f i).2 ≤ len := by
  intro f
  induction f with
  | zero => intro i hi; exact hi
  | succ f ih =>
    intro i hi
    have h1 := (@rO_le P len i hi).1
    unfold fl
    split
    · split
      · exact h1
      · split
        · rename_i h2 _
          exact ih _ (by omega)
        · exact h1
    · exact h1
theorem fl_ne (hl : len ≤ 80) : ¬ nI (fl P len 80 0).2 = -6 := by
  have h1 := @fl_le P len 80 0 (Nat.zero_le _)
  intro z
  have h2 := nI_pos (n := (fl P len 80 0).2) (by omega)
  rw [z] at h2
  exact h2 (by decide)
theorem t_X4_carryOut (hW : WN N) (hS : SP S 1 N) (hH : HP S n h) (hP : PB S P len) : Call G (d + 7) M_X4_carryOut [rv G 0] S (fun r u => r = some (if carOk P len = true then nI (cyN P len 80 0 N).1 else -3) ∧ SP u 1 (if carOk P len = true then (cyN P len 80 0 N).2 else N) ∧ HP u (if carOk P len = true then psN n else n) (if carOk P len = true then psH n h N else h) ∧ PB u P (if carOk P len = true then 0 else len) ∧ ∀ c, (c < 1 ∨ 147 ≤ c) → c ≠ 185 → u c = S c) := by
  refine call_of (lo := [(0, rv G 0)]) (by decide +kernel) (Nat.le_of_ble_eq_true rfl) rfl ?_
  cases e : carOk P len
  · have ef : fauA P len = nI (fl P len 80 0).2 := by unfold fauA; unfold carOk at e; rw [e]; rfl
    have hpos : ¬ nI (fl P len 80 0).2 = -6 := by
      intro z
      exact absurd z (fl_ne hP.1.2)
    refine r_aload_n dX4_carryOut_0 0 rfl ?_
    refine r_getR (b := 185) (by first | assumption | rfl) f_X4_34 rfl rfl dX4_carryOut_1 rfl ?_
    refine r_callVi (As := []) c_X1_faultAt (by first | assumption | rfl) l_X4_201 rfl rfl rfl (Nat.le_of_ble_eq_true rfl) dX4_carryOut_4 (t_X1_faultAt hP) (fun r4 u4 q4 => ?_)
    obtain ⟨hr, g1, f1⟩ := q4
    cases hr
    refine r_bipush dX4_carryOut_7 (v := -6) (by decide +kernel) ?_
    refine r_icmp_eq dX4_carryOut_9 (tgt := 15) (by decide) (fun h9 => ?_) (fun h9 => ?_)
    · --t
      exact absurd (by rw [ef] at h9; exact h9) hpos
    · --f
      refine r_bipush dX4_carryOut_12 (v := -3) (by decide +kernel) ?_
      refine r_iret rfl dX4_carryOut_14 ?_
      exact ⟨rfl, hS.fp hW.cn.2 f1, hH.off (fun c c1 c2 => f1 c (by omega)), g1, fun c c1 c2 => f1 c c2⟩
  · have ef : fauA P len = -6 := by unfold fauA; unfold carOk at e; rw [e]; rfl
    have hW2 : WN (cyN P len 80 0 N).2 := wn_cy 80 0 N hW
    rw [if_pos rfl, if_pos rfl, if_pos rfl, if_pos rfl, if_pos rfl]
    refine r_aload_n dX4_carryOut_0 0 rfl ?_
    refine r_getR (b := 185) (by first | assumption | rfl) f_X4_34 rfl rfl dX4_carryOut_1 rfl ?_
    refine r_callVi (As := []) c_X1_faultAt (by first | assumption | rfl) l_X4_201 rfl rfl rfl (Nat.le_of_ble_eq_true rfl) dX4_carryOut_4 (t_X1_faultAt hP) (fun r4 u4 q4 => ?_)
    obtain ⟨hr, g1, f1⟩ := q4
    cases hr
    refine r_bipush dX4_carryOut_7 (v := -6) (by decide +kernel) ?_
    refine r_icmp_eq dX4_carryOut_9 (tgt := 15) (by decide) (fun h9 => ?_) (fun h9 => ?_)
    · --t
      refine r_aload_n dX4_carryOut_15 0 rfl ?_
      refine r_getR (b := 19) (by first | assumption | rfl) f_X4_19 rfl rfl dX4_carryOut_16 rfl ?_
      refine r_aload_n dX4_carryOut_19 0 rfl ?_
      refine r_getR (b := 1) (by first | assumption | rfl) f_X4_10 rfl rfl dX4_carryOut_20 rfl ?_
      refine r_callVv (As := [_]) c_X0_note (by first | assumption | rfl) l_X4_45 rfl rfl rfl (Nat.le_of_ble_eq_true rfl) dX4_carryOut_23 (t_X0_note (hH.off (fun c c1 c2 => f1 c (by omega))) hW (hS.fp hW.cn.2 f1)) (fun u23 q23 => ?_)
      obtain ⟨-, g2, f2⟩ := q23
      refine r_iconst dX4_carryOut_26 (v := 0) rfl ?_
      refine r_istore_n (lo2 := [(0, _), (1, _)]) dX4_carryOut_27 rfl (Nat.le_of_ble_eq_true rfl) [1, 0] rfl ?_
      refine r_aload_n dX4_carryOut_28 0 rfl ?_
      refine r_getR (b := 185) (by first | assumption | rfl) f_X4_34 rfl rfl dX4_carryOut_29 rfl ?_
      refine r_iconst dX4_carryOut_32 (v := 0) rfl ?_
      refine r_putI (by first | assumption | rfl) f_X4_204 rfl rfl rfl rfl dX4_carryOut_33 ?_
      have g3 : PB u23 P len := g1.off (f2 185 (by omega)) (f2 186 (by omega))
      refine lp_X4_carry (S0 := u23) (P := P) (len := len) (d := d + 1) 80 0 0 N _ (by omega) e g3.pd (((hS.fp hW.cn.2 f1).fh hW.cn.2 f2).off hW.cn.2 (fun c c1 c2 => up1_n (by omega))) hW (fun b b1 b2 => up1_n b2) (fun u z1 z2 z3 => ?_)
      rw [Nat.zero_add]
      have hN : HN (up1 u 185 (upd (u 185) 1 0)) n h N := g2.off (fun c c1 c2 => (up1_n (by omega)).trans (z3 c (by omega) (by omega)))
      have hcn : ¬ nI (cyN P len 80 0 N).1 < 0 := nI_pos (by have := @cy_le P len 80 0 N; omega)
      refine r_aload_n dX4_carryOut_75 0 rfl ?_
      refine r_getR (b := 185) (by first | assumption | rfl) f_X4_34 rfl rfl dX4_carryOut_76 rfl ?_
      refine r_iconst dX4_carryOut_79 (v := 0) rfl ?_
      refine r_putI (by first | assumption | rfl) f_X4_177 rfl rfl rfl rfl dX4_carryOut_80 ?_
      refine r_aload_n dX4_carryOut_83 0 rfl ?_
      refine r_iload_n dX4_carryOut_84 1 rfl ?_
      refine r_callVi (As := [_]) c_X4_recorded (by first | assumption | rfl) l_X4_53 rfl rfl rfl (Nat.le_of_ble_eq_true rfl) dX4_carryOut_85 (t_X4_recorded hN) (fun r85 u85 q85 => ?_)
      obtain ⟨hr, g4, f4⟩ := q85
      cases hr
      refine r_iret rfl dX4_carryOut_88 ?_
      unfold rcN rcH at g4
      rw [if_neg hcn, if_neg hcn] at g4
      refine ⟨rfl, (z1.off hW2.cn.2 (fun c c1 c2 => up1_n (by omega))).fh hW2.cn.2 f4, g4, ⟨⟨?_, by omega⟩, fun j hj => absurd hj (by omega)⟩, fun c c1 c2 => ?_⟩
      · rw [f4 185 (by omega), up1_s, upd, if_pos rfl]; rfl
      · rw [f4 c (by omega), up1_n c2, z3 c (by omega) c2, f2 c (by omega), f1 c c2]
    · --f
      exact absurd ef h9
end PUB
end
