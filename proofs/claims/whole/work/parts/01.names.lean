-- ===== PART A: goes FIRST, ahead of the names: the tables' words, and 'selects' of the private methods out of them =====
/-- a private method of a class that the tables say can be made, by its rows of tables_1 -/
def lw_okq (q : MethodName × Nat) : Prop := (q.1.cls ≠ "java/lang/invoke/MethodHandle" ∧ q.1.cls ≠ "java/lang/invoke/VarHandle") ∧ Cond.instantiable q.1.cls q.2 ∈ tables_1 ∧ Cond.privateMethod q.1 ∈ tables_1 ∧ Cond.instanceMethod q.1 ∈ tables_1
theorem lw_p0 : lw_okq (⟨"RammedCobbles$CartText", "takesRow", "(I)Z"⟩, 4) := ⟨⟨by decide +kernel, by decide +kernel⟩, List.mem_of_getElem? (i := 78) (by decide +kernel), List.mem_of_getElem? (i := 359) (by decide +kernel), List.mem_of_getElem? (i := 360) (by decide +kernel)⟩
theorem lw_p1 : lw_okq (⟨"RammedCobbles$CartText", "takesDigit", "(II)Z"⟩, 4) := ⟨⟨by decide +kernel, by decide +kernel⟩, List.mem_of_getElem? (i := 78) (by decide +kernel), List.mem_of_getElem? (i := 363) (by decide +kernel), List.mem_of_getElem? (i := 364) (by decide +kernel)⟩
theorem lw_p2 : lw_okq (⟨"RammedCobbles$CartText", "takesEnd", "(I)Z"⟩, 4) := ⟨⟨by decide +kernel, by decide +kernel⟩, List.mem_of_getElem? (i := 78) (by decide +kernel), List.mem_of_getElem? (i := 367) (by decide +kernel), List.mem_of_getElem? (i := 368) (by decide +kernel)⟩
theorem lw_p3 : lw_okq (⟨"RammedCobbles$StreetText", "takesSize", "(I)Z"⟩, 7) := ⟨⟨by decide +kernel, by decide +kernel⟩, List.mem_of_getElem? (i := 43) (by decide +kernel), List.mem_of_getElem? (i := 374) (by decide +kernel), List.mem_of_getElem? (i := 375) (by decide +kernel)⟩
theorem lw_p4 : lw_okq (⟨"RammedCobbles$StreetText", "takesRowEnd", "()Z"⟩, 7) := ⟨⟨by decide +kernel, by decide +kernel⟩, List.mem_of_getElem? (i := 43) (by decide +kernel), List.mem_of_getElem? (i := 378) (by decide +kernel), List.mem_of_getElem? (i := 379) (by decide +kernel)⟩
theorem lw_p5 : lw_okq (⟨"RammedCobbles$StreetText", "takesCell", "(I)Z"⟩, 7) := ⟨⟨by decide +kernel, by decide +kernel⟩, List.mem_of_getElem? (i := 43) (by decide +kernel), List.mem_of_getElem? (i := 382) (by decide +kernel), List.mem_of_getElem? (i := 383) (by decide +kernel)⟩
theorem lw_p6 : lw_okq (⟨"RammedCobbles", "isCell", "(I)Z"⟩, 17) := ⟨⟨by decide +kernel, by decide +kernel⟩, List.mem_of_getElem? (i := 17) (by decide +kernel), List.mem_of_getElem? (i := 443) (by decide +kernel), List.mem_of_getElem? (i := 444) (by decide +kernel)⟩
theorem lw_p7 : lw_okq (⟨"RammedCobbles", "hasStreet", "()Z"⟩, 17) := ⟨⟨by decide +kernel, by decide +kernel⟩, List.mem_of_getElem? (i := 17) (by decide +kernel), List.mem_of_getElem? (i := 475) (by decide +kernel), List.mem_of_getElem? (i := 476) (by decide +kernel)⟩
theorem lw_p8 : lw_okq (⟨"RammedCobbles", "isStone", "(I)Z"⟩, 17) := ⟨⟨by decide +kernel, by decide +kernel⟩, List.mem_of_getElem? (i := 17) (by decide +kernel), List.mem_of_getElem? (i := 499) (by decide +kernel), List.mem_of_getElem? (i := 500) (by decide +kernel)⟩
theorem lw_p9 : lw_okq (⟨"RammedCobbles$Street", "seatFirmer", "(I)V"⟩, 8) := ⟨⟨by decide +kernel, by decide +kernel⟩, List.mem_of_getElem? (i := 137) (by decide +kernel), List.mem_of_getElem? (i := 517) (by decide +kernel), List.mem_of_getElem? (i := 518) (by decide +kernel)⟩
theorem lw_p10 : lw_okq (⟨"RammedCobbles$Ramming", "arrange", "(I)V"⟩, 2) := ⟨⟨by decide +kernel, by decide +kernel⟩, List.mem_of_getElem? (i := 175) (by decide +kernel), List.mem_of_getElem? (i := 535) (by decide +kernel), List.mem_of_getElem? (i := 536) (by decide +kernel)⟩
theorem lw_p11 : lw_okq (⟨"RammedCobbles$Ramming", "arrangeByColumns", "()V"⟩, 2) := ⟨⟨by decide +kernel, by decide +kernel⟩, List.mem_of_getElem? (i := 175) (by decide +kernel), List.mem_of_getElem? (i := 539) (by decide +kernel), List.mem_of_getElem? (i := 540) (by decide +kernel)⟩
theorem lw_p12 : lw_okq (⟨"RammedCobbles$Ramming", "goRound", "(LRammedCobbles$Street;I)I"⟩, 2) := ⟨⟨by decide +kernel, by decide +kernel⟩, List.mem_of_getElem? (i := 175) (by decide +kernel), List.mem_of_getElem? (i := 544) (by decide +kernel), List.mem_of_getElem? (i := 545) (by decide +kernel)⟩
theorem lw_p13 : lw_okq (⟨"RammedCobbles$Loads", "passOn", "(III)V"⟩, 3) := ⟨⟨by decide +kernel, by decide +kernel⟩, List.mem_of_getElem? (i := 188) (by decide +kernel), List.mem_of_getElem? (i := 610) (by decide +kernel), List.mem_of_getElem? (i := 611) (by decide +kernel)⟩
theorem lw_p14 : lw_okq (⟨"RammedCobbles$Water", "fallsIn", "(LRammedCobbles$Street;I)Z"⟩, 2) := ⟨⟨by decide +kernel, by decide +kernel⟩, List.mem_of_getElem? (i := 206) (by decide +kernel), List.mem_of_getElem? (i := 631) (by decide +kernel), List.mem_of_getElem? (i := 632) (by decide +kernel)⟩
theorem lw_p15 : lw_okq (⟨"RammedCobbles", "hasTraffic", "()Z"⟩, 17) := ⟨⟨by decide +kernel, by decide +kernel⟩, List.mem_of_getElem? (i := 17) (by decide +kernel), List.mem_of_getElem? (i := 650) (by decide +kernel), List.mem_of_getElem? (i := 651) (by decide +kernel)⟩
def lw_privs_1 : List (MethodName × Nat) := [(⟨"RammedCobbles$CartText", "takesRow", "(I)Z"⟩, 4), (⟨"RammedCobbles$CartText", "takesDigit", "(II)Z"⟩, 4), (⟨"RammedCobbles$CartText", "takesEnd", "(I)Z"⟩, 4), (⟨"RammedCobbles$StreetText", "takesSize", "(I)Z"⟩, 7), (⟨"RammedCobbles$StreetText", "takesRowEnd", "()Z"⟩, 7), (⟨"RammedCobbles$StreetText", "takesCell", "(I)Z"⟩, 7), (⟨"RammedCobbles", "isCell", "(I)Z"⟩, 17), (⟨"RammedCobbles", "hasStreet", "()Z"⟩, 17), (⟨"RammedCobbles", "isStone", "(I)Z"⟩, 17), (⟨"RammedCobbles$Street", "seatFirmer", "(I)V"⟩, 8), (⟨"RammedCobbles$Ramming", "arrange", "(I)V"⟩, 2), (⟨"RammedCobbles$Ramming", "arrangeByColumns", "()V"⟩, 2), (⟨"RammedCobbles$Ramming", "goRound", "(LRammedCobbles$Street;I)I"⟩, 2), (⟨"RammedCobbles$Loads", "passOn", "(III)V"⟩, 3), (⟨"RammedCobbles$Water", "fallsIn", "(LRammedCobbles$Street;I)Z"⟩, 2), (⟨"RammedCobbles", "hasTraffic", "()Z"⟩, 17)]
theorem lw_r1 : ∀ q ∈ lw_privs_1, lw_okq q := List.forall_mem_cons.mpr ⟨lw_p0, List.forall_mem_cons.mpr ⟨lw_p1, List.forall_mem_cons.mpr ⟨lw_p2, List.forall_mem_cons.mpr ⟨lw_p3, List.forall_mem_cons.mpr ⟨lw_p4, List.forall_mem_cons.mpr ⟨lw_p5, List.forall_mem_cons.mpr ⟨lw_p6, List.forall_mem_cons.mpr ⟨lw_p7, List.forall_mem_cons.mpr ⟨lw_p8, List.forall_mem_cons.mpr ⟨lw_p9, List.forall_mem_cons.mpr ⟨lw_p10, List.forall_mem_cons.mpr ⟨lw_p11, List.forall_mem_cons.mpr ⟨lw_p12, List.forall_mem_cons.mpr ⟨lw_p13, List.forall_mem_cons.mpr ⟨lw_p14, List.forall_mem_cons.mpr ⟨lw_p15, fun _ h => absurd h List.not_mem_nil⟩⟩⟩⟩⟩⟩⟩⟩⟩⟩⟩⟩⟩⟩⟩⟩
theorem lw_p16 : lw_okq (⟨"RammedCobbles$Years", "layCarts", "(LRammedCobbles$Street;LRammedCobbles$CartText;)V"⟩, 4) := ⟨⟨by decide +kernel, by decide +kernel⟩, List.mem_of_getElem? (i := 219) (by decide +kernel), List.mem_of_getElem? (i := 661) (by decide +kernel), List.mem_of_getElem? (i := 662) (by decide +kernel)⟩
theorem lw_p17 : lw_okq (⟨"RammedCobbles$Years", "wearDown", "(LRammedCobbles$Street;)I"⟩, 4) := ⟨⟨by decide +kernel, by decide +kernel⟩, List.mem_of_getElem? (i := 219) (by decide +kernel), List.mem_of_getElem? (i := 668) (by decide +kernel), List.mem_of_getElem? (i := 669) (by decide +kernel)⟩
theorem lw_p18 : lw_okq (⟨"RammedCobbles$Years", "freeze", "(LRammedCobbles$Street;I)V"⟩, 4) := ⟨⟨by decide +kernel, by decide +kernel⟩, List.mem_of_getElem? (i := 219) (by decide +kernel), List.mem_of_getElem? (i := 677) (by decide +kernel), List.mem_of_getElem? (i := 678) (by decide +kernel)⟩
theorem lw_p19 : lw_okq (⟨"RammedCobbles$Street", "drawOfTen", "()I"⟩, 8) := ⟨⟨by decide +kernel, by decide +kernel⟩, List.mem_of_getElem? (i := 137) (by decide +kernel), List.mem_of_getElem? (i := 691) (by decide +kernel), List.mem_of_getElem? (i := 692) (by decide +kernel)⟩
theorem lw_p20 : lw_okq (⟨"RammedCobbles$Years", "washOut", "(LRammedCobbles$Street;)V"⟩, 4) := ⟨⟨by decide +kernel, by decide +kernel⟩, List.mem_of_getElem? (i := 219) (by decide +kernel), List.mem_of_getElem? (i := 699) (by decide +kernel), List.mem_of_getElem? (i := 700) (by decide +kernel)⟩
theorem lw_p21 : lw_okq (⟨"RammedCobbles", "findMendable", "()I"⟩, 17) := ⟨⟨by decide +kernel, by decide +kernel⟩, List.mem_of_getElem? (i := 17) (by decide +kernel), List.mem_of_getElem? (i := 730) (by decide +kernel), List.mem_of_getElem? (i := 731) (by decide +kernel)⟩
theorem lw_p22 : lw_okq (⟨"RammedCobbles", "lostWith", "(IIII)I"⟩, 17) := ⟨⟨by decide +kernel, by decide +kernel⟩, List.mem_of_getElem? (i := 17) (by decide +kernel), List.mem_of_getElem? (i := 740) (by decide +kernel), List.mem_of_getElem? (i := 741) (by decide +kernel)⟩
theorem lw_p23 : lw_okq (⟨"RammedCobbles$Heap", "isBetter", "(II)Z"⟩, 5) := ⟨⟨by decide +kernel, by decide +kernel⟩, List.mem_of_getElem? (i := 238) (by decide +kernel), List.mem_of_getElem? (i := 769) (by decide +kernel), List.mem_of_getElem? (i := 770) (by decide +kernel)⟩
theorem lw_p24 : lw_okq (⟨"RammedCobbles", "isRow", "(I)Z"⟩, 17) := ⟨⟨by decide +kernel, by decide +kernel⟩, List.mem_of_getElem? (i := 17) (by decide +kernel), List.mem_of_getElem? (i := 782) (by decide +kernel), List.mem_of_getElem? (i := 783) (by decide +kernel)⟩
theorem lw_p25 : lw_okq (⟨"RammedCobbles", "digestOfCells", "(J)J"⟩, 17) := ⟨⟨by decide +kernel, by decide +kernel⟩, List.mem_of_getElem? (i := 17) (by decide +kernel), List.mem_of_getElem? (i := 824) (by decide +kernel), List.mem_of_getElem? (i := 825) (by decide +kernel)⟩
theorem lw_p26 : lw_okq (⟨"RammedCobblesModel", "readStreet", "()V"⟩, 40) := ⟨⟨by decide +kernel, by decide +kernel⟩, List.mem_of_getElem? (i := 831) (by decide +kernel), List.mem_of_getElem? (i := 975) (by decide +kernel), List.mem_of_getElem? (i := 976) (by decide +kernel)⟩
theorem lw_p27 : lw_okq (⟨"RammedCobblesModel", "takeStreet", "(I)Z"⟩, 40) := ⟨⟨by decide +kernel, by decide +kernel⟩, List.mem_of_getElem? (i := 831) (by decide +kernel), List.mem_of_getElem? (i := 979) (by decide +kernel), List.mem_of_getElem? (i := 980) (by decide +kernel)⟩
theorem lw_p28 : lw_okq (⟨"RammedCobblesModel", "readCarts", "()V"⟩, 40) := ⟨⟨by decide +kernel, by decide +kernel⟩, List.mem_of_getElem? (i := 831) (by decide +kernel), List.mem_of_getElem? (i := 986) (by decide +kernel), List.mem_of_getElem? (i := 987) (by decide +kernel)⟩
theorem lw_p29 : lw_okq (⟨"RammedCobblesModel", "nextCart", "(II)I"⟩, 40) := ⟨⟨by decide +kernel, by decide +kernel⟩, List.mem_of_getElem? (i := 831) (by decide +kernel), List.mem_of_getElem? (i := 990) (by decide +kernel), List.mem_of_getElem? (i := 991) (by decide +kernel)⟩
theorem lw_p30 : lw_okq (⟨"RammedCobblesModel", "cartNow", "(II)I"⟩, 40) := ⟨⟨by decide +kernel, by decide +kernel⟩, List.mem_of_getElem? (i := 831) (by decide +kernel), List.mem_of_getElem? (i := 1009) (by decide +kernel), List.mem_of_getElem? (i := 1010) (by decide +kernel)⟩
theorem lw_p31 : lw_okq (⟨"RammedCobblesModel", "isCell", "(I)Z"⟩, 40) := ⟨⟨by decide +kernel, by decide +kernel⟩, List.mem_of_getElem? (i := 831) (by decide +kernel), List.mem_of_getElem? (i := 1017) (by decide +kernel), List.mem_of_getElem? (i := 1018) (by decide +kernel)⟩
def lw_privs_2 : List (MethodName × Nat) := [(⟨"RammedCobbles$Years", "layCarts", "(LRammedCobbles$Street;LRammedCobbles$CartText;)V"⟩, 4), (⟨"RammedCobbles$Years", "wearDown", "(LRammedCobbles$Street;)I"⟩, 4), (⟨"RammedCobbles$Years", "freeze", "(LRammedCobbles$Street;I)V"⟩, 4), (⟨"RammedCobbles$Street", "drawOfTen", "()I"⟩, 8), (⟨"RammedCobbles$Years", "washOut", "(LRammedCobbles$Street;)V"⟩, 4), (⟨"RammedCobbles", "findMendable", "()I"⟩, 17), (⟨"RammedCobbles", "lostWith", "(IIII)I"⟩, 17), (⟨"RammedCobbles$Heap", "isBetter", "(II)Z"⟩, 5), (⟨"RammedCobbles", "isRow", "(I)Z"⟩, 17), (⟨"RammedCobbles", "digestOfCells", "(J)J"⟩, 17), (⟨"RammedCobblesModel", "readStreet", "()V"⟩, 40), (⟨"RammedCobblesModel", "takeStreet", "(I)Z"⟩, 40), (⟨"RammedCobblesModel", "readCarts", "()V"⟩, 40), (⟨"RammedCobblesModel", "nextCart", "(II)I"⟩, 40), (⟨"RammedCobblesModel", "cartNow", "(II)I"⟩, 40), (⟨"RammedCobblesModel", "isCell", "(I)Z"⟩, 40)]
theorem lw_r2 : ∀ q ∈ lw_privs_2, lw_okq q := List.forall_mem_cons.mpr ⟨lw_p16, List.forall_mem_cons.mpr ⟨lw_p17, List.forall_mem_cons.mpr ⟨lw_p18, List.forall_mem_cons.mpr ⟨lw_p19, List.forall_mem_cons.mpr ⟨lw_p20, List.forall_mem_cons.mpr ⟨lw_p21, List.forall_mem_cons.mpr ⟨lw_p22, List.forall_mem_cons.mpr ⟨lw_p23, List.forall_mem_cons.mpr ⟨lw_p24, List.forall_mem_cons.mpr ⟨lw_p25, List.forall_mem_cons.mpr ⟨lw_p26, List.forall_mem_cons.mpr ⟨lw_p27, List.forall_mem_cons.mpr ⟨lw_p28, List.forall_mem_cons.mpr ⟨lw_p29, List.forall_mem_cons.mpr ⟨lw_p30, List.forall_mem_cons.mpr ⟨lw_p31, fun _ h => absurd h List.not_mem_nil⟩⟩⟩⟩⟩⟩⟩⟩⟩⟩⟩⟩⟩⟩⟩⟩
theorem lw_p32 : lw_okq (⟨"RammedCobblesModel", "cells", "()I"⟩, 40) := ⟨⟨by decide +kernel, by decide +kernel⟩, List.mem_of_getElem? (i := 831) (by decide +kernel), List.mem_of_getElem? (i := 1021) (by decide +kernel), List.mem_of_getElem? (i := 1022) (by decide +kernel)⟩
theorem lw_p33 : lw_okq (⟨"RammedCobblesModel", "cellNow", "(II)I"⟩, 40) := ⟨⟨by decide +kernel, by decide +kernel⟩, List.mem_of_getElem? (i := 831) (by decide +kernel), List.mem_of_getElem? (i := 1025) (by decide +kernel), List.mem_of_getElem? (i := 1026) (by decide +kernel)⟩
theorem lw_p34 : lw_okq (⟨"RammedCobblesModel", "hold", "(I)I"⟩, 40) := ⟨⟨by decide +kernel, by decide +kernel⟩, List.mem_of_getElem? (i := 831) (by decide +kernel), List.mem_of_getElem? (i := 1029) (by decide +kernel), List.mem_of_getElem? (i := 1030) (by decide +kernel)⟩
theorem lw_p35 : lw_okq (⟨"RammedCobblesModel", "beside", "(II)I"⟩, 40) := ⟨⟨by decide +kernel, by decide +kernel⟩, List.mem_of_getElem? (i := 831) (by decide +kernel), List.mem_of_getElem? (i := 1033) (by decide +kernel), List.mem_of_getElem? (i := 1034) (by decide +kernel)⟩
theorem lw_p36 : lw_okq (⟨"RammedCobblesModel", "grip", "(I)I"⟩, 40) := ⟨⟨by decide +kernel, by decide +kernel⟩, List.mem_of_getElem? (i := 831) (by decide +kernel), List.mem_of_getElem? (i := 1037) (by decide +kernel), List.mem_of_getElem? (i := 1038) (by decide +kernel)⟩
theorem lw_p37 : lw_okq (⟨"RammedCobblesModel", "stoneMany", "()I"⟩, 40) := ⟨⟨by decide +kernel, by decide +kernel⟩, List.mem_of_getElem? (i := 831) (by decide +kernel), List.mem_of_getElem? (i := 1049) (by decide +kernel), List.mem_of_getElem? (i := 1050) (by decide +kernel)⟩
theorem lw_p38 : lw_okq (⟨"RammedCobblesModel", "isStone", "(I)Z"⟩, 40) := ⟨⟨by decide +kernel, by decide +kernel⟩, List.mem_of_getElem? (i := 831) (by decide +kernel), List.mem_of_getElem? (i := 1061) (by decide +kernel), List.mem_of_getElem? (i := 1062) (by decide +kernel)⟩
theorem lw_p39 : lw_okq (⟨"RammedCobblesModel", "goBlow", "(II)I"⟩, 40) := ⟨⟨by decide +kernel, by decide +kernel⟩, List.mem_of_getElem? (i := 831) (by decide +kernel), List.mem_of_getElem? (i := 1068) (by decide +kernel), List.mem_of_getElem? (i := 1069) (by decide +kernel)⟩
theorem lw_p40 : lw_okq (⟨"RammedCobblesModel", "sinks", "(II)I"⟩, 40) := ⟨⟨by decide +kernel, by decide +kernel⟩, List.mem_of_getElem? (i := 831) (by decide +kernel), List.mem_of_getElem? (i := 1072) (by decide +kernel), List.mem_of_getElem? (i := 1073) (by decide +kernel)⟩
theorem lw_p41 : lw_okq (⟨"RammedCobblesModel", "goRounds", "(III)I"⟩, 40) := ⟨⟨by decide +kernel, by decide +kernel⟩, List.mem_of_getElem? (i := 831) (by decide +kernel), List.mem_of_getElem? (i := 1083) (by decide +kernel), List.mem_of_getElem? (i := 1084) (by decide +kernel)⟩
theorem lw_p42 : lw_okq (⟨"RammedCobblesModel", "byOrder", "(II)I"⟩, 40) := ⟨⟨by decide +kernel, by decide +kernel⟩, List.mem_of_getElem? (i := 831) (by decide +kernel), List.mem_of_getElem? (i := 1087) (by decide +kernel), List.mem_of_getElem? (i := 1088) (by decide +kernel)⟩
theorem lw_p43 : lw_okq (⟨"RammedCobblesModel", "ringing", "(I)I"⟩, 40) := ⟨⟨by decide +kernel, by decide +kernel⟩, List.mem_of_getElem? (i := 831) (by decide +kernel), List.mem_of_getElem? (i := 1095) (by decide +kernel), List.mem_of_getElem? (i := 1096) (by decide +kernel)⟩
theorem lw_p44 : lw_okq (⟨"RammedCobblesModel", "save", "()V"⟩, 40) := ⟨⟨by decide +kernel, by decide +kernel⟩, List.mem_of_getElem? (i := 831) (by decide +kernel), List.mem_of_getElem? (i := 1103) (by decide +kernel), List.mem_of_getElem? (i := 1104) (by decide +kernel)⟩
theorem lw_p45 : lw_okq (⟨"RammedCobblesModel", "back", "()V"⟩, 40) := ⟨⟨by decide +kernel, by decide +kernel⟩, List.mem_of_getElem? (i := 831) (by decide +kernel), List.mem_of_getElem? (i := 1107) (by decide +kernel), List.mem_of_getElem? (i := 1108) (by decide +kernel)⟩
theorem lw_p46 : lw_okq (⟨"RammedCobblesModel", "unevenNow", "()I"⟩, 40) := ⟨⟨by decide +kernel, by decide +kernel⟩, List.mem_of_getElem? (i := 831) (by decide +kernel), List.mem_of_getElem? (i := 1119) (by decide +kernel), List.mem_of_getElem? (i := 1120) (by decide +kernel)⟩
theorem lw_p47 : lw_okq (⟨"RammedCobblesModel", "layLoad", "(II)V"⟩, 40) := ⟨⟨by decide +kernel, by decide +kernel⟩, List.mem_of_getElem? (i := 831) (by decide +kernel), List.mem_of_getElem? (i := 1136) (by decide +kernel), List.mem_of_getElem? (i := 1137) (by decide +kernel)⟩
def lw_privs_3 : List (MethodName × Nat) := [(⟨"RammedCobblesModel", "cells", "()I"⟩, 40), (⟨"RammedCobblesModel", "cellNow", "(II)I"⟩, 40), (⟨"RammedCobblesModel", "hold", "(I)I"⟩, 40), (⟨"RammedCobblesModel", "beside", "(II)I"⟩, 40), (⟨"RammedCobblesModel", "grip", "(I)I"⟩, 40), (⟨"RammedCobblesModel", "stoneMany", "()I"⟩, 40), (⟨"RammedCobblesModel", "isStone", "(I)Z"⟩, 40), (⟨"RammedCobblesModel", "goBlow", "(II)I"⟩, 40), (⟨"RammedCobblesModel", "sinks", "(II)I"⟩, 40), (⟨"RammedCobblesModel", "goRounds", "(III)I"⟩, 40), (⟨"RammedCobblesModel", "byOrder", "(II)I"⟩, 40), (⟨"RammedCobblesModel", "ringing", "(I)I"⟩, 40), (⟨"RammedCobblesModel", "save", "()V"⟩, 40), (⟨"RammedCobblesModel", "back", "()V"⟩, 40), (⟨"RammedCobblesModel", "unevenNow", "()I"⟩, 40), (⟨"RammedCobblesModel", "layLoad", "(II)V"⟩, 40)]
theorem lw_r3 : ∀ q ∈ lw_privs_3, lw_okq q := List.forall_mem_cons.mpr ⟨lw_p32, List.forall_mem_cons.mpr ⟨lw_p33, List.forall_mem_cons.mpr ⟨lw_p34, List.forall_mem_cons.mpr ⟨lw_p35, List.forall_mem_cons.mpr ⟨lw_p36, List.forall_mem_cons.mpr ⟨lw_p37, List.forall_mem_cons.mpr ⟨lw_p38, List.forall_mem_cons.mpr ⟨lw_p39, List.forall_mem_cons.mpr ⟨lw_p40, List.forall_mem_cons.mpr ⟨lw_p41, List.forall_mem_cons.mpr ⟨lw_p42, List.forall_mem_cons.mpr ⟨lw_p43, List.forall_mem_cons.mpr ⟨lw_p44, List.forall_mem_cons.mpr ⟨lw_p45, List.forall_mem_cons.mpr ⟨lw_p46, List.forall_mem_cons.mpr ⟨lw_p47, fun _ h => absurd h List.not_mem_nil⟩⟩⟩⟩⟩⟩⟩⟩⟩⟩⟩⟩⟩⟩⟩⟩
theorem lw_p48 : lw_okq (⟨"RammedCobblesModel", "clearWear", "()V"⟩, 40) := ⟨⟨by decide +kernel, by decide +kernel⟩, List.mem_of_getElem? (i := 831) (by decide +kernel), List.mem_of_getElem? (i := 1140) (by decide +kernel), List.mem_of_getElem? (i := 1141) (by decide +kernel)⟩
theorem lw_p49 : lw_okq (⟨"RammedCobblesModel", "bear", "(II)V"⟩, 40) := ⟨⟨by decide +kernel, by decide +kernel⟩, List.mem_of_getElem? (i := 831) (by decide +kernel), List.mem_of_getElem? (i := 1144) (by decide +kernel), List.mem_of_getElem? (i := 1145) (by decide +kernel)⟩
theorem lw_p50 : lw_okq (⟨"RammedCobblesModel", "bearSecond", "(III)V"⟩, 40) := ⟨⟨by decide +kernel, by decide +kernel⟩, List.mem_of_getElem? (i := 831) (by decide +kernel), List.mem_of_getElem? (i := 1148) (by decide +kernel), List.mem_of_getElem? (i := 1149) (by decide +kernel)⟩
theorem lw_p51 : lw_okq (⟨"RammedCobblesModel", "layWater", "()V"⟩, 40) := ⟨⟨by decide +kernel, by decide +kernel⟩, List.mem_of_getElem? (i := 831) (by decide +kernel), List.mem_of_getElem? (i := 1160) (by decide +kernel), List.mem_of_getElem? (i := 1161) (by decide +kernel)⟩
theorem lw_p52 : lw_okq (⟨"RammedCobblesModel", "isRim", "(I)Z"⟩, 40) := ⟨⟨by decide +kernel, by decide +kernel⟩, List.mem_of_getElem? (i := 831) (by decide +kernel), List.mem_of_getElem? (i := 1164) (by decide +kernel), List.mem_of_getElem? (i := 1165) (by decide +kernel)⟩
theorem lw_p53 : lw_okq (⟨"RammedCobblesModel", "isReady", "()Z"⟩, 40) := ⟨⟨by decide +kernel, by decide +kernel⟩, List.mem_of_getElem? (i := 831) (by decide +kernel), List.mem_of_getElem? (i := 1176) (by decide +kernel), List.mem_of_getElem? (i := 1177) (by decide +kernel)⟩
theorem lw_p54 : lw_okq (⟨"RammedCobblesModel", "goYears", "(II)I"⟩, 40) := ⟨⟨by decide +kernel, by decide +kernel⟩, List.mem_of_getElem? (i := 831) (by decide +kernel), List.mem_of_getElem? (i := 1183) (by decide +kernel), List.mem_of_getElem? (i := 1184) (by decide +kernel)⟩
theorem lw_p55 : lw_okq (⟨"RammedCobblesModel", "goYear", "(I)I"⟩, 40) := ⟨⟨by decide +kernel, by decide +kernel⟩, List.mem_of_getElem? (i := 831) (by decide +kernel), List.mem_of_getElem? (i := 1187) (by decide +kernel), List.mem_of_getElem? (i := 1188) (by decide +kernel)⟩
theorem lw_p56 : lw_okq (⟨"RammedCobblesModel", "layWear", "()V"⟩, 40) := ⟨⟨by decide +kernel, by decide +kernel⟩, List.mem_of_getElem? (i := 831) (by decide +kernel), List.mem_of_getElem? (i := 1191) (by decide +kernel), List.mem_of_getElem? (i := 1192) (by decide +kernel)⟩
theorem lw_p57 : lw_okq (⟨"RammedCobblesModel", "worsen", "(I)Z"⟩, 40) := ⟨⟨by decide +kernel, by decide +kernel⟩, List.mem_of_getElem? (i := 831) (by decide +kernel), List.mem_of_getElem? (i := 1195) (by decide +kernel), List.mem_of_getElem? (i := 1196) (by decide +kernel)⟩
theorem lw_p58 : lw_okq (⟨"RammedCobblesModel", "freeze", "(II)V"⟩, 40) := ⟨⟨by decide +kernel, by decide +kernel⟩, List.mem_of_getElem? (i := 831) (by decide +kernel), List.mem_of_getElem? (i := 1199) (by decide +kernel), List.mem_of_getElem? (i := 1200) (by decide +kernel)⟩
theorem lw_p59 : lw_okq (⟨"RammedCobblesModel", "draw", "()I"⟩, 40) := ⟨⟨by decide +kernel, by decide +kernel⟩, List.mem_of_getElem? (i := 831) (by decide +kernel), List.mem_of_getElem? (i := 1206) (by decide +kernel), List.mem_of_getElem? (i := 1207) (by decide +kernel)⟩
theorem lw_p60 : lw_okq (⟨"RammedCobblesModel", "isBesideSand", "(I)Z"⟩, 40) := ⟨⟨by decide +kernel, by decide +kernel⟩, List.mem_of_getElem? (i := 831) (by decide +kernel), List.mem_of_getElem? (i := 1215) (by decide +kernel), List.mem_of_getElem? (i := 1216) (by decide +kernel)⟩
theorem lw_p61 : lw_okq (⟨"RammedCobblesModel", "wouldNow", "(II)I"⟩, 40) := ⟨⟨by decide +kernel, by decide +kernel⟩, List.mem_of_getElem? (i := 831) (by decide +kernel), List.mem_of_getElem? (i := 1223) (by decide +kernel), List.mem_of_getElem? (i := 1224) (by decide +kernel)⟩
theorem lw_p62 : lw_okq (⟨"RammedCobblesModel", "canMend", "(I)Z"⟩, 40) := ⟨⟨by decide +kernel, by decide +kernel⟩, List.mem_of_getElem? (i := 831) (by decide +kernel), List.mem_of_getElem? (i := 1231) (by decide +kernel), List.mem_of_getElem? (i := 1232) (by decide +kernel)⟩
theorem lw_p63 : lw_okq (⟨"RammedCobblesModel", "goMend", "(II)V"⟩, 40) := ⟨⟨by decide +kernel, by decide +kernel⟩, List.mem_of_getElem? (i := 831) (by decide +kernel), List.mem_of_getElem? (i := 1235) (by decide +kernel), List.mem_of_getElem? (i := 1236) (by decide +kernel)⟩
def lw_privs_4 : List (MethodName × Nat) := [(⟨"RammedCobblesModel", "clearWear", "()V"⟩, 40), (⟨"RammedCobblesModel", "bear", "(II)V"⟩, 40), (⟨"RammedCobblesModel", "bearSecond", "(III)V"⟩, 40), (⟨"RammedCobblesModel", "layWater", "()V"⟩, 40), (⟨"RammedCobblesModel", "isRim", "(I)Z"⟩, 40), (⟨"RammedCobblesModel", "isReady", "()Z"⟩, 40), (⟨"RammedCobblesModel", "goYears", "(II)I"⟩, 40), (⟨"RammedCobblesModel", "goYear", "(I)I"⟩, 40), (⟨"RammedCobblesModel", "layWear", "()V"⟩, 40), (⟨"RammedCobblesModel", "worsen", "(I)Z"⟩, 40), (⟨"RammedCobblesModel", "freeze", "(II)V"⟩, 40), (⟨"RammedCobblesModel", "draw", "()I"⟩, 40), (⟨"RammedCobblesModel", "isBesideSand", "(I)Z"⟩, 40), (⟨"RammedCobblesModel", "wouldNow", "(II)I"⟩, 40), (⟨"RammedCobblesModel", "canMend", "(I)Z"⟩, 40), (⟨"RammedCobblesModel", "goMend", "(II)V"⟩, 40)]
theorem lw_r4 : ∀ q ∈ lw_privs_4, lw_okq q := List.forall_mem_cons.mpr ⟨lw_p48, List.forall_mem_cons.mpr ⟨lw_p49, List.forall_mem_cons.mpr ⟨lw_p50, List.forall_mem_cons.mpr ⟨lw_p51, List.forall_mem_cons.mpr ⟨lw_p52, List.forall_mem_cons.mpr ⟨lw_p53, List.forall_mem_cons.mpr ⟨lw_p54, List.forall_mem_cons.mpr ⟨lw_p55, List.forall_mem_cons.mpr ⟨lw_p56, List.forall_mem_cons.mpr ⟨lw_p57, List.forall_mem_cons.mpr ⟨lw_p58, List.forall_mem_cons.mpr ⟨lw_p59, List.forall_mem_cons.mpr ⟨lw_p60, List.forall_mem_cons.mpr ⟨lw_p61, List.forall_mem_cons.mpr ⟨lw_p62, List.forall_mem_cons.mpr ⟨lw_p63, fun _ h => absurd h List.not_mem_nil⟩⟩⟩⟩⟩⟩⟩⟩⟩⟩⟩⟩⟩⟩⟩⟩
theorem lw_p64 : lw_okq (⟨"RammedCobblesModel", "layMends", "()V"⟩, 40) := ⟨⟨by decide +kernel, by decide +kernel⟩, List.mem_of_getElem? (i := 831) (by decide +kernel), List.mem_of_getElem? (i := 1243) (by decide +kernel), List.mem_of_getElem? (i := 1244) (by decide +kernel)⟩
theorem lw_p65 : lw_okq (⟨"RammedCobblesModel", "wide", "(I)I"⟩, 40) := ⟨⟨by decide +kernel, by decide +kernel⟩, List.mem_of_getElem? (i := 831) (by decide +kernel), List.mem_of_getElem? (i := 1262) (by decide +kernel), List.mem_of_getElem? (i := 1263) (by decide +kernel)⟩
theorem lw_p66 : lw_okq (⟨"RammedCobblesModel", "isRow", "(I)Z"⟩, 40) := ⟨⟨by decide +kernel, by decide +kernel⟩, List.mem_of_getElem? (i := 831) (by decide +kernel), List.mem_of_getElem? (i := 1274) (by decide +kernel), List.mem_of_getElem? (i := 1275) (by decide +kernel)⟩
theorem lw_p67 : lw_okq (⟨"RammedCobblesModel", "steps", "(I)I"⟩, 40) := ⟨⟨by decide +kernel, by decide +kernel⟩, List.mem_of_getElem? (i := 831) (by decide +kernel), List.mem_of_getElem? (i := 1278) (by decide +kernel), List.mem_of_getElem? (i := 1279) (by decide +kernel)⟩
theorem lw_p68 : lw_okq (⟨"RammedCobblesModel", "shaken", "(II)I"⟩, 40) := ⟨⟨by decide +kernel, by decide +kernel⟩, List.mem_of_getElem? (i := 831) (by decide +kernel), List.mem_of_getElem? (i := 1282) (by decide +kernel), List.mem_of_getElem? (i := 1283) (by decide +kernel)⟩
theorem lw_p69 : lw_okq (⟨"RammedCobblesModel", "howMany", "(I)I"⟩, 40) := ⟨⟨by decide +kernel, by decide +kernel⟩, List.mem_of_getElem? (i := 831) (by decide +kernel), List.mem_of_getElem? (i := 1305) (by decide +kernel), List.mem_of_getElem? (i := 1306) (by decide +kernel)⟩
theorem lw_p70 : lw_okq (⟨"RammedCobblesModel", "mixStreet", "()V"⟩, 40) := ⟨⟨by decide +kernel, by decide +kernel⟩, List.mem_of_getElem? (i := 831) (by decide +kernel), List.mem_of_getElem? (i := 1314) (by decide +kernel), List.mem_of_getElem? (i := 1315) (by decide +kernel)⟩
theorem lw_p71 : lw_okq (⟨"RammedCobblesModel", "mix", "(J)V"⟩, 40) := ⟨⟨by decide +kernel, by decide +kernel⟩, List.mem_of_getElem? (i := 831) (by decide +kernel), List.mem_of_getElem? (i := 1318) (by decide +kernel), List.mem_of_getElem? (i := 1319) (by decide +kernel)⟩
def lw_privs_5 : List (MethodName × Nat) := [(⟨"RammedCobblesModel", "layMends", "()V"⟩, 40), (⟨"RammedCobblesModel", "wide", "(I)I"⟩, 40), (⟨"RammedCobblesModel", "isRow", "(I)Z"⟩, 40), (⟨"RammedCobblesModel", "steps", "(I)I"⟩, 40), (⟨"RammedCobblesModel", "shaken", "(II)I"⟩, 40), (⟨"RammedCobblesModel", "howMany", "(I)I"⟩, 40), (⟨"RammedCobblesModel", "mixStreet", "()V"⟩, 40), (⟨"RammedCobblesModel", "mix", "(J)V"⟩, 40)]
theorem lw_r5 : ∀ q ∈ lw_privs_5, lw_okq q := List.forall_mem_cons.mpr ⟨lw_p64, List.forall_mem_cons.mpr ⟨lw_p65, List.forall_mem_cons.mpr ⟨lw_p66, List.forall_mem_cons.mpr ⟨lw_p67, List.forall_mem_cons.mpr ⟨lw_p68, List.forall_mem_cons.mpr ⟨lw_p69, List.forall_mem_cons.mpr ⟨lw_p70, List.forall_mem_cons.mpr ⟨lw_p71, fun _ h => absurd h List.not_mem_nil⟩⟩⟩⟩⟩⟩⟩⟩
def lw_privs : List (MethodName × Nat) := lw_privs_1 ++ (lw_privs_2 ++ (lw_privs_3 ++ (lw_privs_4 ++ (lw_privs_5))))
def lw_tbl : List Cond := k2_sels lw_privs ++ tables_1
theorem lw_privs_ok : ∀ q ∈ lw_privs, lw_okq q := by
  show ∀ q ∈ lw_privs_1 ++ (lw_privs_2 ++ (lw_privs_3 ++ (lw_privs_4 ++ (lw_privs_5)))), lw_okq q
  exact List.forall_mem_append.mpr ⟨lw_r1, List.forall_mem_append.mpr ⟨lw_r2, List.forall_mem_append.mpr ⟨lw_r3, List.forall_mem_append.mpr ⟨lw_r4, lw_r5⟩⟩⟩⟩

def RX0 : String := "RammedCobbles$CartText"
def TX0 : u_T := fun k => match k with
  | 0 => ("RammedCobbles$CartText", "rows", "[I", true)
  | 1 => ("RammedCobbles$CartText", "loads", "[I", true)
  | 2 => ("RammedCobbles$CartText", "many", "I", false)
  | _ => ("RammedCobbles$CartText", "due", "I", false)
def tyX0 : Nat → FieldType := fun k => match k with
  | 0 => .array .int
  | 1 => .array .int
  | 2 => .int
  | _ => .int
theorem nmX0 : ∀ a, a < 4 → ∀ b, b < 4 → a ≠ b → (TX0 a).2.1 ≠ (TX0 b).2.1 := by decide +kernel
theorem tyX0_ok : ∀ k, k < 4 → parseFieldDescriptor (TX0 k).2.2.1 = some (tyX0 k) := by decide +kernel
abbrev cX0_init : ByteArray := prog_2_method_1_code
def yX0_init : MethodName := ⟨RX0, "<init>", "()V"⟩
abbrev cX0_copyFrom : ByteArray := prog_2_method_2_code
def yX0_copyFrom : MethodName := ⟨RX0, "copyFrom", "(LRammedCobbles$CartText;)V"⟩
abbrev cX0_begin : ByteArray := prog_2_method_3_code
def yX0_begin : MethodName := ⟨RX0, "begin", "()V"⟩
abbrev cX0_takes : ByteArray := prog_2_method_4_code
def yX0_takes : MethodName := ⟨RX0, "takes", "(I)Z"⟩
abbrev cX0_isWhole : ByteArray := prog_2_method_5_code
def yX0_isWhole : MethodName := ⟨RX0, "isWhole", "()Z"⟩
abbrev cX0_takesRow : ByteArray := prog_2_method_6_code
def yX0_takesRow : MethodName := ⟨RX0, "takesRow", "(I)Z"⟩
abbrev cX0_takesDigit : ByteArray := prog_2_method_7_code
def yX0_takesDigit : MethodName := ⟨RX0, "takesDigit", "(II)Z"⟩
abbrev cX0_takesEnd : ByteArray := prog_2_method_8_code
def yX0_takesEnd : MethodName := ⟨RX0, "takesEnd", "(I)Z"⟩
def RX1 : String := "RammedCobbles$Heap"
def TX1 : u_T := fun k => match k with
  | 0 => ("RammedCobbles$Heap", "sizes", "[I", true)
  | 1 => ("RammedCobbles$Heap", "widthBelow", "[I", true)
  | 2 => ("RammedCobbles$Heap", "many", "I", false)
  | 3 => ("RammedCobbles$Heap", "bestBits", "I", false)
  | _ => ("RammedCobbles$Heap", "bestWidth", "I", false)
def tyX1 : Nat → FieldType := fun k => match k with
  | 0 => .array .int
  | 1 => .array .int
  | 2 => .int
  | 3 => .int
  | _ => .int
theorem nmX1 : ∀ a, a < 5 → ∀ b, b < 5 → a ≠ b → (TX1 a).2.1 ≠ (TX1 b).2.1 := by decide +kernel
theorem tyX1_ok : ∀ k, k < 5 → parseFieldDescriptor (TX1 k).2.2.1 = some (tyX1 k) := by decide +kernel
abbrev cX1_init : ByteArray := prog_3_method_1_code
def yX1_init : MethodName := ⟨RX1, "<init>", "()V"⟩
abbrev cX1_put : ByteArray := prog_3_method_2_code
def yX1_put : MethodName := ⟨RX1, "put", "(I)V"⟩
abbrev cX1_choose : ByteArray := prog_3_method_3_code
def yX1_choose : MethodName := ⟨RX1, "choose", "(I)V"⟩
abbrev cX1_isBetter : ByteArray := prog_3_method_4_code
def yX1_isBetter : MethodName := ⟨RX1, "isBetter", "(II)Z"⟩
def RX2 : String := "RammedCobbles$Loads"
def TX2 : u_T := fun k => match k with
  | 0 => ("RammedCobbles$Loads", "plan", "LRammedCobbles$Plan;", true)
  | 1 => ("RammedCobbles$Loads", "grips", "[I", true)
  | _ => ("RammedCobbles$Loads", "borne", "[I", true)
def tyX2 : Nat → FieldType := fun k => match k with
  | 0 => .object "RammedCobbles$Plan"
  | 1 => .array .int
  | _ => .array .int
theorem nmX2 : ∀ a, a < 3 → ∀ b, b < 3 → a ≠ b → (TX2 a).2.1 ≠ (TX2 b).2.1 := by decide +kernel
theorem tyX2_ok : ∀ k, k < 3 → parseFieldDescriptor (TX2 k).2.2.1 = some (tyX2 k) := by decide +kernel
abbrev cX2_init : ByteArray := prog_4_method_1_code
def yX2_init : MethodName := ⟨RX2, "<init>", "(LRammedCobbles$Plan;)V"⟩
abbrev cX2_begin : ByteArray := prog_4_method_2_code
def yX2_begin : MethodName := ⟨RX2, "begin", "(LRammedCobbles$Street;)V"⟩
abbrev cX2_lay : ByteArray := prog_4_method_3_code
def yX2_lay : MethodName := ⟨RX2, "lay", "(II)V"⟩
abbrev cX2_passOn : ByteArray := prog_4_method_4_code
def yX2_passOn : MethodName := ⟨RX2, "passOn", "(III)V"⟩
abbrev cX2_greatest : ByteArray := prog_4_method_5_code
def yX2_greatest : MethodName := ⟨RX2, "greatest", "()I"⟩
def RX3 : String := "RammedCobbles$Page"
def TX3 : u_T := fun k => match k with
  | 0 => ("RammedCobbles$Page", "codes", "[I", true)
  | _ => ("RammedCobbles$Page", "length", "I", false)
def tyX3 : Nat → FieldType := fun k => match k with
  | 0 => .array .int
  | _ => .int
theorem nmX3 : ∀ a, a < 2 → ∀ b, b < 2 → a ≠ b → (TX3 a).2.1 ≠ (TX3 b).2.1 := by decide +kernel
theorem tyX3_ok : ∀ k, k < 2 → parseFieldDescriptor (TX3 k).2.2.1 = some (tyX3 k) := by decide +kernel
abbrev cX3_init : ByteArray := prog_5_method_1_code
def yX3_init : MethodName := ⟨RX3, "<init>", "()V"⟩
abbrev cX3_append : ByteArray := prog_5_method_2_code
def yX3_append : MethodName := ⟨RX3, "append", "(I)V"⟩
def RX4 : String := "RammedCobbles$Plan"
def TX4 : u_T := fun k => match k with
  | 0 => ("RammedCobbles$Plan", "near", "[I", true)
  | 1 => ("RammedCobbles$Plan", "atRim", "[Z", true)
  | 2 => ("RammedCobbles$Plan", "rows", "I", false)
  | 3 => ("RammedCobbles$Plan", "wide", "I", false)
  | _ => ("RammedCobbles$Plan", "cells", "I", false)
def tyX4 : Nat → FieldType := fun k => match k with
  | 0 => .array .int
  | 1 => .array .boolean
  | 2 => .int
  | 3 => .int
  | _ => .int
theorem nmX4 : ∀ a, a < 5 → ∀ b, b < 5 → a ≠ b → (TX4 a).2.1 ≠ (TX4 b).2.1 := by decide +kernel
theorem tyX4_ok : ∀ k, k < 5 → parseFieldDescriptor (TX4 k).2.2.1 = some (tyX4 k) := by decide +kernel
abbrev cX4_init : ByteArray := prog_6_method_1_code
def yX4_init : MethodName := ⟨RX4, "<init>", "()V"⟩
abbrev cX4_draw : ByteArray := prog_6_method_2_code
def yX4_draw : MethodName := ⟨RX4, "draw", "(II)V"⟩
abbrev cX4_numberOf : ByteArray := prog_6_method_3_code
def yX4_numberOf : MethodName := ⟨RX4, "numberOf", "(II)I"⟩
abbrev cX4_beside : ByteArray := prog_6_method_4_code
def yX4_beside : MethodName := ⟨RX4, "beside", "(II)I"⟩
abbrev cX4_steps : ByteArray := prog_6_method_5_code
def yX4_steps : MethodName := ⟨RX4, "steps", "(I)I"⟩
def RX5 : String := "RammedCobbles$Ramming"
def TX5 : u_T := fun k => match k with
  | 0 => ("RammedCobbles$Ramming", "plan", "LRammedCobbles$Plan;", true)
  | _ => ("RammedCobbles$Ramming", "turns", "[I", true)
def tyX5 : Nat → FieldType := fun k => match k with
  | 0 => .object "RammedCobbles$Plan"
  | _ => .array .int
theorem nmX5 : ∀ a, a < 2 → ∀ b, b < 2 → a ≠ b → (TX5 a).2.1 ≠ (TX5 b).2.1 := by decide +kernel
theorem tyX5_ok : ∀ k, k < 2 → parseFieldDescriptor (TX5 k).2.2.1 = some (tyX5 k) := by decide +kernel
abbrev cX5_init : ByteArray := prog_7_method_1_code
def yX5_init : MethodName := ⟨RX5, "<init>", "(LRammedCobbles$Plan;)V"⟩
abbrev cX5_go : ByteArray := prog_7_method_2_code
def yX5_go : MethodName := ⟨RX5, "go", "(LRammedCobbles$Street;III)I"⟩
abbrev cX5_roundsTillAllRing : ByteArray := prog_7_method_3_code
def yX5_roundsTillAllRing : MethodName := ⟨RX5, "roundsTillAllRing", "(LRammedCobbles$Street;II)I"⟩
abbrev cX5_goRound : ByteArray := prog_7_method_4_code
def yX5_goRound : MethodName := ⟨RX5, "goRound", "(LRammedCobbles$Street;I)I"⟩
abbrev cX5_arrange : ByteArray := prog_7_method_5_code
def yX5_arrange : MethodName := ⟨RX5, "arrange", "(I)V"⟩
abbrev cX5_arrangeByColumns : ByteArray := prog_7_method_6_code
def yX5_arrangeByColumns : MethodName := ⟨RX5, "arrangeByColumns", "()V"⟩
def RX6 : String := "RammedCobbles$Reader"
def TX6 : u_T := fun k => match k with
  | _ => ("", "", "", false)
def tyX6 : Nat → FieldType := fun k => match k with
  | _ => .int
theorem nmX6 : ∀ a, a < 0 → ∀ b, b < 0 → a ≠ b → (TX6 a).2.1 ≠ (TX6 b).2.1 := by decide +kernel
theorem tyX6_ok : ∀ k, k < 0 → parseFieldDescriptor (TX6 k).2.2.1 = some (tyX6 k) := by decide +kernel
abbrev cX6_init : ByteArray := prog_8_method_1_code
def yX6_init : MethodName := ⟨RX6, "<init>", "()V"⟩
abbrev cX6_faultIn : ByteArray := prog_8_method_5_code
def yX6_faultIn : MethodName := ⟨RX6, "faultIn", "(LRammedCobbles$Page;)I"⟩
abbrev cX6_reads : ByteArray := prog_8_method_6_code
def yX6_reads : MethodName := ⟨RX6, "reads", "(LRammedCobbles$Page;)Z"⟩
def RX7 : String := "RammedCobbles$Street"
def TX7 : u_T := fun k => match k with
  | 0 => ("RammedCobbles$Street", "plan", "LRammedCobbles$Plan;", true)
  | 1 => ("RammedCobbles$Street", "kinds", "[I", true)
  | 2 => ("RammedCobbles$Street", "sizes", "[I", true)
  | 3 => ("RammedCobbles$Street", "heights", "[I", true)
  | 4 => ("RammedCobbles$Street", "seats", "[I", true)
  | 5 => ("RammedCobbles$Street", "joints", "[I", true)
  | 6 => ("RammedCobbles$Street", "seed", "I", false)
  | _ => ("RammedCobbles$Street", "changes", "I", false)
def tyX7 : Nat → FieldType := fun k => match k with
  | 0 => .object "RammedCobbles$Plan"
  | 1 => .array .int
  | 2 => .array .int
  | 3 => .array .int
  | 4 => .array .int
  | 5 => .array .int
  | 6 => .int
  | _ => .int
theorem nmX7 : ∀ a, a < 8 → ∀ b, b < 8 → a ≠ b → (TX7 a).2.1 ≠ (TX7 b).2.1 := by decide +kernel
theorem tyX7_ok : ∀ k, k < 8 → parseFieldDescriptor (TX7 k).2.2.1 = some (tyX7 k) := by decide +kernel
abbrev cX7_init : ByteArray := prog_9_method_1_code
def yX7_init : MethodName := ⟨RX7, "<init>", "(LRammedCobbles$Plan;)V"⟩
abbrev cX7_pave : ByteArray := prog_9_method_2_code
def yX7_pave : MethodName := ⟨RX7, "pave", "(LRammedCobbles$StreetText;)V"⟩
abbrev cX7_copyFrom : ByteArray := prog_9_method_3_code
def yX7_copyFrom : MethodName := ⟨RX7, "copyFrom", "(LRammedCobbles$Street;)V"⟩
abbrev cX7_tell : ByteArray := prog_9_method_4_code
def yX7_tell : MethodName := ⟨RX7, "tell", "(II)I"⟩
abbrev cX7_isOf : ByteArray := prog_9_method_5_code
def yX7_isOf : MethodName := ⟨RX7, "isOf", "(II)Z"⟩
abbrev cX7_stones : ByteArray := prog_9_method_6_code
def yX7_stones : MethodName := ⟨RX7, "stones", "()I"⟩
abbrev cX7_grip : ByteArray := prog_9_method_7_code
def yX7_grip : MethodName := ⟨RX7, "grip", "(I)I"⟩
abbrev cX7_hold : ByteArray := prog_9_method_8_code
def yX7_hold : MethodName := ⟨RX7, "hold", "(I)I"⟩
abbrev cX7_level : ByteArray := prog_9_method_9_code
def yX7_level : MethodName := ⟨RX7, "level", "(I)V"⟩
abbrev cX7_fillJoints : ByteArray := prog_9_method_10_code
def yX7_fillJoints : MethodName := ⟨RX7, "fillJoints", "(I)V"⟩
abbrev cX7_sinkBy : ByteArray := prog_9_method_11_code
def yX7_sinkBy : MethodName := ⟨RX7, "sinkBy", "(II)I"⟩
abbrev cX7_strike : ByteArray := prog_9_method_12_code
def yX7_strike : MethodName := ⟨RX7, "strike", "(II)I"⟩
abbrev cX7_seatFirmer : ByteArray := prog_9_method_13_code
def yX7_seatFirmer : MethodName := ⟨RX7, "seatFirmer", "(I)V"⟩
abbrev cX7_ringing : ByteArray := prog_9_method_14_code
def yX7_ringing : MethodName := ⟨RX7, "ringing", "(I)I"⟩
abbrev cX7_spread : ByteArray := prog_9_method_15_code
def yX7_spread : MethodName := ⟨RX7, "spread", "()I"⟩
abbrev cX7_canBeMended : ByteArray := prog_9_method_16_code
def yX7_canBeMended : MethodName := ⟨RX7, "canBeMended", "(I)Z"⟩
abbrev cX7_repair : ByteArray := prog_9_method_17_code
def yX7_repair : MethodName := ⟨RX7, "repair", "(II)V"⟩
abbrev cX7_worsen : ByteArray := prog_9_method_18_code
def yX7_worsen : MethodName := ⟨RX7, "worsen", "(I)Z"⟩
abbrev cX7_loseGrit : ByteArray := prog_9_method_19_code
def yX7_loseGrit : MethodName := ⟨RX7, "loseGrit", "(I)V"⟩
abbrev cX7_freeze : ByteArray := prog_9_method_20_code
def yX7_freeze : MethodName := ⟨RX7, "freeze", "(II)V"⟩
abbrev cX7_drawOfTen : ByteArray := prog_9_method_21_code
def yX7_drawOfTen : MethodName := ⟨RX7, "drawOfTen", "()I"⟩
abbrev cX7_isBesideSand : ByteArray := prog_9_method_22_code
def yX7_isBesideSand : MethodName := ⟨RX7, "isBesideSand", "(I)Z"⟩
abbrev cX7_jolts : ByteArray := prog_9_method_23_code
def yX7_jolts : MethodName := ⟨RX7, "jolts", "(II)I"⟩
def RX8 : String := "RammedCobbles$StreetText"
def TX8 : u_T := fun k => match k with
  | 0 => ("RammedCobbles$StreetText", "kinds", "[I", true)
  | 1 => ("RammedCobbles$StreetText", "sizes", "[I", true)
  | 2 => ("RammedCobbles$StreetText", "rows", "I", false)
  | 3 => ("RammedCobbles$StreetText", "wide", "I", false)
  | 4 => ("RammedCobbles$StreetText", "inRow", "I", false)
  | 5 => ("RammedCobbles$StreetText", "cells", "I", false)
  | _ => ("RammedCobbles$StreetText", "sizeIsDue", "Z", false)
def tyX8 : Nat → FieldType := fun k => match k with
  | 0 => .array .int
  | 1 => .array .int
  | 2 => .int
  | 3 => .int
  | 4 => .int
  | 5 => .int
  | _ => .boolean
theorem nmX8 : ∀ a, a < 7 → ∀ b, b < 7 → a ≠ b → (TX8 a).2.1 ≠ (TX8 b).2.1 := by decide +kernel
theorem tyX8_ok : ∀ k, k < 7 → parseFieldDescriptor (TX8 k).2.2.1 = some (tyX8 k) := by decide +kernel
abbrev cX8_init : ByteArray := prog_10_method_1_code
def yX8_init : MethodName := ⟨RX8, "<init>", "()V"⟩
abbrev cX8_begin : ByteArray := prog_10_method_2_code
def yX8_begin : MethodName := ⟨RX8, "begin", "()V"⟩
abbrev cX8_takes : ByteArray := prog_10_method_3_code
def yX8_takes : MethodName := ⟨RX8, "takes", "(I)Z"⟩
abbrev cX8_isWhole : ByteArray := prog_10_method_4_code
def yX8_isWhole : MethodName := ⟨RX8, "isWhole", "()Z"⟩
abbrev cX8_takesSize : ByteArray := prog_10_method_5_code
def yX8_takesSize : MethodName := ⟨RX8, "takesSize", "(I)Z"⟩
abbrev cX8_takesRowEnd : ByteArray := prog_10_method_6_code
def yX8_takesRowEnd : MethodName := ⟨RX8, "takesRowEnd", "()Z"⟩
abbrev cX8_takesCell : ByteArray := prog_10_method_7_code
def yX8_takesCell : MethodName := ⟨RX8, "takesCell", "(I)Z"⟩
abbrev cX8_kindOf : ByteArray := prog_10_method_8_code
def yX8_kindOf : MethodName := ⟨RX8, "kindOf", "(I)I"⟩
def RX9 : String := "RammedCobbles$Water"
def TX9 : u_T := fun k => match k with
  | 0 => ("RammedCobbles$Water", "plan", "LRammedCobbles$Plan;", true)
  | _ => ("RammedCobbles$Water", "levels", "[I", true)
def tyX9 : Nat → FieldType := fun k => match k with
  | 0 => .object "RammedCobbles$Plan"
  | _ => .array .int
theorem nmX9 : ∀ a, a < 2 → ∀ b, b < 2 → a ≠ b → (TX9 a).2.1 ≠ (TX9 b).2.1 := by decide +kernel
theorem tyX9_ok : ∀ k, k < 2 → parseFieldDescriptor (TX9 k).2.2.1 = some (tyX9 k) := by decide +kernel
abbrev cX9_init : ByteArray := prog_11_method_1_code
def yX9_init : MethodName := ⟨RX9, "<init>", "(LRammedCobbles$Plan;)V"⟩
abbrev cX9_fill : ByteArray := prog_11_method_2_code
def yX9_fill : MethodName := ⟨RX9, "fill", "(LRammedCobbles$Street;)V"⟩
abbrev cX9_depth : ByteArray := prog_11_method_3_code
def yX9_depth : MethodName := ⟨RX9, "depth", "(LRammedCobbles$Street;I)I"⟩
abbrev cX9_fallsIn : ByteArray := prog_11_method_4_code
def yX9_fallsIn : MethodName := ⟨RX9, "fallsIn", "(LRammedCobbles$Street;I)Z"⟩
def RX10 : String := "RammedCobbles$Years"
def TX10 : u_T := fun k => match k with
  | 0 => ("RammedCobbles$Years", "plan", "LRammedCobbles$Plan;", true)
  | 1 => ("RammedCobbles$Years", "wear", "LRammedCobbles$Loads;", true)
  | 2 => ("RammedCobbles$Years", "pools", "LRammedCobbles$Water;", true)
  | _ => ("RammedCobbles$Years", "worn", "[Z", true)
def tyX10 : Nat → FieldType := fun k => match k with
  | 0 => .object "RammedCobbles$Plan"
  | 1 => .object "RammedCobbles$Loads"
  | 2 => .object "RammedCobbles$Water"
  | _ => .array .boolean
theorem nmX10 : ∀ a, a < 4 → ∀ b, b < 4 → a ≠ b → (TX10 a).2.1 ≠ (TX10 b).2.1 := by decide +kernel
theorem tyX10_ok : ∀ k, k < 4 → parseFieldDescriptor (TX10 k).2.2.1 = some (tyX10 k) := by decide +kernel
abbrev cX10_init : ByteArray := prog_12_method_1_code
def yX10_init : MethodName := ⟨RX10, "<init>", "(LRammedCobbles$Plan;LRammedCobbles$Loads;LRammedCobbles$Water;)V"⟩
abbrev cX10_pass : ByteArray := prog_12_method_2_code
def yX10_pass : MethodName := ⟨RX10, "pass", "(LRammedCobbles$Street;LRammedCobbles$CartText;II)I"⟩
abbrev cX10_layCarts : ByteArray := prog_12_method_3_code
def yX10_layCarts : MethodName := ⟨RX10, "layCarts", "(LRammedCobbles$Street;LRammedCobbles$CartText;)V"⟩
abbrev cX10_wearDown : ByteArray := prog_12_method_4_code
def yX10_wearDown : MethodName := ⟨RX10, "wearDown", "(LRammedCobbles$Street;)I"⟩
abbrev cX10_freeze : ByteArray := prog_12_method_5_code
def yX10_freeze : MethodName := ⟨RX10, "freeze", "(LRammedCobbles$Street;I)V"⟩
abbrev cX10_washOut : ByteArray := prog_12_method_6_code
def yX10_washOut : MethodName := ⟨RX10, "washOut", "(LRammedCobbles$Street;)V"⟩
def RX11 : String := "RammedCobbles"
def TX11 : u_T := fun k => match k with
  | 0 => ("RammedCobbles", "page", "LRammedCobbles$Page;", true)
  | 1 => ("RammedCobbles", "streetText", "LRammedCobbles$StreetText;", true)
  | 2 => ("RammedCobbles", "cartText", "LRammedCobbles$CartText;", true)
  | 3 => ("RammedCobbles", "kept", "LRammedCobbles$CartText;", true)
  | 4 => ("RammedCobbles", "plan", "LRammedCobbles$Plan;", true)
  | 5 => ("RammedCobbles", "now", "LRammedCobbles$Street;", true)
  | 6 => ("RammedCobbles", "trial", "LRammedCobbles$Street;", true)
  | 7 => ("RammedCobbles", "held", "LRammedCobbles$Street;", true)
  | 8 => ("RammedCobbles", "ramming", "LRammedCobbles$Ramming;", true)
  | 9 => ("RammedCobbles", "loads", "LRammedCobbles$Loads;", true)
  | 10 => ("RammedCobbles", "pools", "LRammedCobbles$Water;", true)
  | 11 => ("RammedCobbles", "ages", "LRammedCobbles$Years;", true)
  | 12 => ("RammedCobbles", "pile", "LRammedCobbles$Heap;", true)
  | 13 => ("RammedCobbles", "mendable", "[I", true)
  | 14 => ("RammedCobbles", "streetsRead", "I", false)
  | 15 => ("RammedCobbles", "imageOf", "I", false)
  | _ => ("RammedCobbles", "firstsDone", "I", false)
def tyX11 : Nat → FieldType := fun k => match k with
  | 0 => .object "RammedCobbles$Page"
  | 1 => .object "RammedCobbles$StreetText"
  | 2 => .object "RammedCobbles$CartText"
  | 3 => .object "RammedCobbles$CartText"
  | 4 => .object "RammedCobbles$Plan"
  | 5 => .object "RammedCobbles$Street"
  | 6 => .object "RammedCobbles$Street"
  | 7 => .object "RammedCobbles$Street"
  | 8 => .object "RammedCobbles$Ramming"
  | 9 => .object "RammedCobbles$Loads"
  | 10 => .object "RammedCobbles$Water"
  | 11 => .object "RammedCobbles$Years"
  | 12 => .object "RammedCobbles$Heap"
  | 13 => .array .int
  | 14 => .int
  | 15 => .int
  | _ => .int
theorem nmX11 : ∀ a, a < 17 → ∀ b, b < 17 → a ≠ b → (TX11 a).2.1 ≠ (TX11 b).2.1 := by decide +kernel
theorem tyX11_ok : ∀ k, k < 17 → parseFieldDescriptor (TX11 k).2.2.1 = some (tyX11 k) := by decide +kernel
abbrev cX11_init : ByteArray := prog_1_method_1_code
def yX11_init : MethodName := ⟨RX11, "<init>", "()V"⟩
abbrev cX11_letters : ByteArray := prog_1_method_2_code
def yX11_letters : MethodName := ⟨RX11, "letters", "(J)I"⟩
abbrev cX11_blank : ByteArray := prog_1_method_3_code
def yX11_blank : MethodName := ⟨RX11, "blank", "()I"⟩
abbrev cX11_fault : ByteArray := prog_1_method_4_code
def yX11_fault : MethodName := ⟨RX11, "fault", "(I)I"⟩
abbrev cX11_street : ByteArray := prog_1_method_5_code
def yX11_street : MethodName := ⟨RX11, "street", "()I"⟩
abbrev cX11_carts : ByteArray := prog_1_method_6_code
def yX11_carts : MethodName := ⟨RX11, "carts", "()I"⟩
abbrev cX11_cart : ByteArray := prog_1_method_7_code
def yX11_cart : MethodName := ⟨RX11, "cart", "(II)I"⟩
abbrev cX11_cell : ByteArray := prog_1_method_8_code
def yX11_cell : MethodName := ⟨RX11, "cell", "(II)I"⟩
abbrev cX11_as : ByteArray := prog_1_method_9_code
def yX11_as : MethodName := ⟨RX11, "as", "(II)I"⟩
abbrev cX11_set : ByteArray := prog_1_method_10_code
def yX11_set : MethodName := ⟨RX11, "set", "(I)I"⟩
abbrev cX11_grit : ByteArray := prog_1_method_11_code
def yX11_grit : MethodName := ⟨RX11, "grit", "(I)I"⟩
abbrev cX11_blow : ByteArray := prog_1_method_12_code
def yX11_blow : MethodName := ⟨RX11, "blow", "(II)I"⟩
abbrev cX11_ram : ByteArray := prog_1_method_13_code
def yX11_ram : MethodName := ⟨RX11, "ram", "(III)I"⟩
abbrev cX11_rings : ByteArray := prog_1_method_14_code
def yX11_rings : MethodName := ⟨RX11, "rings", "(I)I"⟩
abbrev cX11_proud : ByteArray := prog_1_method_15_code
def yX11_proud : MethodName := ⟨RX11, "proud", "(IIII)I"⟩
abbrev cX11_until : ByteArray := prog_1_method_16_code
def yX11_until : MethodName := ⟨RX11, "until", "(II)I"⟩
abbrev cX11_uneven : ByteArray := prog_1_method_17_code
def yX11_uneven : MethodName := ⟨RX11, "uneven", "()I"⟩
abbrev cX11_evenest : ByteArray := prog_1_method_18_code
def yX11_evenest : MethodName := ⟨RX11, "evenest", "(II)I"⟩
abbrev cX11_borne : ByteArray := prog_1_method_19_code
def yX11_borne : MethodName := ⟨RX11, "borne", "(III)I"⟩
abbrev cX11_bearer : ByteArray := prog_1_method_20_code
def yX11_bearer : MethodName := ⟨RX11, "bearer", "(II)I"⟩
abbrev cX11_water : ByteArray := prog_1_method_21_code
def yX11_water : MethodName := ⟨RX11, "water", "(I)I"⟩
abbrev cX11_seed : ByteArray := prog_1_method_22_code
def yX11_seed : MethodName := ⟨RX11, "seed", "(I)I"⟩
abbrev cX11_years : ByteArray := prog_1_method_23_code
def yX11_years : MethodName := ⟨RX11, "years", "(II)I"⟩
abbrev cX11_would : ByteArray := prog_1_method_24_code
def yX11_would : MethodName := ⟨RX11, "would", "(II)I"⟩
abbrev cX11_mend : ByteArray := prog_1_method_25_code
def yX11_mend : MethodName := ⟨RX11, "mend", "(II)I"⟩
abbrev cX11_first : ByteArray := prog_1_method_26_code
def yX11_first : MethodName := ⟨RX11, "first", "(IIII)I"⟩
abbrev cX11_trench : ByteArray := prog_1_method_27_code
def yX11_trench : MethodName := ⟨RX11, "trench", "(III)I"⟩
abbrev cX11_heap : ByteArray := prog_1_method_28_code
def yX11_heap : MethodName := ⟨RX11, "heap", "(I)I"⟩
abbrev cX11_fits : ByteArray := prog_1_method_29_code
def yX11_fits : MethodName := ⟨RX11, "fits", "(II)I"⟩
abbrev cX11_gaps : ByteArray := prog_1_method_30_code
def yX11_gaps : MethodName := ⟨RX11, "gaps", "(III)I"⟩
abbrev cX11_shake : ByteArray := prog_1_method_31_code
def yX11_shake : MethodName := ⟨RX11, "shake", "(III)I"⟩
abbrev cX11_worst : ByteArray := prog_1_method_32_code
def yX11_worst : MethodName := ⟨RX11, "worst", "(I)I"⟩
abbrev cX11_image : ByteArray := prog_1_method_33_code
def yX11_image : MethodName := ⟨RX11, "image", "()I"⟩
abbrev cX11_restore : ByteArray := prog_1_method_34_code
def yX11_restore : MethodName := ⟨RX11, "restore", "()I"⟩
abbrev cX11_count : ByteArray := prog_1_method_35_code
def yX11_count : MethodName := ⟨RX11, "count", "(I)I"⟩
abbrev cX11_digest : ByteArray := prog_1_method_36_code
def yX11_digest : MethodName := ⟨RX11, "digest", "()J"⟩
abbrev cX11_digestOfCells : ByteArray := prog_1_method_37_code
def yX11_digestOfCells : MethodName := ⟨RX11, "digestOfCells", "(J)J"⟩
abbrev cX11_findMendable : ByteArray := prog_1_method_38_code
def yX11_findMendable : MethodName := ⟨RX11, "findMendable", "()I"⟩
abbrev cX11_lostWith : ByteArray := prog_1_method_39_code
def yX11_lostWith : MethodName := ⟨RX11, "lostWith", "(IIII)I"⟩
abbrev cX11_hasStreet : ByteArray := prog_1_method_40_code
def yX11_hasStreet : MethodName := ⟨RX11, "hasStreet", "()Z"⟩
abbrev cX11_hasTraffic : ByteArray := prog_1_method_41_code
def yX11_hasTraffic : MethodName := ⟨RX11, "hasTraffic", "()Z"⟩
abbrev cX11_isCell : ByteArray := prog_1_method_42_code
def yX11_isCell : MethodName := ⟨RX11, "isCell", "(I)Z"⟩
abbrev cX11_isStone : ByteArray := prog_1_method_43_code
def yX11_isStone : MethodName := ⟨RX11, "isStone", "(I)Z"⟩
abbrev cX11_isRow : ByteArray := prog_1_method_44_code
def yX11_isRow : MethodName := ⟨RX11, "isRow", "(I)Z"⟩
abbrev cX11_isWeight : ByteArray := prog_1_method_45_code
def yX11_isWeight : MethodName := ⟨RX11, "isWeight", "(I)Z"⟩
abbrev cX11_isOrder : ByteArray := prog_1_method_46_code
def yX11_isOrder : MethodName := ⟨RX11, "isOrder", "(I)Z"⟩
abbrev cX11_isLoad : ByteArray := prog_1_method_47_code
def yX11_isLoad : MethodName := ⟨RX11, "isLoad", "(I)Z"⟩
abbrev cX11_isSize : ByteArray := prog_1_method_48_code
def yX11_isSize : MethodName := ⟨RX11, "isSize", "(I)Z"⟩
abbrev cX11_areYears : ByteArray := prog_1_method_49_code
def yX11_areYears : MethodName := ⟨RX11, "areYears", "(II)Z"⟩
abbrev cX11_byteOf : ByteArray := prog_1_method_50_code
def yX11_byteOf : MethodName := ⟨RX11, "byteOf", "(JI)I"⟩
abbrev cX11_lettersIn : ByteArray := prog_1_method_51_code
def yX11_lettersIn : MethodName := ⟨RX11, "lettersIn", "(J)I"⟩
abbrev cX11_quotient : ByteArray := prog_1_method_52_code
def yX11_quotient : MethodName := ⟨RX11, "quotient", "(II)I"⟩
abbrev cX11_commonDivisor : ByteArray := prog_1_method_53_code
def yX11_commonDivisor : MethodName := ⟨RX11, "commonDivisor", "(II)I"⟩
def RX12 : String := "RammedCobblesModel"
def TX12 : u_T := fun k => match k with
  | 0 => ("RammedCobblesModel", "rows", "I", false)
  | 1 => ("RammedCobblesModel", "columns", "I", false)
  | 2 => ("RammedCobblesModel", "streets", "I", false)
  | 3 => ("RammedCobblesModel", "kind", "[I", true)
  | 4 => ("RammedCobblesModel", "size", "[I", true)
  | 5 => ("RammedCobblesModel", "height", "[I", true)
  | 6 => ("RammedCobblesModel", "seat", "[I", true)
  | 7 => ("RammedCobblesModel", "joint", "[I", true)
  | 8 => ("RammedCobblesModel", "seedNow", "J", false)
  | 9 => ("RammedCobblesModel", "carts", "I", false)
  | 10 => ("RammedCobblesModel", "cartRow", "[I", true)
  | 11 => ("RammedCobblesModel", "cartLoad", "[I", true)
  | 12 => ("RammedCobblesModel", "stones", "I", false)
  | 13 => ("RammedCobblesModel", "heapOf", "[I", true)
  | 14 => ("RammedCobblesModel", "asks", "I", false)
  | 15 => ("RammedCobblesModel", "pageLength", "I", false)
  | 16 => ("RammedCobblesModel", "page", "[B", true)
  | 17 => ("RammedCobblesModel", "isKept", "Z", false)
  | 18 => ("RammedCobblesModel", "keptStreet", "I", false)
  | 19 => ("RammedCobblesModel", "keptSeed", "J", false)
  | 20 => ("RammedCobblesModel", "keptOf", "[I", true)
  | 21 => ("RammedCobblesModel", "savedSeed", "J", false)
  | 22 => ("RammedCobblesModel", "savedOf", "[I", true)
  | 23 => ("RammedCobblesModel", "faultAt", "I", false)
  | 24 => ("RammedCobblesModel", "isWhole", "Z", false)
  | 25 => ("RammedCobblesModel", "newRows", "I", false)
  | 26 => ("RammedCobblesModel", "newColumns", "I", false)
  | 27 => ("RammedCobblesModel", "newHere", "I", false)
  | 28 => ("RammedCobblesModel", "wantsSize", "Z", false)
  | 29 => ("RammedCobblesModel", "newKind", "[I", true)
  | 30 => ("RammedCobblesModel", "newSize", "[I", true)
  | 31 => ("RammedCobblesModel", "newCarts", "I", false)
  | 32 => ("RammedCobblesModel", "newRow", "[I", true)
  | 33 => ("RammedCobblesModel", "newLoad", "[I", true)
  | 34 => ("RammedCobblesModel", "wear", "[I", true)
  | 35 => ("RammedCobblesModel", "level", "[I", true)
  | 36 => ("RammedCobblesModel", "holdThen", "[I", true)
  | 37 => ("RammedCobblesModel", "mendMany", "I", false)
  | 38 => ("RammedCobblesModel", "mendCell", "[I", true)
  | _ => ("RammedCobblesModel", "h", "J", false)
def tyX12 : Nat → FieldType := fun k => match k with
  | 0 => .int
  | 1 => .int
  | 2 => .int
  | 3 => .array .int
  | 4 => .array .int
  | 5 => .array .int
  | 6 => .array .int
  | 7 => .array .int
  | 8 => .long
  | 9 => .int
  | 10 => .array .int
  | 11 => .array .int
  | 12 => .int
  | 13 => .array .int
  | 14 => .int
  | 15 => .int
  | 16 => .array .byte
  | 17 => .boolean
  | 18 => .int
  | 19 => .long
  | 20 => .array .int
  | 21 => .long
  | 22 => .array .int
  | 23 => .int
  | 24 => .boolean
  | 25 => .int
  | 26 => .int
  | 27 => .int
  | 28 => .boolean
  | 29 => .array .int
  | 30 => .array .int
  | 31 => .int
  | 32 => .array .int
  | 33 => .array .int
  | 34 => .array .int
  | 35 => .array .int
  | 36 => .array .int
  | 37 => .int
  | 38 => .array .int
  | _ => .long
theorem nmX12 : ∀ a, a < 40 → ∀ b, b < 40 → a ≠ b → (TX12 a).2.1 ≠ (TX12 b).2.1 := by decide +kernel
theorem tyX12_ok : ∀ k, k < 40 → parseFieldDescriptor (TX12 k).2.2.1 = some (tyX12 k) := by decide +kernel
abbrev cX12_init : ByteArray := prog_14_method_1_code
def yX12_init : MethodName := ⟨RX12, "<init>", "()V"⟩
abbrev cX12_within : ByteArray := prog_14_method_3_code
def yX12_within : MethodName := ⟨RX12, "within", "(III)Z"⟩
abbrev cX12_atLeast : ByteArray := prog_14_method_4_code
def yX12_atLeast : MethodName := ⟨RX12, "atLeast", "(I)I"⟩
abbrev cX12_letters : ByteArray := prog_14_method_5_code
def yX12_letters : MethodName := ⟨RX12, "letters", "(J)I"⟩
abbrev cX12_blank : ByteArray := prog_14_method_6_code
def yX12_blank : MethodName := ⟨RX12, "blank", "()I"⟩
abbrev cX12_isDigit : ByteArray := prog_14_method_7_code
def yX12_isDigit : MethodName := ⟨RX12, "isDigit", "(I)Z"⟩
abbrev cX12_kindBy : ByteArray := prog_14_method_8_code
def yX12_kindBy : MethodName := ⟨RX12, "kindBy", "(I)I"⟩
abbrev cX12_takeStreet : ByteArray := prog_14_method_9_code
def yX12_takeStreet : MethodName := ⟨RX12, "takeStreet", "(I)Z"⟩
abbrev cX12_readStreet : ByteArray := prog_14_method_10_code
def yX12_readStreet : MethodName := ⟨RX12, "readStreet", "()V"⟩
abbrev cX12_nextCart : ByteArray := prog_14_method_11_code
def yX12_nextCart : MethodName := ⟨RX12, "nextCart", "(II)I"⟩
abbrev cX12_readCarts : ByteArray := prog_14_method_12_code
def yX12_readCarts : MethodName := ⟨RX12, "readCarts", "()V"⟩
abbrev cX12_fault : ByteArray := prog_14_method_13_code
def yX12_fault : MethodName := ⟨RX12, "fault", "(I)I"⟩
abbrev cX12_street : ByteArray := prog_14_method_14_code
def yX12_street : MethodName := ⟨RX12, "street", "()I"⟩
abbrev cX12_carts : ByteArray := prog_14_method_15_code
def yX12_carts : MethodName := ⟨RX12, "carts", "()I"⟩
abbrev cX12_cartNow : ByteArray := prog_14_method_16_code
def yX12_cartNow : MethodName := ⟨RX12, "cartNow", "(II)I"⟩
abbrev cX12_cart : ByteArray := prog_14_method_17_code
def yX12_cart : MethodName := ⟨RX12, "cart", "(II)I"⟩
abbrev cX12_cells : ByteArray := prog_14_method_18_code
def yX12_cells : MethodName := ⟨RX12, "cells", "()I"⟩
abbrev cX12_isCell : ByteArray := prog_14_method_19_code
def yX12_isCell : MethodName := ⟨RX12, "isCell", "(I)Z"⟩
abbrev cX12_isStone : ByteArray := prog_14_method_20_code
def yX12_isStone : MethodName := ⟨RX12, "isStone", "(I)Z"⟩
abbrev cX12_beside : ByteArray := prog_14_method_21_code
def yX12_beside : MethodName := ⟨RX12, "beside", "(II)I"⟩
abbrev cX12_grip : ByteArray := prog_14_method_22_code
def yX12_grip : MethodName := ⟨RX12, "grip", "(I)I"⟩
abbrev cX12_hold : ByteArray := prog_14_method_23_code
def yX12_hold : MethodName := ⟨RX12, "hold", "(I)I"⟩
abbrev cX12_cellNow : ByteArray := prog_14_method_24_code
def yX12_cellNow : MethodName := ⟨RX12, "cellNow", "(II)I"⟩
abbrev cX12_cell : ByteArray := prog_14_method_25_code
def yX12_cell : MethodName := ⟨RX12, "cell", "(II)I"⟩
abbrev cX12_as : ByteArray := prog_14_method_26_code
def yX12_as : MethodName := ⟨RX12, "as", "(II)I"⟩
abbrev cX12_stoneMany : ByteArray := prog_14_method_27_code
def yX12_stoneMany : MethodName := ⟨RX12, "stoneMany", "()I"⟩
abbrev cX12_set : ByteArray := prog_14_method_28_code
def yX12_set : MethodName := ⟨RX12, "set", "(I)I"⟩
abbrev cX12_grit : ByteArray := prog_14_method_29_code
def yX12_grit : MethodName := ⟨RX12, "grit", "(I)I"⟩
abbrev cX12_isWeight : ByteArray := prog_14_method_30_code
def yX12_isWeight : MethodName := ⟨RX12, "isWeight", "(I)Z"⟩
abbrev cX12_sinks : ByteArray := prog_14_method_31_code
def yX12_sinks : MethodName := ⟨RX12, "sinks", "(II)I"⟩
abbrev cX12_goBlow : ByteArray := prog_14_method_32_code
def yX12_goBlow : MethodName := ⟨RX12, "goBlow", "(II)I"⟩
abbrev cX12_blow : ByteArray := prog_14_method_33_code
def yX12_blow : MethodName := ⟨RX12, "blow", "(II)I"⟩
abbrev cX12_byOrder : ByteArray := prog_14_method_34_code
def yX12_byOrder : MethodName := ⟨RX12, "byOrder", "(II)I"⟩
abbrev cX12_goRounds : ByteArray := prog_14_method_35_code
def yX12_goRounds : MethodName := ⟨RX12, "goRounds", "(III)I"⟩
abbrev cX12_isOrder : ByteArray := prog_14_method_36_code
def yX12_isOrder : MethodName := ⟨RX12, "isOrder", "(I)Z"⟩
abbrev cX12_ram : ByteArray := prog_14_method_37_code
def yX12_ram : MethodName := ⟨RX12, "ram", "(III)I"⟩
abbrev cX12_ringing : ByteArray := prog_14_method_38_code
def yX12_ringing : MethodName := ⟨RX12, "ringing", "(I)I"⟩
abbrev cX12_rings : ByteArray := prog_14_method_39_code
def yX12_rings : MethodName := ⟨RX12, "rings", "(I)I"⟩
abbrev cX12_save : ByteArray := prog_14_method_40_code
def yX12_save : MethodName := ⟨RX12, "save", "()V"⟩
abbrev cX12_back : ByteArray := prog_14_method_41_code
def yX12_back : MethodName := ⟨RX12, "back", "()V"⟩
abbrev cX12_proud : ByteArray := prog_14_method_42_code
def yX12_proud : MethodName := ⟨RX12, "proud", "(IIII)I"⟩
abbrev cX12_until : ByteArray := prog_14_method_43_code
def yX12_until : MethodName := ⟨RX12, "until", "(II)I"⟩
abbrev cX12_unevenNow : ByteArray := prog_14_method_44_code
def yX12_unevenNow : MethodName := ⟨RX12, "unevenNow", "()I"⟩
abbrev cX12_uneven : ByteArray := prog_14_method_45_code
def yX12_uneven : MethodName := ⟨RX12, "uneven", "()I"⟩
abbrev cX12_evenest : ByteArray := prog_14_method_46_code
def yX12_evenest : MethodName := ⟨RX12, "evenest", "(II)I"⟩
abbrev cX12_bear : ByteArray := prog_14_method_47_code
def yX12_bear : MethodName := ⟨RX12, "bear", "(II)V"⟩
abbrev cX12_bearSecond : ByteArray := prog_14_method_48_code
def yX12_bearSecond : MethodName := ⟨RX12, "bearSecond", "(III)V"⟩
abbrev cX12_clearWear : ByteArray := prog_14_method_49_code
def yX12_clearWear : MethodName := ⟨RX12, "clearWear", "()V"⟩
abbrev cX12_isLoad : ByteArray := prog_14_method_50_code
def yX12_isLoad : MethodName := ⟨RX12, "isLoad", "(I)Z"⟩
abbrev cX12_layLoad : ByteArray := prog_14_method_51_code
def yX12_layLoad : MethodName := ⟨RX12, "layLoad", "(II)V"⟩
abbrev cX12_borne : ByteArray := prog_14_method_52_code
def yX12_borne : MethodName := ⟨RX12, "borne", "(III)I"⟩
abbrev cX12_bearer : ByteArray := prog_14_method_53_code
def yX12_bearer : MethodName := ⟨RX12, "bearer", "(II)I"⟩
abbrev cX12_isRim : ByteArray := prog_14_method_54_code
def yX12_isRim : MethodName := ⟨RX12, "isRim", "(I)Z"⟩
abbrev cX12_layWater : ByteArray := prog_14_method_55_code
def yX12_layWater : MethodName := ⟨RX12, "layWater", "()V"⟩
abbrev cX12_water : ByteArray := prog_14_method_56_code
def yX12_water : MethodName := ⟨RX12, "water", "(I)I"⟩
abbrev cX12_seed : ByteArray := prog_14_method_57_code
def yX12_seed : MethodName := ⟨RX12, "seed", "(I)I"⟩
abbrev cX12_draw : ByteArray := prog_14_method_58_code
def yX12_draw : MethodName := ⟨RX12, "draw", "()I"⟩
abbrev cX12_layWear : ByteArray := prog_14_method_59_code
def yX12_layWear : MethodName := ⟨RX12, "layWear", "()V"⟩
abbrev cX12_worsen : ByteArray := prog_14_method_60_code
def yX12_worsen : MethodName := ⟨RX12, "worsen", "(I)Z"⟩
abbrev cX12_isBesideSand : ByteArray := prog_14_method_61_code
def yX12_isBesideSand : MethodName := ⟨RX12, "isBesideSand", "(I)Z"⟩
abbrev cX12_freeze : ByteArray := prog_14_method_62_code
def yX12_freeze : MethodName := ⟨RX12, "freeze", "(II)V"⟩
abbrev cX12_goYear : ByteArray := prog_14_method_63_code
def yX12_goYear : MethodName := ⟨RX12, "goYear", "(I)I"⟩
abbrev cX12_goYears : ByteArray := prog_14_method_64_code
def yX12_goYears : MethodName := ⟨RX12, "goYears", "(II)I"⟩
abbrev cX12_isReady : ByteArray := prog_14_method_65_code
def yX12_isReady : MethodName := ⟨RX12, "isReady", "()Z"⟩
abbrev cX12_areYears : ByteArray := prog_14_method_66_code
def yX12_areYears : MethodName := ⟨RX12, "areYears", "(II)Z"⟩
abbrev cX12_years : ByteArray := prog_14_method_67_code
def yX12_years : MethodName := ⟨RX12, "years", "(II)I"⟩
abbrev cX12_wouldNow : ByteArray := prog_14_method_68_code
def yX12_wouldNow : MethodName := ⟨RX12, "wouldNow", "(II)I"⟩
abbrev cX12_would : ByteArray := prog_14_method_69_code
def yX12_would : MethodName := ⟨RX12, "would", "(II)I"⟩
abbrev cX12_canMend : ByteArray := prog_14_method_70_code
def yX12_canMend : MethodName := ⟨RX12, "canMend", "(I)Z"⟩
abbrev cX12_goMend : ByteArray := prog_14_method_71_code
def yX12_goMend : MethodName := ⟨RX12, "goMend", "(II)V"⟩
abbrev cX12_mend : ByteArray := prog_14_method_72_code
def yX12_mend : MethodName := ⟨RX12, "mend", "(II)I"⟩
abbrev cX12_layMends : ByteArray := prog_14_method_73_code
def yX12_layMends : MethodName := ⟨RX12, "layMends", "()V"⟩
abbrev cX12_ones : ByteArray := prog_14_method_74_code
def yX12_ones : MethodName := ⟨RX12, "ones", "(I)I"⟩
abbrev cX12_first : ByteArray := prog_14_method_75_code
def yX12_first : MethodName := ⟨RX12, "first", "(IIII)I"⟩
abbrev cX12_trench : ByteArray := prog_14_method_76_code
def yX12_trench : MethodName := ⟨RX12, "trench", "(III)I"⟩
abbrev cX12_heap : ByteArray := prog_14_method_77_code
def yX12_heap : MethodName := ⟨RX12, "heap", "(I)I"⟩
abbrev cX12_wide : ByteArray := prog_14_method_78_code
def yX12_wide : MethodName := ⟨RX12, "wide", "(I)I"⟩
abbrev cX12_fits : ByteArray := prog_14_method_79_code
def yX12_fits : MethodName := ⟨RX12, "fits", "(II)I"⟩
abbrev cX12_gaps : ByteArray := prog_14_method_80_code
def yX12_gaps : MethodName := ⟨RX12, "gaps", "(III)I"⟩
abbrev cX12_isRow : ByteArray := prog_14_method_81_code
def yX12_isRow : MethodName := ⟨RX12, "isRow", "(I)Z"⟩
abbrev cX12_steps : ByteArray := prog_14_method_82_code
def yX12_steps : MethodName := ⟨RX12, "steps", "(I)I"⟩
abbrev cX12_shaken : ByteArray := prog_14_method_83_code
def yX12_shaken : MethodName := ⟨RX12, "shaken", "(II)I"⟩
abbrev cX12_lowest : ByteArray := prog_14_method_84_code
def yX12_lowest : MethodName := ⟨RX12, "lowest", "(III)I"⟩
abbrev cX12_shake : ByteArray := prog_14_method_85_code
def yX12_shake : MethodName := ⟨RX12, "shake", "(III)I"⟩
abbrev cX12_worst : ByteArray := prog_14_method_86_code
def yX12_worst : MethodName := ⟨RX12, "worst", "(I)I"⟩
abbrev cX12_image : ByteArray := prog_14_method_87_code
def yX12_image : MethodName := ⟨RX12, "image", "()I"⟩
abbrev cX12_restore : ByteArray := prog_14_method_88_code
def yX12_restore : MethodName := ⟨RX12, "restore", "()I"⟩
abbrev cX12_howMany : ByteArray := prog_14_method_89_code
def yX12_howMany : MethodName := ⟨RX12, "howMany", "(I)I"⟩
abbrev cX12_count : ByteArray := prog_14_method_90_code
def yX12_count : MethodName := ⟨RX12, "count", "(I)I"⟩
abbrev cX12_mix : ByteArray := prog_14_method_91_code
def yX12_mix : MethodName := ⟨RX12, "mix", "(J)V"⟩
abbrev cX12_mixStreet : ByteArray := prog_14_method_92_code
def yX12_mixStreet : MethodName := ⟨RX12, "mixStreet", "()V"⟩
abbrev cX12_digest : ByteArray := prog_14_method_93_code
def yX12_digest : MethodName := ⟨RX12, "digest", "()J"⟩
def RJ6 : String := "java/lang/Integer"
def TJ6 : u_T := fun k => match k with
  | _ => ("", "", "", false)
def tyJ6 : Nat → FieldType := fun k => match k with
  | _ => .int
theorem nmJ6 : ∀ a, a < 0 → ∀ b, b < 0 → a ≠ b → (TJ6 a).2.1 ≠ (TJ6 b).2.1 := by decide +kernel
theorem tyJ6_ok : ∀ k, k < 0 → parseFieldDescriptor (TJ6 k).2.2.1 = some (tyJ6 k) := by decide +kernel
abbrev cJ6_numberOfTrailingZeros_0f7a4 : ByteArray := prog_15_method_48_code
def yJ6_numberOfTrailingZeros_0f7a4 : MethodName := ⟨RJ6, "numberOfTrailingZeros", "(I)I"⟩
abbrev cJ6_bitCount_0f7a4 : ByteArray := prog_15_method_49_code
def yJ6_bitCount_0f7a4 : MethodName := ⟨RJ6, "bitCount", "(I)I"⟩
def RJ9 : String := "java/lang/Math"
def TJ9 : u_T := fun k => match k with
  | _ => ("", "", "", false)
def tyJ9 : Nat → FieldType := fun k => match k with
  | _ => .int
theorem nmJ9 : ∀ a, a < 0 → ∀ b, b < 0 → a ≠ b → (TJ9 a).2.1 ≠ (TJ9 b).2.1 := by decide +kernel
theorem tyJ9_ok : ∀ k, k < 0 → parseFieldDescriptor (TJ9 k).2.2.1 = some (tyJ9 k) := by decide +kernel
abbrev cJ9_abs_0f7a4 : ByteArray := prog_16_method_59_code
def yJ9_abs_0f7a4 : MethodName := ⟨RJ9, "abs", "(I)I"⟩
abbrev cJ9_max_7cf53 : ByteArray := prog_16_method_65_code
def yJ9_max_7cf53 : MethodName := ⟨RJ9, "max", "(II)I"⟩
abbrev cJ9_min_7cf53 : ByteArray := prog_16_method_69_code
def yJ9_min_7cf53 : MethodName := ⟨RJ9, "min", "(II)I"⟩
def RL : String := "RammedCobblesLaw"
abbrev cL_law : ByteArray := code
def yL_law : MethodName := ⟨RL, "law", "([I)Z"⟩
abbrev vwCl : List vw_C := [(RX0, TX0, 4), (RX1, TX1, 5), (RX2, TX2, 3), (RX3, TX3, 2), (RX4, TX4, 5), (RX5, TX5, 2), (RX7, TX7, 8), (RX8, TX8, 7), (RX9, TX9, 2), (RX10, TX10, 4), (RX11, TX11, 17), (RX12, TX12, 40)]
