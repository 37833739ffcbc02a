section
-- ===== PART A: goes FIRST, ahead of the names: the tables' words, and 'selects' of the private methods out of them =====
/-- a private method of a class that the tables say can be made, by its rows of tables_1 -/
def lw_okq (q : MethodName × Nat) : Prop := (q.1.cls ≠ "java/lang/invoke/MethodHandle" ∧ q.1.cls ≠ "java/lang/invoke/VarHandle") ∧ Cond.instantiable q.1.cls q.2 ∈ tables_1 ∧ Cond.privateMethod q.1 ∈ tables_1 ∧ Cond.instanceMethod q.1 ∈ tables_1
theorem lw_p0 : lw_okq (⟨"RammedCobbles$CartText", "takesRow", "(I)Z"⟩, 4) := ⟨⟨by decide +kernel, by decide +kernel⟩, List.mem_of_getElem? (i := 78) (by decide +kernel), List.mem_of_getElem? (i := 359) (by decide +kernel), List.mem_of_getElem? (i := 360) (by decide +kernel)⟩
theorem lw_p1 : lw_okq (⟨"RammedCobbles$CartText", "takesDigit", "(II)Z"⟩, 4) := ⟨⟨by decide +kernel, by decide +kernel⟩, List.mem_of_getElem? (i := 78) (by decide +kernel), List.mem_of_getElem? (i := 363) (by decide +kernel), List.mem_of_getElem? (i := 364) (by decide +kernel)⟩
theorem lw_p2 : lw_okq (⟨"RammedCobbles$CartText", "takesEnd", "(I)Z"⟩, 4) := ⟨⟨by decide +kernel, by decide +kernel⟩, List.mem_of_getElem? (i := 78) (by decide +kernel), List.mem_of_getElem? (i := 367) (by decide +kernel), List.mem_of_getElem? (i := 368) (by decide +kernel)⟩
theorem lw_p3 : lw_okq (⟨"RammedCobbles$StreetText", "takesSize", "(I)Z"⟩, 7) := ⟨⟨by decide +kernel, by decide +kernel⟩, List.mem_of_getElem? (i := 43) (by decide +kernel), List.mem_of_getElem? (i := 374) (by decide +kernel), List.mem_of_getElem? (i := 375) (by decide +kernel)⟩
theorem lw_p4 : lw_okq (⟨"RammedCobbles$StreetText", "takesRowEnd", "()Z"⟩, 7) := ⟨⟨by decide +kernel, by decide +kernel⟩, List.mem_of_getElem? (i := 43) (by decide +kernel), List.mem_of_getElem? (i := 378) (by decide +kernel), List.mem_of_getElem? (i := 379) (by decide +kernel)⟩
theorem lw_p5 : lw_okq (⟨"RammedCobbles$StreetText", "takesCell", "(I)Z"⟩, 7) := ⟨⟨by decide +kernel, by decide +kernel⟩, List.mem_of_getElem? (i := 43) (by decide +kernel), List.mem_of_getElem? (i := 382) (by decide +kernel), List.mem_of_getElem? (i := 383) (by decide +kernel)⟩
theorem lw_p6 : lw_okq (⟨"RammedCobbles", "isCell", "(I)Z"⟩, 17) := ⟨⟨by decide +kernel, by decide +kernel⟩, List.mem_of_getElem? (i := 17) (by decide +kernel), List.mem_of_getElem? (i := 443) (by decide +kernel), List.mem_of_getElem? (i := 444) (by decide +kernel)⟩
theorem lw_p7 : lw_okq (⟨"RammedCobbles", "hasStreet", "()Z"⟩, 17) := ⟨⟨by decide +kernel, by decide +kernel⟩, List.mem_of_getElem? (i := 17) (by decide +kernel), List.mem_of_getElem? (i := 475) (by decide +kernel), List.mem_of_getElem? (i := 476) (by decide +kernel)⟩
theorem lw_p8 : lw_okq (⟨"RammedCobbles", "isStone", "(I)Z"⟩, 17) := ⟨⟨by decide +kernel, by decide +kernel⟩, List.mem_of_getElem? (i := 17) (by decide +kernel), List.mem_of_getElem? (i := 499) (by decide +kernel), List.mem_of_getElem? (i := 500) (by decide +kernel)⟩
theorem lw_p9 : lw_okq (⟨"RammedCobbles$Street", "seatFirmer", "(I)V"⟩, 8) := ⟨⟨by decide +kernel, by decide +kernel⟩, List.mem_of_getElem? (i := 137) (by decide +kernel), List.mem_of_getElem? (i := 517) (by decide +kernel), List.mem_of_getElem? (i := 518) (by decide +kernel)⟩
theorem lw_p10 : lw_okq (⟨"RammedCobbles$Ramming", "arrange", "(I)V"⟩, 2) := ⟨⟨by decide +kernel, by decide +kernel⟩, List.mem_of_getElem? (i := 175) (by decide +kernel), List.mem_of_getElem? (i := 535) (by decide +kernel), List.mem_of_getElem? (i := 536) (by decide +kernel)⟩
theorem lw_p11 : lw_okq (⟨"RammedCobbles$Ramming", "arrangeByColumns", "()V"⟩, 2) := ⟨⟨by decide +kernel, by decide +kernel⟩, List.mem_of_getElem? (i := 175) (by decide +kernel), List.mem_of_getElem? (i := 539) (by decide +kernel), List.mem_of_getElem? (i := 540) (by decide +kernel)⟩
theorem lw_p12 : lw_okq (⟨"RammedCobbles$Ramming", "goRound", "(LRammedCobbles$Street;I)I"⟩, 2) := ⟨⟨by decide +kernel, by decide +kernel⟩, List.mem_of_getElem? (i := 175) (by decide +kernel), List.mem_of_getElem? (i := 544) (by decide +kernel), List.mem_of_getElem? (i := 545) (by decide +kernel)⟩
theorem lw_p13 : lw_okq (⟨"RammedCobbles$Loads", "passOn", "(III)V"⟩, 3) := ⟨⟨by decide +kernel, by decide +kernel⟩, List.mem_of_getElem? (i := 188) (by decide +kernel), List.mem_of_getElem? (i := 610) (by decide +kernel), List.mem_of_getElem? (i := 611) (by decide +kernel)⟩
theorem lw_p14 : lw_okq (⟨"RammedCobbles$Water", "fallsIn", "(LRammedCobbles$Street;I)Z"⟩, 2) := ⟨⟨by decide +kernel, by decide +kernel⟩, List.mem_of_getElem? (i := 206) (by decide +kernel), List.mem_of_getElem? (i := 631) (by decide +kernel), List.mem_of_getElem? (i := 632) (by decide +kernel)⟩
theorem lw_p15 : lw_okq (⟨"RammedCobbles", "hasTraffic", "()Z"⟩, 17) := ⟨⟨by decide +kernel, by decide +kernel⟩, List.mem_of_getElem? (i := 17) (by decide +kernel), List.mem_of_getElem? (i := 650) (by decide +kernel), List.mem_of_getElem? (i := 651) (by decide +kernel)⟩
def lw_privs_1 : List (MethodName × Nat) := [(⟨"RammedCobbles$CartText", "takesRow", "(I)Z"⟩, 4), (⟨"RammedCobbles$CartText", "takesDigit", "(II)Z"⟩, 4), (⟨"RammedCobbles$CartText", "takesEnd", "(I)Z"⟩, 4), (⟨"RammedCobbles$StreetText", "takesSize", "(I)Z"⟩, 7), (⟨"RammedCobbles$StreetText", "takesRowEnd", "()Z"⟩, 7), (⟨"RammedCobbles$StreetText", "takesCell", "(I)Z"⟩, 7), (⟨"RammedCobbles", "isCell", "(I)Z"⟩, 17), (⟨"RammedCobbles", "hasStreet", "()Z"⟩, 17), (⟨"RammedCobbles", "isStone", "(I)Z"⟩, 17), (⟨"RammedCobbles$Street", "seatFirmer", "(I)V"⟩, 8), (⟨"RammedCobbles$Ramming", "arrange", "(I)V"⟩, 2), (⟨"RammedCobbles$Ramming", "arrangeByColumns", "()V"⟩, 2), (⟨"RammedCobbles$Ramming", "goRound", "(LRammedCobbles$Street;I)I"⟩, 2), (⟨"RammedCobbles$Loads", "passOn", "(III)V"⟩, 3), (⟨"RammedCobbles$Water", "fallsIn", "(LRammedCobbles$Street;I)Z"⟩, 2), (⟨"RammedCobbles", "hasTraffic", "()Z"⟩, 17)]
theorem lw_r1 : ∀ q ∈ lw_privs_1, lw_okq q := List.forall_mem_cons.mpr ⟨lw_p0, List.forall_mem_cons.mpr ⟨lw_p1, List.forall_mem_cons.mpr ⟨lw_p2, List.forall_mem_cons.mpr ⟨lw_p3, List.forall_mem_cons.mpr ⟨lw_p4, List.forall_mem_cons.mpr ⟨lw_p5, List.forall_mem_cons.mpr ⟨lw_p6, List.forall_mem_cons.mpr ⟨lw_p7, List.forall_mem_cons.mpr ⟨lw_p8, List.forall_mem_cons.mpr ⟨lw_p9, List.forall_mem_cons.mpr ⟨lw_p10, List.forall_mem_cons.mpr ⟨lw_p11, List.forall_mem_cons.mpr ⟨lw_p12, List.forall_mem_cons.mpr ⟨lw_p13, List.forall_mem_cons.mpr ⟨lw_p14, List.forall_mem_cons.mpr ⟨lw_p15, fun _ h => absurd h List.not_mem_nil⟩⟩⟩⟩⟩⟩⟩⟩⟩⟩⟩⟩⟩⟩⟩⟩
theorem lw_p16 : lw_okq (⟨"RammedCobbles$Years", "layCarts", "(LRammedCobbles$Street;LRammedCobbles$CartText;)V"⟩, 4) := ⟨⟨by decide +kernel, by decide +kernel⟩, List.mem_of_getElem? (i := 219) (by decide +kernel), List.mem_of_getElem? (i := 661) (by decide +kernel), List.mem_of_getElem? (i := 662) (by decide +kernel)⟩
theorem lw_p17 : lw_okq (⟨"RammedCobbles$Years", "wearDown", "(LRammedCobbles$Street;)I"⟩, 4) := ⟨⟨by decide +kernel, by decide +kernel⟩, List.mem_of_getElem? (i := 219) (by decide +kernel), List.mem_of_getElem? (i := 668) (by decide +kernel), List.mem_of_getElem? (i := 669) (by decide +kernel)⟩
theorem lw_p18 : lw_okq (⟨"RammedCobbles$Years", "freeze", "(LRammedCobbles$Street;I)V"⟩, 4) := ⟨⟨by decide +kernel, by decide +kernel⟩, List.mem_of_getElem? (i := 219) (by decide +kernel), List.mem_of_getElem? (i := 677) (by decide +kernel), List.mem_of_getElem? (i := 678) (by decide +kernel)⟩
theorem lw_p19 : lw_okq (⟨"RammedCobbles$Street", "drawOfTen", "()I"⟩, 8) := ⟨⟨by decide +kernel, by decide +kernel⟩, List.mem_of_getElem? (i := 137) (by decide +kernel), List.mem_of_getElem? (i := 691) (by decide +kernel), List.mem_of_getElem? (i := 692) (by decide +kernel)⟩
theorem lw_p20 : lw_okq (⟨"RammedCobbles$Years", "washOut", "(LRammedCobbles$Street;)V"⟩, 4) := ⟨⟨by decide +kernel, by decide +kernel⟩, List.mem_of_getElem? (i := 219) (by decide +kernel), List.mem_of_getElem? (i := 699) (by decide +kernel), List.mem_of_getElem? (i := 700) (by decide +kernel)⟩
theorem lw_p21 : lw_okq (⟨"RammedCobbles", "findMendable", "()I"⟩, 17) := ⟨⟨by decide +kernel, by decide +kernel⟩, List.mem_of_getElem? (i := 17) (by decide +kernel), List.mem_of_getElem? (i := 730) (by decide +kernel), List.mem_of_getElem? (i := 731) (by decide +kernel)⟩
theorem lw_p22 : lw_okq (⟨"RammedCobbles", "lostWith", "(IIII)I"⟩, 17) := ⟨⟨by decide +kernel, by decide +kernel⟩, List.mem_of_getElem? (i := 17) (by decide +kernel), List.mem_of_getElem? (i := 740) (by decide +kernel), List.mem_of_getElem? (i := 741) (by decide +kernel)⟩
theorem lw_p23 : lw_okq (⟨"RammedCobbles$Heap", "isBetter", "(II)Z"⟩, 5) := ⟨⟨by decide +kernel, by decide +kernel⟩, List.mem_of_getElem? (i := 238) (by decide +kernel), List.mem_of_getElem? (i := 769) (by decide +kernel), List.mem_of_getElem? (i := 770) (by decide +kernel)⟩
theorem lw_p24 : lw_okq (⟨"RammedCobbles", "isRow", "(I)Z"⟩, 17) := ⟨⟨by decide +kernel, by decide +kernel⟩, List.mem_of_getElem? (i := 17) (by decide +kernel), List.mem_of_getElem? (i := 782) (by decide +kernel), List.mem_of_getElem? (i := 783) (by decide +kernel)⟩
theorem lw_p25 : lw_okq (⟨"RammedCobbles", "digestOfCells", "(J)J"⟩, 17) := ⟨⟨by decide +kernel, by decide +kernel⟩, List.mem_of_getElem? (i := 17) (by decide +kernel), List.mem_of_getElem? (i := 824) (by decide +kernel), List.mem_of_getElem? (i := 825) (by decide +kernel)⟩
theorem lw_p26 : lw_okq (⟨"RammedCobblesModel", "readStreet", "()V"⟩, 40) := ⟨⟨by decide +kernel, by decide +kernel⟩, List.mem_of_getElem? (i := 831) (by decide +kernel), List.mem_of_getElem? (i := 975) (by decide +kernel), List.mem_of_getElem? (i := 976) (by decide +kernel)⟩
theorem lw_p27 : lw_okq (⟨"RammedCobblesModel", "takeStreet", "(I)Z"⟩, 40) := ⟨⟨by decide +kernel, by decide +kernel⟩, List.mem_of_getElem? (i := 831) (by decide +kernel), List.mem_of_getElem? (i := 979) (by decide +kernel), List.mem_of_getElem? (i := 980) (by decide +kernel)⟩
theorem lw_p28 : lw_okq (⟨"RammedCobblesModel", "readCarts", "()V"⟩, 40) := ⟨⟨by decide +kernel, by decide +kernel⟩, List.mem_of_getElem? (i := 831) (by decide +kernel), List.mem_of_getElem? (i := 986) (by decide +kernel), List.mem_of_getElem? (i := 987) (by decide +kernel)⟩
theorem lw_p29 : lw_okq (⟨"RammedCobblesModel", "nextCart", "(II)I"⟩, 40) := ⟨⟨by decide +kernel, by decide +kernel⟩, List.mem_of_getElem? (i := 831) (by decide +kernel), List.mem_of_getElem? (i := 990) (by decide +kernel), List.mem_of_getElem? (i := 991) (by decide +kernel)⟩
theorem lw_p30 : lw_okq (⟨"RammedCobblesModel", "cartNow", "(II)I"⟩, 40) := ⟨⟨by decide +kernel, by decide +kernel⟩, List.mem_of_getElem? (i := 831) (by decide +kernel), List.mem_of_getElem? (i := 1009) (by decide +kernel), List.mem_of_getElem? (i := 1010) (by decide +kernel)⟩
theorem lw_p31 : lw_okq (⟨"RammedCobblesModel", "isCell", "(I)Z"⟩, 40) := ⟨⟨by decide +kernel, by decide +kernel⟩, List.mem_of_getElem? (i := 831) (by decide +kernel), List.mem_of_getElem? (i := 1017) (by decide +kernel), List.mem_of_getElem? (i := 1018) (by decide +kernel)⟩
def lw_privs_2 : List (MethodName × Nat) := [(⟨"RammedCobbles$Years", "layCarts", "(LRammedCobbles$Street;LRammedCobbles$CartText;)V"⟩, 4), (⟨"RammedCobbles$Years", "wearDown", "(LRammedCobbles$Street;)I"⟩, 4), (⟨"RammedCobbles$Years", "freeze", "(LRammedCobbles$Street;I)V"⟩, 4), (⟨"RammedCobbles$Street", "drawOfTen", "()I"⟩, 8), (⟨"RammedCobbles$Years", "washOut", "(LRammedCobbles$Street;)V"⟩, 4), (⟨"RammedCobbles", "findMendable", "()I"⟩, 17), (⟨"RammedCobbles", "lostWith", "(IIII)I"⟩, 17), (⟨"RammedCobbles$Heap", "isBetter", "(II)Z"⟩, 5), (⟨"RammedCobbles", "isRow", "(I)Z"⟩, 17), (⟨"RammedCobbles", "digestOfCells", "(J)J"⟩, 17), (⟨"RammedCobblesModel", "readStreet", "()V"⟩, 40), (⟨"RammedCobblesModel", "takeStreet", "(I)Z"⟩, 40), (⟨"RammedCobblesModel", "readCarts", "()V"⟩, 40), (⟨"RammedCobblesModel", "nextCart", "(II)I"⟩, 40), (⟨"RammedCobblesModel", "cartNow", "(II)I"⟩, 40), (⟨"RammedCobblesModel", "isCell", "(I)Z"⟩, 40)]
theorem lw_r2 : ∀ q ∈ lw_privs_2, lw_okq q := List.forall_mem_cons.mpr ⟨lw_p16, List.forall_mem_cons.mpr ⟨lw_p17, List.forall_mem_cons.mpr ⟨lw_p18, List.forall_mem_cons.mpr ⟨lw_p19, List.forall_mem_cons.mpr ⟨lw_p20, List.forall_mem_cons.mpr ⟨lw_p21, List.forall_mem_cons.mpr ⟨lw_p22, List.forall_mem_cons.mpr ⟨lw_p23, List.forall_mem_cons.mpr ⟨lw_p24, List.forall_mem_cons.mpr ⟨lw_p25, List.forall_mem_cons.mpr ⟨lw_p26, List.forall_mem_cons.mpr ⟨lw_p27, List.forall_mem_cons.mpr ⟨lw_p28, List.forall_mem_cons.mpr ⟨lw_p29, List.forall_mem_cons.mpr ⟨lw_p30, List.forall_mem_cons.mpr ⟨lw_p31, fun _ h => absurd h List.not_mem_nil⟩⟩⟩⟩⟩⟩⟩⟩⟩⟩⟩⟩⟩⟩⟩⟩
theorem lw_p32 : lw_okq (⟨"RammedCobblesModel", "cells", "()I"⟩, 40) := ⟨⟨by decide +kernel, by decide +kernel⟩, List.mem_of_getElem? (i := 831) (by decide +kernel), List.mem_of_getElem? (i := 1021) (by decide +kernel), List.mem_of_getElem? (i := 1022) (by decide +kernel)⟩
theorem lw_p33 : lw_okq (⟨"RammedCobblesModel", "cellNow", "(II)I"⟩, 40) := ⟨⟨by decide +kernel, by decide +kernel⟩, List.mem_of_getElem? (i := 831) (by decide +kernel), List.mem_of_getElem? (i := 1025) (by decide +kernel), List.mem_of_getElem? (i := 1026) (by decide +kernel)⟩
theorem lw_p34 : lw_okq (⟨"RammedCobblesModel", "hold", "(I)I"⟩, 40) := ⟨⟨by decide +kernel, by decide +kernel⟩, List.mem_of_getElem? (i := 831) (by decide +kernel), List.mem_of_getElem? (i := 1029) (by decide +kernel), List.mem_of_getElem? (i := 1030) (by decide +kernel)⟩
theorem lw_p35 : lw_okq (⟨"RammedCobblesModel", "beside", "(II)I"⟩, 40) := ⟨⟨by decide +kernel, by decide +kernel⟩, List.mem_of_getElem? (i := 831) (by decide +kernel), List.mem_of_getElem? (i := 1033) (by decide +kernel), List.mem_of_getElem? (i := 1034) (by decide +kernel)⟩
theorem lw_p36 : lw_okq (⟨"RammedCobblesModel", "grip", "(I)I"⟩, 40) := ⟨⟨by decide +kernel, by decide +kernel⟩, List.mem_of_getElem? (i := 831) (by decide +kernel), List.mem_of_getElem? (i := 1037) (by decide +kernel), List.mem_of_getElem? (i := 1038) (by decide +kernel)⟩
theorem lw_p37 : lw_okq (⟨"RammedCobblesModel", "stoneMany", "()I"⟩, 40) := ⟨⟨by decide +kernel, by decide +kernel⟩, List.mem_of_getElem? (i := 831) (by decide +kernel), List.mem_of_getElem? (i := 1049) (by decide +kernel), List.mem_of_getElem? (i := 1050) (by decide +kernel)⟩
theorem lw_p38 : lw_okq (⟨"RammedCobblesModel", "isStone", "(I)Z"⟩, 40) := ⟨⟨by decide +kernel, by decide +kernel⟩, List.mem_of_getElem? (i := 831) (by decide +kernel), List.mem_of_getElem? (i := 1061) (by decide +kernel), List.mem_of_getElem? (i := 1062) (by decide +kernel)⟩
theorem lw_p39 : lw_okq (⟨"RammedCobblesModel", "goBlow", "(II)I"⟩, 40) := ⟨⟨by decide +kernel, by decide +kernel⟩, List.mem_of_getElem? (i := 831) (by decide +kernel), List.mem_of_getElem? (i := 1068) (by decide +kernel), List.mem_of_getElem? (i := 1069) (by decide +kernel)⟩
theorem lw_p40 : lw_okq (⟨"RammedCobblesModel", "sinks", "(II)I"⟩, 40) := ⟨⟨by decide +kernel, by decide +kernel⟩, List.mem_of_getElem? (i := 831) (by decide +kernel), List.mem_of_getElem? (i := 1072) (by decide +kernel), List.mem_of_getElem? (i := 1073) (by decide +kernel)⟩
theorem lw_p41 : lw_okq (⟨"RammedCobblesModel", "goRounds", "(III)I"⟩, 40) := ⟨⟨by decide +kernel, by decide +kernel⟩, List.mem_of_getElem? (i := 831) (by decide +kernel), List.mem_of_getElem? (i := 1083) (by decide +kernel), List.mem_of_getElem? (i := 1084) (by decide +kernel)⟩
theorem lw_p42 : lw_okq (⟨"RammedCobblesModel", "byOrder", "(II)I"⟩, 40) := ⟨⟨by decide +kernel, by decide +kernel⟩, List.mem_of_getElem? (i := 831) (by decide +kernel), List.mem_of_getElem? (i := 1087) (by decide +kernel), List.mem_of_getElem? (i := 1088) (by decide +kernel)⟩
theorem lw_p43 : lw_okq (⟨"RammedCobblesModel", "ringing", "(I)I"⟩, 40) := ⟨⟨by decide +kernel, by decide +kernel⟩, List.mem_of_getElem? (i := 831) (by decide +kernel), List.mem_of_getElem? (i := 1095) (by decide +kernel), List.mem_of_getElem? (i := 1096) (by decide +kernel)⟩
theorem lw_p44 : lw_okq (⟨"RammedCobblesModel", "save", "()V"⟩, 40) := ⟨⟨by decide +kernel, by decide +kernel⟩, List.mem_of_getElem? (i := 831) (by decide +kernel), List.mem_of_getElem? (i := 1103) (by decide +kernel), List.mem_of_getElem? (i := 1104) (by decide +kernel)⟩
theorem lw_p45 : lw_okq (⟨"RammedCobblesModel", "back", "()V"⟩, 40) := ⟨⟨by decide +kernel, by decide +kernel⟩, List.mem_of_getElem? (i := 831) (by decide +kernel), List.mem_of_getElem? (i := 1107) (by decide +kernel), List.mem_of_getElem? (i := 1108) (by decide +kernel)⟩
theorem lw_p46 : lw_okq (⟨"RammedCobblesModel", "unevenNow", "()I"⟩, 40) := ⟨⟨by decide +kernel, by decide +kernel⟩, List.mem_of_getElem? (i := 831) (by decide +kernel), List.mem_of_getElem? (i := 1119) (by decide +kernel), List.mem_of_getElem? (i := 1120) (by decide +kernel)⟩
theorem lw_p47 : lw_okq (⟨"RammedCobblesModel", "layLoad", "(II)V"⟩, 40) := ⟨⟨by decide +kernel, by decide +kernel⟩, List.mem_of_getElem? (i := 831) (by decide +kernel), List.mem_of_getElem? (i := 1136) (by decide +kernel), List.mem_of_getElem? (i := 1137) (by decide +kernel)⟩
def lw_privs_3 : List (MethodName × Nat) := [(⟨"RammedCobblesModel", "cells", "()I"⟩, 40), (⟨"RammedCobblesModel", "cellNow", "(II)I"⟩, 40), (⟨"RammedCobblesModel", "hold", "(I)I"⟩, 40), (⟨"RammedCobblesModel", "beside", "(II)I"⟩, 40), (⟨"RammedCobblesModel", "grip", "(I)I"⟩, 40), (⟨"RammedCobblesModel", "stoneMany", "()I"⟩, 40), (⟨"RammedCobblesModel", "isStone", "(I)Z"⟩, 40), (⟨"RammedCobblesModel", "goBlow", "(II)I"⟩, 40), (⟨"RammedCobblesModel", "sinks", "(II)I"⟩, 40), (⟨"RammedCobblesModel", "goRounds", "(III)I"⟩, 40), (⟨"RammedCobblesModel", "byOrder", "(II)I"⟩, 40), (⟨"RammedCobblesModel", "ringing", "(I)I"⟩, 40), (⟨"RammedCobblesModel", "save", "()V"⟩, 40), (⟨"RammedCobblesModel", "back", "()V"⟩, 40), (⟨"RammedCobblesModel", "unevenNow", "()I"⟩, 40), (⟨"RammedCobblesModel", "layLoad", "(II)V"⟩, 40)]
theorem lw_r3 : ∀ q ∈ lw_privs_3, lw_okq q := List.forall_mem_cons.mpr ⟨lw_p32, List.forall_mem_cons.mpr ⟨lw_p33, List.forall_mem_cons.mpr ⟨lw_p34, List.forall_mem_cons.mpr ⟨lw_p35, List.forall_mem_cons.mpr ⟨lw_p36, List.forall_mem_cons.mpr ⟨lw_p37, List.forall_mem_cons.mpr ⟨lw_p38, List.forall_mem_cons.mpr ⟨lw_p39, List.forall_mem_cons.mpr ⟨lw_p40, List.forall_mem_cons.mpr ⟨lw_p41, List.forall_mem_cons.mpr ⟨lw_p42, List.forall_mem_cons.mpr ⟨lw_p43, List.forall_mem_cons.mpr ⟨lw_p44, List.forall_mem_cons.mpr ⟨lw_p45, List.forall_mem_cons.mpr ⟨lw_p46, List.forall_mem_cons.mpr ⟨lw_p47, fun _ h => absurd h List.not_mem_nil⟩⟩⟩⟩⟩⟩⟩⟩⟩⟩⟩⟩⟩⟩⟩⟩
theorem lw_p48 : lw_okq (⟨"RammedCobblesModel", "clearWear", "()V"⟩, 40) := ⟨⟨by decide +kernel, by decide +kernel⟩, List.mem_of_getElem? (i := 831) (by decide +kernel), List.mem_of_getElem? (i := 1140) (by decide +kernel), List.mem_of_getElem? (i := 1141) (by decide +kernel)⟩
theorem lw_p49 : lw_okq (⟨"RammedCobblesModel", "bear", "(II)V"⟩, 40) := ⟨⟨by decide +kernel, by decide +kernel⟩, List.mem_of_getElem? (i := 831) (by decide +kernel), List.mem_of_getElem? (i := 1144) (by decide +kernel), List.mem_of_getElem? (i := 1145) (by decide +kernel)⟩
theorem lw_p50 : lw_okq (⟨"RammedCobblesModel", "bearSecond", "(III)V"⟩, 40) := ⟨⟨by decide +kernel, by decide +kernel⟩, List.mem_of_getElem? (i := 831) (by decide +kernel), List.mem_of_getElem? (i := 1148) (by decide +kernel), List.mem_of_getElem? (i := 1149) (by decide +kernel)⟩
theorem lw_p51 : lw_okq (⟨"RammedCobblesModel", "layWater", "()V"⟩, 40) := ⟨⟨by decide +kernel, by decide +kernel⟩, List.mem_of_getElem? (i := 831) (by decide +kernel), List.mem_of_getElem? (i := 1160) (by decide +kernel), List.mem_of_getElem? (i := 1161) (by decide +kernel)⟩
theorem lw_p52 : lw_okq (⟨"RammedCobblesModel", "isRim", "(I)Z"⟩, 40) := ⟨⟨by decide +kernel, by decide +kernel⟩, List.mem_of_getElem? (i := 831) (by decide +kernel), List.mem_of_getElem? (i := 1164) (by decide +kernel), List.mem_of_getElem? (i := 1165) (by decide +kernel)⟩
theorem lw_p53 : lw_okq (⟨"RammedCobblesModel", "isReady", "()Z"⟩, 40) := ⟨⟨by decide +kernel, by decide +kernel⟩, List.mem_of_getElem? (i := 831) (by decide +kernel), List.mem_of_getElem? (i := 1176) (by decide +kernel), List.mem_of_getElem? (i := 1177) (by decide +kernel)⟩
theorem lw_p54 : lw_okq (⟨"RammedCobblesModel", "goYears", "(II)I"⟩, 40) := ⟨⟨by decide +kernel, by decide +kernel⟩, List.mem_of_getElem? (i := 831) (by decide +kernel), List.mem_of_getElem? (i := 1183) (by decide +kernel), List.mem_of_getElem? (i := 1184) (by decide +kernel)⟩
theorem lw_p55 : lw_okq (⟨"RammedCobblesModel", "goYear", "(I)I"⟩, 40) := ⟨⟨by decide +kernel, by decide +kernel⟩, List.mem_of_getElem? (i := 831) (by decide +kernel), List.mem_of_getElem? (i := 1187) (by decide +kernel), List.mem_of_getElem? (i := 1188) (by decide +kernel)⟩
theorem lw_p56 : lw_okq (⟨"RammedCobblesModel", "layWear", "()V"⟩, 40) := ⟨⟨by decide +kernel, by decide +kernel⟩, List.mem_of_getElem? (i := 831) (by decide +kernel), List.mem_of_getElem? (i := 1191) (by decide +kernel), List.mem_of_getElem? (i := 1192) (by decide +kernel)⟩
theorem lw_p57 : lw_okq (⟨"RammedCobblesModel", "worsen", "(I)Z"⟩, 40) := ⟨⟨by decide +kernel, by decide +kernel⟩, List.mem_of_getElem? (i := 831) (by decide +kernel), List.mem_of_getElem? (i := 1195) (by decide +kernel), List.mem_of_getElem? (i := 1196) (by decide +kernel)⟩
theorem lw_p58 : lw_okq (⟨"RammedCobblesModel", "freeze", "(II)V"⟩, 40) := ⟨⟨by decide +kernel, by decide +kernel⟩, List.mem_of_getElem? (i := 831) (by decide +kernel), List.mem_of_getElem? (i := 1199) (by decide +kernel), List.mem_of_getElem? (i := 1200) (by decide +kernel)⟩
theorem lw_p59 : lw_okq (⟨"RammedCobblesModel", "draw", "()I"⟩, 40) := ⟨⟨by decide +kernel, by decide +kernel⟩, List.mem_of_getElem? (i := 831) (by decide +kernel), List.mem_of_getElem? (i := 1206) (by decide +kernel), List.mem_of_getElem? (i := 1207) (by decide +kernel)⟩
theorem lw_p60 : lw_okq (⟨"RammedCobblesModel", "isBesideSand", "(I)Z"⟩, 40) := ⟨⟨by decide +kernel, by decide +kernel⟩, List.mem_of_getElem? (i := 831) (by decide +kernel), List.mem_of_getElem? (i := 1215) (by decide +kernel), List.mem_of_getElem? (i := 1216) (by decide +kernel)⟩
theorem lw_p61 : lw_okq (⟨"RammedCobblesModel", "wouldNow", "(II)I"⟩, 40) := ⟨⟨by decide +kernel, by decide +kernel⟩, List.mem_of_getElem? (i := 831) (by decide +kernel), List.mem_of_getElem? (i := 1223) (by decide +kernel), List.mem_of_getElem? (i := 1224) (by decide +kernel)⟩
theorem lw_p62 : lw_okq (⟨"RammedCobblesModel", "canMend", "(I)Z"⟩, 40) := ⟨⟨by decide +kernel, by decide +kernel⟩, List.mem_of_getElem? (i := 831) (by decide +kernel), List.mem_of_getElem? (i := 1231) (by decide +kernel), List.mem_of_getElem? (i := 1232) (by decide +kernel)⟩
theorem lw_p63 : lw_okq (⟨"RammedCobblesModel", "goMend", "(II)V"⟩, 40) := ⟨⟨by decide +kernel, by decide +kernel⟩, List.mem_of_getElem? (i := 831) (by decide +kernel), List.mem_of_getElem? (i := 1235) (by decide +kernel), List.mem_of_getElem? (i := 1236) (by decide +kernel)⟩
def lw_privs_4 : List (MethodName × Nat) := [(⟨"RammedCobblesModel", "clearWear", "()V"⟩, 40), (⟨"RammedCobblesModel", "bear", "(II)V"⟩, 40), (⟨"RammedCobblesModel", "bearSecond", "(III)V"⟩, 40), (⟨"RammedCobblesModel", "layWater", "()V"⟩, 40), (⟨"RammedCobblesModel", "isRim", "(I)Z"⟩, 40), (⟨"RammedCobblesModel", "isReady", "()Z"⟩, 40), (⟨"RammedCobblesModel", "goYears", "(II)I"⟩, 40), (⟨"RammedCobblesModel", "goYear", "(I)I"⟩, 40), (⟨"RammedCobblesModel", "layWear", "()V"⟩, 40), (⟨"RammedCobblesModel", "worsen", "(I)Z"⟩, 40), (⟨"RammedCobblesModel", "freeze", "(II)V"⟩, 40), (⟨"RammedCobblesModel", "draw", "()I"⟩, 40), (⟨"RammedCobblesModel", "isBesideSand", "(I)Z"⟩, 40), (⟨"RammedCobblesModel", "wouldNow", "(II)I"⟩, 40), (⟨"RammedCobblesModel", "canMend", "(I)Z"⟩, 40), (⟨"RammedCobblesModel", "goMend", "(II)V"⟩, 40)]
theorem lw_r4 : ∀ q ∈ lw_privs_4, lw_okq q := List.forall_mem_cons.mpr ⟨lw_p48, List.forall_mem_cons.mpr ⟨lw_p49, List.forall_mem_cons.mpr ⟨lw_p50, List.forall_mem_cons.mpr ⟨lw_p51, List.forall_mem_cons.mpr ⟨lw_p52, List.forall_mem_cons.mpr ⟨lw_p53, List.forall_mem_cons.mpr ⟨lw_p54, List.forall_mem_cons.mpr ⟨lw_p55, List.forall_mem_cons.mpr ⟨lw_p56, List.forall_mem_cons.mpr ⟨lw_p57, List.forall_mem_cons.mpr ⟨lw_p58, List.forall_mem_cons.mpr ⟨lw_p59, List.forall_mem_cons.mpr ⟨lw_p60, List.forall_mem_cons.mpr ⟨lw_p61, List.forall_mem_cons.mpr ⟨lw_p62, List.forall_mem_cons.mpr ⟨lw_p63, fun _ h => absurd h List.not_mem_nil⟩⟩⟩⟩⟩⟩⟩⟩⟩⟩⟩⟩⟩⟩⟩⟩
theorem lw_p64 : lw_okq (⟨"RammedCobblesModel", "layMends", "()V"⟩, 40) := ⟨⟨by decide +kernel, by decide +kernel⟩, List.mem_of_getElem? (i := 831) (by decide +kernel), List.mem_of_getElem? (i := 1243) (by decide +kernel), List.mem_of_getElem? (i := 1244) (by decide +kernel)⟩
theorem lw_p65 : lw_okq (⟨"RammedCobblesModel", "wide", "(I)I"⟩, 40) := ⟨⟨by decide +kernel, by decide +kernel⟩, List.mem_of_getElem? (i := 831) (by decide +kernel), List.mem_of_getElem? (i := 1262) (by decide +kernel), List.mem_of_getElem? (i := 1263) (by decide +kernel)⟩
theorem lw_p66 : lw_okq (⟨"RammedCobblesModel", "isRow", "(I)Z"⟩, 40) := ⟨⟨by decide +kernel, by decide +kernel⟩, List.mem_of_getElem? (i := 831) (by decide +kernel), List.mem_of_getElem? (i := 1274) (by decide +kernel), List.mem_of_getElem? (i := 1275) (by decide +kernel)⟩
theorem lw_p67 : lw_okq (⟨"RammedCobblesModel", "steps", "(I)I"⟩, 40) := ⟨⟨by decide +kernel, by decide +kernel⟩, List.mem_of_getElem? (i := 831) (by decide +kernel), List.mem_of_getElem? (i := 1278) (by decide +kernel), List.mem_of_getElem? (i := 1279) (by decide +kernel)⟩
theorem lw_p68 : lw_okq (⟨"RammedCobblesModel", "shaken", "(II)I"⟩, 40) := ⟨⟨by decide +kernel, by decide +kernel⟩, List.mem_of_getElem? (i := 831) (by decide +kernel), List.mem_of_getElem? (i := 1282) (by decide +kernel), List.mem_of_getElem? (i := 1283) (by decide +kernel)⟩
theorem lw_p69 : lw_okq (⟨"RammedCobblesModel", "howMany", "(I)I"⟩, 40) := ⟨⟨by decide +kernel, by decide +kernel⟩, List.mem_of_getElem? (i := 831) (by decide +kernel), List.mem_of_getElem? (i := 1305) (by decide +kernel), List.mem_of_getElem? (i := 1306) (by decide +kernel)⟩
theorem lw_p70 : lw_okq (⟨"RammedCobblesModel", "mixStreet", "()V"⟩, 40) := ⟨⟨by decide +kernel, by decide +kernel⟩, List.mem_of_getElem? (i := 831) (by decide +kernel), List.mem_of_getElem? (i := 1314) (by decide +kernel), List.mem_of_getElem? (i := 1315) (by decide +kernel)⟩
theorem lw_p71 : lw_okq (⟨"RammedCobblesModel", "mix", "(J)V"⟩, 40) := ⟨⟨by decide +kernel, by decide +kernel⟩, List.mem_of_getElem? (i := 831) (by decide +kernel), List.mem_of_getElem? (i := 1318) (by decide +kernel), List.mem_of_getElem? (i := 1319) (by decide +kernel)⟩
def lw_privs_5 : List (MethodName × Nat) := [(⟨"RammedCobblesModel", "layMends", "()V"⟩, 40), (⟨"RammedCobblesModel", "wide", "(I)I"⟩, 40), (⟨"RammedCobblesModel", "isRow", "(I)Z"⟩, 40), (⟨"RammedCobblesModel", "steps", "(I)I"⟩, 40), (⟨"RammedCobblesModel", "shaken", "(II)I"⟩, 40), (⟨"RammedCobblesModel", "howMany", "(I)I"⟩, 40), (⟨"RammedCobblesModel", "mixStreet", "()V"⟩, 40), (⟨"RammedCobblesModel", "mix", "(J)V"⟩, 40)]
theorem lw_r5 : ∀ q ∈ lw_privs_5, lw_okq q := List.forall_mem_cons.mpr ⟨lw_p64, List.forall_mem_cons.mpr ⟨lw_p65, List.forall_mem_cons.mpr ⟨lw_p66, List.forall_mem_cons.mpr ⟨lw_p67, List.forall_mem_cons.mpr ⟨lw_p68, List.forall_mem_cons.mpr ⟨lw_p69, List.forall_mem_cons.mpr ⟨lw_p70, List.forall_mem_cons.mpr ⟨lw_p71, fun _ h => absurd h List.not_mem_nil⟩⟩⟩⟩⟩⟩⟩⟩
def lw_privs : List (MethodName × Nat) := lw_privs_1 ++ (lw_privs_2 ++ (lw_privs_3 ++ (lw_privs_4 ++ (lw_privs_5))))
def lw_tbl : List Cond := k2_sels lw_privs ++ tables_1
theorem lw_privs_ok : ∀ q ∈ lw_privs, lw_okq q := by
  show ∀ q ∈ lw_privs_1 ++ (lw_privs_2 ++ (lw_privs_3 ++ (lw_privs_4 ++ (lw_privs_5)))), lw_okq q
  exact List.forall_mem_append.mpr ⟨lw_r1, List.forall_mem_append.mpr ⟨lw_r2, List.forall_mem_append.mpr ⟨lw_r3, List.forall_mem_append.mpr ⟨lw_r4, lw_r5⟩⟩⟩⟩

def RX0 : String := "RammedCobbles$CartText"
def TX0 : u_T := fun k => match k with
  | 0 => ("RammedCobbles$CartText", "rows", "[I", true)
  | 1 => ("RammedCobbles$CartText", "loads", "[I", true)
  | 2 => ("RammedCobbles$CartText", "many", "I", false)
  | _ => ("RammedCobbles$CartText", "due", "I", false)
def tyX0 : Nat → FieldType := fun k => match k with
  | 0 => .array .int
  | 1 => .array .int
  | 2 => .int
  | _ => .int
theorem nmX0 : ∀ a, a < 4 → ∀ b, b < 4 → a ≠ b → (TX0 a).2.1 ≠ (TX0 b).2.1 := by decide +kernel
theorem tyX0_ok : ∀ k, k < 4 → parseFieldDescriptor (TX0 k).2.2.1 = some (tyX0 k) := by decide +kernel
abbrev cX0_init : ByteArray := prog_2_method_1_code
def yX0_init : MethodName := ⟨RX0, "<init>", "()V"⟩
abbrev cX0_copyFrom : ByteArray := prog_2_method_2_code
def yX0_copyFrom : MethodName := ⟨RX0, "copyFrom", "(LRammedCobbles$CartText;)V"⟩
abbrev cX0_begin : ByteArray := prog_2_method_3_code
def yX0_begin : MethodName := ⟨RX0, "begin", "()V"⟩
abbrev cX0_takes : ByteArray := prog_2_method_4_code
def yX0_takes : MethodName := ⟨RX0, "takes", "(I)Z"⟩
abbrev cX0_isWhole : ByteArray := prog_2_method_5_code
def yX0_isWhole : MethodName := ⟨RX0, "isWhole", "()Z"⟩
abbrev cX0_takesRow : ByteArray := prog_2_method_6_code
def yX0_takesRow : MethodName := ⟨RX0, "takesRow", "(I)Z"⟩
abbrev cX0_takesDigit : ByteArray := prog_2_method_7_code
def yX0_takesDigit : MethodName := ⟨RX0, "takesDigit", "(II)Z"⟩
abbrev cX0_takesEnd : ByteArray := prog_2_method_8_code
def yX0_takesEnd : MethodName := ⟨RX0, "takesEnd", "(I)Z"⟩
def RX1 : String := "RammedCobbles$Heap"
def TX1 : u_T := fun k => match k with
  | 0 => ("RammedCobbles$Heap", "sizes", "[I", true)
  | 1 => ("RammedCobbles$Heap", "widthBelow", "[I", true)
  | 2 => ("RammedCobbles$Heap", "many", "I", false)
  | 3 => ("RammedCobbles$Heap", "bestBits", "I", false)
  | _ => ("RammedCobbles$Heap", "bestWidth", "I", false)
def tyX1 : Nat → FieldType := fun k => match k with
  | 0 => .array .int
  | 1 => .array .int
  | 2 => .int
  | 3 => .int
  | _ => .int
theorem nmX1 : ∀ a, a < 5 → ∀ b, b < 5 → a ≠ b → (TX1 a).2.1 ≠ (TX1 b).2.1 := by decide +kernel
theorem tyX1_ok : ∀ k, k < 5 → parseFieldDescriptor (TX1 k).2.2.1 = some (tyX1 k) := by decide +kernel
abbrev cX1_init : ByteArray := prog_3_method_1_code
def yX1_init : MethodName := ⟨RX1, "<init>", "()V"⟩
abbrev cX1_put : ByteArray := prog_3_method_2_code
def yX1_put : MethodName := ⟨RX1, "put", "(I)V"⟩
abbrev cX1_choose : ByteArray := prog_3_method_3_code
def yX1_choose : MethodName := ⟨RX1, "choose", "(I)V"⟩
abbrev cX1_isBetter : ByteArray := prog_3_method_4_code
def yX1_isBetter : MethodName := ⟨RX1, "isBetter", "(II)Z"⟩
def RX2 : String := "RammedCobbles$Loads"
def TX2 : u_T := fun k => match k with
  | 0 => ("RammedCobbles$Loads", "plan", "LRammedCobbles$Plan;", true)
  | 1 => ("RammedCobbles$Loads", "grips", "[I", true)
  | _ => ("RammedCobbles$Loads", "borne", "[I", true)
def tyX2 : Nat → FieldType := fun k => match k with
  | 0 => .object "RammedCobbles$Plan"
  | 1 => .array .int
  | _ => .array .int
theorem nmX2 : ∀ a, a < 3 → ∀ b, b < 3 → a ≠ b → (TX2 a).2.1 ≠ (TX2 b).2.1 := by decide +kernel
theorem tyX2_ok : ∀ k, k < 3 → parseFieldDescriptor (TX2 k).2.2.1 = some (tyX2 k) := by decide +kernel
abbrev cX2_init : ByteArray := prog_4_method_1_code
def yX2_init : MethodName := ⟨RX2, "<init>", "(LRammedCobbles$Plan;)V"⟩
abbrev cX2_begin : ByteArray := prog_4_method_2_code
def yX2_begin : MethodName := ⟨RX2, "begin", "(LRammedCobbles$Street;)V"⟩
abbrev cX2_lay : ByteArray := prog_4_method_3_code
def yX2_lay : MethodName := ⟨RX2, "lay", "(II)V"⟩
abbrev cX2_passOn : ByteArray := prog_4_method_4_code
def yX2_passOn : MethodName := ⟨RX2, "passOn", "(III)V"⟩
abbrev cX2_greatest : ByteArray := prog_4_method_5_code
def yX2_greatest : MethodName := ⟨RX2, "greatest", "()I"⟩
def RX3 : String := "RammedCobbles$Page"
def TX3 : u_T := fun k => match k with
  | 0 => ("RammedCobbles$Page", "codes", "[I", true)
  | _ => ("RammedCobbles$Page", "length", "I", false)
def tyX3 : Nat → FieldType := fun k => match k with
  | 0 => .array .int
  | _ => .int
theorem nmX3 : ∀ a, a < 2 → ∀ b, b < 2 → a ≠ b → (TX3 a).2.1 ≠ (TX3 b).2.1 := by decide +kernel
theorem tyX3_ok : ∀ k, k < 2 → parseFieldDescriptor (TX3 k).2.2.1 = some (tyX3 k) := by decide +kernel
abbrev cX3_init : ByteArray := prog_5_method_1_code
def yX3_init : MethodName := ⟨RX3, "<init>", "()V"⟩
abbrev cX3_append : ByteArray := prog_5_method_2_code
def yX3_append : MethodName := ⟨RX3, "append", "(I)V"⟩
def RX4 : String := "RammedCobbles$Plan"
def TX4 : u_T := fun k => match k with
  | 0 => ("RammedCobbles$Plan", "near", "[I", true)
  | 1 => ("RammedCobbles$Plan", "atRim", "[Z", true)
  | 2 => ("RammedCobbles$Plan", "rows", "I", false)
  | 3 => ("RammedCobbles$Plan", "wide", "I", false)
  | _ => ("RammedCobbles$Plan", "cells", "I", false)
def tyX4 : Nat → FieldType := fun k => match k with
  | 0 => .array .int
  | 1 => .array .boolean
  | 2 => .int
  | 3 => .int
  | _ => .int
theorem nmX4 : ∀ a, a < 5 → ∀ b, b < 5 → a ≠ b → (TX4 a).2.1 ≠ (TX4 b).2.1 := by decide +kernel
theorem tyX4_ok : ∀ k, k < 5 → parseFieldDescriptor (TX4 k).2.2.1 = some (tyX4 k) := by decide +kernel
abbrev cX4_init : ByteArray := prog_6_method_1_code
def yX4_init : MethodName := ⟨RX4, "<init>", "()V"⟩
abbrev cX4_draw : ByteArray := prog_6_method_2_code
def yX4_draw : MethodName := ⟨RX4, "draw", "(II)V"⟩
abbrev cX4_numberOf : ByteArray := prog_6_method_3_code
def yX4_numberOf : MethodName := ⟨RX4, "numberOf", "(II)I"⟩
abbrev cX4_beside : ByteArray := prog_6_method_4_code
def yX4_beside : MethodName := ⟨RX4, "beside", "(II)I"⟩
abbrev cX4_steps : ByteArray := prog_6_method_5_code
def yX4_steps : MethodName := ⟨RX4, "steps", "(I)I"⟩
def RX5 : String := "RammedCobbles$Ramming"
def TX5 : u_T := fun k => match k with
  | 0 => ("RammedCobbles$Ramming", "plan", "LRammedCobbles$Plan;", true)
  | _ => ("RammedCobbles$Ramming", "turns", "[I", true)
def tyX5 : Nat → FieldType := fun k => match k with
  | 0 => .object "RammedCobbles$Plan"
  | _ => .array .int
theorem nmX5 : ∀ a, a < 2 → ∀ b, b < 2 → a ≠ b → (TX5 a).2.1 ≠ (TX5 b).2.1 := by decide +kernel
theorem tyX5_ok : ∀ k, k < 2 → parseFieldDescriptor (TX5 k).2.2.1 = some (tyX5 k) := by decide +kernel
abbrev cX5_init : ByteArray := prog_7_method_1_code
def yX5_init : MethodName := ⟨RX5, "<init>", "(LRammedCobbles$Plan;)V"⟩
abbrev cX5_go : ByteArray := prog_7_method_2_code
def yX5_go : MethodName := ⟨RX5, "go", "(LRammedCobbles$Street;III)I"⟩
abbrev cX5_roundsTillAllRing : ByteArray := prog_7_method_3_code
def yX5_roundsTillAllRing : MethodName := ⟨RX5, "roundsTillAllRing", "(LRammedCobbles$Street;II)I"⟩
abbrev cX5_goRound : ByteArray := prog_7_method_4_code
def yX5_goRound : MethodName := ⟨RX5, "goRound", "(LRammedCobbles$Street;I)I"⟩
abbrev cX5_arrange : ByteArray := prog_7_method_5_code
def yX5_arrange : MethodName := ⟨RX5, "arrange", "(I)V"⟩
abbrev cX5_arrangeByColumns : ByteArray := prog_7_method_6_code
def yX5_arrangeByColumns : MethodName := ⟨RX5, "arrangeByColumns", "()V"⟩
def RX6 : String := "RammedCobbles$Reader"
def TX6 : u_T := fun k => match k with
  | _ => ("", "", "", false)
def tyX6 : Nat → FieldType := fun k => match k with
  | _ => .int
theorem nmX6 : ∀ a, a < 0 → ∀ b, b < 0 → a ≠ b → (TX6 a).2.1 ≠ (TX6 b).2.1 := by decide +kernel
theorem tyX6_ok : ∀ k, k < 0 → parseFieldDescriptor (TX6 k).2.2.1 = some (tyX6 k) := by decide +kernel
abbrev cX6_init : ByteArray := prog_8_method_1_code
def yX6_init : MethodName := ⟨RX6, "<init>", "()V"⟩
abbrev cX6_faultIn : ByteArray := prog_8_method_5_code
def yX6_faultIn : MethodName := ⟨RX6, "faultIn", "(LRammedCobbles$Page;)I"⟩
abbrev cX6_reads : ByteArray := prog_8_method_6_code
def yX6_reads : MethodName := ⟨RX6, "reads", "(LRammedCobbles$Page;)Z"⟩
def RX7 : String := "RammedCobbles$Street"
def TX7 : u_T := fun k => match k with
  | 0 => ("RammedCobbles$Street", "plan", "LRammedCobbles$Plan;", true)
  | 1 => ("RammedCobbles$Street", "kinds", "[I", true)
  | 2 => ("RammedCobbles$Street", "sizes", "[I", true)
  | 3 => ("RammedCobbles$Street", "heights", "[I", true)
  | 4 => ("RammedCobbles$Street", "seats", "[I", true)
  | 5 => ("RammedCobbles$Street", "joints", "[I", true)
  | 6 => ("RammedCobbles$Street", "seed", "I", false)
  | _ => ("RammedCobbles$Street", "changes", "I", false)
def tyX7 : Nat → FieldType := fun k => match k with
  | 0 => .object "RammedCobbles$Plan"
  | 1 => .array .int
  | 2 => .array .int
  | 3 => .array .int
  | 4 => .array .int
  | 5 => .array .int
  | 6 => .int
  | _ => .int
theorem nmX7 : ∀ a, a < 8 → ∀ b, b < 8 → a ≠ b → (TX7 a).2.1 ≠ (TX7 b).2.1 := by decide +kernel
theorem tyX7_ok : ∀ k, k < 8 → parseFieldDescriptor (TX7 k).2.2.1 = some (tyX7 k) := by decide +kernel
abbrev cX7_init : ByteArray := prog_9_method_1_code
def yX7_init : MethodName := ⟨RX7, "<init>", "(LRammedCobbles$Plan;)V"⟩
abbrev cX7_pave : ByteArray := prog_9_method_2_code
def yX7_pave : MethodName := ⟨RX7, "pave", "(LRammedCobbles$StreetText;)V"⟩
abbrev cX7_copyFrom : ByteArray := prog_9_method_3_code
def yX7_copyFrom : MethodName := ⟨RX7, "copyFrom", "(LRammedCobbles$Street;)V"⟩
abbrev cX7_tell : ByteArray := prog_9_method_4_code
def yX7_tell : MethodName := ⟨RX7, "tell", "(II)I"⟩
abbrev cX7_isOf : ByteArray := prog_9_method_5_code
def yX7_isOf : MethodName := ⟨RX7, "isOf", "(II)Z"⟩
abbrev cX7_stones : ByteArray := prog_9_method_6_code
def yX7_stones : MethodName := ⟨RX7, "stones", "()I"⟩
abbrev cX7_grip : ByteArray := prog_9_method_7_code
def yX7_grip : MethodName := ⟨RX7, "grip", "(I)I"⟩
abbrev cX7_hold : ByteArray := prog_9_method_8_code
def yX7_hold : MethodName := ⟨RX7, "hold", "(I)I"⟩
abbrev cX7_level : ByteArray := prog_9_method_9_code
def yX7_level : MethodName := ⟨RX7, "level", "(I)V"⟩
abbrev cX7_fillJoints : ByteArray := prog_9_method_10_code
def yX7_fillJoints : MethodName := ⟨RX7, "fillJoints", "(I)V"⟩
abbrev cX7_sinkBy : ByteArray := prog_9_method_11_code
def yX7_sinkBy : MethodName := ⟨RX7, "sinkBy", "(II)I"⟩
abbrev cX7_strike : ByteArray := prog_9_method_12_code
def yX7_strike : MethodName := ⟨RX7, "strike", "(II)I"⟩
abbrev cX7_seatFirmer : ByteArray := prog_9_method_13_code
def yX7_seatFirmer : MethodName := ⟨RX7, "seatFirmer", "(I)V"⟩
abbrev cX7_ringing : ByteArray := prog_9_method_14_code
def yX7_ringing : MethodName := ⟨RX7, "ringing", "(I)I"⟩
abbrev cX7_spread : ByteArray := prog_9_method_15_code
def yX7_spread : MethodName := ⟨RX7, "spread", "()I"⟩
abbrev cX7_canBeMended : ByteArray := prog_9_method_16_code
def yX7_canBeMended : MethodName := ⟨RX7, "canBeMended", "(I)Z"⟩
abbrev cX7_repair : ByteArray := prog_9_method_17_code
def yX7_repair : MethodName := ⟨RX7, "repair", "(II)V"⟩
abbrev cX7_worsen : ByteArray := prog_9_method_18_code
def yX7_worsen : MethodName := ⟨RX7, "worsen", "(I)Z"⟩
abbrev cX7_loseGrit : ByteArray := prog_9_method_19_code
def yX7_loseGrit : MethodName := ⟨RX7, "loseGrit", "(I)V"⟩
abbrev cX7_freeze : ByteArray := prog_9_method_20_code
def yX7_freeze : MethodName := ⟨RX7, "freeze", "(II)V"⟩
abbrev cX7_drawOfTen : ByteArray := prog_9_method_21_code
def yX7_drawOfTen : MethodName := ⟨RX7, "drawOfTen", "()I"⟩
abbrev cX7_isBesideSand : ByteArray := prog_9_method_22_code
def yX7_isBesideSand : MethodName := ⟨RX7, "isBesideSand", "(I)Z"⟩
abbrev cX7_jolts : ByteArray := prog_9_method_23_code
def yX7_jolts : MethodName := ⟨RX7, "jolts", "(II)I"⟩
def RX8 : String := "RammedCobbles$StreetText"
def TX8 : u_T := fun k => match k with
  | 0 => ("RammedCobbles$StreetText", "kinds", "[I", true)
  | 1 => ("RammedCobbles$StreetText", "sizes", "[I", true)
  | 2 => ("RammedCobbles$StreetText", "rows", "I", false)
  | 3 => ("RammedCobbles$StreetText", "wide", "I", false)
  | 4 => ("RammedCobbles$StreetText", "inRow", "I", false)
  | 5 => ("RammedCobbles$StreetText", "cells", "I", false)
  | _ => ("RammedCobbles$StreetText", "sizeIsDue", "Z", false)
def tyX8 : Nat → FieldType := fun k => match k with
  | 0 => .array .int
  | 1 => .array .int
  | 2 => .int
  | 3 => .int
  | 4 => .int
  | 5 => .int
  | _ => .boolean
theorem nmX8 : ∀ a, a < 7 → ∀ b, b < 7 → a ≠ b → (TX8 a).2.1 ≠ (TX8 b).2.1 := by decide +kernel
theorem tyX8_ok : ∀ k, k < 7 → parseFieldDescriptor (TX8 k).2.2.1 = some (tyX8 k) := by decide +kernel
abbrev cX8_init : ByteArray := prog_10_method_1_code
def yX8_init : MethodName := ⟨RX8, "<init>", "()V"⟩
abbrev cX8_begin : ByteArray := prog_10_method_2_code
def yX8_begin : MethodName := ⟨RX8, "begin", "()V"⟩
abbrev cX8_takes : ByteArray := prog_10_method_3_code
def yX8_takes : MethodName := ⟨RX8, "takes", "(I)Z"⟩
abbrev cX8_isWhole : ByteArray := prog_10_method_4_code
def yX8_isWhole : MethodName := ⟨RX8, "isWhole", "()Z"⟩
abbrev cX8_takesSize : ByteArray := prog_10_method_5_code
def yX8_takesSize : MethodName := ⟨RX8, "takesSize", "(I)Z"⟩
abbrev cX8_takesRowEnd : ByteArray := prog_10_method_6_code
def yX8_takesRowEnd : MethodName := ⟨RX8, "takesRowEnd", "()Z"⟩
abbrev cX8_takesCell : ByteArray := prog_10_method_7_code
def yX8_takesCell : MethodName := ⟨RX8, "takesCell", "(I)Z"⟩
abbrev cX8_kindOf : ByteArray := prog_10_method_8_code
def yX8_kindOf : MethodName := ⟨RX8, "kindOf", "(I)I"⟩
def RX9 : String := "RammedCobbles$Water"
def TX9 : u_T := fun k => match k with
  | 0 => ("RammedCobbles$Water", "plan", "LRammedCobbles$Plan;", true)
  | _ => ("RammedCobbles$Water", "levels", "[I", true)
def tyX9 : Nat → FieldType := fun k => match k with
  | 0 => .object "RammedCobbles$Plan"
  | _ => .array .int
theorem nmX9 : ∀ a, a < 2 → ∀ b, b < 2 → a ≠ b → (TX9 a).2.1 ≠ (TX9 b).2.1 := by decide +kernel
theorem tyX9_ok : ∀ k, k < 2 → parseFieldDescriptor (TX9 k).2.2.1 = some (tyX9 k) := by decide +kernel
abbrev cX9_init : ByteArray := prog_11_method_1_code
def yX9_init : MethodName := ⟨RX9, "<init>", "(LRammedCobbles$Plan;)V"⟩
abbrev cX9_fill : ByteArray := prog_11_method_2_code
def yX9_fill : MethodName := ⟨RX9, "fill", "(LRammedCobbles$Street;)V"⟩
abbrev cX9_depth : ByteArray := prog_11_method_3_code
def yX9_depth : MethodName := ⟨RX9, "depth", "(LRammedCobbles$Street;I)I"⟩
abbrev cX9_fallsIn : ByteArray := prog_11_method_4_code
def yX9_fallsIn : MethodName := ⟨RX9, "fallsIn", "(LRammedCobbles$Street;I)Z"⟩
def RX10 : String := "RammedCobbles$Years"
def TX10 : u_T := fun k => match k with
  | 0 => ("RammedCobbles$Years", "plan", "LRammedCobbles$Plan;", true)
  | 1 => ("RammedCobbles$Years", "wear", "LRammedCobbles$Loads;", true)
  | 2 => ("RammedCobbles$Years", "pools", "LRammedCobbles$Water;", true)
  | _ => ("RammedCobbles$Years", "worn", "[Z", true)
def tyX10 : Nat → FieldType := fun k => match k with
  | 0 => .object "RammedCobbles$Plan"
  | 1 => .object "RammedCobbles$Loads"
  | 2 => .object "RammedCobbles$Water"
  | _ => .array .boolean
theorem nmX10 : ∀ a, a < 4 → ∀ b, b < 4 → a ≠ b → (TX10 a).2.1 ≠ (TX10 b).2.1 := by decide +kernel
theorem tyX10_ok : ∀ k, k < 4 → parseFieldDescriptor (TX10 k).2.2.1 = some (tyX10 k) := by decide +kernel
abbrev cX10_init : ByteArray := prog_12_method_1_code
def yX10_init : MethodName := ⟨RX10, "<init>", "(LRammedCobbles$Plan;LRammedCobbles$Loads;LRammedCobbles$Water;)V"⟩
abbrev cX10_pass : ByteArray := prog_12_method_2_code
def yX10_pass : MethodName := ⟨RX10, "pass", "(LRammedCobbles$Street;LRammedCobbles$CartText;II)I"⟩
abbrev cX10_layCarts : ByteArray := prog_12_method_3_code
def yX10_layCarts : MethodName := ⟨RX10, "layCarts", "(LRammedCobbles$Street;LRammedCobbles$CartText;)V"⟩
abbrev cX10_wearDown : ByteArray := prog_12_method_4_code
def yX10_wearDown : MethodName := ⟨RX10, "wearDown", "(LRammedCobbles$Street;)I"⟩
abbrev cX10_freeze : ByteArray := prog_12_method_5_code
def yX10_freeze : MethodName := ⟨RX10, "freeze", "(LRammedCobbles$Street;I)V"⟩
abbrev cX10_washOut : ByteArray := prog_12_method_6_code
def yX10_washOut : MethodName := ⟨RX10, "washOut", "(LRammedCobbles$Street;)V"⟩
def RX11 : String := "RammedCobbles"
def TX11 : u_T := fun k => match k with
  | 0 => ("RammedCobbles", "page", "LRammedCobbles$Page;", true)
  | 1 => ("RammedCobbles", "streetText", "LRammedCobbles$StreetText;", true)
  | 2 => ("RammedCobbles", "cartText", "LRammedCobbles$CartText;", true)
  | 3 => ("RammedCobbles", "kept", "LRammedCobbles$CartText;", true)
  | 4 => ("RammedCobbles", "plan", "LRammedCobbles$Plan;", true)
  | 5 => ("RammedCobbles", "now", "LRammedCobbles$Street;", true)
  | 6 => ("RammedCobbles", "trial", "LRammedCobbles$Street;", true)
  | 7 => ("RammedCobbles", "held", "LRammedCobbles$Street;", true)
  | 8 => ("RammedCobbles", "ramming", "LRammedCobbles$Ramming;", true)
  | 9 => ("RammedCobbles", "loads", "LRammedCobbles$Loads;", true)
  | 10 => ("RammedCobbles", "pools", "LRammedCobbles$Water;", true)
  | 11 => ("RammedCobbles", "ages", "LRammedCobbles$Years;", true)
  | 12 => ("RammedCobbles", "pile", "LRammedCobbles$Heap;", true)
  | 13 => ("RammedCobbles", "mendable", "[I", true)
  | 14 => ("RammedCobbles", "streetsRead", "I", false)
  | 15 => ("RammedCobbles", "imageOf", "I", false)
  | _ => ("RammedCobbles", "firstsDone", "I", false)
def tyX11 : Nat → FieldType := fun k => match k with
  | 0 => .object "RammedCobbles$Page"
  | 1 => .object "RammedCobbles$StreetText"
  | 2 => .object "RammedCobbles$CartText"
  | 3 => .object "RammedCobbles$CartText"
  | 4 => .object "RammedCobbles$Plan"
  | 5 => .object "RammedCobbles$Street"
  | 6 => .object "RammedCobbles$Street"
  | 7 => .object "RammedCobbles$Street"
  | 8 => .object "RammedCobbles$Ramming"
  | 9 => .object "RammedCobbles$Loads"
  | 10 => .object "RammedCobbles$Water"
  | 11 => .object "RammedCobbles$Years"
  | 12 => .object "RammedCobbles$Heap"
  | 13 => .array .int
  | 14 => .int
  | 15 => .int
  | _ => .int
theorem nmX11 : ∀ a, a < 17 → ∀ b, b < 17 → a ≠ b → (TX11 a).2.1 ≠ (TX11 b).2.1 := by decide +kernel
theorem tyX11_ok : ∀ k, k < 17 → parseFieldDescriptor (TX11 k).2.2.1 = some (tyX11 k) := by decide +kernel
abbrev cX11_init : ByteArray := prog_1_method_1_code
def yX11_init : MethodName := ⟨RX11, "<init>", "()V"⟩
abbrev cX11_letters : ByteArray := prog_1_method_2_code
def yX11_letters : MethodName := ⟨RX11, "letters", "(J)I"⟩
abbrev cX11_blank : ByteArray := prog_1_method_3_code
def yX11_blank : MethodName := ⟨RX11, "blank", "()I"⟩
abbrev cX11_fault : ByteArray := prog_1_method_4_code
def yX11_fault : MethodName := ⟨RX11, "fault", "(I)I"⟩
abbrev cX11_street : ByteArray := prog_1_method_5_code
def yX11_street : MethodName := ⟨RX11, "street", "()I"⟩
abbrev cX11_carts : ByteArray := prog_1_method_6_code
def yX11_carts : MethodName := ⟨RX11, "carts", "()I"⟩
abbrev cX11_cart : ByteArray := prog_1_method_7_code
def yX11_cart : MethodName := ⟨RX11, "cart", "(II)I"⟩
abbrev cX11_cell : ByteArray := prog_1_method_8_code
def yX11_cell : MethodName := ⟨RX11, "cell", "(II)I"⟩
abbrev cX11_as : ByteArray := prog_1_method_9_code
def yX11_as : MethodName := ⟨RX11, "as", "(II)I"⟩
abbrev cX11_set : ByteArray := prog_1_method_10_code
def yX11_set : MethodName := ⟨RX11, "set", "(I)I"⟩
abbrev cX11_grit : ByteArray := prog_1_method_11_code
def yX11_grit : MethodName := ⟨RX11, "grit", "(I)I"⟩
abbrev cX11_blow : ByteArray := prog_1_method_12_code
def yX11_blow : MethodName := ⟨RX11, "blow", "(II)I"⟩
abbrev cX11_ram : ByteArray := prog_1_method_13_code
def yX11_ram : MethodName := ⟨RX11, "ram", "(III)I"⟩
abbrev cX11_rings : ByteArray := prog_1_method_14_code
def yX11_rings : MethodName := ⟨RX11, "rings", "(I)I"⟩
abbrev cX11_proud : ByteArray := prog_1_method_15_code
def yX11_proud : MethodName := ⟨RX11, "proud", "(IIII)I"⟩
abbrev cX11_until : ByteArray := prog_1_method_16_code
def yX11_until : MethodName := ⟨RX11, "until", "(II)I"⟩
abbrev cX11_uneven : ByteArray := prog_1_method_17_code
def yX11_uneven : MethodName := ⟨RX11, "uneven", "()I"⟩
abbrev cX11_evenest : ByteArray := prog_1_method_18_code
def yX11_evenest : MethodName := ⟨RX11, "evenest", "(II)I"⟩
abbrev cX11_borne : ByteArray := prog_1_method_19_code
def yX11_borne : MethodName := ⟨RX11, "borne", "(III)I"⟩
abbrev cX11_bearer : ByteArray := prog_1_method_20_code
def yX11_bearer : MethodName := ⟨RX11, "bearer", "(II)I"⟩
abbrev cX11_water : ByteArray := prog_1_method_21_code
def yX11_water : MethodName := ⟨RX11, "water", "(I)I"⟩
abbrev cX11_seed : ByteArray := prog_1_method_22_code
def yX11_seed : MethodName := ⟨RX11, "seed", "(I)I"⟩
abbrev cX11_years : ByteArray := prog_1_method_23_code
def yX11_years : MethodName := ⟨RX11, "years", "(II)I"⟩
abbrev cX11_would : ByteArray := prog_1_method_24_code
def yX11_would : MethodName := ⟨RX11, "would", "(II)I"⟩
abbrev cX11_mend : ByteArray := prog_1_method_25_code
def yX11_mend : MethodName := ⟨RX11, "mend", "(II)I"⟩
abbrev cX11_first : ByteArray := prog_1_method_26_code
def yX11_first : MethodName := ⟨RX11, "first", "(IIII)I"⟩
abbrev cX11_trench : ByteArray := prog_1_method_27_code
def yX11_trench : MethodName := ⟨RX11, "trench", "(III)I"⟩
abbrev cX11_heap : ByteArray := prog_1_method_28_code
def yX11_heap : MethodName := ⟨RX11, "heap", "(I)I"⟩
abbrev cX11_fits : ByteArray := prog_1_method_29_code
def yX11_fits : MethodName := ⟨RX11, "fits", "(II)I"⟩
abbrev cX11_gaps : ByteArray := prog_1_method_30_code
def yX11_gaps : MethodName := ⟨RX11, "gaps", "(III)I"⟩
abbrev cX11_shake : ByteArray := prog_1_method_31_code
def yX11_shake : MethodName := ⟨RX11, "shake", "(III)I"⟩
abbrev cX11_worst : ByteArray := prog_1_method_32_code
def yX11_worst : MethodName := ⟨RX11, "worst", "(I)I"⟩
abbrev cX11_image : ByteArray := prog_1_method_33_code
def yX11_image : MethodName := ⟨RX11, "image", "()I"⟩
abbrev cX11_restore : ByteArray := prog_1_method_34_code
def yX11_restore : MethodName := ⟨RX11, "restore", "()I"⟩
abbrev cX11_count : ByteArray := prog_1_method_35_code
def yX11_count : MethodName := ⟨RX11, "count", "(I)I"⟩
abbrev cX11_digest : ByteArray := prog_1_method_36_code
def yX11_digest : MethodName := ⟨RX11, "digest", "()J"⟩
abbrev cX11_digestOfCells : ByteArray := prog_1_method_37_code
def yX11_digestOfCells : MethodName := ⟨RX11, "digestOfCells", "(J)J"⟩
abbrev cX11_findMendable : ByteArray := prog_1_method_38_code
def yX11_findMendable : MethodName := ⟨RX11, "findMendable", "()I"⟩
abbrev cX11_lostWith : ByteArray := prog_1_method_39_code
def yX11_lostWith : MethodName := ⟨RX11, "lostWith", "(IIII)I"⟩
abbrev cX11_hasStreet : ByteArray := prog_1_method_40_code
def yX11_hasStreet : MethodName := ⟨RX11, "hasStreet", "()Z"⟩
abbrev cX11_hasTraffic : ByteArray := prog_1_method_41_code
def yX11_hasTraffic : MethodName := ⟨RX11, "hasTraffic", "()Z"⟩
abbrev cX11_isCell : ByteArray := prog_1_method_42_code
def yX11_isCell : MethodName := ⟨RX11, "isCell", "(I)Z"⟩
abbrev cX11_isStone : ByteArray := prog_1_method_43_code
def yX11_isStone : MethodName := ⟨RX11, "isStone", "(I)Z"⟩
abbrev cX11_isRow : ByteArray := prog_1_method_44_code
def yX11_isRow : MethodName := ⟨RX11, "isRow", "(I)Z"⟩
abbrev cX11_isWeight : ByteArray := prog_1_method_45_code
def yX11_isWeight : MethodName := ⟨RX11, "isWeight", "(I)Z"⟩
abbrev cX11_isOrder : ByteArray := prog_1_method_46_code
def yX11_isOrder : MethodName := ⟨RX11, "isOrder", "(I)Z"⟩
abbrev cX11_isLoad : ByteArray := prog_1_method_47_code
def yX11_isLoad : MethodName := ⟨RX11, "isLoad", "(I)Z"⟩
abbrev cX11_isSize : ByteArray := prog_1_method_48_code
def yX11_isSize : MethodName := ⟨RX11, "isSize", "(I)Z"⟩
abbrev cX11_areYears : ByteArray := prog_1_method_49_code
def yX11_areYears : MethodName := ⟨RX11, "areYears", "(II)Z"⟩
abbrev cX11_byteOf : ByteArray := prog_1_method_50_code
def yX11_byteOf : MethodName := ⟨RX11, "byteOf", "(JI)I"⟩
abbrev cX11_lettersIn : ByteArray := prog_1_method_51_code
def yX11_lettersIn : MethodName := ⟨RX11, "lettersIn", "(J)I"⟩
abbrev cX11_quotient : ByteArray := prog_1_method_52_code
def yX11_quotient : MethodName := ⟨RX11, "quotient", "(II)I"⟩
abbrev cX11_commonDivisor : ByteArray := prog_1_method_53_code
def yX11_commonDivisor : MethodName := ⟨RX11, "commonDivisor", "(II)I"⟩
def RX12 : String := "RammedCobblesModel"
def TX12 : u_T := fun k => match k with
  | 0 => ("RammedCobblesModel", "rows", "I", false)
  | 1 => ("RammedCobblesModel", "columns", "I", false)
  | 2 => ("RammedCobblesModel", "streets", "I", false)
  | 3 => ("RammedCobblesModel", "kind", "[I", true)
  | 4 => ("RammedCobblesModel", "size", "[I", true)
  | 5 => ("RammedCobblesModel", "height", "[I", true)
  | 6 => ("RammedCobblesModel", "seat", "[I", true)
  | 7 => ("RammedCobblesModel", "joint", "[I", true)
  | 8 => ("RammedCobblesModel", "seedNow", "J", false)
  | 9 => ("RammedCobblesModel", "carts", "I", false)
  | 10 => ("RammedCobblesModel", "cartRow", "[I", true)
  | 11 => ("RammedCobblesModel", "cartLoad", "[I", true)
  | 12 => ("RammedCobblesModel", "stones", "I", false)
  | 13 => ("RammedCobblesModel", "heapOf", "[I", true)
  | 14 => ("RammedCobblesModel", "asks", "I", false)
  | 15 => ("RammedCobblesModel", "pageLength", "I", false)
  | 16 => ("RammedCobblesModel", "page", "[B", true)
  | 17 => ("RammedCobblesModel", "isKept", "Z", false)
  | 18 => ("RammedCobblesModel", "keptStreet", "I", false)
  | 19 => ("RammedCobblesModel", "keptSeed", "J", false)
  | 20 => ("RammedCobblesModel", "keptOf", "[I", true)
  | 21 => ("RammedCobblesModel", "savedSeed", "J", false)
  | 22 => ("RammedCobblesModel", "savedOf", "[I", true)
  | 23 => ("RammedCobblesModel", "faultAt", "I", false)
  | 24 => ("RammedCobblesModel", "isWhole", "Z", false)
  | 25 => ("RammedCobblesModel", "newRows", "I", false)
  | 26 => ("RammedCobblesModel", "newColumns", "I", false)
  | 27 => ("RammedCobblesModel", "newHere", "I", false)
  | 28 => ("RammedCobblesModel", "wantsSize", "Z", false)
  | 29 => ("RammedCobblesModel", "newKind", "[I", true)
  | 30 => ("RammedCobblesModel", "newSize", "[I", true)
  | 31 => ("RammedCobblesModel", "newCarts", "I", false)
  | 32 => ("RammedCobblesModel", "newRow", "[I", true)
  | 33 => ("RammedCobblesModel", "newLoad", "[I", true)
  | 34 => ("RammedCobblesModel", "wear", "[I", true)
  | 35 => ("RammedCobblesModel", "level", "[I", true)
  | 36 => ("RammedCobblesModel", "holdThen", "[I", true)
  | 37 => ("RammedCobblesModel", "mendMany", "I", false)
  | 38 => ("RammedCobblesModel", "mendCell", "[I", true)
  | _ => ("RammedCobblesModel", "h", "J", false)
def tyX12 : Nat → FieldType := fun k => match k with
  | 0 => .int
  | 1 => .int
  | 2 => .int
  | 3 => .array .int
  | 4 => .array .int
  | 5 => .array .int
  | 6 => .array .int
  | 7 => .array .int
  | 8 => .long
  | 9 => .int
  | 10 => .array .int
  | 11 => .array .int
  | 12 => .int
  | 13 => .array .int
  | 14 => .int
  | 15 => .int
  | 16 => .array .byte
  | 17 => .boolean
  | 18 => .int
  | 19 => .long
  | 20 => .array .int
  | 21 => .long
  | 22 => .array .int
  | 23 => .int
  | 24 => .boolean
  | 25 => .int
  | 26 => .int
  | 27 => .int
  | 28 => .boolean
  | 29 => .array .int
  | 30 => .array .int
  | 31 => .int
  | 32 => .array .int
  | 33 => .array .int
  | 34 => .array .int
  | 35 => .array .int
  | 36 => .array .int
  | 37 => .int
  | 38 => .array .int
  | _ => .long
theorem nmX12 : ∀ a, a < 40 → ∀ b, b < 40 → a ≠ b → (TX12 a).2.1 ≠ (TX12 b).2.1 := by decide +kernel
theorem tyX12_ok : ∀ k, k < 40 → parseFieldDescriptor (TX12 k).2.2.1 = some (tyX12 k) := by decide +kernel
abbrev cX12_init : ByteArray := prog_14_method_1_code
def yX12_init : MethodName := ⟨RX12, "<init>", "()V"⟩
abbrev cX12_within : ByteArray := prog_14_method_3_code
def yX12_within : MethodName := ⟨RX12, "within", "(III)Z"⟩
abbrev cX12_atLeast : ByteArray := prog_14_method_4_code
def yX12_atLeast : MethodName := ⟨RX12, "atLeast", "(I)I"⟩
abbrev cX12_letters : ByteArray := prog_14_method_5_code
def yX12_letters : MethodName := ⟨RX12, "letters", "(J)I"⟩
abbrev cX12_blank : ByteArray := prog_14_method_6_code
def yX12_blank : MethodName := ⟨RX12, "blank", "()I"⟩
abbrev cX12_isDigit : ByteArray := prog_14_method_7_code
def yX12_isDigit : MethodName := ⟨RX12, "isDigit", "(I)Z"⟩
abbrev cX12_kindBy : ByteArray := prog_14_method_8_code
def yX12_kindBy : MethodName := ⟨RX12, "kindBy", "(I)I"⟩
abbrev cX12_takeStreet : ByteArray := prog_14_method_9_code
def yX12_takeStreet : MethodName := ⟨RX12, "takeStreet", "(I)Z"⟩
abbrev cX12_readStreet : ByteArray := prog_14_method_10_code
def yX12_readStreet : MethodName := ⟨RX12, "readStreet", "()V"⟩
abbrev cX12_nextCart : ByteArray := prog_14_method_11_code
def yX12_nextCart : MethodName := ⟨RX12, "nextCart", "(II)I"⟩
abbrev cX12_readCarts : ByteArray := prog_14_method_12_code
def yX12_readCarts : MethodName := ⟨RX12, "readCarts", "()V"⟩
abbrev cX12_fault : ByteArray := prog_14_method_13_code
def yX12_fault : MethodName := ⟨RX12, "fault", "(I)I"⟩
abbrev cX12_street : ByteArray := prog_14_method_14_code
def yX12_street : MethodName := ⟨RX12, "street", "()I"⟩
abbrev cX12_carts : ByteArray := prog_14_method_15_code
def yX12_carts : MethodName := ⟨RX12, "carts", "()I"⟩
abbrev cX12_cartNow : ByteArray := prog_14_method_16_code
def yX12_cartNow : MethodName := ⟨RX12, "cartNow", "(II)I"⟩
abbrev cX12_cart : ByteArray := prog_14_method_17_code
def yX12_cart : MethodName := ⟨RX12, "cart", "(II)I"⟩
abbrev cX12_cells : ByteArray := prog_14_method_18_code
def yX12_cells : MethodName := ⟨RX12, "cells", "()I"⟩
abbrev cX12_isCell : ByteArray := prog_14_method_19_code
def yX12_isCell : MethodName := ⟨RX12, "isCell", "(I)Z"⟩
abbrev cX12_isStone : ByteArray := prog_14_method_20_code
def yX12_isStone : MethodName := ⟨RX12, "isStone", "(I)Z"⟩
abbrev cX12_beside : ByteArray := prog_14_method_21_code
def yX12_beside : MethodName := ⟨RX12, "beside", "(II)I"⟩
abbrev cX12_grip : ByteArray := prog_14_method_22_code
def yX12_grip : MethodName := ⟨RX12, "grip", "(I)I"⟩
abbrev cX12_hold : ByteArray := prog_14_method_23_code
def yX12_hold : MethodName := ⟨RX12, "hold", "(I)I"⟩
abbrev cX12_cellNow : ByteArray := prog_14_method_24_code
def yX12_cellNow : MethodName := ⟨RX12, "cellNow", "(II)I"⟩
abbrev cX12_cell : ByteArray := prog_14_method_25_code
def yX12_cell : MethodName := ⟨RX12, "cell", "(II)I"⟩
abbrev cX12_as : ByteArray := prog_14_method_26_code
def yX12_as : MethodName := ⟨RX12, "as", "(II)I"⟩
abbrev cX12_stoneMany : ByteArray := prog_14_method_27_code
def yX12_stoneMany : MethodName := ⟨RX12, "stoneMany", "()I"⟩
abbrev cX12_set : ByteArray := prog_14_method_28_code
def yX12_set : MethodName := ⟨RX12, "set", "(I)I"⟩
abbrev cX12_grit : ByteArray := prog_14_method_29_code
def yX12_grit : MethodName := ⟨RX12, "grit", "(I)I"⟩
abbrev cX12_isWeight : ByteArray := prog_14_method_30_code
def yX12_isWeight : MethodName := ⟨RX12, "isWeight", "(I)Z"⟩
abbrev cX12_sinks : ByteArray := prog_14_method_31_code
def yX12_sinks : MethodName := ⟨RX12, "sinks", "(II)I"⟩
abbrev cX12_goBlow : ByteArray := prog_14_method_32_code
def yX12_goBlow : MethodName := ⟨RX12, "goBlow", "(II)I"⟩
abbrev cX12_blow : ByteArray := prog_14_method_33_code
def yX12_blow : MethodName := ⟨RX12, "blow", "(II)I"⟩
abbrev cX12_byOrder : ByteArray := prog_14_method_34_code
def yX12_byOrder : MethodName := ⟨RX12, "byOrder", "(II)I"⟩
abbrev cX12_goRounds : ByteArray := prog_14_method_35_code
def yX12_goRounds : MethodName := ⟨RX12, "goRounds", "(III)I"⟩
abbrev cX12_isOrder : ByteArray := prog_14_method_36_code
def yX12_isOrder : MethodName := ⟨RX12, "isOrder", "(I)Z"⟩
abbrev cX12_ram : ByteArray := prog_14_method_37_code
def yX12_ram : MethodName := ⟨RX12, "ram", "(III)I"⟩
abbrev cX12_ringing : ByteArray := prog_14_method_38_code
def yX12_ringing : MethodName := ⟨RX12, "ringing", "(I)I"⟩
abbrev cX12_rings : ByteArray := prog_14_method_39_code
def yX12_rings : MethodName := ⟨RX12, "rings", "(I)I"⟩
abbrev cX12_save : ByteArray := prog_14_method_40_code
def yX12_save : MethodName := ⟨RX12, "save", "()V"⟩
abbrev cX12_back : ByteArray := prog_14_method_41_code
def yX12_back : MethodName := ⟨RX12, "back", "()V"⟩
abbrev cX12_proud : ByteArray := prog_14_method_42_code
def yX12_proud : MethodName := ⟨RX12, "proud", "(IIII)I"⟩
abbrev cX12_until : ByteArray := prog_14_method_43_code
def yX12_until : MethodName := ⟨RX12, "until", "(II)I"⟩
abbrev cX12_unevenNow : ByteArray := prog_14_method_44_code
def yX12_unevenNow : MethodName := ⟨RX12, "unevenNow", "()I"⟩
abbrev cX12_uneven : ByteArray := prog_14_method_45_code
def yX12_uneven : MethodName := ⟨RX12, "uneven", "()I"⟩
abbrev cX12_evenest : ByteArray := prog_14_method_46_code
def yX12_evenest : MethodName := ⟨RX12, "evenest", "(II)I"⟩
abbrev cX12_bear : ByteArray := prog_14_method_47_code
def yX12_bear : MethodName := ⟨RX12, "bear", "(II)V"⟩
abbrev cX12_bearSecond : ByteArray := prog_14_method_48_code
def yX12_bearSecond : MethodName := ⟨RX12, "bearSecond", "(III)V"⟩
abbrev cX12_clearWear : ByteArray := prog_14_method_49_code
def yX12_clearWear : MethodName := ⟨RX12, "clearWear", "()V"⟩
abbrev cX12_isLoad : ByteArray := prog_14_method_50_code
def yX12_isLoad : MethodName := ⟨RX12, "isLoad", "(I)Z"⟩
abbrev cX12_layLoad : ByteArray := prog_14_method_51_code
def yX12_layLoad : MethodName := ⟨RX12, "layLoad", "(II)V"⟩
abbrev cX12_borne : ByteArray := prog_14_method_52_code
def yX12_borne : MethodName := ⟨RX12, "borne", "(III)I"⟩
abbrev cX12_bearer : ByteArray := prog_14_method_53_code
def yX12_bearer : MethodName := ⟨RX12, "bearer", "(II)I"⟩
abbrev cX12_isRim : ByteArray := prog_14_method_54_code
def yX12_isRim : MethodName := ⟨RX12, "isRim", "(I)Z"⟩
abbrev cX12_layWater : ByteArray := prog_14_method_55_code
def yX12_layWater : MethodName := ⟨RX12, "layWater", "()V"⟩
abbrev cX12_water : ByteArray := prog_14_method_56_code
def yX12_water : MethodName := ⟨RX12, "water", "(I)I"⟩
abbrev cX12_seed : ByteArray := prog_14_method_57_code
def yX12_seed : MethodName := ⟨RX12, "seed", "(I)I"⟩
abbrev cX12_draw : ByteArray := prog_14_method_58_code
def yX12_draw : MethodName := ⟨RX12, "draw", "()I"⟩
abbrev cX12_layWear : ByteArray := prog_14_method_59_code
def yX12_layWear : MethodName := ⟨RX12, "layWear", "()V"⟩
abbrev cX12_worsen : ByteArray := prog_14_method_60_code
def yX12_worsen : MethodName := ⟨RX12, "worsen", "(I)Z"⟩
abbrev cX12_isBesideSand : ByteArray := prog_14_method_61_code
def yX12_isBesideSand : MethodName := ⟨RX12, "isBesideSand", "(I)Z"⟩
abbrev cX12_freeze : ByteArray := prog_14_method_62_code
def yX12_freeze : MethodName := ⟨RX12, "freeze", "(II)V"⟩
abbrev cX12_goYear : ByteArray := prog_14_method_63_code
def yX12_goYear : MethodName := ⟨RX12, "goYear", "(I)I"⟩
abbrev cX12_goYears : ByteArray := prog_14_method_64_code
def yX12_goYears : MethodName := ⟨RX12, "goYears", "(II)I"⟩
abbrev cX12_isReady : ByteArray := prog_14_method_65_code
def yX12_isReady : MethodName := ⟨RX12, "isReady", "()Z"⟩
abbrev cX12_areYears : ByteArray := prog_14_method_66_code
def yX12_areYears : MethodName := ⟨RX12, "areYears", "(II)Z"⟩
abbrev cX12_years : ByteArray := prog_14_method_67_code
def yX12_years : MethodName := ⟨RX12, "years", "(II)I"⟩
abbrev cX12_wouldNow : ByteArray := prog_14_method_68_code
def yX12_wouldNow : MethodName := ⟨RX12, "wouldNow", "(II)I"⟩
abbrev cX12_would : ByteArray := prog_14_method_69_code
def yX12_would : MethodName := ⟨RX12, "would", "(II)I"⟩
abbrev cX12_canMend : ByteArray := prog_14_method_70_code
def yX12_canMend : MethodName := ⟨RX12, "canMend", "(I)Z"⟩
abbrev cX12_goMend : ByteArray := prog_14_method_71_code
def yX12_goMend : MethodName := ⟨RX12, "goMend", "(II)V"⟩
abbrev cX12_mend : ByteArray := prog_14_method_72_code
def yX12_mend : MethodName := ⟨RX12, "mend", "(II)I"⟩
abbrev cX12_layMends : ByteArray := prog_14_method_73_code
def yX12_layMends : MethodName := ⟨RX12, "layMends", "()V"⟩
abbrev cX12_ones : ByteArray := prog_14_method_74_code
def yX12_ones : MethodName := ⟨RX12, "ones", "(I)I"⟩
abbrev cX12_first : ByteArray := prog_14_method_75_code
def yX12_first : MethodName := ⟨RX12, "first", "(IIII)I"⟩
abbrev cX12_trench : ByteArray := prog_14_method_76_code
def yX12_trench : MethodName := ⟨RX12, "trench", "(III)I"⟩
abbrev cX12_heap : ByteArray := prog_14_method_77_code
def yX12_heap : MethodName := ⟨RX12, "heap", "(I)I"⟩
abbrev cX12_wide : ByteArray := prog_14_method_78_code
def yX12_wide : MethodName := ⟨RX12, "wide", "(I)I"⟩
abbrev cX12_fits : ByteArray := prog_14_method_79_code
def yX12_fits : MethodName := ⟨RX12, "fits", "(II)I"⟩
abbrev cX12_gaps : ByteArray := prog_14_method_80_code
def yX12_gaps : MethodName := ⟨RX12, "gaps", "(III)I"⟩
abbrev cX12_isRow : ByteArray := prog_14_method_81_code
def yX12_isRow : MethodName := ⟨RX12, "isRow", "(I)Z"⟩
abbrev cX12_steps : ByteArray := prog_14_method_82_code
def yX12_steps : MethodName := ⟨RX12, "steps", "(I)I"⟩
abbrev cX12_shaken : ByteArray := prog_14_method_83_code
def yX12_shaken : MethodName := ⟨RX12, "shaken", "(II)I"⟩
abbrev cX12_lowest : ByteArray := prog_14_method_84_code
def yX12_lowest : MethodName := ⟨RX12, "lowest", "(III)I"⟩
abbrev cX12_shake : ByteArray := prog_14_method_85_code
def yX12_shake : MethodName := ⟨RX12, "shake", "(III)I"⟩
abbrev cX12_worst : ByteArray := prog_14_method_86_code
def yX12_worst : MethodName := ⟨RX12, "worst", "(I)I"⟩
abbrev cX12_image : ByteArray := prog_14_method_87_code
def yX12_image : MethodName := ⟨RX12, "image", "()I"⟩
abbrev cX12_restore : ByteArray := prog_14_method_88_code
def yX12_restore : MethodName := ⟨RX12, "restore", "()I"⟩
abbrev cX12_howMany : ByteArray := prog_14_method_89_code
def yX12_howMany : MethodName := ⟨RX12, "howMany", "(I)I"⟩
abbrev cX12_count : ByteArray := prog_14_method_90_code
def yX12_count : MethodName := ⟨RX12, "count", "(I)I"⟩
abbrev cX12_mix : ByteArray := prog_14_method_91_code
def yX12_mix : MethodName := ⟨RX12, "mix", "(J)V"⟩
abbrev cX12_mixStreet : ByteArray := prog_14_method_92_code
def yX12_mixStreet : MethodName := ⟨RX12, "mixStreet", "()V"⟩
abbrev cX12_digest : ByteArray := prog_14_method_93_code
def yX12_digest : MethodName := ⟨RX12, "digest", "()J"⟩
def RJ6 : String := "java/lang/Integer"
def TJ6 : u_T := fun k => match k with
  | _ => ("", "", "", false)
def tyJ6 : Nat → FieldType := fun k => match k with
  | _ => .int
theorem nmJ6 : ∀ a, a < 0 → ∀ b, b < 0 → a ≠ b → (TJ6 a).2.1 ≠ (TJ6 b).2.1 := by decide +kernel
theorem tyJ6_ok : ∀ k, k < 0 → parseFieldDescriptor (TJ6 k).2.2.1 = some (tyJ6 k) := by decide +kernel
abbrev cJ6_numberOfTrailingZeros_0f7a4 : ByteArray := prog_15_method_48_code
def yJ6_numberOfTrailingZeros_0f7a4 : MethodName := ⟨RJ6, "numberOfTrailingZeros", "(I)I"⟩
abbrev cJ6_bitCount_0f7a4 : ByteArray := prog_15_method_49_code
def yJ6_bitCount_0f7a4 : MethodName := ⟨RJ6, "bitCount", "(I)I"⟩
def RJ9 : String := "java/lang/Math"
def TJ9 : u_T := fun k => match k with
  | _ => ("", "", "", false)
def tyJ9 : Nat → FieldType := fun k => match k with
  | _ => .int
theorem nmJ9 : ∀ a, a < 0 → ∀ b, b < 0 → a ≠ b → (TJ9 a).2.1 ≠ (TJ9 b).2.1 := by decide +kernel
theorem tyJ9_ok : ∀ k, k < 0 → parseFieldDescriptor (TJ9 k).2.2.1 = some (tyJ9 k) := by decide +kernel
abbrev cJ9_abs_0f7a4 : ByteArray := prog_16_method_59_code
def yJ9_abs_0f7a4 : MethodName := ⟨RJ9, "abs", "(I)I"⟩
abbrev cJ9_max_7cf53 : ByteArray := prog_16_method_65_code
def yJ9_max_7cf53 : MethodName := ⟨RJ9, "max", "(II)I"⟩
abbrev cJ9_min_7cf53 : ByteArray := prog_16_method_69_code
def yJ9_min_7cf53 : MethodName := ⟨RJ9, "min", "(II)I"⟩
def RL : String := "RammedCobblesLaw"
abbrev cL_law : ByteArray := code
def yL_law : MethodName := ⟨RL, "law", "([I)Z"⟩
abbrev vwCl : List vw_C := [(RX0, TX0, 4), (RX1, TX1, 5), (RX2, TX2, 3), (RX3, TX3, 2), (RX4, TX4, 5), (RX5, TX5, 2), (RX7, TX7, 8), (RX8, TX8, 7), (RX9, TX9, 2), (RX10, TX10, 4), (RX11, TX11, 17), (RX12, TX12, 40)]
end
section
/-! BASE: a method's walk said of handles: a world of fixed cells whose ints and longs alone change -/
abbrev Mm : Type := (Nat → Nat → Int32) × (Nat → Nat → Int64)
abbrev Ce : Type := (Nat × Nat) ⊕ (Nat × List Nat)
abbrev Sh : Type := List Ce
abbrev Rr : Type := Option (Int32 ⊕ Int64)
/-- a row of ints anew -/
def setA (M : Mm) (h : Nat) (f : Nat → Int32) : Mm := (fun h' => if h' = h then f else M.1 h', M.2)
def setL (M : Mm) (h k : Nat) (v : Int64) : Mm := (M.1, fun h' k' => if h' = h ∧ k' = k then v else M.2 h' k')
def tr (ad : Nat → Nat) (v : Value) : Value := match v with
  | .ref h => .ref (ad h)
  | v => v
def rV (r : Rr) : Option Value := match r with
  | none => none
  | some (.inl x) => some (.int x)
  | some (.inr x) => some (.long x)
def slV (ad : Nat → Nat) (M : Mm) (h k kd : Nat) : Value := match kd with
  | 0 => .int (M.1 h k)
  | 1 => .long (M.2 h k)
  | h' + 2 => .ref (ad h')
def cW (cA : Nat → ClassId) (ad : Nat → Nat) (M : Mm) (h : Nat) (g : Ce) : va_E := match g with
  | .inl (t, n) => .inl (cA t, n, .inl (M.1 h))
  | .inr (ci, ks) => .inr (ci, ks.mapIdx (fun k kd => slV ad M h k kd))
def wW (G : Sh) (cA : Nat → ClassId) (ad : Nat → Nat) (M : Mm) : va_W := G.mapIdx (fun h g => (ad h, cW cA ad M h g))
def tysA (cA : Nat → ClassId) : List (ClassId × FieldType) := [(cA 0, .int), (cA 1, .boolean), (cA 2, .byte)]
theorem tr_cat (ad : Nat → Nat) (v : Value) : (tr ad v).category = v.category := by cases v <;> rfl
theorem wW_at {G : Sh} {cA : Nat → ClassId} {ad : Nat → Nat} {M : Mm} {h : Nat} {g : Ce} (hg : G[h]? = some g) : (wW G cA ad M)[h]? = some (ad h, cW cA ad M h g) := by
  unfold wW
  rw [List.getElem?_mapIdx, hg]
  rfl
theorem cW_setA_ne {cA : Nat → ClassId} {ad : Nat → Nat} {M : Mm} {h h' : Nat} {f : Nat → Int32} {g : Ce} (hn : h' ≠ h) : cW cA ad (setA M h f) h' g = cW cA ad M h' g := by
  rcases g with ⟨t, n⟩ | ⟨ci, ks⟩
  · simp [cW, setA, hn]
  · simp only [cW]
    congr 3
    funext k kd
    unfold slV
    split <;> simp [setA, hn]
theorem cW_setL_ne {cA : Nat → ClassId} {ad : Nat → Nat} {M : Mm} {h k h' : Nat} {v : Int64} {g : Ce} (hn : h' ≠ h) : cW cA ad (setL M h k v) h' g = cW cA ad M h' g := by
  rcases g with ⟨t, n⟩ | ⟨ci, ks⟩
  · simp [cW, setL]
  · simp only [cW]
    congr 3
    funext k' kd
    unfold slV
    split <;> simp [setL, hn]
theorem wW_set {G : Sh} {cA : Nat → ClassId} {ad : Nat → Nat} {M M' : Mm} {h : Nat} {g : Ce} {en : va_E} (hg : G[h]? = some g) (hn : ∀ h' g', h' ≠ h → cW cA ad M' h' g' = cW cA ad M h' g') (he : en = cW cA ad M' h g) : (wW G cA ad M).set h (ad h, en) = wW G cA ad M' := by
  subst he
  apply List.ext_getElem?
  intro i
  have hl : h < (wW G cA ad M).length := by
    have := (List.getElem?_eq_some_iff.mp hg).1
    simpa [wW] using this
  by_cases hi : i = h
  · subst hi
    rw [List.getElem?_set_self hl, wW_at hg]
  · rw [List.getElem?_set_ne (Ne.symm hi)]
    unfold wW
    rw [List.getElem?_mapIdx, List.getElem?_mapIdx]
    cases hgi : G[i]? with
    | none => rfl
    | some g' => simp [hn i g' hi]
theorem fs_at {ks : List Nat} {ad : Nat → Nat} {M : Mm} {h k kd : Nat} (hk : ks[k]? = some kd) : (ks.mapIdx (fun k kd => slV ad M h k kd))[k]? = some (slV ad M h k kd) := by
  rw [List.getElem?_mapIdx, hk]
  rfl
theorem fs_setA {ks : List Nat} {ad : Nat → Nat} {M : Mm} {h k : Nat} {v : Int32} (hk : ks[k]? = some 0) : (ks.mapIdx (fun k kd => slV ad M h k kd)).set k (.int v) = ks.mapIdx (fun j kd => slV ad (setA M h (upd (M.1 h) k v)) h j kd) := by
  apply List.ext_getElem?
  intro i
  have hl : k < (ks.mapIdx (fun k kd => slV ad M h k kd)).length := by
    have := (List.getElem?_eq_some_iff.mp hk).1
    simpa using this
  by_cases hi : i = k
  · subst hi
    rw [List.getElem?_set_self hl, List.getElem?_mapIdx, hk]
    simp [slV, setA, upd]
  · rw [List.getElem?_set_ne (Ne.symm hi), List.getElem?_mapIdx, List.getElem?_mapIdx]
    cases ks[i]? with
    | none => rfl
    | some kd =>
      simp only [Option.map_some]
      congr 1
      unfold slV
      split <;> simp [setA, upd, hi]
theorem fs_setL {ks : List Nat} {ad : Nat → Nat} {M : Mm} {h k : Nat} {v : Int64} (hk : ks[k]? = some 1) : (ks.mapIdx (fun k kd => slV ad M h k kd)).set k (.long v) = ks.mapIdx (fun j kd => slV ad (setL M h k v) h j kd) := by
  apply List.ext_getElem?
  intro i
  have hl : k < (ks.mapIdx (fun k kd => slV ad M h k kd)).length := by
    have := (List.getElem?_eq_some_iff.mp hk).1
    simpa using this
  by_cases hi : i = k
  · subst hi
    rw [List.getElem?_set_self hl, List.getElem?_mapIdx, hk]
    simp [slV, setL]
  · rw [List.getElem?_set_ne (Ne.symm hi), List.getElem?_mapIdx, List.getElem?_mapIdx]
    cases ks[i]? with
    | none => rfl
    | some kd =>
      simp only [Option.map_some]
      congr 1
      unfold slV
      split <;> simp [setL, hi]
/-! locals: a value a slot; null where nothing is known -/
def asl (ad : Nat → Nat) (lv : List Value) : List (Nat × Value) := lv.zipIdx.filterMap (fun q => if q.1 = .null then none else some (q.2, tr ad q.1))
theorem asl_mem {ad : Nat → Nat} {lv : List Value} {q : Nat × Value} : q ∈ asl ad lv ↔ ∃ v, lv[q.1]? = some v ∧ v ≠ .null ∧ q.2 = tr ad v := by
  unfold asl
  rw [List.mem_filterMap]
  constructor
  · rintro ⟨⟨v, i⟩, h1, h2⟩
    rw [List.mem_zipIdx_iff_getElem?] at h1
    by_cases hv : v = .null
    · simp [hv] at h2
    · simp only [hv, if_false, Option.some.injEq] at h2
      subst h2
      exact ⟨v, h1, hv, rfl⟩
  · rintro ⟨v, h1, h2, h3⟩
    refine ⟨(v, q.1), ?_, ?_⟩
    · rw [List.mem_zipIdx_iff_getElem?]; exact h1
    · simp only [h2, if_false, h3.symm]
theorem lv_get {ad : Nat → Nat} {ls : Array Slot} {nL : Nat} {lv : List Value} {i : Nat} {v : Value} (h : lv_has ls nL (asl ad lv)) (hi : lv[i]? = some v) (hn : v ≠ .null) : ls[i]? = some (.val (tr ad v)) := h.2.2 (i, tr ad v) (asl_mem.mpr ⟨v, hi, hn, rfl⟩)
theorem lv_put1 {ad : Nat → Nat} {ls : Array Slot} {nL : Nat} {lv : List Value} {i : Nat} {v : Value} (hp : ∀ u, 0 < i → lv[i - 1]? = some u → u.category = 1) (h : lv_has ls nL ((i, tr ad v) :: (asl ad lv).filter (fun q => !(q.1 == i) && !(q.1 + 1 == i && q.2.category == 2)))) : lv_has ls nL (asl ad (lv.set i v)) := by
  refine ⟨h.1, h.2.1, fun q hq => h.2.2 q ?_⟩
  obtain ⟨u, h1, h2, h3⟩ := asl_mem.mp hq
  obtain ⟨j, w⟩ := q
  dsimp only at h1 h3
  subst h3
  by_cases hj : j = i
  · subst hj
    have hl : j < lv.length := by simpa using (List.getElem?_eq_some_iff.mp h1).1
    rw [List.getElem?_set_self hl] at h1
    cases h1
    exact List.mem_cons_self
  · rw [List.getElem?_set_ne (Ne.symm hj)] at h1
    refine List.mem_cons_of_mem _ (List.mem_filter.mpr ⟨asl_mem.mpr ⟨u, h1, h2, rfl⟩, ?_⟩)
    simp only [Bool.and_eq_true, Bool.not_eq_true', beq_eq_false_iff_ne, Bool.and_eq_false_iff]
    refine ⟨hj, ?_⟩
    by_cases hk : j + 1 = i
    · right
      rw [tr_cat, hp u (by omega) (by rw [← hk]; exact h1)]
      decide
    · left; exact hk
theorem lv_put2 {ad : Nat → Nat} {ls : Array Slot} {nL : Nat} {lv : List Value} {i : Nat} {v : Value} (hp : ∀ u, 0 < i → lv[i - 1]? = some u → u.category = 1) (h : lv_has ls nL ((i, tr ad v) :: (asl ad lv).filter (fun q => !(q.1 == i) && (!(q.1 == i + 1) && !(q.1 + 1 == i && q.2.category == 2))))) : lv_has ls nL (asl ad ((lv.set i v).set (i + 1) .null)) := by
  refine ⟨h.1, h.2.1, fun q hq => h.2.2 q ?_⟩
  obtain ⟨u, h1, h2, h3⟩ := asl_mem.mp hq
  obtain ⟨j, w⟩ := q
  dsimp only at h1 h3
  subst h3
  by_cases hj2 : j = i + 1
  · subst hj2
    rw [List.getElem?_set] at h1
    split at h1
    · split at h1
      · cases h1; exact absurd rfl h2
      · cases h1
    · omega
  · rw [List.getElem?_set_ne (Ne.symm hj2)] at h1
    by_cases hj : j = i
    · subst hj
      have hl : j < lv.length := by simpa using (List.getElem?_eq_some_iff.mp h1).1
      rw [List.getElem?_set_self hl] at h1
      cases h1
      exact List.mem_cons_self
    · rw [List.getElem?_set_ne (Ne.symm hj)] at h1
      refine List.mem_cons_of_mem _ (List.mem_filter.mpr ⟨asl_mem.mpr ⟨u, h1, h2, rfl⟩, ?_⟩)
      simp only [Bool.and_eq_true, Bool.not_eq_true', beq_eq_false_iff_ne, Bool.and_eq_false_iff]
      refine ⟨hj, hj2, ?_⟩
      by_cases hk : j + 1 = i
      · right
        rw [tr_cat, hp u (by omega) (by rw [← hk]; exact h1)]
        decide
      · left; exact hk
/-- the locals at a method's entry -/
def entL : List Value → List Value
  | [] => []
  | v :: vs => if v.category = 2 then v :: .null :: entL vs else v :: entL vs
def lv0 (av : List Value) (n : Nat) : List Value := entL av ++ List.replicate (n - (entL av).length) .null
theorem ent_args (ad : Nat → Nat) : ∀ (av : List Value) (i j : Nat) (v : Value), (entL av)[j]? = some v → v ≠ .null → (i + j, tr ad v) ∈ lv_args i (av.map (tr ad))
  | [], i, j, v, h, _ => by simp [entL] at h
  | a :: av, i, j, v, h, hn => by
    simp only [List.map_cons, lv_args, tr_cat]
    unfold entL at h
    by_cases hc : a.category = 2
    · rw [if_pos hc] at h
      rw [if_pos hc]
      match j, h with
      | 0, h =>
        simp only [List.getElem?_cons_zero, Option.some.injEq] at h
        subst h
        exact List.mem_cons_self
      | 1, h =>
        simp only [List.getElem?_cons_succ, List.getElem?_cons_zero, Option.some.injEq] at h
        exact absurd h.symm hn
      | j + 2, h =>
        simp only [List.getElem?_cons_succ] at h
        have := ent_args ad av (i + 2) j v h hn
        rw [show i + (j + 2) = i + 2 + j by omega]
        exact List.mem_cons_of_mem _ this
    · rw [if_neg hc] at h
      rw [if_neg hc]
      match j, h with
      | 0, h =>
        simp only [List.getElem?_cons_zero, Option.some.injEq] at h
        subst h
        exact List.mem_cons_self
      | j + 1, h =>
        simp only [List.getElem?_cons_succ] at h
        have := ent_args ad av (i + 1) j v h hn
        rw [show i + (j + 1) = i + 1 + j by omega]
        exact List.mem_cons_of_mem _ this
theorem lv0_has {ad : Nat → Nat} {av : List Value} {n nL : Nat} {ls : Array Slot} (h : lv_has ls nL (lv_args 0 (av.map (tr ad)))) : lv_has ls nL (asl ad (lv0 av n)) := by
  refine ⟨h.1, h.2.1, fun q hq => h.2.2 q ?_⟩
  obtain ⟨u, h1, h2, h3⟩ := asl_mem.mp hq
  obtain ⟨j, w⟩ := q
  dsimp only at h1 h3
  subst h3
  unfold lv0 at h1
  by_cases hl : j < (entL av).length
  · rw [List.getElem?_append_left hl] at h1
    have := ent_args ad av 0 j u h1 h2
    rwa [Nat.zero_add] at this
  · rw [List.getElem?_append_right (by omega)] at h1
    rw [List.getElem?_replicate] at h1
    split at h1
    · cases h1; exact absurd rfl h2
    · cases h1
theorem entL_len (ad : Nat → Nat) : ∀ av : List Value, (lg_sl (av.map (tr ad))).length = (entL av).length
  | [] => rfl
  | a :: av => by
    have ih := entL_len ad av
    simp only [lg_sl, List.map_cons, List.flatMap_cons, List.length_append, tr_cat] at ih ⊢
    unfold entL
    by_cases hc : a.category = 2
    · simp only [hc, if_true, List.length_cons, List.length_nil]
      omega
    · simp only [hc, if_false, List.length_cons, List.length_nil]
      omega
/-! a method: its name, bytes, locals, answer, and the frames and locals' words that its calls need -/
abbrev MI : Type := MethodName × ByteArray × Nat × Option FieldType × Nat × Nat
abbrev mNm (a : MI) : MethodName := a.1
abbrev mBy (a : MI) : ByteArray := a.2.1
abbrev mMx (a : MI) : Nat := a.2.2.1
abbrev mRt (a : MI) : Option FieldType := a.2.2.2.1
abbrev mFr (a : MI) : Nat := a.2.2.2.2.1
abbrev mLo (a : MI) : Nat := a.2.2.2.2.2
def mRm (a : MI) : Room := { frames := mFr a, cells := 0, slots := 0, locals := mLo a }
def isNM (w : Cond) : Bool := match w with
  | .methodLinkNest _ _ _ _ => true
  | _ => false
def wTb : List Cond := lw_tbl.filter (fun w => goodWord w || isNM w)
theorem wT_of {w : Cond} (h : w ∈ wTb) : w ∈ lw_tbl := (List.mem_filter.mp h).1
theorem wT_in {w : Cond} (h : w ∈ lw_tbl) (hg : (goodWord w || isNM w) = true) : w ∈ wTb := List.mem_filter.mpr ⟨h, hg⟩
theorem wT_warm {args : Array Value} {s : State} (hts : ∀ w ∈ wTb, w.before args s = true) : ∀ w ∈ wTb, ∀ (a' : Array Value) (U : State), s.WarmedH U.vm → w.before a' U = true := by
  intro w hw a' U hW
  have h := (List.mem_filter.mp hw).2
  rw [Bool.or_eq_true] at h
  rcases h with h | h
  · exact word_at hW (good_of_word h) (hts w hw)
  · cases w with
    | methodLinkNest a i x b =>
      have h1 : va_Nw (.methodLinkNest a i x b) s := va_Nw.of rfl (hts _ hw)
      exact va_Nw.use rfl (va_Nw.warmM hW h1)
    | _ => cases h
def mWs (a : MI) : List Cond := Cond.code (mNm a) (mBy a) (mMx a) (mRt a) :: wTb
/-- behind a method: its answer, the ints and longs of its world -/
def QQ (G : Sh) (dC : Nat → ClassId) (dI : Nat → Nat → Nat) (cA : Nat → ClassId) (ad : Nat → Nat) (A : Nat → Prop) (Q : Rr → Mm → Prop) : Array Value → State → Outcome → State → Prop := fun _ st oc t =>
  (∃ (r : Rr) (M' : Mm), oc = .returned (rV r) ∧ Q r M' ∧ va_P (dC, dI) vwCl (wW G cA ad M') t.heap ∧ va_K (dC, dI) vwCl (tysA cA) t ∧ va_D A (wW G cA ad M')) ∧ va_F A st t
def PP (G : Sh) (dC : Nat → ClassId) (dI : Nat → Nat → Nat) (cA : Nat → ClassId) (ad : Nat → Nat) (M : Mm) (sz : Nat) : State → Prop := fun U =>
  U.heap.size = sz ∧ va_P (dC, dI) vwCl (wW G cA ad M) U.heap ∧ va_K (dC, dI) vwCl (tysA cA) U ∧ va_D (fun _ => True) (wW G cA ad M)
/-- a method's contract: from this world with these answers it ends so -/
def Ok (G : Sh) (l : Launch) (mi : MI) (av : List Value) (M : Mm) (Q : Rr → Mm → Prop) : Prop :=
  ∀ (dC : Nat → ClassId) (dI : Nat → Nat → Nat) (cA : Nat → ClassId) (ad : Nat → Nat) (sz : Nat),
    Met l (mNm mi) (mWs mi) (mRm mi) (va_Pc (av.map (tr ad)) (PP G dC dI cA ad M sz)) (QQ G dC dI cA ad (va_A (wW G cA ad M) sz) Q) 0 0 (va_A (wW G cA ad M) sz)
def Cx (mi : MI) (p : Program) (s : State) (m : MethodId) (args : Array Value) (meth : Method) (c : Code) (dC : Nat → ClassId) (dI : Nat → Nat → Nat) (cA : Nat → ClassId) (A : Nat → Prop) : Prop :=
  p.tables.exec = Jvm.exec ∧ c.code = mBy mi ∧ meth.sig.returnType = mRt mi ∧ c.maxLocals = mMx mi ∧ s.vm.findClass (mNm mi).cls = some m.cls ∧ (∀ w ∈ wTb, w.before args s = true) ∧ meth.locks = false ∧ (∀ q : Nat, s.heap.size ≤ q → A q) ∧ va_K (dC, dI) vwCl (tysA cA) s
def Wo (G : Sh) (dC : Nat → ClassId) (dI : Nat → Nat → Nat) (cA : Nat → ClassId) (ad : Nat → Nat) (A : Nat → Prop) (M : Mm) (H0 H : Heap) (locs : List Loc) : Prop :=
  va_P (dC, dI) vwCl (wW G cA ad M) H ∧ va_D A (wW G cA ad M) ∧ va_S A H0 H locs
/-- from here, with these locals, this stack, this memory, the method ends with Q -/
def Go (G : Sh) (l : Launch) (mi : MI) (pc : Nat) (lv st : List Value) (M : Mm) (Q : Rr → Mm → Prop) : Prop :=
  ∀ (p : Program) (e : Env) (s : State) (m : MethodId) (args : Array Value) (below : List Frame) (meth : Method) (c : Code) (dC : Nat → ClassId) (dI : Nat → Nat → Nat) (cA : Nat → ClassId) (ad : Nat → Nat) (A : Nat → Prop) (H : Heap) (locs : List Loc) (ls : Array Slot),
    Cx mi p s m args meth c dC dI cA A → Wo G dC dI cA ad A M s.heap H locs → lv_has ls (mMx mi) (asl ad lv) →
    W p l e (mRm mi) s m args below meth c H locs 0 0 (MQ below (QQ G dC dI cA ad A Q) args s 0 0 A) (F0 m pc ls (st.map (tr ad)))
theorem ok_of {G : Sh} {l : Launch} {mi : MI} {av : List Value} {M : Mm} {Q : Rr → Mm → Prop} {lv : List Value} (hpl : plainName (mNm mi).cls = true) (hle : Nat.ble (entL av).length (mMx mi) = true) (hlv : lv0 av (mMx mi) = lv) (k : Go G l mi 0 lv [] M Q) : Ok G l mi av M Q := by
  intro dC dI cA ad sz
  refine Met.ofW (cc := mBy mi) (maxL := mMx mi) (ret := mRt mi) (ws' := wTb) hpl rfl ?_
  intro p e s m args below meth c s₁ B hml hv
  obtain ⟨rfl, hsz, hP, hK, hD0⟩ := hv
  have hts := atoms_spec (ws := mWs mi) B.pre
  have hown : s.vm.findClass (mNm mi).cls = some m.cls := findClass_of_methodNamed B.named
  subst hsz
  have hD := hD0.self (sz := s.heap.size)
  have hl := lv_entry (av.map (tr ad)) (n := mMx mi) (by rw [entL_len]; exact Nat.le_of_ble_eq_true hle)
  rw [lg_entry_eq]
  have hl2 := lv0_has (n := mMx mi) hl
  rw [hlv] at hl2
  exact k p e s m _ below meth c dC dI cA ad _ s.heap [] _ ⟨B.exec, B.bytes, B.returns, hml, hown, fun w hw => hts w (List.mem_cons_of_mem _ hw), B.notSynchronized, fun q h => Or.inr h, hK⟩ ⟨hP, hD, va_S.rf⟩ hl2
end
section
theorem g_iadd {G : Sh} {l : Launch} {mi : MI} {pc : Nat} {lv st : List Value} {M : Mm} {Q : Rr → Mm → Prop} {x y : Int32} (n : Nat) (hn : pc + 1 = n) (hd : decode (mBy mi) pc = .ok (.iadd, 1)) (k : Go G l mi n lv (.int (x + y) :: st) M Q) : Go G l mi pc lv (.int y :: .int x :: st) M Q := by
  intro p e s m args below meth c dC dI cA ad A H locs ls hC hW hL
  subst hn
  exact lv_iadd hC.1 hC.2.1 hd (k p e s m args below meth c dC dI cA ad A H locs ls hC hW hL)
theorem g_isub {G : Sh} {l : Launch} {mi : MI} {pc : Nat} {lv st : List Value} {M : Mm} {Q : Rr → Mm → Prop} {x y : Int32} (n : Nat) (hn : pc + 1 = n) (hd : decode (mBy mi) pc = .ok (.isub, 1)) (k : Go G l mi n lv (.int (x - y) :: st) M Q) : Go G l mi pc lv (.int y :: .int x :: st) M Q := by
  intro p e s m args below meth c dC dI cA ad A H locs ls hC hW hL
  subst hn
  exact lv_isub hC.1 hC.2.1 hd (k p e s m args below meth c dC dI cA ad A H locs ls hC hW hL)
theorem g_imul {G : Sh} {l : Launch} {mi : MI} {pc : Nat} {lv st : List Value} {M : Mm} {Q : Rr → Mm → Prop} {x y : Int32} (n : Nat) (hn : pc + 1 = n) (hd : decode (mBy mi) pc = .ok (.imul, 1)) (k : Go G l mi n lv (.int (x * y) :: st) M Q) : Go G l mi pc lv (.int y :: .int x :: st) M Q := by
  intro p e s m args below meth c dC dI cA ad A H locs ls hC hW hL
  subst hn
  exact lv_imul hC.1 hC.2.1 hd (k p e s m args below meth c dC dI cA ad A H locs ls hC hW hL)
theorem g_iand {G : Sh} {l : Launch} {mi : MI} {pc : Nat} {lv st : List Value} {M : Mm} {Q : Rr → Mm → Prop} {x y : Int32} (n : Nat) (hn : pc + 1 = n) (hd : decode (mBy mi) pc = .ok (.iand, 1)) (k : Go G l mi n lv (.int (x &&& y) :: st) M Q) : Go G l mi pc lv (.int y :: .int x :: st) M Q := by
  intro p e s m args below meth c dC dI cA ad A H locs ls hC hW hL
  subst hn
  exact lv_iand hC.1 hC.2.1 hd (k p e s m args below meth c dC dI cA ad A H locs ls hC hW hL)
theorem g_ior {G : Sh} {l : Launch} {mi : MI} {pc : Nat} {lv st : List Value} {M : Mm} {Q : Rr → Mm → Prop} {x y : Int32} (n : Nat) (hn : pc + 1 = n) (hd : decode (mBy mi) pc = .ok (.ior, 1)) (k : Go G l mi n lv (.int (x ||| y) :: st) M Q) : Go G l mi pc lv (.int y :: .int x :: st) M Q := by
  intro p e s m args below meth c dC dI cA ad A H locs ls hC hW hL
  subst hn
  exact lv_ior hC.1 hC.2.1 hd (k p e s m args below meth c dC dI cA ad A H locs ls hC hW hL)
theorem g_ishl {G : Sh} {l : Launch} {mi : MI} {pc : Nat} {lv st : List Value} {M : Mm} {Q : Rr → Mm → Prop} {x y : Int32} (n : Nat) (hn : pc + 1 = n) (hd : decode (mBy mi) pc = .ok (.ishl, 1)) (k : Go G l mi n lv (.int (x <<< (y &&& 31)) :: st) M Q) : Go G l mi pc lv (.int y :: .int x :: st) M Q := by
  intro p e s m args below meth c dC dI cA ad A H locs ls hC hW hL
  subst hn
  exact lv_ishl hC.1 hC.2.1 hd (k p e s m args below meth c dC dI cA ad A H locs ls hC hW hL)
theorem g_ishr {G : Sh} {l : Launch} {mi : MI} {pc : Nat} {lv st : List Value} {M : Mm} {Q : Rr → Mm → Prop} {x y : Int32} (n : Nat) (hn : pc + 1 = n) (hd : decode (mBy mi) pc = .ok (.ishr, 1)) (k : Go G l mi n lv (.int (x >>> (y &&& 31)) :: st) M Q) : Go G l mi pc lv (.int y :: .int x :: st) M Q := by
  intro p e s m args below meth c dC dI cA ad A H locs ls hC hW hL
  subst hn
  exact lv_ishr hC.1 hC.2.1 hd (k p e s m args below meth c dC dI cA ad A H locs ls hC hW hL)
theorem g_iushr {G : Sh} {l : Launch} {mi : MI} {pc : Nat} {lv st : List Value} {M : Mm} {Q : Rr → Mm → Prop} {x y : Int32} (n : Nat) (hn : pc + 1 = n) (hd : decode (mBy mi) pc = .ok (.iushr, 1)) (k : Go G l mi n lv (.int ((x.toUInt32 >>> (y.toUInt32 &&& Int32.toUInt32 31)).toInt32) :: st) M Q) : Go G l mi pc lv (.int y :: .int x :: st) M Q := by
  intro p e s m args below meth c dC dI cA ad A H locs ls hC hW hL
  subst hn
  exact lv_iushr hC.1 hC.2.1 hd rfl (k p e s m args below meth c dC dI cA ad A H locs ls hC hW hL)
theorem g_ineg {G : Sh} {l : Launch} {mi : MI} {pc : Nat} {lv st : List Value} {M : Mm} {Q : Rr → Mm → Prop} {x : Int32} (n : Nat) (hn : pc + 1 = n) (hd : decode (mBy mi) pc = .ok (.ineg, 1)) (k : Go G l mi n lv (.int (-x) :: st) M Q) : Go G l mi pc lv (.int x :: st) M Q := by
  intro p e s m args below meth c dC dI cA ad A H locs ls hC hW hL
  subst hn
  exact lv_ineg hC.1 hC.2.1 hd (k p e s m args below meth c dC dI cA ad A H locs ls hC hW hL)
theorem g_idiv {G : Sh} {l : Launch} {mi : MI} {pc : Nat} {lv st : List Value} {M : Mm} {Q : Rr → Mm → Prop} {x y : Int32} (n : Nat) (hn : pc + 1 = n) (hd : decode (mBy mi) pc = .ok (.idiv, 1)) (hne : ¬ y = 0) (k : Go G l mi n lv (.int (x / y) :: st) M Q) : Go G l mi pc lv (.int y :: .int x :: st) M Q := by
  intro p e s m args below meth c dC dI cA ad A H locs ls hC hW hL
  subst hn
  exact lv_idiv hC.1 hC.2.1 hd hne (k p e s m args below meth c dC dI cA ad A H locs ls hC hW hL)
theorem g_irem {G : Sh} {l : Launch} {mi : MI} {pc : Nat} {lv st : List Value} {M : Mm} {Q : Rr → Mm → Prop} {x y : Int32} (n : Nat) (hn : pc + 1 = n) (hd : decode (mBy mi) pc = .ok (.irem, 1)) (hne : ¬ y = 0) (k : Go G l mi n lv (.int (x - x / y * y) :: st) M Q) : Go G l mi pc lv (.int y :: .int x :: st) M Q := by
  intro p e s m args below meth c dC dI cA ad A H locs ls hC hW hL
  subst hn
  exact lv_irem hC.1 hC.2.1 hd hne (k p e s m args below meth c dC dI cA ad A H locs ls hC hW hL)
theorem g_ladd {G : Sh} {l : Launch} {mi : MI} {pc : Nat} {lv st : List Value} {M : Mm} {Q : Rr → Mm → Prop} {x y : Int64} (n : Nat) (hn : pc + 1 = n) (hd : decode (mBy mi) pc = .ok (.ladd, 1)) (k : Go G l mi n lv (.long (x + y) :: st) M Q) : Go G l mi pc lv (.long y :: .long x :: st) M Q := by
  intro p e s m args below meth c dC dI cA ad A H locs ls hC hW hL
  subst hn
  exact lv_ladd hC.1 hC.2.1 hd (k p e s m args below meth c dC dI cA ad A H locs ls hC hW hL)
theorem g_lmul {G : Sh} {l : Launch} {mi : MI} {pc : Nat} {lv st : List Value} {M : Mm} {Q : Rr → Mm → Prop} {x y : Int64} (n : Nat) (hn : pc + 1 = n) (hd : decode (mBy mi) pc = .ok (.lmul, 1)) (k : Go G l mi n lv (.long (x * y) :: st) M Q) : Go G l mi pc lv (.long y :: .long x :: st) M Q := by
  intro p e s m args below meth c dC dI cA ad A H locs ls hC hW hL
  subst hn
  exact lv_lmul hC.1 hC.2.1 hd (k p e s m args below meth c dC dI cA ad A H locs ls hC hW hL)
theorem g_land {G : Sh} {l : Launch} {mi : MI} {pc : Nat} {lv st : List Value} {M : Mm} {Q : Rr → Mm → Prop} {x y : Int64} (n : Nat) (hn : pc + 1 = n) (hd : decode (mBy mi) pc = .ok (.land, 1)) (k : Go G l mi n lv (.long (x &&& y) :: st) M Q) : Go G l mi pc lv (.long y :: .long x :: st) M Q := by
  intro p e s m args below meth c dC dI cA ad A H locs ls hC hW hL
  subst hn
  exact lv_land hC.1 hC.2.1 hd (k p e s m args below meth c dC dI cA ad A H locs ls hC hW hL)
theorem g_lsub {G : Sh} {l : Launch} {mi : MI} {pc : Nat} {lv st : List Value} {M : Mm} {Q : Rr → Mm → Prop} {x y : Int64} (n : Nat) (hn : pc + 1 = n) (hd : decode (mBy mi) pc = .ok (.lsub, 1)) (k : Go G l mi n lv (.long (x - y) :: st) M Q) : Go G l mi pc lv (.long y :: .long x :: st) M Q := by
  intro p e s m args below meth c dC dI cA ad A H locs ls hC hW hL
  subst hn
  exact lv_lsub hC.1 hC.2.1 hd (k p e s m args below meth c dC dI cA ad A H locs ls hC hW hL)
theorem g_lor {G : Sh} {l : Launch} {mi : MI} {pc : Nat} {lv st : List Value} {M : Mm} {Q : Rr → Mm → Prop} {x y : Int64} (n : Nat) (hn : pc + 1 = n) (hd : decode (mBy mi) pc = .ok (.lor, 1)) (k : Go G l mi n lv (.long (x ||| y) :: st) M Q) : Go G l mi pc lv (.long y :: .long x :: st) M Q := by
  intro p e s m args below meth c dC dI cA ad A H locs ls hC hW hL
  subst hn
  exact lv_lor hC.1 hC.2.1 hd (k p e s m args below meth c dC dI cA ad A H locs ls hC hW hL)
theorem g_ldiv {G : Sh} {l : Launch} {mi : MI} {pc : Nat} {lv st : List Value} {M : Mm} {Q : Rr → Mm → Prop} {x y : Int64} (n : Nat) (hn : pc + 1 = n) (hd : decode (mBy mi) pc = .ok (.ldiv, 1)) (hne : ¬ y = 0) (k : Go G l mi n lv (.long (x / y) :: st) M Q) : Go G l mi pc lv (.long y :: .long x :: st) M Q := by
  intro p e s m args below meth c dC dI cA ad A H locs ls hC hW hL
  subst hn
  exact lv_ldiv hC.1 hC.2.1 hd hne (k p e s m args below meth c dC dI cA ad A H locs ls hC hW hL)
theorem g_lrem {G : Sh} {l : Launch} {mi : MI} {pc : Nat} {lv st : List Value} {M : Mm} {Q : Rr → Mm → Prop} {x y : Int64} (n : Nat) (hn : pc + 1 = n) (hd : decode (mBy mi) pc = .ok (.lrem, 1)) (hne : ¬ y = 0) (k : Go G l mi n lv (.long (x - x / y * y) :: st) M Q) : Go G l mi pc lv (.long y :: .long x :: st) M Q := by
  intro p e s m args below meth c dC dI cA ad A H locs ls hC hW hL
  subst hn
  exact lv_lrem hC.1 hC.2.1 hd hne (k p e s m args below meth c dC dI cA ad A H locs ls hC hW hL)
theorem g_lshl {G : Sh} {l : Launch} {mi : MI} {pc : Nat} {lv st : List Value} {M : Mm} {Q : Rr → Mm → Prop} {x : Int64} {y : Int32} (n : Nat) (hn : pc + 1 = n) (hd : decode (mBy mi) pc = .ok (.lshl, 1)) (k : Go G l mi n lv (.long (x <<< (y.toInt64 &&& 63)) :: st) M Q) : Go G l mi pc lv (.int y :: .long x :: st) M Q := by
  intro p e s m args below meth c dC dI cA ad A H locs ls hC hW hL
  subst hn
  exact lv_lshl hC.1 hC.2.1 hd rfl (k p e s m args below meth c dC dI cA ad A H locs ls hC hW hL)
theorem g_lshr {G : Sh} {l : Launch} {mi : MI} {pc : Nat} {lv st : List Value} {M : Mm} {Q : Rr → Mm → Prop} {x : Int64} {y : Int32} (n : Nat) (hn : pc + 1 = n) (hd : decode (mBy mi) pc = .ok (.lshr, 1)) (k : Go G l mi n lv (.long (x >>> (y.toInt64 &&& 63)) :: st) M Q) : Go G l mi pc lv (.int y :: .long x :: st) M Q := by
  intro p e s m args below meth c dC dI cA ad A H locs ls hC hW hL
  subst hn
  exact lv_lshr hC.1 hC.2.1 hd rfl (k p e s m args below meth c dC dI cA ad A H locs ls hC hW hL)
theorem g_lushr {G : Sh} {l : Launch} {mi : MI} {pc : Nat} {lv st : List Value} {M : Mm} {Q : Rr → Mm → Prop} {x : Int64} {y : Int32} (n : Nat) (hn : pc + 1 = n) (hd : decode (mBy mi) pc = .ok (.lushr, 1)) (k : Go G l mi n lv (.long ((x.toUInt64 >>> (y.toInt64.toUInt64 &&& Int64.toUInt64 63)).toInt64) :: st) M Q) : Go G l mi pc lv (.int y :: .long x :: st) M Q := by
  intro p e s m args below meth c dC dI cA ad A H locs ls hC hW hL
  subst hn
  exact lv_lushr hC.1 hC.2.1 hd rfl (k p e s m args below meth c dC dI cA ad A H locs ls hC hW hL)
theorem g_i2l {G : Sh} {l : Launch} {mi : MI} {pc : Nat} {lv st : List Value} {M : Mm} {Q : Rr → Mm → Prop} {x : Int32} (n : Nat) (hn : pc + 1 = n) (hd : decode (mBy mi) pc = .ok (.i2l, 1)) (k : Go G l mi n lv (.long x.toInt64 :: st) M Q) : Go G l mi pc lv (.int x :: st) M Q := by
  intro p e s m args below meth c dC dI cA ad A H locs ls hC hW hL
  subst hn
  exact lv_i2l hC.1 hC.2.1 hd rfl (k p e s m args below meth c dC dI cA ad A H locs ls hC hW hL)
theorem g_l2i {G : Sh} {l : Launch} {mi : MI} {pc : Nat} {lv st : List Value} {M : Mm} {Q : Rr → Mm → Prop} {x : Int64} (n : Nat) (hn : pc + 1 = n) (hd : decode (mBy mi) pc = .ok (.l2i, 1)) (k : Go G l mi n lv (.int x.toInt32 :: st) M Q) : Go G l mi pc lv (.long x :: st) M Q := by
  intro p e s m args below meth c dC dI cA ad A H locs ls hC hW hL
  subst hn
  exact lv_l2i hC.1 hC.2.1 hd rfl (k p e s m args below meth c dC dI cA ad A H locs ls hC hW hL)
theorem g_i2b {G : Sh} {l : Launch} {mi : MI} {pc : Nat} {lv st : List Value} {M : Mm} {Q : Rr → Mm → Prop} {x : Int32} (n : Nat) (hn : pc + 1 = n) (hd : decode (mBy mi) pc = .ok (.i2b, 1)) (k : Go G l mi n lv (.int x.toInt8.toInt32 :: st) M Q) : Go G l mi pc lv (.int x :: st) M Q := by
  intro p e s m args below meth c dC dI cA ad A H locs ls hC hW hL
  subst hn
  exact lv_i2b hC.1 hC.2.1 hd rfl (k p e s m args below meth c dC dI cA ad A H locs ls hC hW hL)
theorem g_lcmp {G : Sh} {l : Launch} {mi : MI} {pc : Nat} {lv st : List Value} {M : Mm} {Q : Rr → Mm → Prop} {x y : Int64} (n : Nat) (hn : pc + 1 = n) (hd : decode (mBy mi) pc = .ok (.lcmp, 1)) (k : Go G l mi n lv (.int (lg_cmp x y) :: st) M Q) : Go G l mi pc lv (.long y :: .long x :: st) M Q := by
  intro p e s m args below meth c dC dI cA ad A H locs ls hC hW hL
  subst hn
  exact W.lcmp hC.1 hC.2.1 hd (k p e s m args below meth c dC dI cA ad A H locs ls hC hW hL)
theorem g_iconst {G : Sh} {l : Launch} {mi : MI} {pc : Nat} {lv st : List Value} {M : Mm} {Q : Rr → Mm → Prop} {a : Int} {v : Int32} (n : Nat) (hn : pc + 1 = n) (hd : decode (mBy mi) pc = .ok (.iconst a, 1)) (hv : Int32.ofInt a = v) (k : Go G l mi n lv (.int v :: st) M Q) : Go G l mi pc lv (st) M Q := by
  intro p e s m args below meth c dC dI cA ad A H locs ls hC hW hL
  subst hn
  exact lv_iconst hC.1 hC.2.1 hd hv (k p e s m args below meth c dC dI cA ad A H locs ls hC hW hL)
theorem g_bipush {G : Sh} {l : Launch} {mi : MI} {pc : Nat} {lv st : List Value} {M : Mm} {Q : Rr → Mm → Prop} {a : Int} {v : Int32} (n : Nat) (hn : pc + 2 = n) (hd : decode (mBy mi) pc = .ok (.bipush a, 2)) (hv : (Int8.ofInt a).toInt32 = v) (k : Go G l mi n lv (.int v :: st) M Q) : Go G l mi pc lv (st) M Q := by
  intro p e s m args below meth c dC dI cA ad A H locs ls hC hW hL
  subst hn
  exact lv_bipush hC.1 hC.2.1 hd hv (k p e s m args below meth c dC dI cA ad A H locs ls hC hW hL)
theorem g_sipush {G : Sh} {l : Launch} {mi : MI} {pc : Nat} {lv st : List Value} {M : Mm} {Q : Rr → Mm → Prop} {a : Int} {v : Int32} (n : Nat) (hn : pc + 3 = n) (hd : decode (mBy mi) pc = .ok (.sipush a, 3)) (hv : (Int16.ofInt a).toInt32 = v) (k : Go G l mi n lv (.int v :: st) M Q) : Go G l mi pc lv (st) M Q := by
  intro p e s m args below meth c dC dI cA ad A H locs ls hC hW hL
  subst hn
  exact lv_sipush hC.1 hC.2.1 hd hv (k p e s m args below meth c dC dI cA ad A H locs ls hC hW hL)
theorem g_lconst {G : Sh} {l : Launch} {mi : MI} {pc : Nat} {lv st : List Value} {M : Mm} {Q : Rr → Mm → Prop} {a : Fin 2} {v : Int64} (n : Nat) (hn : pc + 1 = n) (hd : decode (mBy mi) pc = .ok (.lconst a, 1)) (hv : Int64.ofNat (a : Nat) = v) (k : Go G l mi n lv (.long v :: st) M Q) : Go G l mi pc lv (st) M Q := by
  intro p e s m args below meth c dC dI cA ad A H locs ls hC hW hL
  subst hn
  exact lv_lconst hC.1 hC.2.1 hd hv (k p e s m args below meth c dC dI cA ad A H locs ls hC hW hL)
theorem g_dup {G : Sh} {l : Launch} {mi : MI} {pc : Nat} {lv st : List Value} {M : Mm} {Q : Rr → Mm → Prop} {v : Value} (n : Nat) (hn : pc + 1 = n) (hd : decode (mBy mi) pc = .ok (.dup, 1)) (hv : v.category = 1) (k : Go G l mi n lv (v :: v :: st) M Q) : Go G l mi pc lv (v :: st) M Q := by
  intro p e s m args below meth c dC dI cA ad A H locs ls hC hW hL
  subst hn
  exact lv_dup hC.1 hC.2.1 hd (by rw [tr_cat]; exact hv) (k p e s m args below meth c dC dI cA ad A H locs ls hC hW hL)
theorem g_pop {G : Sh} {l : Launch} {mi : MI} {pc : Nat} {lv st : List Value} {M : Mm} {Q : Rr → Mm → Prop} {v : Value} (n : Nat) (hn : pc + 1 = n) (hd : decode (mBy mi) pc = .ok (.pop, 1)) (hv : v.category = 1) (k : Go G l mi n lv (st) M Q) : Go G l mi pc lv (v :: st) M Q := by
  intro p e s m args below meth c dC dI cA ad A H locs ls hC hW hL
  subst hn
  exact lv_pop hC.1 hC.2.1 hd (by rw [tr_cat]; exact hv) (k p e s m args below meth c dC dI cA ad A H locs ls hC hW hL)
theorem g_dup2 {G : Sh} {l : Launch} {mi : MI} {pc : Nat} {lv st : List Value} {M : Mm} {Q : Rr → Mm → Prop} {v u : Value} (n : Nat) (hn : pc + 1 = n) (hd : decode (mBy mi) pc = .ok (.dup2, 1)) (hv : v.category = 1) (hu : u.category = 1) (k : Go G l mi n lv (v :: u :: v :: u :: st) M Q) : Go G l mi pc lv (v :: u :: st) M Q := by
  intro p e s m args below meth c dC dI cA ad A H locs ls hC hW hL
  subst hn
  exact lv_dup2_11 hC.1 hC.2.1 hd (by rw [tr_cat]; exact hv) (by rw [tr_cat]; exact hu) (k p e s m args below meth c dC dI cA ad A H locs ls hC hW hL)
theorem g_dup_x1 {G : Sh} {l : Launch} {mi : MI} {pc : Nat} {lv st : List Value} {M : Mm} {Q : Rr → Mm → Prop} {v u : Value} (n : Nat) (hn : pc + 1 = n) (hd : decode (mBy mi) pc = .ok (.dup_x1, 1)) (hv : v.category = 1) (hu : u.category = 1) (k : Go G l mi n lv (v :: u :: v :: st) M Q) : Go G l mi pc lv (v :: u :: st) M Q := by
  intro p e s m args below meth c dC dI cA ad A H locs ls hC hW hL
  subst hn
  exact lv_dup_x1 hC.1 hC.2.1 hd (by rw [tr_cat]; exact hv) (by rw [tr_cat]; exact hu) (k p e s m args below meth c dC dI cA ad A H locs ls hC hW hL)
theorem g_ldc {G : Sh} {l : Launch} {mi : MI} {pc : Nat} {lv st : List Value} {M : Mm} {Q : Rr → Mm → Prop} {ix : Nat} {v : Int32} (n : Nat) (hn : pc + 2 = n) (hd : decode (mBy mi) pc = .ok (.ldc ix, 2)) (hc : Cond.constant (mNm mi).cls ix v ∈ wTb) (k : Go G l mi n lv (.int v :: st) M Q) : Go G l mi pc lv st M Q := by
  intro p e s m args below meth c dC dI cA ad A H locs ls hC hW hL
  subst hn
  exact lv_ldc hC.1 hC.2.1 hC.2.2.2.2.1 (hC.2.2.2.2.2.1 _ hc) hd (k p e s m args below meth c dC dI cA ad A H locs ls hC hW hL)
theorem g_ldcw {G : Sh} {l : Launch} {mi : MI} {pc : Nat} {lv st : List Value} {M : Mm} {Q : Rr → Mm → Prop} {ix : Nat} {v : Int32} (n : Nat) (hn : pc + 3 = n) (hd : decode (mBy mi) pc = .ok (.ldc_w ix, 3)) (hc : Cond.constant (mNm mi).cls ix v ∈ wTb) (k : Go G l mi n lv (.int v :: st) M Q) : Go G l mi pc lv st M Q := by
  intro p e s m args below meth c dC dI cA ad A H locs ls hC hW hL
  subst hn
  exact lv_ldcw hC.1 hC.2.1 hC.2.2.2.2.1 (hC.2.2.2.2.2.1 _ hc) hd (k p e s m args below meth c dC dI cA ad A H locs ls hC hW hL)
theorem g_ldc2 {G : Sh} {l : Launch} {mi : MI} {pc : Nat} {lv st : List Value} {M : Mm} {Q : Rr → Mm → Prop} {ix : Nat} {v : Int64} (n : Nat) (hn : pc + 3 = n) (hd : decode (mBy mi) pc = .ok (.ldc2_w ix, 3)) (hc : Cond.constantLong (mNm mi).cls ix v ∈ wTb) (k : Go G l mi n lv (.long v :: st) M Q) : Go G l mi pc lv st M Q := by
  intro p e s m args below meth c dC dI cA ad A H locs ls hC hW hL
  subst hn
  exact lv_ldc2 hC.1 hC.2.1 hC.2.2.2.2.1 (hC.2.2.2.2.2.1 _ hc) hd (k p e s m args below meth c dC dI cA ad A H locs ls hC hW hL)
theorem g_goto {G : Sh} {l : Launch} {mi : MI} {pc : Nat} {lv st : List Value} {M : Mm} {Q : Rr → Mm → Prop} {off : Int} (tgt : Nat) (hd : decode (mBy mi) pc = .ok (.goto off, 3)) (ht : (pc : Int) + off = (tgt : Int)) (k : Go G l mi tgt lv st M Q) : Go G l mi pc lv st M Q := by
  intro p e s m args below meth c dC dI cA ad A H locs ls hC hW hL
  exact lv_goto hC.1 hC.2.1 hd ht (k p e s m args below meth c dC dI cA ad A H locs ls hC hW hL)
theorem g_ifeq {G : Sh} {l : Launch} {mi : MI} {pc : Nat} {lv st : List Value} {M : Mm} {Q : Rr → Mm → Prop} {x : Int32} {off : Int} (tgt n : Nat) (hn : pc + 3 = n) (hd : decode (mBy mi) pc = .ok (.ifCond .eq off, 3)) (ht : (pc : Int) + off = (tgt : Int)) (kt : x = 0 → Go G l mi tgt lv st M Q) (kf : ¬ x = 0 → Go G l mi n lv st M Q) : Go G l mi pc lv (.int x :: st) M Q := by
  intro p e s m args below meth c dC dI cA ad A H locs ls hC hW hL
  subst hn
  exact lv_if_eq hC.1 hC.2.1 hd ht (fun h => kt h p e s m args below meth c dC dI cA ad A H locs ls hC hW hL) (fun h => kf h p e s m args below meth c dC dI cA ad A H locs ls hC hW hL)
theorem g_ifne {G : Sh} {l : Launch} {mi : MI} {pc : Nat} {lv st : List Value} {M : Mm} {Q : Rr → Mm → Prop} {x : Int32} {off : Int} (tgt n : Nat) (hn : pc + 3 = n) (hd : decode (mBy mi) pc = .ok (.ifCond .ne off, 3)) (ht : (pc : Int) + off = (tgt : Int)) (kt : ¬ x = 0 → Go G l mi tgt lv st M Q) (kf : x = 0 → Go G l mi n lv st M Q) : Go G l mi pc lv (.int x :: st) M Q := by
  intro p e s m args below meth c dC dI cA ad A H locs ls hC hW hL
  subst hn
  exact lv_if_ne hC.1 hC.2.1 hd ht (fun h => kt h p e s m args below meth c dC dI cA ad A H locs ls hC hW hL) (fun h => kf h p e s m args below meth c dC dI cA ad A H locs ls hC hW hL)
theorem g_iflt {G : Sh} {l : Launch} {mi : MI} {pc : Nat} {lv st : List Value} {M : Mm} {Q : Rr → Mm → Prop} {x : Int32} {off : Int} (tgt n : Nat) (hn : pc + 3 = n) (hd : decode (mBy mi) pc = .ok (.ifCond .lt off, 3)) (ht : (pc : Int) + off = (tgt : Int)) (kt : x < 0 → Go G l mi tgt lv st M Q) (kf : ¬ x < 0 → Go G l mi n lv st M Q) : Go G l mi pc lv (.int x :: st) M Q := by
  intro p e s m args below meth c dC dI cA ad A H locs ls hC hW hL
  subst hn
  exact lv_if_lt hC.1 hC.2.1 hd ht (fun h => kt h p e s m args below meth c dC dI cA ad A H locs ls hC hW hL) (fun h => kf h p e s m args below meth c dC dI cA ad A H locs ls hC hW hL)
theorem g_ifge {G : Sh} {l : Launch} {mi : MI} {pc : Nat} {lv st : List Value} {M : Mm} {Q : Rr → Mm → Prop} {x : Int32} {off : Int} (tgt n : Nat) (hn : pc + 3 = n) (hd : decode (mBy mi) pc = .ok (.ifCond .ge off, 3)) (ht : (pc : Int) + off = (tgt : Int)) (kt : 0 ≤ x → Go G l mi tgt lv st M Q) (kf : ¬ 0 ≤ x → Go G l mi n lv st M Q) : Go G l mi pc lv (.int x :: st) M Q := by
  intro p e s m args below meth c dC dI cA ad A H locs ls hC hW hL
  subst hn
  exact lv_if_ge hC.1 hC.2.1 hd ht (fun h => kt h p e s m args below meth c dC dI cA ad A H locs ls hC hW hL) (fun h => kf h p e s m args below meth c dC dI cA ad A H locs ls hC hW hL)
theorem g_ifgt {G : Sh} {l : Launch} {mi : MI} {pc : Nat} {lv st : List Value} {M : Mm} {Q : Rr → Mm → Prop} {x : Int32} {off : Int} (tgt n : Nat) (hn : pc + 3 = n) (hd : decode (mBy mi) pc = .ok (.ifCond .gt off, 3)) (ht : (pc : Int) + off = (tgt : Int)) (kt : 0 < x → Go G l mi tgt lv st M Q) (kf : ¬ 0 < x → Go G l mi n lv st M Q) : Go G l mi pc lv (.int x :: st) M Q := by
  intro p e s m args below meth c dC dI cA ad A H locs ls hC hW hL
  subst hn
  exact lv_if_gt hC.1 hC.2.1 hd ht (fun h => kt h p e s m args below meth c dC dI cA ad A H locs ls hC hW hL) (fun h => kf h p e s m args below meth c dC dI cA ad A H locs ls hC hW hL)
theorem g_ifle {G : Sh} {l : Launch} {mi : MI} {pc : Nat} {lv st : List Value} {M : Mm} {Q : Rr → Mm → Prop} {x : Int32} {off : Int} (tgt n : Nat) (hn : pc + 3 = n) (hd : decode (mBy mi) pc = .ok (.ifCond .le off, 3)) (ht : (pc : Int) + off = (tgt : Int)) (kt : x ≤ 0 → Go G l mi tgt lv st M Q) (kf : ¬ x ≤ 0 → Go G l mi n lv st M Q) : Go G l mi pc lv (.int x :: st) M Q := by
  intro p e s m args below meth c dC dI cA ad A H locs ls hC hW hL
  subst hn
  exact lv_if_le hC.1 hC.2.1 hd ht (fun h => kt h p e s m args below meth c dC dI cA ad A H locs ls hC hW hL) (fun h => kf h p e s m args below meth c dC dI cA ad A H locs ls hC hW hL)
theorem g_cmpeq {G : Sh} {l : Launch} {mi : MI} {pc : Nat} {lv st : List Value} {M : Mm} {Q : Rr → Mm → Prop} {x y : Int32} {off : Int} (tgt n : Nat) (hn : pc + 3 = n) (hd : decode (mBy mi) pc = .ok (.if_icmp .eq off, 3)) (ht : (pc : Int) + off = (tgt : Int)) (kt : x = y → Go G l mi tgt lv st M Q) (kf : ¬ x = y → Go G l mi n lv st M Q) : Go G l mi pc lv (.int y :: .int x :: st) M Q := by
  intro p e s m args below meth c dC dI cA ad A H locs ls hC hW hL
  subst hn
  exact lv_icmp_eq hC.1 hC.2.1 hd ht (fun h => kt h p e s m args below meth c dC dI cA ad A H locs ls hC hW hL) (fun h => kf h p e s m args below meth c dC dI cA ad A H locs ls hC hW hL)
theorem g_cmpne {G : Sh} {l : Launch} {mi : MI} {pc : Nat} {lv st : List Value} {M : Mm} {Q : Rr → Mm → Prop} {x y : Int32} {off : Int} (tgt n : Nat) (hn : pc + 3 = n) (hd : decode (mBy mi) pc = .ok (.if_icmp .ne off, 3)) (ht : (pc : Int) + off = (tgt : Int)) (kt : ¬ x = y → Go G l mi tgt lv st M Q) (kf : x = y → Go G l mi n lv st M Q) : Go G l mi pc lv (.int y :: .int x :: st) M Q := by
  intro p e s m args below meth c dC dI cA ad A H locs ls hC hW hL
  subst hn
  exact lv_icmp_ne hC.1 hC.2.1 hd ht (fun h => kt h p e s m args below meth c dC dI cA ad A H locs ls hC hW hL) (fun h => kf h p e s m args below meth c dC dI cA ad A H locs ls hC hW hL)
theorem g_cmplt {G : Sh} {l : Launch} {mi : MI} {pc : Nat} {lv st : List Value} {M : Mm} {Q : Rr → Mm → Prop} {x y : Int32} {off : Int} (tgt n : Nat) (hn : pc + 3 = n) (hd : decode (mBy mi) pc = .ok (.if_icmp .lt off, 3)) (ht : (pc : Int) + off = (tgt : Int)) (kt : x < y → Go G l mi tgt lv st M Q) (kf : ¬ x < y → Go G l mi n lv st M Q) : Go G l mi pc lv (.int y :: .int x :: st) M Q := by
  intro p e s m args below meth c dC dI cA ad A H locs ls hC hW hL
  subst hn
  exact lv_icmp_lt hC.1 hC.2.1 hd ht (fun h => kt h p e s m args below meth c dC dI cA ad A H locs ls hC hW hL) (fun h => kf h p e s m args below meth c dC dI cA ad A H locs ls hC hW hL)
theorem g_cmpge {G : Sh} {l : Launch} {mi : MI} {pc : Nat} {lv st : List Value} {M : Mm} {Q : Rr → Mm → Prop} {x y : Int32} {off : Int} (tgt n : Nat) (hn : pc + 3 = n) (hd : decode (mBy mi) pc = .ok (.if_icmp .ge off, 3)) (ht : (pc : Int) + off = (tgt : Int)) (kt : y ≤ x → Go G l mi tgt lv st M Q) (kf : ¬ y ≤ x → Go G l mi n lv st M Q) : Go G l mi pc lv (.int y :: .int x :: st) M Q := by
  intro p e s m args below meth c dC dI cA ad A H locs ls hC hW hL
  subst hn
  exact lv_icmp_ge hC.1 hC.2.1 hd ht (fun h => kt h p e s m args below meth c dC dI cA ad A H locs ls hC hW hL) (fun h => kf h p e s m args below meth c dC dI cA ad A H locs ls hC hW hL)
theorem g_cmpgt {G : Sh} {l : Launch} {mi : MI} {pc : Nat} {lv st : List Value} {M : Mm} {Q : Rr → Mm → Prop} {x y : Int32} {off : Int} (tgt n : Nat) (hn : pc + 3 = n) (hd : decode (mBy mi) pc = .ok (.if_icmp .gt off, 3)) (ht : (pc : Int) + off = (tgt : Int)) (kt : y < x → Go G l mi tgt lv st M Q) (kf : ¬ y < x → Go G l mi n lv st M Q) : Go G l mi pc lv (.int y :: .int x :: st) M Q := by
  intro p e s m args below meth c dC dI cA ad A H locs ls hC hW hL
  subst hn
  exact lv_icmp_gt hC.1 hC.2.1 hd ht (fun h => kt h p e s m args below meth c dC dI cA ad A H locs ls hC hW hL) (fun h => kf h p e s m args below meth c dC dI cA ad A H locs ls hC hW hL)
theorem g_cmple {G : Sh} {l : Launch} {mi : MI} {pc : Nat} {lv st : List Value} {M : Mm} {Q : Rr → Mm → Prop} {x y : Int32} {off : Int} (tgt n : Nat) (hn : pc + 3 = n) (hd : decode (mBy mi) pc = .ok (.if_icmp .le off, 3)) (ht : (pc : Int) + off = (tgt : Int)) (kt : x ≤ y → Go G l mi tgt lv st M Q) (kf : ¬ x ≤ y → Go G l mi n lv st M Q) : Go G l mi pc lv (.int y :: .int x :: st) M Q := by
  intro p e s m args below meth c dC dI cA ad A H locs ls hC hW hL
  subst hn
  exact lv_icmp_le hC.1 hC.2.1 hd ht (fun h => kt h p e s m args below meth c dC dI cA ad A H locs ls hC hW hL) (fun h => kf h p e s m args below meth c dC dI cA ad A H locs ls hC hW hL)
theorem g_tabOut {G : Sh} {l : Launch} {mi : MI} {pc : Nat} {lv st : List Value} {M : Mm} {Q : Rr → Mm → Prop} {x : Int32} {df lo hi : Int} {offs : Array Int} {len : Nat} (tgt : Nat) (hd : decode (mBy mi) pc = .ok (.tableswitch df lo hi offs, len)) (h : x.toInt < lo ∨ hi < x.toInt) (ht : (pc : Int) + df = (tgt : Int)) (k : Go G l mi tgt lv st M Q) : Go G l mi pc lv (.int x :: st) M Q := by
  intro p e s m args below meth c dC dI cA ad A H locs ls hC hW hL
  exact lv_tableOut hC.1 hC.2.1 hd h ht (k p e s m args below meth c dC dI cA ad A H locs ls hC hW hL)
theorem g_tabIn {G : Sh} {l : Launch} {mi : MI} {pc : Nat} {lv st : List Value} {M : Mm} {Q : Rr → Mm → Prop} {x : Int32} {df lo hi off : Int} {offs : Array Int} {len : Nat} (tgt : Nat) (hd : decode (mBy mi) pc = .ok (.tableswitch df lo hi offs, len)) (h1 : ¬ x.toInt < lo) (h2 : ¬ hi < x.toInt) (ho : offs[(x.toInt - lo).toNat]? = some off) (ht : (pc : Int) + off = (tgt : Int)) (k : Go G l mi tgt lv st M Q) : Go G l mi pc lv (.int x :: st) M Q := by
  intro p e s m args below meth c dC dI cA ad A H locs ls hC hW hL
  exact lv_tableIn hC.1 hC.2.1 hd h1 h2 ho ht (k p e s m args below meth c dC dI cA ad A H locs ls hC hW hL)
theorem g_look {G : Sh} {l : Launch} {mi : MI} {pc : Nat} {lv st : List Value} {M : Mm} {Q : Rr → Mm → Prop} {x : Int32} {df off : Int} {ps : Array (Int × Int)} {len : Nat} (tgt : Nat) (hd : decode (mBy mi) pc = .ok (.lookupswitch df ps, len)) (hp : (ps.toList.zip (ps.toList.drop 1)).all (fun (a, next) => a.1 < next.1) = true) (ho : Op.lookupswitch.offset ps.toList df x.toInt = off) (ht : (pc : Int) + off = (tgt : Int)) (k : Go G l mi tgt lv st M Q) : Go G l mi pc lv (.int x :: st) M Q := by
  intro p e s m args below meth c dC dI cA ad A H locs ls hC hW hL
  exact lv_lookup hC.1 hC.2.1 hd hp ho ht (k p e s m args below meth c dC dI cA ad A H locs ls hC hW hL)
theorem g_iload0 {G : Sh} {l : Launch} {mi : MI} {pc : Nat} {lv st : List Value} {M : Mm} {Q : Rr → Mm → Prop} {x : Int32} (n : Nat) (hn : pc + 1 = n) (hd : decode (mBy mi) pc = .ok (.iload_n 0, 1)) (k : Go G l mi n (.int x :: lv) (.int x :: st) M Q) : Go G l mi pc (.int x :: lv) st M Q := by
  intro p e s m args below meth c dC dI cA ad A H locs ls hC hW hL
  subst hn
  exact lv_iload_n hC.1 hC.2.1 (i := 0) hd rfl (lv_get (i := 0) (v := .int x) hL rfl (fun h => by cases h)) (k p e s m args below meth c dC dI cA ad A H locs ls hC hW hL)
theorem g_istore0 {G : Sh} {l : Launch} {mi : MI} {pc : Nat} {lv st : List Value} {M : Mm} {Q : Rr → Mm → Prop} {y : Value} {x : Int32} (n : Nat) (hn : pc + 1 = n) (hd : decode (mBy mi) pc = .ok (.istore_n 0, 1)) (hm : Nat.ble 1 (mMx mi) = true) (k : Go G l mi n (.int x :: lv) st M Q) : Go G l mi pc (y :: lv) (.int x :: st) M Q := by
  intro p e s m args below meth c dC dI cA ad A H locs ls hC hW hL
  subst hn
  exact lv_istore_n (i := 0) hC.1 hC.2.1 hd rfl hL (Nat.le_of_ble_eq_true hm) rfl (fun ls' hl' => k p e s m args below meth c dC dI cA ad A H locs ls' hC hW (lv_put1 (i := 0) (v := .int x) (lv := y :: lv) (fun u h0 _ => absurd h0 (by decide)) hl'))
theorem g_iinc0 {G : Sh} {l : Launch} {mi : MI} {pc : Nat} {lv st : List Value} {M : Mm} {Q : Rr → Mm → Prop} {x : Int32} {a : Int} (n : Nat) (hn : pc + 3 = n) (hd : decode (mBy mi) pc = .ok (.iinc 0 a, 3)) (hm : Nat.ble 1 (mMx mi) = true) (v : Int32) (hv : x + Int32.ofInt a = v) (k : Go G l mi n (.int v :: lv) st M Q) : Go G l mi pc (.int x :: lv) st M Q := by
  intro p e s m args below meth c dC dI cA ad A H locs ls hC hW hL
  subst hn
  obtain ⟨z, hz⟩ := List.getElem?_of_mem (asl_mem (ad := ad) (lv := .int x :: lv) (q := (0, .int x)) |>.mpr ⟨.int x, rfl, (fun h => by cases h), rfl⟩)
  exact lv_iinc (i := 0) hC.1 hC.2.1 hd hL hz hv (Nat.le_of_ble_eq_true hm) rfl (fun ls' hl' => k p e s m args below meth c dC dI cA ad A H locs ls' hC hW (lv_put1 (i := 0) (v := .int v) (lv := .int x :: lv) (fun u h0 _ => absurd h0 (by decide)) hl'))
theorem g_lload0 {G : Sh} {l : Launch} {mi : MI} {pc : Nat} {lv st : List Value} {M : Mm} {Q : Rr → Mm → Prop} {x : Int64} (n : Nat) (hn : pc + 1 = n) (hd : decode (mBy mi) pc = .ok (.lload_n 0, 1)) (k : Go G l mi n (.long x :: lv) (.long x :: st) M Q) : Go G l mi pc (.long x :: lv) st M Q := by
  intro p e s m args below meth c dC dI cA ad A H locs ls hC hW hL
  subst hn
  exact lv_lload_n hC.1 hC.2.1 (i := 0) hd rfl (lv_get (i := 0) (v := .long x) hL rfl (fun h => by cases h)) (k p e s m args below meth c dC dI cA ad A H locs ls hC hW hL)
theorem g_lstore0 {G : Sh} {l : Launch} {mi : MI} {pc : Nat} {lv st : List Value} {M : Mm} {Q : Rr → Mm → Prop} {y z : Value} {x : Int64} (n : Nat) (hn : pc + 1 = n) (hd : decode (mBy mi) pc = .ok (.lstore_n 0, 1)) (hm : Nat.ble 2 (mMx mi) = true) (k : Go G l mi n (.long x :: .null :: lv) st M Q) : Go G l mi pc (y :: z :: lv) (.long x :: st) M Q := by
  intro p e s m args below meth c dC dI cA ad A H locs ls hC hW hL
  subst hn
  exact lv_lstore_n (i := 0) hC.1 hC.2.1 hd rfl hL (Nat.le_of_ble_eq_true hm) rfl (fun ls' hl' => k p e s m args below meth c dC dI cA ad A H locs ls' hC hW (lv_put2 (i := 0) (v := .long x) (lv := y :: z :: lv) (fun u h0 _ => absurd h0 (by decide)) hl'))
theorem g_aload0 {G : Sh} {l : Launch} {mi : MI} {pc : Nat} {lv st : List Value} {M : Mm} {Q : Rr → Mm → Prop} {x : Nat} (n : Nat) (hn : pc + 1 = n) (hd : decode (mBy mi) pc = .ok (.aload_n 0, 1)) (k : Go G l mi n (.ref x :: lv) (.ref x :: st) M Q) : Go G l mi pc (.ref x :: lv) st M Q := by
  intro p e s m args below meth c dC dI cA ad A H locs ls hC hW hL
  subst hn
  exact lv_aload_n hC.1 hC.2.1 (i := 0) hd rfl (lv_get (i := 0) (v := .ref x) hL rfl (fun h => by cases h)) (k p e s m args below meth c dC dI cA ad A H locs ls hC hW hL)
theorem g_iload1 {G : Sh} {l : Launch} {mi : MI} {pc : Nat} {lv st : List Value} {M : Mm} {Q : Rr → Mm → Prop} {x0 : Value} {x : Int32} (n : Nat) (hn : pc + 1 = n) (hd : decode (mBy mi) pc = .ok (.iload_n 1, 1)) (k : Go G l mi n (x0 :: .int x :: lv) (.int x :: st) M Q) : Go G l mi pc (x0 :: .int x :: lv) st M Q := by
  intro p e s m args below meth c dC dI cA ad A H locs ls hC hW hL
  subst hn
  exact lv_iload_n hC.1 hC.2.1 (i := 1) hd rfl (lv_get (i := 1) (v := .int x) hL rfl (fun h => by cases h)) (k p e s m args below meth c dC dI cA ad A H locs ls hC hW hL)
theorem g_istore1 {G : Sh} {l : Launch} {mi : MI} {pc : Nat} {lv st : List Value} {M : Mm} {Q : Rr → Mm → Prop} {x0 : Value} {y : Value} {x : Int32} (n : Nat) (hn : pc + 1 = n) (hd : decode (mBy mi) pc = .ok (.istore_n 1, 1)) (hm : Nat.ble 2 (mMx mi) = true) (hp : x0.category = 1) (k : Go G l mi n (x0 :: .int x :: lv) st M Q) : Go G l mi pc (x0 :: y :: lv) (.int x :: st) M Q := by
  intro p e s m args below meth c dC dI cA ad A H locs ls hC hW hL
  subst hn
  exact lv_istore_n (i := 1) hC.1 hC.2.1 hd rfl hL (Nat.le_of_ble_eq_true hm) rfl (fun ls' hl' => k p e s m args below meth c dC dI cA ad A H locs ls' hC hW (lv_put1 (i := 1) (v := .int x) (lv := x0 :: y :: lv) (fun u h0 hu => by (first | (cases hu; exact hp) | (exact absurd h0 (by decide)))) hl'))
theorem g_iinc1 {G : Sh} {l : Launch} {mi : MI} {pc : Nat} {lv st : List Value} {M : Mm} {Q : Rr → Mm → Prop} {x0 : Value} {x : Int32} {a : Int} (n : Nat) (hn : pc + 3 = n) (hd : decode (mBy mi) pc = .ok (.iinc 1 a, 3)) (hm : Nat.ble 2 (mMx mi) = true) (hp : x0.category = 1) (v : Int32) (hv : x + Int32.ofInt a = v) (k : Go G l mi n (x0 :: .int v :: lv) st M Q) : Go G l mi pc (x0 :: .int x :: lv) st M Q := by
  intro p e s m args below meth c dC dI cA ad A H locs ls hC hW hL
  subst hn
  obtain ⟨z, hz⟩ := List.getElem?_of_mem (asl_mem (ad := ad) (lv := x0 :: .int x :: lv) (q := (1, .int x)) |>.mpr ⟨.int x, rfl, (fun h => by cases h), rfl⟩)
  exact lv_iinc (i := 1) hC.1 hC.2.1 hd hL hz hv (Nat.le_of_ble_eq_true hm) rfl (fun ls' hl' => k p e s m args below meth c dC dI cA ad A H locs ls' hC hW (lv_put1 (i := 1) (v := .int v) (lv := x0 :: .int x :: lv) (fun u h0 hu => by (first | (cases hu; exact hp) | (exact absurd h0 (by decide)))) hl'))
theorem g_lload1 {G : Sh} {l : Launch} {mi : MI} {pc : Nat} {lv st : List Value} {M : Mm} {Q : Rr → Mm → Prop} {x0 : Value} {x : Int64} (n : Nat) (hn : pc + 1 = n) (hd : decode (mBy mi) pc = .ok (.lload_n 1, 1)) (k : Go G l mi n (x0 :: .long x :: lv) (.long x :: st) M Q) : Go G l mi pc (x0 :: .long x :: lv) st M Q := by
  intro p e s m args below meth c dC dI cA ad A H locs ls hC hW hL
  subst hn
  exact lv_lload_n hC.1 hC.2.1 (i := 1) hd rfl (lv_get (i := 1) (v := .long x) hL rfl (fun h => by cases h)) (k p e s m args below meth c dC dI cA ad A H locs ls hC hW hL)
theorem g_lstore1 {G : Sh} {l : Launch} {mi : MI} {pc : Nat} {lv st : List Value} {M : Mm} {Q : Rr → Mm → Prop} {x0 : Value} {y z : Value} {x : Int64} (n : Nat) (hn : pc + 1 = n) (hd : decode (mBy mi) pc = .ok (.lstore_n 1, 1)) (hm : Nat.ble 3 (mMx mi) = true) (hp : x0.category = 1) (k : Go G l mi n (x0 :: .long x :: .null :: lv) st M Q) : Go G l mi pc (x0 :: y :: z :: lv) (.long x :: st) M Q := by
  intro p e s m args below meth c dC dI cA ad A H locs ls hC hW hL
  subst hn
  exact lv_lstore_n (i := 1) hC.1 hC.2.1 hd rfl hL (Nat.le_of_ble_eq_true hm) rfl (fun ls' hl' => k p e s m args below meth c dC dI cA ad A H locs ls' hC hW (lv_put2 (i := 1) (v := .long x) (lv := x0 :: y :: z :: lv) (fun u h0 hu => by (first | (cases hu; exact hp) | (exact absurd h0 (by decide)))) hl'))
theorem g_aload1 {G : Sh} {l : Launch} {mi : MI} {pc : Nat} {lv st : List Value} {M : Mm} {Q : Rr → Mm → Prop} {x0 : Value} {x : Nat} (n : Nat) (hn : pc + 1 = n) (hd : decode (mBy mi) pc = .ok (.aload_n 1, 1)) (k : Go G l mi n (x0 :: .ref x :: lv) (.ref x :: st) M Q) : Go G l mi pc (x0 :: .ref x :: lv) st M Q := by
  intro p e s m args below meth c dC dI cA ad A H locs ls hC hW hL
  subst hn
  exact lv_aload_n hC.1 hC.2.1 (i := 1) hd rfl (lv_get (i := 1) (v := .ref x) hL rfl (fun h => by cases h)) (k p e s m args below meth c dC dI cA ad A H locs ls hC hW hL)
theorem g_iload2 {G : Sh} {l : Launch} {mi : MI} {pc : Nat} {lv st : List Value} {M : Mm} {Q : Rr → Mm → Prop} {x0 x1 : Value} {x : Int32} (n : Nat) (hn : pc + 1 = n) (hd : decode (mBy mi) pc = .ok (.iload_n 2, 1)) (k : Go G l mi n (x0 :: x1 :: .int x :: lv) (.int x :: st) M Q) : Go G l mi pc (x0 :: x1 :: .int x :: lv) st M Q := by
  intro p e s m args below meth c dC dI cA ad A H locs ls hC hW hL
  subst hn
  exact lv_iload_n hC.1 hC.2.1 (i := 2) hd rfl (lv_get (i := 2) (v := .int x) hL rfl (fun h => by cases h)) (k p e s m args below meth c dC dI cA ad A H locs ls hC hW hL)
theorem g_istore2 {G : Sh} {l : Launch} {mi : MI} {pc : Nat} {lv st : List Value} {M : Mm} {Q : Rr → Mm → Prop} {x0 x1 : Value} {y : Value} {x : Int32} (n : Nat) (hn : pc + 1 = n) (hd : decode (mBy mi) pc = .ok (.istore_n 2, 1)) (hm : Nat.ble 3 (mMx mi) = true) (hp : x1.category = 1) (k : Go G l mi n (x0 :: x1 :: .int x :: lv) st M Q) : Go G l mi pc (x0 :: x1 :: y :: lv) (.int x :: st) M Q := by
  intro p e s m args below meth c dC dI cA ad A H locs ls hC hW hL
  subst hn
  exact lv_istore_n (i := 2) hC.1 hC.2.1 hd rfl hL (Nat.le_of_ble_eq_true hm) rfl (fun ls' hl' => k p e s m args below meth c dC dI cA ad A H locs ls' hC hW (lv_put1 (i := 2) (v := .int x) (lv := x0 :: x1 :: y :: lv) (fun u h0 hu => by (first | (cases hu; exact hp) | (exact absurd h0 (by decide)))) hl'))
theorem g_iinc2 {G : Sh} {l : Launch} {mi : MI} {pc : Nat} {lv st : List Value} {M : Mm} {Q : Rr → Mm → Prop} {x0 x1 : Value} {x : Int32} {a : Int} (n : Nat) (hn : pc + 3 = n) (hd : decode (mBy mi) pc = .ok (.iinc 2 a, 3)) (hm : Nat.ble 3 (mMx mi) = true) (hp : x1.category = 1) (v : Int32) (hv : x + Int32.ofInt a = v) (k : Go G l mi n (x0 :: x1 :: .int v :: lv) st M Q) : Go G l mi pc (x0 :: x1 :: .int x :: lv) st M Q := by
  intro p e s m args below meth c dC dI cA ad A H locs ls hC hW hL
  subst hn
  obtain ⟨z, hz⟩ := List.getElem?_of_mem (asl_mem (ad := ad) (lv := x0 :: x1 :: .int x :: lv) (q := (2, .int x)) |>.mpr ⟨.int x, rfl, (fun h => by cases h), rfl⟩)
  exact lv_iinc (i := 2) hC.1 hC.2.1 hd hL hz hv (Nat.le_of_ble_eq_true hm) rfl (fun ls' hl' => k p e s m args below meth c dC dI cA ad A H locs ls' hC hW (lv_put1 (i := 2) (v := .int v) (lv := x0 :: x1 :: .int x :: lv) (fun u h0 hu => by (first | (cases hu; exact hp) | (exact absurd h0 (by decide)))) hl'))
theorem g_lload2 {G : Sh} {l : Launch} {mi : MI} {pc : Nat} {lv st : List Value} {M : Mm} {Q : Rr → Mm → Prop} {x0 x1 : Value} {x : Int64} (n : Nat) (hn : pc + 1 = n) (hd : decode (mBy mi) pc = .ok (.lload_n 2, 1)) (k : Go G l mi n (x0 :: x1 :: .long x :: lv) (.long x :: st) M Q) : Go G l mi pc (x0 :: x1 :: .long x :: lv) st M Q := by
  intro p e s m args below meth c dC dI cA ad A H locs ls hC hW hL
  subst hn
  exact lv_lload_n hC.1 hC.2.1 (i := 2) hd rfl (lv_get (i := 2) (v := .long x) hL rfl (fun h => by cases h)) (k p e s m args below meth c dC dI cA ad A H locs ls hC hW hL)
theorem g_lstore2 {G : Sh} {l : Launch} {mi : MI} {pc : Nat} {lv st : List Value} {M : Mm} {Q : Rr → Mm → Prop} {x0 x1 : Value} {y z : Value} {x : Int64} (n : Nat) (hn : pc + 1 = n) (hd : decode (mBy mi) pc = .ok (.lstore_n 2, 1)) (hm : Nat.ble 4 (mMx mi) = true) (hp : x1.category = 1) (k : Go G l mi n (x0 :: x1 :: .long x :: .null :: lv) st M Q) : Go G l mi pc (x0 :: x1 :: y :: z :: lv) (.long x :: st) M Q := by
  intro p e s m args below meth c dC dI cA ad A H locs ls hC hW hL
  subst hn
  exact lv_lstore_n (i := 2) hC.1 hC.2.1 hd rfl hL (Nat.le_of_ble_eq_true hm) rfl (fun ls' hl' => k p e s m args below meth c dC dI cA ad A H locs ls' hC hW (lv_put2 (i := 2) (v := .long x) (lv := x0 :: x1 :: y :: z :: lv) (fun u h0 hu => by (first | (cases hu; exact hp) | (exact absurd h0 (by decide)))) hl'))
theorem g_aload2 {G : Sh} {l : Launch} {mi : MI} {pc : Nat} {lv st : List Value} {M : Mm} {Q : Rr → Mm → Prop} {x0 x1 : Value} {x : Nat} (n : Nat) (hn : pc + 1 = n) (hd : decode (mBy mi) pc = .ok (.aload_n 2, 1)) (k : Go G l mi n (x0 :: x1 :: .ref x :: lv) (.ref x :: st) M Q) : Go G l mi pc (x0 :: x1 :: .ref x :: lv) st M Q := by
  intro p e s m args below meth c dC dI cA ad A H locs ls hC hW hL
  subst hn
  exact lv_aload_n hC.1 hC.2.1 (i := 2) hd rfl (lv_get (i := 2) (v := .ref x) hL rfl (fun h => by cases h)) (k p e s m args below meth c dC dI cA ad A H locs ls hC hW hL)
theorem g_iload3 {G : Sh} {l : Launch} {mi : MI} {pc : Nat} {lv st : List Value} {M : Mm} {Q : Rr → Mm → Prop} {x0 x1 x2 : Value} {x : Int32} (n : Nat) (hn : pc + 1 = n) (hd : decode (mBy mi) pc = .ok (.iload_n 3, 1)) (k : Go G l mi n (x0 :: x1 :: x2 :: .int x :: lv) (.int x :: st) M Q) : Go G l mi pc (x0 :: x1 :: x2 :: .int x :: lv) st M Q := by
  intro p e s m args below meth c dC dI cA ad A H locs ls hC hW hL
  subst hn
  exact lv_iload_n hC.1 hC.2.1 (i := 3) hd rfl (lv_get (i := 3) (v := .int x) hL rfl (fun h => by cases h)) (k p e s m args below meth c dC dI cA ad A H locs ls hC hW hL)
theorem g_istore3 {G : Sh} {l : Launch} {mi : MI} {pc : Nat} {lv st : List Value} {M : Mm} {Q : Rr → Mm → Prop} {x0 x1 x2 : Value} {y : Value} {x : Int32} (n : Nat) (hn : pc + 1 = n) (hd : decode (mBy mi) pc = .ok (.istore_n 3, 1)) (hm : Nat.ble 4 (mMx mi) = true) (hp : x2.category = 1) (k : Go G l mi n (x0 :: x1 :: x2 :: .int x :: lv) st M Q) : Go G l mi pc (x0 :: x1 :: x2 :: y :: lv) (.int x :: st) M Q := by
  intro p e s m args below meth c dC dI cA ad A H locs ls hC hW hL
  subst hn
  exact lv_istore_n (i := 3) hC.1 hC.2.1 hd rfl hL (Nat.le_of_ble_eq_true hm) rfl (fun ls' hl' => k p e s m args below meth c dC dI cA ad A H locs ls' hC hW (lv_put1 (i := 3) (v := .int x) (lv := x0 :: x1 :: x2 :: y :: lv) (fun u h0 hu => by (first | (cases hu; exact hp) | (exact absurd h0 (by decide)))) hl'))
theorem g_iinc3 {G : Sh} {l : Launch} {mi : MI} {pc : Nat} {lv st : List Value} {M : Mm} {Q : Rr → Mm → Prop} {x0 x1 x2 : Value} {x : Int32} {a : Int} (n : Nat) (hn : pc + 3 = n) (hd : decode (mBy mi) pc = .ok (.iinc 3 a, 3)) (hm : Nat.ble 4 (mMx mi) = true) (hp : x2.category = 1) (v : Int32) (hv : x + Int32.ofInt a = v) (k : Go G l mi n (x0 :: x1 :: x2 :: .int v :: lv) st M Q) : Go G l mi pc (x0 :: x1 :: x2 :: .int x :: lv) st M Q := by
  intro p e s m args below meth c dC dI cA ad A H locs ls hC hW hL
  subst hn
  obtain ⟨z, hz⟩ := List.getElem?_of_mem (asl_mem (ad := ad) (lv := x0 :: x1 :: x2 :: .int x :: lv) (q := (3, .int x)) |>.mpr ⟨.int x, rfl, (fun h => by cases h), rfl⟩)
  exact lv_iinc (i := 3) hC.1 hC.2.1 hd hL hz hv (Nat.le_of_ble_eq_true hm) rfl (fun ls' hl' => k p e s m args below meth c dC dI cA ad A H locs ls' hC hW (lv_put1 (i := 3) (v := .int v) (lv := x0 :: x1 :: x2 :: .int x :: lv) (fun u h0 hu => by (first | (cases hu; exact hp) | (exact absurd h0 (by decide)))) hl'))
theorem g_lload3 {G : Sh} {l : Launch} {mi : MI} {pc : Nat} {lv st : List Value} {M : Mm} {Q : Rr → Mm → Prop} {x0 x1 x2 : Value} {x : Int64} (n : Nat) (hn : pc + 1 = n) (hd : decode (mBy mi) pc = .ok (.lload_n 3, 1)) (k : Go G l mi n (x0 :: x1 :: x2 :: .long x :: lv) (.long x :: st) M Q) : Go G l mi pc (x0 :: x1 :: x2 :: .long x :: lv) st M Q := by
  intro p e s m args below meth c dC dI cA ad A H locs ls hC hW hL
  subst hn
  exact lv_lload_n hC.1 hC.2.1 (i := 3) hd rfl (lv_get (i := 3) (v := .long x) hL rfl (fun h => by cases h)) (k p e s m args below meth c dC dI cA ad A H locs ls hC hW hL)
theorem g_lstore3 {G : Sh} {l : Launch} {mi : MI} {pc : Nat} {lv st : List Value} {M : Mm} {Q : Rr → Mm → Prop} {x0 x1 x2 : Value} {y z : Value} {x : Int64} (n : Nat) (hn : pc + 1 = n) (hd : decode (mBy mi) pc = .ok (.lstore_n 3, 1)) (hm : Nat.ble 5 (mMx mi) = true) (hp : x2.category = 1) (k : Go G l mi n (x0 :: x1 :: x2 :: .long x :: .null :: lv) st M Q) : Go G l mi pc (x0 :: x1 :: x2 :: y :: z :: lv) (.long x :: st) M Q := by
  intro p e s m args below meth c dC dI cA ad A H locs ls hC hW hL
  subst hn
  exact lv_lstore_n (i := 3) hC.1 hC.2.1 hd rfl hL (Nat.le_of_ble_eq_true hm) rfl (fun ls' hl' => k p e s m args below meth c dC dI cA ad A H locs ls' hC hW (lv_put2 (i := 3) (v := .long x) (lv := x0 :: x1 :: x2 :: y :: z :: lv) (fun u h0 hu => by (first | (cases hu; exact hp) | (exact absurd h0 (by decide)))) hl'))
theorem g_aload3 {G : Sh} {l : Launch} {mi : MI} {pc : Nat} {lv st : List Value} {M : Mm} {Q : Rr → Mm → Prop} {x0 x1 x2 : Value} {x : Nat} (n : Nat) (hn : pc + 1 = n) (hd : decode (mBy mi) pc = .ok (.aload_n 3, 1)) (k : Go G l mi n (x0 :: x1 :: x2 :: .ref x :: lv) (.ref x :: st) M Q) : Go G l mi pc (x0 :: x1 :: x2 :: .ref x :: lv) st M Q := by
  intro p e s m args below meth c dC dI cA ad A H locs ls hC hW hL
  subst hn
  exact lv_aload_n hC.1 hC.2.1 (i := 3) hd rfl (lv_get (i := 3) (v := .ref x) hL rfl (fun h => by cases h)) (k p e s m args below meth c dC dI cA ad A H locs ls hC hW hL)
theorem g_iload4 {G : Sh} {l : Launch} {mi : MI} {pc : Nat} {lv st : List Value} {M : Mm} {Q : Rr → Mm → Prop} {x0 x1 x2 x3 : Value} {x : Int32} (n : Nat) (hn : pc + 2 = n) (hd : decode (mBy mi) pc = .ok (.iload 4, 2)) (k : Go G l mi n (x0 :: x1 :: x2 :: x3 :: .int x :: lv) (.int x :: st) M Q) : Go G l mi pc (x0 :: x1 :: x2 :: x3 :: .int x :: lv) st M Q := by
  intro p e s m args below meth c dC dI cA ad A H locs ls hC hW hL
  subst hn
  exact lv_iload hC.1 hC.2.1 hd (lv_get (i := 4) (v := .int x) hL rfl (fun h => by cases h)) (k p e s m args below meth c dC dI cA ad A H locs ls hC hW hL)
theorem g_istore4 {G : Sh} {l : Launch} {mi : MI} {pc : Nat} {lv st : List Value} {M : Mm} {Q : Rr → Mm → Prop} {x0 x1 x2 x3 : Value} {y : Value} {x : Int32} (n : Nat) (hn : pc + 2 = n) (hd : decode (mBy mi) pc = .ok (.istore 4, 2)) (hm : Nat.ble 5 (mMx mi) = true) (hp : x3.category = 1) (k : Go G l mi n (x0 :: x1 :: x2 :: x3 :: .int x :: lv) st M Q) : Go G l mi pc (x0 :: x1 :: x2 :: x3 :: y :: lv) (.int x :: st) M Q := by
  intro p e s m args below meth c dC dI cA ad A H locs ls hC hW hL
  subst hn
  exact lv_istore (i := 4) hC.1 hC.2.1 hd hL (Nat.le_of_ble_eq_true hm) rfl (fun ls' hl' => k p e s m args below meth c dC dI cA ad A H locs ls' hC hW (lv_put1 (i := 4) (v := .int x) (lv := x0 :: x1 :: x2 :: x3 :: y :: lv) (fun u h0 hu => by (first | (cases hu; exact hp) | (exact absurd h0 (by decide)))) hl'))
theorem g_iinc4 {G : Sh} {l : Launch} {mi : MI} {pc : Nat} {lv st : List Value} {M : Mm} {Q : Rr → Mm → Prop} {x0 x1 x2 x3 : Value} {x : Int32} {a : Int} (n : Nat) (hn : pc + 3 = n) (hd : decode (mBy mi) pc = .ok (.iinc 4 a, 3)) (hm : Nat.ble 5 (mMx mi) = true) (hp : x3.category = 1) (v : Int32) (hv : x + Int32.ofInt a = v) (k : Go G l mi n (x0 :: x1 :: x2 :: x3 :: .int v :: lv) st M Q) : Go G l mi pc (x0 :: x1 :: x2 :: x3 :: .int x :: lv) st M Q := by
  intro p e s m args below meth c dC dI cA ad A H locs ls hC hW hL
  subst hn
  obtain ⟨z, hz⟩ := List.getElem?_of_mem (asl_mem (ad := ad) (lv := x0 :: x1 :: x2 :: x3 :: .int x :: lv) (q := (4, .int x)) |>.mpr ⟨.int x, rfl, (fun h => by cases h), rfl⟩)
  exact lv_iinc (i := 4) hC.1 hC.2.1 hd hL hz hv (Nat.le_of_ble_eq_true hm) rfl (fun ls' hl' => k p e s m args below meth c dC dI cA ad A H locs ls' hC hW (lv_put1 (i := 4) (v := .int v) (lv := x0 :: x1 :: x2 :: x3 :: .int x :: lv) (fun u h0 hu => by (first | (cases hu; exact hp) | (exact absurd h0 (by decide)))) hl'))
theorem g_lload4 {G : Sh} {l : Launch} {mi : MI} {pc : Nat} {lv st : List Value} {M : Mm} {Q : Rr → Mm → Prop} {x0 x1 x2 x3 : Value} {x : Int64} (n : Nat) (hn : pc + 2 = n) (hd : decode (mBy mi) pc = .ok (.lload 4, 2)) (k : Go G l mi n (x0 :: x1 :: x2 :: x3 :: .long x :: lv) (.long x :: st) M Q) : Go G l mi pc (x0 :: x1 :: x2 :: x3 :: .long x :: lv) st M Q := by
  intro p e s m args below meth c dC dI cA ad A H locs ls hC hW hL
  subst hn
  exact lv_lload hC.1 hC.2.1 hd (lv_get (i := 4) (v := .long x) hL rfl (fun h => by cases h)) (k p e s m args below meth c dC dI cA ad A H locs ls hC hW hL)
theorem g_lstore4 {G : Sh} {l : Launch} {mi : MI} {pc : Nat} {lv st : List Value} {M : Mm} {Q : Rr → Mm → Prop} {x0 x1 x2 x3 : Value} {y z : Value} {x : Int64} (n : Nat) (hn : pc + 2 = n) (hd : decode (mBy mi) pc = .ok (.lstore 4, 2)) (hm : Nat.ble 6 (mMx mi) = true) (hp : x3.category = 1) (k : Go G l mi n (x0 :: x1 :: x2 :: x3 :: .long x :: .null :: lv) st M Q) : Go G l mi pc (x0 :: x1 :: x2 :: x3 :: y :: z :: lv) (.long x :: st) M Q := by
  intro p e s m args below meth c dC dI cA ad A H locs ls hC hW hL
  subst hn
  exact lv_lstore (i := 4) hC.1 hC.2.1 hd hL (Nat.le_of_ble_eq_true hm) rfl (fun ls' hl' => k p e s m args below meth c dC dI cA ad A H locs ls' hC hW (lv_put2 (i := 4) (v := .long x) (lv := x0 :: x1 :: x2 :: x3 :: y :: z :: lv) (fun u h0 hu => by (first | (cases hu; exact hp) | (exact absurd h0 (by decide)))) hl'))
theorem g_aload4 {G : Sh} {l : Launch} {mi : MI} {pc : Nat} {lv st : List Value} {M : Mm} {Q : Rr → Mm → Prop} {x0 x1 x2 x3 : Value} {x : Nat} (n : Nat) (hn : pc + 2 = n) (hd : decode (mBy mi) pc = .ok (.aload 4, 2)) (k : Go G l mi n (x0 :: x1 :: x2 :: x3 :: .ref x :: lv) (.ref x :: st) M Q) : Go G l mi pc (x0 :: x1 :: x2 :: x3 :: .ref x :: lv) st M Q := by
  intro p e s m args below meth c dC dI cA ad A H locs ls hC hW hL
  subst hn
  exact lv_aload hC.1 hC.2.1 hd (lv_get (i := 4) (v := .ref x) hL rfl (fun h => by cases h)) (k p e s m args below meth c dC dI cA ad A H locs ls hC hW hL)
theorem g_iload5 {G : Sh} {l : Launch} {mi : MI} {pc : Nat} {lv st : List Value} {M : Mm} {Q : Rr → Mm → Prop} {x0 x1 x2 x3 x4 : Value} {x : Int32} (n : Nat) (hn : pc + 2 = n) (hd : decode (mBy mi) pc = .ok (.iload 5, 2)) (k : Go G l mi n (x0 :: x1 :: x2 :: x3 :: x4 :: .int x :: lv) (.int x :: st) M Q) : Go G l mi pc (x0 :: x1 :: x2 :: x3 :: x4 :: .int x :: lv) st M Q := by
  intro p e s m args below meth c dC dI cA ad A H locs ls hC hW hL
  subst hn
  exact lv_iload hC.1 hC.2.1 hd (lv_get (i := 5) (v := .int x) hL rfl (fun h => by cases h)) (k p e s m args below meth c dC dI cA ad A H locs ls hC hW hL)
theorem g_istore5 {G : Sh} {l : Launch} {mi : MI} {pc : Nat} {lv st : List Value} {M : Mm} {Q : Rr → Mm → Prop} {x0 x1 x2 x3 x4 : Value} {y : Value} {x : Int32} (n : Nat) (hn : pc + 2 = n) (hd : decode (mBy mi) pc = .ok (.istore 5, 2)) (hm : Nat.ble 6 (mMx mi) = true) (hp : x4.category = 1) (k : Go G l mi n (x0 :: x1 :: x2 :: x3 :: x4 :: .int x :: lv) st M Q) : Go G l mi pc (x0 :: x1 :: x2 :: x3 :: x4 :: y :: lv) (.int x :: st) M Q := by
  intro p e s m args below meth c dC dI cA ad A H locs ls hC hW hL
  subst hn
  exact lv_istore (i := 5) hC.1 hC.2.1 hd hL (Nat.le_of_ble_eq_true hm) rfl (fun ls' hl' => k p e s m args below meth c dC dI cA ad A H locs ls' hC hW (lv_put1 (i := 5) (v := .int x) (lv := x0 :: x1 :: x2 :: x3 :: x4 :: y :: lv) (fun u h0 hu => by (first | (cases hu; exact hp) | (exact absurd h0 (by decide)))) hl'))
theorem g_iinc5 {G : Sh} {l : Launch} {mi : MI} {pc : Nat} {lv st : List Value} {M : Mm} {Q : Rr → Mm → Prop} {x0 x1 x2 x3 x4 : Value} {x : Int32} {a : Int} (n : Nat) (hn : pc + 3 = n) (hd : decode (mBy mi) pc = .ok (.iinc 5 a, 3)) (hm : Nat.ble 6 (mMx mi) = true) (hp : x4.category = 1) (v : Int32) (hv : x + Int32.ofInt a = v) (k : Go G l mi n (x0 :: x1 :: x2 :: x3 :: x4 :: .int v :: lv) st M Q) : Go G l mi pc (x0 :: x1 :: x2 :: x3 :: x4 :: .int x :: lv) st M Q := by
  intro p e s m args below meth c dC dI cA ad A H locs ls hC hW hL
  subst hn
  obtain ⟨z, hz⟩ := List.getElem?_of_mem (asl_mem (ad := ad) (lv := x0 :: x1 :: x2 :: x3 :: x4 :: .int x :: lv) (q := (5, .int x)) |>.mpr ⟨.int x, rfl, (fun h => by cases h), rfl⟩)
  exact lv_iinc (i := 5) hC.1 hC.2.1 hd hL hz hv (Nat.le_of_ble_eq_true hm) rfl (fun ls' hl' => k p e s m args below meth c dC dI cA ad A H locs ls' hC hW (lv_put1 (i := 5) (v := .int v) (lv := x0 :: x1 :: x2 :: x3 :: x4 :: .int x :: lv) (fun u h0 hu => by (first | (cases hu; exact hp) | (exact absurd h0 (by decide)))) hl'))
theorem g_lload5 {G : Sh} {l : Launch} {mi : MI} {pc : Nat} {lv st : List Value} {M : Mm} {Q : Rr → Mm → Prop} {x0 x1 x2 x3 x4 : Value} {x : Int64} (n : Nat) (hn : pc + 2 = n) (hd : decode (mBy mi) pc = .ok (.lload 5, 2)) (k : Go G l mi n (x0 :: x1 :: x2 :: x3 :: x4 :: .long x :: lv) (.long x :: st) M Q) : Go G l mi pc (x0 :: x1 :: x2 :: x3 :: x4 :: .long x :: lv) st M Q := by
  intro p e s m args below meth c dC dI cA ad A H locs ls hC hW hL
  subst hn
  exact lv_lload hC.1 hC.2.1 hd (lv_get (i := 5) (v := .long x) hL rfl (fun h => by cases h)) (k p e s m args below meth c dC dI cA ad A H locs ls hC hW hL)
theorem g_lstore5 {G : Sh} {l : Launch} {mi : MI} {pc : Nat} {lv st : List Value} {M : Mm} {Q : Rr → Mm → Prop} {x0 x1 x2 x3 x4 : Value} {y z : Value} {x : Int64} (n : Nat) (hn : pc + 2 = n) (hd : decode (mBy mi) pc = .ok (.lstore 5, 2)) (hm : Nat.ble 7 (mMx mi) = true) (hp : x4.category = 1) (k : Go G l mi n (x0 :: x1 :: x2 :: x3 :: x4 :: .long x :: .null :: lv) st M Q) : Go G l mi pc (x0 :: x1 :: x2 :: x3 :: x4 :: y :: z :: lv) (.long x :: st) M Q := by
  intro p e s m args below meth c dC dI cA ad A H locs ls hC hW hL
  subst hn
  exact lv_lstore (i := 5) hC.1 hC.2.1 hd hL (Nat.le_of_ble_eq_true hm) rfl (fun ls' hl' => k p e s m args below meth c dC dI cA ad A H locs ls' hC hW (lv_put2 (i := 5) (v := .long x) (lv := x0 :: x1 :: x2 :: x3 :: x4 :: y :: z :: lv) (fun u h0 hu => by (first | (cases hu; exact hp) | (exact absurd h0 (by decide)))) hl'))
theorem g_aload5 {G : Sh} {l : Launch} {mi : MI} {pc : Nat} {lv st : List Value} {M : Mm} {Q : Rr → Mm → Prop} {x0 x1 x2 x3 x4 : Value} {x : Nat} (n : Nat) (hn : pc + 2 = n) (hd : decode (mBy mi) pc = .ok (.aload 5, 2)) (k : Go G l mi n (x0 :: x1 :: x2 :: x3 :: x4 :: .ref x :: lv) (.ref x :: st) M Q) : Go G l mi pc (x0 :: x1 :: x2 :: x3 :: x4 :: .ref x :: lv) st M Q := by
  intro p e s m args below meth c dC dI cA ad A H locs ls hC hW hL
  subst hn
  exact lv_aload hC.1 hC.2.1 hd (lv_get (i := 5) (v := .ref x) hL rfl (fun h => by cases h)) (k p e s m args below meth c dC dI cA ad A H locs ls hC hW hL)
theorem g_iload6 {G : Sh} {l : Launch} {mi : MI} {pc : Nat} {lv st : List Value} {M : Mm} {Q : Rr → Mm → Prop} {x0 x1 x2 x3 x4 x5 : Value} {x : Int32} (n : Nat) (hn : pc + 2 = n) (hd : decode (mBy mi) pc = .ok (.iload 6, 2)) (k : Go G l mi n (x0 :: x1 :: x2 :: x3 :: x4 :: x5 :: .int x :: lv) (.int x :: st) M Q) : Go G l mi pc (x0 :: x1 :: x2 :: x3 :: x4 :: x5 :: .int x :: lv) st M Q := by
  intro p e s m args below meth c dC dI cA ad A H locs ls hC hW hL
  subst hn
  exact lv_iload hC.1 hC.2.1 hd (lv_get (i := 6) (v := .int x) hL rfl (fun h => by cases h)) (k p e s m args below meth c dC dI cA ad A H locs ls hC hW hL)
theorem g_istore6 {G : Sh} {l : Launch} {mi : MI} {pc : Nat} {lv st : List Value} {M : Mm} {Q : Rr → Mm → Prop} {x0 x1 x2 x3 x4 x5 : Value} {y : Value} {x : Int32} (n : Nat) (hn : pc + 2 = n) (hd : decode (mBy mi) pc = .ok (.istore 6, 2)) (hm : Nat.ble 7 (mMx mi) = true) (hp : x5.category = 1) (k : Go G l mi n (x0 :: x1 :: x2 :: x3 :: x4 :: x5 :: .int x :: lv) st M Q) : Go G l mi pc (x0 :: x1 :: x2 :: x3 :: x4 :: x5 :: y :: lv) (.int x :: st) M Q := by
  intro p e s m args below meth c dC dI cA ad A H locs ls hC hW hL
  subst hn
  exact lv_istore (i := 6) hC.1 hC.2.1 hd hL (Nat.le_of_ble_eq_true hm) rfl (fun ls' hl' => k p e s m args below meth c dC dI cA ad A H locs ls' hC hW (lv_put1 (i := 6) (v := .int x) (lv := x0 :: x1 :: x2 :: x3 :: x4 :: x5 :: y :: lv) (fun u h0 hu => by (first | (cases hu; exact hp) | (exact absurd h0 (by decide)))) hl'))
theorem g_iinc6 {G : Sh} {l : Launch} {mi : MI} {pc : Nat} {lv st : List Value} {M : Mm} {Q : Rr → Mm → Prop} {x0 x1 x2 x3 x4 x5 : Value} {x : Int32} {a : Int} (n : Nat) (hn : pc + 3 = n) (hd : decode (mBy mi) pc = .ok (.iinc 6 a, 3)) (hm : Nat.ble 7 (mMx mi) = true) (hp : x5.category = 1) (v : Int32) (hv : x + Int32.ofInt a = v) (k : Go G l mi n (x0 :: x1 :: x2 :: x3 :: x4 :: x5 :: .int v :: lv) st M Q) : Go G l mi pc (x0 :: x1 :: x2 :: x3 :: x4 :: x5 :: .int x :: lv) st M Q := by
  intro p e s m args below meth c dC dI cA ad A H locs ls hC hW hL
  subst hn
  obtain ⟨z, hz⟩ := List.getElem?_of_mem (asl_mem (ad := ad) (lv := x0 :: x1 :: x2 :: x3 :: x4 :: x5 :: .int x :: lv) (q := (6, .int x)) |>.mpr ⟨.int x, rfl, (fun h => by cases h), rfl⟩)
  exact lv_iinc (i := 6) hC.1 hC.2.1 hd hL hz hv (Nat.le_of_ble_eq_true hm) rfl (fun ls' hl' => k p e s m args below meth c dC dI cA ad A H locs ls' hC hW (lv_put1 (i := 6) (v := .int v) (lv := x0 :: x1 :: x2 :: x3 :: x4 :: x5 :: .int x :: lv) (fun u h0 hu => by (first | (cases hu; exact hp) | (exact absurd h0 (by decide)))) hl'))
theorem g_lload6 {G : Sh} {l : Launch} {mi : MI} {pc : Nat} {lv st : List Value} {M : Mm} {Q : Rr → Mm → Prop} {x0 x1 x2 x3 x4 x5 : Value} {x : Int64} (n : Nat) (hn : pc + 2 = n) (hd : decode (mBy mi) pc = .ok (.lload 6, 2)) (k : Go G l mi n (x0 :: x1 :: x2 :: x3 :: x4 :: x5 :: .long x :: lv) (.long x :: st) M Q) : Go G l mi pc (x0 :: x1 :: x2 :: x3 :: x4 :: x5 :: .long x :: lv) st M Q := by
  intro p e s m args below meth c dC dI cA ad A H locs ls hC hW hL
  subst hn
  exact lv_lload hC.1 hC.2.1 hd (lv_get (i := 6) (v := .long x) hL rfl (fun h => by cases h)) (k p e s m args below meth c dC dI cA ad A H locs ls hC hW hL)
theorem g_lstore6 {G : Sh} {l : Launch} {mi : MI} {pc : Nat} {lv st : List Value} {M : Mm} {Q : Rr → Mm → Prop} {x0 x1 x2 x3 x4 x5 : Value} {y z : Value} {x : Int64} (n : Nat) (hn : pc + 2 = n) (hd : decode (mBy mi) pc = .ok (.lstore 6, 2)) (hm : Nat.ble 8 (mMx mi) = true) (hp : x5.category = 1) (k : Go G l mi n (x0 :: x1 :: x2 :: x3 :: x4 :: x5 :: .long x :: .null :: lv) st M Q) : Go G l mi pc (x0 :: x1 :: x2 :: x3 :: x4 :: x5 :: y :: z :: lv) (.long x :: st) M Q := by
  intro p e s m args below meth c dC dI cA ad A H locs ls hC hW hL
  subst hn
  exact lv_lstore (i := 6) hC.1 hC.2.1 hd hL (Nat.le_of_ble_eq_true hm) rfl (fun ls' hl' => k p e s m args below meth c dC dI cA ad A H locs ls' hC hW (lv_put2 (i := 6) (v := .long x) (lv := x0 :: x1 :: x2 :: x3 :: x4 :: x5 :: y :: z :: lv) (fun u h0 hu => by (first | (cases hu; exact hp) | (exact absurd h0 (by decide)))) hl'))
theorem g_aload6 {G : Sh} {l : Launch} {mi : MI} {pc : Nat} {lv st : List Value} {M : Mm} {Q : Rr → Mm → Prop} {x0 x1 x2 x3 x4 x5 : Value} {x : Nat} (n : Nat) (hn : pc + 2 = n) (hd : decode (mBy mi) pc = .ok (.aload 6, 2)) (k : Go G l mi n (x0 :: x1 :: x2 :: x3 :: x4 :: x5 :: .ref x :: lv) (.ref x :: st) M Q) : Go G l mi pc (x0 :: x1 :: x2 :: x3 :: x4 :: x5 :: .ref x :: lv) st M Q := by
  intro p e s m args below meth c dC dI cA ad A H locs ls hC hW hL
  subst hn
  exact lv_aload hC.1 hC.2.1 hd (lv_get (i := 6) (v := .ref x) hL rfl (fun h => by cases h)) (k p e s m args below meth c dC dI cA ad A H locs ls hC hW hL)
theorem g_iload7 {G : Sh} {l : Launch} {mi : MI} {pc : Nat} {lv st : List Value} {M : Mm} {Q : Rr → Mm → Prop} {x0 x1 x2 x3 x4 x5 x6 : Value} {x : Int32} (n : Nat) (hn : pc + 2 = n) (hd : decode (mBy mi) pc = .ok (.iload 7, 2)) (k : Go G l mi n (x0 :: x1 :: x2 :: x3 :: x4 :: x5 :: x6 :: .int x :: lv) (.int x :: st) M Q) : Go G l mi pc (x0 :: x1 :: x2 :: x3 :: x4 :: x5 :: x6 :: .int x :: lv) st M Q := by
  intro p e s m args below meth c dC dI cA ad A H locs ls hC hW hL
  subst hn
  exact lv_iload hC.1 hC.2.1 hd (lv_get (i := 7) (v := .int x) hL rfl (fun h => by cases h)) (k p e s m args below meth c dC dI cA ad A H locs ls hC hW hL)
theorem g_istore7 {G : Sh} {l : Launch} {mi : MI} {pc : Nat} {lv st : List Value} {M : Mm} {Q : Rr → Mm → Prop} {x0 x1 x2 x3 x4 x5 x6 : Value} {y : Value} {x : Int32} (n : Nat) (hn : pc + 2 = n) (hd : decode (mBy mi) pc = .ok (.istore 7, 2)) (hm : Nat.ble 8 (mMx mi) = true) (hp : x6.category = 1) (k : Go G l mi n (x0 :: x1 :: x2 :: x3 :: x4 :: x5 :: x6 :: .int x :: lv) st M Q) : Go G l mi pc (x0 :: x1 :: x2 :: x3 :: x4 :: x5 :: x6 :: y :: lv) (.int x :: st) M Q := by
  intro p e s m args below meth c dC dI cA ad A H locs ls hC hW hL
  subst hn
  exact lv_istore (i := 7) hC.1 hC.2.1 hd hL (Nat.le_of_ble_eq_true hm) rfl (fun ls' hl' => k p e s m args below meth c dC dI cA ad A H locs ls' hC hW (lv_put1 (i := 7) (v := .int x) (lv := x0 :: x1 :: x2 :: x3 :: x4 :: x5 :: x6 :: y :: lv) (fun u h0 hu => by (first | (cases hu; exact hp) | (exact absurd h0 (by decide)))) hl'))
theorem g_iinc7 {G : Sh} {l : Launch} {mi : MI} {pc : Nat} {lv st : List Value} {M : Mm} {Q : Rr → Mm → Prop} {x0 x1 x2 x3 x4 x5 x6 : Value} {x : Int32} {a : Int} (n : Nat) (hn : pc + 3 = n) (hd : decode (mBy mi) pc = .ok (.iinc 7 a, 3)) (hm : Nat.ble 8 (mMx mi) = true) (hp : x6.category = 1) (v : Int32) (hv : x + Int32.ofInt a = v) (k : Go G l mi n (x0 :: x1 :: x2 :: x3 :: x4 :: x5 :: x6 :: .int v :: lv) st M Q) : Go G l mi pc (x0 :: x1 :: x2 :: x3 :: x4 :: x5 :: x6 :: .int x :: lv) st M Q := by
  intro p e s m args below meth c dC dI cA ad A H locs ls hC hW hL
  subst hn
  obtain ⟨z, hz⟩ := List.getElem?_of_mem (asl_mem (ad := ad) (lv := x0 :: x1 :: x2 :: x3 :: x4 :: x5 :: x6 :: .int x :: lv) (q := (7, .int x)) |>.mpr ⟨.int x, rfl, (fun h => by cases h), rfl⟩)
  exact lv_iinc (i := 7) hC.1 hC.2.1 hd hL hz hv (Nat.le_of_ble_eq_true hm) rfl (fun ls' hl' => k p e s m args below meth c dC dI cA ad A H locs ls' hC hW (lv_put1 (i := 7) (v := .int v) (lv := x0 :: x1 :: x2 :: x3 :: x4 :: x5 :: x6 :: .int x :: lv) (fun u h0 hu => by (first | (cases hu; exact hp) | (exact absurd h0 (by decide)))) hl'))
theorem g_lload7 {G : Sh} {l : Launch} {mi : MI} {pc : Nat} {lv st : List Value} {M : Mm} {Q : Rr → Mm → Prop} {x0 x1 x2 x3 x4 x5 x6 : Value} {x : Int64} (n : Nat) (hn : pc + 2 = n) (hd : decode (mBy mi) pc = .ok (.lload 7, 2)) (k : Go G l mi n (x0 :: x1 :: x2 :: x3 :: x4 :: x5 :: x6 :: .long x :: lv) (.long x :: st) M Q) : Go G l mi pc (x0 :: x1 :: x2 :: x3 :: x4 :: x5 :: x6 :: .long x :: lv) st M Q := by
  intro p e s m args below meth c dC dI cA ad A H locs ls hC hW hL
  subst hn
  exact lv_lload hC.1 hC.2.1 hd (lv_get (i := 7) (v := .long x) hL rfl (fun h => by cases h)) (k p e s m args below meth c dC dI cA ad A H locs ls hC hW hL)
theorem g_lstore7 {G : Sh} {l : Launch} {mi : MI} {pc : Nat} {lv st : List Value} {M : Mm} {Q : Rr → Mm → Prop} {x0 x1 x2 x3 x4 x5 x6 : Value} {y z : Value} {x : Int64} (n : Nat) (hn : pc + 2 = n) (hd : decode (mBy mi) pc = .ok (.lstore 7, 2)) (hm : Nat.ble 9 (mMx mi) = true) (hp : x6.category = 1) (k : Go G l mi n (x0 :: x1 :: x2 :: x3 :: x4 :: x5 :: x6 :: .long x :: .null :: lv) st M Q) : Go G l mi pc (x0 :: x1 :: x2 :: x3 :: x4 :: x5 :: x6 :: y :: z :: lv) (.long x :: st) M Q := by
  intro p e s m args below meth c dC dI cA ad A H locs ls hC hW hL
  subst hn
  exact lv_lstore (i := 7) hC.1 hC.2.1 hd hL (Nat.le_of_ble_eq_true hm) rfl (fun ls' hl' => k p e s m args below meth c dC dI cA ad A H locs ls' hC hW (lv_put2 (i := 7) (v := .long x) (lv := x0 :: x1 :: x2 :: x3 :: x4 :: x5 :: x6 :: y :: z :: lv) (fun u h0 hu => by (first | (cases hu; exact hp) | (exact absurd h0 (by decide)))) hl'))
theorem g_aload7 {G : Sh} {l : Launch} {mi : MI} {pc : Nat} {lv st : List Value} {M : Mm} {Q : Rr → Mm → Prop} {x0 x1 x2 x3 x4 x5 x6 : Value} {x : Nat} (n : Nat) (hn : pc + 2 = n) (hd : decode (mBy mi) pc = .ok (.aload 7, 2)) (k : Go G l mi n (x0 :: x1 :: x2 :: x3 :: x4 :: x5 :: x6 :: .ref x :: lv) (.ref x :: st) M Q) : Go G l mi pc (x0 :: x1 :: x2 :: x3 :: x4 :: x5 :: x6 :: .ref x :: lv) st M Q := by
  intro p e s m args below meth c dC dI cA ad A H locs ls hC hW hL
  subst hn
  exact lv_aload hC.1 hC.2.1 hd (lv_get (i := 7) (v := .ref x) hL rfl (fun h => by cases h)) (k p e s m args below meth c dC dI cA ad A H locs ls hC hW hL)
theorem g_iload8 {G : Sh} {l : Launch} {mi : MI} {pc : Nat} {lv st : List Value} {M : Mm} {Q : Rr → Mm → Prop} {x0 x1 x2 x3 x4 x5 x6 x7 : Value} {x : Int32} (n : Nat) (hn : pc + 2 = n) (hd : decode (mBy mi) pc = .ok (.iload 8, 2)) (k : Go G l mi n (x0 :: x1 :: x2 :: x3 :: x4 :: x5 :: x6 :: x7 :: .int x :: lv) (.int x :: st) M Q) : Go G l mi pc (x0 :: x1 :: x2 :: x3 :: x4 :: x5 :: x6 :: x7 :: .int x :: lv) st M Q := by
  intro p e s m args below meth c dC dI cA ad A H locs ls hC hW hL
  subst hn
  exact lv_iload hC.1 hC.2.1 hd (lv_get (i := 8) (v := .int x) hL rfl (fun h => by cases h)) (k p e s m args below meth c dC dI cA ad A H locs ls hC hW hL)
theorem g_istore8 {G : Sh} {l : Launch} {mi : MI} {pc : Nat} {lv st : List Value} {M : Mm} {Q : Rr → Mm → Prop} {x0 x1 x2 x3 x4 x5 x6 x7 : Value} {y : Value} {x : Int32} (n : Nat) (hn : pc + 2 = n) (hd : decode (mBy mi) pc = .ok (.istore 8, 2)) (hm : Nat.ble 9 (mMx mi) = true) (hp : x7.category = 1) (k : Go G l mi n (x0 :: x1 :: x2 :: x3 :: x4 :: x5 :: x6 :: x7 :: .int x :: lv) st M Q) : Go G l mi pc (x0 :: x1 :: x2 :: x3 :: x4 :: x5 :: x6 :: x7 :: y :: lv) (.int x :: st) M Q := by
  intro p e s m args below meth c dC dI cA ad A H locs ls hC hW hL
  subst hn
  exact lv_istore (i := 8) hC.1 hC.2.1 hd hL (Nat.le_of_ble_eq_true hm) rfl (fun ls' hl' => k p e s m args below meth c dC dI cA ad A H locs ls' hC hW (lv_put1 (i := 8) (v := .int x) (lv := x0 :: x1 :: x2 :: x3 :: x4 :: x5 :: x6 :: x7 :: y :: lv) (fun u h0 hu => by (first | (cases hu; exact hp) | (exact absurd h0 (by decide)))) hl'))
theorem g_iinc8 {G : Sh} {l : Launch} {mi : MI} {pc : Nat} {lv st : List Value} {M : Mm} {Q : Rr → Mm → Prop} {x0 x1 x2 x3 x4 x5 x6 x7 : Value} {x : Int32} {a : Int} (n : Nat) (hn : pc + 3 = n) (hd : decode (mBy mi) pc = .ok (.iinc 8 a, 3)) (hm : Nat.ble 9 (mMx mi) = true) (hp : x7.category = 1) (v : Int32) (hv : x + Int32.ofInt a = v) (k : Go G l mi n (x0 :: x1 :: x2 :: x3 :: x4 :: x5 :: x6 :: x7 :: .int v :: lv) st M Q) : Go G l mi pc (x0 :: x1 :: x2 :: x3 :: x4 :: x5 :: x6 :: x7 :: .int x :: lv) st M Q := by
  intro p e s m args below meth c dC dI cA ad A H locs ls hC hW hL
  subst hn
  obtain ⟨z, hz⟩ := List.getElem?_of_mem (asl_mem (ad := ad) (lv := x0 :: x1 :: x2 :: x3 :: x4 :: x5 :: x6 :: x7 :: .int x :: lv) (q := (8, .int x)) |>.mpr ⟨.int x, rfl, (fun h => by cases h), rfl⟩)
  exact lv_iinc (i := 8) hC.1 hC.2.1 hd hL hz hv (Nat.le_of_ble_eq_true hm) rfl (fun ls' hl' => k p e s m args below meth c dC dI cA ad A H locs ls' hC hW (lv_put1 (i := 8) (v := .int v) (lv := x0 :: x1 :: x2 :: x3 :: x4 :: x5 :: x6 :: x7 :: .int x :: lv) (fun u h0 hu => by (first | (cases hu; exact hp) | (exact absurd h0 (by decide)))) hl'))
theorem g_lload8 {G : Sh} {l : Launch} {mi : MI} {pc : Nat} {lv st : List Value} {M : Mm} {Q : Rr → Mm → Prop} {x0 x1 x2 x3 x4 x5 x6 x7 : Value} {x : Int64} (n : Nat) (hn : pc + 2 = n) (hd : decode (mBy mi) pc = .ok (.lload 8, 2)) (k : Go G l mi n (x0 :: x1 :: x2 :: x3 :: x4 :: x5 :: x6 :: x7 :: .long x :: lv) (.long x :: st) M Q) : Go G l mi pc (x0 :: x1 :: x2 :: x3 :: x4 :: x5 :: x6 :: x7 :: .long x :: lv) st M Q := by
  intro p e s m args below meth c dC dI cA ad A H locs ls hC hW hL
  subst hn
  exact lv_lload hC.1 hC.2.1 hd (lv_get (i := 8) (v := .long x) hL rfl (fun h => by cases h)) (k p e s m args below meth c dC dI cA ad A H locs ls hC hW hL)
theorem g_lstore8 {G : Sh} {l : Launch} {mi : MI} {pc : Nat} {lv st : List Value} {M : Mm} {Q : Rr → Mm → Prop} {x0 x1 x2 x3 x4 x5 x6 x7 : Value} {y z : Value} {x : Int64} (n : Nat) (hn : pc + 2 = n) (hd : decode (mBy mi) pc = .ok (.lstore 8, 2)) (hm : Nat.ble 10 (mMx mi) = true) (hp : x7.category = 1) (k : Go G l mi n (x0 :: x1 :: x2 :: x3 :: x4 :: x5 :: x6 :: x7 :: .long x :: .null :: lv) st M Q) : Go G l mi pc (x0 :: x1 :: x2 :: x3 :: x4 :: x5 :: x6 :: x7 :: y :: z :: lv) (.long x :: st) M Q := by
  intro p e s m args below meth c dC dI cA ad A H locs ls hC hW hL
  subst hn
  exact lv_lstore (i := 8) hC.1 hC.2.1 hd hL (Nat.le_of_ble_eq_true hm) rfl (fun ls' hl' => k p e s m args below meth c dC dI cA ad A H locs ls' hC hW (lv_put2 (i := 8) (v := .long x) (lv := x0 :: x1 :: x2 :: x3 :: x4 :: x5 :: x6 :: x7 :: y :: z :: lv) (fun u h0 hu => by (first | (cases hu; exact hp) | (exact absurd h0 (by decide)))) hl'))
theorem g_aload8 {G : Sh} {l : Launch} {mi : MI} {pc : Nat} {lv st : List Value} {M : Mm} {Q : Rr → Mm → Prop} {x0 x1 x2 x3 x4 x5 x6 x7 : Value} {x : Nat} (n : Nat) (hn : pc + 2 = n) (hd : decode (mBy mi) pc = .ok (.aload 8, 2)) (k : Go G l mi n (x0 :: x1 :: x2 :: x3 :: x4 :: x5 :: x6 :: x7 :: .ref x :: lv) (.ref x :: st) M Q) : Go G l mi pc (x0 :: x1 :: x2 :: x3 :: x4 :: x5 :: x6 :: x7 :: .ref x :: lv) st M Q := by
  intro p e s m args below meth c dC dI cA ad A H locs ls hC hW hL
  subst hn
  exact lv_aload hC.1 hC.2.1 hd (lv_get (i := 8) (v := .ref x) hL rfl (fun h => by cases h)) (k p e s m args below meth c dC dI cA ad A H locs ls hC hW hL)
theorem g_iload9 {G : Sh} {l : Launch} {mi : MI} {pc : Nat} {lv st : List Value} {M : Mm} {Q : Rr → Mm → Prop} {x0 x1 x2 x3 x4 x5 x6 x7 x8 : Value} {x : Int32} (n : Nat) (hn : pc + 2 = n) (hd : decode (mBy mi) pc = .ok (.iload 9, 2)) (k : Go G l mi n (x0 :: x1 :: x2 :: x3 :: x4 :: x5 :: x6 :: x7 :: x8 :: .int x :: lv) (.int x :: st) M Q) : Go G l mi pc (x0 :: x1 :: x2 :: x3 :: x4 :: x5 :: x6 :: x7 :: x8 :: .int x :: lv) st M Q := by
  intro p e s m args below meth c dC dI cA ad A H locs ls hC hW hL
  subst hn
  exact lv_iload hC.1 hC.2.1 hd (lv_get (i := 9) (v := .int x) hL rfl (fun h => by cases h)) (k p e s m args below meth c dC dI cA ad A H locs ls hC hW hL)
theorem g_istore9 {G : Sh} {l : Launch} {mi : MI} {pc : Nat} {lv st : List Value} {M : Mm} {Q : Rr → Mm → Prop} {x0 x1 x2 x3 x4 x5 x6 x7 x8 : Value} {y : Value} {x : Int32} (n : Nat) (hn : pc + 2 = n) (hd : decode (mBy mi) pc = .ok (.istore 9, 2)) (hm : Nat.ble 10 (mMx mi) = true) (hp : x8.category = 1) (k : Go G l mi n (x0 :: x1 :: x2 :: x3 :: x4 :: x5 :: x6 :: x7 :: x8 :: .int x :: lv) st M Q) : Go G l mi pc (x0 :: x1 :: x2 :: x3 :: x4 :: x5 :: x6 :: x7 :: x8 :: y :: lv) (.int x :: st) M Q := by
  intro p e s m args below meth c dC dI cA ad A H locs ls hC hW hL
  subst hn
  exact lv_istore (i := 9) hC.1 hC.2.1 hd hL (Nat.le_of_ble_eq_true hm) rfl (fun ls' hl' => k p e s m args below meth c dC dI cA ad A H locs ls' hC hW (lv_put1 (i := 9) (v := .int x) (lv := x0 :: x1 :: x2 :: x3 :: x4 :: x5 :: x6 :: x7 :: x8 :: y :: lv) (fun u h0 hu => by (first | (cases hu; exact hp) | (exact absurd h0 (by decide)))) hl'))
theorem g_iinc9 {G : Sh} {l : Launch} {mi : MI} {pc : Nat} {lv st : List Value} {M : Mm} {Q : Rr → Mm → Prop} {x0 x1 x2 x3 x4 x5 x6 x7 x8 : Value} {x : Int32} {a : Int} (n : Nat) (hn : pc + 3 = n) (hd : decode (mBy mi) pc = .ok (.iinc 9 a, 3)) (hm : Nat.ble 10 (mMx mi) = true) (hp : x8.category = 1) (v : Int32) (hv : x + Int32.ofInt a = v) (k : Go G l mi n (x0 :: x1 :: x2 :: x3 :: x4 :: x5 :: x6 :: x7 :: x8 :: .int v :: lv) st M Q) : Go G l mi pc (x0 :: x1 :: x2 :: x3 :: x4 :: x5 :: x6 :: x7 :: x8 :: .int x :: lv) st M Q := by
  intro p e s m args below meth c dC dI cA ad A H locs ls hC hW hL
  subst hn
  obtain ⟨z, hz⟩ := List.getElem?_of_mem (asl_mem (ad := ad) (lv := x0 :: x1 :: x2 :: x3 :: x4 :: x5 :: x6 :: x7 :: x8 :: .int x :: lv) (q := (9, .int x)) |>.mpr ⟨.int x, rfl, (fun h => by cases h), rfl⟩)
  exact lv_iinc (i := 9) hC.1 hC.2.1 hd hL hz hv (Nat.le_of_ble_eq_true hm) rfl (fun ls' hl' => k p e s m args below meth c dC dI cA ad A H locs ls' hC hW (lv_put1 (i := 9) (v := .int v) (lv := x0 :: x1 :: x2 :: x3 :: x4 :: x5 :: x6 :: x7 :: x8 :: .int x :: lv) (fun u h0 hu => by (first | (cases hu; exact hp) | (exact absurd h0 (by decide)))) hl'))
theorem g_lload9 {G : Sh} {l : Launch} {mi : MI} {pc : Nat} {lv st : List Value} {M : Mm} {Q : Rr → Mm → Prop} {x0 x1 x2 x3 x4 x5 x6 x7 x8 : Value} {x : Int64} (n : Nat) (hn : pc + 2 = n) (hd : decode (mBy mi) pc = .ok (.lload 9, 2)) (k : Go G l mi n (x0 :: x1 :: x2 :: x3 :: x4 :: x5 :: x6 :: x7 :: x8 :: .long x :: lv) (.long x :: st) M Q) : Go G l mi pc (x0 :: x1 :: x2 :: x3 :: x4 :: x5 :: x6 :: x7 :: x8 :: .long x :: lv) st M Q := by
  intro p e s m args below meth c dC dI cA ad A H locs ls hC hW hL
  subst hn
  exact lv_lload hC.1 hC.2.1 hd (lv_get (i := 9) (v := .long x) hL rfl (fun h => by cases h)) (k p e s m args below meth c dC dI cA ad A H locs ls hC hW hL)
theorem g_lstore9 {G : Sh} {l : Launch} {mi : MI} {pc : Nat} {lv st : List Value} {M : Mm} {Q : Rr → Mm → Prop} {x0 x1 x2 x3 x4 x5 x6 x7 x8 : Value} {y z : Value} {x : Int64} (n : Nat) (hn : pc + 2 = n) (hd : decode (mBy mi) pc = .ok (.lstore 9, 2)) (hm : Nat.ble 11 (mMx mi) = true) (hp : x8.category = 1) (k : Go G l mi n (x0 :: x1 :: x2 :: x3 :: x4 :: x5 :: x6 :: x7 :: x8 :: .long x :: .null :: lv) st M Q) : Go G l mi pc (x0 :: x1 :: x2 :: x3 :: x4 :: x5 :: x6 :: x7 :: x8 :: y :: z :: lv) (.long x :: st) M Q := by
  intro p e s m args below meth c dC dI cA ad A H locs ls hC hW hL
  subst hn
  exact lv_lstore (i := 9) hC.1 hC.2.1 hd hL (Nat.le_of_ble_eq_true hm) rfl (fun ls' hl' => k p e s m args below meth c dC dI cA ad A H locs ls' hC hW (lv_put2 (i := 9) (v := .long x) (lv := x0 :: x1 :: x2 :: x3 :: x4 :: x5 :: x6 :: x7 :: x8 :: y :: z :: lv) (fun u h0 hu => by (first | (cases hu; exact hp) | (exact absurd h0 (by decide)))) hl'))
theorem g_aload9 {G : Sh} {l : Launch} {mi : MI} {pc : Nat} {lv st : List Value} {M : Mm} {Q : Rr → Mm → Prop} {x0 x1 x2 x3 x4 x5 x6 x7 x8 : Value} {x : Nat} (n : Nat) (hn : pc + 2 = n) (hd : decode (mBy mi) pc = .ok (.aload 9, 2)) (k : Go G l mi n (x0 :: x1 :: x2 :: x3 :: x4 :: x5 :: x6 :: x7 :: x8 :: .ref x :: lv) (.ref x :: st) M Q) : Go G l mi pc (x0 :: x1 :: x2 :: x3 :: x4 :: x5 :: x6 :: x7 :: x8 :: .ref x :: lv) st M Q := by
  intro p e s m args below meth c dC dI cA ad A H locs ls hC hW hL
  subst hn
  exact lv_aload hC.1 hC.2.1 hd (lv_get (i := 9) (v := .ref x) hL rfl (fun h => by cases h)) (k p e s m args below meth c dC dI cA ad A H locs ls hC hW hL)
theorem g_iload10 {G : Sh} {l : Launch} {mi : MI} {pc : Nat} {lv st : List Value} {M : Mm} {Q : Rr → Mm → Prop} {x0 x1 x2 x3 x4 x5 x6 x7 x8 x9 : Value} {x : Int32} (n : Nat) (hn : pc + 2 = n) (hd : decode (mBy mi) pc = .ok (.iload 10, 2)) (k : Go G l mi n (x0 :: x1 :: x2 :: x3 :: x4 :: x5 :: x6 :: x7 :: x8 :: x9 :: .int x :: lv) (.int x :: st) M Q) : Go G l mi pc (x0 :: x1 :: x2 :: x3 :: x4 :: x5 :: x6 :: x7 :: x8 :: x9 :: .int x :: lv) st M Q := by
  intro p e s m args below meth c dC dI cA ad A H locs ls hC hW hL
  subst hn
  exact lv_iload hC.1 hC.2.1 hd (lv_get (i := 10) (v := .int x) hL rfl (fun h => by cases h)) (k p e s m args below meth c dC dI cA ad A H locs ls hC hW hL)
theorem g_istore10 {G : Sh} {l : Launch} {mi : MI} {pc : Nat} {lv st : List Value} {M : Mm} {Q : Rr → Mm → Prop} {x0 x1 x2 x3 x4 x5 x6 x7 x8 x9 : Value} {y : Value} {x : Int32} (n : Nat) (hn : pc + 2 = n) (hd : decode (mBy mi) pc = .ok (.istore 10, 2)) (hm : Nat.ble 11 (mMx mi) = true) (hp : x9.category = 1) (k : Go G l mi n (x0 :: x1 :: x2 :: x3 :: x4 :: x5 :: x6 :: x7 :: x8 :: x9 :: .int x :: lv) st M Q) : Go G l mi pc (x0 :: x1 :: x2 :: x3 :: x4 :: x5 :: x6 :: x7 :: x8 :: x9 :: y :: lv) (.int x :: st) M Q := by
  intro p e s m args below meth c dC dI cA ad A H locs ls hC hW hL
  subst hn
  exact lv_istore (i := 10) hC.1 hC.2.1 hd hL (Nat.le_of_ble_eq_true hm) rfl (fun ls' hl' => k p e s m args below meth c dC dI cA ad A H locs ls' hC hW (lv_put1 (i := 10) (v := .int x) (lv := x0 :: x1 :: x2 :: x3 :: x4 :: x5 :: x6 :: x7 :: x8 :: x9 :: y :: lv) (fun u h0 hu => by (first | (cases hu; exact hp) | (exact absurd h0 (by decide)))) hl'))
theorem g_iinc10 {G : Sh} {l : Launch} {mi : MI} {pc : Nat} {lv st : List Value} {M : Mm} {Q : Rr → Mm → Prop} {x0 x1 x2 x3 x4 x5 x6 x7 x8 x9 : Value} {x : Int32} {a : Int} (n : Nat) (hn : pc + 3 = n) (hd : decode (mBy mi) pc = .ok (.iinc 10 a, 3)) (hm : Nat.ble 11 (mMx mi) = true) (hp : x9.category = 1) (v : Int32) (hv : x + Int32.ofInt a = v) (k : Go G l mi n (x0 :: x1 :: x2 :: x3 :: x4 :: x5 :: x6 :: x7 :: x8 :: x9 :: .int v :: lv) st M Q) : Go G l mi pc (x0 :: x1 :: x2 :: x3 :: x4 :: x5 :: x6 :: x7 :: x8 :: x9 :: .int x :: lv) st M Q := by
  intro p e s m args below meth c dC dI cA ad A H locs ls hC hW hL
  subst hn
  obtain ⟨z, hz⟩ := List.getElem?_of_mem (asl_mem (ad := ad) (lv := x0 :: x1 :: x2 :: x3 :: x4 :: x5 :: x6 :: x7 :: x8 :: x9 :: .int x :: lv) (q := (10, .int x)) |>.mpr ⟨.int x, rfl, (fun h => by cases h), rfl⟩)
  exact lv_iinc (i := 10) hC.1 hC.2.1 hd hL hz hv (Nat.le_of_ble_eq_true hm) rfl (fun ls' hl' => k p e s m args below meth c dC dI cA ad A H locs ls' hC hW (lv_put1 (i := 10) (v := .int v) (lv := x0 :: x1 :: x2 :: x3 :: x4 :: x5 :: x6 :: x7 :: x8 :: x9 :: .int x :: lv) (fun u h0 hu => by (first | (cases hu; exact hp) | (exact absurd h0 (by decide)))) hl'))
theorem g_lload10 {G : Sh} {l : Launch} {mi : MI} {pc : Nat} {lv st : List Value} {M : Mm} {Q : Rr → Mm → Prop} {x0 x1 x2 x3 x4 x5 x6 x7 x8 x9 : Value} {x : Int64} (n : Nat) (hn : pc + 2 = n) (hd : decode (mBy mi) pc = .ok (.lload 10, 2)) (k : Go G l mi n (x0 :: x1 :: x2 :: x3 :: x4 :: x5 :: x6 :: x7 :: x8 :: x9 :: .long x :: lv) (.long x :: st) M Q) : Go G l mi pc (x0 :: x1 :: x2 :: x3 :: x4 :: x5 :: x6 :: x7 :: x8 :: x9 :: .long x :: lv) st M Q := by
  intro p e s m args below meth c dC dI cA ad A H locs ls hC hW hL
  subst hn
  exact lv_lload hC.1 hC.2.1 hd (lv_get (i := 10) (v := .long x) hL rfl (fun h => by cases h)) (k p e s m args below meth c dC dI cA ad A H locs ls hC hW hL)
theorem g_lstore10 {G : Sh} {l : Launch} {mi : MI} {pc : Nat} {lv st : List Value} {M : Mm} {Q : Rr → Mm → Prop} {x0 x1 x2 x3 x4 x5 x6 x7 x8 x9 : Value} {y z : Value} {x : Int64} (n : Nat) (hn : pc + 2 = n) (hd : decode (mBy mi) pc = .ok (.lstore 10, 2)) (hm : Nat.ble 12 (mMx mi) = true) (hp : x9.category = 1) (k : Go G l mi n (x0 :: x1 :: x2 :: x3 :: x4 :: x5 :: x6 :: x7 :: x8 :: x9 :: .long x :: .null :: lv) st M Q) : Go G l mi pc (x0 :: x1 :: x2 :: x3 :: x4 :: x5 :: x6 :: x7 :: x8 :: x9 :: y :: z :: lv) (.long x :: st) M Q := by
  intro p e s m args below meth c dC dI cA ad A H locs ls hC hW hL
  subst hn
  exact lv_lstore (i := 10) hC.1 hC.2.1 hd hL (Nat.le_of_ble_eq_true hm) rfl (fun ls' hl' => k p e s m args below meth c dC dI cA ad A H locs ls' hC hW (lv_put2 (i := 10) (v := .long x) (lv := x0 :: x1 :: x2 :: x3 :: x4 :: x5 :: x6 :: x7 :: x8 :: x9 :: y :: z :: lv) (fun u h0 hu => by (first | (cases hu; exact hp) | (exact absurd h0 (by decide)))) hl'))
theorem g_aload10 {G : Sh} {l : Launch} {mi : MI} {pc : Nat} {lv st : List Value} {M : Mm} {Q : Rr → Mm → Prop} {x0 x1 x2 x3 x4 x5 x6 x7 x8 x9 : Value} {x : Nat} (n : Nat) (hn : pc + 2 = n) (hd : decode (mBy mi) pc = .ok (.aload 10, 2)) (k : Go G l mi n (x0 :: x1 :: x2 :: x3 :: x4 :: x5 :: x6 :: x7 :: x8 :: x9 :: .ref x :: lv) (.ref x :: st) M Q) : Go G l mi pc (x0 :: x1 :: x2 :: x3 :: x4 :: x5 :: x6 :: x7 :: x8 :: x9 :: .ref x :: lv) st M Q := by
  intro p e s m args below meth c dC dI cA ad A H locs ls hC hW hL
  subst hn
  exact lv_aload hC.1 hC.2.1 hd (lv_get (i := 10) (v := .ref x) hL rfl (fun h => by cases h)) (k p e s m args below meth c dC dI cA ad A H locs ls hC hW hL)
theorem g_iload11 {G : Sh} {l : Launch} {mi : MI} {pc : Nat} {lv st : List Value} {M : Mm} {Q : Rr → Mm → Prop} {x0 x1 x2 x3 x4 x5 x6 x7 x8 x9 x10 : Value} {x : Int32} (n : Nat) (hn : pc + 2 = n) (hd : decode (mBy mi) pc = .ok (.iload 11, 2)) (k : Go G l mi n (x0 :: x1 :: x2 :: x3 :: x4 :: x5 :: x6 :: x7 :: x8 :: x9 :: x10 :: .int x :: lv) (.int x :: st) M Q) : Go G l mi pc (x0 :: x1 :: x2 :: x3 :: x4 :: x5 :: x6 :: x7 :: x8 :: x9 :: x10 :: .int x :: lv) st M Q := by
  intro p e s m args below meth c dC dI cA ad A H locs ls hC hW hL
  subst hn
  exact lv_iload hC.1 hC.2.1 hd (lv_get (i := 11) (v := .int x) hL rfl (fun h => by cases h)) (k p e s m args below meth c dC dI cA ad A H locs ls hC hW hL)
theorem g_istore11 {G : Sh} {l : Launch} {mi : MI} {pc : Nat} {lv st : List Value} {M : Mm} {Q : Rr → Mm → Prop} {x0 x1 x2 x3 x4 x5 x6 x7 x8 x9 x10 : Value} {y : Value} {x : Int32} (n : Nat) (hn : pc + 2 = n) (hd : decode (mBy mi) pc = .ok (.istore 11, 2)) (hm : Nat.ble 12 (mMx mi) = true) (hp : x10.category = 1) (k : Go G l mi n (x0 :: x1 :: x2 :: x3 :: x4 :: x5 :: x6 :: x7 :: x8 :: x9 :: x10 :: .int x :: lv) st M Q) : Go G l mi pc (x0 :: x1 :: x2 :: x3 :: x4 :: x5 :: x6 :: x7 :: x8 :: x9 :: x10 :: y :: lv) (.int x :: st) M Q := by
  intro p e s m args below meth c dC dI cA ad A H locs ls hC hW hL
  subst hn
  exact lv_istore (i := 11) hC.1 hC.2.1 hd hL (Nat.le_of_ble_eq_true hm) rfl (fun ls' hl' => k p e s m args below meth c dC dI cA ad A H locs ls' hC hW (lv_put1 (i := 11) (v := .int x) (lv := x0 :: x1 :: x2 :: x3 :: x4 :: x5 :: x6 :: x7 :: x8 :: x9 :: x10 :: y :: lv) (fun u h0 hu => by (first | (cases hu; exact hp) | (exact absurd h0 (by decide)))) hl'))
theorem g_iinc11 {G : Sh} {l : Launch} {mi : MI} {pc : Nat} {lv st : List Value} {M : Mm} {Q : Rr → Mm → Prop} {x0 x1 x2 x3 x4 x5 x6 x7 x8 x9 x10 : Value} {x : Int32} {a : Int} (n : Nat) (hn : pc + 3 = n) (hd : decode (mBy mi) pc = .ok (.iinc 11 a, 3)) (hm : Nat.ble 12 (mMx mi) = true) (hp : x10.category = 1) (v : Int32) (hv : x + Int32.ofInt a = v) (k : Go G l mi n (x0 :: x1 :: x2 :: x3 :: x4 :: x5 :: x6 :: x7 :: x8 :: x9 :: x10 :: .int v :: lv) st M Q) : Go G l mi pc (x0 :: x1 :: x2 :: x3 :: x4 :: x5 :: x6 :: x7 :: x8 :: x9 :: x10 :: .int x :: lv) st M Q := by
  intro p e s m args below meth c dC dI cA ad A H locs ls hC hW hL
  subst hn
  obtain ⟨z, hz⟩ := List.getElem?_of_mem (asl_mem (ad := ad) (lv := x0 :: x1 :: x2 :: x3 :: x4 :: x5 :: x6 :: x7 :: x8 :: x9 :: x10 :: .int x :: lv) (q := (11, .int x)) |>.mpr ⟨.int x, rfl, (fun h => by cases h), rfl⟩)
  exact lv_iinc (i := 11) hC.1 hC.2.1 hd hL hz hv (Nat.le_of_ble_eq_true hm) rfl (fun ls' hl' => k p e s m args below meth c dC dI cA ad A H locs ls' hC hW (lv_put1 (i := 11) (v := .int v) (lv := x0 :: x1 :: x2 :: x3 :: x4 :: x5 :: x6 :: x7 :: x8 :: x9 :: x10 :: .int x :: lv) (fun u h0 hu => by (first | (cases hu; exact hp) | (exact absurd h0 (by decide)))) hl'))
theorem g_lload11 {G : Sh} {l : Launch} {mi : MI} {pc : Nat} {lv st : List Value} {M : Mm} {Q : Rr → Mm → Prop} {x0 x1 x2 x3 x4 x5 x6 x7 x8 x9 x10 : Value} {x : Int64} (n : Nat) (hn : pc + 2 = n) (hd : decode (mBy mi) pc = .ok (.lload 11, 2)) (k : Go G l mi n (x0 :: x1 :: x2 :: x3 :: x4 :: x5 :: x6 :: x7 :: x8 :: x9 :: x10 :: .long x :: lv) (.long x :: st) M Q) : Go G l mi pc (x0 :: x1 :: x2 :: x3 :: x4 :: x5 :: x6 :: x7 :: x8 :: x9 :: x10 :: .long x :: lv) st M Q := by
  intro p e s m args below meth c dC dI cA ad A H locs ls hC hW hL
  subst hn
  exact lv_lload hC.1 hC.2.1 hd (lv_get (i := 11) (v := .long x) hL rfl (fun h => by cases h)) (k p e s m args below meth c dC dI cA ad A H locs ls hC hW hL)
theorem g_lstore11 {G : Sh} {l : Launch} {mi : MI} {pc : Nat} {lv st : List Value} {M : Mm} {Q : Rr → Mm → Prop} {x0 x1 x2 x3 x4 x5 x6 x7 x8 x9 x10 : Value} {y z : Value} {x : Int64} (n : Nat) (hn : pc + 2 = n) (hd : decode (mBy mi) pc = .ok (.lstore 11, 2)) (hm : Nat.ble 13 (mMx mi) = true) (hp : x10.category = 1) (k : Go G l mi n (x0 :: x1 :: x2 :: x3 :: x4 :: x5 :: x6 :: x7 :: x8 :: x9 :: x10 :: .long x :: .null :: lv) st M Q) : Go G l mi pc (x0 :: x1 :: x2 :: x3 :: x4 :: x5 :: x6 :: x7 :: x8 :: x9 :: x10 :: y :: z :: lv) (.long x :: st) M Q := by
  intro p e s m args below meth c dC dI cA ad A H locs ls hC hW hL
  subst hn
  exact lv_lstore (i := 11) hC.1 hC.2.1 hd hL (Nat.le_of_ble_eq_true hm) rfl (fun ls' hl' => k p e s m args below meth c dC dI cA ad A H locs ls' hC hW (lv_put2 (i := 11) (v := .long x) (lv := x0 :: x1 :: x2 :: x3 :: x4 :: x5 :: x6 :: x7 :: x8 :: x9 :: x10 :: y :: z :: lv) (fun u h0 hu => by (first | (cases hu; exact hp) | (exact absurd h0 (by decide)))) hl'))
theorem g_aload11 {G : Sh} {l : Launch} {mi : MI} {pc : Nat} {lv st : List Value} {M : Mm} {Q : Rr → Mm → Prop} {x0 x1 x2 x3 x4 x5 x6 x7 x8 x9 x10 : Value} {x : Nat} (n : Nat) (hn : pc + 2 = n) (hd : decode (mBy mi) pc = .ok (.aload 11, 2)) (k : Go G l mi n (x0 :: x1 :: x2 :: x3 :: x4 :: x5 :: x6 :: x7 :: x8 :: x9 :: x10 :: .ref x :: lv) (.ref x :: st) M Q) : Go G l mi pc (x0 :: x1 :: x2 :: x3 :: x4 :: x5 :: x6 :: x7 :: x8 :: x9 :: x10 :: .ref x :: lv) st M Q := by
  intro p e s m args below meth c dC dI cA ad A H locs ls hC hW hL
  subst hn
  exact lv_aload hC.1 hC.2.1 hd (lv_get (i := 11) (v := .ref x) hL rfl (fun h => by cases h)) (k p e s m args below meth c dC dI cA ad A H locs ls hC hW hL)
theorem g_iload12 {G : Sh} {l : Launch} {mi : MI} {pc : Nat} {lv st : List Value} {M : Mm} {Q : Rr → Mm → Prop} {x0 x1 x2 x3 x4 x5 x6 x7 x8 x9 x10 x11 : Value} {x : Int32} (n : Nat) (hn : pc + 2 = n) (hd : decode (mBy mi) pc = .ok (.iload 12, 2)) (k : Go G l mi n (x0 :: x1 :: x2 :: x3 :: x4 :: x5 :: x6 :: x7 :: x8 :: x9 :: x10 :: x11 :: .int x :: lv) (.int x :: st) M Q) : Go G l mi pc (x0 :: x1 :: x2 :: x3 :: x4 :: x5 :: x6 :: x7 :: x8 :: x9 :: x10 :: x11 :: .int x :: lv) st M Q := by
  intro p e s m args below meth c dC dI cA ad A H locs ls hC hW hL
  subst hn
  exact lv_iload hC.1 hC.2.1 hd (lv_get (i := 12) (v := .int x) hL rfl (fun h => by cases h)) (k p e s m args below meth c dC dI cA ad A H locs ls hC hW hL)
theorem g_istore12 {G : Sh} {l : Launch} {mi : MI} {pc : Nat} {lv st : List Value} {M : Mm} {Q : Rr → Mm → Prop} {x0 x1 x2 x3 x4 x5 x6 x7 x8 x9 x10 x11 : Value} {y : Value} {x : Int32} (n : Nat) (hn : pc + 2 = n) (hd : decode (mBy mi) pc = .ok (.istore 12, 2)) (hm : Nat.ble 13 (mMx mi) = true) (hp : x11.category = 1) (k : Go G l mi n (x0 :: x1 :: x2 :: x3 :: x4 :: x5 :: x6 :: x7 :: x8 :: x9 :: x10 :: x11 :: .int x :: lv) st M Q) : Go G l mi pc (x0 :: x1 :: x2 :: x3 :: x4 :: x5 :: x6 :: x7 :: x8 :: x9 :: x10 :: x11 :: y :: lv) (.int x :: st) M Q := by
  intro p e s m args below meth c dC dI cA ad A H locs ls hC hW hL
  subst hn
  exact lv_istore (i := 12) hC.1 hC.2.1 hd hL (Nat.le_of_ble_eq_true hm) rfl (fun ls' hl' => k p e s m args below meth c dC dI cA ad A H locs ls' hC hW (lv_put1 (i := 12) (v := .int x) (lv := x0 :: x1 :: x2 :: x3 :: x4 :: x5 :: x6 :: x7 :: x8 :: x9 :: x10 :: x11 :: y :: lv) (fun u h0 hu => by (first | (cases hu; exact hp) | (exact absurd h0 (by decide)))) hl'))
theorem g_iinc12 {G : Sh} {l : Launch} {mi : MI} {pc : Nat} {lv st : List Value} {M : Mm} {Q : Rr → Mm → Prop} {x0 x1 x2 x3 x4 x5 x6 x7 x8 x9 x10 x11 : Value} {x : Int32} {a : Int} (n : Nat) (hn : pc + 3 = n) (hd : decode (mBy mi) pc = .ok (.iinc 12 a, 3)) (hm : Nat.ble 13 (mMx mi) = true) (hp : x11.category = 1) (v : Int32) (hv : x + Int32.ofInt a = v) (k : Go G l mi n (x0 :: x1 :: x2 :: x3 :: x4 :: x5 :: x6 :: x7 :: x8 :: x9 :: x10 :: x11 :: .int v :: lv) st M Q) : Go G l mi pc (x0 :: x1 :: x2 :: x3 :: x4 :: x5 :: x6 :: x7 :: x8 :: x9 :: x10 :: x11 :: .int x :: lv) st M Q := by
  intro p e s m args below meth c dC dI cA ad A H locs ls hC hW hL
  subst hn
  obtain ⟨z, hz⟩ := List.getElem?_of_mem (asl_mem (ad := ad) (lv := x0 :: x1 :: x2 :: x3 :: x4 :: x5 :: x6 :: x7 :: x8 :: x9 :: x10 :: x11 :: .int x :: lv) (q := (12, .int x)) |>.mpr ⟨.int x, rfl, (fun h => by cases h), rfl⟩)
  exact lv_iinc (i := 12) hC.1 hC.2.1 hd hL hz hv (Nat.le_of_ble_eq_true hm) rfl (fun ls' hl' => k p e s m args below meth c dC dI cA ad A H locs ls' hC hW (lv_put1 (i := 12) (v := .int v) (lv := x0 :: x1 :: x2 :: x3 :: x4 :: x5 :: x6 :: x7 :: x8 :: x9 :: x10 :: x11 :: .int x :: lv) (fun u h0 hu => by (first | (cases hu; exact hp) | (exact absurd h0 (by decide)))) hl'))
theorem g_lload12 {G : Sh} {l : Launch} {mi : MI} {pc : Nat} {lv st : List Value} {M : Mm} {Q : Rr → Mm → Prop} {x0 x1 x2 x3 x4 x5 x6 x7 x8 x9 x10 x11 : Value} {x : Int64} (n : Nat) (hn : pc + 2 = n) (hd : decode (mBy mi) pc = .ok (.lload 12, 2)) (k : Go G l mi n (x0 :: x1 :: x2 :: x3 :: x4 :: x5 :: x6 :: x7 :: x8 :: x9 :: x10 :: x11 :: .long x :: lv) (.long x :: st) M Q) : Go G l mi pc (x0 :: x1 :: x2 :: x3 :: x4 :: x5 :: x6 :: x7 :: x8 :: x9 :: x10 :: x11 :: .long x :: lv) st M Q := by
  intro p e s m args below meth c dC dI cA ad A H locs ls hC hW hL
  subst hn
  exact lv_lload hC.1 hC.2.1 hd (lv_get (i := 12) (v := .long x) hL rfl (fun h => by cases h)) (k p e s m args below meth c dC dI cA ad A H locs ls hC hW hL)
theorem g_lstore12 {G : Sh} {l : Launch} {mi : MI} {pc : Nat} {lv st : List Value} {M : Mm} {Q : Rr → Mm → Prop} {x0 x1 x2 x3 x4 x5 x6 x7 x8 x9 x10 x11 : Value} {y z : Value} {x : Int64} (n : Nat) (hn : pc + 2 = n) (hd : decode (mBy mi) pc = .ok (.lstore 12, 2)) (hm : Nat.ble 14 (mMx mi) = true) (hp : x11.category = 1) (k : Go G l mi n (x0 :: x1 :: x2 :: x3 :: x4 :: x5 :: x6 :: x7 :: x8 :: x9 :: x10 :: x11 :: .long x :: .null :: lv) st M Q) : Go G l mi pc (x0 :: x1 :: x2 :: x3 :: x4 :: x5 :: x6 :: x7 :: x8 :: x9 :: x10 :: x11 :: y :: z :: lv) (.long x :: st) M Q := by
  intro p e s m args below meth c dC dI cA ad A H locs ls hC hW hL
  subst hn
  exact lv_lstore (i := 12) hC.1 hC.2.1 hd hL (Nat.le_of_ble_eq_true hm) rfl (fun ls' hl' => k p e s m args below meth c dC dI cA ad A H locs ls' hC hW (lv_put2 (i := 12) (v := .long x) (lv := x0 :: x1 :: x2 :: x3 :: x4 :: x5 :: x6 :: x7 :: x8 :: x9 :: x10 :: x11 :: y :: z :: lv) (fun u h0 hu => by (first | (cases hu; exact hp) | (exact absurd h0 (by decide)))) hl'))
theorem g_aload12 {G : Sh} {l : Launch} {mi : MI} {pc : Nat} {lv st : List Value} {M : Mm} {Q : Rr → Mm → Prop} {x0 x1 x2 x3 x4 x5 x6 x7 x8 x9 x10 x11 : Value} {x : Nat} (n : Nat) (hn : pc + 2 = n) (hd : decode (mBy mi) pc = .ok (.aload 12, 2)) (k : Go G l mi n (x0 :: x1 :: x2 :: x3 :: x4 :: x5 :: x6 :: x7 :: x8 :: x9 :: x10 :: x11 :: .ref x :: lv) (.ref x :: st) M Q) : Go G l mi pc (x0 :: x1 :: x2 :: x3 :: x4 :: x5 :: x6 :: x7 :: x8 :: x9 :: x10 :: x11 :: .ref x :: lv) st M Q := by
  intro p e s m args below meth c dC dI cA ad A H locs ls hC hW hL
  subst hn
  exact lv_aload hC.1 hC.2.1 hd (lv_get (i := 12) (v := .ref x) hL rfl (fun h => by cases h)) (k p e s m args below meth c dC dI cA ad A H locs ls hC hW hL)
theorem g_iload13 {G : Sh} {l : Launch} {mi : MI} {pc : Nat} {lv st : List Value} {M : Mm} {Q : Rr → Mm → Prop} {x0 x1 x2 x3 x4 x5 x6 x7 x8 x9 x10 x11 x12 : Value} {x : Int32} (n : Nat) (hn : pc + 2 = n) (hd : decode (mBy mi) pc = .ok (.iload 13, 2)) (k : Go G l mi n (x0 :: x1 :: x2 :: x3 :: x4 :: x5 :: x6 :: x7 :: x8 :: x9 :: x10 :: x11 :: x12 :: .int x :: lv) (.int x :: st) M Q) : Go G l mi pc (x0 :: x1 :: x2 :: x3 :: x4 :: x5 :: x6 :: x7 :: x8 :: x9 :: x10 :: x11 :: x12 :: .int x :: lv) st M Q := by
  intro p e s m args below meth c dC dI cA ad A H locs ls hC hW hL
  subst hn
  exact lv_iload hC.1 hC.2.1 hd (lv_get (i := 13) (v := .int x) hL rfl (fun h => by cases h)) (k p e s m args below meth c dC dI cA ad A H locs ls hC hW hL)
theorem g_istore13 {G : Sh} {l : Launch} {mi : MI} {pc : Nat} {lv st : List Value} {M : Mm} {Q : Rr → Mm → Prop} {x0 x1 x2 x3 x4 x5 x6 x7 x8 x9 x10 x11 x12 : Value} {y : Value} {x : Int32} (n : Nat) (hn : pc + 2 = n) (hd : decode (mBy mi) pc = .ok (.istore 13, 2)) (hm : Nat.ble 14 (mMx mi) = true) (hp : x12.category = 1) (k : Go G l mi n (x0 :: x1 :: x2 :: x3 :: x4 :: x5 :: x6 :: x7 :: x8 :: x9 :: x10 :: x11 :: x12 :: .int x :: lv) st M Q) : Go G l mi pc (x0 :: x1 :: x2 :: x3 :: x4 :: x5 :: x6 :: x7 :: x8 :: x9 :: x10 :: x11 :: x12 :: y :: lv) (.int x :: st) M Q := by
  intro p e s m args below meth c dC dI cA ad A H locs ls hC hW hL
  subst hn
  exact lv_istore (i := 13) hC.1 hC.2.1 hd hL (Nat.le_of_ble_eq_true hm) rfl (fun ls' hl' => k p e s m args below meth c dC dI cA ad A H locs ls' hC hW (lv_put1 (i := 13) (v := .int x) (lv := x0 :: x1 :: x2 :: x3 :: x4 :: x5 :: x6 :: x7 :: x8 :: x9 :: x10 :: x11 :: x12 :: y :: lv) (fun u h0 hu => by (first | (cases hu; exact hp) | (exact absurd h0 (by decide)))) hl'))
theorem g_iinc13 {G : Sh} {l : Launch} {mi : MI} {pc : Nat} {lv st : List Value} {M : Mm} {Q : Rr → Mm → Prop} {x0 x1 x2 x3 x4 x5 x6 x7 x8 x9 x10 x11 x12 : Value} {x : Int32} {a : Int} (n : Nat) (hn : pc + 3 = n) (hd : decode (mBy mi) pc = .ok (.iinc 13 a, 3)) (hm : Nat.ble 14 (mMx mi) = true) (hp : x12.category = 1) (v : Int32) (hv : x + Int32.ofInt a = v) (k : Go G l mi n (x0 :: x1 :: x2 :: x3 :: x4 :: x5 :: x6 :: x7 :: x8 :: x9 :: x10 :: x11 :: x12 :: .int v :: lv) st M Q) : Go G l mi pc (x0 :: x1 :: x2 :: x3 :: x4 :: x5 :: x6 :: x7 :: x8 :: x9 :: x10 :: x11 :: x12 :: .int x :: lv) st M Q := by
  intro p e s m args below meth c dC dI cA ad A H locs ls hC hW hL
  subst hn
  obtain ⟨z, hz⟩ := List.getElem?_of_mem (asl_mem (ad := ad) (lv := x0 :: x1 :: x2 :: x3 :: x4 :: x5 :: x6 :: x7 :: x8 :: x9 :: x10 :: x11 :: x12 :: .int x :: lv) (q := (13, .int x)) |>.mpr ⟨.int x, rfl, (fun h => by cases h), rfl⟩)
  exact lv_iinc (i := 13) hC.1 hC.2.1 hd hL hz hv (Nat.le_of_ble_eq_true hm) rfl (fun ls' hl' => k p e s m args below meth c dC dI cA ad A H locs ls' hC hW (lv_put1 (i := 13) (v := .int v) (lv := x0 :: x1 :: x2 :: x3 :: x4 :: x5 :: x6 :: x7 :: x8 :: x9 :: x10 :: x11 :: x12 :: .int x :: lv) (fun u h0 hu => by (first | (cases hu; exact hp) | (exact absurd h0 (by decide)))) hl'))
theorem g_lload13 {G : Sh} {l : Launch} {mi : MI} {pc : Nat} {lv st : List Value} {M : Mm} {Q : Rr → Mm → Prop} {x0 x1 x2 x3 x4 x5 x6 x7 x8 x9 x10 x11 x12 : Value} {x : Int64} (n : Nat) (hn : pc + 2 = n) (hd : decode (mBy mi) pc = .ok (.lload 13, 2)) (k : Go G l mi n (x0 :: x1 :: x2 :: x3 :: x4 :: x5 :: x6 :: x7 :: x8 :: x9 :: x10 :: x11 :: x12 :: .long x :: lv) (.long x :: st) M Q) : Go G l mi pc (x0 :: x1 :: x2 :: x3 :: x4 :: x5 :: x6 :: x7 :: x8 :: x9 :: x10 :: x11 :: x12 :: .long x :: lv) st M Q := by
  intro p e s m args below meth c dC dI cA ad A H locs ls hC hW hL
  subst hn
  exact lv_lload hC.1 hC.2.1 hd (lv_get (i := 13) (v := .long x) hL rfl (fun h => by cases h)) (k p e s m args below meth c dC dI cA ad A H locs ls hC hW hL)
theorem g_lstore13 {G : Sh} {l : Launch} {mi : MI} {pc : Nat} {lv st : List Value} {M : Mm} {Q : Rr → Mm → Prop} {x0 x1 x2 x3 x4 x5 x6 x7 x8 x9 x10 x11 x12 : Value} {y z : Value} {x : Int64} (n : Nat) (hn : pc + 2 = n) (hd : decode (mBy mi) pc = .ok (.lstore 13, 2)) (hm : Nat.ble 15 (mMx mi) = true) (hp : x12.category = 1) (k : Go G l mi n (x0 :: x1 :: x2 :: x3 :: x4 :: x5 :: x6 :: x7 :: x8 :: x9 :: x10 :: x11 :: x12 :: .long x :: .null :: lv) st M Q) : Go G l mi pc (x0 :: x1 :: x2 :: x3 :: x4 :: x5 :: x6 :: x7 :: x8 :: x9 :: x10 :: x11 :: x12 :: y :: z :: lv) (.long x :: st) M Q := by
  intro p e s m args below meth c dC dI cA ad A H locs ls hC hW hL
  subst hn
  exact lv_lstore (i := 13) hC.1 hC.2.1 hd hL (Nat.le_of_ble_eq_true hm) rfl (fun ls' hl' => k p e s m args below meth c dC dI cA ad A H locs ls' hC hW (lv_put2 (i := 13) (v := .long x) (lv := x0 :: x1 :: x2 :: x3 :: x4 :: x5 :: x6 :: x7 :: x8 :: x9 :: x10 :: x11 :: x12 :: y :: z :: lv) (fun u h0 hu => by (first | (cases hu; exact hp) | (exact absurd h0 (by decide)))) hl'))
theorem g_aload13 {G : Sh} {l : Launch} {mi : MI} {pc : Nat} {lv st : List Value} {M : Mm} {Q : Rr → Mm → Prop} {x0 x1 x2 x3 x4 x5 x6 x7 x8 x9 x10 x11 x12 : Value} {x : Nat} (n : Nat) (hn : pc + 2 = n) (hd : decode (mBy mi) pc = .ok (.aload 13, 2)) (k : Go G l mi n (x0 :: x1 :: x2 :: x3 :: x4 :: x5 :: x6 :: x7 :: x8 :: x9 :: x10 :: x11 :: x12 :: .ref x :: lv) (.ref x :: st) M Q) : Go G l mi pc (x0 :: x1 :: x2 :: x3 :: x4 :: x5 :: x6 :: x7 :: x8 :: x9 :: x10 :: x11 :: x12 :: .ref x :: lv) st M Q := by
  intro p e s m args below meth c dC dI cA ad A H locs ls hC hW hL
  subst hn
  exact lv_aload hC.1 hC.2.1 hd (lv_get (i := 13) (v := .ref x) hL rfl (fun h => by cases h)) (k p e s m args below meth c dC dI cA ad A H locs ls hC hW hL)
end
section
/-! fields, arrays, returns, calls, said of handles -/
def FL (own : String) (idx ci k : Nat) (ty : FieldType) (fn : Bool) : Prop := ∃ (C : String) (T : u_T) (N : Nat) (ty0 : Nat → FieldType), vwCl[ci]? = some (C, T, N) ∧ (∀ w ∈ u_ws C T N, w ∈ wTb) ∧ (∀ k, k < N → parseFieldDescriptor (T k).2.2.1 = some (ty0 k)) ∧ (∀ a, a < N → ∀ b, b < N → a ≠ b → (T a).2.1 ≠ (T b).2.1) ∧ k < N ∧ Cond.fieldLink own idx (T k).1 (T k).2.1 (T k).2.2.1 ∈ wTb ∧ ty0 k = ty ∧ (T k).2.2.2 = fn
section GM
variable {G : Sh} {l : Launch} {mi : MI} {pc : Nat} {lv st : List Value} {M : Mm} {Q : Rr → Mm → Prop}
theorem g_get {idx ci k kd h : Nat} {ks : List Nat} {ty : FieldType} {fn : Bool} {v : Value} (n : Nat) (hn : pc + 3 = n) (hf : FL (mNm mi).cls idx ci k ty fn) (hg : G[h]? = some (.inr (ci, ks))) (hk : ks[k]? = some kd) (hv : ∀ ad, slV ad M h k kd = tr ad v) (hd : decode (mBy mi) pc = .ok (.getfield idx, 3)) (kk : Go G l mi n lv (v :: st) M Q) : Go G l mi pc lv (.ref h :: st) M Q := by
  intro p e s m args below meth c dC dI cA ad A H locs ls hC hW hL
  subst hn
  obtain ⟨C, T, N, ty0, h1, h2, h3, h4, h5, h6, h7, h8⟩ := hf
  exact va_get (D := (dC, dI)) (ci := ci) (v := tr ad v) (C := C) (T := T) (N := N) hC.1 hC.2.1 hC.2.2.2.2.2.1 h2 hC.2.2.2.2.1 hC.2.2.2.2.2.2.2.2 hW.1 h (wW_at hg) h1 k h5 (hC.2.2.2.2.2.1 _ h6) (fun _ z => z) (by rw [fs_at hk, hv]) hd (kk p e s m args below meth c dC dI cA ad A H locs ls hC hW hL)
theorem g_getI {idx ci k h : Nat} {ks : List Nat} {ty : FieldType} {fn : Bool} (n : Nat) (hn : pc + 3 = n) (hf : FL (mNm mi).cls idx ci k ty fn) (hg : G[h]? = some (.inr (ci, ks))) (hk : ks[k]? = some 0) (hd : decode (mBy mi) pc = .ok (.getfield idx, 3)) (kk : Go G l mi n lv (.int (M.1 h k) :: st) M Q) : Go G l mi pc lv (.ref h :: st) M Q :=
  g_get n hn hf hg hk (fun _ => rfl) hd kk
theorem g_getL {idx ci k h : Nat} {ks : List Nat} {ty : FieldType} {fn : Bool} (n : Nat) (hn : pc + 3 = n) (hf : FL (mNm mi).cls idx ci k ty fn) (hg : G[h]? = some (.inr (ci, ks))) (hk : ks[k]? = some 1) (hd : decode (mBy mi) pc = .ok (.getfield idx, 3)) (kk : Go G l mi n lv (.long (M.2 h k) :: st) M Q) : Go G l mi pc lv (.ref h :: st) M Q :=
  g_get n hn hf hg hk (fun _ => rfl) hd kk
theorem g_getR {idx ci k h h' : Nat} {ks : List Nat} {ty : FieldType} {fn : Bool} (n : Nat) (hn : pc + 3 = n) (hf : FL (mNm mi).cls idx ci k ty fn) (hg : G[h]? = some (.inr (ci, ks))) (hk : ks[k]? = some (h' + 2)) (hd : decode (mBy mi) pc = .ok (.getfield idx, 3)) (kk : Go G l mi n lv (.ref h' :: st) M Q) : Go G l mi pc lv (.ref h :: st) M Q :=
  g_get n hn hf hg hk (fun _ => rfl) hd kk
theorem g_putB {idx ci k h : Nat} {ks : List Nat} {ty : FieldType} {x : Int32} (n : Nat) (hn : pc + 3 = n) (hf : FL (mNm mi).cls idx ci k ty false) (hg : G[h]? = some (.inr (ci, ks))) (hk : ks[k]? = some 0) (hd : decode (mBy mi) pc = .ok (.putfield idx, 3)) (hx : narrow ty (.int x) = .int x) (hx2 : fits ty (.int x) = true) (kk : Go G l mi n lv st (setA M h (upd (M.1 h) k x)) Q) : Go G l mi pc lv (.int x :: .ref h :: st) M Q := by
  intro p e s m args below meth c dC dI cA ad A H locs ls hC hW hL
  subst hn
  obtain ⟨C, T, N, ty0, h1, h2, h3, h4, h5, h6, h7, h8⟩ := hf
  refine va_put (D := (dC, dI)) (ci := ci) (v := .int x) (ty := ty) (C := C) (T := T) (N := N) hC.1 hC.2.1 hC.2.2.2.2.2.1 h2 ty0 h3 h4 hC.2.2.2.2.1 hC.2.2.2.2.2.2.2.2 hW.1 hW.2.1 hW.2.2 h (wW_at hg) h1 k h5 (hC.2.2.2.2.2.1 _ h6) (fun _ z => z) h8 (by rw [h3 k h5, h7]) hx hx2 (by have := (List.getElem?_eq_some_iff.mp hk).1; simpa using this) hd (fun H1 locs1 hP hD hS => ?_)
  have e1 : (wW G cA ad M).set h (ad h, .inr (ci, (ks.mapIdx (fun k kd => slV ad M h k kd)).set k (.int x))) = wW G cA ad (setA M h (upd (M.1 h) k x)) := wW_set hg (fun h' g' hne => cW_setA_ne hne) (by rw [fs_setA hk]; rfl)
  rw [e1] at hP hD
  exact kk p e s m args below meth c dC dI cA ad A H1 locs1 ls hC ⟨hP, hD, hS⟩ hL
theorem g_putI {idx ci k h : Nat} {ks : List Nat} {x : Int32} (n : Nat) (hn : pc + 3 = n) (hf : FL (mNm mi).cls idx ci k .int false) (hg : G[h]? = some (.inr (ci, ks))) (hk : ks[k]? = some 0) (hd : decode (mBy mi) pc = .ok (.putfield idx, 3)) (kk : Go G l mi n lv st (setA M h (upd (M.1 h) k x)) Q) : Go G l mi pc lv (.int x :: .ref h :: st) M Q :=
  g_putB n hn hf hg hk hd rfl rfl kk
theorem nar_b {x : Int32} (h : x = 0 ∨ x = 1) : narrow .boolean (.int x) = .int x ∧ fits .boolean (.int x) = true := by
  rcases h with rfl | rfl <;> decide
theorem g_putZ {idx ci k h : Nat} {ks : List Nat} {x : Int32} (n : Nat) (hn : pc + 3 = n) (hf : FL (mNm mi).cls idx ci k .boolean false) (hg : G[h]? = some (.inr (ci, ks))) (hk : ks[k]? = some 0) (hd : decode (mBy mi) pc = .ok (.putfield idx, 3)) (hx : x = 0 ∨ x = 1) (kk : Go G l mi n lv st (setA M h (upd (M.1 h) k x)) Q) : Go G l mi pc lv (.int x :: .ref h :: st) M Q :=
  g_putB n hn hf hg hk hd (nar_b hx).1 (nar_b hx).2 kk
theorem g_putL {idx ci k h : Nat} {ks : List Nat} {x : Int64} (n : Nat) (hn : pc + 3 = n) (hf : FL (mNm mi).cls idx ci k .long false) (hg : G[h]? = some (.inr (ci, ks))) (hk : ks[k]? = some 1) (hd : decode (mBy mi) pc = .ok (.putfield idx, 3)) (kk : Go G l mi n lv st (setL M h k x) Q) : Go G l mi pc lv (.long x :: .ref h :: st) M Q := by
  intro p e s m args below meth c dC dI cA ad A H locs ls hC hW hL
  subst hn
  obtain ⟨C, T, N, ty0, h1, h2, h3, h4, h5, h6, h7, h8⟩ := hf
  refine va_put (D := (dC, dI)) (ci := ci) (v := .long x) (ty := .long) (C := C) (T := T) (N := N) hC.1 hC.2.1 hC.2.2.2.2.2.1 h2 ty0 h3 h4 hC.2.2.2.2.1 hC.2.2.2.2.2.2.2.2 hW.1 hW.2.1 hW.2.2 h (wW_at hg) h1 k h5 (hC.2.2.2.2.2.1 _ h6) (fun _ z => z) h8 (by rw [h3 k h5, h7]) rfl rfl (by have := (List.getElem?_eq_some_iff.mp hk).1; simpa using this) hd (fun H1 locs1 hP hD hS => ?_)
  have e1 : (wW G cA ad M).set h (ad h, .inr (ci, (ks.mapIdx (fun k kd => slV ad M h k kd)).set k (.long x))) = wW G cA ad (setL M h k x) := wW_set hg (fun h' g' hne => cW_setL_ne hne) (by rw [fs_setL hk]; rfl)
  rw [e1] at hP hD
  exact kk p e s m args below meth c dC dI cA ad A H1 locs1 ls hC ⟨hP, hD, hS⟩ hL
/-! arrays -/
theorem g_iald0 {h N : Nat} {i : Int32} (n : Nat) (hn : pc + 1 = n) (hd : decode (mBy mi) pc = .ok (.iaload, 1)) (hg : G[h]? = some (.inl (0, N))) (hi : vp_in i N) (kk : Go G l mi n lv (.int (M.1 h i.toNatClampNeg) :: st) M Q) : Go G l mi pc lv (.int i :: .ref h :: st) M Q := by
  intro p e s m args below meth c dC dI cA ad A H locs ls hC hW hL
  subst hn
  exact va_iald hC.1 hC.2.1 hC.2.2.2.2.2.2.2.2 hW.1 h 0 (wW_at hg) rfl hi hd (kk p e s m args below meth c dC dI cA ad A H locs ls hC hW hL)
theorem g_iald {h N k : Nat} {i : Int32} (n : Nat) (hn : pc + 1 = n) (hd : decode (mBy mi) pc = .ok (.iaload, 1)) (hg : G[h]? = some (.inl (0, N))) (hb : Nat.ble N 2147483647 = true) (he : i = nI k) (hk : k < N) (kk : Go G l mi n lv (.int (M.1 h k) :: st) M Q) : Go G l mi pc lv (.int i :: .ref h :: st) M Q := by
  subst he
  have hb := Nat.le_of_ble_eq_true hb
  refine g_iald0 n hn hd hg (vp_in_nI hk (by omega)) ?_
  rw [nI_clamp (by omega)]
  exact kk
theorem g_zald {h N k : Nat} {i : Int32} (n : Nat) (hn : pc + 1 = n) (hd : decode (mBy mi) pc = .ok (.baload, 1)) (hg : G[h]? = some (.inl (1, N))) (hb : Nat.ble N 2147483647 = true) (he : i = nI k) (hk : k < N) (kk : Go G l mi n lv (.int (M.1 h k) :: st) M Q) : Go G l mi pc lv (.int i :: .ref h :: st) M Q := by
  subst he
  have hb := Nat.le_of_ble_eq_true hb
  intro p e s m args below meth c dC dI cA ad A H locs ls hC hW hL
  subst hn
  refine va_zald hC.1 hC.2.1 hC.2.2.2.2.2.2.2.2 hW.1 h 1 (wW_at hg) rfl (vp_in_nI hk (by omega)) hd ?_
  rw [nI_clamp (by omega)]
  exact kk p e s m args below meth c dC dI cA ad A H locs ls hC hW hL
theorem g_bald {h N k : Nat} {i : Int32} (n : Nat) (hn : pc + 1 = n) (hd : decode (mBy mi) pc = .ok (.baload, 1)) (hg : G[h]? = some (.inl (2, N))) (hb : Nat.ble N 2147483647 = true) (he : i = nI k) (hk : k < N) (kk : Go G l mi n lv (.int (M.1 h k) :: st) M Q) : Go G l mi pc lv (.int i :: .ref h :: st) M Q := by
  subst he
  have hb := Nat.le_of_ble_eq_true hb
  intro p e s m args below meth c dC dI cA ad A H locs ls hC hW hL
  subst hn
  refine va_bald hC.1 hC.2.1 hC.2.2.2.2.2.2.2.2 hW.1 h 2 (wW_at hg) rfl (vp_in_nI hk (by omega)) hd ?_
  rw [nI_clamp (by omega)]
  exact kk p e s m args below meth c dC dI cA ad A H locs ls hC hW hL
theorem g_iast {h N k : Nat} {i x : Int32} (n : Nat) (hn : pc + 1 = n) (hd : decode (mBy mi) pc = .ok (.iastore, 1)) (hg : G[h]? = some (.inl (0, N))) (hb : Nat.ble N 2147483647 = true) (he : i = nI k) (hk : k < N) (kk : Go G l mi n lv st (setA M h (upd (M.1 h) k x)) Q) : Go G l mi pc lv (.int x :: .int i :: .ref h :: st) M Q := by
  subst he
  have hb := Nat.le_of_ble_eq_true hb
  intro p e s m args below meth c dC dI cA ad A H locs ls hC hW hL
  subst hn
  refine va_iast hC.1 hC.2.1 hC.2.2.2.2.2.2.2.2 hW.1 hW.2.1 hW.2.2 h 0 (wW_at hg) rfl (vp_in_nI hk (by omega)) hd (fun H1 locs1 hP hD hS => ?_)
  rw [nI_clamp (by omega)] at hP hD
  have e1 : (wW G cA ad M).set h (ad h, .inl (cA 0, N, .inl (upd (M.1 h) k x))) = wW G cA ad (setA M h (upd (M.1 h) k x)) := wW_set hg (fun h' g' hne => cW_setA_ne hne) (by simp [cW, setA])
  rw [e1] at hP hD
  exact kk p e s m args below meth c dC dI cA ad A H1 locs1 ls hC ⟨hP, hD, hS⟩ hL
theorem nar_z {x : Int32} (h : x = 0 ∨ x = 1) : vp_nar .boolean x = x := by
  rcases h with rfl | rfl <;> decide
theorem g_zast {h N k : Nat} {i x : Int32} (n : Nat) (hn : pc + 1 = n) (hd : decode (mBy mi) pc = .ok (.bastore, 1)) (hg : G[h]? = some (.inl (1, N))) (hb : Nat.ble N 2147483647 = true) (he : i = nI k) (hk : k < N) (hx : x = 0 ∨ x = 1) (kk : Go G l mi n lv st (setA M h (upd (M.1 h) k x)) Q) : Go G l mi pc lv (.int x :: .int i :: .ref h :: st) M Q := by
  subst he
  have hb := Nat.le_of_ble_eq_true hb
  intro p e s m args below meth c dC dI cA ad A H locs ls hC hW hL
  subst hn
  refine va_zast hC.1 hC.2.1 hC.2.2.2.2.2.2.2.2 hW.1 hW.2.1 hW.2.2 h 1 (wW_at hg) rfl (vp_in_nI hk (by omega)) hd (fun H1 locs1 hP hD hS => ?_)
  rw [nI_clamp (by omega), nar_z hx] at hP hD
  have e1 : (wW G cA ad M).set h (ad h, .inl (cA 1, N, .inl (upd (M.1 h) k x))) = wW G cA ad (setA M h (upd (M.1 h) k x)) := wW_set hg (fun h' g' hne => cW_setA_ne hne) (by simp [cW, setA])
  rw [e1] at hP hD
  exact kk p e s m args below meth c dC dI cA ad A H1 locs1 ls hC ⟨hP, hD, hS⟩ hL
theorem g_bast {h N k : Nat} {i x : Int32} (n : Nat) (hn : pc + 1 = n) (hd : decode (mBy mi) pc = .ok (.bastore, 1)) (hg : G[h]? = some (.inl (2, N))) (hb : Nat.ble N 2147483647 = true) (he : i = nI k) (hk : k < N) (kk : Go G l mi n lv st (setA M h (upd (M.1 h) k (vp_nar .byte x))) Q) : Go G l mi pc lv (.int x :: .int i :: .ref h :: st) M Q := by
  subst he
  have hb := Nat.le_of_ble_eq_true hb
  intro p e s m args below meth c dC dI cA ad A H locs ls hC hW hL
  subst hn
  refine va_bast hC.1 hC.2.1 hC.2.2.2.2.2.2.2.2 hW.1 hW.2.1 hW.2.2 h 2 (wW_at hg) rfl (vp_in_nI hk (by omega)) hd (fun H1 locs1 hP hD hS => ?_)
  rw [nI_clamp (by omega)] at hP hD
  have e1 : (wW G cA ad M).set h (ad h, .inl (cA 2, N, .inl (upd (M.1 h) k (vp_nar .byte x)))) = wW G cA ad (setA M h (upd (M.1 h) k (vp_nar .byte x))) := wW_set hg (fun h' g' hne => cW_setA_ne hne) (by simp [cW, setA])
  rw [e1] at hP hD
  exact kk p e s m args below meth c dC dI cA ad A H1 locs1 ls hC ⟨hP, hD, hS⟩ hL
theorem g_alen {h N t : Nat} {ty : FieldType} (n : Nat) (hn : pc + 1 = n) (hd : decode (mBy mi) pc = .ok (.arraylength, 1)) (hg : G[h]? = some (.inl (t, N))) (ht : ∀ cA, (tysA cA)[t]? = some (cA t, ty)) (kk : Go G l mi n lv (.int (nI N) :: st) M Q) : Go G l mi pc lv (.ref h :: st) M Q := by
  intro p e s m args below meth c dC dI cA ad A H locs ls hC hW hL
  subst hn
  exact va_alen hC.1 hC.2.1 hC.2.2.2.2.2.2.2.2 hW.1 h t (wW_at hg) (ht cA) rfl hd (kk p e s m args below meth c dC dI cA ad A H locs ls hC hW hL)
/-! answers -/
theorem g_iret {x : Int32} (hr : mRt mi = some .int) (hd : decode (mBy mi) pc = .ok (.ireturn, 1)) (hq : Q (some (.inl x)) M) : Go G l mi pc lv [.int x] M Q := by
  intro p e s m args below meth c dC dI cA ad A H locs ls hC hW hL
  have hlocks := hC.2.2.2.2.2.2.1
  exact W.iret (v := x) hC.1 hC.2.1 (hC.2.2.1.trans hr) (fun t ht hW2 => ⟨⟨some (.inl x), M, rfl, hq, by rw [ht]; exact hW.1, va_K.moved hW2.alike hC.2.2.2.2.2.2.2.2, hW.2.1⟩, hW.2.2.F ht⟩) hW.2.2.2.2 hd
theorem g_zret {x : Int32} (hr : mRt mi = some .boolean) (hd : decode (mBy mi) pc = .ok (.ireturn, 1)) (hx : x = 0 ∨ x = 1) (hq : Q (some (.inl x)) M) : Go G l mi pc lv [.int x] M Q := by
  intro p e s m args below meth c dC dI cA ad A H locs ls hC hW hL
  have hlocks := hC.2.2.2.2.2.2.1
  exact W.zret (v := x) hC.1 hC.2.1 (hC.2.2.1.trans hr) (nar_b hx).1 (fun t ht hW2 => ⟨⟨some (.inl x), M, rfl, hq, by rw [ht]; exact hW.1, va_K.moved hW2.alike hC.2.2.2.2.2.2.2.2, hW.2.1⟩, hW.2.2.F ht⟩) hW.2.2.2.2 hd
theorem g_lret {x : Int64} (hr : mRt mi = some .long) (hd : decode (mBy mi) pc = .ok (.lreturn, 1)) (hq : Q (some (.inr x)) M) : Go G l mi pc lv [.long x] M Q := by
  intro p e s m args below meth c dC dI cA ad A H locs ls hC hW hL
  have hlocks := hC.2.2.2.2.2.2.1
  exact W.lret (v := x) hC.1 hC.2.1 (hC.2.2.1.trans hr) (fun t ht hW2 => ⟨⟨some (.inr x), M, rfl, hq, by rw [ht]; exact hW.1, va_K.moved hW2.alike hC.2.2.2.2.2.2.2.2, hW.2.1⟩, hW.2.2.F ht⟩) hW.2.2.2.2 hd
theorem g_vret (hr : mRt mi = none) (hd : decode (mBy mi) pc = .ok (.return_, 1)) (hq : Q none M) : Go G l mi pc lv [] M Q := by
  intro p e s m args below meth c dC dI cA ad A H locs ls hC hW hL
  have hlocks := hC.2.2.2.2.2.2.1
  exact W.vret hC.1 hC.2.1 (hC.2.2.1.trans hr) (fun t ht hW2 => ⟨⟨none, M, rfl, hq, by rw [ht]; exact hW.1, va_K.moved hW2.alike hC.2.2.2.2.2.2.2.2, hW.2.1⟩, hW.2.2.F ht⟩) hW.2.2.2.2 hd
/-! other words for the same -/
theorem g_top {x : Int32} (y : Int32) (h : x = y) (k : Go G l mi pc lv (.int y :: st) M Q) : Go G l mi pc lv (.int x :: st) M Q := by subst h; exact k
theorem g_topL {x : Int64} (y : Int64) (h : x = y) (k : Go G l mi pc lv (.long y :: st) M Q) : Go G l mi pc lv (.long x :: st) M Q := by subst h; exact k
theorem g_mem (M' : Mm) (h : M = M') (k : Go G l mi pc lv st M' Q) : Go G l mi pc lv st M Q := by subst h; exact k
theorem g_lv (lv' : List Value) (h : lv = lv') (k : Go G l mi pc lv' st M Q) : Go G l mi pc lv st M Q := by subst h; exact k
/-- forget a local -/
theorem g_fg (i : Nat) (k : Go G l mi pc (lv.set i .null) st M Q) : Go G l mi pc lv st M Q := by
  intro p e s m args below meth c dC dI cA ad A H locs ls hC hW hL
  refine k p e s m args below meth c dC dI cA ad A H locs ls hC hW ⟨hL.1, hL.2.1, fun q hq => hL.2.2 q ?_⟩
  obtain ⟨u, h1, h2, h3⟩ := asl_mem.mp hq
  refine asl_mem.mpr ⟨u, ?_, h2, h3⟩
  rw [List.getElem?_set] at h1
  split at h1
  · split at h1
    · cases h1; exact absurd rfl h2
    · cases h1
  · exact h1
theorem g_post {Q' : Rr → Mm → Prop} (h : ∀ r M, Q' r M → Q r M) (k : Go G l mi pc lv st M Q') : Go G l mi pc lv st M Q := by
  intro p e s m args below meth c dC dI cA ad A H locs ls hC hW hL T hT X
  obtain ⟨t, h1, o, h2, h3, ⟨⟨r, M', h4, h5, h6⟩, h8⟩, h7⟩ := k p e s m args below meth c dC dI cA ad A H locs ls hC hW hL T hT X
  exact ⟨t, h1, o, h2, h3, ⟨⟨r, M', h4, h r M' h5, h6⟩, h8⟩, h7⟩
end GM
/-- counting up: at the head with i, out of the head with i + 1 -/
theorem loop_up {P : Nat → Prop} (N : Nat) (last : P N) (step : ∀ i, i < N → P (i + 1) → P i) : ∀ i, i ≤ N → P i := by
  intro i hi
  obtain ⟨d, hd⟩ : ∃ d, N = i + d := ⟨N - i, by omega⟩
  induction d generalizing i with
  | zero => rw [show i = N by omega]; exact last
  | succ d ih => exact step i (by omega) (ih (i + 1) (by omega) (by omega))
end
section
/-! calls -/
def LkB (mi2 : MI) (n : Nat) : Prop := Cond.code (mNm mi2) (mBy mi2) (mMx mi2) (mRt mi2) ∈ wTb ∧ Cond.initialized (mNm mi2).cls ∈ wTb ∧ ((mNm mi2).cls ≠ "java/lang/invoke/MethodHandle" ∧ (mNm mi2).cls ≠ "java/lang/invoke/VarHandle") ∧ (parseMethodDescriptor (mNm mi2).desc).map (fun d => d.parameters.length) = some n
def LkV (own : String) (idx : Nat) (mi2 : MI) (n ci : Nat) : Prop := LkB mi2 n ∧ Cond.methodLink own idx (mNm mi2) ∈ wTb ∧ Cond.instanceMethod (mNm mi2) ∈ wTb ∧ Cond.selects (mNm mi2).cls (mNm mi2) (mNm mi2) ∈ wTb ∧ ∃ (T : u_T) (N : Nat), vwCl[ci]? = some ((mNm mi2).cls, T, N)
def LkS (own : String) (idx : Nat) (mi2 : MI) (n : Nat) : Prop := LkB mi2 n ∧ Cond.methodLink own idx (mNm mi2) ∈ wTb ∧ Cond.static (mNm mi2) ∈ wTb
def LkN (own : String) (idx : Nat) (mi2 : MI) (n : Nat) (host : String) : Prop := LkB mi2 n ∧ Cond.methodLinkNest own idx (mNm mi2) host ∈ wTb ∧ Cond.static (mNm mi2) ∈ wTb
theorem tr_sum (ad : Nat → Nat) (st : List Value) : ((st.map (tr ad)).map fun v => v.category).sum = (st.map fun v => v.category).sum := by
  rw [List.map_map]
  congr 1
  apply List.map_congr_left
  intro v _
  exact tr_cat ad v
theorem rV_tr (ad : Nat → Nat) (r : Rr) (st : List Value) : (rV r).toList ++ st.map (tr ad) = ((rV r).toList ++ st).map (tr ad) := by
  rcases r with _ | x | x <;> rfl
theorem pp_blind {av : List Value} {G : Sh} {dC : Nat → ClassId} {dI : Nat → Nat → Nat} {cA : Nat → ClassId} {ad : Nat → Nat} {M : Mm} {sz : Nat} : FrameBlind (va_Pc av (PP G dC dI cA ad M sz)) := by
  intro a U g mk q
  obtain ⟨q0, q1, qP, qK, qD⟩ := q
  exact ⟨q0, q1, qP, va_K.moved (u := U) (U := U.calling g mk a) (Vm.Alike.refl U.vm) qK, qD⟩
theorem desc_n {d : String} {n : Nat} (h2 : (parseMethodDescriptor d).map (fun d => d.parameters.length) = some n) : ∀ sig, parseMethodDescriptor d = some sig → n = sig.parameters.length := by
  intro sig h
  rw [h] at h2
  exact (Option.some.inj h2).symm
section GC
variable {G : Sh} {l : Launch} {mi mi2 : MI} {pc : Nat} {lv st stk As : List Value} {M : Mm} {Q Q2 : Rr → Mm → Prop}
theorem go_aux {p : Program} {e : Env} {s : State} {m : MethodId} {args a : Array Value} {below : List Frame} {meth : Method} {c : Code} {dC : Nat → ClassId} {dI : Nat → Nat → Nat} {cA : Nat → ClassId} {ad : Nat → Nat} {A A1 : Nat → Prop} {H : Heap} {locs : List Loc} {ls : Array Slot} {st0 rest : List Value} {R : Room} {Z : State → Prop}
    (hr : va_Run p l e R s m args below meth c H locs 0 0 0 0 (F0 m pc ls st0) rest (QQ G dC dI cA ad A1 Q2 a) A1) (hS : va_S A s.heap H locs) (hA : ∀ q, A1 q → A q)
    (kk : ∀ (r : Rr) (M1 : Mm) (H1 : Heap) (locs1 : List Loc), Q2 r M1 → Wo G dC dI cA ad A M1 s.heap H1 locs1 → W p l e R s m args below meth c H1 locs1 0 0 Z (F0 m (pc + 3) ls ((rV r).toList ++ rest))) : W p l e R s m args below meth c H locs 0 0 Z (F0 m pc ls st0) := by
  intro T hT X
  obtain ⟨v, st₀, t, T', L, h0, X', hL, e1, e2, ⟨⟨r, M1, hv, hq, hP, hK, hD⟩, hz, hk⟩, stp⟩ := hr T hT X
  have hv2 : v = rV r := by injection hv
  subst hv2
  rw [h0] at hz hk
  obtain ⟨t2, a1, b1⟩ := kk r M1 T'.heap (locs ++ L) hq ⟨by rw [e1]; exact hP, hD.weaken (fun k q _ h => hA _ h), ⟨Nat.le_trans hS.1 (by rw [e1]; exact hz), fun q h1 h2 => by rw [e1, hk q (Nat.lt_of_lt_of_le h1 hS.1) (fun z => h2 (hA q z))]; exact hS.2.1 q h1 h2, fun q hq => by
      rcases List.mem_append.mp hq with h | h
      · exact hS.2.2 q h
      · exact hA _ (hL q h)⟩⟩ T' rfl X'
  exact ⟨t2, stp t2 a1, b1⟩
theorem aw_in {A : Nat → Prop} {ws : va_W} {H0 H : Heap} {locs : List Loc} (hD : va_D A ws) (hS : va_S A H0 H locs) (hA : ∀ q, H0.size ≤ q → A q) : ∀ q, va_A ws H.size q → A q := by
  intro q h
  rcases h with ⟨k, e, h⟩ | h
  · exact hD.2 k (q, e) h
  · exact hA q (Nat.le_trans hS.1 h)
theorem pp_here {p : Program} {s U : State} {m : MethodId} {args : Array Value} {meth : Method} {c : Code} {dC : Nat → ClassId} {dI : Nat → Nat → Nat} {cA : Nat → ClassId} {ad : Nat → Nat} {A : Nat → Prop} {H : Heap} {locs : List Loc} (hC : Cx mi p s m args meth c dC dI cA A) (hW : Wo G dC dI cA ad A M s.heap H locs) (hU : U.heap = H) (hv : s.WarmedH U.vm) {av : List Value} : va_Pc av (PP G dC dI cA ad M H.size) av.toArray U :=
  ⟨rfl, by rw [hU], by rw [hU]; exact hW.1, va_K.moved hv.alike hC.2.2.2.2.2.2.2.2, hW.2.1.weaken (fun _ _ _ _ => trivial)⟩
/-- an instance method -/
theorem g_callV {idx ci h : Nat} {ks : List Nat} (n na : Nat) (hn : pc + 3 = n) (hl : LkV (mNm mi).cls idx mi2 na ci) (hg : G[h]? = some (.inr (ci, ks))) (hd : decode (mBy mi) pc = .ok (.invokevirtual idx, 3)) (hR : Nat.ble (mFr mi2 + 1) (mFr mi) = true ∧ Nat.ble (8 + (mMx mi2 + 11) + mLo mi2) (mLo mi) = true) (ok : Ok G l mi2 (.ref h :: As) M Q2) (hs : stk = As.reverse ++ .ref h :: st) (ha : As.length = na) (hw : Nat.ble ((st.map fun v => v.category).sum) 8 = true) (kk : ∀ (r : Rr) (M1 : Mm), Q2 r M1 → Go G l mi n lv ((rV r).toList ++ st) M1 Q) : Go G l mi pc lv stk M Q := by
  intro p e s m args below meth c dC dI cA ad A H locs ls hC hW hL
  subst hn
  subst hs
  obtain ⟨⟨l1, l2, l3, l4⟩, l5, l6, l7, T, N, l8⟩ := hl
  have hts := hC.2.2.2.2.2.1
  refine go_aux (Q2 := Q2) (rest := st.map (tr ad)) (va_runV (As := As.map (tr ad)) (b := ad h) (C := (mNm mi2).cls) (Ts := wTb) (n := na) (ws := mWs mi2) (rm := mRm mi2) ⟨hC.1, hC.2.1, hC.2.2.2.1, hC.2.2.2.2.1, hts⟩ (ok dC dI cA ad H.size) ⟨⟨rfl, rfl, Nat.le_of_ble_eq_true hR.1, Nat.le_of_ble_eq_true hR.2, ?_, List.mem_cons_self, hts _ l1, hts _ l2, l3, desc_n l4, hts _ l5⟩, hts _ l6, hts _ l7⟩ ⟨pp_blind, va_recv hC.2.2.2.2.2.2.2.2 hW.1 l8 (wW_at hg), fun U hU hv => ?_⟩ rfl (by rw [List.length_map]; exact ha) hL.1 (by simp [tr]) (lv_room (by rw [tr_sum]; exact Nat.le_of_ble_eq_true hw)) hd ⟨Nat.zero_le _, Nat.zero_le _⟩) hW.2.2 (aw_in hW.2.1 hW.2.2 hC.2.2.2.2.2.2.2.1) (fun r M1 H1 locs1 hq hW1 => ?_)
  · intro w hw a' U hv
    rcases List.mem_cons.mp hw with rfl | hw
    · exact wT_warm hts _ l1 a' U hv
    · exact wT_warm hts _ hw a' U hv
  · have := pp_here (av := (Value.ref h :: As).map (tr ad)) hC hW hU hv
    exact this
  · rw [rV_tr]
    exact kk r M1 hq p e s m args below meth c dC dI cA ad A H1 locs1 ls hC hW1 hL
/-- a static method -/
theorem g_callS {idx : Nat} (n na : Nat) (hn : pc + 3 = n) (hl : LkS (mNm mi).cls idx mi2 na) (hd : decode (mBy mi) pc = .ok (.invokestatic idx, 3)) (hR : Nat.ble (mFr mi2 + 1) (mFr mi) = true ∧ Nat.ble (8 + (mMx mi2 + 11) + mLo mi2) (mLo mi) = true) (ok : Ok G l mi2 As M Q2) (hs : stk = As.reverse ++ st) (ha : As.length = na) (hw : Nat.ble ((st.map fun v => v.category).sum) 8 = true) (kk : ∀ (r : Rr) (M1 : Mm), Q2 r M1 → Go G l mi n lv ((rV r).toList ++ st) M1 Q) : Go G l mi pc lv stk M Q := by
  intro p e s m args below meth c dC dI cA ad A H locs ls hC hW hL
  subst hn
  subst hs
  obtain ⟨⟨l1, l2, l3, l4⟩, l5, l6⟩ := hl
  have hts := hC.2.2.2.2.2.1
  refine go_aux (Q2 := Q2) (rest := st.map (tr ad)) (va_runS (As := As.map (tr ad)) (Ts := wTb) (n := na) (ws := mWs mi2) (rm := mRm mi2) ⟨hC.1, hC.2.1, hC.2.2.2.1, hC.2.2.2.2.1, hts⟩ (ok dC dI cA ad H.size) ⟨⟨rfl, rfl, Nat.le_of_ble_eq_true hR.1, Nat.le_of_ble_eq_true hR.2, ?_, List.mem_cons_self, hts _ l1, hts _ l2, l3, desc_n l4, hts _ l5⟩, hts _ l6⟩ ⟨pp_blind, fun U hU hv => ?_⟩ rfl (by rw [List.length_map]; exact ha) hL.1 (by simp [tr]) (lv_room (by rw [tr_sum]; exact Nat.le_of_ble_eq_true hw)) hd ⟨Nat.zero_le _, Nat.zero_le _⟩) hW.2.2 (aw_in hW.2.1 hW.2.2 hC.2.2.2.2.2.2.2.1) (fun r M1 H1 locs1 hq hW1 => ?_)
  · intro w hw a' U hv
    rcases List.mem_cons.mp hw with rfl | hw
    · exact wT_warm hts _ l1 a' U hv
    · exact wT_warm hts _ hw a' U hv
  · exact pp_here (av := As.map (tr ad)) hC hW hU hv
  · rw [rV_tr]
    exact kk r M1 hq p e s m args below meth c dC dI cA ad A H1 locs1 ls hC hW1 hL
/-- a nest mate's static method -/
theorem g_callN {idx : Nat} {host : String} (n na : Nat) (hn : pc + 3 = n) (hl : LkN (mNm mi).cls idx mi2 na host) (hd : decode (mBy mi) pc = .ok (.invokestatic idx, 3)) (hR : Nat.ble (mFr mi2 + 1) (mFr mi) = true ∧ Nat.ble (8 + (mMx mi2 + 11) + mLo mi2) (mLo mi) = true) (ok : Ok G l mi2 As M Q2) (hs : stk = As.reverse ++ st) (ha : As.length = na) (hw : Nat.ble ((st.map fun v => v.category).sum) 8 = true) (kk : ∀ (r : Rr) (M1 : Mm), Q2 r M1 → Go G l mi n lv ((rV r).toList ++ st) M1 Q) : Go G l mi pc lv stk M Q := by
  intro p e s m args below meth c dC dI cA ad A H locs ls hC hW hL
  subst hn
  subst hs
  obtain ⟨⟨l1, l2, l3, l4⟩, l5, l6⟩ := hl
  have hts := hC.2.2.2.2.2.1
  refine go_aux (Q2 := Q2) (rest := st.map (tr ad)) (va_runSN (As := As.map (tr ad)) (Ts := wTb) (n := na) (ws := mWs mi2) (rm := mRm mi2) ⟨hC.1, hC.2.1, hC.2.2.2.1, hC.2.2.2.2.1, hts⟩ (ok dC dI cA ad H.size) ⟨⟨⟨rfl, rfl, Nat.le_of_ble_eq_true hR.1, Nat.le_of_ble_eq_true hR.2, ?_, List.mem_cons_self⟩, hts _ l1, hts _ l2, l3, desc_n l4, hts _ l5⟩, hts _ l6, trivial⟩ ⟨pp_blind, fun U hU hv => ?_⟩ rfl (by rw [List.length_map]; exact ha) hL.1 (by simp [tr]) (lv_room (by rw [tr_sum]; exact Nat.le_of_ble_eq_true hw)) hd ⟨Nat.zero_le _, Nat.zero_le _⟩) hW.2.2 (aw_in hW.2.1 hW.2.2 hC.2.2.2.2.2.2.2.1) (fun r M1 H1 locs1 hq hW1 => ?_)
  · intro w hw a' U hv
    rcases List.mem_cons.mp hw with rfl | hw
    · exact wT_warm hts _ l1 a' U hv
    · exact wT_warm hts _ hw a' U hv
  · exact pp_here (av := As.map (tr ad)) hC hW hU hv
  · rw [rV_tr]
    exact kk r M1 hq p e s m args below meth c dC dI cA ad A H1 locs1 ls hC hW1 hL
/-- answers that are known -/
abbrev Oi (G : Sh) (l : Launch) (mi : MI) (av : List Value) (M : Mm) (v : Int32) (M' : Mm) : Prop := Ok G l mi av M (fun r M1 => r = some (.inl v) ∧ M1 = M')
abbrev Ov (G : Sh) (l : Launch) (mi : MI) (av : List Value) (M : Mm) (M' : Mm) : Prop := Ok G l mi av M (fun r M1 => r = none ∧ M1 = M')
abbrev Ol (G : Sh) (l : Launch) (mi : MI) (av : List Value) (M : Mm) (v : Int64) (M' : Mm) : Prop := Ok G l mi av M (fun r M1 => r = some (.inr v) ∧ M1 = M')
theorem g_callVi {idx ci h : Nat} {ks : List Nat} {v : Int32} {M' : Mm} (n na : Nat) (hn : pc + 3 = n) (hl : LkV (mNm mi).cls idx mi2 na ci) (hg : G[h]? = some (.inr (ci, ks))) (hd : decode (mBy mi) pc = .ok (.invokevirtual idx, 3)) (hR : Nat.ble (mFr mi2 + 1) (mFr mi) = true ∧ Nat.ble (8 + (mMx mi2 + 11) + mLo mi2) (mLo mi) = true) (ok : Oi G l mi2 (.ref h :: As) M v M') (hs : stk = As.reverse ++ .ref h :: st) (ha : As.length = na) (hw : Nat.ble ((st.map fun v => v.category).sum) 8 = true) (kk : Go G l mi n lv (.int v :: st) M' Q) : Go G l mi pc lv stk M Q :=
  g_callV n na hn hl hg hd hR ok hs ha hw (fun r M1 h => by obtain ⟨rfl, rfl⟩ := h; exact kk)
theorem g_callVv {idx ci h : Nat} {ks : List Nat} {M' : Mm} (n na : Nat) (hn : pc + 3 = n) (hl : LkV (mNm mi).cls idx mi2 na ci) (hg : G[h]? = some (.inr (ci, ks))) (hd : decode (mBy mi) pc = .ok (.invokevirtual idx, 3)) (hR : Nat.ble (mFr mi2 + 1) (mFr mi) = true ∧ Nat.ble (8 + (mMx mi2 + 11) + mLo mi2) (mLo mi) = true) (ok : Ov G l mi2 (.ref h :: As) M M') (hs : stk = As.reverse ++ .ref h :: st) (ha : As.length = na) (hw : Nat.ble ((st.map fun v => v.category).sum) 8 = true) (kk : Go G l mi n lv st M' Q) : Go G l mi pc lv stk M Q :=
  g_callV n na hn hl hg hd hR ok hs ha hw (fun r M1 h => by obtain ⟨rfl, rfl⟩ := h; exact kk)
theorem g_callVl {idx ci h : Nat} {ks : List Nat} {v : Int64} {M' : Mm} (n na : Nat) (hn : pc + 3 = n) (hl : LkV (mNm mi).cls idx mi2 na ci) (hg : G[h]? = some (.inr (ci, ks))) (hd : decode (mBy mi) pc = .ok (.invokevirtual idx, 3)) (hR : Nat.ble (mFr mi2 + 1) (mFr mi) = true ∧ Nat.ble (8 + (mMx mi2 + 11) + mLo mi2) (mLo mi) = true) (ok : Ol G l mi2 (.ref h :: As) M v M') (hs : stk = As.reverse ++ .ref h :: st) (ha : As.length = na) (hw : Nat.ble ((st.map fun v => v.category).sum) 8 = true) (kk : Go G l mi n lv (.long v :: st) M' Q) : Go G l mi pc lv stk M Q :=
  g_callV n na hn hl hg hd hR ok hs ha hw (fun r M1 h => by obtain ⟨rfl, rfl⟩ := h; exact kk)
theorem g_callSi {idx : Nat} {v : Int32} {M' : Mm} (n na : Nat) (hn : pc + 3 = n) (hl : LkS (mNm mi).cls idx mi2 na) (hd : decode (mBy mi) pc = .ok (.invokestatic idx, 3)) (hR : Nat.ble (mFr mi2 + 1) (mFr mi) = true ∧ Nat.ble (8 + (mMx mi2 + 11) + mLo mi2) (mLo mi) = true) (ok : Oi G l mi2 As M v M') (hs : stk = As.reverse ++ st) (ha : As.length = na) (hw : Nat.ble ((st.map fun v => v.category).sum) 8 = true) (kk : Go G l mi n lv (.int v :: st) M' Q) : Go G l mi pc lv stk M Q :=
  g_callS n na hn hl hd hR ok hs ha hw (fun r M1 h => by obtain ⟨rfl, rfl⟩ := h; exact kk)
theorem g_callNi {idx : Nat} {host : String} {v : Int32} {M' : Mm} (n na : Nat) (hn : pc + 3 = n) (hl : LkN (mNm mi).cls idx mi2 na host) (hd : decode (mBy mi) pc = .ok (.invokestatic idx, 3)) (hR : Nat.ble (mFr mi2 + 1) (mFr mi) = true ∧ Nat.ble (8 + (mMx mi2 + 11) + mLo mi2) (mLo mi) = true) (ok : Oi G l mi2 As M v M') (hs : stk = As.reverse ++ st) (ha : As.length = na) (hw : Nat.ble ((st.map fun v => v.category).sum) 8 = true) (kk : Go G l mi n lv (.int v :: st) M' Q) : Go G l mi pc lv stk M Q :=
  g_callN n na hn hl hd hR ok hs ha hw (fun r M1 h => by obtain ⟨rfl, rfl⟩ := h; exact kk)
/-- Math.max, min, abs -/
theorem g_mmax {idx : Nat} {x y : Int32} (n : Nat) (hn : pc + 3 = n) (hl : Cond.methodLink (mNm mi).cls idx Lib.Math.max.name ∈ wTb) (hd : decode (mBy mi) pc = .ok (.invokestatic idx, 3)) (h1 : Cond.static Lib.Math.max.name ∈ wTb) (h2 : Cond.initialized "java/lang/Math" ∈ wTb) (h3 : Cond.code Lib.Math.max.name Lib.Math.max.code 2 (some .int) ∈ wTb) (hR : Nat.ble 1 (mFr mi) = true ∧ Nat.ble 21 (mLo mi) = true) (hw : Nat.ble ((st.map fun v => v.category).sum) 8 = true) (kk : Go G l mi n lv (.int (if x < y then y else x) :: st) M Q) : Go G l mi pc lv (.int y :: .int x :: st) M Q := by
  intro p e s m args below meth c dC dI cA ad A H locs ls hC hW hL
  subst hn
  have hts := hC.2.2.2.2.2.1
  have a1 := Nat.le_of_ble_eq_true hR.2
  have a2 := Nat.le_of_ble_eq_true hw
  exact va_mmax hC.1 hC.2.1 (by rw [hC.2.2.2.1, hL.1]) hC.2.2.2.2.1 (hts _ hl) (hts _ h1) (hts _ h2) (hts _ h3) (Nat.le_of_ble_eq_true hR.1) (by rw [tr_sum]; show _ ≤ mLo mi; omega) (Nat.zero_le _) (Nat.zero_le _) hd (kk p e s m args below meth c dC dI cA ad A H locs ls hC hW hL)
theorem g_mmin {idx : Nat} {x y : Int32} (n : Nat) (hn : pc + 3 = n) (hl : Cond.methodLink (mNm mi).cls idx Lib.Math.min.name ∈ wTb) (hd : decode (mBy mi) pc = .ok (.invokestatic idx, 3)) (h1 : Cond.static Lib.Math.min.name ∈ wTb) (h2 : Cond.initialized "java/lang/Math" ∈ wTb) (h3 : Cond.code Lib.Math.min.name Lib.Math.min.code 2 (some .int) ∈ wTb) (hR : Nat.ble 1 (mFr mi) = true ∧ Nat.ble 21 (mLo mi) = true) (hw : Nat.ble ((st.map fun v => v.category).sum) 8 = true) (kk : Go G l mi n lv (.int (if y < x then y else x) :: st) M Q) : Go G l mi pc lv (.int y :: .int x :: st) M Q := by
  intro p e s m args below meth c dC dI cA ad A H locs ls hC hW hL
  subst hn
  have hts := hC.2.2.2.2.2.1
  have a1 := Nat.le_of_ble_eq_true hR.2
  have a2 := Nat.le_of_ble_eq_true hw
  exact va_mmin hC.1 hC.2.1 (by rw [hC.2.2.2.1, hL.1]) hC.2.2.2.2.1 (hts _ hl) (hts _ h1) (hts _ h2) (hts _ h3) (Nat.le_of_ble_eq_true hR.1) (by rw [tr_sum]; show _ ≤ mLo mi; omega) (Nat.zero_le _) (Nat.zero_le _) hd (kk p e s m args below meth c dC dI cA ad A H locs ls hC hW hL)
theorem g_mabs {idx : Nat} {x : Int32} (n : Nat) (hn : pc + 3 = n) (hl : Cond.methodLink (mNm mi).cls idx Lib.Math.abs.name ∈ wTb) (hd : decode (mBy mi) pc = .ok (.invokestatic idx, 3)) (h1 : Cond.static Lib.Math.abs.name ∈ wTb) (h2 : Cond.initialized "java/lang/Math" ∈ wTb) (h3 : Cond.code Lib.Math.abs.name Lib.Math.abs.code 1 (some .int) ∈ wTb) (hR : Nat.ble 1 (mFr mi) = true ∧ Nat.ble 21 (mLo mi) = true) (hw : Nat.ble ((st.map fun v => v.category).sum) 8 = true) (kk : Go G l mi n lv (.int (if 0 ≤ x then x else 0 - x) :: st) M Q) : Go G l mi pc lv (.int x :: st) M Q := by
  intro p e s m args below meth c dC dI cA ad A H locs ls hC hW hL
  subst hn
  have hts := hC.2.2.2.2.2.1
  have a1 := Nat.le_of_ble_eq_true hR.2
  have a2 := Nat.le_of_ble_eq_true hw
  exact va_mabs hC.1 hC.2.1 (by rw [hC.2.2.2.1, hL.1]) hC.2.2.2.2.1 (hts _ hl) (hts _ h1) (hts _ h2) (hts _ h3) (Nat.le_of_ble_eq_true hR.1) (by rw [tr_sum]; show _ ≤ mLo mi; omega) (Nat.zero_le _) (Nat.zero_le _) hd (kk p e s m args below meth c dC dI cA ad A H locs ls hC hW hL)
end GC
end
section
theorem wT_i (i : Nat) {w : Cond} (h : tables_1[i]? = some w) (hg : (goodWord w || isNM w) = true) : w ∈ wTb := wT_in (List.mem_append_right _ (List.mem_of_getElem? h)) hg
theorem wT_p (i : Nat) {q : MethodName × Nat} (h : lw_privs[i]? = some q) : Cond.selects q.1.cls q.1 q.1 ∈ wTb := wT_in (List.mem_append_left _ (List.mem_of_getElem? (i := i) (by rw [k2_sels, List.getElem?_map, h]; rfl))) rfl
theorem wT_all (ws : List Cond) (ps : List Nat) (h : ws = ps.filterMap (fun i => tables_1[i]?)) (hg : ws.all (fun w => goodWord w || isNM w) = true) : ∀ w ∈ ws, w ∈ wTb := by
  intro w hw
  have h1 := List.all_eq_true.mp hg w hw
  rw [h] at hw
  obtain ⟨i, -, hi⟩ := List.mem_filterMap.mp hw
  exact wT_i i hi h1
def mX0_init : MI := (yX0_init, cX0_init, 1, none, 2, 40)
def mX0_copyFrom : MI := (yX0_copyFrom, cX0_copyFrom, 3, none, 0, 0)
def mX0_begin : MI := (yX0_begin, cX0_begin, 1, none, 0, 0)
def mX0_takes : MI := (yX0_takes, cX0_takes, 3, some .boolean, 1, 22)
def mX0_isWhole : MI := (yX0_isWhole, cX0_isWhole, 1, some .boolean, 0, 0)
def mX0_takesRow : MI := (yX0_takesRow, cX0_takesRow, 2, some .boolean, 0, 0)
def mX0_takesDigit : MI := (yX0_takesDigit, cX0_takesDigit, 3, some .boolean, 0, 0)
def mX0_takesEnd : MI := (yX0_takesEnd, cX0_takesEnd, 2, some .boolean, 0, 0)
def mX1_init : MI := (yX1_init, cX1_init, 1, none, 1, 20)
def mX1_put : MI := (yX1_put, cX1_put, 2, none, 0, 0)
def mX1_choose : MI := (yX1_choose, cX1_choose, 6, none, 2, 42)
def mX1_isBetter : MI := (yX1_isBetter, cX1_isBetter, 3, some .boolean, 1, 20)
def mX2_init : MI := (yX2_init, cX2_init, 2, none, 1, 20)
def mX2_begin : MI := (yX2_begin, cX2_begin, 3, none, 1, 21)
def mX2_lay : MI := (yX2_lay, cX2_lay, 7, none, 2, 49)
def mX2_passOn : MI := (yX2_passOn, cX2_passOn, 8, none, 1, 22)
def mX2_greatest : MI := (yX2_greatest, cX2_greatest, 4, some .int, 0, 0)
def mX3_init : MI := (yX3_init, cX3_init, 1, none, 1, 20)
def mX3_append : MI := (yX3_append, cX3_append, 2, none, 0, 0)
def mX4_init : MI := (yX4_init, cX4_init, 1, none, 1, 20)
def mX4_draw : MI := (yX4_draw, cX4_draw, 6, none, 1, 23)
def mX4_numberOf : MI := (yX4_numberOf, cX4_numberOf, 4, some .int, 0, 0)
def mX4_beside : MI := (yX4_beside, cX4_beside, 3, some .int, 0, 0)
def mX4_steps : MI := (yX4_steps, cX4_steps, 2, some .int, 1, 21)
def mX5_init : MI := (yX5_init, cX5_init, 2, none, 1, 20)
def mX5_go : MI := (yX5_go, cX5_go, 7, some .int, 5, 117)
def mX5_roundsTillAllRing : MI := (yX5_roundsTillAllRing, cX5_roundsTillAllRing, 6, some .int, 5, 117)
def mX5_goRound : MI := (yX5_goRound, cX5_goRound, 5, some .int, 4, 93)
def mX5_arrange : MI := (yX5_arrange, cX5_arrange, 4, none, 2, 46)
def mX5_arrangeByColumns : MI := (yX5_arrangeByColumns, cX5_arrangeByColumns, 4, none, 1, 23)
def mX6_init : MI := (yX6_init, cX6_init, 1, none, 1, 20)
def mX6_faultIn : MI := (yX6_faultIn, cX6_faultIn, 3, some .int, 3, 64)
def mX6_reads : MI := (yX6_reads, cX6_reads, 2, some .boolean, 4, 86)
def mX7_init : MI := (yX7_init, cX7_init, 2, none, 1, 20)
def mX7_pave : MI := (yX7_pave, cX7_pave, 3, none, 0, 0)
def mX7_copyFrom : MI := (yX7_copyFrom, cX7_copyFrom, 3, none, 0, 0)
def mX7_tell : MI := (yX7_tell, cX7_tell, 3, some .int, 2, 46)
def mX7_isOf : MI := (yX7_isOf, cX7_isOf, 4, some .boolean, 0, 0)
def mX7_stones : MI := (yX7_stones, cX7_stones, 3, some .int, 0, 0)
def mX7_grip : MI := (yX7_grip, cX7_grip, 2, some .int, 0, 0)
def mX7_hold : MI := (yX7_hold, cX7_hold, 5, some .int, 1, 22)
def mX7_level : MI := (yX7_level, cX7_level, 3, none, 0, 0)
def mX7_fillJoints : MI := (yX7_fillJoints, cX7_fillJoints, 3, none, 0, 0)
def mX7_sinkBy : MI := (yX7_sinkBy, cX7_sinkBy, 5, some .int, 2, 46)
def mX7_strike : MI := (yX7_strike, cX7_strike, 4, some .int, 3, 70)
def mX7_seatFirmer : MI := (yX7_seatFirmer, cX7_seatFirmer, 3, none, 1, 21)
def mX7_ringing : MI := (yX7_ringing, cX7_ringing, 4, some .int, 3, 70)
def mX7_spread : MI := (yX7_spread, cX7_spread, 4, some .int, 1, 21)
def mX7_canBeMended : MI := (yX7_canBeMended, cX7_canBeMended, 3, some .boolean, 0, 0)
def mX7_repair : MI := (yX7_repair, cX7_repair, 3, none, 0, 0)
def mX7_worsen : MI := (yX7_worsen, cX7_worsen, 3, some .boolean, 0, 0)
def mX7_loseGrit : MI := (yX7_loseGrit, cX7_loseGrit, 2, none, 1, 21)
def mX7_freeze : MI := (yX7_freeze, cX7_freeze, 4, none, 1, 20)
def mX7_drawOfTen : MI := (yX7_drawOfTen, cX7_drawOfTen, 1, some .int, 0, 0)
def mX7_isBesideSand : MI := (yX7_isBesideSand, cX7_isBesideSand, 4, some .boolean, 1, 22)
def mX7_jolts : MI := (yX7_jolts, cX7_jolts, 8, some .int, 2, 42)
def mX8_init : MI := (yX8_init, cX8_init, 1, none, 2, 40)
def mX8_begin : MI := (yX8_begin, cX8_begin, 1, none, 0, 0)
def mX8_takes : MI := (yX8_takes, cX8_takes, 2, some .boolean, 2, 43)
def mX8_isWhole : MI := (yX8_isWhole, cX8_isWhole, 1, some .boolean, 0, 0)
def mX8_takesSize : MI := (yX8_takesSize, cX8_takesSize, 2, some .boolean, 0, 0)
def mX8_takesRowEnd : MI := (yX8_takesRowEnd, cX8_takesRowEnd, 1, some .boolean, 0, 0)
def mX8_takesCell : MI := (yX8_takesCell, cX8_takesCell, 4, some .boolean, 1, 20)
def mX8_kindOf : MI := (yX8_kindOf, cX8_kindOf, 1, some .int, 0, 0)
def mX9_init : MI := (yX9_init, cX9_init, 2, none, 1, 20)
def mX9_fill : MI := (yX9_fill, cX9_fill, 5, none, 2, 47)
def mX9_depth : MI := (yX9_depth, cX9_depth, 3, some .int, 0, 0)
def mX9_fallsIn : MI := (yX9_fallsIn, cX9_fallsIn, 6, some .boolean, 1, 22)
def mX10_init : MI := (yX10_init, cX10_init, 4, none, 1, 20)
def mX10_pass : MI := (yX10_pass, cX10_pass, 9, some .int, 4, 100)
def mX10_layCarts : MI := (yX10_layCarts, cX10_layCarts, 6, none, 3, 75)
def mX10_wearDown : MI := (yX10_wearDown, cX10_wearDown, 4, some .int, 2, 46)
def mX10_freeze : MI := (yX10_freeze, cX10_freeze, 4, none, 3, 71)
def mX10_washOut : MI := (yX10_washOut, cX10_washOut, 3, none, 2, 45)
def mX11_init : MI := (yX11_init, cX11_init, 1, none, 3, 60)
def mX11_letters : MI := (yX11_letters, cX11_letters, 5, some .int, 2, 46)
def mX11_blank : MI := (yX11_blank, cX11_blank, 2, some .int, 0, 0)
def mX11_fault : MI := (yX11_fault, cX11_fault, 2, some .int, 4, 86)
def mX11_street : MI := (yX11_street, cX11_street, 1, some .int, 5, 107)
def mX11_carts : MI := (yX11_carts, cX11_carts, 1, some .int, 5, 107)
def mX11_cart : MI := (yX11_cart, cX11_cart, 3, some .int, 0, 0)
def mX11_cell : MI := (yX11_cell, cX11_cell, 3, some .int, 3, 68)
def mX11_as : MI := (yX11_as, cX11_as, 3, some .int, 1, 23)
def mX11_set : MI := (yX11_set, cX11_set, 2, some .int, 1, 22)
def mX11_grit : MI := (yX11_grit, cX11_grit, 2, some .int, 1, 22)
def mX11_blow : MI := (yX11_blow, cX11_blow, 3, some .int, 4, 93)
def mX11_ram : MI := (yX11_ram, cX11_ram, 4, some .int, 6, 143)
def mX11_rings : MI := (yX11_rings, cX11_rings, 2, some .int, 4, 93)
def mX11_proud : MI := (yX11_proud, cX11_proud, 5, some .int, 6, 143)
def mX11_until : MI := (yX11_until, cX11_until, 3, some .int, 6, 142)
def mX11_uneven : MI := (yX11_uneven, cX11_uneven, 1, some .int, 2, 44)
def mX11_evenest : MI := (yX11_evenest, cX11_evenest, 7, some .int, 6, 143)
def mX11_borne : MI := (yX11_borne, cX11_borne, 4, some .int, 3, 75)
def mX11_bearer : MI := (yX11_bearer, cX11_bearer, 3, some .int, 3, 75)
def mX11_water : MI := (yX11_water, cX11_water, 2, some .int, 3, 71)
def mX11_seed : MI := (yX11_seed, cX11_seed, 3, some .int, 0, 0)
def mX11_years : MI := (yX11_years, cX11_years, 3, some .int, 5, 128)
def mX11_would : MI := (yX11_would, cX11_would, 3, some .int, 5, 128)
def mX11_mend : MI := (yX11_mend, cX11_mend, 3, some .int, 1, 22)
def mX11_first : MI := (yX11_first, cX11_first, 11, some .int, 6, 153)
def mX11_trench : MI := (yX11_trench, cX11_trench, 7, some .int, 1, 21)
def mX11_heap : MI := (yX11_heap, cX11_heap, 2, some .int, 1, 21)
def mX11_fits : MI := (yX11_fits, cX11_fits, 3, some .int, 3, 67)
def mX11_gaps : MI := (yX11_gaps, cX11_gaps, 5, some .int, 1, 21)
def mX11_shake : MI := (yX11_shake, cX11_shake, 6, some .int, 3, 69)
def mX11_worst : MI := (yX11_worst, cX11_worst, 8, some .int, 3, 69)
def mX11_image : MI := (yX11_image, cX11_image, 1, some .int, 1, 22)
def mX11_restore : MI := (yX11_restore, cX11_restore, 1, some .int, 1, 22)
def mX11_count : MI := (yX11_count, cX11_count, 2, some .int, 1, 22)
def mX11_digest : MI := (yX11_digest, cX11_digest, 4, some .long, 6, 150)
def mX11_digestOfCells : MI := (yX11_digestOfCells, cX11_digestOfCells, 7, some .long, 3, 71)
def mX11_findMendable : MI := (yX11_findMendable, cX11_findMendable, 3, some .int, 1, 22)
def mX11_lostWith : MI := (yX11_lostWith, cX11_lostWith, 6, some .int, 5, 128)
def mX11_hasStreet : MI := (yX11_hasStreet, cX11_hasStreet, 1, some .boolean, 0, 0)
def mX11_hasTraffic : MI := (yX11_hasTraffic, cX11_hasTraffic, 1, some .boolean, 1, 20)
def mX11_isCell : MI := (yX11_isCell, cX11_isCell, 2, some .boolean, 0, 0)
def mX11_isStone : MI := (yX11_isStone, cX11_isStone, 2, some .boolean, 1, 21)
def mX11_isRow : MI := (yX11_isRow, cX11_isRow, 2, some .boolean, 0, 0)
def mX11_isWeight : MI := (yX11_isWeight, cX11_isWeight, 1, some .boolean, 0, 0)
def mX11_isOrder : MI := (yX11_isOrder, cX11_isOrder, 1, some .boolean, 0, 0)
def mX11_isLoad : MI := (yX11_isLoad, cX11_isLoad, 1, some .boolean, 0, 0)
def mX11_isSize : MI := (yX11_isSize, cX11_isSize, 1, some .boolean, 0, 0)
def mX11_areYears : MI := (yX11_areYears, cX11_areYears, 2, some .boolean, 0, 0)
def mX11_byteOf : MI := (yX11_byteOf, cX11_byteOf, 3, some .int, 0, 0)
def mX11_lettersIn : MI := (yX11_lettersIn, cX11_lettersIn, 5, some .int, 1, 22)
def mX11_quotient : MI := (yX11_quotient, cX11_quotient, 2, some .int, 0, 0)
def mX11_commonDivisor : MI := (yX11_commonDivisor, cX11_commonDivisor, 6, some .int, 0, 0)
def mX12_init : MI := (yX12_init, cX12_init, 1, none, 1, 20)
def mX12_within : MI := (yX12_within, cX12_within, 3, some .boolean, 0, 0)
def mX12_atLeast : MI := (yX12_atLeast, cX12_atLeast, 1, some .int, 0, 0)
def mX12_letters : MI := (yX12_letters, cX12_letters, 7, some .int, 0, 0)
def mX12_blank : MI := (yX12_blank, cX12_blank, 2, some .int, 0, 0)
def mX12_isDigit : MI := (yX12_isDigit, cX12_isDigit, 1, some .boolean, 1, 22)
def mX12_kindBy : MI := (yX12_kindBy, cX12_kindBy, 1, some .int, 0, 0)
def mX12_takeStreet : MI := (yX12_takeStreet, cX12_takeStreet, 4, some .boolean, 1, 22)
def mX12_readStreet : MI := (yX12_readStreet, cX12_readStreet, 2, none, 2, 45)
def mX12_nextCart : MI := (yX12_nextCart, cX12_nextCart, 3, some .int, 2, 42)
def mX12_readCarts : MI := (yX12_readCarts, cX12_readCarts, 5, none, 3, 64)
def mX12_fault : MI := (yX12_fault, cX12_fault, 2, some .int, 4, 88)
def mX12_street : MI := (yX12_street, cX12_street, 2, some .int, 3, 66)
def mX12_carts : MI := (yX12_carts, cX12_carts, 2, some .int, 4, 88)
def mX12_cartNow : MI := (yX12_cartNow, cX12_cartNow, 3, some .int, 0, 0)
def mX12_cart : MI := (yX12_cart, cX12_cart, 3, some .int, 1, 22)
def mX12_cells : MI := (yX12_cells, cX12_cells, 1, some .int, 0, 0)
def mX12_isCell : MI := (yX12_isCell, cX12_isCell, 2, some .boolean, 1, 22)
def mX12_isStone : MI := (yX12_isStone, cX12_isStone, 2, some .boolean, 2, 43)
def mX12_beside : MI := (yX12_beside, cX12_beside, 5, some .int, 1, 22)
def mX12_grip : MI := (yX12_grip, cX12_grip, 2, some .int, 0, 0)
def mX12_hold : MI := (yX12_hold, cX12_hold, 5, some .int, 2, 46)
def mX12_cellNow : MI := (yX12_cellNow, cX12_cellNow, 3, some .int, 3, 70)
def mX12_cell : MI := (yX12_cell, cX12_cell, 3, some .int, 4, 92)
def mX12_as : MI := (yX12_as, cX12_as, 4, some .int, 2, 43)
def mX12_stoneMany : MI := (yX12_stoneMany, cX12_stoneMany, 3, some .int, 1, 20)
def mX12_set : MI := (yX12_set, cX12_set, 3, some .int, 2, 42)
def mX12_grit : MI := (yX12_grit, cX12_grit, 3, some .int, 2, 42)
def mX12_isWeight : MI := (yX12_isWeight, cX12_isWeight, 1, some .boolean, 1, 22)
def mX12_sinks : MI := (yX12_sinks, cX12_sinks, 4, some .int, 3, 70)
def mX12_goBlow : MI := (yX12_goBlow, cX12_goBlow, 4, some .int, 4, 93)
def mX12_blow : MI := (yX12_blow, cX12_blow, 3, some .int, 5, 116)
def mX12_byOrder : MI := (yX12_byOrder, cX12_byOrder, 4, some .int, 1, 20)
def mX12_goRounds : MI := (yX12_goRounds, cX12_goRounds, 8, some .int, 5, 116)
def mX12_isOrder : MI := (yX12_isOrder, cX12_isOrder, 1, some .boolean, 1, 22)
def mX12_ram : MI := (yX12_ram, cX12_ram, 4, some .int, 6, 143)
def mX12_ringing : MI := (yX12_ringing, cX12_ringing, 4, some .int, 4, 93)
def mX12_rings : MI := (yX12_rings, cX12_rings, 2, some .int, 5, 116)
def mX12_save : MI := (yX12_save, cX12_save, 2, none, 0, 0)
def mX12_back : MI := (yX12_back, cX12_back, 2, none, 0, 0)
def mX12_proud : MI := (yX12_proud, cX12_proud, 7, some .int, 6, 143)
def mX12_until : MI := (yX12_until, cX12_until, 4, some .int, 6, 143)
def mX12_unevenNow : MI := (yX12_unevenNow, cX12_unevenNow, 4, some .int, 1, 20)
def mX12_uneven : MI := (yX12_uneven, cX12_uneven, 1, some .int, 2, 43)
def mX12_evenest : MI := (yX12_evenest, cX12_evenest, 7, some .int, 6, 143)
def mX12_bear : MI := (yX12_bear, cX12_bear, 7, none, 3, 73)
def mX12_bearSecond : MI := (yX12_bearSecond, cX12_bearSecond, 8, none, 2, 46)
def mX12_clearWear : MI := (yX12_clearWear, cX12_clearWear, 2, none, 0, 0)
def mX12_isLoad : MI := (yX12_isLoad, cX12_isLoad, 1, some .boolean, 1, 22)
def mX12_layLoad : MI := (yX12_layLoad, cX12_layLoad, 3, none, 4, 99)
def mX12_borne : MI := (yX12_borne, cX12_borne, 4, some .int, 5, 121)
def mX12_bearer : MI := (yX12_bearer, cX12_bearer, 5, some .int, 5, 121)
def mX12_isRim : MI := (yX12_isRim, cX12_isRim, 4, some .boolean, 0, 0)
def mX12_layWater : MI := (yX12_layWater, cX12_layWater, 6, none, 2, 46)
def mX12_water : MI := (yX12_water, cX12_water, 2, some .int, 3, 71)
def mX12_seed : MI := (yX12_seed, cX12_seed, 3, some .int, 0, 0)
def mX12_draw : MI := (yX12_draw, cX12_draw, 1, some .int, 0, 0)
def mX12_layWear : MI := (yX12_layWear, cX12_layWear, 4, none, 4, 99)
def mX12_worsen : MI := (yX12_worsen, cX12_worsen, 2, some .boolean, 0, 0)
def mX12_isBesideSand : MI := (yX12_isBesideSand, cX12_isBesideSand, 5, some .boolean, 2, 46)
def mX12_freeze : MI := (yX12_freeze, cX12_freeze, 3, none, 1, 20)
def mX12_goYear : MI := (yX12_goYear, cX12_goYear, 5, some .int, 5, 122)
def mX12_goYears : MI := (yX12_goYears, cX12_goYears, 5, some .int, 6, 146)
def mX12_isReady : MI := (yX12_isReady, cX12_isReady, 1, some .boolean, 0, 0)
def mX12_areYears : MI := (yX12_areYears, cX12_areYears, 2, some .boolean, 1, 22)
def mX12_years : MI := (yX12_years, cX12_years, 3, some .int, 7, 170)
def mX12_wouldNow : MI := (yX12_wouldNow, cX12_wouldNow, 4, some .int, 7, 170)
def mX12_would : MI := (yX12_would, cX12_would, 3, some .int, 8, 193)
def mX12_canMend : MI := (yX12_canMend, cX12_canMend, 2, some .boolean, 0, 0)
def mX12_goMend : MI := (yX12_goMend, cX12_goMend, 3, none, 0, 0)
def mX12_mend : MI := (yX12_mend, cX12_mend, 3, some .int, 2, 43)
def mX12_layMends : MI := (yX12_layMends, cX12_layMends, 2, none, 1, 21)
def mX12_ones : MI := (yX12_ones, cX12_ones, 3, some .int, 0, 0)
def mX12_first : MI := (yX12_first, cX12_first, 9, some .int, 7, 170)
def mX12_trench : MI := (yX12_trench, cX12_trench, 7, some .int, 1, 22)
def mX12_heap : MI := (yX12_heap, cX12_heap, 2, some .int, 1, 22)
def mX12_wide : MI := (yX12_wide, cX12_wide, 4, some .int, 0, 0)
def mX12_fits : MI := (yX12_fits, cX12_fits, 7, some .int, 1, 23)
def mX12_gaps : MI := (yX12_gaps, cX12_gaps, 5, some .int, 1, 22)
def mX12_isRow : MI := (yX12_isRow, cX12_isRow, 2, some .boolean, 1, 22)
def mX12_steps : MI := (yX12_steps, cX12_steps, 2, some .int, 0, 0)
def mX12_shaken : MI := (yX12_shaken, cX12_shaken, 6, some .int, 1, 21)
def mX12_lowest : MI := (yX12_lowest, cX12_lowest, 6, some .int, 0, 0)
def mX12_shake : MI := (yX12_shake, cX12_shake, 4, some .int, 2, 46)
def mX12_worst : MI := (yX12_worst, cX12_worst, 5, some .int, 2, 46)
def mX12_image : MI := (yX12_image, cX12_image, 2, some .int, 2, 42)
def mX12_restore : MI := (yX12_restore, cX12_restore, 2, some .int, 2, 42)
def mX12_howMany : MI := (yX12_howMany, cX12_howMany, 2, some .int, 2, 42)
def mX12_count : MI := (yX12_count, cX12_count, 2, some .int, 3, 63)
def mX12_mix : MI := (yX12_mix, cX12_mix, 3, none, 0, 0)
def mX12_mixStreet : MI := (yX12_mixStreet, cX12_mixStreet, 3, none, 4, 92)
def mX12_digest : MI := (yX12_digest, cX12_digest, 2, some .long, 8, 193)
def mJ6_numberOfTrailingZeros_0f7a4 : MI := (yJ6_numberOfTrailingZeros_0f7a4, cJ6_numberOfTrailingZeros_0f7a4, 2, some .int, 0, 0)
def mJ6_bitCount_0f7a4 : MI := (yJ6_bitCount_0f7a4, cJ6_bitCount_0f7a4, 1, some .int, 0, 0)
def mJ9_abs_0f7a4 : MI := (yJ9_abs_0f7a4, cJ9_abs_0f7a4, 1, some .int, 0, 0)
def mJ9_max_7cf53 : MI := (yJ9_max_7cf53, cJ9_max_7cf53, 2, some .int, 0, 0)
def mJ9_min_7cf53 : MI := (yJ9_min_7cf53, cJ9_min_7cf53, 2, some .int, 0, 0)
theorem inTX0 : ∀ w ∈ u_ws RX0 TX0 4, w ∈ wTb := wT_all _ [93, 95, 97, 99] (by decide +kernel) (by decide +kernel)
theorem inTX1 : ∀ w ∈ u_ws RX1 TX1 5, w ∈ wTb := wT_all _ [252, 254, 256, 258, 260] (by decide +kernel) (by decide +kernel)
theorem inTX2 : ∀ w ∈ u_ws RX2 TX2 3, w ∈ wTb := wT_all _ [198, 200, 202] (by decide +kernel) (by decide +kernel)
theorem inTX3 : ∀ w ∈ u_ws RX3 TX3 2, w ∈ wTb := wT_all _ [36, 38] (by decide +kernel) (by decide +kernel)
theorem inTX4 : ∀ w ∈ u_ws RX4 TX4 5, w ∈ wTb := wT_all _ [124, 126, 128, 130, 132] (by decide +kernel) (by decide +kernel)
theorem inTX5 : ∀ w ∈ u_ws RX5 TX5 2, w ∈ wTb := wT_all _ [182, 184] (by decide +kernel) (by decide +kernel)
theorem inTX7 : ∀ w ∈ u_ws RX7 TX7 8, w ∈ wTb := wT_all _ [157, 159, 161, 163, 165, 167, 169, 171] (by decide +kernel) (by decide +kernel)
theorem inTX8 : ∀ w ∈ u_ws RX8 TX8 7, w ∈ wTb := wT_all _ [62, 64, 66, 68, 70, 72, 74] (by decide +kernel) (by decide +kernel)
theorem inTX9 : ∀ w ∈ u_ws RX9 TX9 2, w ∈ wTb := wT_all _ [213, 215] (by decide +kernel) (by decide +kernel)
theorem inTX10 : ∀ w ∈ u_ws RX10 TX10 4, w ∈ wTb := wT_all _ [228, 230, 232, 234] (by decide +kernel) (by decide +kernel)
theorem inTX11 : ∀ w ∈ u_ws RX11 TX11 17, w ∈ wTb := wT_all _ [280, 282, 284, 286, 288, 290, 292, 294, 296, 298, 300, 302, 304, 306, 308, 310, 312] (by decide +kernel) (by decide +kernel)
theorem inTX12 : ∀ w ∈ u_ws RX12 TX12 40, w ∈ wTb := wT_all _ [876, 878, 880, 882, 884, 886, 888, 890, 892, 894, 896, 898, 900, 902, 904, 906, 908, 910, 912, 914, 916, 918, 920, 922, 924, 926, 928, 930, 932, 934, 936, 938, 940, 942, 944, 946, 948, 950, 952, 954] (by decide +kernel) (by decide +kernel)
theorem fX11_12 : FL RX11 12 10 0 (.object "RammedCobbles$Page") true := ⟨RX11, TX11, 17, tyX11, rfl, inTX11, tyX11_ok, nmX11, by decide, wT_i 263 (by decide +kernel) rfl, rfl, rfl⟩
theorem fX11_19 : FL RX11 19 10 1 (.object "RammedCobbles$StreetText") true := ⟨RX11, TX11, 17, tyX11, rfl, inTX11, tyX11_ok, nmX11, by decide, wT_i 264 (by decide +kernel) rfl, rfl, rfl⟩
theorem fX11_26 : FL RX11 26 10 2 (.object "RammedCobbles$CartText") true := ⟨RX11, TX11, 17, tyX11, rfl, inTX11, tyX11_ok, nmX11, by decide, wT_i 265 (by decide +kernel) rfl, rfl, rfl⟩
theorem fX11_30 : FL RX11 30 10 3 (.object "RammedCobbles$CartText") true := ⟨RX11, TX11, 17, tyX11, rfl, inTX11, tyX11_ok, nmX11, by decide, wT_i 266 (by decide +kernel) rfl, rfl, rfl⟩
theorem fX11_36 : FL RX11 36 10 4 (.object "RammedCobbles$Plan") true := ⟨RX11, TX11, 17, tyX11, rfl, inTX11, tyX11_ok, nmX11, by decide, wT_i 267 (by decide +kernel) rfl, rfl, rfl⟩
theorem fX11_45 : FL RX11 45 10 5 (.object "RammedCobbles$Street") true := ⟨RX11, TX11, 17, tyX11, rfl, inTX11, tyX11_ok, nmX11, by decide, wT_i 268 (by decide +kernel) rfl, rfl, rfl⟩
theorem fX11_49 : FL RX11 49 10 6 (.object "RammedCobbles$Street") true := ⟨RX11, TX11, 17, tyX11, rfl, inTX11, tyX11_ok, nmX11, by decide, wT_i 269 (by decide +kernel) rfl, rfl, rfl⟩
theorem fX11_52 : FL RX11 52 10 7 (.object "RammedCobbles$Street") true := ⟨RX11, TX11, 17, tyX11, rfl, inTX11, tyX11_ok, nmX11, by decide, wT_i 270 (by decide +kernel) rfl, rfl, rfl⟩
theorem fX11_58 : FL RX11 58 10 8 (.object "RammedCobbles$Ramming") true := ⟨RX11, TX11, 17, tyX11, rfl, inTX11, tyX11_ok, nmX11, by decide, wT_i 271 (by decide +kernel) rfl, rfl, rfl⟩
theorem fX11_65 : FL RX11 65 10 9 (.object "RammedCobbles$Loads") true := ⟨RX11, TX11, 17, tyX11, rfl, inTX11, tyX11_ok, nmX11, by decide, wT_i 272 (by decide +kernel) rfl, rfl, rfl⟩
theorem fX11_72 : FL RX11 72 10 10 (.object "RammedCobbles$Water") true := ⟨RX11, TX11, 17, tyX11, rfl, inTX11, tyX11_ok, nmX11, by decide, wT_i 273 (by decide +kernel) rfl, rfl, rfl⟩
theorem fX11_81 : FL RX11 81 10 11 (.object "RammedCobbles$Years") true := ⟨RX11, TX11, 17, tyX11, rfl, inTX11, tyX11_ok, nmX11, by decide, wT_i 274 (by decide +kernel) rfl, rfl, rfl⟩
theorem fX11_88 : FL RX11 88 10 12 (.object "RammedCobbles$Heap") true := ⟨RX11, TX11, 17, tyX11, rfl, inTX11, tyX11_ok, nmX11, by decide, wT_i 275 (by decide +kernel) rfl, rfl, rfl⟩
theorem fX11_92 : FL RX11 92 10 13 (.array .int) true := ⟨RX11, TX11, 17, tyX11, rfl, inTX11, tyX11_ok, nmX11, by decide, wT_i 276 (by decide +kernel) rfl, rfl, rfl⟩
theorem fX11_96 : FL RX11 96 10 14 (.int) false := ⟨RX11, TX11, 17, tyX11, rfl, inTX11, tyX11_ok, nmX11, by decide, wT_i 277 (by decide +kernel) rfl, rfl, rfl⟩
theorem fX11_100 : FL RX11 100 10 15 (.int) false := ⟨RX11, TX11, 17, tyX11, rfl, inTX11, tyX11_ok, nmX11, by decide, wT_i 278 (by decide +kernel) rfl, rfl, rfl⟩
theorem fX11_103 : FL RX11 103 10 16 (.int) false := ⟨RX11, TX11, 17, tyX11, rfl, inTX11, tyX11_ok, nmX11, by decide, wT_i 279 (by decide +kernel) rfl, rfl, rfl⟩
theorem fX11_110 : FL RX11 110 3 1 (.int) false := ⟨RX3, TX3, 2, tyX3, rfl, inTX3, tyX3_ok, nmX3, by decide, wT_i 34 (by decide +kernel) rfl, rfl, rfl⟩
theorem fX11_130 : FL RX11 130 7 2 (.int) false := ⟨RX8, TX8, 7, tyX8, rfl, inTX8, tyX8_ok, nmX8, by decide, wT_i 56 (by decide +kernel) rfl, rfl, rfl⟩
theorem fX11_133 : FL RX11 133 7 3 (.int) false := ⟨RX8, TX8, 7, tyX8, rfl, inTX8, tyX8_ok, nmX8, by decide, wT_i 58 (by decide +kernel) rfl, rfl, rfl⟩
theorem fX11_144 : FL RX11 144 4 4 (.int) false := ⟨RX4, TX4, 5, tyX4, rfl, inTX4, tyX4_ok, nmX4, by decide, wT_i 123 (by decide +kernel) rfl, rfl, rfl⟩
theorem fX11_152 : FL RX11 152 0 2 (.int) false := ⟨RX0, TX0, 4, tyX0, rfl, inTX0, tyX0_ok, nmX0, by decide, wT_i 91 (by decide +kernel) rfl, rfl, rfl⟩
theorem fX11_155 : FL RX11 155 0 0 (.array .int) true := ⟨RX0, TX0, 4, tyX0, rfl, inTX0, tyX0_ok, nmX0, by decide, wT_i 85 (by decide +kernel) rfl, rfl, rfl⟩
theorem fX11_157 : FL RX11 157 0 1 (.array .int) true := ⟨RX0, TX0, 4, tyX0, rfl, inTX0, tyX0_ok, nmX0, by decide, wT_i 88 (by decide +kernel) rfl, rfl, rfl⟩
theorem fX11_208 : FL RX11 208 6 3 (.array .int) true := ⟨RX7, TX7, 8, tyX7, rfl, inTX7, tyX7_ok, nmX7, by decide, wT_i 150 (by decide +kernel) rfl, rfl, rfl⟩
theorem fX11_228 : FL RX11 228 2 2 (.array .int) true := ⟨RX2, TX2, 3, tyX2, rfl, inTX2, tyX2_ok, nmX2, by decide, wT_i 197 (by decide +kernel) rfl, rfl, rfl⟩
theorem fX11_241 : FL RX11 241 6 6 (.int) false := ⟨RX7, TX7, 8, tyX7, rfl, inTX7, tyX7_ok, nmX7, by decide, wT_i 154 (by decide +kernel) rfl, rfl, rfl⟩
theorem fX11_263 : FL RX11 263 6 1 (.array .int) true := ⟨RX7, TX7, 8, tyX7, rfl, inTX7, tyX7_ok, nmX7, by decide, wT_i 145 (by decide +kernel) rfl, rfl, rfl⟩
theorem fX11_281 : FL RX11 281 1 2 (.int) false := ⟨RX1, TX1, 5, tyX1, rfl, inTX1, tyX1_ok, nmX1, by decide, wT_i 247 (by decide +kernel) rfl, rfl, rfl⟩
theorem fX11_288 : FL RX11 288 1 3 (.int) false := ⟨RX1, TX1, 5, tyX1, rfl, inTX1, tyX1_ok, nmX1, by decide, wT_i 249 (by decide +kernel) rfl, rfl, rfl⟩
theorem fX11_291 : FL RX11 291 1 4 (.int) false := ⟨RX1, TX1, 5, tyX1, rfl, inTX1, tyX1_ok, nmX1, by decide, wT_i 251 (by decide +kernel) rfl, rfl, rfl⟩
theorem fX11_314 : FL RX11 314 1 0 (.array .int) true := ⟨RX1, TX1, 5, tyX1, rfl, inTX1, tyX1_ok, nmX1, by decide, wT_i 244 (by decide +kernel) rfl, rfl, rfl⟩
theorem fX11_320 : FL RX11 320 3 0 (.array .int) true := ⟨RX3, TX3, 2, tyX3, rfl, inTX3, tyX3_ok, nmX3, by decide, wT_i 32 (by decide +kernel) rfl, rfl, rfl⟩
theorem fX11_326 : FL RX11 326 4 2 (.int) false := ⟨RX4, TX4, 5, tyX4, rfl, inTX4, tyX4_ok, nmX4, by decide, wT_i 113 (by decide +kernel) rfl, rfl, rfl⟩
theorem fX0_9 : FL RX0 9 0 0 (.array .int) true := ⟨RX0, TX0, 4, tyX0, rfl, inTX0, tyX0_ok, nmX0, by decide, wT_i 83 (by decide +kernel) rfl, rfl, rfl⟩
theorem fX0_15 : FL RX0 15 0 1 (.array .int) true := ⟨RX0, TX0, 4, tyX0, rfl, inTX0, tyX0_ok, nmX0, by decide, wT_i 86 (by decide +kernel) rfl, rfl, rfl⟩
theorem fX0_18 : FL RX0 18 0 2 (.int) false := ⟨RX0, TX0, 4, tyX0, rfl, inTX0, tyX0_ok, nmX0, by decide, wT_i 89 (by decide +kernel) rfl, rfl, rfl⟩
theorem fX0_22 : FL RX0 22 0 3 (.int) false := ⟨RX0, TX0, 4, tyX0, rfl, inTX0, tyX0_ok, nmX0, by decide, wT_i 92 (by decide +kernel) rfl, rfl, rfl⟩
theorem fX1_9 : FL RX1 9 1 0 (.array .int) true := ⟨RX1, TX1, 5, tyX1, rfl, inTX1, tyX1_ok, nmX1, by decide, wT_i 243 (by decide +kernel) rfl, rfl, rfl⟩
theorem fX1_15 : FL RX1 15 1 1 (.array .int) true := ⟨RX1, TX1, 5, tyX1, rfl, inTX1, tyX1_ok, nmX1, by decide, wT_i 245 (by decide +kernel) rfl, rfl, rfl⟩
theorem fX1_18 : FL RX1 18 1 2 (.int) false := ⟨RX1, TX1, 5, tyX1, rfl, inTX1, tyX1_ok, nmX1, by decide, wT_i 246 (by decide +kernel) rfl, rfl, rfl⟩
theorem fX1_22 : FL RX1 22 1 3 (.int) false := ⟨RX1, TX1, 5, tyX1, rfl, inTX1, tyX1_ok, nmX1, by decide, wT_i 248 (by decide +kernel) rfl, rfl, rfl⟩
theorem fX1_25 : FL RX1 25 1 4 (.int) false := ⟨RX1, TX1, 5, tyX1, rfl, inTX1, tyX1_ok, nmX1, by decide, wT_i 250 (by decide +kernel) rfl, rfl, rfl⟩
theorem fX2_9 : FL RX2 9 2 1 (.array .int) true := ⟨RX2, TX2, 3, tyX2, rfl, inTX2, tyX2_ok, nmX2, by decide, wT_i 194 (by decide +kernel) rfl, rfl, rfl⟩
theorem fX2_15 : FL RX2 15 2 2 (.array .int) true := ⟨RX2, TX2, 3, tyX2, rfl, inTX2, tyX2_ok, nmX2, by decide, wT_i 195 (by decide +kernel) rfl, rfl, rfl⟩
theorem fX2_18 : FL RX2 18 2 0 (.object "RammedCobbles$Plan") true := ⟨RX2, TX2, 3, tyX2, rfl, inTX2, tyX2_ok, nmX2, by decide, wT_i 193 (by decide +kernel) rfl, rfl, rfl⟩
theorem fX2_22 : FL RX2 22 4 4 (.int) false := ⟨RX4, TX4, 5, tyX4, rfl, inTX4, tyX4_ok, nmX4, by decide, wT_i 119 (by decide +kernel) rfl, rfl, rfl⟩
theorem fX2_28 : FL RX2 28 6 1 (.array .int) true := ⟨RX7, TX7, 8, tyX7, rfl, inTX7, tyX7_ok, nmX7, by decide, wT_i 144 (by decide +kernel) rfl, rfl, rfl⟩
theorem fX3_9 : FL RX3 9 3 0 (.array .int) true := ⟨RX3, TX3, 2, tyX3, rfl, inTX3, tyX3_ok, nmX3, by decide, wT_i 30 (by decide +kernel) rfl, rfl, rfl⟩
theorem fX3_15 : FL RX3 15 3 1 (.int) false := ⟨RX3, TX3, 2, tyX3, rfl, inTX3, tyX3_ok, nmX3, by decide, wT_i 33 (by decide +kernel) rfl, rfl, rfl⟩
theorem fX4_9 : FL RX4 9 4 0 (.array .int) true := ⟨RX4, TX4, 5, tyX4, rfl, inTX4, tyX4_ok, nmX4, by decide, wT_i 108 (by decide +kernel) rfl, rfl, rfl⟩
theorem fX4_15 : FL RX4 15 4 1 (.array .boolean) true := ⟨RX4, TX4, 5, tyX4, rfl, inTX4, tyX4_ok, nmX4, by decide, wT_i 109 (by decide +kernel) rfl, rfl, rfl⟩
theorem fX4_19 : FL RX4 19 4 2 (.int) false := ⟨RX4, TX4, 5, tyX4, rfl, inTX4, tyX4_ok, nmX4, by decide, wT_i 111 (by decide +kernel) rfl, rfl, rfl⟩
theorem fX4_23 : FL RX4 23 4 3 (.int) false := ⟨RX4, TX4, 5, tyX4, rfl, inTX4, tyX4_ok, nmX4, by decide, wT_i 114 (by decide +kernel) rfl, rfl, rfl⟩
theorem fX4_26 : FL RX4 26 4 4 (.int) false := ⟨RX4, TX4, 5, tyX4, rfl, inTX4, tyX4_ok, nmX4, by decide, wT_i 117 (by decide +kernel) rfl, rfl, rfl⟩
theorem fX5_9 : FL RX5 9 5 1 (.array .int) true := ⟨RX5, TX5, 2, tyX5, rfl, inTX5, tyX5_ok, nmX5, by decide, wT_i 181 (by decide +kernel) rfl, rfl, rfl⟩
theorem fX5_15 : FL RX5 15 5 0 (.object "RammedCobbles$Plan") true := ⟨RX5, TX5, 2, tyX5, rfl, inTX5, tyX5_ok, nmX5, by decide, wT_i 180 (by decide +kernel) rfl, rfl, rfl⟩
theorem fX5_37 : FL RX5 37 4 4 (.int) false := ⟨RX4, TX4, 5, tyX4, rfl, inTX4, tyX4_ok, nmX4, by decide, wT_i 122 (by decide +kernel) rfl, rfl, rfl⟩
theorem fX5_50 : FL RX5 50 4 3 (.int) false := ⟨RX4, TX4, 5, tyX4, rfl, inTX4, tyX4_ok, nmX4, by decide, wT_i 116 (by decide +kernel) rfl, rfl, rfl⟩
theorem fX5_53 : FL RX5 53 4 2 (.int) false := ⟨RX4, TX4, 5, tyX4, rfl, inTX4, tyX4_ok, nmX4, by decide, wT_i 112 (by decide +kernel) rfl, rfl, rfl⟩
theorem fX6_12 : FL RX6 12 3 1 (.int) false := ⟨RX3, TX3, 2, tyX3, rfl, inTX3, tyX3_ok, nmX3, by decide, wT_i 35 (by decide +kernel) rfl, rfl, rfl⟩
theorem fX6_18 : FL RX6 18 3 0 (.array .int) true := ⟨RX3, TX3, 2, tyX3, rfl, inTX3, tyX3_ok, nmX3, by decide, wT_i 31 (by decide +kernel) rfl, rfl, rfl⟩
theorem fX7_9 : FL RX7 9 6 1 (.array .int) true := ⟨RX7, TX7, 8, tyX7, rfl, inTX7, tyX7_ok, nmX7, by decide, wT_i 143 (by decide +kernel) rfl, rfl, rfl⟩
theorem fX7_15 : FL RX7 15 6 2 (.array .int) true := ⟨RX7, TX7, 8, tyX7, rfl, inTX7, tyX7_ok, nmX7, by decide, wT_i 146 (by decide +kernel) rfl, rfl, rfl⟩
theorem fX7_18 : FL RX7 18 6 3 (.array .int) true := ⟨RX7, TX7, 8, tyX7, rfl, inTX7, tyX7_ok, nmX7, by decide, wT_i 148 (by decide +kernel) rfl, rfl, rfl⟩
theorem fX7_21 : FL RX7 21 6 4 (.array .int) true := ⟨RX7, TX7, 8, tyX7, rfl, inTX7, tyX7_ok, nmX7, by decide, wT_i 151 (by decide +kernel) rfl, rfl, rfl⟩
theorem fX7_24 : FL RX7 24 6 5 (.array .int) true := ⟨RX7, TX7, 8, tyX7, rfl, inTX7, tyX7_ok, nmX7, by decide, wT_i 152 (by decide +kernel) rfl, rfl, rfl⟩
theorem fX7_27 : FL RX7 27 6 6 (.int) false := ⟨RX7, TX7, 8, tyX7, rfl, inTX7, tyX7_ok, nmX7, by decide, wT_i 153 (by decide +kernel) rfl, rfl, rfl⟩
theorem fX7_31 : FL RX7 31 6 7 (.int) false := ⟨RX7, TX7, 8, tyX7, rfl, inTX7, tyX7_ok, nmX7, by decide, wT_i 155 (by decide +kernel) rfl, rfl, rfl⟩
theorem fX7_34 : FL RX7 34 6 0 (.object "RammedCobbles$Plan") true := ⟨RX7, TX7, 8, tyX7, rfl, inTX7, tyX7_ok, nmX7, by decide, wT_i 142 (by decide +kernel) rfl, rfl, rfl⟩
theorem fX7_38 : FL RX7 38 4 4 (.int) false := ⟨RX4, TX4, 5, tyX4, rfl, inTX4, tyX4_ok, nmX4, by decide, wT_i 118 (by decide +kernel) rfl, rfl, rfl⟩
theorem fX7_43 : FL RX7 43 7 0 (.array .int) true := ⟨RX8, TX8, 7, tyX8, rfl, inTX8, tyX8_ok, nmX8, by decide, wT_i 52 (by decide +kernel) rfl, rfl, rfl⟩
theorem fX7_46 : FL RX7 46 7 1 (.array .int) true := ⟨RX8, TX8, 7, tyX8, rfl, inTX8, tyX8_ok, nmX8, by decide, wT_i 54 (by decide +kernel) rfl, rfl, rfl⟩
theorem fX8_9 : FL RX8 9 7 0 (.array .int) true := ⟨RX8, TX8, 7, tyX8, rfl, inTX8, tyX8_ok, nmX8, by decide, wT_i 51 (by decide +kernel) rfl, rfl, rfl⟩
theorem fX8_15 : FL RX8 15 7 1 (.array .int) true := ⟨RX8, TX8, 7, tyX8, rfl, inTX8, tyX8_ok, nmX8, by decide, wT_i 53 (by decide +kernel) rfl, rfl, rfl⟩
theorem fX8_18 : FL RX8 18 7 2 (.int) false := ⟨RX8, TX8, 7, tyX8, rfl, inTX8, tyX8_ok, nmX8, by decide, wT_i 55 (by decide +kernel) rfl, rfl, rfl⟩
theorem fX8_22 : FL RX8 22 7 3 (.int) false := ⟨RX8, TX8, 7, tyX8, rfl, inTX8, tyX8_ok, nmX8, by decide, wT_i 57 (by decide +kernel) rfl, rfl, rfl⟩
theorem fX8_25 : FL RX8 25 7 4 (.int) false := ⟨RX8, TX8, 7, tyX8, rfl, inTX8, tyX8_ok, nmX8, by decide, wT_i 59 (by decide +kernel) rfl, rfl, rfl⟩
theorem fX8_28 : FL RX8 28 7 5 (.int) false := ⟨RX8, TX8, 7, tyX8, rfl, inTX8, tyX8_ok, nmX8, by decide, wT_i 60 (by decide +kernel) rfl, rfl, rfl⟩
theorem fX8_31 : FL RX8 31 7 6 (.boolean) false := ⟨RX8, TX8, 7, tyX8, rfl, inTX8, tyX8_ok, nmX8, by decide, wT_i 61 (by decide +kernel) rfl, rfl, rfl⟩
theorem fX9_9 : FL RX9 9 8 1 (.array .int) true := ⟨RX9, TX9, 2, tyX9, rfl, inTX9, tyX9_ok, nmX9, by decide, wT_i 212 (by decide +kernel) rfl, rfl, rfl⟩
theorem fX9_15 : FL RX9 15 8 0 (.object "RammedCobbles$Plan") true := ⟨RX9, TX9, 2, tyX9, rfl, inTX9, tyX9_ok, nmX9, by decide, wT_i 211 (by decide +kernel) rfl, rfl, rfl⟩
theorem fX9_19 : FL RX9 19 4 4 (.int) false := ⟨RX4, TX4, 5, tyX4, rfl, inTX4, tyX4_ok, nmX4, by decide, wT_i 120 (by decide +kernel) rfl, rfl, rfl⟩
theorem fX9_25 : FL RX9 25 4 1 (.array .boolean) true := ⟨RX4, TX4, 5, tyX4, rfl, inTX4, tyX4_ok, nmX4, by decide, wT_i 110 (by decide +kernel) rfl, rfl, rfl⟩
theorem fX9_29 : FL RX9 29 6 3 (.array .int) true := ⟨RX7, TX7, 8, tyX7, rfl, inTX7, tyX7_ok, nmX7, by decide, wT_i 149 (by decide +kernel) rfl, rfl, rfl⟩
theorem fX10_9 : FL RX10 9 9 3 (.array .boolean) true := ⟨RX10, TX10, 4, tyX10, rfl, inTX10, tyX10_ok, nmX10, by decide, wT_i 227 (by decide +kernel) rfl, rfl, rfl⟩
theorem fX10_15 : FL RX10 15 9 0 (.object "RammedCobbles$Plan") true := ⟨RX10, TX10, 4, tyX10, rfl, inTX10, tyX10_ok, nmX10, by decide, wT_i 224 (by decide +kernel) rfl, rfl, rfl⟩
theorem fX10_19 : FL RX10 19 9 1 (.object "RammedCobbles$Loads") true := ⟨RX10, TX10, 4, tyX10, rfl, inTX10, tyX10_ok, nmX10, by decide, wT_i 225 (by decide +kernel) rfl, rfl, rfl⟩
theorem fX10_23 : FL RX10 23 9 2 (.object "RammedCobbles$Water") true := ⟨RX10, TX10, 4, tyX10, rfl, inTX10, tyX10_ok, nmX10, by decide, wT_i 226 (by decide +kernel) rfl, rfl, rfl⟩
theorem fX10_31 : FL RX10 31 6 7 (.int) false := ⟨RX7, TX7, 8, tyX7, rfl, inTX7, tyX7_ok, nmX7, by decide, wT_i 156 (by decide +kernel) rfl, rfl, rfl⟩
theorem fX10_54 : FL RX10 54 0 2 (.int) false := ⟨RX0, TX0, 4, tyX0, rfl, inTX0, tyX0_ok, nmX0, by decide, wT_i 90 (by decide +kernel) rfl, rfl, rfl⟩
theorem fX10_59 : FL RX10 59 4 3 (.int) false := ⟨RX4, TX4, 5, tyX4, rfl, inTX4, tyX4_ok, nmX4, by decide, wT_i 115 (by decide +kernel) rfl, rfl, rfl⟩
theorem fX10_64 : FL RX10 64 0 0 (.array .int) true := ⟨RX0, TX0, 4, tyX0, rfl, inTX0, tyX0_ok, nmX0, by decide, wT_i 84 (by decide +kernel) rfl, rfl, rfl⟩
theorem fX10_72 : FL RX10 72 0 1 (.array .int) true := ⟨RX0, TX0, 4, tyX0, rfl, inTX0, tyX0_ok, nmX0, by decide, wT_i 87 (by decide +kernel) rfl, rfl, rfl⟩
theorem fX10_79 : FL RX10 79 4 4 (.int) false := ⟨RX4, TX4, 5, tyX4, rfl, inTX4, tyX4_ok, nmX4, by decide, wT_i 121 (by decide +kernel) rfl, rfl, rfl⟩
theorem fX10_82 : FL RX10 82 6 2 (.array .int) true := ⟨RX7, TX7, 8, tyX7, rfl, inTX7, tyX7_ok, nmX7, by decide, wT_i 147 (by decide +kernel) rfl, rfl, rfl⟩
theorem fX10_89 : FL RX10 89 2 2 (.array .int) true := ⟨RX2, TX2, 3, tyX2, rfl, inTX2, tyX2_ok, nmX2, by decide, wT_i 196 (by decide +kernel) rfl, rfl, rfl⟩
theorem fX12_7 : FL RX12 7 11 3 (.array .int) true := ⟨RX12, TX12, 40, tyX12, rfl, inTX12, tyX12_ok, nmX12, by decide, wT_i 839 (by decide +kernel) rfl, rfl, rfl⟩
theorem fX12_13 : FL RX12 13 11 4 (.array .int) true := ⟨RX12, TX12, 40, tyX12, rfl, inTX12, tyX12_ok, nmX12, by decide, wT_i 840 (by decide +kernel) rfl, rfl, rfl⟩
theorem fX12_16 : FL RX12 16 11 5 (.array .int) true := ⟨RX12, TX12, 40, tyX12, rfl, inTX12, tyX12_ok, nmX12, by decide, wT_i 841 (by decide +kernel) rfl, rfl, rfl⟩
theorem fX12_19 : FL RX12 19 11 6 (.array .int) true := ⟨RX12, TX12, 40, tyX12, rfl, inTX12, tyX12_ok, nmX12, by decide, wT_i 842 (by decide +kernel) rfl, rfl, rfl⟩
theorem fX12_22 : FL RX12 22 11 7 (.array .int) true := ⟨RX12, TX12, 40, tyX12, rfl, inTX12, tyX12_ok, nmX12, by decide, wT_i 843 (by decide +kernel) rfl, rfl, rfl⟩
theorem fX12_25 : FL RX12 25 11 8 (.long) false := ⟨RX12, TX12, 40, tyX12, rfl, inTX12, tyX12_ok, nmX12, by decide, wT_i 844 (by decide +kernel) rfl, rfl, rfl⟩
theorem fX12_29 : FL RX12 29 11 10 (.array .int) true := ⟨RX12, TX12, 40, tyX12, rfl, inTX12, tyX12_ok, nmX12, by decide, wT_i 846 (by decide +kernel) rfl, rfl, rfl⟩
theorem fX12_32 : FL RX12 32 11 11 (.array .int) true := ⟨RX12, TX12, 40, tyX12, rfl, inTX12, tyX12_ok, nmX12, by decide, wT_i 847 (by decide +kernel) rfl, rfl, rfl⟩
theorem fX12_35 : FL RX12 35 11 13 (.array .int) true := ⟨RX12, TX12, 40, tyX12, rfl, inTX12, tyX12_ok, nmX12, by decide, wT_i 849 (by decide +kernel) rfl, rfl, rfl⟩
theorem fX12_38 : FL RX12 38 11 16 (.array .byte) true := ⟨RX12, TX12, 40, tyX12, rfl, inTX12, tyX12_ok, nmX12, by decide, wT_i 852 (by decide +kernel) rfl, rfl, rfl⟩
theorem fX12_42 : FL RX12 42 11 20 (.array .int) true := ⟨RX12, TX12, 40, tyX12, rfl, inTX12, tyX12_ok, nmX12, by decide, wT_i 856 (by decide +kernel) rfl, rfl, rfl⟩
theorem fX12_45 : FL RX12 45 11 22 (.array .int) true := ⟨RX12, TX12, 40, tyX12, rfl, inTX12, tyX12_ok, nmX12, by decide, wT_i 858 (by decide +kernel) rfl, rfl, rfl⟩
theorem fX12_48 : FL RX12 48 11 29 (.array .int) true := ⟨RX12, TX12, 40, tyX12, rfl, inTX12, tyX12_ok, nmX12, by decide, wT_i 865 (by decide +kernel) rfl, rfl, rfl⟩
theorem fX12_51 : FL RX12 51 11 30 (.array .int) true := ⟨RX12, TX12, 40, tyX12, rfl, inTX12, tyX12_ok, nmX12, by decide, wT_i 866 (by decide +kernel) rfl, rfl, rfl⟩
theorem fX12_54 : FL RX12 54 11 32 (.array .int) true := ⟨RX12, TX12, 40, tyX12, rfl, inTX12, tyX12_ok, nmX12, by decide, wT_i 868 (by decide +kernel) rfl, rfl, rfl⟩
theorem fX12_57 : FL RX12 57 11 33 (.array .int) true := ⟨RX12, TX12, 40, tyX12, rfl, inTX12, tyX12_ok, nmX12, by decide, wT_i 869 (by decide +kernel) rfl, rfl, rfl⟩
theorem fX12_60 : FL RX12 60 11 34 (.array .int) true := ⟨RX12, TX12, 40, tyX12, rfl, inTX12, tyX12_ok, nmX12, by decide, wT_i 870 (by decide +kernel) rfl, rfl, rfl⟩
theorem fX12_63 : FL RX12 63 11 35 (.array .int) true := ⟨RX12, TX12, 40, tyX12, rfl, inTX12, tyX12_ok, nmX12, by decide, wT_i 871 (by decide +kernel) rfl, rfl, rfl⟩
theorem fX12_66 : FL RX12 66 11 36 (.array .int) true := ⟨RX12, TX12, 40, tyX12, rfl, inTX12, tyX12_ok, nmX12, by decide, wT_i 872 (by decide +kernel) rfl, rfl, rfl⟩
theorem fX12_69 : FL RX12 69 11 38 (.array .int) true := ⟨RX12, TX12, 40, tyX12, rfl, inTX12, tyX12_ok, nmX12, by decide, wT_i 874 (by decide +kernel) rfl, rfl, rfl⟩
theorem fX12_74 : FL RX12 74 11 15 (.int) false := ⟨RX12, TX12, 40, tyX12, rfl, inTX12, tyX12_ok, nmX12, by decide, wT_i 851 (by decide +kernel) rfl, rfl, rfl⟩
theorem fX12_82 : FL RX12 82 11 25 (.int) false := ⟨RX12, TX12, 40, tyX12, rfl, inTX12, tyX12_ok, nmX12, by decide, wT_i 861 (by decide +kernel) rfl, rfl, rfl⟩
theorem fX12_85 : FL RX12 85 11 26 (.int) false := ⟨RX12, TX12, 40, tyX12, rfl, inTX12, tyX12_ok, nmX12, by decide, wT_i 862 (by decide +kernel) rfl, rfl, rfl⟩
theorem fX12_88 : FL RX12 88 11 27 (.int) false := ⟨RX12, TX12, 40, tyX12, rfl, inTX12, tyX12_ok, nmX12, by decide, wT_i 863 (by decide +kernel) rfl, rfl, rfl⟩
theorem fX12_91 : FL RX12 91 11 28 (.boolean) false := ⟨RX12, TX12, 40, tyX12, rfl, inTX12, tyX12_ok, nmX12, by decide, wT_i 864 (by decide +kernel) rfl, rfl, rfl⟩
theorem fX12_103 : FL RX12 103 11 23 (.int) false := ⟨RX12, TX12, 40, tyX12, rfl, inTX12, tyX12_ok, nmX12, by decide, wT_i 859 (by decide +kernel) rfl, rfl, rfl⟩
theorem fX12_106 : FL RX12 106 11 24 (.boolean) false := ⟨RX12, TX12, 40, tyX12, rfl, inTX12, tyX12_ok, nmX12, by decide, wT_i 860 (by decide +kernel) rfl, rfl, rfl⟩
theorem fX12_109 : FL RX12 109 11 31 (.int) false := ⟨RX12, TX12, 40, tyX12, rfl, inTX12, tyX12_ok, nmX12, by decide, wT_i 867 (by decide +kernel) rfl, rfl, rfl⟩
theorem fX12_125 : FL RX12 125 11 0 (.int) false := ⟨RX12, TX12, 40, tyX12, rfl, inTX12, tyX12_ok, nmX12, by decide, wT_i 836 (by decide +kernel) rfl, rfl, rfl⟩
theorem fX12_128 : FL RX12 128 11 1 (.int) false := ⟨RX12, TX12, 40, tyX12, rfl, inTX12, tyX12_ok, nmX12, by decide, wT_i 837 (by decide +kernel) rfl, rfl, rfl⟩
theorem fX12_131 : FL RX12 131 11 2 (.int) false := ⟨RX12, TX12, 40, tyX12, rfl, inTX12, tyX12_ok, nmX12, by decide, wT_i 838 (by decide +kernel) rfl, rfl, rfl⟩
theorem fX12_134 : FL RX12 134 11 9 (.int) false := ⟨RX12, TX12, 40, tyX12, rfl, inTX12, tyX12_ok, nmX12, by decide, wT_i 845 (by decide +kernel) rfl, rfl, rfl⟩
theorem fX12_187 : FL RX12 187 11 21 (.long) false := ⟨RX12, TX12, 40, tyX12, rfl, inTX12, tyX12_ok, nmX12, by decide, wT_i 857 (by decide +kernel) rfl, rfl, rfl⟩
theorem fX12_275 : FL RX12 275 11 37 (.int) false := ⟨RX12, TX12, 40, tyX12, rfl, inTX12, tyX12_ok, nmX12, by decide, wT_i 873 (by decide +kernel) rfl, rfl, rfl⟩
theorem fX12_281 : FL RX12 281 11 14 (.int) false := ⟨RX12, TX12, 40, tyX12, rfl, inTX12, tyX12_ok, nmX12, by decide, wT_i 850 (by decide +kernel) rfl, rfl, rfl⟩
theorem fX12_287 : FL RX12 287 11 12 (.int) false := ⟨RX12, TX12, 40, tyX12, rfl, inTX12, tyX12_ok, nmX12, by decide, wT_i 848 (by decide +kernel) rfl, rfl, rfl⟩
theorem fX12_305 : FL RX12 305 11 17 (.boolean) false := ⟨RX12, TX12, 40, tyX12, rfl, inTX12, tyX12_ok, nmX12, by decide, wT_i 853 (by decide +kernel) rfl, rfl, rfl⟩
theorem fX12_308 : FL RX12 308 11 18 (.int) false := ⟨RX12, TX12, 40, tyX12, rfl, inTX12, tyX12_ok, nmX12, by decide, wT_i 854 (by decide +kernel) rfl, rfl, rfl⟩
theorem fX12_311 : FL RX12 311 11 19 (.long) false := ⟨RX12, TX12, 40, tyX12, rfl, inTX12, tyX12_ok, nmX12, by decide, wT_i 855 (by decide +kernel) rfl, rfl, rfl⟩
theorem fX12_319 : FL RX12 319 11 39 (.long) false := ⟨RX12, TX12, 40, tyX12, rfl, inTX12, tyX12_ok, nmX12, by decide, wT_i 875 (by decide +kernel) rfl, rfl, rfl⟩
theorem lkBX0_copyFrom : LkB mX0_copyFrom 1 := ⟨wT_i 433 (by decide +kernel) rfl, wT_i 5 (by decide +kernel) rfl, ⟨by decide +kernel, by decide +kernel⟩, by decide +kernel⟩
theorem lkBX0_begin : LkB mX0_begin 0 := ⟨wT_i 348 (by decide +kernel) rfl, wT_i 5 (by decide +kernel) rfl, ⟨by decide +kernel, by decide +kernel⟩, by decide +kernel⟩
theorem lkBX0_takes : LkB mX0_takes 1 := ⟨wT_i 357 (by decide +kernel) rfl, wT_i 5 (by decide +kernel) rfl, ⟨by decide +kernel, by decide +kernel⟩, by decide +kernel⟩
theorem lkBX0_isWhole : LkB mX0_isWhole 0 := ⟨wT_i 407 (by decide +kernel) rfl, wT_i 5 (by decide +kernel) rfl, ⟨by decide +kernel, by decide +kernel⟩, by decide +kernel⟩
theorem lkBX0_takesRow : LkB mX0_takesRow 1 := ⟨wT_i 361 (by decide +kernel) rfl, wT_i 5 (by decide +kernel) rfl, ⟨by decide +kernel, by decide +kernel⟩, by decide +kernel⟩
theorem lkBX0_takesDigit : LkB mX0_takesDigit 2 := ⟨wT_i 365 (by decide +kernel) rfl, wT_i 5 (by decide +kernel) rfl, ⟨by decide +kernel, by decide +kernel⟩, by decide +kernel⟩
theorem lkBX0_takesEnd : LkB mX0_takesEnd 1 := ⟨wT_i 369 (by decide +kernel) rfl, wT_i 5 (by decide +kernel) rfl, ⟨by decide +kernel, by decide +kernel⟩, by decide +kernel⟩
theorem lkBX1_put : LkB mX1_put 1 := ⟨wT_i 755 (by decide +kernel) rfl, wT_i 12 (by decide +kernel) rfl, ⟨by decide +kernel, by decide +kernel⟩, by decide +kernel⟩
theorem lkBX1_choose : LkB mX1_choose 1 := ⟨wT_i 763 (by decide +kernel) rfl, wT_i 12 (by decide +kernel) rfl, ⟨by decide +kernel, by decide +kernel⟩, by decide +kernel⟩
theorem lkBX1_isBetter : LkB mX1_isBetter 2 := ⟨wT_i 771 (by decide +kernel) rfl, wT_i 12 (by decide +kernel) rfl, ⟨by decide +kernel, by decide +kernel⟩, by decide +kernel⟩
theorem lkBX2_begin : LkB mX2_begin 1 := ⟨wT_i 602 (by decide +kernel) rfl, wT_i 9 (by decide +kernel) rfl, ⟨by decide +kernel, by decide +kernel⟩, by decide +kernel⟩
theorem lkBX2_lay : LkB mX2_lay 2 := ⟨wT_i 607 (by decide +kernel) rfl, wT_i 9 (by decide +kernel) rfl, ⟨by decide +kernel, by decide +kernel⟩, by decide +kernel⟩
theorem lkBX2_passOn : LkB mX2_passOn 3 := ⟨wT_i 612 (by decide +kernel) rfl, wT_i 9 (by decide +kernel) rfl, ⟨by decide +kernel, by decide +kernel⟩, by decide +kernel⟩
theorem lkBX2_greatest : LkB mX2_greatest 0 := ⟨wT_i 620 (by decide +kernel) rfl, wT_i 9 (by decide +kernel) rfl, ⟨by decide +kernel, by decide +kernel⟩, by decide +kernel⟩
theorem lkBX3_append : LkB mX3_append 1 := ⟨wT_i 328 (by decide +kernel) rfl, wT_i 2 (by decide +kernel) rfl, ⟨by decide +kernel, by decide +kernel⟩, by decide +kernel⟩
theorem lkBX4_draw : LkB mX4_draw 2 := ⟨wT_i 414 (by decide +kernel) rfl, wT_i 6 (by decide +kernel) rfl, ⟨by decide +kernel, by decide +kernel⟩, by decide +kernel⟩
theorem lkBX4_numberOf : LkB mX4_numberOf 2 := ⟨wT_i 418 (by decide +kernel) rfl, wT_i 6 (by decide +kernel) rfl, ⟨by decide +kernel, by decide +kernel⟩, by decide +kernel⟩
theorem lkBX4_beside : LkB mX4_beside 2 := ⟨wT_i 457 (by decide +kernel) rfl, wT_i 6 (by decide +kernel) rfl, ⟨by decide +kernel, by decide +kernel⟩, by decide +kernel⟩
theorem lkBX4_steps : LkB mX4_steps 1 := ⟨wT_i 792 (by decide +kernel) rfl, wT_i 6 (by decide +kernel) rfl, ⟨by decide +kernel, by decide +kernel⟩, by decide +kernel⟩
theorem lkBX5_go : LkB mX5_go 4 := ⟨wT_i 533 (by decide +kernel) rfl, wT_i 8 (by decide +kernel) rfl, ⟨by decide +kernel, by decide +kernel⟩, by decide +kernel⟩
theorem lkBX5_roundsTillAllRing : LkB mX5_roundsTillAllRing 3 := ⟨wT_i 571 (by decide +kernel) rfl, wT_i 8 (by decide +kernel) rfl, ⟨by decide +kernel, by decide +kernel⟩, by decide +kernel⟩
theorem lkBX5_goRound : LkB mX5_goRound 2 := ⟨wT_i 546 (by decide +kernel) rfl, wT_i 8 (by decide +kernel) rfl, ⟨by decide +kernel, by decide +kernel⟩, by decide +kernel⟩
theorem lkBX5_arrange : LkB mX5_arrange 1 := ⟨wT_i 537 (by decide +kernel) rfl, wT_i 8 (by decide +kernel) rfl, ⟨by decide +kernel, by decide +kernel⟩, by decide +kernel⟩
theorem lkBX5_arrangeByColumns : LkB mX5_arrangeByColumns 0 := ⟨wT_i 541 (by decide +kernel) rfl, wT_i 8 (by decide +kernel) rfl, ⟨by decide +kernel, by decide +kernel⟩, by decide +kernel⟩
theorem lkBX6_faultIn : LkB mX6_faultIn 1 := ⟨wT_i 342 (by decide +kernel) rfl, wT_i 3 (by decide +kernel) rfl, ⟨by decide +kernel, by decide +kernel⟩, by decide +kernel⟩
theorem lkBX6_reads : LkB mX6_reads 1 := ⟨wT_i 400 (by decide +kernel) rfl, wT_i 3 (by decide +kernel) rfl, ⟨by decide +kernel, by decide +kernel⟩, by decide +kernel⟩
theorem lkBX7_pave : LkB mX7_pave 1 := ⟨wT_i 422 (by decide +kernel) rfl, wT_i 7 (by decide +kernel) rfl, ⟨by decide +kernel, by decide +kernel⟩, by decide +kernel⟩
theorem lkBX7_copyFrom : LkB mX7_copyFrom 1 := ⟨wT_i 563 (by decide +kernel) rfl, wT_i 7 (by decide +kernel) rfl, ⟨by decide +kernel, by decide +kernel⟩, by decide +kernel⟩
theorem lkBX7_tell : LkB mX7_tell 2 := ⟨wT_i 449 (by decide +kernel) rfl, wT_i 7 (by decide +kernel) rfl, ⟨by decide +kernel, by decide +kernel⟩, by decide +kernel⟩
theorem lkBX7_isOf : LkB mX7_isOf 2 := ⟨wT_i 469 (by decide +kernel) rfl, wT_i 7 (by decide +kernel) rfl, ⟨by decide +kernel, by decide +kernel⟩, by decide +kernel⟩
theorem lkBX7_stones : LkB mX7_stones 0 := ⟨wT_i 485 (by decide +kernel) rfl, wT_i 7 (by decide +kernel) rfl, ⟨by decide +kernel, by decide +kernel⟩, by decide +kernel⟩
theorem lkBX7_grip : LkB mX7_grip 1 := ⟨wT_i 461 (by decide +kernel) rfl, wT_i 7 (by decide +kernel) rfl, ⟨by decide +kernel, by decide +kernel⟩, by decide +kernel⟩
theorem lkBX7_hold : LkB mX7_hold 1 := ⟨wT_i 453 (by decide +kernel) rfl, wT_i 7 (by decide +kernel) rfl, ⟨by decide +kernel, by decide +kernel⟩, by decide +kernel⟩
theorem lkBX7_level : LkB mX7_level 1 := ⟨wT_i 481 (by decide +kernel) rfl, wT_i 7 (by decide +kernel) rfl, ⟨by decide +kernel, by decide +kernel⟩, by decide +kernel⟩
theorem lkBX7_fillJoints : LkB mX7_fillJoints 1 := ⟨wT_i 493 (by decide +kernel) rfl, wT_i 7 (by decide +kernel) rfl, ⟨by decide +kernel, by decide +kernel⟩, by decide +kernel⟩
theorem lkBX7_sinkBy : LkB mX7_sinkBy 2 := ⟨wT_i 512 (by decide +kernel) rfl, wT_i 7 (by decide +kernel) rfl, ⟨by decide +kernel, by decide +kernel⟩, by decide +kernel⟩
theorem lkBX7_strike : LkB mX7_strike 2 := ⟨wT_i 508 (by decide +kernel) rfl, wT_i 7 (by decide +kernel) rfl, ⟨by decide +kernel, by decide +kernel⟩, by decide +kernel⟩
theorem lkBX7_seatFirmer : LkB mX7_seatFirmer 1 := ⟨wT_i 519 (by decide +kernel) rfl, wT_i 7 (by decide +kernel) rfl, ⟨by decide +kernel, by decide +kernel⟩, by decide +kernel⟩
theorem lkBX7_ringing : LkB mX7_ringing 1 := ⟨wT_i 555 (by decide +kernel) rfl, wT_i 7 (by decide +kernel) rfl, ⟨by decide +kernel, by decide +kernel⟩, by decide +kernel⟩
theorem lkBX7_spread : LkB mX7_spread 0 := ⟨wT_i 581 (by decide +kernel) rfl, wT_i 7 (by decide +kernel) rfl, ⟨by decide +kernel, by decide +kernel⟩, by decide +kernel⟩
theorem lkBX7_canBeMended : LkB mX7_canBeMended 1 := ⟨wT_i 720 (by decide +kernel) rfl, wT_i 7 (by decide +kernel) rfl, ⟨by decide +kernel, by decide +kernel⟩, by decide +kernel⟩
theorem lkBX7_repair : LkB mX7_repair 2 := ⟨wT_i 724 (by decide +kernel) rfl, wT_i 7 (by decide +kernel) rfl, ⟨by decide +kernel, by decide +kernel⟩, by decide +kernel⟩
theorem lkBX7_worsen : LkB mX7_worsen 1 := ⟨wT_i 675 (by decide +kernel) rfl, wT_i 7 (by decide +kernel) rfl, ⟨by decide +kernel, by decide +kernel⟩, by decide +kernel⟩
theorem lkBX7_loseGrit : LkB mX7_loseGrit 1 := ⟨wT_i 685 (by decide +kernel) rfl, wT_i 7 (by decide +kernel) rfl, ⟨by decide +kernel, by decide +kernel⟩, by decide +kernel⟩
theorem lkBX7_freeze : LkB mX7_freeze 2 := ⟨wT_i 689 (by decide +kernel) rfl, wT_i 7 (by decide +kernel) rfl, ⟨by decide +kernel, by decide +kernel⟩, by decide +kernel⟩
theorem lkBX7_drawOfTen : LkB mX7_drawOfTen 0 := ⟨wT_i 693 (by decide +kernel) rfl, wT_i 7 (by decide +kernel) rfl, ⟨by decide +kernel, by decide +kernel⟩, by decide +kernel⟩
theorem lkBX7_isBesideSand : LkB mX7_isBesideSand 1 := ⟨wT_i 705 (by decide +kernel) rfl, wT_i 7 (by decide +kernel) rfl, ⟨by decide +kernel, by decide +kernel⟩, by decide +kernel⟩
theorem lkBX7_jolts : LkB mX7_jolts 2 := ⟨wT_i 788 (by decide +kernel) rfl, wT_i 7 (by decide +kernel) rfl, ⟨by decide +kernel, by decide +kernel⟩, by decide +kernel⟩
theorem lkBX8_begin : LkB mX8_begin 0 := ⟨wT_i 351 (by decide +kernel) rfl, wT_i 4 (by decide +kernel) rfl, ⟨by decide +kernel, by decide +kernel⟩, by decide +kernel⟩
theorem lkBX8_takes : LkB mX8_takes 1 := ⟨wT_i 372 (by decide +kernel) rfl, wT_i 4 (by decide +kernel) rfl, ⟨by decide +kernel, by decide +kernel⟩, by decide +kernel⟩
theorem lkBX8_isWhole : LkB mX8_isWhole 0 := ⟨wT_i 410 (by decide +kernel) rfl, wT_i 4 (by decide +kernel) rfl, ⟨by decide +kernel, by decide +kernel⟩, by decide +kernel⟩
theorem lkBX8_takesSize : LkB mX8_takesSize 1 := ⟨wT_i 376 (by decide +kernel) rfl, wT_i 4 (by decide +kernel) rfl, ⟨by decide +kernel, by decide +kernel⟩, by decide +kernel⟩
theorem lkBX8_takesRowEnd : LkB mX8_takesRowEnd 0 := ⟨wT_i 380 (by decide +kernel) rfl, wT_i 4 (by decide +kernel) rfl, ⟨by decide +kernel, by decide +kernel⟩, by decide +kernel⟩
theorem lkBX8_takesCell : LkB mX8_takesCell 1 := ⟨wT_i 384 (by decide +kernel) rfl, wT_i 4 (by decide +kernel) rfl, ⟨by decide +kernel, by decide +kernel⟩, by decide +kernel⟩
theorem lkBX8_kindOf : LkB mX8_kindOf 1 := ⟨wT_i 387 (by decide +kernel) rfl, wT_i 4 (by decide +kernel) rfl, ⟨by decide +kernel, by decide +kernel⟩, by decide +kernel⟩
theorem lkBX9_fill : LkB mX9_fill 1 := ⟨wT_i 628 (by decide +kernel) rfl, wT_i 10 (by decide +kernel) rfl, ⟨by decide +kernel, by decide +kernel⟩, by decide +kernel⟩
theorem lkBX9_depth : LkB mX9_depth 2 := ⟨wT_i 640 (by decide +kernel) rfl, wT_i 10 (by decide +kernel) rfl, ⟨by decide +kernel, by decide +kernel⟩, by decide +kernel⟩
theorem lkBX9_fallsIn : LkB mX9_fallsIn 2 := ⟨wT_i 633 (by decide +kernel) rfl, wT_i 10 (by decide +kernel) rfl, ⟨by decide +kernel, by decide +kernel⟩, by decide +kernel⟩
theorem lkBX10_pass : LkB mX10_pass 4 := ⟨wT_i 659 (by decide +kernel) rfl, wT_i 11 (by decide +kernel) rfl, ⟨by decide +kernel, by decide +kernel⟩, by decide +kernel⟩
theorem lkBX10_layCarts : LkB mX10_layCarts 2 := ⟨wT_i 663 (by decide +kernel) rfl, wT_i 11 (by decide +kernel) rfl, ⟨by decide +kernel, by decide +kernel⟩, by decide +kernel⟩
theorem lkBX10_wearDown : LkB mX10_wearDown 1 := ⟨wT_i 670 (by decide +kernel) rfl, wT_i 11 (by decide +kernel) rfl, ⟨by decide +kernel, by decide +kernel⟩, by decide +kernel⟩
theorem lkBX10_freeze : LkB mX10_freeze 2 := ⟨wT_i 679 (by decide +kernel) rfl, wT_i 11 (by decide +kernel) rfl, ⟨by decide +kernel, by decide +kernel⟩, by decide +kernel⟩
theorem lkBX10_washOut : LkB mX10_washOut 1 := ⟨wT_i 701 (by decide +kernel) rfl, wT_i 11 (by decide +kernel) rfl, ⟨by decide +kernel, by decide +kernel⟩, by decide +kernel⟩
theorem lkBX11_letters : LkB mX11_letters 1 := ⟨wT_i 318 (by decide +kernel) rfl, wT_i 1 (by decide +kernel) rfl, ⟨by decide +kernel, by decide +kernel⟩, by decide +kernel⟩
theorem lkBX11_blank : LkB mX11_blank 0 := ⟨wT_i 332 (by decide +kernel) rfl, wT_i 1 (by decide +kernel) rfl, ⟨by decide +kernel, by decide +kernel⟩, by decide +kernel⟩
theorem lkBX11_fault : LkB mX11_fault 1 := ⟨wT_i 336 (by decide +kernel) rfl, wT_i 1 (by decide +kernel) rfl, ⟨by decide +kernel, by decide +kernel⟩, by decide +kernel⟩
theorem lkBX11_street : LkB mX11_street 0 := ⟨wT_i 394 (by decide +kernel) rfl, wT_i 1 (by decide +kernel) rfl, ⟨by decide +kernel, by decide +kernel⟩, by decide +kernel⟩
theorem lkBX11_carts : LkB mX11_carts 0 := ⟨wT_i 426 (by decide +kernel) rfl, wT_i 1 (by decide +kernel) rfl, ⟨by decide +kernel, by decide +kernel⟩, by decide +kernel⟩
theorem lkBX11_cart : LkB mX11_cart 2 := ⟨wT_i 437 (by decide +kernel) rfl, wT_i 1 (by decide +kernel) rfl, ⟨by decide +kernel, by decide +kernel⟩, by decide +kernel⟩
theorem lkBX11_cell : LkB mX11_cell 2 := ⟨wT_i 441 (by decide +kernel) rfl, wT_i 1 (by decide +kernel) rfl, ⟨by decide +kernel, by decide +kernel⟩, by decide +kernel⟩
theorem lkBX11_as : LkB mX11_as 2 := ⟨wT_i 465 (by decide +kernel) rfl, wT_i 1 (by decide +kernel) rfl, ⟨by decide +kernel, by decide +kernel⟩, by decide +kernel⟩
theorem lkBX11_set : LkB mX11_set 1 := ⟨wT_i 473 (by decide +kernel) rfl, wT_i 1 (by decide +kernel) rfl, ⟨by decide +kernel, by decide +kernel⟩, by decide +kernel⟩
theorem lkBX11_grit : LkB mX11_grit 1 := ⟨wT_i 489 (by decide +kernel) rfl, wT_i 1 (by decide +kernel) rfl, ⟨by decide +kernel, by decide +kernel⟩, by decide +kernel⟩
theorem lkBX11_blow : LkB mX11_blow 2 := ⟨wT_i 497 (by decide +kernel) rfl, wT_i 1 (by decide +kernel) rfl, ⟨by decide +kernel, by decide +kernel⟩, by decide +kernel⟩
theorem lkBX11_ram : LkB mX11_ram 3 := ⟨wT_i 526 (by decide +kernel) rfl, wT_i 1 (by decide +kernel) rfl, ⟨by decide +kernel, by decide +kernel⟩, by decide +kernel⟩
theorem lkBX11_rings : LkB mX11_rings 1 := ⟨wT_i 551 (by decide +kernel) rfl, wT_i 1 (by decide +kernel) rfl, ⟨by decide +kernel, by decide +kernel⟩, by decide +kernel⟩
theorem lkBX11_proud : LkB mX11_proud 4 := ⟨wT_i 559 (by decide +kernel) rfl, wT_i 1 (by decide +kernel) rfl, ⟨by decide +kernel, by decide +kernel⟩, by decide +kernel⟩
theorem lkBX11_until : LkB mX11_until 2 := ⟨wT_i 567 (by decide +kernel) rfl, wT_i 1 (by decide +kernel) rfl, ⟨by decide +kernel, by decide +kernel⟩, by decide +kernel⟩
theorem lkBX11_uneven : LkB mX11_uneven 0 := ⟨wT_i 577 (by decide +kernel) rfl, wT_i 1 (by decide +kernel) rfl, ⟨by decide +kernel, by decide +kernel⟩, by decide +kernel⟩
theorem lkBX11_evenest : LkB mX11_evenest 2 := ⟨wT_i 590 (by decide +kernel) rfl, wT_i 1 (by decide +kernel) rfl, ⟨by decide +kernel, by decide +kernel⟩, by decide +kernel⟩
theorem lkBX11_borne : LkB mX11_borne 3 := ⟨wT_i 595 (by decide +kernel) rfl, wT_i 1 (by decide +kernel) rfl, ⟨by decide +kernel, by decide +kernel⟩, by decide +kernel⟩
theorem lkBX11_bearer : LkB mX11_bearer 2 := ⟨wT_i 616 (by decide +kernel) rfl, wT_i 1 (by decide +kernel) rfl, ⟨by decide +kernel, by decide +kernel⟩, by decide +kernel⟩
theorem lkBX11_water : LkB mX11_water 1 := ⟨wT_i 624 (by decide +kernel) rfl, wT_i 1 (by decide +kernel) rfl, ⟨by decide +kernel, by decide +kernel⟩, by decide +kernel⟩
theorem lkBX11_seed : LkB mX11_seed 1 := ⟨wT_i 644 (by decide +kernel) rfl, wT_i 1 (by decide +kernel) rfl, ⟨by decide +kernel, by decide +kernel⟩, by decide +kernel⟩
theorem lkBX11_years : LkB mX11_years 2 := ⟨wT_i 648 (by decide +kernel) rfl, wT_i 1 (by decide +kernel) rfl, ⟨by decide +kernel, by decide +kernel⟩, by decide +kernel⟩
theorem lkBX11_would : LkB mX11_would 2 := ⟨wT_i 709 (by decide +kernel) rfl, wT_i 1 (by decide +kernel) rfl, ⟨by decide +kernel, by decide +kernel⟩, by decide +kernel⟩
theorem lkBX11_mend : LkB mX11_mend 2 := ⟨wT_i 713 (by decide +kernel) rfl, wT_i 1 (by decide +kernel) rfl, ⟨by decide +kernel, by decide +kernel⟩, by decide +kernel⟩
theorem lkBX11_first : LkB mX11_first 4 := ⟨wT_i 728 (by decide +kernel) rfl, wT_i 1 (by decide +kernel) rfl, ⟨by decide +kernel, by decide +kernel⟩, by decide +kernel⟩
theorem lkBX11_trench : LkB mX11_trench 3 := ⟨wT_i 746 (by decide +kernel) rfl, wT_i 1 (by decide +kernel) rfl, ⟨by decide +kernel, by decide +kernel⟩, by decide +kernel⟩
theorem lkBX11_heap : LkB mX11_heap 1 := ⟨wT_i 751 (by decide +kernel) rfl, wT_i 1 (by decide +kernel) rfl, ⟨by decide +kernel, by decide +kernel⟩, by decide +kernel⟩
theorem lkBX11_fits : LkB mX11_fits 2 := ⟨wT_i 759 (by decide +kernel) rfl, wT_i 1 (by decide +kernel) rfl, ⟨by decide +kernel, by decide +kernel⟩, by decide +kernel⟩
theorem lkBX11_gaps : LkB mX11_gaps 3 := ⟨wT_i 776 (by decide +kernel) rfl, wT_i 1 (by decide +kernel) rfl, ⟨by decide +kernel, by decide +kernel⟩, by decide +kernel⟩
theorem lkBX11_shake : LkB mX11_shake 3 := ⟨wT_i 780 (by decide +kernel) rfl, wT_i 1 (by decide +kernel) rfl, ⟨by decide +kernel, by decide +kernel⟩, by decide +kernel⟩
theorem lkBX11_worst : LkB mX11_worst 1 := ⟨wT_i 805 (by decide +kernel) rfl, wT_i 1 (by decide +kernel) rfl, ⟨by decide +kernel, by decide +kernel⟩, by decide +kernel⟩
theorem lkBX11_image : LkB mX11_image 0 := ⟨wT_i 809 (by decide +kernel) rfl, wT_i 1 (by decide +kernel) rfl, ⟨by decide +kernel, by decide +kernel⟩, by decide +kernel⟩
theorem lkBX11_restore : LkB mX11_restore 0 := ⟨wT_i 813 (by decide +kernel) rfl, wT_i 1 (by decide +kernel) rfl, ⟨by decide +kernel, by decide +kernel⟩, by decide +kernel⟩
theorem lkBX11_count : LkB mX11_count 1 := ⟨wT_i 817 (by decide +kernel) rfl, wT_i 1 (by decide +kernel) rfl, ⟨by decide +kernel, by decide +kernel⟩, by decide +kernel⟩
theorem lkBX11_digest : LkB mX11_digest 0 := ⟨wT_i 821 (by decide +kernel) rfl, wT_i 1 (by decide +kernel) rfl, ⟨by decide +kernel, by decide +kernel⟩, by decide +kernel⟩
theorem lkBX11_digestOfCells : LkB mX11_digestOfCells 1 := ⟨wT_i 826 (by decide +kernel) rfl, wT_i 1 (by decide +kernel) rfl, ⟨by decide +kernel, by decide +kernel⟩, by decide +kernel⟩
theorem lkBX11_findMendable : LkB mX11_findMendable 0 := ⟨wT_i 732 (by decide +kernel) rfl, wT_i 1 (by decide +kernel) rfl, ⟨by decide +kernel, by decide +kernel⟩, by decide +kernel⟩
theorem lkBX11_lostWith : LkB mX11_lostWith 4 := ⟨wT_i 742 (by decide +kernel) rfl, wT_i 1 (by decide +kernel) rfl, ⟨by decide +kernel, by decide +kernel⟩, by decide +kernel⟩
theorem lkBX11_hasStreet : LkB mX11_hasStreet 0 := ⟨wT_i 477 (by decide +kernel) rfl, wT_i 1 (by decide +kernel) rfl, ⟨by decide +kernel, by decide +kernel⟩, by decide +kernel⟩
theorem lkBX11_hasTraffic : LkB mX11_hasTraffic 0 := ⟨wT_i 652 (by decide +kernel) rfl, wT_i 1 (by decide +kernel) rfl, ⟨by decide +kernel, by decide +kernel⟩, by decide +kernel⟩
theorem lkBX11_isCell : LkB mX11_isCell 1 := ⟨wT_i 445 (by decide +kernel) rfl, wT_i 1 (by decide +kernel) rfl, ⟨by decide +kernel, by decide +kernel⟩, by decide +kernel⟩
theorem lkBX11_isStone : LkB mX11_isStone 1 := ⟨wT_i 501 (by decide +kernel) rfl, wT_i 1 (by decide +kernel) rfl, ⟨by decide +kernel, by decide +kernel⟩, by decide +kernel⟩
theorem lkBX11_isRow : LkB mX11_isRow 1 := ⟨wT_i 784 (by decide +kernel) rfl, wT_i 1 (by decide +kernel) rfl, ⟨by decide +kernel, by decide +kernel⟩, by decide +kernel⟩
theorem lkBX11_isWeight : LkB mX11_isWeight 1 := ⟨wT_i 504 (by decide +kernel) rfl, wT_i 1 (by decide +kernel) rfl, ⟨by decide +kernel, by decide +kernel⟩, by decide +kernel⟩
theorem lkBX11_isOrder : LkB mX11_isOrder 1 := ⟨wT_i 529 (by decide +kernel) rfl, wT_i 1 (by decide +kernel) rfl, ⟨by decide +kernel, by decide +kernel⟩, by decide +kernel⟩
theorem lkBX11_isLoad : LkB mX11_isLoad 1 := ⟨wT_i 598 (by decide +kernel) rfl, wT_i 1 (by decide +kernel) rfl, ⟨by decide +kernel, by decide +kernel⟩, by decide +kernel⟩
theorem lkBX11_isSize : LkB mX11_isSize 1 := ⟨wT_i 716 (by decide +kernel) rfl, wT_i 1 (by decide +kernel) rfl, ⟨by decide +kernel, by decide +kernel⟩, by decide +kernel⟩
theorem lkBX11_areYears : LkB mX11_areYears 2 := ⟨wT_i 655 (by decide +kernel) rfl, wT_i 1 (by decide +kernel) rfl, ⟨by decide +kernel, by decide +kernel⟩, by decide +kernel⟩
theorem lkBX11_byteOf : LkB mX11_byteOf 2 := ⟨wT_i 324 (by decide +kernel) rfl, wT_i 1 (by decide +kernel) rfl, ⟨by decide +kernel, by decide +kernel⟩, by decide +kernel⟩
theorem lkBX11_lettersIn : LkB mX11_lettersIn 1 := ⟨wT_i 321 (by decide +kernel) rfl, wT_i 1 (by decide +kernel) rfl, ⟨by decide +kernel, by decide +kernel⟩, by decide +kernel⟩
theorem lkBX11_quotient : LkB mX11_quotient 2 := ⟨wT_i 515 (by decide +kernel) rfl, wT_i 1 (by decide +kernel) rfl, ⟨by decide +kernel, by decide +kernel⟩, by decide +kernel⟩
theorem lkBX11_commonDivisor : LkB mX11_commonDivisor 2 := ⟨wT_i 801 (by decide +kernel) rfl, wT_i 1 (by decide +kernel) rfl, ⟨by decide +kernel, by decide +kernel⟩, by decide +kernel⟩
theorem lkBX12_within : LkB mX12_within 3 := ⟨wT_i 973 (by decide +kernel) rfl, wT_i 13 (by decide +kernel) rfl, ⟨by decide +kernel, by decide +kernel⟩, by decide +kernel⟩
theorem lkBX12_atLeast : LkB mX12_atLeast 1 := ⟨wT_i 1204 (by decide +kernel) rfl, wT_i 13 (by decide +kernel) rfl, ⟨by decide +kernel, by decide +kernel⟩, by decide +kernel⟩
theorem lkBX12_letters : LkB mX12_letters 1 := ⟨wT_i 961 (by decide +kernel) rfl, wT_i 13 (by decide +kernel) rfl, ⟨by decide +kernel, by decide +kernel⟩, by decide +kernel⟩
theorem lkBX12_blank : LkB mX12_blank 0 := ⟨wT_i 966 (by decide +kernel) rfl, wT_i 13 (by decide +kernel) rfl, ⟨by decide +kernel, by decide +kernel⟩, by decide +kernel⟩
theorem lkBX12_isDigit : LkB mX12_isDigit 1 := ⟨wT_i 995 (by decide +kernel) rfl, wT_i 13 (by decide +kernel) rfl, ⟨by decide +kernel, by decide +kernel⟩, by decide +kernel⟩
theorem lkBX12_kindBy : LkB mX12_kindBy 1 := ⟨wT_i 984 (by decide +kernel) rfl, wT_i 13 (by decide +kernel) rfl, ⟨by decide +kernel, by decide +kernel⟩, by decide +kernel⟩
theorem lkBX12_takeStreet : LkB mX12_takeStreet 1 := ⟨wT_i 981 (by decide +kernel) rfl, wT_i 13 (by decide +kernel) rfl, ⟨by decide +kernel, by decide +kernel⟩, by decide +kernel⟩
theorem lkBX12_readStreet : LkB mX12_readStreet 0 := ⟨wT_i 977 (by decide +kernel) rfl, wT_i 13 (by decide +kernel) rfl, ⟨by decide +kernel, by decide +kernel⟩, by decide +kernel⟩
theorem lkBX12_nextCart : LkB mX12_nextCart 2 := ⟨wT_i 992 (by decide +kernel) rfl, wT_i 13 (by decide +kernel) rfl, ⟨by decide +kernel, by decide +kernel⟩, by decide +kernel⟩
theorem lkBX12_readCarts : LkB mX12_readCarts 0 := ⟨wT_i 988 (by decide +kernel) rfl, wT_i 13 (by decide +kernel) rfl, ⟨by decide +kernel, by decide +kernel⟩, by decide +kernel⟩
theorem lkBX12_fault : LkB mX12_fault 1 := ⟨wT_i 970 (by decide +kernel) rfl, wT_i 13 (by decide +kernel) rfl, ⟨by decide +kernel, by decide +kernel⟩, by decide +kernel⟩
theorem lkBX12_street : LkB mX12_street 0 := ⟨wT_i 999 (by decide +kernel) rfl, wT_i 13 (by decide +kernel) rfl, ⟨by decide +kernel, by decide +kernel⟩, by decide +kernel⟩
theorem lkBX12_carts : LkB mX12_carts 0 := ⟨wT_i 1003 (by decide +kernel) rfl, wT_i 13 (by decide +kernel) rfl, ⟨by decide +kernel, by decide +kernel⟩, by decide +kernel⟩
theorem lkBX12_cartNow : LkB mX12_cartNow 2 := ⟨wT_i 1011 (by decide +kernel) rfl, wT_i 13 (by decide +kernel) rfl, ⟨by decide +kernel, by decide +kernel⟩, by decide +kernel⟩
theorem lkBX12_cart : LkB mX12_cart 2 := ⟨wT_i 1007 (by decide +kernel) rfl, wT_i 13 (by decide +kernel) rfl, ⟨by decide +kernel, by decide +kernel⟩, by decide +kernel⟩
theorem lkBX12_cells : LkB mX12_cells 0 := ⟨wT_i 1023 (by decide +kernel) rfl, wT_i 13 (by decide +kernel) rfl, ⟨by decide +kernel, by decide +kernel⟩, by decide +kernel⟩
theorem lkBX12_isCell : LkB mX12_isCell 1 := ⟨wT_i 1019 (by decide +kernel) rfl, wT_i 13 (by decide +kernel) rfl, ⟨by decide +kernel, by decide +kernel⟩, by decide +kernel⟩
theorem lkBX12_isStone : LkB mX12_isStone 1 := ⟨wT_i 1063 (by decide +kernel) rfl, wT_i 13 (by decide +kernel) rfl, ⟨by decide +kernel, by decide +kernel⟩, by decide +kernel⟩
theorem lkBX12_beside : LkB mX12_beside 2 := ⟨wT_i 1035 (by decide +kernel) rfl, wT_i 13 (by decide +kernel) rfl, ⟨by decide +kernel, by decide +kernel⟩, by decide +kernel⟩
theorem lkBX12_grip : LkB mX12_grip 1 := ⟨wT_i 1039 (by decide +kernel) rfl, wT_i 13 (by decide +kernel) rfl, ⟨by decide +kernel, by decide +kernel⟩, by decide +kernel⟩
theorem lkBX12_hold : LkB mX12_hold 1 := ⟨wT_i 1031 (by decide +kernel) rfl, wT_i 13 (by decide +kernel) rfl, ⟨by decide +kernel, by decide +kernel⟩, by decide +kernel⟩
theorem lkBX12_cellNow : LkB mX12_cellNow 2 := ⟨wT_i 1027 (by decide +kernel) rfl, wT_i 13 (by decide +kernel) rfl, ⟨by decide +kernel, by decide +kernel⟩, by decide +kernel⟩
theorem lkBX12_cell : LkB mX12_cell 2 := ⟨wT_i 1015 (by decide +kernel) rfl, wT_i 13 (by decide +kernel) rfl, ⟨by decide +kernel, by decide +kernel⟩, by decide +kernel⟩
theorem lkBX12_as : LkB mX12_as 2 := ⟨wT_i 1043 (by decide +kernel) rfl, wT_i 13 (by decide +kernel) rfl, ⟨by decide +kernel, by decide +kernel⟩, by decide +kernel⟩
theorem lkBX12_stoneMany : LkB mX12_stoneMany 0 := ⟨wT_i 1051 (by decide +kernel) rfl, wT_i 13 (by decide +kernel) rfl, ⟨by decide +kernel, by decide +kernel⟩, by decide +kernel⟩
theorem lkBX12_set : LkB mX12_set 1 := ⟨wT_i 1047 (by decide +kernel) rfl, wT_i 13 (by decide +kernel) rfl, ⟨by decide +kernel, by decide +kernel⟩, by decide +kernel⟩
theorem lkBX12_grit : LkB mX12_grit 1 := ⟨wT_i 1055 (by decide +kernel) rfl, wT_i 13 (by decide +kernel) rfl, ⟨by decide +kernel, by decide +kernel⟩, by decide +kernel⟩
theorem lkBX12_isWeight : LkB mX12_isWeight 1 := ⟨wT_i 1066 (by decide +kernel) rfl, wT_i 13 (by decide +kernel) rfl, ⟨by decide +kernel, by decide +kernel⟩, by decide +kernel⟩
theorem lkBX12_sinks : LkB mX12_sinks 2 := ⟨wT_i 1074 (by decide +kernel) rfl, wT_i 13 (by decide +kernel) rfl, ⟨by decide +kernel, by decide +kernel⟩, by decide +kernel⟩
theorem lkBX12_goBlow : LkB mX12_goBlow 2 := ⟨wT_i 1070 (by decide +kernel) rfl, wT_i 13 (by decide +kernel) rfl, ⟨by decide +kernel, by decide +kernel⟩, by decide +kernel⟩
theorem lkBX12_blow : LkB mX12_blow 2 := ⟨wT_i 1059 (by decide +kernel) rfl, wT_i 13 (by decide +kernel) rfl, ⟨by decide +kernel, by decide +kernel⟩, by decide +kernel⟩
theorem lkBX12_byOrder : LkB mX12_byOrder 2 := ⟨wT_i 1089 (by decide +kernel) rfl, wT_i 13 (by decide +kernel) rfl, ⟨by decide +kernel, by decide +kernel⟩, by decide +kernel⟩
theorem lkBX12_goRounds : LkB mX12_goRounds 3 := ⟨wT_i 1085 (by decide +kernel) rfl, wT_i 13 (by decide +kernel) rfl, ⟨by decide +kernel, by decide +kernel⟩, by decide +kernel⟩
theorem lkBX12_isOrder : LkB mX12_isOrder 1 := ⟨wT_i 1081 (by decide +kernel) rfl, wT_i 13 (by decide +kernel) rfl, ⟨by decide +kernel, by decide +kernel⟩, by decide +kernel⟩
theorem lkBX12_ram : LkB mX12_ram 3 := ⟨wT_i 1078 (by decide +kernel) rfl, wT_i 13 (by decide +kernel) rfl, ⟨by decide +kernel, by decide +kernel⟩, by decide +kernel⟩
theorem lkBX12_ringing : LkB mX12_ringing 1 := ⟨wT_i 1097 (by decide +kernel) rfl, wT_i 13 (by decide +kernel) rfl, ⟨by decide +kernel, by decide +kernel⟩, by decide +kernel⟩
theorem lkBX12_rings : LkB mX12_rings 1 := ⟨wT_i 1093 (by decide +kernel) rfl, wT_i 13 (by decide +kernel) rfl, ⟨by decide +kernel, by decide +kernel⟩, by decide +kernel⟩
theorem lkBX12_save : LkB mX12_save 0 := ⟨wT_i 1105 (by decide +kernel) rfl, wT_i 13 (by decide +kernel) rfl, ⟨by decide +kernel, by decide +kernel⟩, by decide +kernel⟩
theorem lkBX12_back : LkB mX12_back 0 := ⟨wT_i 1109 (by decide +kernel) rfl, wT_i 13 (by decide +kernel) rfl, ⟨by decide +kernel, by decide +kernel⟩, by decide +kernel⟩
theorem lkBX12_proud : LkB mX12_proud 4 := ⟨wT_i 1101 (by decide +kernel) rfl, wT_i 13 (by decide +kernel) rfl, ⟨by decide +kernel, by decide +kernel⟩, by decide +kernel⟩
theorem lkBX12_until : LkB mX12_until 2 := ⟨wT_i 1113 (by decide +kernel) rfl, wT_i 13 (by decide +kernel) rfl, ⟨by decide +kernel, by decide +kernel⟩, by decide +kernel⟩
theorem lkBX12_unevenNow : LkB mX12_unevenNow 0 := ⟨wT_i 1121 (by decide +kernel) rfl, wT_i 13 (by decide +kernel) rfl, ⟨by decide +kernel, by decide +kernel⟩, by decide +kernel⟩
theorem lkBX12_uneven : LkB mX12_uneven 0 := ⟨wT_i 1117 (by decide +kernel) rfl, wT_i 13 (by decide +kernel) rfl, ⟨by decide +kernel, by decide +kernel⟩, by decide +kernel⟩
theorem lkBX12_evenest : LkB mX12_evenest 2 := ⟨wT_i 1127 (by decide +kernel) rfl, wT_i 13 (by decide +kernel) rfl, ⟨by decide +kernel, by decide +kernel⟩, by decide +kernel⟩
theorem lkBX12_bear : LkB mX12_bear 2 := ⟨wT_i 1146 (by decide +kernel) rfl, wT_i 13 (by decide +kernel) rfl, ⟨by decide +kernel, by decide +kernel⟩, by decide +kernel⟩
theorem lkBX12_bearSecond : LkB mX12_bearSecond 3 := ⟨wT_i 1150 (by decide +kernel) rfl, wT_i 13 (by decide +kernel) rfl, ⟨by decide +kernel, by decide +kernel⟩, by decide +kernel⟩
theorem lkBX12_clearWear : LkB mX12_clearWear 0 := ⟨wT_i 1142 (by decide +kernel) rfl, wT_i 13 (by decide +kernel) rfl, ⟨by decide +kernel, by decide +kernel⟩, by decide +kernel⟩
theorem lkBX12_isLoad : LkB mX12_isLoad 1 := ⟨wT_i 1134 (by decide +kernel) rfl, wT_i 13 (by decide +kernel) rfl, ⟨by decide +kernel, by decide +kernel⟩, by decide +kernel⟩
theorem lkBX12_layLoad : LkB mX12_layLoad 2 := ⟨wT_i 1138 (by decide +kernel) rfl, wT_i 13 (by decide +kernel) rfl, ⟨by decide +kernel, by decide +kernel⟩, by decide +kernel⟩
theorem lkBX12_borne : LkB mX12_borne 3 := ⟨wT_i 1131 (by decide +kernel) rfl, wT_i 13 (by decide +kernel) rfl, ⟨by decide +kernel, by decide +kernel⟩, by decide +kernel⟩
theorem lkBX12_bearer : LkB mX12_bearer 2 := ⟨wT_i 1154 (by decide +kernel) rfl, wT_i 13 (by decide +kernel) rfl, ⟨by decide +kernel, by decide +kernel⟩, by decide +kernel⟩
theorem lkBX12_isRim : LkB mX12_isRim 1 := ⟨wT_i 1166 (by decide +kernel) rfl, wT_i 13 (by decide +kernel) rfl, ⟨by decide +kernel, by decide +kernel⟩, by decide +kernel⟩
theorem lkBX12_layWater : LkB mX12_layWater 0 := ⟨wT_i 1162 (by decide +kernel) rfl, wT_i 13 (by decide +kernel) rfl, ⟨by decide +kernel, by decide +kernel⟩, by decide +kernel⟩
theorem lkBX12_water : LkB mX12_water 1 := ⟨wT_i 1158 (by decide +kernel) rfl, wT_i 13 (by decide +kernel) rfl, ⟨by decide +kernel, by decide +kernel⟩, by decide +kernel⟩
theorem lkBX12_seed : LkB mX12_seed 1 := ⟨wT_i 1170 (by decide +kernel) rfl, wT_i 13 (by decide +kernel) rfl, ⟨by decide +kernel, by decide +kernel⟩, by decide +kernel⟩
theorem lkBX12_draw : LkB mX12_draw 0 := ⟨wT_i 1208 (by decide +kernel) rfl, wT_i 13 (by decide +kernel) rfl, ⟨by decide +kernel, by decide +kernel⟩, by decide +kernel⟩
theorem lkBX12_layWear : LkB mX12_layWear 0 := ⟨wT_i 1193 (by decide +kernel) rfl, wT_i 13 (by decide +kernel) rfl, ⟨by decide +kernel, by decide +kernel⟩, by decide +kernel⟩
theorem lkBX12_worsen : LkB mX12_worsen 1 := ⟨wT_i 1197 (by decide +kernel) rfl, wT_i 13 (by decide +kernel) rfl, ⟨by decide +kernel, by decide +kernel⟩, by decide +kernel⟩
theorem lkBX12_isBesideSand : LkB mX12_isBesideSand 1 := ⟨wT_i 1217 (by decide +kernel) rfl, wT_i 13 (by decide +kernel) rfl, ⟨by decide +kernel, by decide +kernel⟩, by decide +kernel⟩
theorem lkBX12_freeze : LkB mX12_freeze 2 := ⟨wT_i 1201 (by decide +kernel) rfl, wT_i 13 (by decide +kernel) rfl, ⟨by decide +kernel, by decide +kernel⟩, by decide +kernel⟩
theorem lkBX12_goYear : LkB mX12_goYear 1 := ⟨wT_i 1189 (by decide +kernel) rfl, wT_i 13 (by decide +kernel) rfl, ⟨by decide +kernel, by decide +kernel⟩, by decide +kernel⟩
theorem lkBX12_goYears : LkB mX12_goYears 2 := ⟨wT_i 1185 (by decide +kernel) rfl, wT_i 13 (by decide +kernel) rfl, ⟨by decide +kernel, by decide +kernel⟩, by decide +kernel⟩
theorem lkBX12_isReady : LkB mX12_isReady 0 := ⟨wT_i 1178 (by decide +kernel) rfl, wT_i 13 (by decide +kernel) rfl, ⟨by decide +kernel, by decide +kernel⟩, by decide +kernel⟩
theorem lkBX12_areYears : LkB mX12_areYears 2 := ⟨wT_i 1181 (by decide +kernel) rfl, wT_i 13 (by decide +kernel) rfl, ⟨by decide +kernel, by decide +kernel⟩, by decide +kernel⟩
theorem lkBX12_years : LkB mX12_years 2 := ⟨wT_i 1174 (by decide +kernel) rfl, wT_i 13 (by decide +kernel) rfl, ⟨by decide +kernel, by decide +kernel⟩, by decide +kernel⟩
theorem lkBX12_wouldNow : LkB mX12_wouldNow 2 := ⟨wT_i 1225 (by decide +kernel) rfl, wT_i 13 (by decide +kernel) rfl, ⟨by decide +kernel, by decide +kernel⟩, by decide +kernel⟩
theorem lkBX12_would : LkB mX12_would 2 := ⟨wT_i 1221 (by decide +kernel) rfl, wT_i 13 (by decide +kernel) rfl, ⟨by decide +kernel, by decide +kernel⟩, by decide +kernel⟩
theorem lkBX12_canMend : LkB mX12_canMend 1 := ⟨wT_i 1233 (by decide +kernel) rfl, wT_i 13 (by decide +kernel) rfl, ⟨by decide +kernel, by decide +kernel⟩, by decide +kernel⟩
theorem lkBX12_goMend : LkB mX12_goMend 2 := ⟨wT_i 1237 (by decide +kernel) rfl, wT_i 13 (by decide +kernel) rfl, ⟨by decide +kernel, by decide +kernel⟩, by decide +kernel⟩
theorem lkBX12_mend : LkB mX12_mend 2 := ⟨wT_i 1229 (by decide +kernel) rfl, wT_i 13 (by decide +kernel) rfl, ⟨by decide +kernel, by decide +kernel⟩, by decide +kernel⟩
theorem lkBX12_layMends : LkB mX12_layMends 0 := ⟨wT_i 1245 (by decide +kernel) rfl, wT_i 13 (by decide +kernel) rfl, ⟨by decide +kernel, by decide +kernel⟩, by decide +kernel⟩
theorem lkBX12_ones : LkB mX12_ones 1 := ⟨wT_i 1248 (by decide +kernel) rfl, wT_i 13 (by decide +kernel) rfl, ⟨by decide +kernel, by decide +kernel⟩, by decide +kernel⟩
theorem lkBX12_first : LkB mX12_first 4 := ⟨wT_i 1241 (by decide +kernel) rfl, wT_i 13 (by decide +kernel) rfl, ⟨by decide +kernel, by decide +kernel⟩, by decide +kernel⟩
theorem lkBX12_trench : LkB mX12_trench 3 := ⟨wT_i 1252 (by decide +kernel) rfl, wT_i 13 (by decide +kernel) rfl, ⟨by decide +kernel, by decide +kernel⟩, by decide +kernel⟩
theorem lkBX12_heap : LkB mX12_heap 1 := ⟨wT_i 1256 (by decide +kernel) rfl, wT_i 13 (by decide +kernel) rfl, ⟨by decide +kernel, by decide +kernel⟩, by decide +kernel⟩
theorem lkBX12_wide : LkB mX12_wide 1 := ⟨wT_i 1264 (by decide +kernel) rfl, wT_i 13 (by decide +kernel) rfl, ⟨by decide +kernel, by decide +kernel⟩, by decide +kernel⟩
theorem lkBX12_fits : LkB mX12_fits 2 := ⟨wT_i 1260 (by decide +kernel) rfl, wT_i 13 (by decide +kernel) rfl, ⟨by decide +kernel, by decide +kernel⟩, by decide +kernel⟩
theorem lkBX12_gaps : LkB mX12_gaps 3 := ⟨wT_i 1268 (by decide +kernel) rfl, wT_i 13 (by decide +kernel) rfl, ⟨by decide +kernel, by decide +kernel⟩, by decide +kernel⟩
theorem lkBX12_isRow : LkB mX12_isRow 1 := ⟨wT_i 1276 (by decide +kernel) rfl, wT_i 13 (by decide +kernel) rfl, ⟨by decide +kernel, by decide +kernel⟩, by decide +kernel⟩
theorem lkBX12_steps : LkB mX12_steps 1 := ⟨wT_i 1280 (by decide +kernel) rfl, wT_i 13 (by decide +kernel) rfl, ⟨by decide +kernel, by decide +kernel⟩, by decide +kernel⟩
theorem lkBX12_shaken : LkB mX12_shaken 2 := ⟨wT_i 1284 (by decide +kernel) rfl, wT_i 13 (by decide +kernel) rfl, ⟨by decide +kernel, by decide +kernel⟩, by decide +kernel⟩
theorem lkBX12_lowest : LkB mX12_lowest 3 := ⟨wT_i 1287 (by decide +kernel) rfl, wT_i 13 (by decide +kernel) rfl, ⟨by decide +kernel, by decide +kernel⟩, by decide +kernel⟩
theorem lkBX12_shake : LkB mX12_shake 3 := ⟨wT_i 1272 (by decide +kernel) rfl, wT_i 13 (by decide +kernel) rfl, ⟨by decide +kernel, by decide +kernel⟩, by decide +kernel⟩
theorem lkBX12_worst : LkB mX12_worst 1 := ⟨wT_i 1291 (by decide +kernel) rfl, wT_i 13 (by decide +kernel) rfl, ⟨by decide +kernel, by decide +kernel⟩, by decide +kernel⟩
theorem lkBX12_image : LkB mX12_image 0 := ⟨wT_i 1295 (by decide +kernel) rfl, wT_i 13 (by decide +kernel) rfl, ⟨by decide +kernel, by decide +kernel⟩, by decide +kernel⟩
theorem lkBX12_restore : LkB mX12_restore 0 := ⟨wT_i 1299 (by decide +kernel) rfl, wT_i 13 (by decide +kernel) rfl, ⟨by decide +kernel, by decide +kernel⟩, by decide +kernel⟩
theorem lkBX12_howMany : LkB mX12_howMany 1 := ⟨wT_i 1307 (by decide +kernel) rfl, wT_i 13 (by decide +kernel) rfl, ⟨by decide +kernel, by decide +kernel⟩, by decide +kernel⟩
theorem lkBX12_count : LkB mX12_count 1 := ⟨wT_i 1303 (by decide +kernel) rfl, wT_i 13 (by decide +kernel) rfl, ⟨by decide +kernel, by decide +kernel⟩, by decide +kernel⟩
theorem lkBX12_mix : LkB mX12_mix 1 := ⟨wT_i 1320 (by decide +kernel) rfl, wT_i 13 (by decide +kernel) rfl, ⟨by decide +kernel, by decide +kernel⟩, by decide +kernel⟩
theorem lkBX12_mixStreet : LkB mX12_mixStreet 0 := ⟨wT_i 1316 (by decide +kernel) rfl, wT_i 13 (by decide +kernel) rfl, ⟨by decide +kernel, by decide +kernel⟩, by decide +kernel⟩
theorem lkBX12_digest : LkB mX12_digest 0 := ⟨wT_i 1311 (by decide +kernel) rfl, wT_i 13 (by decide +kernel) rfl, ⟨by decide +kernel, by decide +kernel⟩, by decide +kernel⟩
theorem lkBJ6_numberOfTrailingZeros_0f7a4 : LkB mJ6_numberOfTrailingZeros_0f7a4 1 := ⟨wT_i 766 (by decide +kernel) rfl, wT_i 15 (by decide +kernel) rfl, ⟨by decide +kernel, by decide +kernel⟩, by decide +kernel⟩
theorem lkBJ6_bitCount_0f7a4 : LkB mJ6_bitCount_0f7a4 1 := ⟨wT_i 735 (by decide +kernel) rfl, wT_i 15 (by decide +kernel) rfl, ⟨by decide +kernel, by decide +kernel⟩, by decide +kernel⟩
theorem lkBJ9_abs_0f7a4 : LkB mJ9_abs_0f7a4 1 := ⟨wT_i 797 (by decide +kernel) rfl, wT_i 14 (by decide +kernel) rfl, ⟨by decide +kernel, by decide +kernel⟩, by decide +kernel⟩
theorem lkBJ9_max_7cf53 : LkB mJ9_max_7cf53 2 := ⟨wT_i 586 (by decide +kernel) rfl, wT_i 14 (by decide +kernel) rfl, ⟨by decide +kernel, by decide +kernel⟩, by decide +kernel⟩
theorem lkBJ9_min_7cf53 : LkB mJ9_min_7cf53 2 := ⟨wT_i 522 (by decide +kernel) rfl, wT_i 14 (by decide +kernel) rfl, ⟨by decide +kernel, by decide +kernel⟩, by decide +kernel⟩
theorem kX11_106 : LkS RX11 106 mX11_lettersIn 1 := ⟨lkBX11_lettersIn, wT_i 319 (by decide +kernel) rfl, wT_i 320 (by decide +kernel) rfl⟩
theorem kX11_113 : LkS RX11 113 mX11_byteOf 2 := ⟨lkBX11_byteOf, wT_i 322 (by decide +kernel) rfl, wT_i 323 (by decide +kernel) rfl⟩
theorem kX11_117 : LkV RX11 117 mX3_append 1 3 := ⟨lkBX3_append, wT_i 325 (by decide +kernel) rfl, wT_i 326 (by decide +kernel) rfl, wT_i 327 (by decide +kernel) rfl, TX3, 2, rfl⟩
theorem kX11_136 : LkV RX11 136 mX4_draw 2 4 := ⟨lkBX4_draw, wT_i 411 (by decide +kernel) rfl, wT_i 412 (by decide +kernel) rfl, wT_i 413 (by decide +kernel) rfl, TX4, 5, rfl⟩
theorem kX11_140 : LkV RX11 140 mX7_pave 1 6 := ⟨lkBX7_pave, wT_i 419 (by decide +kernel) rfl, wT_i 420 (by decide +kernel) rfl, wT_i 421 (by decide +kernel) rfl, TX7, 8, rfl⟩
theorem kX11_148 : LkV RX11 148 mX0_copyFrom 1 0 := ⟨lkBX0_copyFrom, wT_i 430 (by decide +kernel) rfl, wT_i 431 (by decide +kernel) rfl, wT_i 432 (by decide +kernel) rfl, TX0, 4, rfl⟩
theorem kX11_159 : LkV RX11 159 mX11_isCell 1 10 := ⟨lkBX11_isCell, wT_i 442 (by decide +kernel) rfl, wT_i 444 (by decide +kernel) rfl, wT_p (q := (yX11_isCell, 17)) 6 (by decide +kernel), TX11, 17, rfl⟩
theorem kX11_163 : LkV RX11 163 mX7_tell 2 6 := ⟨lkBX7_tell, wT_i 446 (by decide +kernel) rfl, wT_i 447 (by decide +kernel) rfl, wT_i 448 (by decide +kernel) rfl, TX7, 8, rfl⟩
theorem kX11_167 : LkV RX11 167 mX7_isOf 2 6 := ⟨lkBX7_isOf, wT_i 466 (by decide +kernel) rfl, wT_i 467 (by decide +kernel) rfl, wT_i 468 (by decide +kernel) rfl, TX7, 8, rfl⟩
theorem kX11_171 : LkV RX11 171 mX11_hasStreet 0 10 := ⟨lkBX11_hasStreet, wT_i 474 (by decide +kernel) rfl, wT_i 476 (by decide +kernel) rfl, wT_p (q := (yX11_hasStreet, 17)) 7 (by decide +kernel), TX11, 17, rfl⟩
theorem kX11_175 : LkV RX11 175 mX7_level 1 6 := ⟨lkBX7_level, wT_i 478 (by decide +kernel) rfl, wT_i 479 (by decide +kernel) rfl, wT_i 480 (by decide +kernel) rfl, TX7, 8, rfl⟩
theorem kX11_178 : LkV RX11 178 mX7_stones 0 6 := ⟨lkBX7_stones, wT_i 482 (by decide +kernel) rfl, wT_i 483 (by decide +kernel) rfl, wT_i 484 (by decide +kernel) rfl, TX7, 8, rfl⟩
theorem kX11_182 : LkV RX11 182 mX7_fillJoints 1 6 := ⟨lkBX7_fillJoints, wT_i 490 (by decide +kernel) rfl, wT_i 491 (by decide +kernel) rfl, wT_i 492 (by decide +kernel) rfl, TX7, 8, rfl⟩
theorem kX11_185 : LkV RX11 185 mX11_isStone 1 10 := ⟨lkBX11_isStone, wT_i 498 (by decide +kernel) rfl, wT_i 500 (by decide +kernel) rfl, wT_p (q := (yX11_isStone, 17)) 8 (by decide +kernel), TX11, 17, rfl⟩
theorem kX11_188 : LkS RX11 188 mX11_isWeight 1 := ⟨lkBX11_isWeight, wT_i 502 (by decide +kernel) rfl, wT_i 503 (by decide +kernel) rfl⟩
theorem kX11_191 : LkV RX11 191 mX7_strike 2 6 := ⟨lkBX7_strike, wT_i 505 (by decide +kernel) rfl, wT_i 506 (by decide +kernel) rfl, wT_i 507 (by decide +kernel) rfl, TX7, 8, rfl⟩
theorem kX11_194 : LkS RX11 194 mX11_isOrder 1 := ⟨lkBX11_isOrder, wT_i 527 (by decide +kernel) rfl, wT_i 528 (by decide +kernel) rfl⟩
theorem kX11_197 : LkV RX11 197 mX5_go 4 5 := ⟨lkBX5_go, wT_i 530 (by decide +kernel) rfl, wT_i 531 (by decide +kernel) rfl, wT_i 532 (by decide +kernel) rfl, TX5, 2, rfl⟩
theorem kX11_201 : LkV RX11 201 mX7_ringing 1 6 := ⟨lkBX7_ringing, wT_i 552 (by decide +kernel) rfl, wT_i 553 (by decide +kernel) rfl, wT_i 554 (by decide +kernel) rfl, TX7, 8, rfl⟩
theorem kX11_205 : LkV RX11 205 mX7_copyFrom 1 6 := ⟨lkBX7_copyFrom, wT_i 560 (by decide +kernel) rfl, wT_i 561 (by decide +kernel) rfl, wT_i 562 (by decide +kernel) rfl, TX7, 8, rfl⟩
theorem kX11_211 : LkV RX11 211 mX5_roundsTillAllRing 3 5 := ⟨lkBX5_roundsTillAllRing, wT_i 568 (by decide +kernel) rfl, wT_i 569 (by decide +kernel) rfl, wT_i 570 (by decide +kernel) rfl, TX5, 2, rfl⟩
theorem kX11_215 : LkV RX11 215 mX7_spread 0 6 := ⟨lkBX7_spread, wT_i 578 (by decide +kernel) rfl, wT_i 579 (by decide +kernel) rfl, wT_i 580 (by decide +kernel) rfl, TX7, 8, rfl⟩
theorem kX11_219 : LkS RX11 219 mX11_isLoad 1 := ⟨lkBX11_isLoad, wT_i 596 (by decide +kernel) rfl, wT_i 597 (by decide +kernel) rfl⟩
theorem kX11_222 : LkV RX11 222 mX2_begin 1 2 := ⟨lkBX2_begin, wT_i 599 (by decide +kernel) rfl, wT_i 600 (by decide +kernel) rfl, wT_i 601 (by decide +kernel) rfl, TX2, 3, rfl⟩
theorem kX11_225 : LkV RX11 225 mX2_lay 2 2 := ⟨lkBX2_lay, wT_i 604 (by decide +kernel) rfl, wT_i 605 (by decide +kernel) rfl, wT_i 606 (by decide +kernel) rfl, TX2, 3, rfl⟩
theorem kX11_231 : LkV RX11 231 mX2_greatest 0 2 := ⟨lkBX2_greatest, wT_i 617 (by decide +kernel) rfl, wT_i 618 (by decide +kernel) rfl, wT_i 619 (by decide +kernel) rfl, TX2, 3, rfl⟩
theorem kX11_234 : LkV RX11 234 mX9_fill 1 8 := ⟨lkBX9_fill, wT_i 625 (by decide +kernel) rfl, wT_i 626 (by decide +kernel) rfl, wT_i 627 (by decide +kernel) rfl, TX9, 2, rfl⟩
theorem kX11_237 : LkV RX11 237 mX9_depth 2 8 := ⟨lkBX9_depth, wT_i 637 (by decide +kernel) rfl, wT_i 638 (by decide +kernel) rfl, wT_i 639 (by decide +kernel) rfl, TX9, 2, rfl⟩
theorem kX11_244 : LkV RX11 244 mX11_hasTraffic 0 10 := ⟨lkBX11_hasTraffic, wT_i 649 (by decide +kernel) rfl, wT_i 651 (by decide +kernel) rfl, wT_p (q := (yX11_hasTraffic, 17)) 15 (by decide +kernel), TX11, 17, rfl⟩
theorem kX11_247 : LkS RX11 247 mX11_areYears 2 := ⟨lkBX11_areYears, wT_i 653 (by decide +kernel) rfl, wT_i 654 (by decide +kernel) rfl⟩
theorem kX11_250 : LkV RX11 250 mX10_pass 4 9 := ⟨lkBX10_pass, wT_i 656 (by decide +kernel) rfl, wT_i 657 (by decide +kernel) rfl, wT_i 658 (by decide +kernel) rfl, TX10, 4, rfl⟩
theorem kX11_254 : LkS RX11 254 mX11_isSize 1 := ⟨lkBX11_isSize, wT_i 714 (by decide +kernel) rfl, wT_i 715 (by decide +kernel) rfl⟩
theorem kX11_257 : LkV RX11 257 mX7_canBeMended 1 6 := ⟨lkBX7_canBeMended, wT_i 717 (by decide +kernel) rfl, wT_i 718 (by decide +kernel) rfl, wT_i 719 (by decide +kernel) rfl, TX7, 8, rfl⟩
theorem kX11_260 : LkV RX11 260 mX7_repair 2 6 := ⟨lkBX7_repair, wT_i 721 (by decide +kernel) rfl, wT_i 722 (by decide +kernel) rfl, wT_i 723 (by decide +kernel) rfl, TX7, 8, rfl⟩
theorem kX11_266 : LkV RX11 266 mX11_findMendable 0 10 := ⟨lkBX11_findMendable, wT_i 729 (by decide +kernel) rfl, wT_i 731 (by decide +kernel) rfl, wT_p (q := (yX11_findMendable, 17)) 21 (by decide +kernel), TX11, 17, rfl⟩
theorem kX11_269 : LkS RX11 269 mJ6_bitCount_0f7a4 1 := ⟨lkBJ6_bitCount_0f7a4, wT_i 733 (by decide +kernel) rfl, wT_i 734 (by decide +kernel) rfl⟩
theorem kX11_274 : LkV RX11 274 mX11_lostWith 4 10 := ⟨lkBX11_lostWith, wT_i 739 (by decide +kernel) rfl, wT_i 741 (by decide +kernel) rfl, wT_p (q := (yX11_lostWith, 17)) 22 (by decide +kernel), TX11, 17, rfl⟩
theorem kX11_278 : LkS RX11 278 mX11_quotient 2 := ⟨lkBX11_quotient, wT_i 747 (by decide +kernel) rfl, wT_i 514 (by decide +kernel) rfl⟩
theorem kX11_282 : LkV RX11 282 mX1_put 1 1 := ⟨lkBX1_put, wT_i 752 (by decide +kernel) rfl, wT_i 753 (by decide +kernel) rfl, wT_i 754 (by decide +kernel) rfl, TX1, 5, rfl⟩
theorem kX11_285 : LkV RX11 285 mX1_choose 1 1 := ⟨lkBX1_choose, wT_i 760 (by decide +kernel) rfl, wT_i 761 (by decide +kernel) rfl, wT_i 762 (by decide +kernel) rfl, TX1, 5, rfl⟩
theorem kX11_294 : LkV RX11 294 mX11_isRow 1 10 := ⟨lkBX11_isRow, wT_i 781 (by decide +kernel) rfl, wT_i 783 (by decide +kernel) rfl, wT_p (q := (yX11_isRow, 17)) 24 (by decide +kernel), TX11, 17, rfl⟩
theorem kX11_297 : LkV RX11 297 mX7_jolts 2 6 := ⟨lkBX7_jolts, wT_i 785 (by decide +kernel) rfl, wT_i 786 (by decide +kernel) rfl, wT_i 787 (by decide +kernel) rfl, TX7, 8, rfl⟩
theorem kX11_300 : LkV RX11 300 mX4_steps 1 4 := ⟨lkBX4_steps, wT_i 798 (by decide +kernel) rfl, wT_i 790 (by decide +kernel) rfl, wT_i 791 (by decide +kernel) rfl, TX4, 5, rfl⟩
theorem kX11_303 : LkS RX11 303 mX11_commonDivisor 2 := ⟨lkBX11_commonDivisor, wT_i 799 (by decide +kernel) rfl, wT_i 800 (by decide +kernel) rfl⟩
theorem kX11_308 : LkV RX11 308 mX11_digestOfCells 1 10 := ⟨lkBX11_digestOfCells, wT_i 823 (by decide +kernel) rfl, wT_i 825 (by decide +kernel) rfl, wT_p (q := (yX11_digestOfCells, 17)) 25 (by decide +kernel), TX11, 17, rfl⟩
theorem kX11_317 : LkV RX11 317 mX11_would 2 10 := ⟨lkBX11_would, wT_i 828 (by decide +kernel) rfl, wT_i 707 (by decide +kernel) rfl, wT_i 708 (by decide +kernel) rfl, TX11, 17, rfl⟩
theorem kX11_323 : LkV RX11 323 mX11_count 1 10 := ⟨lkBX11_count, wT_i 829 (by decide +kernel) rfl, wT_i 815 (by decide +kernel) rfl, wT_i 816 (by decide +kernel) rfl, TX11, 17, rfl⟩
theorem kX0_25 : LkV RX0 25 mX0_takesRow 1 0 := ⟨lkBX0_takesRow, wT_i 358 (by decide +kernel) rfl, wT_i 360 (by decide +kernel) rfl, wT_p (q := (yX0_takesRow, 4)) 0 (by decide +kernel), TX0, 4, rfl⟩
theorem kX0_29 : LkV RX0 29 mX0_takesDigit 2 0 := ⟨lkBX0_takesDigit, wT_i 362 (by decide +kernel) rfl, wT_i 364 (by decide +kernel) rfl, wT_p (q := (yX0_takesDigit, 4)) 1 (by decide +kernel), TX0, 4, rfl⟩
theorem kX0_33 : LkV RX0 33 mX0_takesEnd 1 0 := ⟨lkBX0_takesEnd, wT_i 366 (by decide +kernel) rfl, wT_i 368 (by decide +kernel) rfl, wT_p (q := (yX0_takesEnd, 4)) 2 (by decide +kernel), TX0, 4, rfl⟩
theorem kX1_28 : LkS RX1 28 mJ6_numberOfTrailingZeros_0f7a4 1 := ⟨lkBJ6_numberOfTrailingZeros_0f7a4, wT_i 764 (by decide +kernel) rfl, wT_i 765 (by decide +kernel) rfl⟩
theorem kX1_34 : LkV RX1 34 mX1_isBetter 2 1 := ⟨lkBX1_isBetter, wT_i 768 (by decide +kernel) rfl, wT_i 770 (by decide +kernel) rfl, wT_p (q := (yX1_isBetter, 5)) 23 (by decide +kernel), TX1, 5, rfl⟩
theorem kX1_38 : LkS RX1 38 mJ6_bitCount_0f7a4 1 := ⟨lkBJ6_bitCount_0f7a4, wT_i 772 (by decide +kernel) rfl, wT_i 734 (by decide +kernel) rfl⟩
theorem kX2_33 : LkV RX2 33 mX7_grip 1 6 := ⟨lkBX7_grip, wT_i 603 (by decide +kernel) rfl, wT_i 459 (by decide +kernel) rfl, wT_i 460 (by decide +kernel) rfl, TX7, 8, rfl⟩
theorem kX2_37 : LkV RX2 37 mX4_beside 2 4 := ⟨lkBX4_beside, wT_i 608 (by decide +kernel) rfl, wT_i 455 (by decide +kernel) rfl, wT_i 456 (by decide +kernel) rfl, TX4, 5, rfl⟩
theorem kX2_41 : LkV RX2 41 mX2_passOn 3 2 := ⟨lkBX2_passOn, wT_i 609 (by decide +kernel) rfl, wT_i 611 (by decide +kernel) rfl, wT_p (q := (yX2_passOn, 3)) 13 (by decide +kernel), TX2, 3, rfl⟩
theorem kX4_29 : LkV RX4 29 mX4_numberOf 2 4 := ⟨lkBX4_numberOf, wT_i 415 (by decide +kernel) rfl, wT_i 416 (by decide +kernel) rfl, wT_i 417 (by decide +kernel) rfl, TX4, 5, rfl⟩
theorem kX5_19 : LkV RX5 19 mX5_arrange 1 5 := ⟨lkBX5_arrange, wT_i 534 (by decide +kernel) rfl, wT_i 536 (by decide +kernel) rfl, wT_p (q := (yX5_arrange, 2)) 10 (by decide +kernel), TX5, 2, rfl⟩
theorem kX5_23 : LkV RX5 23 mX5_goRound 2 5 := ⟨lkBX5_goRound, wT_i 543 (by decide +kernel) rfl, wT_i 545 (by decide +kernel) rfl, wT_p (q := (yX5_goRound, 2)) 12 (by decide +kernel), TX5, 2, rfl⟩
theorem kX5_27 : LkV RX5 27 mX7_stones 0 6 := ⟨lkBX7_stones, wT_i 572 (by decide +kernel) rfl, wT_i 483 (by decide +kernel) rfl, wT_i 484 (by decide +kernel) rfl, TX7, 8, rfl⟩
theorem kX5_33 : LkV RX5 33 mX7_ringing 1 6 := ⟨lkBX7_ringing, wT_i 573 (by decide +kernel) rfl, wT_i 553 (by decide +kernel) rfl, wT_i 554 (by decide +kernel) rfl, TX7, 8, rfl⟩
theorem kX5_43 : LkV RX5 43 mX7_strike 2 6 := ⟨lkBX7_strike, wT_i 547 (by decide +kernel) rfl, wT_i 506 (by decide +kernel) rfl, wT_i 507 (by decide +kernel) rfl, TX7, 8, rfl⟩
theorem kX5_47 : LkV RX5 47 mX5_arrangeByColumns 0 5 := ⟨lkBX5_arrangeByColumns, wT_i 538 (by decide +kernel) rfl, wT_i 540 (by decide +kernel) rfl, wT_p (q := (yX5_arrangeByColumns, 2)) 11 (by decide +kernel), TX5, 2, rfl⟩
theorem kX5_56 : LkV RX5 56 mX4_numberOf 2 4 := ⟨lkBX4_numberOf, wT_i 542 (by decide +kernel) rfl, wT_i 416 (by decide +kernel) rfl, wT_i 417 (by decide +kernel) rfl, TX4, 5, rfl⟩
theorem kX7_47 : LkV RX7 47 mX7_hold 1 6 := ⟨lkBX7_hold, wT_i 450 (by decide +kernel) rfl, wT_i 451 (by decide +kernel) rfl, wT_i 452 (by decide +kernel) rfl, TX7, 8, rfl⟩
theorem kX7_51 : LkV RX7 51 mX4_beside 2 4 := ⟨lkBX4_beside, wT_i 454 (by decide +kernel) rfl, wT_i 455 (by decide +kernel) rfl, wT_i 456 (by decide +kernel) rfl, TX4, 5, rfl⟩
theorem kX7_55 : LkV RX7 55 mX7_grip 1 6 := ⟨lkBX7_grip, wT_i 458 (by decide +kernel) rfl, wT_i 459 (by decide +kernel) rfl, wT_i 460 (by decide +kernel) rfl, TX7, 8, rfl⟩
theorem kX7_61 : LkV RX7 61 mX7_sinkBy 2 6 := ⟨lkBX7_sinkBy, wT_i 509 (by decide +kernel) rfl, wT_i 510 (by decide +kernel) rfl, wT_i 511 (by decide +kernel) rfl, TX7, 8, rfl⟩
theorem kX7_64 : LkV RX7 64 mX7_seatFirmer 1 6 := ⟨lkBX7_seatFirmer, wT_i 516 (by decide +kernel) rfl, wT_i 518 (by decide +kernel) rfl, wT_p (q := (yX7_seatFirmer, 8)) 9 (by decide +kernel), TX7, 8, rfl⟩
theorem kX7_68 : Cond.methodLink RX7 68 Lib.Math.min.name ∈ wTb := wT_i 520 (by decide +kernel) rfl
theorem kX7_75 : Cond.methodLink RX7 75 Lib.Math.max.name ∈ wTb := wT_i 584 (by decide +kernel) rfl
theorem kX7_78 : LkV RX7 78 mX7_drawOfTen 0 6 := ⟨lkBX7_drawOfTen, wT_i 690 (by decide +kernel) rfl, wT_i 692 (by decide +kernel) rfl, wT_p (q := (yX7_drawOfTen, 8)) 19 (by decide +kernel), TX7, 8, rfl⟩
theorem kX7_89 : LkV RX7 89 mX4_steps 1 4 := ⟨lkBX4_steps, wT_i 789 (by decide +kernel) rfl, wT_i 790 (by decide +kernel) rfl, wT_i 791 (by decide +kernel) rfl, TX4, 5, rfl⟩
theorem kX7_92 : LkV RX7 92 mX4_numberOf 2 4 := ⟨lkBX4_numberOf, wT_i 794 (by decide +kernel) rfl, wT_i 416 (by decide +kernel) rfl, wT_i 417 (by decide +kernel) rfl, TX4, 5, rfl⟩
theorem kX7_95 : Cond.methodLink RX7 95 Lib.Math.abs.name ∈ wTb := wT_i 795 (by decide +kernel) rfl
theorem kX8_35 : LkV RX8 35 mX8_takesSize 1 7 := ⟨lkBX8_takesSize, wT_i 373 (by decide +kernel) rfl, wT_i 375 (by decide +kernel) rfl, wT_p (q := (yX8_takesSize, 7)) 3 (by decide +kernel), TX8, 7, rfl⟩
theorem kX8_39 : LkV RX8 39 mX8_takesRowEnd 0 7 := ⟨lkBX8_takesRowEnd, wT_i 377 (by decide +kernel) rfl, wT_i 379 (by decide +kernel) rfl, wT_p (q := (yX8_takesRowEnd, 7)) 4 (by decide +kernel), TX8, 7, rfl⟩
theorem kX8_43 : LkV RX8 43 mX8_takesCell 1 7 := ⟨lkBX8_takesCell, wT_i 381 (by decide +kernel) rfl, wT_i 383 (by decide +kernel) rfl, wT_p (q := (yX8_takesCell, 7)) 5 (by decide +kernel), TX8, 7, rfl⟩
theorem kX8_46 : LkS RX8 46 mX8_kindOf 1 := ⟨lkBX8_kindOf, wT_i 385 (by decide +kernel) rfl, wT_i 386 (by decide +kernel) rfl⟩
theorem kX9_35 : LkV RX9 35 mX9_fallsIn 2 8 := ⟨lkBX9_fallsIn, wT_i 630 (by decide +kernel) rfl, wT_i 632 (by decide +kernel) rfl, wT_p (q := (yX9_fallsIn, 2)) 14 (by decide +kernel), TX9, 2, rfl⟩
theorem kX9_39 : LkV RX9 39 mX4_beside 2 4 := ⟨lkBX4_beside, wT_i 634 (by decide +kernel) rfl, wT_i 455 (by decide +kernel) rfl, wT_i 456 (by decide +kernel) rfl, TX4, 5, rfl⟩
theorem kX9_43 : Cond.methodLink RX9 43 Lib.Math.min.name ∈ wTb := wT_i 635 (by decide +kernel) rfl
theorem kX9_48 : Cond.methodLink RX9 48 Lib.Math.max.name ∈ wTb := wT_i 636 (by decide +kernel) rfl
theorem kX10_27 : LkV RX10 27 mX10_layCarts 2 9 := ⟨lkBX10_layCarts, wT_i 660 (by decide +kernel) rfl, wT_i 662 (by decide +kernel) rfl, wT_p (q := (yX10_layCarts, 4)) 16 (by decide +kernel), TX10, 4, rfl⟩
theorem kX10_37 : LkV RX10 37 mX10_wearDown 1 9 := ⟨lkBX10_wearDown, wT_i 667 (by decide +kernel) rfl, wT_i 669 (by decide +kernel) rfl, wT_p (q := (yX10_wearDown, 4)) 17 (by decide +kernel), TX10, 4, rfl⟩
theorem kX10_41 : LkV RX10 41 mX10_freeze 2 9 := ⟨lkBX10_freeze, wT_i 676 (by decide +kernel) rfl, wT_i 678 (by decide +kernel) rfl, wT_p (q := (yX10_freeze, 4)) 18 (by decide +kernel), TX10, 4, rfl⟩
theorem kX10_45 : LkV RX10 45 mX10_washOut 1 9 := ⟨lkBX10_washOut, wT_i 698 (by decide +kernel) rfl, wT_i 700 (by decide +kernel) rfl, wT_p (q := (yX10_washOut, 4)) 20 (by decide +kernel), TX10, 4, rfl⟩
theorem kX10_49 : LkV RX10 49 mX2_begin 1 2 := ⟨lkBX2_begin, wT_i 664 (by decide +kernel) rfl, wT_i 600 (by decide +kernel) rfl, wT_i 601 (by decide +kernel) rfl, TX2, 3, rfl⟩
theorem kX10_68 : LkV RX10 68 mX4_numberOf 2 4 := ⟨lkBX4_numberOf, wT_i 665 (by decide +kernel) rfl, wT_i 416 (by decide +kernel) rfl, wT_i 417 (by decide +kernel) rfl, TX4, 5, rfl⟩
theorem kX10_75 : LkV RX10 75 mX2_lay 2 2 := ⟨lkBX2_lay, wT_i 666 (by decide +kernel) rfl, wT_i 605 (by decide +kernel) rfl, wT_i 606 (by decide +kernel) rfl, TX2, 3, rfl⟩
theorem kX10_85 : LkV RX10 85 mX7_hold 1 6 := ⟨lkBX7_hold, wT_i 671 (by decide +kernel) rfl, wT_i 451 (by decide +kernel) rfl, wT_i 452 (by decide +kernel) rfl, TX7, 8, rfl⟩
theorem kX10_92 : LkV RX10 92 mX7_worsen 1 6 := ⟨lkBX7_worsen, wT_i 672 (by decide +kernel) rfl, wT_i 673 (by decide +kernel) rfl, wT_i 674 (by decide +kernel) rfl, TX7, 8, rfl⟩
theorem kX10_96 : LkV RX10 96 mX9_fill 1 8 := ⟨lkBX9_fill, wT_i 680 (by decide +kernel) rfl, wT_i 626 (by decide +kernel) rfl, wT_i 627 (by decide +kernel) rfl, TX9, 2, rfl⟩
theorem kX10_101 : LkV RX10 101 mX9_depth 2 8 := ⟨lkBX9_depth, wT_i 681 (by decide +kernel) rfl, wT_i 638 (by decide +kernel) rfl, wT_i 639 (by decide +kernel) rfl, TX9, 2, rfl⟩
theorem kX10_105 : LkV RX10 105 mX7_loseGrit 1 6 := ⟨lkBX7_loseGrit, wT_i 682 (by decide +kernel) rfl, wT_i 683 (by decide +kernel) rfl, wT_i 684 (by decide +kernel) rfl, TX7, 8, rfl⟩
theorem kX10_109 : LkV RX10 109 mX7_freeze 2 6 := ⟨lkBX7_freeze, wT_i 686 (by decide +kernel) rfl, wT_i 687 (by decide +kernel) rfl, wT_i 688 (by decide +kernel) rfl, TX7, 8, rfl⟩
theorem kX10_111 : LkV RX10 111 mX7_isBesideSand 1 6 := ⟨lkBX7_isBesideSand, wT_i 702 (by decide +kernel) rfl, wT_i 703 (by decide +kernel) rfl, wT_i 704 (by decide +kernel) rfl, TX7, 8, rfl⟩
theorem kL_15 : LkV RL 15 mX11_letters 1 10 := ⟨lkBX11_letters, wT_i 315 (by decide +kernel) rfl, wT_i 316 (by decide +kernel) rfl, wT_i 317 (by decide +kernel) rfl, TX11, 17, rfl⟩
theorem kL_19 : LkV RL 19 mX12_letters 1 11 := ⟨lkBX12_letters, wT_i 958 (by decide +kernel) rfl, wT_i 959 (by decide +kernel) rfl, wT_i 960 (by decide +kernel) rfl, TX12, 40, rfl⟩
theorem kL_20 : LkV RL 20 mX11_blank 0 10 := ⟨lkBX11_blank, wT_i 329 (by decide +kernel) rfl, wT_i 330 (by decide +kernel) rfl, wT_i 331 (by decide +kernel) rfl, TX11, 17, rfl⟩
theorem kL_24 : LkV RL 24 mX12_blank 0 11 := ⟨lkBX12_blank, wT_i 963 (by decide +kernel) rfl, wT_i 964 (by decide +kernel) rfl, wT_i 965 (by decide +kernel) rfl, TX12, 40, rfl⟩
theorem kL_25 : LkV RL 25 mX11_fault 1 10 := ⟨lkBX11_fault, wT_i 333 (by decide +kernel) rfl, wT_i 334 (by decide +kernel) rfl, wT_i 335 (by decide +kernel) rfl, TX11, 17, rfl⟩
theorem kL_29 : LkV RL 29 mX12_fault 1 11 := ⟨lkBX12_fault, wT_i 967 (by decide +kernel) rfl, wT_i 968 (by decide +kernel) rfl, wT_i 969 (by decide +kernel) rfl, TX12, 40, rfl⟩
theorem kL_30 : LkV RL 30 mX11_street 0 10 := ⟨lkBX11_street, wT_i 391 (by decide +kernel) rfl, wT_i 392 (by decide +kernel) rfl, wT_i 393 (by decide +kernel) rfl, TX11, 17, rfl⟩
theorem kL_33 : LkV RL 33 mX12_street 0 11 := ⟨lkBX12_street, wT_i 996 (by decide +kernel) rfl, wT_i 997 (by decide +kernel) rfl, wT_i 998 (by decide +kernel) rfl, TX12, 40, rfl⟩
theorem kL_34 : LkV RL 34 mX11_carts 0 10 := ⟨lkBX11_carts, wT_i 423 (by decide +kernel) rfl, wT_i 424 (by decide +kernel) rfl, wT_i 425 (by decide +kernel) rfl, TX11, 17, rfl⟩
theorem kL_37 : LkV RL 37 mX12_carts 0 11 := ⟨lkBX12_carts, wT_i 1000 (by decide +kernel) rfl, wT_i 1001 (by decide +kernel) rfl, wT_i 1002 (by decide +kernel) rfl, TX12, 40, rfl⟩
theorem kL_38 : LkV RL 38 mX11_cart 2 10 := ⟨lkBX11_cart, wT_i 434 (by decide +kernel) rfl, wT_i 435 (by decide +kernel) rfl, wT_i 436 (by decide +kernel) rfl, TX11, 17, rfl⟩
theorem kL_42 : LkV RL 42 mX12_cart 2 11 := ⟨lkBX12_cart, wT_i 1004 (by decide +kernel) rfl, wT_i 1005 (by decide +kernel) rfl, wT_i 1006 (by decide +kernel) rfl, TX12, 40, rfl⟩
theorem kL_43 : LkV RL 43 mX11_cell 2 10 := ⟨lkBX11_cell, wT_i 438 (by decide +kernel) rfl, wT_i 439 (by decide +kernel) rfl, wT_i 440 (by decide +kernel) rfl, TX11, 17, rfl⟩
theorem kL_46 : LkV RL 46 mX12_cell 2 11 := ⟨lkBX12_cell, wT_i 1012 (by decide +kernel) rfl, wT_i 1013 (by decide +kernel) rfl, wT_i 1014 (by decide +kernel) rfl, TX12, 40, rfl⟩
theorem kL_47 : LkV RL 47 mX11_as 2 10 := ⟨lkBX11_as, wT_i 462 (by decide +kernel) rfl, wT_i 463 (by decide +kernel) rfl, wT_i 464 (by decide +kernel) rfl, TX11, 17, rfl⟩
theorem kL_50 : LkV RL 50 mX12_as 2 11 := ⟨lkBX12_as, wT_i 1040 (by decide +kernel) rfl, wT_i 1041 (by decide +kernel) rfl, wT_i 1042 (by decide +kernel) rfl, TX12, 40, rfl⟩
theorem kL_51 : LkV RL 51 mX11_set 1 10 := ⟨lkBX11_set, wT_i 470 (by decide +kernel) rfl, wT_i 471 (by decide +kernel) rfl, wT_i 472 (by decide +kernel) rfl, TX11, 17, rfl⟩
theorem kL_54 : LkV RL 54 mX12_set 1 11 := ⟨lkBX12_set, wT_i 1044 (by decide +kernel) rfl, wT_i 1045 (by decide +kernel) rfl, wT_i 1046 (by decide +kernel) rfl, TX12, 40, rfl⟩
theorem kL_55 : LkV RL 55 mX11_grit 1 10 := ⟨lkBX11_grit, wT_i 486 (by decide +kernel) rfl, wT_i 487 (by decide +kernel) rfl, wT_i 488 (by decide +kernel) rfl, TX11, 17, rfl⟩
theorem kL_58 : LkV RL 58 mX12_grit 1 11 := ⟨lkBX12_grit, wT_i 1052 (by decide +kernel) rfl, wT_i 1053 (by decide +kernel) rfl, wT_i 1054 (by decide +kernel) rfl, TX12, 40, rfl⟩
theorem kL_59 : LkV RL 59 mX11_blow 2 10 := ⟨lkBX11_blow, wT_i 494 (by decide +kernel) rfl, wT_i 495 (by decide +kernel) rfl, wT_i 496 (by decide +kernel) rfl, TX11, 17, rfl⟩
theorem kL_62 : LkV RL 62 mX12_blow 2 11 := ⟨lkBX12_blow, wT_i 1056 (by decide +kernel) rfl, wT_i 1057 (by decide +kernel) rfl, wT_i 1058 (by decide +kernel) rfl, TX12, 40, rfl⟩
theorem kL_63 : LkV RL 63 mX11_ram 3 10 := ⟨lkBX11_ram, wT_i 523 (by decide +kernel) rfl, wT_i 524 (by decide +kernel) rfl, wT_i 525 (by decide +kernel) rfl, TX11, 17, rfl⟩
theorem kL_67 : LkV RL 67 mX12_ram 3 11 := ⟨lkBX12_ram, wT_i 1075 (by decide +kernel) rfl, wT_i 1076 (by decide +kernel) rfl, wT_i 1077 (by decide +kernel) rfl, TX12, 40, rfl⟩
theorem kL_68 : LkV RL 68 mX11_rings 1 10 := ⟨lkBX11_rings, wT_i 548 (by decide +kernel) rfl, wT_i 549 (by decide +kernel) rfl, wT_i 550 (by decide +kernel) rfl, TX11, 17, rfl⟩
theorem kL_71 : LkV RL 71 mX12_rings 1 11 := ⟨lkBX12_rings, wT_i 1090 (by decide +kernel) rfl, wT_i 1091 (by decide +kernel) rfl, wT_i 1092 (by decide +kernel) rfl, TX12, 40, rfl⟩
theorem kL_72 : LkV RL 72 mX11_proud 4 10 := ⟨lkBX11_proud, wT_i 556 (by decide +kernel) rfl, wT_i 557 (by decide +kernel) rfl, wT_i 558 (by decide +kernel) rfl, TX11, 17, rfl⟩
theorem kL_76 : LkV RL 76 mX12_proud 4 11 := ⟨lkBX12_proud, wT_i 1098 (by decide +kernel) rfl, wT_i 1099 (by decide +kernel) rfl, wT_i 1100 (by decide +kernel) rfl, TX12, 40, rfl⟩
theorem kL_77 : LkV RL 77 mX11_until 2 10 := ⟨lkBX11_until, wT_i 564 (by decide +kernel) rfl, wT_i 565 (by decide +kernel) rfl, wT_i 566 (by decide +kernel) rfl, TX11, 17, rfl⟩
theorem kL_80 : LkV RL 80 mX12_until 2 11 := ⟨lkBX12_until, wT_i 1110 (by decide +kernel) rfl, wT_i 1111 (by decide +kernel) rfl, wT_i 1112 (by decide +kernel) rfl, TX12, 40, rfl⟩
theorem kL_81 : LkV RL 81 mX11_uneven 0 10 := ⟨lkBX11_uneven, wT_i 574 (by decide +kernel) rfl, wT_i 575 (by decide +kernel) rfl, wT_i 576 (by decide +kernel) rfl, TX11, 17, rfl⟩
theorem kL_84 : LkV RL 84 mX12_uneven 0 11 := ⟨lkBX12_uneven, wT_i 1114 (by decide +kernel) rfl, wT_i 1115 (by decide +kernel) rfl, wT_i 1116 (by decide +kernel) rfl, TX12, 40, rfl⟩
theorem kL_85 : LkV RL 85 mX11_evenest 2 10 := ⟨lkBX11_evenest, wT_i 587 (by decide +kernel) rfl, wT_i 588 (by decide +kernel) rfl, wT_i 589 (by decide +kernel) rfl, TX11, 17, rfl⟩
theorem kL_88 : LkV RL 88 mX12_evenest 2 11 := ⟨lkBX12_evenest, wT_i 1124 (by decide +kernel) rfl, wT_i 1125 (by decide +kernel) rfl, wT_i 1126 (by decide +kernel) rfl, TX12, 40, rfl⟩
theorem kL_89 : LkV RL 89 mX11_borne 3 10 := ⟨lkBX11_borne, wT_i 592 (by decide +kernel) rfl, wT_i 593 (by decide +kernel) rfl, wT_i 594 (by decide +kernel) rfl, TX11, 17, rfl⟩
theorem kL_92 : LkV RL 92 mX12_borne 3 11 := ⟨lkBX12_borne, wT_i 1128 (by decide +kernel) rfl, wT_i 1129 (by decide +kernel) rfl, wT_i 1130 (by decide +kernel) rfl, TX12, 40, rfl⟩
theorem kL_93 : LkV RL 93 mX11_bearer 2 10 := ⟨lkBX11_bearer, wT_i 613 (by decide +kernel) rfl, wT_i 614 (by decide +kernel) rfl, wT_i 615 (by decide +kernel) rfl, TX11, 17, rfl⟩
theorem kL_96 : LkV RL 96 mX12_bearer 2 11 := ⟨lkBX12_bearer, wT_i 1151 (by decide +kernel) rfl, wT_i 1152 (by decide +kernel) rfl, wT_i 1153 (by decide +kernel) rfl, TX12, 40, rfl⟩
theorem kL_97 : LkV RL 97 mX11_water 1 10 := ⟨lkBX11_water, wT_i 621 (by decide +kernel) rfl, wT_i 622 (by decide +kernel) rfl, wT_i 623 (by decide +kernel) rfl, TX11, 17, rfl⟩
theorem kL_100 : LkV RL 100 mX12_water 1 11 := ⟨lkBX12_water, wT_i 1155 (by decide +kernel) rfl, wT_i 1156 (by decide +kernel) rfl, wT_i 1157 (by decide +kernel) rfl, TX12, 40, rfl⟩
theorem kL_101 : LkV RL 101 mX11_seed 1 10 := ⟨lkBX11_seed, wT_i 641 (by decide +kernel) rfl, wT_i 642 (by decide +kernel) rfl, wT_i 643 (by decide +kernel) rfl, TX11, 17, rfl⟩
theorem kL_104 : LkV RL 104 mX12_seed 1 11 := ⟨lkBX12_seed, wT_i 1167 (by decide +kernel) rfl, wT_i 1168 (by decide +kernel) rfl, wT_i 1169 (by decide +kernel) rfl, TX12, 40, rfl⟩
theorem kL_105 : LkV RL 105 mX11_years 2 10 := ⟨lkBX11_years, wT_i 645 (by decide +kernel) rfl, wT_i 646 (by decide +kernel) rfl, wT_i 647 (by decide +kernel) rfl, TX11, 17, rfl⟩
theorem kL_108 : LkV RL 108 mX12_years 2 11 := ⟨lkBX12_years, wT_i 1171 (by decide +kernel) rfl, wT_i 1172 (by decide +kernel) rfl, wT_i 1173 (by decide +kernel) rfl, TX12, 40, rfl⟩
theorem kL_109 : LkV RL 109 mX11_would 2 10 := ⟨lkBX11_would, wT_i 706 (by decide +kernel) rfl, wT_i 707 (by decide +kernel) rfl, wT_i 708 (by decide +kernel) rfl, TX11, 17, rfl⟩
theorem kL_112 : LkV RL 112 mX12_would 2 11 := ⟨lkBX12_would, wT_i 1218 (by decide +kernel) rfl, wT_i 1219 (by decide +kernel) rfl, wT_i 1220 (by decide +kernel) rfl, TX12, 40, rfl⟩
theorem kL_113 : LkV RL 113 mX11_mend 2 10 := ⟨lkBX11_mend, wT_i 710 (by decide +kernel) rfl, wT_i 711 (by decide +kernel) rfl, wT_i 712 (by decide +kernel) rfl, TX11, 17, rfl⟩
theorem kL_116 : LkV RL 116 mX12_mend 2 11 := ⟨lkBX12_mend, wT_i 1226 (by decide +kernel) rfl, wT_i 1227 (by decide +kernel) rfl, wT_i 1228 (by decide +kernel) rfl, TX12, 40, rfl⟩
theorem kL_117 : LkV RL 117 mX11_first 4 10 := ⟨lkBX11_first, wT_i 725 (by decide +kernel) rfl, wT_i 726 (by decide +kernel) rfl, wT_i 727 (by decide +kernel) rfl, TX11, 17, rfl⟩
theorem kL_120 : LkV RL 120 mX12_first 4 11 := ⟨lkBX12_first, wT_i 1238 (by decide +kernel) rfl, wT_i 1239 (by decide +kernel) rfl, wT_i 1240 (by decide +kernel) rfl, TX12, 40, rfl⟩
theorem kL_121 : LkV RL 121 mX11_trench 3 10 := ⟨lkBX11_trench, wT_i 743 (by decide +kernel) rfl, wT_i 744 (by decide +kernel) rfl, wT_i 745 (by decide +kernel) rfl, TX11, 17, rfl⟩
theorem kL_124 : LkV RL 124 mX12_trench 3 11 := ⟨lkBX12_trench, wT_i 1249 (by decide +kernel) rfl, wT_i 1250 (by decide +kernel) rfl, wT_i 1251 (by decide +kernel) rfl, TX12, 40, rfl⟩
theorem kL_125 : LkV RL 125 mX11_heap 1 10 := ⟨lkBX11_heap, wT_i 748 (by decide +kernel) rfl, wT_i 749 (by decide +kernel) rfl, wT_i 750 (by decide +kernel) rfl, TX11, 17, rfl⟩
theorem kL_128 : LkV RL 128 mX12_heap 1 11 := ⟨lkBX12_heap, wT_i 1253 (by decide +kernel) rfl, wT_i 1254 (by decide +kernel) rfl, wT_i 1255 (by decide +kernel) rfl, TX12, 40, rfl⟩
theorem kL_129 : LkV RL 129 mX11_fits 2 10 := ⟨lkBX11_fits, wT_i 756 (by decide +kernel) rfl, wT_i 757 (by decide +kernel) rfl, wT_i 758 (by decide +kernel) rfl, TX11, 17, rfl⟩
theorem kL_132 : LkV RL 132 mX12_fits 2 11 := ⟨lkBX12_fits, wT_i 1257 (by decide +kernel) rfl, wT_i 1258 (by decide +kernel) rfl, wT_i 1259 (by decide +kernel) rfl, TX12, 40, rfl⟩
theorem kL_133 : LkV RL 133 mX11_gaps 3 10 := ⟨lkBX11_gaps, wT_i 773 (by decide +kernel) rfl, wT_i 774 (by decide +kernel) rfl, wT_i 775 (by decide +kernel) rfl, TX11, 17, rfl⟩
theorem kL_136 : LkV RL 136 mX12_gaps 3 11 := ⟨lkBX12_gaps, wT_i 1265 (by decide +kernel) rfl, wT_i 1266 (by decide +kernel) rfl, wT_i 1267 (by decide +kernel) rfl, TX12, 40, rfl⟩
theorem kL_137 : LkV RL 137 mX11_shake 3 10 := ⟨lkBX11_shake, wT_i 777 (by decide +kernel) rfl, wT_i 778 (by decide +kernel) rfl, wT_i 779 (by decide +kernel) rfl, TX11, 17, rfl⟩
theorem kL_140 : LkV RL 140 mX12_shake 3 11 := ⟨lkBX12_shake, wT_i 1269 (by decide +kernel) rfl, wT_i 1270 (by decide +kernel) rfl, wT_i 1271 (by decide +kernel) rfl, TX12, 40, rfl⟩
theorem kL_141 : LkV RL 141 mX11_worst 1 10 := ⟨lkBX11_worst, wT_i 802 (by decide +kernel) rfl, wT_i 803 (by decide +kernel) rfl, wT_i 804 (by decide +kernel) rfl, TX11, 17, rfl⟩
theorem kL_144 : LkV RL 144 mX12_worst 1 11 := ⟨lkBX12_worst, wT_i 1288 (by decide +kernel) rfl, wT_i 1289 (by decide +kernel) rfl, wT_i 1290 (by decide +kernel) rfl, TX12, 40, rfl⟩
theorem kL_145 : LkV RL 145 mX11_image 0 10 := ⟨lkBX11_image, wT_i 806 (by decide +kernel) rfl, wT_i 807 (by decide +kernel) rfl, wT_i 808 (by decide +kernel) rfl, TX11, 17, rfl⟩
theorem kL_148 : LkV RL 148 mX12_image 0 11 := ⟨lkBX12_image, wT_i 1292 (by decide +kernel) rfl, wT_i 1293 (by decide +kernel) rfl, wT_i 1294 (by decide +kernel) rfl, TX12, 40, rfl⟩
theorem kL_149 : LkV RL 149 mX11_restore 0 10 := ⟨lkBX11_restore, wT_i 810 (by decide +kernel) rfl, wT_i 811 (by decide +kernel) rfl, wT_i 812 (by decide +kernel) rfl, TX11, 17, rfl⟩
theorem kL_152 : LkV RL 152 mX12_restore 0 11 := ⟨lkBX12_restore, wT_i 1296 (by decide +kernel) rfl, wT_i 1297 (by decide +kernel) rfl, wT_i 1298 (by decide +kernel) rfl, TX12, 40, rfl⟩
theorem kL_153 : LkV RL 153 mX11_count 1 10 := ⟨lkBX11_count, wT_i 814 (by decide +kernel) rfl, wT_i 815 (by decide +kernel) rfl, wT_i 816 (by decide +kernel) rfl, TX11, 17, rfl⟩
theorem kL_156 : LkV RL 156 mX12_count 1 11 := ⟨lkBX12_count, wT_i 1300 (by decide +kernel) rfl, wT_i 1301 (by decide +kernel) rfl, wT_i 1302 (by decide +kernel) rfl, TX12, 40, rfl⟩
theorem kL_157 : LkV RL 157 mX11_digest 0 10 := ⟨lkBX11_digest, wT_i 818 (by decide +kernel) rfl, wT_i 819 (by decide +kernel) rfl, wT_i 820 (by decide +kernel) rfl, TX11, 17, rfl⟩
theorem kL_161 : LkV RL 161 mX12_digest 0 11 := ⟨lkBX12_digest, wT_i 1308 (by decide +kernel) rfl, wT_i 1309 (by decide +kernel) rfl, wT_i 1310 (by decide +kernel) rfl, TX12, 40, rfl⟩
theorem kX12_78 : LkS RX12 78 mX12_within 3 := ⟨lkBX12_within, wT_i 971 (by decide +kernel) rfl, wT_i 972 (by decide +kernel) rfl⟩
theorem kX12_95 : LkS RX12 95 mX12_kindBy 1 := ⟨lkBX12_kindBy, wT_i 982 (by decide +kernel) rfl, wT_i 983 (by decide +kernel) rfl⟩
theorem kX12_99 : LkV RX12 99 mX12_takeStreet 1 11 := ⟨lkBX12_takeStreet, wT_i 978 (by decide +kernel) rfl, wT_i 980 (by decide +kernel) rfl, wT_p (q := (yX12_takeStreet, 40)) 27 (by decide +kernel), TX12, 40, rfl⟩
theorem kX12_112 : LkS RX12 112 mX12_isDigit 1 := ⟨lkBX12_isDigit, wT_i 993 (by decide +kernel) rfl, wT_i 994 (by decide +kernel) rfl⟩
theorem kX12_115 : LkV RX12 115 mX12_nextCart 2 11 := ⟨lkBX12_nextCart, wT_i 989 (by decide +kernel) rfl, wT_i 991 (by decide +kernel) rfl, wT_p (q := (yX12_nextCart, 40)) 29 (by decide +kernel), TX12, 40, rfl⟩
theorem kX12_119 : LkV RX12 119 mX12_readStreet 0 11 := ⟨lkBX12_readStreet, wT_i 974 (by decide +kernel) rfl, wT_i 976 (by decide +kernel) rfl, wT_p (q := (yX12_readStreet, 40)) 26 (by decide +kernel), TX12, 40, rfl⟩
theorem kX12_122 : LkV RX12 122 mX12_readCarts 0 11 := ⟨lkBX12_readCarts, wT_i 985 (by decide +kernel) rfl, wT_i 987 (by decide +kernel) rfl, wT_p (q := (yX12_readCarts, 40)) 28 (by decide +kernel), TX12, 40, rfl⟩
theorem kX12_137 : LkV RX12 137 mX12_cartNow 2 11 := ⟨lkBX12_cartNow, wT_i 1008 (by decide +kernel) rfl, wT_i 1010 (by decide +kernel) rfl, wT_p (q := (yX12_cartNow, 40)) 30 (by decide +kernel), TX12, 40, rfl⟩
theorem kX12_140 : LkV RX12 140 mX12_cells 0 11 := ⟨lkBX12_cells, wT_i 1020 (by decide +kernel) rfl, wT_i 1022 (by decide +kernel) rfl, wT_p (q := (yX12_cells, 40)) 32 (by decide +kernel), TX12, 40, rfl⟩
theorem kX12_144 : LkV RX12 144 mX12_isCell 1 11 := ⟨lkBX12_isCell, wT_i 1016 (by decide +kernel) rfl, wT_i 1018 (by decide +kernel) rfl, wT_p (q := (yX12_isCell, 40)) 31 (by decide +kernel), TX12, 40, rfl⟩
theorem kX12_147 : LkV RX12 147 mX12_beside 2 11 := ⟨lkBX12_beside, wT_i 1032 (by decide +kernel) rfl, wT_i 1034 (by decide +kernel) rfl, wT_p (q := (yX12_beside, 40)) 35 (by decide +kernel), TX12, 40, rfl⟩
theorem kX12_150 : LkV RX12 150 mX12_grip 1 11 := ⟨lkBX12_grip, wT_i 1036 (by decide +kernel) rfl, wT_i 1038 (by decide +kernel) rfl, wT_p (q := (yX12_grip, 40)) 36 (by decide +kernel), TX12, 40, rfl⟩
theorem kX12_153 : LkV RX12 153 mX12_hold 1 11 := ⟨lkBX12_hold, wT_i 1028 (by decide +kernel) rfl, wT_i 1030 (by decide +kernel) rfl, wT_p (q := (yX12_hold, 40)) 34 (by decide +kernel), TX12, 40, rfl⟩
theorem kX12_156 : LkV RX12 156 mX12_cellNow 2 11 := ⟨lkBX12_cellNow, wT_i 1024 (by decide +kernel) rfl, wT_i 1026 (by decide +kernel) rfl, wT_p (q := (yX12_cellNow, 40)) 33 (by decide +kernel), TX12, 40, rfl⟩
theorem kX12_159 : LkV RX12 159 mX12_stoneMany 0 11 := ⟨lkBX12_stoneMany, wT_i 1048 (by decide +kernel) rfl, wT_i 1050 (by decide +kernel) rfl, wT_p (q := (yX12_stoneMany, 40)) 37 (by decide +kernel), TX12, 40, rfl⟩
theorem kX12_162 : LkV RX12 162 mX12_sinks 2 11 := ⟨lkBX12_sinks, wT_i 1071 (by decide +kernel) rfl, wT_i 1073 (by decide +kernel) rfl, wT_p (q := (yX12_sinks, 40)) 40 (by decide +kernel), TX12, 40, rfl⟩
theorem kX12_165 : LkV RX12 165 mX12_isStone 1 11 := ⟨lkBX12_isStone, wT_i 1060 (by decide +kernel) rfl, wT_i 1062 (by decide +kernel) rfl, wT_p (q := (yX12_isStone, 40)) 38 (by decide +kernel), TX12, 40, rfl⟩
theorem kX12_168 : LkS RX12 168 mX12_isWeight 1 := ⟨lkBX12_isWeight, wT_i 1064 (by decide +kernel) rfl, wT_i 1065 (by decide +kernel) rfl⟩
theorem kX12_171 : LkV RX12 171 mX12_goBlow 2 11 := ⟨lkBX12_goBlow, wT_i 1067 (by decide +kernel) rfl, wT_i 1069 (by decide +kernel) rfl, wT_p (q := (yX12_goBlow, 40)) 39 (by decide +kernel), TX12, 40, rfl⟩
theorem kX12_174 : LkV RX12 174 mX12_byOrder 2 11 := ⟨lkBX12_byOrder, wT_i 1086 (by decide +kernel) rfl, wT_i 1088 (by decide +kernel) rfl, wT_p (q := (yX12_byOrder, 40)) 42 (by decide +kernel), TX12, 40, rfl⟩
theorem kX12_177 : LkS RX12 177 mX12_isOrder 1 := ⟨lkBX12_isOrder, wT_i 1079 (by decide +kernel) rfl, wT_i 1080 (by decide +kernel) rfl⟩
theorem kX12_180 : LkV RX12 180 mX12_goRounds 3 11 := ⟨lkBX12_goRounds, wT_i 1082 (by decide +kernel) rfl, wT_i 1084 (by decide +kernel) rfl, wT_p (q := (yX12_goRounds, 40)) 41 (by decide +kernel), TX12, 40, rfl⟩
theorem kX12_184 : LkV RX12 184 mX12_ringing 1 11 := ⟨lkBX12_ringing, wT_i 1094 (by decide +kernel) rfl, wT_i 1096 (by decide +kernel) rfl, wT_p (q := (yX12_ringing, 40)) 43 (by decide +kernel), TX12, 40, rfl⟩
theorem kX12_190 : LkV RX12 190 mX12_save 0 11 := ⟨lkBX12_save, wT_i 1102 (by decide +kernel) rfl, wT_i 1104 (by decide +kernel) rfl, wT_p (q := (yX12_save, 40)) 44 (by decide +kernel), TX12, 40, rfl⟩
theorem kX12_193 : LkV RX12 193 mX12_back 0 11 := ⟨lkBX12_back, wT_i 1106 (by decide +kernel) rfl, wT_i 1108 (by decide +kernel) rfl, wT_p (q := (yX12_back, 40)) 45 (by decide +kernel), TX12, 40, rfl⟩
theorem kX12_198 : LkV RX12 198 mX12_unevenNow 0 11 := ⟨lkBX12_unevenNow, wT_i 1118 (by decide +kernel) rfl, wT_i 1120 (by decide +kernel) rfl, wT_p (q := (yX12_unevenNow, 40)) 46 (by decide +kernel), TX12, 40, rfl⟩
theorem kX12_201 : LkV RX12 201 mX12_bearSecond 3 11 := ⟨lkBX12_bearSecond, wT_i 1147 (by decide +kernel) rfl, wT_i 1149 (by decide +kernel) rfl, wT_p (q := (yX12_bearSecond, 40)) 50 (by decide +kernel), TX12, 40, rfl⟩
theorem kX12_205 : LkV RX12 205 mX12_clearWear 0 11 := ⟨lkBX12_clearWear, wT_i 1139 (by decide +kernel) rfl, wT_i 1141 (by decide +kernel) rfl, wT_p (q := (yX12_clearWear, 40)) 48 (by decide +kernel), TX12, 40, rfl⟩
theorem kX12_208 : LkV RX12 208 mX12_bear 2 11 := ⟨lkBX12_bear, wT_i 1143 (by decide +kernel) rfl, wT_i 1145 (by decide +kernel) rfl, wT_p (q := (yX12_bear, 40)) 49 (by decide +kernel), TX12, 40, rfl⟩
theorem kX12_212 : LkS RX12 212 mX12_isLoad 1 := ⟨lkBX12_isLoad, wT_i 1132 (by decide +kernel) rfl, wT_i 1133 (by decide +kernel) rfl⟩
theorem kX12_215 : LkV RX12 215 mX12_layLoad 2 11 := ⟨lkBX12_layLoad, wT_i 1135 (by decide +kernel) rfl, wT_i 1137 (by decide +kernel) rfl, wT_p (q := (yX12_layLoad, 40)) 47 (by decide +kernel), TX12, 40, rfl⟩
theorem kX12_218 : LkV RX12 218 mX12_isRim 1 11 := ⟨lkBX12_isRim, wT_i 1163 (by decide +kernel) rfl, wT_i 1165 (by decide +kernel) rfl, wT_p (q := (yX12_isRim, 40)) 52 (by decide +kernel), TX12, 40, rfl⟩
theorem kX12_221 : LkV RX12 221 mX12_layWater 0 11 := ⟨lkBX12_layWater, wT_i 1159 (by decide +kernel) rfl, wT_i 1161 (by decide +kernel) rfl, wT_p (q := (yX12_layWater, 40)) 51 (by decide +kernel), TX12, 40, rfl⟩
theorem kX12_234 : LkS RX12 234 mX12_atLeast 1 := ⟨lkBX12_atLeast, wT_i 1202 (by decide +kernel) rfl, wT_i 1203 (by decide +kernel) rfl⟩
theorem kX12_237 : LkV RX12 237 mX12_draw 0 11 := ⟨lkBX12_draw, wT_i 1205 (by decide +kernel) rfl, wT_i 1207 (by decide +kernel) rfl, wT_p (q := (yX12_draw, 40)) 59 (by decide +kernel), TX12, 40, rfl⟩
theorem kX12_240 : LkV RX12 240 mX12_layWear 0 11 := ⟨lkBX12_layWear, wT_i 1190 (by decide +kernel) rfl, wT_i 1192 (by decide +kernel) rfl, wT_p (q := (yX12_layWear, 40)) 56 (by decide +kernel), TX12, 40, rfl⟩
theorem kX12_243 : LkV RX12 243 mX12_worsen 1 11 := ⟨lkBX12_worsen, wT_i 1194 (by decide +kernel) rfl, wT_i 1196 (by decide +kernel) rfl, wT_p (q := (yX12_worsen, 40)) 57 (by decide +kernel), TX12, 40, rfl⟩
theorem kX12_246 : LkV RX12 246 mX12_freeze 2 11 := ⟨lkBX12_freeze, wT_i 1198 (by decide +kernel) rfl, wT_i 1200 (by decide +kernel) rfl, wT_p (q := (yX12_freeze, 40)) 58 (by decide +kernel), TX12, 40, rfl⟩
theorem kX12_249 : LkV RX12 249 mX12_isBesideSand 1 11 := ⟨lkBX12_isBesideSand, wT_i 1214 (by decide +kernel) rfl, wT_i 1216 (by decide +kernel) rfl, wT_p (q := (yX12_isBesideSand, 40)) 60 (by decide +kernel), TX12, 40, rfl⟩
theorem kX12_252 : LkV RX12 252 mX12_goYear 1 11 := ⟨lkBX12_goYear, wT_i 1186 (by decide +kernel) rfl, wT_i 1188 (by decide +kernel) rfl, wT_p (q := (yX12_goYear, 40)) 55 (by decide +kernel), TX12, 40, rfl⟩
theorem kX12_255 : LkV RX12 255 mX12_isReady 0 11 := ⟨lkBX12_isReady, wT_i 1175 (by decide +kernel) rfl, wT_i 1177 (by decide +kernel) rfl, wT_p (q := (yX12_isReady, 40)) 53 (by decide +kernel), TX12, 40, rfl⟩
theorem kX12_259 : LkS RX12 259 mX12_areYears 2 := ⟨lkBX12_areYears, wT_i 1179 (by decide +kernel) rfl, wT_i 1180 (by decide +kernel) rfl⟩
theorem kX12_263 : LkV RX12 263 mX12_goYears 2 11 := ⟨lkBX12_goYears, wT_i 1182 (by decide +kernel) rfl, wT_i 1184 (by decide +kernel) rfl, wT_p (q := (yX12_goYears, 40)) 54 (by decide +kernel), TX12, 40, rfl⟩
theorem kX12_266 : LkV RX12 266 mX12_wouldNow 2 11 := ⟨lkBX12_wouldNow, wT_i 1222 (by decide +kernel) rfl, wT_i 1224 (by decide +kernel) rfl, wT_p (q := (yX12_wouldNow, 40)) 61 (by decide +kernel), TX12, 40, rfl⟩
theorem kX12_269 : LkV RX12 269 mX12_canMend 1 11 := ⟨lkBX12_canMend, wT_i 1230 (by decide +kernel) rfl, wT_i 1232 (by decide +kernel) rfl, wT_p (q := (yX12_canMend, 40)) 62 (by decide +kernel), TX12, 40, rfl⟩
theorem kX12_272 : LkV RX12 272 mX12_goMend 2 11 := ⟨lkBX12_goMend, wT_i 1234 (by decide +kernel) rfl, wT_i 1236 (by decide +kernel) rfl, wT_p (q := (yX12_goMend, 40)) 63 (by decide +kernel), TX12, 40, rfl⟩
theorem kX12_278 : LkV RX12 278 mX12_layMends 0 11 := ⟨lkBX12_layMends, wT_i 1242 (by decide +kernel) rfl, wT_i 1244 (by decide +kernel) rfl, wT_p (q := (yX12_layMends, 40)) 64 (by decide +kernel), TX12, 40, rfl⟩
theorem kX12_284 : LkS RX12 284 mX12_ones 1 := ⟨lkBX12_ones, wT_i 1246 (by decide +kernel) rfl, wT_i 1247 (by decide +kernel) rfl⟩
theorem kX12_290 : LkV RX12 290 mX12_wide 1 11 := ⟨lkBX12_wide, wT_i 1261 (by decide +kernel) rfl, wT_i 1263 (by decide +kernel) rfl, wT_p (q := (yX12_wide, 40)) 65 (by decide +kernel), TX12, 40, rfl⟩
theorem kX12_293 : LkV RX12 293 mX12_steps 1 11 := ⟨lkBX12_steps, wT_i 1277 (by decide +kernel) rfl, wT_i 1279 (by decide +kernel) rfl, wT_p (q := (yX12_steps, 40)) 67 (by decide +kernel), TX12, 40, rfl⟩
theorem kX12_296 : LkV RX12 296 mX12_isRow 1 11 := ⟨lkBX12_isRow, wT_i 1273 (by decide +kernel) rfl, wT_i 1275 (by decide +kernel) rfl, wT_p (q := (yX12_isRow, 40)) 66 (by decide +kernel), TX12, 40, rfl⟩
theorem kX12_299 : LkV RX12 299 mX12_shaken 2 11 := ⟨lkBX12_shaken, wT_i 1281 (by decide +kernel) rfl, wT_i 1283 (by decide +kernel) rfl, wT_p (q := (yX12_shaken, 40)) 68 (by decide +kernel), TX12, 40, rfl⟩
theorem kX12_302 : LkS RX12 302 mX12_lowest 3 := ⟨lkBX12_lowest, wT_i 1285 (by decide +kernel) rfl, wT_i 1286 (by decide +kernel) rfl⟩
theorem kX12_314 : LkV RX12 314 mX12_howMany 1 11 := ⟨lkBX12_howMany, wT_i 1304 (by decide +kernel) rfl, wT_i 1306 (by decide +kernel) rfl, wT_p (q := (yX12_howMany, 40)) 69 (by decide +kernel), TX12, 40, rfl⟩
theorem kX12_322 : LkV RX12 322 mX12_mix 1 11 := ⟨lkBX12_mix, wT_i 1317 (by decide +kernel) rfl, wT_i 1319 (by decide +kernel) rfl, wT_p (q := (yX12_mix, 40)) 71 (by decide +kernel), TX12, 40, rfl⟩
theorem kX12_328 : LkV RX12 328 mX12_mixStreet 0 11 := ⟨lkBX12_mixStreet, wT_i 1313 (by decide +kernel) rfl, wT_i 1315 (by decide +kernel) rfl, wT_p (q := (yX12_mixStreet, 40)) 70 (by decide +kernel), TX12, 40, rfl⟩
theorem kX4_33 : LkN RX4 33 mX11_quotient 2 "RammedCobbles" := ⟨lkBX11_quotient, wT_i 793 (by decide +kernel) rfl, wT_i 514 (by decide +kernel) rfl⟩
theorem kX7_58 : LkN RX7 58 mX11_quotient 2 "RammedCobbles" := ⟨lkBX11_quotient, wT_i 513 (by decide +kernel) rfl, wT_i 514 (by decide +kernel) rfl⟩
theorem mt_max : Cond.static Lib.Math.max.name ∈ wTb ∧ Cond.initialized "java/lang/Math" ∈ wTb ∧ Cond.code Lib.Math.max.name Lib.Math.max.code 2 (some .int) ∈ wTb := ⟨wT_i 585 (by decide +kernel) rfl, wT_i 14 (by decide +kernel) rfl, wT_i 586 (by decide +kernel) rfl⟩
theorem mt_min : Cond.static Lib.Math.min.name ∈ wTb ∧ Cond.initialized "java/lang/Math" ∈ wTb ∧ Cond.code Lib.Math.min.name Lib.Math.min.code 2 (some .int) ∈ wTb := ⟨wT_i 521 (by decide +kernel) rfl, wT_i 14 (by decide +kernel) rfl, wT_i 522 (by decide +kernel) rfl⟩
theorem mt_abs : Cond.static Lib.Math.abs.name ∈ wTb ∧ Cond.initialized "java/lang/Math" ∈ wTb ∧ Cond.code Lib.Math.abs.name Lib.Math.abs.code 1 (some .int) ∈ wTb := ⟨wT_i 796 (by decide +kernel) rfl, wT_i 14 (by decide +kernel) rfl, wT_i 797 (by decide +kernel) rfl⟩
theorem cX11_218 : Cond.constant RX11 218 (2147483647) ∈ wTb := wT_i 591 (by decide +kernel) rfl
theorem cX7_73 : Cond.constant RX7 73 (2147483647) ∈ wTb := wT_i 582 (by decide +kernel) rfl
theorem cX7_74 : Cond.constant RX7 74 (-2147483648) ∈ wTb := wT_i 583 (by decide +kernel) rfl
theorem cX7_88 : Cond.constant RX7 88 (65536) ∈ wTb := wT_i 697 (by decide +kernel) rfl
theorem cX9_34 : Cond.constant RX9 34 (2147483647) ∈ wTb := wT_i 629 (by decide +kernel) rfl
theorem cX12_196 : Cond.constant RX12 196 (268435456) ∈ wTb := wT_i 1122 (by decide +kernel) rfl
theorem cX12_197 : Cond.constant RX12 197 (-268435456) ∈ wTb := wT_i 1123 (by decide +kernel) rfl
theorem cJ6_264 : Cond.constant RJ6 264 (65536) ∈ wTb := wT_i 767 (by decide +kernel) rfl
theorem cJ6_265 : Cond.constant RJ6 265 (1431655765) ∈ wTb := wT_i 736 (by decide +kernel) rfl
theorem cJ6_266 : Cond.constant RJ6 266 (858993459) ∈ wTb := wT_i 737 (by decide +kernel) rfl
theorem cJ6_267 : Cond.constant RJ6 267 (252645135) ∈ wTb := wT_i 738 (by decide +kernel) rfl
theorem cX11_306 : Cond.constantLong RX11 306 (509) ∈ wTb := wT_i 822 (by decide +kernel) rfl
theorem cX11_312 : Cond.constantLong RX11 312 (31) ∈ wTb := wT_i 827 (by decide +kernel) rfl
theorem cX7_82 : Cond.constantLong RX7 82 (1103515245) ∈ wTb := wT_i 694 (by decide +kernel) rfl
theorem cX7_84 : Cond.constantLong RX7 84 (12345) ∈ wTb := wT_i 695 (by decide +kernel) rfl
theorem cX7_86 : Cond.constantLong RX7 86 (2147483647) ∈ wTb := wT_i 696 (by decide +kernel) rfl
theorem cL_13 : Cond.constantLong RL 13 (4294967295) ∈ wTb := wT_i 1322 (by decide +kernel) rfl
theorem cX12_72 : Cond.constantLong RX12 72 (255) ∈ wTb := wT_i 962 (by decide +kernel) rfl
theorem cX12_224 : Cond.constantLong RX12 224 (1103515245) ∈ wTb := wT_i 1209 (by decide +kernel) rfl
theorem cX12_226 : Cond.constantLong RX12 226 (12345) ∈ wTb := wT_i 1210 (by decide +kernel) rfl
theorem cX12_228 : Cond.constantLong RX12 228 (2147483647) ∈ wTb := wT_i 1211 (by decide +kernel) rfl
theorem cX12_230 : Cond.constantLong RX12 230 (65536) ∈ wTb := wT_i 1212 (by decide +kernel) rfl
theorem cX12_232 : Cond.constantLong RX12 232 (10) ∈ wTb := wT_i 1213 (by decide +kernel) rfl
theorem cX12_317 : Cond.constantLong RX12 317 (31) ∈ wTb := wT_i 1321 (by decide +kernel) rfl
theorem cX12_326 : Cond.constantLong RX12 326 (509) ∈ wTb := wT_i 1312 (by decide +kernel) rfl
end
