/-! the class is made (written by gen_inits.py) -/
theorem lkBX11_init : LkB mX11_init 0 := ⟨wT_i 20 (by decide +kernel) rfl, wT_i 1 (by decide +kernel) rfl, ⟨by decide +kernel, by decide +kernel⟩, by decide +kernel⟩
theorem koX11_3 : Cond.methodLink RX11 3 Lib.objectInit ∈ wTb := wT_i 21 (by decide +kernel) rfl
theorem lcX11_9 : LkC RX11 9 3 2 [.null, .int 0] := ⟨RX3, TX3, tyX3, rfl, inTX3, tyX3_ok, wT_i 24 (by decide +kernel) rfl, wT_i 25 (by decide +kernel) rfl, wT_i 2 (by decide +kernel) rfl, by decide +kernel⟩
theorem kiX11_11 : LkJ RX11 11 mX3_init 0 "RammedCobbles" := ⟨lkBX3_init, wT_i 26 (by decide +kernel) rfl, wT_i 27 (by decide +kernel) rfl, rfl, rfl⟩
theorem fdX11_12 : FD RX11 12 10 0 (.object "RammedCobbles$Page") := ⟨RX11, TX11, 17, tyX11, rfl, inTX11, tyX11_ok, nmX11, by decide, wT_i 263 (by decide +kernel) rfl, rfl, rfl, rfl⟩
theorem lcX11_16 : LkC RX11 16 7 7 [.null, .null, .int 0, .int 0, .int 0, .int 0, .int 0] := ⟨RX8, TX8, tyX8, rfl, inTX8, tyX8_ok, wT_i 42 (by decide +kernel) rfl, wT_i 43 (by decide +kernel) rfl, wT_i 4 (by decide +kernel) rfl, by decide +kernel⟩
theorem kiX11_18 : LkJ RX11 18 mX8_init 0 "RammedCobbles" := ⟨lkBX8_init, wT_i 44 (by decide +kernel) rfl, wT_i 45 (by decide +kernel) rfl, rfl, rfl⟩
theorem fdX11_19 : FD RX11 19 10 1 (.object "RammedCobbles$StreetText") := ⟨RX11, TX11, 17, tyX11, rfl, inTX11, tyX11_ok, nmX11, by decide, wT_i 264 (by decide +kernel) rfl, rfl, rfl, rfl⟩
theorem lcX11_23 : LkC RX11 23 0 4 [.null, .null, .int 0, .int 0] := ⟨RX0, TX0, tyX0, rfl, inTX0, tyX0_ok, wT_i 77 (by decide +kernel) rfl, wT_i 78 (by decide +kernel) rfl, wT_i 5 (by decide +kernel) rfl, by decide +kernel⟩
theorem kiX11_25 : LkJ RX11 25 mX0_init 0 "RammedCobbles" := ⟨lkBX0_init, wT_i 79 (by decide +kernel) rfl, wT_i 80 (by decide +kernel) rfl, rfl, rfl⟩
theorem fdX11_26 : FD RX11 26 10 2 (.object "RammedCobbles$CartText") := ⟨RX11, TX11, 17, tyX11, rfl, inTX11, tyX11_ok, nmX11, by decide, wT_i 265 (by decide +kernel) rfl, rfl, rfl, rfl⟩
theorem fdX11_30 : FD RX11 30 10 3 (.object "RammedCobbles$CartText") := ⟨RX11, TX11, 17, tyX11, rfl, inTX11, tyX11_ok, nmX11, by decide, wT_i 266 (by decide +kernel) rfl, rfl, rfl, rfl⟩
theorem lcX11_33 : LkC RX11 33 4 5 [.null, .null, .int 0, .int 0, .int 0] := ⟨RX4, TX4, tyX4, rfl, inTX4, tyX4_ok, wT_i 102 (by decide +kernel) rfl, wT_i 103 (by decide +kernel) rfl, wT_i 6 (by decide +kernel) rfl, by decide +kernel⟩
theorem kiX11_35 : LkJ RX11 35 mX4_init 0 "RammedCobbles" := ⟨lkBX4_init, wT_i 104 (by decide +kernel) rfl, wT_i 105 (by decide +kernel) rfl, rfl, rfl⟩
theorem fdX11_36 : FD RX11 36 10 4 (.object "RammedCobbles$Plan") := ⟨RX11, TX11, 17, tyX11, rfl, inTX11, tyX11_ok, nmX11, by decide, wT_i 267 (by decide +kernel) rfl, rfl, rfl, rfl⟩
theorem lcX11_40 : LkC RX11 40 6 8 [.null, .null, .null, .null, .null, .null, .int 0, .int 0] := ⟨RX7, TX7, tyX7, rfl, inTX7, tyX7_ok, wT_i 136 (by decide +kernel) rfl, wT_i 137 (by decide +kernel) rfl, wT_i 7 (by decide +kernel) rfl, by decide +kernel⟩
theorem kiX11_42 : LkI RX11 42 mX7_init 1 := ⟨lkBX7_init, wT_i 138 (by decide +kernel) rfl, wT_i 139 (by decide +kernel) rfl, rfl, rfl⟩
theorem fdX11_45 : FD RX11 45 10 5 (.object "RammedCobbles$Street") := ⟨RX11, TX11, 17, tyX11, rfl, inTX11, tyX11_ok, nmX11, by decide, wT_i 268 (by decide +kernel) rfl, rfl, rfl, rfl⟩
theorem fdX11_49 : FD RX11 49 10 6 (.object "RammedCobbles$Street") := ⟨RX11, TX11, 17, tyX11, rfl, inTX11, tyX11_ok, nmX11, by decide, wT_i 269 (by decide +kernel) rfl, rfl, rfl, rfl⟩
theorem fdX11_52 : FD RX11 52 10 7 (.object "RammedCobbles$Street") := ⟨RX11, TX11, 17, tyX11, rfl, inTX11, tyX11_ok, nmX11, by decide, wT_i 270 (by decide +kernel) rfl, rfl, rfl, rfl⟩
theorem lcX11_55 : LkC RX11 55 5 2 [.null, .null] := ⟨RX5, TX5, tyX5, rfl, inTX5, tyX5_ok, wT_i 174 (by decide +kernel) rfl, wT_i 175 (by decide +kernel) rfl, wT_i 8 (by decide +kernel) rfl, by decide +kernel⟩
theorem kiX11_57 : LkI RX11 57 mX5_init 1 := ⟨lkBX5_init, wT_i 176 (by decide +kernel) rfl, wT_i 177 (by decide +kernel) rfl, rfl, rfl⟩
theorem fdX11_58 : FD RX11 58 10 8 (.object "RammedCobbles$Ramming") := ⟨RX11, TX11, 17, tyX11, rfl, inTX11, tyX11_ok, nmX11, by decide, wT_i 271 (by decide +kernel) rfl, rfl, rfl, rfl⟩
theorem lcX11_62 : LkC RX11 62 2 3 [.null, .null, .null] := ⟨RX2, TX2, tyX2, rfl, inTX2, tyX2_ok, wT_i 187 (by decide +kernel) rfl, wT_i 188 (by decide +kernel) rfl, wT_i 9 (by decide +kernel) rfl, by decide +kernel⟩
theorem kiX11_64 : LkI RX11 64 mX2_init 1 := ⟨lkBX2_init, wT_i 189 (by decide +kernel) rfl, wT_i 190 (by decide +kernel) rfl, rfl, rfl⟩
theorem fdX11_65 : FD RX11 65 10 9 (.object "RammedCobbles$Loads") := ⟨RX11, TX11, 17, tyX11, rfl, inTX11, tyX11_ok, nmX11, by decide, wT_i 272 (by decide +kernel) rfl, rfl, rfl, rfl⟩
theorem lcX11_69 : LkC RX11 69 8 2 [.null, .null] := ⟨RX9, TX9, tyX9, rfl, inTX9, tyX9_ok, wT_i 205 (by decide +kernel) rfl, wT_i 206 (by decide +kernel) rfl, wT_i 10 (by decide +kernel) rfl, by decide +kernel⟩
theorem kiX11_71 : LkI RX11 71 mX9_init 1 := ⟨lkBX9_init, wT_i 207 (by decide +kernel) rfl, wT_i 208 (by decide +kernel) rfl, rfl, rfl⟩
theorem fdX11_72 : FD RX11 72 10 10 (.object "RammedCobbles$Water") := ⟨RX11, TX11, 17, tyX11, rfl, inTX11, tyX11_ok, nmX11, by decide, wT_i 273 (by decide +kernel) rfl, rfl, rfl, rfl⟩
theorem lcX11_76 : LkC RX11 76 9 4 [.null, .null, .null, .null] := ⟨RX10, TX10, tyX10, rfl, inTX10, tyX10_ok, wT_i 218 (by decide +kernel) rfl, wT_i 219 (by decide +kernel) rfl, wT_i 11 (by decide +kernel) rfl, by decide +kernel⟩
theorem kiX11_78 : LkI RX11 78 mX10_init 3 := ⟨lkBX10_init, wT_i 220 (by decide +kernel) rfl, wT_i 221 (by decide +kernel) rfl, rfl, rfl⟩
theorem fdX11_81 : FD RX11 81 10 11 (.object "RammedCobbles$Years") := ⟨RX11, TX11, 17, tyX11, rfl, inTX11, tyX11_ok, nmX11, by decide, wT_i 274 (by decide +kernel) rfl, rfl, rfl, rfl⟩
theorem lcX11_85 : LkC RX11 85 1 5 [.null, .null, .int 0, .int 0, .int 0] := ⟨RX1, TX1, tyX1, rfl, inTX1, tyX1_ok, wT_i 237 (by decide +kernel) rfl, wT_i 238 (by decide +kernel) rfl, wT_i 12 (by decide +kernel) rfl, by decide +kernel⟩
theorem kiX11_87 : LkJ RX11 87 mX1_init 0 "RammedCobbles" := ⟨lkBX1_init, wT_i 239 (by decide +kernel) rfl, wT_i 240 (by decide +kernel) rfl, rfl, rfl⟩
theorem fdX11_88 : FD RX11 88 10 12 (.object "RammedCobbles$Heap") := ⟨RX11, TX11, 17, tyX11, rfl, inTX11, tyX11_ok, nmX11, by decide, wT_i 275 (by decide +kernel) rfl, rfl, rfl, rfl⟩
theorem fdX11_92 : FD RX11 92 10 13 (.array .int) := ⟨RX11, TX11, 17, tyX11, rfl, inTX11, tyX11_ok, nmX11, by decide, wT_i 276 (by decide +kernel) rfl, rfl, rfl, rfl⟩
/-- the class, the reference, as they are made -/
def cM0 : Mm := (fun h => if h = 15 then (fun k => if k = 6 then 1 else 0) else if h = 21 then (fun k => if k = 6 then 1 else 0) else if h = 27 then (fun k => if k = 6 then 1 else 0) else if h = 0 then (fun k => if k = 15 then -1 else 0) else fun _ => 0, fun _ _ => 0)
set_option maxRecDepth 100000 in
set_option maxHeartbeats 4000000 in
theorem ob_X11_init {l : Launch} {dC : Nat → ClassId} {dI : Nat → Nat → Nat} {cA : Nat → ClassId} {h0 : Nat} : OkB dC dI cA l mX11_init [.ref h0] [(h0, .inr (10, [.null, .null, .null, .null, .null, .null, .null, .null, .null, .null, .null, .null, .null, .null, .int 0, .int 0, .int 0]))] 45 988 (fun ws => ∃ ad : Nat → Nat, ad 0 = h0 ∧ ws = wW GC cA ad cM0) := by
  refine okb_of (by decide +kernel) rfl rfl rfl ?_
  refine gb_aload0 1 rfl dX11_init_0 ?_
  refine gb_objInit 4 rfl koX11_3 oi_1 oi_2 dX11_init_1 ⟨rfl, rfl⟩ ?_
  refine gb_aload0 5 rfl dX11_init_4 ?_
  refine gb_new 8 1 2 rfl lcX11_9 dX11_init_5 rfl rfl ⟨rfl, rfl⟩ (fun q1 => ?_)
  refine gb_dup 9 rfl dX11_init_8 rfl ?_
  refine gb_callJ (As := []) 12 0 2 66 rfl kiX11_11 dX11_init_9 ⟨rfl, rfl⟩ ob_X3_init rfl rfl rfl rfl rfl rfl ⟨rfl, rfl⟩ (fun w1 hq => ?_)
  obtain ⟨q1a1, rfl⟩ := hq
  refine gb_putF (v := .ref q1) 15 [.ref q1, .null, .null, .null, .null, .null, .null, .null, .null, .null, .null, .null, .null, .null, .int 0, .int 0, .int 0] rfl fdX11_12 dX11_init_12 (by first | rfl | decide) (by first | rfl | decide) rfl rfl ?_
  refine gb_aload0 16 rfl dX11_init_15 ?_
  refine gb_new 19 3 73 rfl lcX11_16 dX11_init_16 rfl rfl ⟨rfl, rfl⟩ (fun q2 => ?_)
  refine gb_dup 20 rfl dX11_init_19 rfl ?_
  refine gb_callJ (As := []) 23 0 5 133 rfl kiX11_18 dX11_init_20 ⟨rfl, rfl⟩ ob_X8_init rfl rfl rfl rfl rfl rfl ⟨rfl, rfl⟩ (fun w1 hq => ?_)
  obtain ⟨q2a1, q2a2, rfl⟩ := hq
  refine gb_putF (v := .ref q2) 26 [.ref q1, .ref q2, .null, .null, .null, .null, .null, .null, .null, .null, .null, .null, .null, .null, .int 0, .int 0, .int 0] rfl fdX11_19 dX11_init_23 (by first | rfl | decide) (by first | rfl | decide) rfl rfl ?_
  refine gb_aload0 27 rfl dX11_init_26 ?_
  refine gb_new 30 6 137 rfl lcX11_23 dX11_init_27 rfl rfl ⟨rfl, rfl⟩ (fun q3 => ?_)
  refine gb_dup 31 rfl dX11_init_30 rfl ?_
  refine gb_callJ (As := []) 34 0 8 149 rfl kiX11_25 dX11_init_31 ⟨rfl, rfl⟩ ob_X0_init rfl rfl rfl rfl rfl rfl ⟨rfl, rfl⟩ (fun w1 hq => ?_)
  obtain ⟨q3a1, q3a2, rfl⟩ := hq
  refine gb_putF (v := .ref q3) 37 [.ref q1, .ref q2, .ref q3, .null, .null, .null, .null, .null, .null, .null, .null, .null, .null, .null, .int 0, .int 0, .int 0] rfl fdX11_26 dX11_init_34 (by first | rfl | decide) (by first | rfl | decide) rfl rfl ?_
  refine gb_aload0 38 rfl dX11_init_37 ?_
  refine gb_new 41 9 153 rfl lcX11_23 dX11_init_38 rfl rfl ⟨rfl, rfl⟩ (fun q4 => ?_)
  refine gb_dup 42 rfl dX11_init_41 rfl ?_
  refine gb_callJ (As := []) 45 0 11 165 rfl kiX11_25 dX11_init_42 ⟨rfl, rfl⟩ ob_X0_init rfl rfl rfl rfl rfl rfl ⟨rfl, rfl⟩ (fun w1 hq => ?_)
  obtain ⟨q4a1, q4a2, rfl⟩ := hq
  refine gb_putF (v := .ref q4) 48 [.ref q1, .ref q2, .ref q3, .ref q4, .null, .null, .null, .null, .null, .null, .null, .null, .null, .null, .int 0, .int 0, .int 0] rfl fdX11_30 dX11_init_45 (by first | rfl | decide) (by first | rfl | decide) rfl rfl ?_
  refine gb_aload0 49 rfl dX11_init_48 ?_
  refine gb_new 52 12 170 rfl lcX11_33 dX11_init_49 rfl rfl ⟨rfl, rfl⟩ (fun q5 => ?_)
  refine gb_dup 53 rfl dX11_init_52 rfl ?_
  refine gb_callJ (As := []) 56 0 14 320 rfl kiX11_35 dX11_init_53 ⟨rfl, rfl⟩ ob_X4_init rfl rfl rfl rfl rfl rfl ⟨rfl, rfl⟩ (fun w1 hq => ?_)
  obtain ⟨q5a1, q5a2, rfl⟩ := hq
  refine gb_putF (v := .ref q5) 59 [.ref q1, .ref q2, .ref q3, .ref q4, .ref q5, .null, .null, .null, .null, .null, .null, .null, .null, .null, .int 0, .int 0, .int 0] rfl fdX11_36 dX11_init_56 (by first | rfl | decide) (by first | rfl | decide) rfl rfl ?_
  refine gb_aload0 60 rfl dX11_init_59 ?_
  refine gb_new 63 15 328 rfl lcX11_40 dX11_init_60 rfl rfl ⟨rfl, rfl⟩ (fun q6 => ?_)
  refine gb_dup 64 rfl dX11_init_63 rfl ?_
  refine gb_aload0 65 rfl dX11_init_64 ?_
  refine gb_get (fs := [.ref q1, .ref q2, .ref q3, .ref q4, .ref q5, .null, .null, .null, .null, .null, .null, .null, .null, .null, .int 0, .int 0, .int 0]) (v := .ref q5) 68 rfl fX11_36 rfl rfl dX11_init_65 ?_
  refine gb_callI (As := [.ref q5]) 71 1 20 478 rfl kiX11_42 dX11_init_68 ⟨rfl, rfl⟩ ob_X7_init rfl rfl rfl rfl rfl rfl ⟨rfl, rfl⟩ (fun w1 hq => ?_)
  obtain ⟨q6a1, q6a2, q6a3, q6a4, q6a5, rfl⟩ := hq
  refine gb_putF (v := .ref q6) 74 [.ref q1, .ref q2, .ref q3, .ref q4, .ref q5, .ref q6, .null, .null, .null, .null, .null, .null, .null, .null, .int 0, .int 0, .int 0] rfl fdX11_45 dX11_init_71 (by first | rfl | decide) (by first | rfl | decide) rfl rfl ?_
  refine gb_aload0 75 rfl dX11_init_74 ?_
  refine gb_new 78 21 486 rfl lcX11_40 dX11_init_75 rfl rfl ⟨rfl, rfl⟩ (fun q7 => ?_)
  refine gb_dup 79 rfl dX11_init_78 rfl ?_
  refine gb_aload0 80 rfl dX11_init_79 ?_
  refine gb_get (fs := [.ref q1, .ref q2, .ref q3, .ref q4, .ref q5, .ref q6, .null, .null, .null, .null, .null, .null, .null, .null, .int 0, .int 0, .int 0]) (v := .ref q5) 83 rfl fX11_36 rfl rfl dX11_init_80 ?_
  refine gb_callI (As := [.ref q5]) 86 1 26 636 rfl kiX11_42 dX11_init_83 ⟨rfl, rfl⟩ ob_X7_init rfl rfl rfl rfl rfl rfl ⟨rfl, rfl⟩ (fun w1 hq => ?_)
  obtain ⟨q7a1, q7a2, q7a3, q7a4, q7a5, rfl⟩ := hq
  refine gb_putF (v := .ref q7) 89 [.ref q1, .ref q2, .ref q3, .ref q4, .ref q5, .ref q6, .ref q7, .null, .null, .null, .null, .null, .null, .null, .int 0, .int 0, .int 0] rfl fdX11_49 dX11_init_86 (by first | rfl | decide) (by first | rfl | decide) rfl rfl ?_
  refine gb_aload0 90 rfl dX11_init_89 ?_
  refine gb_new 93 27 644 rfl lcX11_40 dX11_init_90 rfl rfl ⟨rfl, rfl⟩ (fun q8 => ?_)
  refine gb_dup 94 rfl dX11_init_93 rfl ?_
  refine gb_aload0 95 rfl dX11_init_94 ?_
  refine gb_get (fs := [.ref q1, .ref q2, .ref q3, .ref q4, .ref q5, .ref q6, .ref q7, .null, .null, .null, .null, .null, .null, .null, .int 0, .int 0, .int 0]) (v := .ref q5) 98 rfl fX11_36 rfl rfl dX11_init_95 ?_
  refine gb_callI (As := [.ref q5]) 101 1 32 794 rfl kiX11_42 dX11_init_98 ⟨rfl, rfl⟩ ob_X7_init rfl rfl rfl rfl rfl rfl ⟨rfl, rfl⟩ (fun w1 hq => ?_)
  obtain ⟨q8a1, q8a2, q8a3, q8a4, q8a5, rfl⟩ := hq
  refine gb_putF (v := .ref q8) 104 [.ref q1, .ref q2, .ref q3, .ref q4, .ref q5, .ref q6, .ref q7, .ref q8, .null, .null, .null, .null, .null, .null, .int 0, .int 0, .int 0] rfl fdX11_52 dX11_init_101 (by first | rfl | decide) (by first | rfl | decide) rfl rfl ?_
  refine gb_aload0 105 rfl dX11_init_104 ?_
  refine gb_new 108 33 796 rfl lcX11_55 dX11_init_105 rfl rfl ⟨rfl, rfl⟩ (fun q9 => ?_)
  refine gb_dup 109 rfl dX11_init_108 rfl ?_
  refine gb_aload0 110 rfl dX11_init_109 ?_
  refine gb_get (fs := [.ref q1, .ref q2, .ref q3, .ref q4, .ref q5, .ref q6, .ref q7, .ref q8, .null, .null, .null, .null, .null, .null, .int 0, .int 0, .int 0]) (v := .ref q5) 113 rfl fX11_36 rfl rfl dX11_init_110 ?_
  refine gb_callI (As := [.ref q5]) 116 1 34 826 rfl kiX11_57 dX11_init_113 ⟨rfl, rfl⟩ ob_X5_init rfl rfl rfl rfl rfl rfl ⟨rfl, rfl⟩ (fun w1 hq => ?_)
  obtain ⟨q9a1, rfl⟩ := hq
  refine gb_putF (v := .ref q9) 119 [.ref q1, .ref q2, .ref q3, .ref q4, .ref q5, .ref q6, .ref q7, .ref q8, .ref q9, .null, .null, .null, .null, .null, .int 0, .int 0, .int 0] rfl fdX11_58 dX11_init_116 (by first | rfl | decide) (by first | rfl | decide) rfl rfl ?_
  refine gb_aload0 120 rfl dX11_init_119 ?_
  refine gb_new 123 35 829 rfl lcX11_62 dX11_init_120 rfl rfl ⟨rfl, rfl⟩ (fun q10 => ?_)
  refine gb_dup 124 rfl dX11_init_123 rfl ?_
  refine gb_aload0 125 rfl dX11_init_124 ?_
  refine gb_get (fs := [.ref q1, .ref q2, .ref q3, .ref q4, .ref q5, .ref q6, .ref q7, .ref q8, .ref q9, .null, .null, .null, .null, .null, .int 0, .int 0, .int 0]) (v := .ref q5) 128 rfl fX11_36 rfl rfl dX11_init_125 ?_
  refine gb_callI (As := [.ref q5]) 131 1 37 889 rfl kiX11_64 dX11_init_128 ⟨rfl, rfl⟩ ob_X2_init rfl rfl rfl rfl rfl rfl ⟨rfl, rfl⟩ (fun w1 hq => ?_)
  obtain ⟨q10a1, q10a2, rfl⟩ := hq
  refine gb_putF (v := .ref q10) 134 [.ref q1, .ref q2, .ref q3, .ref q4, .ref q5, .ref q6, .ref q7, .ref q8, .ref q9, .ref q10, .null, .null, .null, .null, .int 0, .int 0, .int 0] rfl fdX11_65 dX11_init_131 (by first | rfl | decide) (by first | rfl | decide) rfl rfl ?_
  refine gb_aload0 135 rfl dX11_init_134 ?_
  refine gb_new 138 38 891 rfl lcX11_69 dX11_init_135 rfl rfl ⟨rfl, rfl⟩ (fun q11 => ?_)
  refine gb_dup 139 rfl dX11_init_138 rfl ?_
  refine gb_aload0 140 rfl dX11_init_139 ?_
  refine gb_get (fs := [.ref q1, .ref q2, .ref q3, .ref q4, .ref q5, .ref q6, .ref q7, .ref q8, .ref q9, .ref q10, .null, .null, .null, .null, .int 0, .int 0, .int 0]) (v := .ref q5) 143 rfl fX11_36 rfl rfl dX11_init_140 ?_
  refine gb_callI (As := [.ref q5]) 146 1 39 921 rfl kiX11_71 dX11_init_143 ⟨rfl, rfl⟩ ob_X9_init rfl rfl rfl rfl rfl rfl ⟨rfl, rfl⟩ (fun w1 hq => ?_)
  obtain ⟨q11a1, rfl⟩ := hq
  refine gb_putF (v := .ref q11) 149 [.ref q1, .ref q2, .ref q3, .ref q4, .ref q5, .ref q6, .ref q7, .ref q8, .ref q9, .ref q10, .ref q11, .null, .null, .null, .int 0, .int 0, .int 0] rfl fdX11_72 dX11_init_146 (by first | rfl | decide) (by first | rfl | decide) rfl rfl ?_
  refine gb_aload0 150 rfl dX11_init_149 ?_
  refine gb_new 153 40 925 rfl lcX11_76 dX11_init_150 rfl rfl ⟨rfl, rfl⟩ (fun q12 => ?_)
  refine gb_dup 154 rfl dX11_init_153 rfl ?_
  refine gb_aload0 155 rfl dX11_init_154 ?_
  refine gb_get (fs := [.ref q1, .ref q2, .ref q3, .ref q4, .ref q5, .ref q6, .ref q7, .ref q8, .ref q9, .ref q10, .ref q11, .null, .null, .null, .int 0, .int 0, .int 0]) (v := .ref q5) 158 rfl fX11_36 rfl rfl dX11_init_155 ?_
  refine gb_aload0 159 rfl dX11_init_158 ?_
  refine gb_get (fs := [.ref q1, .ref q2, .ref q3, .ref q4, .ref q5, .ref q6, .ref q7, .ref q8, .ref q9, .ref q10, .ref q11, .null, .null, .null, .int 0, .int 0, .int 0]) (v := .ref q10) 162 rfl fX11_65 rfl rfl dX11_init_159 ?_
  refine gb_aload0 163 rfl dX11_init_162 ?_
  refine gb_get (fs := [.ref q1, .ref q2, .ref q3, .ref q4, .ref q5, .ref q6, .ref q7, .ref q8, .ref q9, .ref q10, .ref q11, .null, .null, .null, .int 0, .int 0, .int 0]) (v := .ref q11) 166 rfl fX11_72 rfl rfl dX11_init_163 ?_
  refine gb_callI (As := [.ref q5, .ref q10, .ref q11]) 169 3 41 955 rfl kiX11_78 dX11_init_166 ⟨rfl, rfl⟩ ob_X10_init rfl rfl rfl rfl rfl rfl ⟨rfl, rfl⟩ (fun w1 hq => ?_)
  obtain ⟨q12a1, rfl⟩ := hq
  refine gb_putF (v := .ref q12) 172 [.ref q1, .ref q2, .ref q3, .ref q4, .ref q5, .ref q6, .ref q7, .ref q8, .ref q9, .ref q10, .ref q11, .ref q12, .null, .null, .int 0, .int 0, .int 0] rfl fdX11_81 dX11_init_169 (by first | rfl | decide) (by first | rfl | decide) rfl rfl ?_
  refine gb_aload0 173 rfl dX11_init_172 ?_
  refine gb_new 176 42 960 rfl lcX11_85 dX11_init_173 rfl rfl ⟨rfl, rfl⟩ (fun q13 => ?_)
  refine gb_dup 177 rfl dX11_init_176 rfl ?_
  refine gb_callJ (As := []) 180 0 44 980 rfl kiX11_87 dX11_init_177 ⟨rfl, rfl⟩ ob_X1_init rfl rfl rfl rfl rfl rfl ⟨rfl, rfl⟩ (fun w1 hq => ?_)
  obtain ⟨q13a1, q13a2, rfl⟩ := hq
  refine gb_putF (v := .ref q13) 183 [.ref q1, .ref q2, .ref q3, .ref q4, .ref q5, .ref q6, .ref q7, .ref q8, .ref q9, .ref q10, .ref q11, .ref q12, .ref q13, .null, .int 0, .int 0, .int 0] rfl fdX11_88 dX11_init_180 (by first | rfl | decide) (by first | rfl | decide) rfl rfl ?_
  refine gb_aload0 184 rfl dX11_init_183 ?_
  refine gb_bipush 186 rfl (v := 8) dX11_init_184 (by decide) ?_
  refine gb_newa (atype := .int) (t := 0) (N := 8) (ty := .int) 188 45 988 rfl ar_int rfl (fun _ => rfl) (fun _ _ h => h) rfl (by decide) (by decide) (by decide) dX11_init_186 rfl rfl ⟨rfl, rfl⟩ (fun q14 => ?_)
  refine gb_putF (v := .ref q14) 191 [.ref q1, .ref q2, .ref q3, .ref q4, .ref q5, .ref q6, .ref q7, .ref q8, .ref q9, .ref q10, .ref q11, .ref q12, .ref q13, .ref q14, .int 0, .int 0, .int 0] rfl fdX11_92 dX11_init_188 (by first | rfl | decide) (by first | rfl | decide) rfl rfl ?_
  refine gb_aload0 192 rfl dX11_init_191 ?_
  refine gb_iconst 193 rfl (v := 0) dX11_init_192 (by decide) ?_
  refine gb_put (v := .int 0) 196 [.ref q1, .ref q2, .ref q3, .ref q4, .ref q5, .ref q6, .ref q7, .ref q8, .ref q9, .ref q10, .ref q11, .ref q12, .ref q13, .ref q14, .int 0, .int 0, .int 0] rfl fX11_96 dX11_init_193 (by first | rfl | decide) (by first | rfl | decide) rfl rfl ?_
  refine gb_aload0 197 rfl dX11_init_196 ?_
  refine gb_iconst 198 rfl (v := (-1)) dX11_init_197 (by decide) ?_
  refine gb_put (v := .int (-1)) 201 [.ref q1, .ref q2, .ref q3, .ref q4, .ref q5, .ref q6, .ref q7, .ref q8, .ref q9, .ref q10, .ref q11, .ref q12, .ref q13, .ref q14, .int 0, .int (-1), .int 0] rfl fX11_100 dX11_init_198 (by first | rfl | decide) (by first | rfl | decide) rfl rfl ?_
  refine gb_aload0 202 rfl dX11_init_201 ?_
  refine gb_iconst 203 rfl (v := 0) dX11_init_202 (by decide) ?_
  refine gb_put (v := .int 0) 206 [.ref q1, .ref q2, .ref q3, .ref q4, .ref q5, .ref q6, .ref q7, .ref q8, .ref q9, .ref q10, .ref q11, .ref q12, .ref q13, .ref q14, .int 0, .int (-1), .int 0] rfl fX11_103 dX11_init_203 (by first | rfl | decide) (by first | rfl | decide) rfl rfl ?_
  refine gb_vret rfl dX11_init_206 ?_
  exact ⟨fun h => ([h0, q1, q1a1, q2, q2a1, q2a2, q3, q3a1, q3a2, q4, q4a1, q4a2, q5, q5a1, q5a2, q6, q6a1, q6a2, q6a3, q6a4, q6a5, q7, q7a1, q7a2, q7a3, q7a4, q7a5, q8, q8a1, q8a2, q8a3, q8a4, q8a5, q9, q9a1, q10, q10a1, q10a2, q11, q11a1, q12, q12a1, q13, q13a1, q13a2, q14] : List Nat).getD h 0, rfl, by rw [wW_GC]; rfl⟩
