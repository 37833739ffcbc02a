/-! the reference is made (written by gen_inits.py) -/
theorem lkBX12_init : LkB mX12_init 0 := ⟨wT_i 834 (by decide +kernel) rfl, wT_i 13 (by decide +kernel) rfl, ⟨by decide +kernel, by decide +kernel⟩, by decide +kernel⟩
theorem koX12_1 : Cond.methodLink RX12 1 Lib.objectInit ∈ wTb := wT_i 835 (by decide +kernel) rfl
theorem fdX12_7 : FD RX12 7 11 3 (.array .int) := ⟨RX12, TX12, 40, tyX12, rfl, inTX12, tyX12_ok, nmX12, by decide, wT_i 839 (by decide +kernel) rfl, rfl, rfl, rfl⟩
theorem fdX12_13 : FD RX12 13 11 4 (.array .int) := ⟨RX12, TX12, 40, tyX12, rfl, inTX12, tyX12_ok, nmX12, by decide, wT_i 840 (by decide +kernel) rfl, rfl, rfl, rfl⟩
theorem fdX12_16 : FD RX12 16 11 5 (.array .int) := ⟨RX12, TX12, 40, tyX12, rfl, inTX12, tyX12_ok, nmX12, by decide, wT_i 841 (by decide +kernel) rfl, rfl, rfl, rfl⟩
theorem fdX12_19 : FD RX12 19 11 6 (.array .int) := ⟨RX12, TX12, 40, tyX12, rfl, inTX12, tyX12_ok, nmX12, by decide, wT_i 842 (by decide +kernel) rfl, rfl, rfl, rfl⟩
theorem fdX12_22 : FD RX12 22 11 7 (.array .int) := ⟨RX12, TX12, 40, tyX12, rfl, inTX12, tyX12_ok, nmX12, by decide, wT_i 843 (by decide +kernel) rfl, rfl, rfl, rfl⟩
theorem fdX12_29 : FD RX12 29 11 10 (.array .int) := ⟨RX12, TX12, 40, tyX12, rfl, inTX12, tyX12_ok, nmX12, by decide, wT_i 846 (by decide +kernel) rfl, rfl, rfl, rfl⟩
theorem fdX12_32 : FD RX12 32 11 11 (.array .int) := ⟨RX12, TX12, 40, tyX12, rfl, inTX12, tyX12_ok, nmX12, by decide, wT_i 847 (by decide +kernel) rfl, rfl, rfl, rfl⟩
theorem fdX12_35 : FD RX12 35 11 13 (.array .int) := ⟨RX12, TX12, 40, tyX12, rfl, inTX12, tyX12_ok, nmX12, by decide, wT_i 849 (by decide +kernel) rfl, rfl, rfl, rfl⟩
theorem fdX12_38 : FD RX12 38 11 16 (.array .byte) := ⟨RX12, TX12, 40, tyX12, rfl, inTX12, tyX12_ok, nmX12, by decide, wT_i 852 (by decide +kernel) rfl, rfl, rfl, rfl⟩
theorem fdX12_42 : FD RX12 42 11 20 (.array .int) := ⟨RX12, TX12, 40, tyX12, rfl, inTX12, tyX12_ok, nmX12, by decide, wT_i 856 (by decide +kernel) rfl, rfl, rfl, rfl⟩
theorem fdX12_45 : FD RX12 45 11 22 (.array .int) := ⟨RX12, TX12, 40, tyX12, rfl, inTX12, tyX12_ok, nmX12, by decide, wT_i 858 (by decide +kernel) rfl, rfl, rfl, rfl⟩
theorem fdX12_48 : FD RX12 48 11 29 (.array .int) := ⟨RX12, TX12, 40, tyX12, rfl, inTX12, tyX12_ok, nmX12, by decide, wT_i 865 (by decide +kernel) rfl, rfl, rfl, rfl⟩
theorem fdX12_51 : FD RX12 51 11 30 (.array .int) := ⟨RX12, TX12, 40, tyX12, rfl, inTX12, tyX12_ok, nmX12, by decide, wT_i 866 (by decide +kernel) rfl, rfl, rfl, rfl⟩
theorem fdX12_54 : FD RX12 54 11 32 (.array .int) := ⟨RX12, TX12, 40, tyX12, rfl, inTX12, tyX12_ok, nmX12, by decide, wT_i 868 (by decide +kernel) rfl, rfl, rfl, rfl⟩
theorem fdX12_57 : FD RX12 57 11 33 (.array .int) := ⟨RX12, TX12, 40, tyX12, rfl, inTX12, tyX12_ok, nmX12, by decide, wT_i 869 (by decide +kernel) rfl, rfl, rfl, rfl⟩
theorem fdX12_60 : FD RX12 60 11 34 (.array .int) := ⟨RX12, TX12, 40, tyX12, rfl, inTX12, tyX12_ok, nmX12, by decide, wT_i 870 (by decide +kernel) rfl, rfl, rfl, rfl⟩
theorem fdX12_63 : FD RX12 63 11 35 (.array .int) := ⟨RX12, TX12, 40, tyX12, rfl, inTX12, tyX12_ok, nmX12, by decide, wT_i 871 (by decide +kernel) rfl, rfl, rfl, rfl⟩
theorem fdX12_66 : FD RX12 66 11 36 (.array .int) := ⟨RX12, TX12, 40, tyX12, rfl, inTX12, tyX12_ok, nmX12, by decide, wT_i 872 (by decide +kernel) rfl, rfl, rfl, rfl⟩
theorem fdX12_69 : FD RX12 69 11 38 (.array .int) := ⟨RX12, TX12, 40, tyX12, rfl, inTX12, tyX12_ok, nmX12, by decide, wT_i 874 (by decide +kernel) rfl, rfl, rfl, rfl⟩
def mM0 : Mm := (fun _ _ => 0, fun h k => if h = 0 then (if k = 8 then 1 else 0) else 0)
set_option maxRecDepth 100000 in
set_option maxHeartbeats 4000000 in
theorem ob_X12_init {l : Launch} {dC : Nat → ClassId} {dI : Nat → Nat → Nat} {cA : Nat → ClassId} {h0 : Nat} : OkB dC dI cA l mX12_init [.ref h0] [(h0, .inr (11, [.int 0, .int 0, .int 0, .null, .null, .null, .null, .null, .long 0, .int 0, .null, .null, .int 0, .null, .int 0, .int 0, .null, .int 0, .int 0, .long 0, .null, .long 0, .null, .int 0, .int 0, .int 0, .int 0, .int 0, .int 0, .null, .null, .int 0, .null, .null, .null, .null, .null, .int 0, .null, .long 0]))] 19 706 (fun ws => ∃ ad : Nat → Nat, ad 0 = h0 ∧ ws = wW GM cA ad mM0) := by
  refine okb_of (by decide +kernel) rfl rfl rfl ?_
  refine gb_aload0 1 rfl dX12_init_0 ?_
  refine gb_objInit 4 rfl koX12_1 oi_1 oi_2 dX12_init_1 ⟨rfl, rfl⟩ ?_
  refine gb_aload0 5 rfl dX12_init_4 ?_
  refine gb_bipush 7 rfl (v := 30) dX12_init_5 (by decide) ?_
  refine gb_newa (atype := .int) (t := 0) (N := 30) (ty := .int) 9 1 30 rfl ar_int rfl (fun _ => rfl) (fun _ _ h => h) rfl (by decide) (by decide) (by decide) dX12_init_7 rfl rfl ⟨rfl, rfl⟩ (fun q1 => ?_)
  refine gb_putF (v := .ref q1) 12 [.int 0, .int 0, .int 0, .ref q1, .null, .null, .null, .null, .long 0, .int 0, .null, .null, .int 0, .null, .int 0, .int 0, .null, .int 0, .int 0, .long 0, .null, .long 0, .null, .int 0, .int 0, .int 0, .int 0, .int 0, .int 0, .null, .null, .int 0, .null, .null, .null, .null, .null, .int 0, .null, .long 0] rfl fdX12_7 dX12_init_9 (by first | rfl | decide) (by first | rfl | decide) rfl rfl ?_
  refine gb_aload0 13 rfl dX12_init_12 ?_
  refine gb_bipush 15 rfl (v := 30) dX12_init_13 (by decide) ?_
  refine gb_newa (atype := .int) (t := 0) (N := 30) (ty := .int) 17 2 60 rfl ar_int rfl (fun _ => rfl) (fun _ _ h => h) rfl (by decide) (by decide) (by decide) dX12_init_15 rfl rfl ⟨rfl, rfl⟩ (fun q2 => ?_)
  refine gb_putF (v := .ref q2) 20 [.int 0, .int 0, .int 0, .ref q1, .ref q2, .null, .null, .null, .long 0, .int 0, .null, .null, .int 0, .null, .int 0, .int 0, .null, .int 0, .int 0, .long 0, .null, .long 0, .null, .int 0, .int 0, .int 0, .int 0, .int 0, .int 0, .null, .null, .int 0, .null, .null, .null, .null, .null, .int 0, .null, .long 0] rfl fdX12_13 dX12_init_17 (by first | rfl | decide) (by first | rfl | decide) rfl rfl ?_
  refine gb_aload0 21 rfl dX12_init_20 ?_
  refine gb_bipush 23 rfl (v := 30) dX12_init_21 (by decide) ?_
  refine gb_newa (atype := .int) (t := 0) (N := 30) (ty := .int) 25 3 90 rfl ar_int rfl (fun _ => rfl) (fun _ _ h => h) rfl (by decide) (by decide) (by decide) dX12_init_23 rfl rfl ⟨rfl, rfl⟩ (fun q3 => ?_)
  refine gb_putF (v := .ref q3) 28 [.int 0, .int 0, .int 0, .ref q1, .ref q2, .ref q3, .null, .null, .long 0, .int 0, .null, .null, .int 0, .null, .int 0, .int 0, .null, .int 0, .int 0, .long 0, .null, .long 0, .null, .int 0, .int 0, .int 0, .int 0, .int 0, .int 0, .null, .null, .int 0, .null, .null, .null, .null, .null, .int 0, .null, .long 0] rfl fdX12_16 dX12_init_25 (by first | rfl | decide) (by first | rfl | decide) rfl rfl ?_
  refine gb_aload0 29 rfl dX12_init_28 ?_
  refine gb_bipush 31 rfl (v := 30) dX12_init_29 (by decide) ?_
  refine gb_newa (atype := .int) (t := 0) (N := 30) (ty := .int) 33 4 120 rfl ar_int rfl (fun _ => rfl) (fun _ _ h => h) rfl (by decide) (by decide) (by decide) dX12_init_31 rfl rfl ⟨rfl, rfl⟩ (fun q4 => ?_)
  refine gb_putF (v := .ref q4) 36 [.int 0, .int 0, .int 0, .ref q1, .ref q2, .ref q3, .ref q4, .null, .long 0, .int 0, .null, .null, .int 0, .null, .int 0, .int 0, .null, .int 0, .int 0, .long 0, .null, .long 0, .null, .int 0, .int 0, .int 0, .int 0, .int 0, .int 0, .null, .null, .int 0, .null, .null, .null, .null, .null, .int 0, .null, .long 0] rfl fdX12_19 dX12_init_33 (by first | rfl | decide) (by first | rfl | decide) rfl rfl ?_
  refine gb_aload0 37 rfl dX12_init_36 ?_
  refine gb_bipush 39 rfl (v := 30) dX12_init_37 (by decide) ?_
  refine gb_newa (atype := .int) (t := 0) (N := 30) (ty := .int) 41 5 150 rfl ar_int rfl (fun _ => rfl) (fun _ _ h => h) rfl (by decide) (by decide) (by decide) dX12_init_39 rfl rfl ⟨rfl, rfl⟩ (fun q5 => ?_)
  refine gb_putF (v := .ref q5) 44 [.int 0, .int 0, .int 0, .ref q1, .ref q2, .ref q3, .ref q4, .ref q5, .long 0, .int 0, .null, .null, .int 0, .null, .int 0, .int 0, .null, .int 0, .int 0, .long 0, .null, .long 0, .null, .int 0, .int 0, .int 0, .int 0, .int 0, .int 0, .null, .null, .int 0, .null, .null, .null, .null, .null, .int 0, .null, .long 0] rfl fdX12_22 dX12_init_41 (by first | rfl | decide) (by first | rfl | decide) rfl rfl ?_
  refine gb_aload0 45 rfl dX12_init_44 ?_
  refine gb_lconst 46 rfl (v := 1) dX12_init_45 (by decide) ?_
  refine gb_put (v := .long 1) 49 [.int 0, .int 0, .int 0, .ref q1, .ref q2, .ref q3, .ref q4, .ref q5, .long 1, .int 0, .null, .null, .int 0, .null, .int 0, .int 0, .null, .int 0, .int 0, .long 0, .null, .long 0, .null, .int 0, .int 0, .int 0, .int 0, .int 0, .int 0, .null, .null, .int 0, .null, .null, .null, .null, .null, .int 0, .null, .long 0] rfl fX12_25 dX12_init_46 (by first | rfl | decide) (by first | rfl | decide) rfl rfl ?_
  refine gb_aload0 50 rfl dX12_init_49 ?_
  refine gb_bipush 52 rfl (v := 6) dX12_init_50 (by decide) ?_
  refine gb_newa (atype := .int) (t := 0) (N := 6) (ty := .int) 54 6 156 rfl ar_int rfl (fun _ => rfl) (fun _ _ h => h) rfl (by decide) (by decide) (by decide) dX12_init_52 rfl rfl ⟨rfl, rfl⟩ (fun q6 => ?_)
  refine gb_putF (v := .ref q6) 57 [.int 0, .int 0, .int 0, .ref q1, .ref q2, .ref q3, .ref q4, .ref q5, .long 1, .int 0, .ref q6, .null, .int 0, .null, .int 0, .int 0, .null, .int 0, .int 0, .long 0, .null, .long 0, .null, .int 0, .int 0, .int 0, .int 0, .int 0, .int 0, .null, .null, .int 0, .null, .null, .null, .null, .null, .int 0, .null, .long 0] rfl fdX12_29 dX12_init_54 (by first | rfl | decide) (by first | rfl | decide) rfl rfl ?_
  refine gb_aload0 58 rfl dX12_init_57 ?_
  refine gb_bipush 60 rfl (v := 6) dX12_init_58 (by decide) ?_
  refine gb_newa (atype := .int) (t := 0) (N := 6) (ty := .int) 62 7 162 rfl ar_int rfl (fun _ => rfl) (fun _ _ h => h) rfl (by decide) (by decide) (by decide) dX12_init_60 rfl rfl ⟨rfl, rfl⟩ (fun q7 => ?_)
  refine gb_putF (v := .ref q7) 65 [.int 0, .int 0, .int 0, .ref q1, .ref q2, .ref q3, .ref q4, .ref q5, .long 1, .int 0, .ref q6, .ref q7, .int 0, .null, .int 0, .int 0, .null, .int 0, .int 0, .long 0, .null, .long 0, .null, .int 0, .int 0, .int 0, .int 0, .int 0, .int 0, .null, .null, .int 0, .null, .null, .null, .null, .null, .int 0, .null, .long 0] rfl fdX12_32 dX12_init_62 (by first | rfl | decide) (by first | rfl | decide) rfl rfl ?_
  refine gb_aload0 66 rfl dX12_init_65 ?_
  refine gb_bipush 68 rfl (v := 10) dX12_init_66 (by decide) ?_
  refine gb_newa (atype := .int) (t := 0) (N := 10) (ty := .int) 70 8 172 rfl ar_int rfl (fun _ => rfl) (fun _ _ h => h) rfl (by decide) (by decide) (by decide) dX12_init_68 rfl rfl ⟨rfl, rfl⟩ (fun q8 => ?_)
  refine gb_putF (v := .ref q8) 73 [.int 0, .int 0, .int 0, .ref q1, .ref q2, .ref q3, .ref q4, .ref q5, .long 1, .int 0, .ref q6, .ref q7, .int 0, .ref q8, .int 0, .int 0, .null, .int 0, .int 0, .long 0, .null, .long 0, .null, .int 0, .int 0, .int 0, .int 0, .int 0, .int 0, .null, .null, .int 0, .null, .null, .null, .null, .null, .int 0, .null, .long 0] rfl fdX12_35 dX12_init_70 (by first | rfl | decide) (by first | rfl | decide) rfl rfl ?_
  refine gb_aload0 74 rfl dX12_init_73 ?_
  refine gb_bipush 76 rfl (v := 64) dX12_init_74 (by decide) ?_
  refine gb_newa (atype := .byte) (t := 2) (N := 64) (ty := .byte) 78 9 236 rfl ar_byte rfl (fun _ => rfl) (fun _ _ h => h) rfl (by decide) (by decide) (by decide) dX12_init_76 rfl rfl ⟨rfl, rfl⟩ (fun q9 => ?_)
  refine gb_putF (v := .ref q9) 81 [.int 0, .int 0, .int 0, .ref q1, .ref q2, .ref q3, .ref q4, .ref q5, .long 1, .int 0, .ref q6, .ref q7, .int 0, .ref q8, .int 0, .int 0, .ref q9, .int 0, .int 0, .long 0, .null, .long 0, .null, .int 0, .int 0, .int 0, .int 0, .int 0, .int 0, .null, .null, .int 0, .null, .null, .null, .null, .null, .int 0, .null, .long 0] rfl fdX12_38 dX12_init_78 (by first | rfl | decide) (by first | rfl | decide) rfl rfl ?_
  refine gb_aload0 82 rfl dX12_init_81 ?_
  refine gb_sipush 85 rfl (v := 150) dX12_init_82 (by decide) ?_
  refine gb_newa (atype := .int) (t := 0) (N := 150) (ty := .int) 87 10 386 rfl ar_int rfl (fun _ => rfl) (fun _ _ h => h) rfl (by decide) (by decide) (by decide) dX12_init_85 rfl rfl ⟨rfl, rfl⟩ (fun q10 => ?_)
  refine gb_putF (v := .ref q10) 90 [.int 0, .int 0, .int 0, .ref q1, .ref q2, .ref q3, .ref q4, .ref q5, .long 1, .int 0, .ref q6, .ref q7, .int 0, .ref q8, .int 0, .int 0, .ref q9, .int 0, .int 0, .long 0, .ref q10, .long 0, .null, .int 0, .int 0, .int 0, .int 0, .int 0, .int 0, .null, .null, .int 0, .null, .null, .null, .null, .null, .int 0, .null, .long 0] rfl fdX12_42 dX12_init_87 (by first | rfl | decide) (by first | rfl | decide) rfl rfl ?_
  refine gb_aload0 91 rfl dX12_init_90 ?_
  refine gb_sipush 94 rfl (v := 150) dX12_init_91 (by decide) ?_
  refine gb_newa (atype := .int) (t := 0) (N := 150) (ty := .int) 96 11 536 rfl ar_int rfl (fun _ => rfl) (fun _ _ h => h) rfl (by decide) (by decide) (by decide) dX12_init_94 rfl rfl ⟨rfl, rfl⟩ (fun q11 => ?_)
  refine gb_putF (v := .ref q11) 99 [.int 0, .int 0, .int 0, .ref q1, .ref q2, .ref q3, .ref q4, .ref q5, .long 1, .int 0, .ref q6, .ref q7, .int 0, .ref q8, .int 0, .int 0, .ref q9, .int 0, .int 0, .long 0, .ref q10, .long 0, .ref q11, .int 0, .int 0, .int 0, .int 0, .int 0, .int 0, .null, .null, .int 0, .null, .null, .null, .null, .null, .int 0, .null, .long 0] rfl fdX12_45 dX12_init_96 (by first | rfl | decide) (by first | rfl | decide) rfl rfl ?_
  refine gb_aload0 100 rfl dX12_init_99 ?_
  refine gb_bipush 102 rfl (v := 30) dX12_init_100 (by decide) ?_
  refine gb_newa (atype := .int) (t := 0) (N := 30) (ty := .int) 104 12 566 rfl ar_int rfl (fun _ => rfl) (fun _ _ h => h) rfl (by decide) (by decide) (by decide) dX12_init_102 rfl rfl ⟨rfl, rfl⟩ (fun q12 => ?_)
  refine gb_putF (v := .ref q12) 107 [.int 0, .int 0, .int 0, .ref q1, .ref q2, .ref q3, .ref q4, .ref q5, .long 1, .int 0, .ref q6, .ref q7, .int 0, .ref q8, .int 0, .int 0, .ref q9, .int 0, .int 0, .long 0, .ref q10, .long 0, .ref q11, .int 0, .int 0, .int 0, .int 0, .int 0, .int 0, .ref q12, .null, .int 0, .null, .null, .null, .null, .null, .int 0, .null, .long 0] rfl fdX12_48 dX12_init_104 (by first | rfl | decide) (by first | rfl | decide) rfl rfl ?_
  refine gb_aload0 108 rfl dX12_init_107 ?_
  refine gb_bipush 110 rfl (v := 30) dX12_init_108 (by decide) ?_
  refine gb_newa (atype := .int) (t := 0) (N := 30) (ty := .int) 112 13 596 rfl ar_int rfl (fun _ => rfl) (fun _ _ h => h) rfl (by decide) (by decide) (by decide) dX12_init_110 rfl rfl ⟨rfl, rfl⟩ (fun q13 => ?_)
  refine gb_putF (v := .ref q13) 115 [.int 0, .int 0, .int 0, .ref q1, .ref q2, .ref q3, .ref q4, .ref q5, .long 1, .int 0, .ref q6, .ref q7, .int 0, .ref q8, .int 0, .int 0, .ref q9, .int 0, .int 0, .long 0, .ref q10, .long 0, .ref q11, .int 0, .int 0, .int 0, .int 0, .int 0, .int 0, .ref q12, .ref q13, .int 0, .null, .null, .null, .null, .null, .int 0, .null, .long 0] rfl fdX12_51 dX12_init_112 (by first | rfl | decide) (by first | rfl | decide) rfl rfl ?_
  refine gb_aload0 116 rfl dX12_init_115 ?_
  refine gb_bipush 118 rfl (v := 6) dX12_init_116 (by decide) ?_
  refine gb_newa (atype := .int) (t := 0) (N := 6) (ty := .int) 120 14 602 rfl ar_int rfl (fun _ => rfl) (fun _ _ h => h) rfl (by decide) (by decide) (by decide) dX12_init_118 rfl rfl ⟨rfl, rfl⟩ (fun q14 => ?_)
  refine gb_putF (v := .ref q14) 123 [.int 0, .int 0, .int 0, .ref q1, .ref q2, .ref q3, .ref q4, .ref q5, .long 1, .int 0, .ref q6, .ref q7, .int 0, .ref q8, .int 0, .int 0, .ref q9, .int 0, .int 0, .long 0, .ref q10, .long 0, .ref q11, .int 0, .int 0, .int 0, .int 0, .int 0, .int 0, .ref q12, .ref q13, .int 0, .ref q14, .null, .null, .null, .null, .int 0, .null, .long 0] rfl fdX12_54 dX12_init_120 (by first | rfl | decide) (by first | rfl | decide) rfl rfl ?_
  refine gb_aload0 124 rfl dX12_init_123 ?_
  refine gb_bipush 126 rfl (v := 6) dX12_init_124 (by decide) ?_
  refine gb_newa (atype := .int) (t := 0) (N := 6) (ty := .int) 128 15 608 rfl ar_int rfl (fun _ => rfl) (fun _ _ h => h) rfl (by decide) (by decide) (by decide) dX12_init_126 rfl rfl ⟨rfl, rfl⟩ (fun q15 => ?_)
  refine gb_putF (v := .ref q15) 131 [.int 0, .int 0, .int 0, .ref q1, .ref q2, .ref q3, .ref q4, .ref q5, .long 1, .int 0, .ref q6, .ref q7, .int 0, .ref q8, .int 0, .int 0, .ref q9, .int 0, .int 0, .long 0, .ref q10, .long 0, .ref q11, .int 0, .int 0, .int 0, .int 0, .int 0, .int 0, .ref q12, .ref q13, .int 0, .ref q14, .ref q15, .null, .null, .null, .int 0, .null, .long 0] rfl fdX12_57 dX12_init_128 (by first | rfl | decide) (by first | rfl | decide) rfl rfl ?_
  refine gb_aload0 132 rfl dX12_init_131 ?_
  refine gb_bipush 134 rfl (v := 30) dX12_init_132 (by decide) ?_
  refine gb_newa (atype := .int) (t := 0) (N := 30) (ty := .int) 136 16 638 rfl ar_int rfl (fun _ => rfl) (fun _ _ h => h) rfl (by decide) (by decide) (by decide) dX12_init_134 rfl rfl ⟨rfl, rfl⟩ (fun q16 => ?_)
  refine gb_putF (v := .ref q16) 139 [.int 0, .int 0, .int 0, .ref q1, .ref q2, .ref q3, .ref q4, .ref q5, .long 1, .int 0, .ref q6, .ref q7, .int 0, .ref q8, .int 0, .int 0, .ref q9, .int 0, .int 0, .long 0, .ref q10, .long 0, .ref q11, .int 0, .int 0, .int 0, .int 0, .int 0, .int 0, .ref q12, .ref q13, .int 0, .ref q14, .ref q15, .ref q16, .null, .null, .int 0, .null, .long 0] rfl fdX12_60 dX12_init_136 (by first | rfl | decide) (by first | rfl | decide) rfl rfl ?_
  refine gb_aload0 140 rfl dX12_init_139 ?_
  refine gb_bipush 142 rfl (v := 30) dX12_init_140 (by decide) ?_
  refine gb_newa (atype := .int) (t := 0) (N := 30) (ty := .int) 144 17 668 rfl ar_int rfl (fun _ => rfl) (fun _ _ h => h) rfl (by decide) (by decide) (by decide) dX12_init_142 rfl rfl ⟨rfl, rfl⟩ (fun q17 => ?_)
  refine gb_putF (v := .ref q17) 147 [.int 0, .int 0, .int 0, .ref q1, .ref q2, .ref q3, .ref q4, .ref q5, .long 1, .int 0, .ref q6, .ref q7, .int 0, .ref q8, .int 0, .int 0, .ref q9, .int 0, .int 0, .long 0, .ref q10, .long 0, .ref q11, .int 0, .int 0, .int 0, .int 0, .int 0, .int 0, .ref q12, .ref q13, .int 0, .ref q14, .ref q15, .ref q16, .ref q17, .null, .int 0, .null, .long 0] rfl fdX12_63 dX12_init_144 (by first | rfl | decide) (by first | rfl | decide) rfl rfl ?_
  refine gb_aload0 148 rfl dX12_init_147 ?_
  refine gb_bipush 150 rfl (v := 30) dX12_init_148 (by decide) ?_
  refine gb_newa (atype := .int) (t := 0) (N := 30) (ty := .int) 152 18 698 rfl ar_int rfl (fun _ => rfl) (fun _ _ h => h) rfl (by decide) (by decide) (by decide) dX12_init_150 rfl rfl ⟨rfl, rfl⟩ (fun q18 => ?_)
  refine gb_putF (v := .ref q18) 155 [.int 0, .int 0, .int 0, .ref q1, .ref q2, .ref q3, .ref q4, .ref q5, .long 1, .int 0, .ref q6, .ref q7, .int 0, .ref q8, .int 0, .int 0, .ref q9, .int 0, .int 0, .long 0, .ref q10, .long 0, .ref q11, .int 0, .int 0, .int 0, .int 0, .int 0, .int 0, .ref q12, .ref q13, .int 0, .ref q14, .ref q15, .ref q16, .ref q17, .ref q18, .int 0, .null, .long 0] rfl fdX12_66 dX12_init_152 (by first | rfl | decide) (by first | rfl | decide) rfl rfl ?_
  refine gb_aload0 156 rfl dX12_init_155 ?_
  refine gb_bipush 158 rfl (v := 8) dX12_init_156 (by decide) ?_
  refine gb_newa (atype := .int) (t := 0) (N := 8) (ty := .int) 160 19 706 rfl ar_int rfl (fun _ => rfl) (fun _ _ h => h) rfl (by decide) (by decide) (by decide) dX12_init_158 rfl rfl ⟨rfl, rfl⟩ (fun q19 => ?_)
  refine gb_putF (v := .ref q19) 163 [.int 0, .int 0, .int 0, .ref q1, .ref q2, .ref q3, .ref q4, .ref q5, .long 1, .int 0, .ref q6, .ref q7, .int 0, .ref q8, .int 0, .int 0, .ref q9, .int 0, .int 0, .long 0, .ref q10, .long 0, .ref q11, .int 0, .int 0, .int 0, .int 0, .int 0, .int 0, .ref q12, .ref q13, .int 0, .ref q14, .ref q15, .ref q16, .ref q17, .ref q18, .int 0, .ref q19, .long 0] rfl fdX12_69 dX12_init_160 (by first | rfl | decide) (by first | rfl | decide) rfl rfl ?_
  refine gb_vret rfl dX12_init_163 ?_
  exact ⟨fun h => ([h0, q1, q2, q3, q4, q5, q6, q7, q8, q9, q10, q11, q12, q13, q14, q15, q16, q17, q18, q19] : List Nat).getD h 0, rfl, by rw [wW_GM]; rfl⟩
