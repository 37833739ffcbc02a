/-! the constructors (written by gen_inits.py) -/
theorem oi_1 : Cond.instanceMethod Lib.objectInit ∈ wTb := wT_i 22 (by decide +kernel) rfl
theorem oi_2 : Cond.code Lib.objectInit ⟨#[0xb1]⟩ 1 none ∈ wTb := wT_i 23 (by decide +kernel) rfl
theorem ar_int : Cond.arrayClass .int ∈ wTb := wT_i 41 (by decide +kernel) rfl
theorem ar_boolean : Cond.arrayClass .boolean ∈ wTb := wT_i 135 (by decide +kernel) rfl
theorem ar_byte : Cond.arrayClass .byte ∈ wTb := wT_i 957 (by decide +kernel) rfl
set_option maxRecDepth 100000 in
set_option maxHeartbeats 4000000 in
theorem wW_GC {cA : Nat → ClassId} {ad : Nat → Nat} {M : Mm} : wW GC cA ad M = [(ad 0, .inr (10, [.ref (ad 1), .ref (ad 3), .ref (ad 6), .ref (ad 9), .ref (ad 12), .ref (ad 15), .ref (ad 21), .ref (ad 27), .ref (ad 33), .ref (ad 35), .ref (ad 38), .ref (ad 40), .ref (ad 42), .ref (ad 45), .int (M.1 0 14), .int (M.1 0 15), .int (M.1 0 16)])), (ad 1, .inr (3, [.ref (ad 2), .int (M.1 1 1)])), (ad 2, .inl (cA 0, 64, .inl (M.1 2))), (ad 3, .inr (7, [.ref (ad 4), .ref (ad 5), .int (M.1 3 2), .int (M.1 3 3), .int (M.1 3 4), .int (M.1 3 5), .int (M.1 3 6)])), (ad 4, .inl (cA 0, 30, .inl (M.1 4))), (ad 5, .inl (cA 0, 30, .inl (M.1 5))), (ad 6, .inr (0, [.ref (ad 7), .ref (ad 8), .int (M.1 6 2), .int (M.1 6 3)])), (ad 7, .inl (cA 0, 6, .inl (M.1 7))), (ad 8, .inl (cA 0, 6, .inl (M.1 8))), (ad 9, .inr (0, [.ref (ad 10), .ref (ad 11), .int (M.1 9 2), .int (M.1 9 3)])), (ad 10, .inl (cA 0, 6, .inl (M.1 10))), (ad 11, .inl (cA 0, 6, .inl (M.1 11))), (ad 12, .inr (4, [.ref (ad 13), .ref (ad 14), .int (M.1 12 2), .int (M.1 12 3), .int (M.1 12 4)])), (ad 13, .inl (cA 0, 120, .inl (M.1 13))), (ad 14, .inl (cA 1, 30, .inl (M.1 14))), (ad 15, .inr (6, [.ref (ad 12), .ref (ad 16), .ref (ad 17), .ref (ad 18), .ref (ad 19), .ref (ad 20), .int (M.1 15 6), .int (M.1 15 7)])), (ad 16, .inl (cA 0, 30, .inl (M.1 16))), (ad 17, .inl (cA 0, 30, .inl (M.1 17))), (ad 18, .inl (cA 0, 30, .inl (M.1 18))), (ad 19, .inl (cA 0, 30, .inl (M.1 19))), (ad 20, .inl (cA 0, 30, .inl (M.1 20))), (ad 21, .inr (6, [.ref (ad 12), .ref (ad 22), .ref (ad 23), .ref (ad 24), .ref (ad 25), .ref (ad 26), .int (M.1 21 6), .int (M.1 21 7)])), (ad 22, .inl (cA 0, 30, .inl (M.1 22))), (ad 23, .inl (cA 0, 30, .inl (M.1 23))), (ad 24, .inl (cA 0, 30, .inl (M.1 24))), (ad 25, .inl (cA 0, 30, .inl (M.1 25))), (ad 26, .inl (cA 0, 30, .inl (M.1 26))), (ad 27, .inr (6, [.ref (ad 12), .ref (ad 28), .ref (ad 29), .ref (ad 30), .ref (ad 31), .ref (ad 32), .int (M.1 27 6), .int (M.1 27 7)])), (ad 28, .inl (cA 0, 30, .inl (M.1 28))), (ad 29, .inl (cA 0, 30, .inl (M.1 29))), (ad 30, .inl (cA 0, 30, .inl (M.1 30))), (ad 31, .inl (cA 0, 30, .inl (M.1 31))), (ad 32, .inl (cA 0, 30, .inl (M.1 32))), (ad 33, .inr (5, [.ref (ad 12), .ref (ad 34)])), (ad 34, .inl (cA 0, 30, .inl (M.1 34))), (ad 35, .inr (2, [.ref (ad 12), .ref (ad 36), .ref (ad 37)])), (ad 36, .inl (cA 0, 30, .inl (M.1 36))), (ad 37, .inl (cA 0, 30, .inl (M.1 37))), (ad 38, .inr (8, [.ref (ad 12), .ref (ad 39)])), (ad 39, .inl (cA 0, 30, .inl (M.1 39))), (ad 40, .inr (9, [.ref (ad 12), .ref (ad 35), .ref (ad 38), .ref (ad 41)])), (ad 41, .inl (cA 1, 30, .inl (M.1 41))), (ad 42, .inr (1, [.ref (ad 43), .ref (ad 44), .int (M.1 42 2), .int (M.1 42 3), .int (M.1 42 4)])), (ad 43, .inl (cA 0, 10, .inl (M.1 43))), (ad 44, .inl (cA 0, 10, .inl (M.1 44))), (ad 45, .inl (cA 0, 8, .inl (M.1 45)))] := by
  simp only [wW, GC, List.mapIdx_cons, List.mapIdx_nil, cW, slV]
set_option maxRecDepth 100000 in
set_option maxHeartbeats 4000000 in
theorem wW_GM {cA : Nat → ClassId} {ad : Nat → Nat} {M : Mm} : wW GM cA ad M = [(ad 0, .inr (11, [.int (M.1 0 0), .int (M.1 0 1), .int (M.1 0 2), .ref (ad 1), .ref (ad 2), .ref (ad 3), .ref (ad 4), .ref (ad 5), .long (M.2 0 8), .int (M.1 0 9), .ref (ad 6), .ref (ad 7), .int (M.1 0 12), .ref (ad 8), .int (M.1 0 14), .int (M.1 0 15), .ref (ad 9), .int (M.1 0 17), .int (M.1 0 18), .long (M.2 0 19), .ref (ad 10), .long (M.2 0 21), .ref (ad 11), .int (M.1 0 23), .int (M.1 0 24), .int (M.1 0 25), .int (M.1 0 26), .int (M.1 0 27), .int (M.1 0 28), .ref (ad 12), .ref (ad 13), .int (M.1 0 31), .ref (ad 14), .ref (ad 15), .ref (ad 16), .ref (ad 17), .ref (ad 18), .int (M.1 0 37), .ref (ad 19), .long (M.2 0 39)])), (ad 1, .inl (cA 0, 30, .inl (M.1 1))), (ad 2, .inl (cA 0, 30, .inl (M.1 2))), (ad 3, .inl (cA 0, 30, .inl (M.1 3))), (ad 4, .inl (cA 0, 30, .inl (M.1 4))), (ad 5, .inl (cA 0, 30, .inl (M.1 5))), (ad 6, .inl (cA 0, 6, .inl (M.1 6))), (ad 7, .inl (cA 0, 6, .inl (M.1 7))), (ad 8, .inl (cA 0, 10, .inl (M.1 8))), (ad 9, .inl (cA 2, 64, .inl (M.1 9))), (ad 10, .inl (cA 0, 150, .inl (M.1 10))), (ad 11, .inl (cA 0, 150, .inl (M.1 11))), (ad 12, .inl (cA 0, 30, .inl (M.1 12))), (ad 13, .inl (cA 0, 30, .inl (M.1 13))), (ad 14, .inl (cA 0, 6, .inl (M.1 14))), (ad 15, .inl (cA 0, 6, .inl (M.1 15))), (ad 16, .inl (cA 0, 30, .inl (M.1 16))), (ad 17, .inl (cA 0, 30, .inl (M.1 17))), (ad 18, .inl (cA 0, 30, .inl (M.1 18))), (ad 19, .inl (cA 0, 8, .inl (M.1 19)))] := by
  simp only [wW, GM, List.mapIdx_cons, List.mapIdx_nil, cW, slV]
theorem lkBX6_init : LkB mX6_init 0 := ⟨wT_i 49 (by decide +kernel) rfl, wT_i 3 (by decide +kernel) rfl, ⟨by decide +kernel, by decide +kernel⟩, by decide +kernel⟩
theorem koX6_1 : Cond.methodLink RX6 1 Lib.objectInit ∈ wTb := wT_i 50 (by decide +kernel) rfl
theorem ob_X6_init {l : Launch} {dC : Nat → ClassId} {dI : Nat → Nat → Nat} {cA : Nat → ClassId} {h0 : Nat} : OkB dC dI cA l mX6_init [.ref h0] [] 0 0 (fun ws => ws = []) := by
  refine okb_of (by decide +kernel) rfl rfl rfl ?_
  refine gb_aload0 1 rfl dX6_init_0 ?_
  refine gb_objInit 4 rfl koX6_1 oi_1 oi_2 dX6_init_1 ⟨rfl, rfl⟩ ?_
  refine gb_vret rfl dX6_init_4 ?_
  exact rfl
theorem lkBX3_init : LkB mX3_init 0 := ⟨wT_i 28 (by decide +kernel) rfl, wT_i 2 (by decide +kernel) rfl, ⟨by decide +kernel, by decide +kernel⟩, by decide +kernel⟩
theorem koX3_3 : Cond.methodLink RX3 3 Lib.objectInit ∈ wTb := wT_i 29 (by decide +kernel) rfl
theorem fdX3_9 : FD RX3 9 3 0 (.array .int) := ⟨RX3, TX3, 2, tyX3, rfl, inTX3, tyX3_ok, nmX3, by decide, wT_i 30 (by decide +kernel) rfl, rfl, rfl, rfl⟩
theorem ob_X3_init {l : Launch} {dC : Nat → ClassId} {dI : Nat → Nat → Nat} {cA : Nat → ClassId} {h0 : Nat} : OkB dC dI cA l mX3_init [.ref h0] [(h0, .inr (3, [.null, .int 0]))] 1 64 (fun ws => ∃ q1 : Nat, ws = [(h0, .inr (3, [.ref q1, .int 0])), (q1, .inl (cA 0, 64, .inl (fun _ => 0)))]) := by
  refine okb_of (by decide +kernel) rfl rfl rfl ?_
  refine gb_aload0 1 rfl dX3_init_0 ?_
  refine gb_objInit 4 rfl koX3_3 oi_1 oi_2 dX3_init_1 ⟨rfl, rfl⟩ ?_
  refine gb_aload0 5 rfl dX3_init_4 ?_
  refine gb_bipush 7 rfl (v := 64) dX3_init_5 (by decide) ?_
  refine gb_newa (atype := .int) (t := 0) (N := 64) (ty := .int) 9 1 64 rfl ar_int rfl (fun _ => rfl) (fun _ _ h => h) rfl (by decide) (by decide) (by decide) dX3_init_7 rfl rfl ⟨rfl, rfl⟩ (fun q1 => ?_)
  refine gb_putF (v := .ref q1) 12 [.ref q1, .int 0] rfl fdX3_9 dX3_init_9 (by first | rfl | decide) (by first | rfl | decide) rfl rfl ?_
  refine gb_aload0 13 rfl dX3_init_12 ?_
  refine gb_iconst 14 rfl (v := 0) dX3_init_13 (by decide) ?_
  refine gb_put (v := .int 0) 17 [.ref q1, .int 0] rfl fX3_15 dX3_init_14 (by first | rfl | decide) (by first | rfl | decide) rfl rfl ?_
  refine gb_vret rfl dX3_init_17 ?_
  exact ⟨q1, rfl⟩
theorem lkBX8_init : LkB mX8_init 0 := ⟨wT_i 46 (by decide +kernel) rfl, wT_i 4 (by decide +kernel) rfl, ⟨by decide +kernel, by decide +kernel⟩, by decide +kernel⟩
theorem kiX8_3 : LkJ RX8 3 mX6_init 0 "RammedCobbles" := ⟨lkBX6_init, wT_i 47 (by decide +kernel) rfl, wT_i 48 (by decide +kernel) rfl, rfl, rfl⟩
theorem fdX8_9 : FD RX8 9 7 0 (.array .int) := ⟨RX8, TX8, 7, tyX8, rfl, inTX8, tyX8_ok, nmX8, by decide, wT_i 51 (by decide +kernel) rfl, rfl, rfl, rfl⟩
theorem fdX8_15 : FD RX8 15 7 1 (.array .int) := ⟨RX8, TX8, 7, tyX8, rfl, inTX8, tyX8_ok, nmX8, by decide, wT_i 53 (by decide +kernel) rfl, rfl, rfl, rfl⟩
theorem ob_X8_init {l : Launch} {dC : Nat → ClassId} {dI : Nat → Nat → Nat} {cA : Nat → ClassId} {h0 : Nat} : OkB dC dI cA l mX8_init [.ref h0] [(h0, .inr (7, [.null, .null, .int 0, .int 0, .int 0, .int 0, .int 0]))] 2 60 (fun ws => ∃ q1 q2 : Nat, ws = [(h0, .inr (7, [.ref q1, .ref q2, .int 0, .int 0, .int 0, .int 0, .int 0])), (q1, .inl (cA 0, 30, .inl (fun _ => 0))), (q2, .inl (cA 0, 30, .inl (fun _ => 0)))]) := by
  refine okb_of (by decide +kernel) rfl rfl rfl ?_
  refine gb_aload0 1 rfl dX8_init_0 ?_
  refine gb_callJ (wc := []) 4 0 0 0 rfl kiX8_3 dX8_init_1 ⟨rfl, rfl⟩ ob_X6_init (List.append_nil _).symm rfl rfl rfl rfl rfl ⟨rfl, rfl⟩ (fun w1 hq => ?_)
  subst hq
  rw [List.append_nil]
  refine gb_aload0 5 rfl dX8_init_4 ?_
  refine gb_bipush 7 rfl (v := 30) dX8_init_5 (by decide) ?_
  refine gb_newa (atype := .int) (t := 0) (N := 30) (ty := .int) 9 1 30 rfl ar_int rfl (fun _ => rfl) (fun _ _ h => h) rfl (by decide) (by decide) (by decide) dX8_init_7 rfl rfl ⟨rfl, rfl⟩ (fun q1 => ?_)
  refine gb_putF (v := .ref q1) 12 [.ref q1, .null, .int 0, .int 0, .int 0, .int 0, .int 0] rfl fdX8_9 dX8_init_9 (by first | rfl | decide) (by first | rfl | decide) rfl rfl ?_
  refine gb_aload0 13 rfl dX8_init_12 ?_
  refine gb_bipush 15 rfl (v := 30) dX8_init_13 (by decide) ?_
  refine gb_newa (atype := .int) (t := 0) (N := 30) (ty := .int) 17 2 60 rfl ar_int rfl (fun _ => rfl) (fun _ _ h => h) rfl (by decide) (by decide) (by decide) dX8_init_15 rfl rfl ⟨rfl, rfl⟩ (fun q2 => ?_)
  refine gb_putF (v := .ref q2) 20 [.ref q1, .ref q2, .int 0, .int 0, .int 0, .int 0, .int 0] rfl fdX8_15 dX8_init_17 (by first | rfl | decide) (by first | rfl | decide) rfl rfl ?_
  refine gb_aload0 21 rfl dX8_init_20 ?_
  refine gb_iconst 22 rfl (v := 0) dX8_init_21 (by decide) ?_
  refine gb_put (v := .int 0) 25 [.ref q1, .ref q2, .int 0, .int 0, .int 0, .int 0, .int 0] rfl fX8_18 dX8_init_22 (by first | rfl | decide) (by first | rfl | decide) rfl rfl ?_
  refine gb_aload0 26 rfl dX8_init_25 ?_
  refine gb_iconst 27 rfl (v := 0) dX8_init_26 (by decide) ?_
  refine gb_put (v := .int 0) 30 [.ref q1, .ref q2, .int 0, .int 0, .int 0, .int 0, .int 0] rfl fX8_22 dX8_init_27 (by first | rfl | decide) (by first | rfl | decide) rfl rfl ?_
  refine gb_aload0 31 rfl dX8_init_30 ?_
  refine gb_iconst 32 rfl (v := 0) dX8_init_31 (by decide) ?_
  refine gb_put (v := .int 0) 35 [.ref q1, .ref q2, .int 0, .int 0, .int 0, .int 0, .int 0] rfl fX8_25 dX8_init_32 (by first | rfl | decide) (by first | rfl | decide) rfl rfl ?_
  refine gb_aload0 36 rfl dX8_init_35 ?_
  refine gb_iconst 37 rfl (v := 0) dX8_init_36 (by decide) ?_
  refine gb_put (v := .int 0) 40 [.ref q1, .ref q2, .int 0, .int 0, .int 0, .int 0, .int 0] rfl fX8_28 dX8_init_37 (by first | rfl | decide) (by first | rfl | decide) rfl rfl ?_
  refine gb_aload0 41 rfl dX8_init_40 ?_
  refine gb_iconst 42 rfl (v := 0) dX8_init_41 (by decide) ?_
  refine gb_put (v := .int 0) 45 [.ref q1, .ref q2, .int 0, .int 0, .int 0, .int 0, .int 0] rfl fX8_31 dX8_init_42 (by first | rfl | decide) (by first | rfl | decide) rfl rfl ?_
  refine gb_vret rfl dX8_init_45 ?_
  exact ⟨q1, q2, rfl⟩
theorem lkBX0_init : LkB mX0_init 0 := ⟨wT_i 81 (by decide +kernel) rfl, wT_i 5 (by decide +kernel) rfl, ⟨by decide +kernel, by decide +kernel⟩, by decide +kernel⟩
theorem kiX0_3 : LkJ RX0 3 mX6_init 0 "RammedCobbles" := ⟨lkBX6_init, wT_i 82 (by decide +kernel) rfl, wT_i 48 (by decide +kernel) rfl, rfl, rfl⟩
theorem fdX0_9 : FD RX0 9 0 0 (.array .int) := ⟨RX0, TX0, 4, tyX0, rfl, inTX0, tyX0_ok, nmX0, by decide, wT_i 83 (by decide +kernel) rfl, rfl, rfl, rfl⟩
theorem fdX0_15 : FD RX0 15 0 1 (.array .int) := ⟨RX0, TX0, 4, tyX0, rfl, inTX0, tyX0_ok, nmX0, by decide, wT_i 86 (by decide +kernel) rfl, rfl, rfl, rfl⟩
theorem ob_X0_init {l : Launch} {dC : Nat → ClassId} {dI : Nat → Nat → Nat} {cA : Nat → ClassId} {h0 : Nat} : OkB dC dI cA l mX0_init [.ref h0] [(h0, .inr (0, [.null, .null, .int 0, .int 0]))] 2 12 (fun ws => ∃ q1 q2 : Nat, ws = [(h0, .inr (0, [.ref q1, .ref q2, .int 0, .int 0])), (q1, .inl (cA 0, 6, .inl (fun _ => 0))), (q2, .inl (cA 0, 6, .inl (fun _ => 0)))]) := by
  refine okb_of (by decide +kernel) rfl rfl rfl ?_
  refine gb_aload0 1 rfl dX0_init_0 ?_
  refine gb_callJ (wc := []) 4 0 0 0 rfl kiX0_3 dX0_init_1 ⟨rfl, rfl⟩ ob_X6_init (List.append_nil _).symm rfl rfl rfl rfl rfl ⟨rfl, rfl⟩ (fun w1 hq => ?_)
  subst hq
  rw [List.append_nil]
  refine gb_aload0 5 rfl dX0_init_4 ?_
  refine gb_bipush 7 rfl (v := 6) dX0_init_5 (by decide) ?_
  refine gb_newa (atype := .int) (t := 0) (N := 6) (ty := .int) 9 1 6 rfl ar_int rfl (fun _ => rfl) (fun _ _ h => h) rfl (by decide) (by decide) (by decide) dX0_init_7 rfl rfl ⟨rfl, rfl⟩ (fun q1 => ?_)
  refine gb_putF (v := .ref q1) 12 [.ref q1, .null, .int 0, .int 0] rfl fdX0_9 dX0_init_9 (by first | rfl | decide) (by first | rfl | decide) rfl rfl ?_
  refine gb_aload0 13 rfl dX0_init_12 ?_
  refine gb_bipush 15 rfl (v := 6) dX0_init_13 (by decide) ?_
  refine gb_newa (atype := .int) (t := 0) (N := 6) (ty := .int) 17 2 12 rfl ar_int rfl (fun _ => rfl) (fun _ _ h => h) rfl (by decide) (by decide) (by decide) dX0_init_15 rfl rfl ⟨rfl, rfl⟩ (fun q2 => ?_)
  refine gb_putF (v := .ref q2) 20 [.ref q1, .ref q2, .int 0, .int 0] rfl fdX0_15 dX0_init_17 (by first | rfl | decide) (by first | rfl | decide) rfl rfl ?_
  refine gb_aload0 21 rfl dX0_init_20 ?_
  refine gb_iconst 22 rfl (v := 0) dX0_init_21 (by decide) ?_
  refine gb_put (v := .int 0) 25 [.ref q1, .ref q2, .int 0, .int 0] rfl fX0_18 dX0_init_22 (by first | rfl | decide) (by first | rfl | decide) rfl rfl ?_
  refine gb_aload0 26 rfl dX0_init_25 ?_
  refine gb_iconst 27 rfl (v := 0) dX0_init_26 (by decide) ?_
  refine gb_put (v := .int 0) 30 [.ref q1, .ref q2, .int 0, .int 0] rfl fX0_22 dX0_init_27 (by first | rfl | decide) (by first | rfl | decide) rfl rfl ?_
  refine gb_vret rfl dX0_init_30 ?_
  exact ⟨q1, q2, rfl⟩
theorem lkBX4_init : LkB mX4_init 0 := ⟨wT_i 106 (by decide +kernel) rfl, wT_i 6 (by decide +kernel) rfl, ⟨by decide +kernel, by decide +kernel⟩, by decide +kernel⟩
theorem koX4_3 : Cond.methodLink RX4 3 Lib.objectInit ∈ wTb := wT_i 107 (by decide +kernel) rfl
theorem fdX4_9 : FD RX4 9 4 0 (.array .int) := ⟨RX4, TX4, 5, tyX4, rfl, inTX4, tyX4_ok, nmX4, by decide, wT_i 108 (by decide +kernel) rfl, rfl, rfl, rfl⟩
theorem fdX4_15 : FD RX4 15 4 1 (.array .boolean) := ⟨RX4, TX4, 5, tyX4, rfl, inTX4, tyX4_ok, nmX4, by decide, wT_i 109 (by decide +kernel) rfl, rfl, rfl, rfl⟩
theorem ob_X4_init {l : Launch} {dC : Nat → ClassId} {dI : Nat → Nat → Nat} {cA : Nat → ClassId} {h0 : Nat} : OkB dC dI cA l mX4_init [.ref h0] [(h0, .inr (4, [.null, .null, .int 0, .int 0, .int 0]))] 2 150 (fun ws => ∃ q1 q2 : Nat, ws = [(h0, .inr (4, [.ref q1, .ref q2, .int 0, .int 0, .int 0])), (q1, .inl (cA 0, 120, .inl (fun _ => 0))), (q2, .inl (cA 1, 30, .inl (fun _ => 0)))]) := by
  refine okb_of (by decide +kernel) rfl rfl rfl ?_
  refine gb_aload0 1 rfl dX4_init_0 ?_
  refine gb_objInit 4 rfl koX4_3 oi_1 oi_2 dX4_init_1 ⟨rfl, rfl⟩ ?_
  refine gb_aload0 5 rfl dX4_init_4 ?_
  refine gb_bipush 7 rfl (v := 120) dX4_init_5 (by decide) ?_
  refine gb_newa (atype := .int) (t := 0) (N := 120) (ty := .int) 9 1 120 rfl ar_int rfl (fun _ => rfl) (fun _ _ h => h) rfl (by decide) (by decide) (by decide) dX4_init_7 rfl rfl ⟨rfl, rfl⟩ (fun q1 => ?_)
  refine gb_putF (v := .ref q1) 12 [.ref q1, .null, .int 0, .int 0, .int 0] rfl fdX4_9 dX4_init_9 (by first | rfl | decide) (by first | rfl | decide) rfl rfl ?_
  refine gb_aload0 13 rfl dX4_init_12 ?_
  refine gb_bipush 15 rfl (v := 30) dX4_init_13 (by decide) ?_
  refine gb_newa (atype := .boolean) (t := 1) (N := 30) (ty := .boolean) 17 2 150 rfl ar_boolean rfl (fun _ => rfl) (fun _ _ h => h) rfl (by decide) (by decide) (by decide) dX4_init_15 rfl rfl ⟨rfl, rfl⟩ (fun q2 => ?_)
  refine gb_putF (v := .ref q2) 20 [.ref q1, .ref q2, .int 0, .int 0, .int 0] rfl fdX4_15 dX4_init_17 (by first | rfl | decide) (by first | rfl | decide) rfl rfl ?_
  refine gb_aload0 21 rfl dX4_init_20 ?_
  refine gb_iconst 22 rfl (v := 0) dX4_init_21 (by decide) ?_
  refine gb_put (v := .int 0) 25 [.ref q1, .ref q2, .int 0, .int 0, .int 0] rfl fX4_19 dX4_init_22 (by first | rfl | decide) (by first | rfl | decide) rfl rfl ?_
  refine gb_aload0 26 rfl dX4_init_25 ?_
  refine gb_iconst 27 rfl (v := 0) dX4_init_26 (by decide) ?_
  refine gb_put (v := .int 0) 30 [.ref q1, .ref q2, .int 0, .int 0, .int 0] rfl fX4_23 dX4_init_27 (by first | rfl | decide) (by first | rfl | decide) rfl rfl ?_
  refine gb_aload0 31 rfl dX4_init_30 ?_
  refine gb_iconst 32 rfl (v := 0) dX4_init_31 (by decide) ?_
  refine gb_put (v := .int 0) 35 [.ref q1, .ref q2, .int 0, .int 0, .int 0] rfl fX4_26 dX4_init_32 (by first | rfl | decide) (by first | rfl | decide) rfl rfl ?_
  refine gb_vret rfl dX4_init_35 ?_
  exact ⟨q1, q2, rfl⟩
theorem lkBX7_init : LkB mX7_init 1 := ⟨wT_i 140 (by decide +kernel) rfl, wT_i 7 (by decide +kernel) rfl, ⟨by decide +kernel, by decide +kernel⟩, by decide +kernel⟩
theorem koX7_3 : Cond.methodLink RX7 3 Lib.objectInit ∈ wTb := wT_i 141 (by decide +kernel) rfl
theorem fdX7_9 : FD RX7 9 6 1 (.array .int) := ⟨RX7, TX7, 8, tyX7, rfl, inTX7, tyX7_ok, nmX7, by decide, wT_i 143 (by decide +kernel) rfl, rfl, rfl, rfl⟩
theorem fdX7_15 : FD RX7 15 6 2 (.array .int) := ⟨RX7, TX7, 8, tyX7, rfl, inTX7, tyX7_ok, nmX7, by decide, wT_i 146 (by decide +kernel) rfl, rfl, rfl, rfl⟩
theorem fdX7_18 : FD RX7 18 6 3 (.array .int) := ⟨RX7, TX7, 8, tyX7, rfl, inTX7, tyX7_ok, nmX7, by decide, wT_i 148 (by decide +kernel) rfl, rfl, rfl, rfl⟩
theorem fdX7_21 : FD RX7 21 6 4 (.array .int) := ⟨RX7, TX7, 8, tyX7, rfl, inTX7, tyX7_ok, nmX7, by decide, wT_i 151 (by decide +kernel) rfl, rfl, rfl, rfl⟩
theorem fdX7_24 : FD RX7 24 6 5 (.array .int) := ⟨RX7, TX7, 8, tyX7, rfl, inTX7, tyX7_ok, nmX7, by decide, wT_i 152 (by decide +kernel) rfl, rfl, rfl, rfl⟩
theorem fdX7_34 : FD RX7 34 6 0 (.object "RammedCobbles$Plan") := ⟨RX7, TX7, 8, tyX7, rfl, inTX7, tyX7_ok, nmX7, by decide, wT_i 142 (by decide +kernel) rfl, rfl, rfl, rfl⟩
theorem ob_X7_init {l : Launch} {dC : Nat → ClassId} {dI : Nat → Nat → Nat} {cA : Nat → ClassId} {h0 p1 : Nat} : OkB dC dI cA l mX7_init [.ref h0, .ref p1] [(h0, .inr (6, [.null, .null, .null, .null, .null, .null, .int 0, .int 0]))] 5 150 (fun ws => ∃ q1 q2 q3 q4 q5 : Nat, ws = [(h0, .inr (6, [.ref p1, .ref q1, .ref q2, .ref q3, .ref q4, .ref q5, .int 1, .int 0])), (q1, .inl (cA 0, 30, .inl (fun _ => 0))), (q2, .inl (cA 0, 30, .inl (fun _ => 0))), (q3, .inl (cA 0, 30, .inl (fun _ => 0))), (q4, .inl (cA 0, 30, .inl (fun _ => 0))), (q5, .inl (cA 0, 30, .inl (fun _ => 0)))]) := by
  refine okb_of (by decide +kernel) rfl rfl rfl ?_
  refine gb_aload0 1 rfl dX7_init_0 ?_
  refine gb_objInit 4 rfl koX7_3 oi_1 oi_2 dX7_init_1 ⟨rfl, rfl⟩ ?_
  refine gb_aload0 5 rfl dX7_init_4 ?_
  refine gb_bipush 7 rfl (v := 30) dX7_init_5 (by decide) ?_
  refine gb_newa (atype := .int) (t := 0) (N := 30) (ty := .int) 9 1 30 rfl ar_int rfl (fun _ => rfl) (fun _ _ h => h) rfl (by decide) (by decide) (by decide) dX7_init_7 rfl rfl ⟨rfl, rfl⟩ (fun q1 => ?_)
  refine gb_putF (v := .ref q1) 12 [.null, .ref q1, .null, .null, .null, .null, .int 0, .int 0] rfl fdX7_9 dX7_init_9 (by first | rfl | decide) (by first | rfl | decide) rfl rfl ?_
  refine gb_aload0 13 rfl dX7_init_12 ?_
  refine gb_bipush 15 rfl (v := 30) dX7_init_13 (by decide) ?_
  refine gb_newa (atype := .int) (t := 0) (N := 30) (ty := .int) 17 2 60 rfl ar_int rfl (fun _ => rfl) (fun _ _ h => h) rfl (by decide) (by decide) (by decide) dX7_init_15 rfl rfl ⟨rfl, rfl⟩ (fun q2 => ?_)
  refine gb_putF (v := .ref q2) 20 [.null, .ref q1, .ref q2, .null, .null, .null, .int 0, .int 0] rfl fdX7_15 dX7_init_17 (by first | rfl | decide) (by first | rfl | decide) rfl rfl ?_
  refine gb_aload0 21 rfl dX7_init_20 ?_
  refine gb_bipush 23 rfl (v := 30) dX7_init_21 (by decide) ?_
  refine gb_newa (atype := .int) (t := 0) (N := 30) (ty := .int) 25 3 90 rfl ar_int rfl (fun _ => rfl) (fun _ _ h => h) rfl (by decide) (by decide) (by decide) dX7_init_23 rfl rfl ⟨rfl, rfl⟩ (fun q3 => ?_)
  refine gb_putF (v := .ref q3) 28 [.null, .ref q1, .ref q2, .ref q3, .null, .null, .int 0, .int 0] rfl fdX7_18 dX7_init_25 (by first | rfl | decide) (by first | rfl | decide) rfl rfl ?_
  refine gb_aload0 29 rfl dX7_init_28 ?_
  refine gb_bipush 31 rfl (v := 30) dX7_init_29 (by decide) ?_
  refine gb_newa (atype := .int) (t := 0) (N := 30) (ty := .int) 33 4 120 rfl ar_int rfl (fun _ => rfl) (fun _ _ h => h) rfl (by decide) (by decide) (by decide) dX7_init_31 rfl rfl ⟨rfl, rfl⟩ (fun q4 => ?_)
  refine gb_putF (v := .ref q4) 36 [.null, .ref q1, .ref q2, .ref q3, .ref q4, .null, .int 0, .int 0] rfl fdX7_21 dX7_init_33 (by first | rfl | decide) (by first | rfl | decide) rfl rfl ?_
  refine gb_aload0 37 rfl dX7_init_36 ?_
  refine gb_bipush 39 rfl (v := 30) dX7_init_37 (by decide) ?_
  refine gb_newa (atype := .int) (t := 0) (N := 30) (ty := .int) 41 5 150 rfl ar_int rfl (fun _ => rfl) (fun _ _ h => h) rfl (by decide) (by decide) (by decide) dX7_init_39 rfl rfl ⟨rfl, rfl⟩ (fun q5 => ?_)
  refine gb_putF (v := .ref q5) 44 [.null, .ref q1, .ref q2, .ref q3, .ref q4, .ref q5, .int 0, .int 0] rfl fdX7_24 dX7_init_41 (by first | rfl | decide) (by first | rfl | decide) rfl rfl ?_
  refine gb_aload0 45 rfl dX7_init_44 ?_
  refine gb_iconst 46 rfl (v := 1) dX7_init_45 (by decide) ?_
  refine gb_put (v := .int 1) 49 [.null, .ref q1, .ref q2, .ref q3, .ref q4, .ref q5, .int 1, .int 0] rfl fX7_27 dX7_init_46 (by first | rfl | decide) (by first | rfl | decide) rfl rfl ?_
  refine gb_aload0 50 rfl dX7_init_49 ?_
  refine gb_iconst 51 rfl (v := 0) dX7_init_50 (by decide) ?_
  refine gb_put (v := .int 0) 54 [.null, .ref q1, .ref q2, .ref q3, .ref q4, .ref q5, .int 1, .int 0] rfl fX7_31 dX7_init_51 (by first | rfl | decide) (by first | rfl | decide) rfl rfl ?_
  refine gb_aload0 55 rfl dX7_init_54 ?_
  refine gb_aload1 56 rfl dX7_init_55 ?_
  refine gb_putF (v := .ref p1) 59 [.ref p1, .ref q1, .ref q2, .ref q3, .ref q4, .ref q5, .int 1, .int 0] rfl fdX7_34 dX7_init_56 (by first | rfl | decide) (by first | rfl | decide) rfl rfl ?_
  refine gb_vret rfl dX7_init_59 ?_
  exact ⟨q1, q2, q3, q4, q5, rfl⟩
theorem lkBX5_init : LkB mX5_init 1 := ⟨wT_i 178 (by decide +kernel) rfl, wT_i 8 (by decide +kernel) rfl, ⟨by decide +kernel, by decide +kernel⟩, by decide +kernel⟩
theorem koX5_3 : Cond.methodLink RX5 3 Lib.objectInit ∈ wTb := wT_i 179 (by decide +kernel) rfl
theorem fdX5_9 : FD RX5 9 5 1 (.array .int) := ⟨RX5, TX5, 2, tyX5, rfl, inTX5, tyX5_ok, nmX5, by decide, wT_i 181 (by decide +kernel) rfl, rfl, rfl, rfl⟩
theorem fdX5_15 : FD RX5 15 5 0 (.object "RammedCobbles$Plan") := ⟨RX5, TX5, 2, tyX5, rfl, inTX5, tyX5_ok, nmX5, by decide, wT_i 180 (by decide +kernel) rfl, rfl, rfl, rfl⟩
theorem ob_X5_init {l : Launch} {dC : Nat → ClassId} {dI : Nat → Nat → Nat} {cA : Nat → ClassId} {h0 p1 : Nat} : OkB dC dI cA l mX5_init [.ref h0, .ref p1] [(h0, .inr (5, [.null, .null]))] 1 30 (fun ws => ∃ q1 : Nat, ws = [(h0, .inr (5, [.ref p1, .ref q1])), (q1, .inl (cA 0, 30, .inl (fun _ => 0)))]) := by
  refine okb_of (by decide +kernel) rfl rfl rfl ?_
  refine gb_aload0 1 rfl dX5_init_0 ?_
  refine gb_objInit 4 rfl koX5_3 oi_1 oi_2 dX5_init_1 ⟨rfl, rfl⟩ ?_
  refine gb_aload0 5 rfl dX5_init_4 ?_
  refine gb_bipush 7 rfl (v := 30) dX5_init_5 (by decide) ?_
  refine gb_newa (atype := .int) (t := 0) (N := 30) (ty := .int) 9 1 30 rfl ar_int rfl (fun _ => rfl) (fun _ _ h => h) rfl (by decide) (by decide) (by decide) dX5_init_7 rfl rfl ⟨rfl, rfl⟩ (fun q1 => ?_)
  refine gb_putF (v := .ref q1) 12 [.null, .ref q1] rfl fdX5_9 dX5_init_9 (by first | rfl | decide) (by first | rfl | decide) rfl rfl ?_
  refine gb_aload0 13 rfl dX5_init_12 ?_
  refine gb_aload1 14 rfl dX5_init_13 ?_
  refine gb_putF (v := .ref p1) 17 [.ref p1, .ref q1] rfl fdX5_15 dX5_init_14 (by first | rfl | decide) (by first | rfl | decide) rfl rfl ?_
  refine gb_vret rfl dX5_init_17 ?_
  exact ⟨q1, rfl⟩
theorem lkBX2_init : LkB mX2_init 1 := ⟨wT_i 191 (by decide +kernel) rfl, wT_i 9 (by decide +kernel) rfl, ⟨by decide +kernel, by decide +kernel⟩, by decide +kernel⟩
theorem koX2_3 : Cond.methodLink RX2 3 Lib.objectInit ∈ wTb := wT_i 192 (by decide +kernel) rfl
theorem fdX2_9 : FD RX2 9 2 1 (.array .int) := ⟨RX2, TX2, 3, tyX2, rfl, inTX2, tyX2_ok, nmX2, by decide, wT_i 194 (by decide +kernel) rfl, rfl, rfl, rfl⟩
theorem fdX2_15 : FD RX2 15 2 2 (.array .int) := ⟨RX2, TX2, 3, tyX2, rfl, inTX2, tyX2_ok, nmX2, by decide, wT_i 195 (by decide +kernel) rfl, rfl, rfl, rfl⟩
theorem fdX2_18 : FD RX2 18 2 0 (.object "RammedCobbles$Plan") := ⟨RX2, TX2, 3, tyX2, rfl, inTX2, tyX2_ok, nmX2, by decide, wT_i 193 (by decide +kernel) rfl, rfl, rfl, rfl⟩
theorem ob_X2_init {l : Launch} {dC : Nat → ClassId} {dI : Nat → Nat → Nat} {cA : Nat → ClassId} {h0 p1 : Nat} : OkB dC dI cA l mX2_init [.ref h0, .ref p1] [(h0, .inr (2, [.null, .null, .null]))] 2 60 (fun ws => ∃ q1 q2 : Nat, ws = [(h0, .inr (2, [.ref p1, .ref q1, .ref q2])), (q1, .inl (cA 0, 30, .inl (fun _ => 0))), (q2, .inl (cA 0, 30, .inl (fun _ => 0)))]) := by
  refine okb_of (by decide +kernel) rfl rfl rfl ?_
  refine gb_aload0 1 rfl dX2_init_0 ?_
  refine gb_objInit 4 rfl koX2_3 oi_1 oi_2 dX2_init_1 ⟨rfl, rfl⟩ ?_
  refine gb_aload0 5 rfl dX2_init_4 ?_
  refine gb_bipush 7 rfl (v := 30) dX2_init_5 (by decide) ?_
  refine gb_newa (atype := .int) (t := 0) (N := 30) (ty := .int) 9 1 30 rfl ar_int rfl (fun _ => rfl) (fun _ _ h => h) rfl (by decide) (by decide) (by decide) dX2_init_7 rfl rfl ⟨rfl, rfl⟩ (fun q1 => ?_)
  refine gb_putF (v := .ref q1) 12 [.null, .ref q1, .null] rfl fdX2_9 dX2_init_9 (by first | rfl | decide) (by first | rfl | decide) rfl rfl ?_
  refine gb_aload0 13 rfl dX2_init_12 ?_
  refine gb_bipush 15 rfl (v := 30) dX2_init_13 (by decide) ?_
  refine gb_newa (atype := .int) (t := 0) (N := 30) (ty := .int) 17 2 60 rfl ar_int rfl (fun _ => rfl) (fun _ _ h => h) rfl (by decide) (by decide) (by decide) dX2_init_15 rfl rfl ⟨rfl, rfl⟩ (fun q2 => ?_)
  refine gb_putF (v := .ref q2) 20 [.null, .ref q1, .ref q2] rfl fdX2_15 dX2_init_17 (by first | rfl | decide) (by first | rfl | decide) rfl rfl ?_
  refine gb_aload0 21 rfl dX2_init_20 ?_
  refine gb_aload1 22 rfl dX2_init_21 ?_
  refine gb_putF (v := .ref p1) 25 [.ref p1, .ref q1, .ref q2] rfl fdX2_18 dX2_init_22 (by first | rfl | decide) (by first | rfl | decide) rfl rfl ?_
  refine gb_vret rfl dX2_init_25 ?_
  exact ⟨q1, q2, rfl⟩
theorem lkBX9_init : LkB mX9_init 1 := ⟨wT_i 209 (by decide +kernel) rfl, wT_i 10 (by decide +kernel) rfl, ⟨by decide +kernel, by decide +kernel⟩, by decide +kernel⟩
theorem koX9_3 : Cond.methodLink RX9 3 Lib.objectInit ∈ wTb := wT_i 210 (by decide +kernel) rfl
theorem fdX9_9 : FD RX9 9 8 1 (.array .int) := ⟨RX9, TX9, 2, tyX9, rfl, inTX9, tyX9_ok, nmX9, by decide, wT_i 212 (by decide +kernel) rfl, rfl, rfl, rfl⟩
theorem fdX9_15 : FD RX9 15 8 0 (.object "RammedCobbles$Plan") := ⟨RX9, TX9, 2, tyX9, rfl, inTX9, tyX9_ok, nmX9, by decide, wT_i 211 (by decide +kernel) rfl, rfl, rfl, rfl⟩
theorem ob_X9_init {l : Launch} {dC : Nat → ClassId} {dI : Nat → Nat → Nat} {cA : Nat → ClassId} {h0 p1 : Nat} : OkB dC dI cA l mX9_init [.ref h0, .ref p1] [(h0, .inr (8, [.null, .null]))] 1 30 (fun ws => ∃ q1 : Nat, ws = [(h0, .inr (8, [.ref p1, .ref q1])), (q1, .inl (cA 0, 30, .inl (fun _ => 0)))]) := by
  refine okb_of (by decide +kernel) rfl rfl rfl ?_
  refine gb_aload0 1 rfl dX9_init_0 ?_
  refine gb_objInit 4 rfl koX9_3 oi_1 oi_2 dX9_init_1 ⟨rfl, rfl⟩ ?_
  refine gb_aload0 5 rfl dX9_init_4 ?_
  refine gb_bipush 7 rfl (v := 30) dX9_init_5 (by decide) ?_
  refine gb_newa (atype := .int) (t := 0) (N := 30) (ty := .int) 9 1 30 rfl ar_int rfl (fun _ => rfl) (fun _ _ h => h) rfl (by decide) (by decide) (by decide) dX9_init_7 rfl rfl ⟨rfl, rfl⟩ (fun q1 => ?_)
  refine gb_putF (v := .ref q1) 12 [.null, .ref q1] rfl fdX9_9 dX9_init_9 (by first | rfl | decide) (by first | rfl | decide) rfl rfl ?_
  refine gb_aload0 13 rfl dX9_init_12 ?_
  refine gb_aload1 14 rfl dX9_init_13 ?_
  refine gb_putF (v := .ref p1) 17 [.ref p1, .ref q1] rfl fdX9_15 dX9_init_14 (by first | rfl | decide) (by first | rfl | decide) rfl rfl ?_
  refine gb_vret rfl dX9_init_17 ?_
  exact ⟨q1, rfl⟩
theorem lkBX10_init : LkB mX10_init 3 := ⟨wT_i 222 (by decide +kernel) rfl, wT_i 11 (by decide +kernel) rfl, ⟨by decide +kernel, by decide +kernel⟩, by decide +kernel⟩
theorem koX10_3 : Cond.methodLink RX10 3 Lib.objectInit ∈ wTb := wT_i 223 (by decide +kernel) rfl
theorem fdX10_9 : FD RX10 9 9 3 (.array .boolean) := ⟨RX10, TX10, 4, tyX10, rfl, inTX10, tyX10_ok, nmX10, by decide, wT_i 227 (by decide +kernel) rfl, rfl, rfl, rfl⟩
theorem fdX10_15 : FD RX10 15 9 0 (.object "RammedCobbles$Plan") := ⟨RX10, TX10, 4, tyX10, rfl, inTX10, tyX10_ok, nmX10, by decide, wT_i 224 (by decide +kernel) rfl, rfl, rfl, rfl⟩
theorem fdX10_19 : FD RX10 19 9 1 (.object "RammedCobbles$Loads") := ⟨RX10, TX10, 4, tyX10, rfl, inTX10, tyX10_ok, nmX10, by decide, wT_i 225 (by decide +kernel) rfl, rfl, rfl, rfl⟩
theorem fdX10_23 : FD RX10 23 9 2 (.object "RammedCobbles$Water") := ⟨RX10, TX10, 4, tyX10, rfl, inTX10, tyX10_ok, nmX10, by decide, wT_i 226 (by decide +kernel) rfl, rfl, rfl, rfl⟩
theorem ob_X10_init {l : Launch} {dC : Nat → ClassId} {dI : Nat → Nat → Nat} {cA : Nat → ClassId} {h0 p1 p2 p3 : Nat} : OkB dC dI cA l mX10_init [.ref h0, .ref p1, .ref p2, .ref p3] [(h0, .inr (9, [.null, .null, .null, .null]))] 1 30 (fun ws => ∃ q1 : Nat, ws = [(h0, .inr (9, [.ref p1, .ref p2, .ref p3, .ref q1])), (q1, .inl (cA 1, 30, .inl (fun _ => 0)))]) := by
  refine okb_of (by decide +kernel) rfl rfl rfl ?_
  refine gb_aload0 1 rfl dX10_init_0 ?_
  refine gb_objInit 4 rfl koX10_3 oi_1 oi_2 dX10_init_1 ⟨rfl, rfl⟩ ?_
  refine gb_aload0 5 rfl dX10_init_4 ?_
  refine gb_bipush 7 rfl (v := 30) dX10_init_5 (by decide) ?_
  refine gb_newa (atype := .boolean) (t := 1) (N := 30) (ty := .boolean) 9 1 30 rfl ar_boolean rfl (fun _ => rfl) (fun _ _ h => h) rfl (by decide) (by decide) (by decide) dX10_init_7 rfl rfl ⟨rfl, rfl⟩ (fun q1 => ?_)
  refine gb_putF (v := .ref q1) 12 [.null, .null, .null, .ref q1] rfl fdX10_9 dX10_init_9 (by first | rfl | decide) (by first | rfl | decide) rfl rfl ?_
  refine gb_aload0 13 rfl dX10_init_12 ?_
  refine gb_aload1 14 rfl dX10_init_13 ?_
  refine gb_putF (v := .ref p1) 17 [.ref p1, .null, .null, .ref q1] rfl fdX10_15 dX10_init_14 (by first | rfl | decide) (by first | rfl | decide) rfl rfl ?_
  refine gb_aload0 18 rfl dX10_init_17 ?_
  refine gb_aload2 19 rfl dX10_init_18 ?_
  refine gb_putF (v := .ref p2) 22 [.ref p1, .ref p2, .null, .ref q1] rfl fdX10_19 dX10_init_19 (by first | rfl | decide) (by first | rfl | decide) rfl rfl ?_
  refine gb_aload0 23 rfl dX10_init_22 ?_
  refine gb_aload3 24 rfl dX10_init_23 ?_
  refine gb_putF (v := .ref p3) 27 [.ref p1, .ref p2, .ref p3, .ref q1] rfl fdX10_23 dX10_init_24 (by first | rfl | decide) (by first | rfl | decide) rfl rfl ?_
  refine gb_vret rfl dX10_init_27 ?_
  exact ⟨q1, rfl⟩
theorem lkBX1_init : LkB mX1_init 0 := ⟨wT_i 241 (by decide +kernel) rfl, wT_i 12 (by decide +kernel) rfl, ⟨by decide +kernel, by decide +kernel⟩, by decide +kernel⟩
theorem koX1_3 : Cond.methodLink RX1 3 Lib.objectInit ∈ wTb := wT_i 242 (by decide +kernel) rfl
theorem fdX1_9 : FD RX1 9 1 0 (.array .int) := ⟨RX1, TX1, 5, tyX1, rfl, inTX1, tyX1_ok, nmX1, by decide, wT_i 243 (by decide +kernel) rfl, rfl, rfl, rfl⟩
theorem fdX1_15 : FD RX1 15 1 1 (.array .int) := ⟨RX1, TX1, 5, tyX1, rfl, inTX1, tyX1_ok, nmX1, by decide, wT_i 245 (by decide +kernel) rfl, rfl, rfl, rfl⟩
theorem ob_X1_init {l : Launch} {dC : Nat → ClassId} {dI : Nat → Nat → Nat} {cA : Nat → ClassId} {h0 : Nat} : OkB dC dI cA l mX1_init [.ref h0] [(h0, .inr (1, [.null, .null, .int 0, .int 0, .int 0]))] 2 20 (fun ws => ∃ q1 q2 : Nat, ws = [(h0, .inr (1, [.ref q1, .ref q2, .int 0, .int 0, .int 0])), (q1, .inl (cA 0, 10, .inl (fun _ => 0))), (q2, .inl (cA 0, 10, .inl (fun _ => 0)))]) := by
  refine okb_of (by decide +kernel) rfl rfl rfl ?_
  refine gb_aload0 1 rfl dX1_init_0 ?_
  refine gb_objInit 4 rfl koX1_3 oi_1 oi_2 dX1_init_1 ⟨rfl, rfl⟩ ?_
  refine gb_aload0 5 rfl dX1_init_4 ?_
  refine gb_bipush 7 rfl (v := 10) dX1_init_5 (by decide) ?_
  refine gb_newa (atype := .int) (t := 0) (N := 10) (ty := .int) 9 1 10 rfl ar_int rfl (fun _ => rfl) (fun _ _ h => h) rfl (by decide) (by decide) (by decide) dX1_init_7 rfl rfl ⟨rfl, rfl⟩ (fun q1 => ?_)
  refine gb_putF (v := .ref q1) 12 [.ref q1, .null, .int 0, .int 0, .int 0] rfl fdX1_9 dX1_init_9 (by first | rfl | decide) (by first | rfl | decide) rfl rfl ?_
  refine gb_aload0 13 rfl dX1_init_12 ?_
  refine gb_bipush 15 rfl (v := 10) dX1_init_13 (by decide) ?_
  refine gb_newa (atype := .int) (t := 0) (N := 10) (ty := .int) 17 2 20 rfl ar_int rfl (fun _ => rfl) (fun _ _ h => h) rfl (by decide) (by decide) (by decide) dX1_init_15 rfl rfl ⟨rfl, rfl⟩ (fun q2 => ?_)
  refine gb_putF (v := .ref q2) 20 [.ref q1, .ref q2, .int 0, .int 0, .int 0] rfl fdX1_15 dX1_init_17 (by first | rfl | decide) (by first | rfl | decide) rfl rfl ?_
  refine gb_aload0 21 rfl dX1_init_20 ?_
  refine gb_iconst 22 rfl (v := 0) dX1_init_21 (by decide) ?_
  refine gb_put (v := .int 0) 25 [.ref q1, .ref q2, .int 0, .int 0, .int 0] rfl fX1_18 dX1_init_22 (by first | rfl | decide) (by first | rfl | decide) rfl rfl ?_
  refine gb_aload0 26 rfl dX1_init_25 ?_
  refine gb_iconst 27 rfl (v := 0) dX1_init_26 (by decide) ?_
  refine gb_put (v := .int 0) 30 [.ref q1, .ref q2, .int 0, .int 0, .int 0] rfl fX1_22 dX1_init_27 (by first | rfl | decide) (by first | rfl | decide) rfl rfl ?_
  refine gb_aload0 31 rfl dX1_init_30 ?_
  refine gb_iconst 32 rfl (v := 0) dX1_init_31 (by decide) ?_
  refine gb_put (v := .int 0) 35 [.ref q1, .ref q2, .int 0, .int 0, .int 0] rfl fX1_25 dX1_init_32 (by first | rfl | decide) (by first | rfl | decide) rfl rfl ?_
  refine gb_vret rfl dX1_init_35 ?_
  exact ⟨q1, q2, rfl⟩
