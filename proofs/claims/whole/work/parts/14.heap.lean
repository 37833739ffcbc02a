/-! the class's Heap -/
theorem g_ixor {G : Sh} {l : Launch} {mi : MI} {pc : Nat} {lv st : List Value} {M : Mm} {Q : Rr → Mm → Prop} {x y : Int32} (n : Nat) (hn : pc + 1 = n) (hd : decode (mBy mi) pc = .ok (.ixor, 1)) (k : Go G l mi n lv (.int (x ^^^ y) :: st) M Q) : Go G l mi pc lv (.int y :: .int x :: st) M Q := by
  intro p e s m args below meth c dC dI cA ad A H locs ls hC hW hL
  subst hn
  exact lv_ixor hC.1 hC.2.1 hd (k p e s m args below meth c dC dI cA ad A H locs ls hC hW hL)
def tzf : Nat → Nat → Nat
  | 0, _ => 0
  | d + 1, b => if b % 2 = 0 then tzf d (b / 2) + 1 else 0
def pcf : Nat → Nat → Nat
  | 0, _ => 0
  | d + 1, b => b % 2 + pcf d (b / 2)
def tz (b : Nat) : Nat := tzf 10 b
def pcn (b : Nat) : Nat := pcf 10 b
set_option maxRecDepth 100000 in
theorem ok_bitCount {l : Launch} {M : Mm} {b : Nat} (hb : b < 1024) : Oi GC l mJ6_bitCount_0f7a4 [.int (nI b)] M (nI (pcn b)) M := by
  refine ok_of (by decide +kernel) rfl rfl ?_
  refine g_iload0 1 rfl dJ6_bitCount_0f7a4_0 ?_
  refine g_iload0 2 rfl dJ6_bitCount_0f7a4_1 ?_
  refine g_iconst 3 rfl (v := 1) dJ6_bitCount_0f7a4_2 (by decide) ?_
  refine g_iushr 4 rfl dJ6_bitCount_0f7a4_3 ?_
  refine g_ldcw 7 rfl dJ6_bitCount_0f7a4_4 cJ6_265 ?_
  refine g_iand 8 rfl dJ6_bitCount_0f7a4_7 ?_
  refine g_isub 9 rfl dJ6_bitCount_0f7a4_8 ?_
  refine g_istore0 10 rfl dJ6_bitCount_0f7a4_9 rfl ?_
  refine g_iload0 11 rfl dJ6_bitCount_0f7a4_10 ?_
  refine g_ldcw 14 rfl dJ6_bitCount_0f7a4_11 cJ6_266 ?_
  refine g_iand 15 rfl dJ6_bitCount_0f7a4_14 ?_
  refine g_iload0 16 rfl dJ6_bitCount_0f7a4_15 ?_
  refine g_iconst 17 rfl (v := 2) dJ6_bitCount_0f7a4_16 (by decide) ?_
  refine g_iushr 18 rfl dJ6_bitCount_0f7a4_17 ?_
  refine g_ldcw 21 rfl dJ6_bitCount_0f7a4_18 cJ6_266 ?_
  refine g_iand 22 rfl dJ6_bitCount_0f7a4_21 ?_
  refine g_iadd 23 rfl dJ6_bitCount_0f7a4_22 ?_
  refine g_istore0 24 rfl dJ6_bitCount_0f7a4_23 rfl ?_
  refine g_iload0 25 rfl dJ6_bitCount_0f7a4_24 ?_
  refine g_iload0 26 rfl dJ6_bitCount_0f7a4_25 ?_
  refine g_iconst 27 rfl (v := 4) dJ6_bitCount_0f7a4_26 (by decide) ?_
  refine g_iushr 28 rfl dJ6_bitCount_0f7a4_27 ?_
  refine g_iadd 29 rfl dJ6_bitCount_0f7a4_28 ?_
  refine g_ldcw 32 rfl dJ6_bitCount_0f7a4_29 cJ6_267 ?_
  refine g_iand 33 rfl dJ6_bitCount_0f7a4_32 ?_
  refine g_istore0 34 rfl dJ6_bitCount_0f7a4_33 rfl ?_
  refine g_iload0 35 rfl dJ6_bitCount_0f7a4_34 ?_
  refine g_iload0 36 rfl dJ6_bitCount_0f7a4_35 ?_
  refine g_bipush 38 rfl (v := 8) dJ6_bitCount_0f7a4_36 (by decide) ?_
  refine g_iushr 39 rfl dJ6_bitCount_0f7a4_38 ?_
  refine g_iadd 40 rfl dJ6_bitCount_0f7a4_39 ?_
  refine g_istore0 41 rfl dJ6_bitCount_0f7a4_40 rfl ?_
  refine g_iload0 42 rfl dJ6_bitCount_0f7a4_41 ?_
  refine g_iload0 43 rfl dJ6_bitCount_0f7a4_42 ?_
  refine g_bipush 45 rfl (v := 16) dJ6_bitCount_0f7a4_43 (by decide) ?_
  refine g_iushr 46 rfl dJ6_bitCount_0f7a4_45 ?_
  refine g_iadd 47 rfl dJ6_bitCount_0f7a4_46 ?_
  refine g_istore0 48 rfl dJ6_bitCount_0f7a4_47 rfl ?_
  refine g_iload0 49 rfl dJ6_bitCount_0f7a4_48 ?_
  refine g_bipush 51 rfl (v := 63) dJ6_bitCount_0f7a4_49 (by decide) ?_
  refine g_iand 52 rfl dJ6_bitCount_0f7a4_51 ?_
  refine g_iret rfl dJ6_bitCount_0f7a4_52 ?_
  refine ⟨?_, rfl⟩
  revert hb
  revert b
  decide +kernel
def ush (x k : Int32) : Int32 := (x.toUInt32 >>> (k.toUInt32 &&& Int32.toUInt32 31)).toInt32
def nz4 (x n : Int32) : Int32 := if x ≤ 4 then n + ush x 1 else n + Int32.ofInt 2 + ush (ush x 2) 1
def nz3 (x n : Int32) : Int32 := if x ≤ 16 then nz4 x n else nz4 (ush x 4) (n + Int32.ofInt 4)
def nz2 (x n : Int32) : Int32 := if x ≤ 256 then nz3 x n else nz3 (ush x 8) (n + Int32.ofInt 8)
def nz1 (x n : Int32) : Int32 := if x ≤ 65536 then nz2 x n else nz2 (ush x 16) (n + Int32.ofInt 16)
def nz0 (x : Int32) : Int32 := if 0 < (x ^^^ (-1)) &&& (x - 1) then nz1 ((x ^^^ (-1)) &&& (x - 1)) 1 else ((x ^^^ (-1)) &&& (x - 1)) &&& 32
set_option maxRecDepth 100000 in
theorem nz_tz : ∀ b, b < 1024 → 0 < b → nz0 (nI b) = nI (tz b) := by decide +kernel
theorem ok_ntz {l : Launch} {M : Mm} {b : Nat} (hb : b < 1024) (h0 : 0 < b) : Oi GC l mJ6_numberOfTrailingZeros_0f7a4 [.int (nI b)] M (nI (tz b)) M := by
  rw [← nz_tz b hb h0]
  clear hb h0
  generalize nI b = x
  refine ok_of (by decide +kernel) rfl rfl ?_
  refine g_iload0 1 rfl dJ6_numberOfTrailingZeros_0f7a4_0 ?_
  refine g_iconst 2 rfl (v := (-1)) dJ6_numberOfTrailingZeros_0f7a4_1 (by decide) ?_
  refine g_ixor 3 rfl dJ6_numberOfTrailingZeros_0f7a4_2 ?_
  refine g_iload0 4 rfl dJ6_numberOfTrailingZeros_0f7a4_3 ?_
  refine g_iconst 5 rfl (v := 1) dJ6_numberOfTrailingZeros_0f7a4_4 (by decide) ?_
  refine g_isub 6 rfl dJ6_numberOfTrailingZeros_0f7a4_5 ?_
  refine g_iand 7 rfl dJ6_numberOfTrailingZeros_0f7a4_6 ?_
  refine g_istore0 8 rfl dJ6_numberOfTrailingZeros_0f7a4_7 rfl ?_
  refine g_iload0 9 rfl dJ6_numberOfTrailingZeros_0f7a4_8 ?_
  refine g_ifgt 17 12 rfl dJ6_numberOfTrailingZeros_0f7a4_9 (by decide) (fun h9 => ?_) (fun h9 => ?_)
  · refine g_iconst 18 rfl (v := 1) dJ6_numberOfTrailingZeros_0f7a4_17 (by decide) ?_
    refine g_istore1 19 rfl dJ6_numberOfTrailingZeros_0f7a4_18 rfl rfl ?_
    refine g_iload0 20 rfl dJ6_numberOfTrailingZeros_0f7a4_19 ?_
    refine g_ldcw 23 rfl dJ6_numberOfTrailingZeros_0f7a4_20 cJ6_264 ?_
    refine g_cmple 34 26 rfl dJ6_numberOfTrailingZeros_0f7a4_23 (by decide) (fun h23 => ?_) (fun h23 => ?_)
    · refine g_iload0 35 rfl dJ6_numberOfTrailingZeros_0f7a4_34 ?_
      refine g_sipush 38 rfl (v := 256) dJ6_numberOfTrailingZeros_0f7a4_35 (by decide) ?_
      refine g_cmple 49 41 rfl dJ6_numberOfTrailingZeros_0f7a4_38 (by decide) (fun h38 => ?_) (fun h38 => ?_)
      · refine g_iload0 50 rfl dJ6_numberOfTrailingZeros_0f7a4_49 ?_
        refine g_bipush 52 rfl (v := 16) dJ6_numberOfTrailingZeros_0f7a4_50 (by decide) ?_
        refine g_cmple 62 55 rfl dJ6_numberOfTrailingZeros_0f7a4_52 (by decide) (fun h52 => ?_) (fun h52 => ?_)
        · refine g_iload0 63 rfl dJ6_numberOfTrailingZeros_0f7a4_62 ?_
          refine g_iconst 64 rfl (v := 4) dJ6_numberOfTrailingZeros_0f7a4_63 (by decide) ?_
          refine g_cmple 74 67 rfl dJ6_numberOfTrailingZeros_0f7a4_64 (by decide) (fun h64 => ?_) (fun h64 => ?_)
          · refine g_iload1 75 rfl dJ6_numberOfTrailingZeros_0f7a4_74 ?_
            refine g_iload0 76 rfl dJ6_numberOfTrailingZeros_0f7a4_75 ?_
            refine g_iconst 77 rfl (v := 1) dJ6_numberOfTrailingZeros_0f7a4_76 (by decide) ?_
            refine g_iushr 78 rfl dJ6_numberOfTrailingZeros_0f7a4_77 ?_
            refine g_iadd 79 rfl dJ6_numberOfTrailingZeros_0f7a4_78 ?_
            refine g_iret rfl dJ6_numberOfTrailingZeros_0f7a4_79 ?_
            refine ⟨?_, rfl⟩
            simp only [nz0, nz1, nz2, nz3, nz4, ush, *, if_true, if_false]
          · refine g_iinc1 70 rfl dJ6_numberOfTrailingZeros_0f7a4_67 rfl rfl _ (by first | exact iinc1 _ | exact iincx _ | rfl) ?_
            refine g_iload0 71 rfl dJ6_numberOfTrailingZeros_0f7a4_70 ?_
            refine g_iconst 72 rfl (v := 2) dJ6_numberOfTrailingZeros_0f7a4_71 (by decide) ?_
            refine g_iushr 73 rfl dJ6_numberOfTrailingZeros_0f7a4_72 ?_
            refine g_istore0 74 rfl dJ6_numberOfTrailingZeros_0f7a4_73 rfl ?_
            refine g_iload1 75 rfl dJ6_numberOfTrailingZeros_0f7a4_74 ?_
            refine g_iload0 76 rfl dJ6_numberOfTrailingZeros_0f7a4_75 ?_
            refine g_iconst 77 rfl (v := 1) dJ6_numberOfTrailingZeros_0f7a4_76 (by decide) ?_
            refine g_iushr 78 rfl dJ6_numberOfTrailingZeros_0f7a4_77 ?_
            refine g_iadd 79 rfl dJ6_numberOfTrailingZeros_0f7a4_78 ?_
            refine g_iret rfl dJ6_numberOfTrailingZeros_0f7a4_79 ?_
            refine ⟨?_, rfl⟩
            simp only [nz0, nz1, nz2, nz3, nz4, ush, *, if_true, if_false]
        · refine g_iinc1 58 rfl dJ6_numberOfTrailingZeros_0f7a4_55 rfl rfl _ (by first | exact iinc1 _ | exact iincx _ | rfl) ?_
          refine g_iload0 59 rfl dJ6_numberOfTrailingZeros_0f7a4_58 ?_
          refine g_iconst 60 rfl (v := 4) dJ6_numberOfTrailingZeros_0f7a4_59 (by decide) ?_
          refine g_iushr 61 rfl dJ6_numberOfTrailingZeros_0f7a4_60 ?_
          refine g_istore0 62 rfl dJ6_numberOfTrailingZeros_0f7a4_61 rfl ?_
          refine g_iload0 63 rfl dJ6_numberOfTrailingZeros_0f7a4_62 ?_
          refine g_iconst 64 rfl (v := 4) dJ6_numberOfTrailingZeros_0f7a4_63 (by decide) ?_
          refine g_cmple 74 67 rfl dJ6_numberOfTrailingZeros_0f7a4_64 (by decide) (fun h64 => ?_) (fun h64 => ?_)
          · refine g_iload1 75 rfl dJ6_numberOfTrailingZeros_0f7a4_74 ?_
            refine g_iload0 76 rfl dJ6_numberOfTrailingZeros_0f7a4_75 ?_
            refine g_iconst 77 rfl (v := 1) dJ6_numberOfTrailingZeros_0f7a4_76 (by decide) ?_
            refine g_iushr 78 rfl dJ6_numberOfTrailingZeros_0f7a4_77 ?_
            refine g_iadd 79 rfl dJ6_numberOfTrailingZeros_0f7a4_78 ?_
            refine g_iret rfl dJ6_numberOfTrailingZeros_0f7a4_79 ?_
            refine ⟨?_, rfl⟩
            simp only [nz0, nz1, nz2, nz3, nz4, ush, *, if_true, if_false]
          · refine g_iinc1 70 rfl dJ6_numberOfTrailingZeros_0f7a4_67 rfl rfl _ (by first | exact iinc1 _ | exact iincx _ | rfl) ?_
            refine g_iload0 71 rfl dJ6_numberOfTrailingZeros_0f7a4_70 ?_
            refine g_iconst 72 rfl (v := 2) dJ6_numberOfTrailingZeros_0f7a4_71 (by decide) ?_
            refine g_iushr 73 rfl dJ6_numberOfTrailingZeros_0f7a4_72 ?_
            refine g_istore0 74 rfl dJ6_numberOfTrailingZeros_0f7a4_73 rfl ?_
            refine g_iload1 75 rfl dJ6_numberOfTrailingZeros_0f7a4_74 ?_
            refine g_iload0 76 rfl dJ6_numberOfTrailingZeros_0f7a4_75 ?_
            refine g_iconst 77 rfl (v := 1) dJ6_numberOfTrailingZeros_0f7a4_76 (by decide) ?_
            refine g_iushr 78 rfl dJ6_numberOfTrailingZeros_0f7a4_77 ?_
            refine g_iadd 79 rfl dJ6_numberOfTrailingZeros_0f7a4_78 ?_
            refine g_iret rfl dJ6_numberOfTrailingZeros_0f7a4_79 ?_
            refine ⟨?_, rfl⟩
            simp only [nz0, nz1, nz2, nz3, nz4, ush, *, if_true, if_false]
      · refine g_iinc1 44 rfl dJ6_numberOfTrailingZeros_0f7a4_41 rfl rfl _ (by first | exact iinc1 _ | exact iincx _ | rfl) ?_
        refine g_iload0 45 rfl dJ6_numberOfTrailingZeros_0f7a4_44 ?_
        refine g_bipush 47 rfl (v := 8) dJ6_numberOfTrailingZeros_0f7a4_45 (by decide) ?_
        refine g_iushr 48 rfl dJ6_numberOfTrailingZeros_0f7a4_47 ?_
        refine g_istore0 49 rfl dJ6_numberOfTrailingZeros_0f7a4_48 rfl ?_
        refine g_iload0 50 rfl dJ6_numberOfTrailingZeros_0f7a4_49 ?_
        refine g_bipush 52 rfl (v := 16) dJ6_numberOfTrailingZeros_0f7a4_50 (by decide) ?_
        refine g_cmple 62 55 rfl dJ6_numberOfTrailingZeros_0f7a4_52 (by decide) (fun h52 => ?_) (fun h52 => ?_)
        · refine g_iload0 63 rfl dJ6_numberOfTrailingZeros_0f7a4_62 ?_
          refine g_iconst 64 rfl (v := 4) dJ6_numberOfTrailingZeros_0f7a4_63 (by decide) ?_
          refine g_cmple 74 67 rfl dJ6_numberOfTrailingZeros_0f7a4_64 (by decide) (fun h64 => ?_) (fun h64 => ?_)
          · refine g_iload1 75 rfl dJ6_numberOfTrailingZeros_0f7a4_74 ?_
            refine g_iload0 76 rfl dJ6_numberOfTrailingZeros_0f7a4_75 ?_
            refine g_iconst 77 rfl (v := 1) dJ6_numberOfTrailingZeros_0f7a4_76 (by decide) ?_
            refine g_iushr 78 rfl dJ6_numberOfTrailingZeros_0f7a4_77 ?_
            refine g_iadd 79 rfl dJ6_numberOfTrailingZeros_0f7a4_78 ?_
            refine g_iret rfl dJ6_numberOfTrailingZeros_0f7a4_79 ?_
            refine ⟨?_, rfl⟩
            simp only [nz0, nz1, nz2, nz3, nz4, ush, *, if_true, if_false]
          · refine g_iinc1 70 rfl dJ6_numberOfTrailingZeros_0f7a4_67 rfl rfl _ (by first | exact iinc1 _ | exact iincx _ | rfl) ?_
            refine g_iload0 71 rfl dJ6_numberOfTrailingZeros_0f7a4_70 ?_
            refine g_iconst 72 rfl (v := 2) dJ6_numberOfTrailingZeros_0f7a4_71 (by decide) ?_
            refine g_iushr 73 rfl dJ6_numberOfTrailingZeros_0f7a4_72 ?_
            refine g_istore0 74 rfl dJ6_numberOfTrailingZeros_0f7a4_73 rfl ?_
            refine g_iload1 75 rfl dJ6_numberOfTrailingZeros_0f7a4_74 ?_
            refine g_iload0 76 rfl dJ6_numberOfTrailingZeros_0f7a4_75 ?_
            refine g_iconst 77 rfl (v := 1) dJ6_numberOfTrailingZeros_0f7a4_76 (by decide) ?_
            refine g_iushr 78 rfl dJ6_numberOfTrailingZeros_0f7a4_77 ?_
            refine g_iadd 79 rfl dJ6_numberOfTrailingZeros_0f7a4_78 ?_
            refine g_iret rfl dJ6_numberOfTrailingZeros_0f7a4_79 ?_
            refine ⟨?_, rfl⟩
            simp only [nz0, nz1, nz2, nz3, nz4, ush, *, if_true, if_false]
        · refine g_iinc1 58 rfl dJ6_numberOfTrailingZeros_0f7a4_55 rfl rfl _ (by first | exact iinc1 _ | exact iincx _ | rfl) ?_
          refine g_iload0 59 rfl dJ6_numberOfTrailingZeros_0f7a4_58 ?_
          refine g_iconst 60 rfl (v := 4) dJ6_numberOfTrailingZeros_0f7a4_59 (by decide) ?_
          refine g_iushr 61 rfl dJ6_numberOfTrailingZeros_0f7a4_60 ?_
          refine g_istore0 62 rfl dJ6_numberOfTrailingZeros_0f7a4_61 rfl ?_
          refine g_iload0 63 rfl dJ6_numberOfTrailingZeros_0f7a4_62 ?_
          refine g_iconst 64 rfl (v := 4) dJ6_numberOfTrailingZeros_0f7a4_63 (by decide) ?_
          refine g_cmple 74 67 rfl dJ6_numberOfTrailingZeros_0f7a4_64 (by decide) (fun h64 => ?_) (fun h64 => ?_)
          · refine g_iload1 75 rfl dJ6_numberOfTrailingZeros_0f7a4_74 ?_
            refine g_iload0 76 rfl dJ6_numberOfTrailingZeros_0f7a4_75 ?_
            refine g_iconst 77 rfl (v := 1) dJ6_numberOfTrailingZeros_0f7a4_76 (by decide) ?_
            refine g_iushr 78 rfl dJ6_numberOfTrailingZeros_0f7a4_77 ?_
            refine g_iadd 79 rfl dJ6_numberOfTrailingZeros_0f7a4_78 ?_
            refine g_iret rfl dJ6_numberOfTrailingZeros_0f7a4_79 ?_
            refine ⟨?_, rfl⟩
            simp only [nz0, nz1, nz2, nz3, nz4, ush, *, if_true, if_false]
          · refine g_iinc1 70 rfl dJ6_numberOfTrailingZeros_0f7a4_67 rfl rfl _ (by first | exact iinc1 _ | exact iincx _ | rfl) ?_
            refine g_iload0 71 rfl dJ6_numberOfTrailingZeros_0f7a4_70 ?_
            refine g_iconst 72 rfl (v := 2) dJ6_numberOfTrailingZeros_0f7a4_71 (by decide) ?_
            refine g_iushr 73 rfl dJ6_numberOfTrailingZeros_0f7a4_72 ?_
            refine g_istore0 74 rfl dJ6_numberOfTrailingZeros_0f7a4_73 rfl ?_
            refine g_iload1 75 rfl dJ6_numberOfTrailingZeros_0f7a4_74 ?_
            refine g_iload0 76 rfl dJ6_numberOfTrailingZeros_0f7a4_75 ?_
            refine g_iconst 77 rfl (v := 1) dJ6_numberOfTrailingZeros_0f7a4_76 (by decide) ?_
            refine g_iushr 78 rfl dJ6_numberOfTrailingZeros_0f7a4_77 ?_
            refine g_iadd 79 rfl dJ6_numberOfTrailingZeros_0f7a4_78 ?_
            refine g_iret rfl dJ6_numberOfTrailingZeros_0f7a4_79 ?_
            refine ⟨?_, rfl⟩
            simp only [nz0, nz1, nz2, nz3, nz4, ush, *, if_true, if_false]
    · refine g_iinc1 29 rfl dJ6_numberOfTrailingZeros_0f7a4_26 rfl rfl _ (by first | exact iinc1 _ | exact iincx _ | rfl) ?_
      refine g_iload0 30 rfl dJ6_numberOfTrailingZeros_0f7a4_29 ?_
      refine g_bipush 32 rfl (v := 16) dJ6_numberOfTrailingZeros_0f7a4_30 (by decide) ?_
      refine g_iushr 33 rfl dJ6_numberOfTrailingZeros_0f7a4_32 ?_
      refine g_istore0 34 rfl dJ6_numberOfTrailingZeros_0f7a4_33 rfl ?_
      refine g_iload0 35 rfl dJ6_numberOfTrailingZeros_0f7a4_34 ?_
      refine g_sipush 38 rfl (v := 256) dJ6_numberOfTrailingZeros_0f7a4_35 (by decide) ?_
      refine g_cmple 49 41 rfl dJ6_numberOfTrailingZeros_0f7a4_38 (by decide) (fun h38 => ?_) (fun h38 => ?_)
      · refine g_iload0 50 rfl dJ6_numberOfTrailingZeros_0f7a4_49 ?_
        refine g_bipush 52 rfl (v := 16) dJ6_numberOfTrailingZeros_0f7a4_50 (by decide) ?_
        refine g_cmple 62 55 rfl dJ6_numberOfTrailingZeros_0f7a4_52 (by decide) (fun h52 => ?_) (fun h52 => ?_)
        · refine g_iload0 63 rfl dJ6_numberOfTrailingZeros_0f7a4_62 ?_
          refine g_iconst 64 rfl (v := 4) dJ6_numberOfTrailingZeros_0f7a4_63 (by decide) ?_
          refine g_cmple 74 67 rfl dJ6_numberOfTrailingZeros_0f7a4_64 (by decide) (fun h64 => ?_) (fun h64 => ?_)
          · refine g_iload1 75 rfl dJ6_numberOfTrailingZeros_0f7a4_74 ?_
            refine g_iload0 76 rfl dJ6_numberOfTrailingZeros_0f7a4_75 ?_
            refine g_iconst 77 rfl (v := 1) dJ6_numberOfTrailingZeros_0f7a4_76 (by decide) ?_
            refine g_iushr 78 rfl dJ6_numberOfTrailingZeros_0f7a4_77 ?_
            refine g_iadd 79 rfl dJ6_numberOfTrailingZeros_0f7a4_78 ?_
            refine g_iret rfl dJ6_numberOfTrailingZeros_0f7a4_79 ?_
            refine ⟨?_, rfl⟩
            simp only [nz0, nz1, nz2, nz3, nz4, ush, *, if_true, if_false]
          · refine g_iinc1 70 rfl dJ6_numberOfTrailingZeros_0f7a4_67 rfl rfl _ (by first | exact iinc1 _ | exact iincx _ | rfl) ?_
            refine g_iload0 71 rfl dJ6_numberOfTrailingZeros_0f7a4_70 ?_
            refine g_iconst 72 rfl (v := 2) dJ6_numberOfTrailingZeros_0f7a4_71 (by decide) ?_
            refine g_iushr 73 rfl dJ6_numberOfTrailingZeros_0f7a4_72 ?_
            refine g_istore0 74 rfl dJ6_numberOfTrailingZeros_0f7a4_73 rfl ?_
            refine g_iload1 75 rfl dJ6_numberOfTrailingZeros_0f7a4_74 ?_
            refine g_iload0 76 rfl dJ6_numberOfTrailingZeros_0f7a4_75 ?_
            refine g_iconst 77 rfl (v := 1) dJ6_numberOfTrailingZeros_0f7a4_76 (by decide) ?_
            refine g_iushr 78 rfl dJ6_numberOfTrailingZeros_0f7a4_77 ?_
            refine g_iadd 79 rfl dJ6_numberOfTrailingZeros_0f7a4_78 ?_
            refine g_iret rfl dJ6_numberOfTrailingZeros_0f7a4_79 ?_
            refine ⟨?_, rfl⟩
            simp only [nz0, nz1, nz2, nz3, nz4, ush, *, if_true, if_false]
        · refine g_iinc1 58 rfl dJ6_numberOfTrailingZeros_0f7a4_55 rfl rfl _ (by first | exact iinc1 _ | exact iincx _ | rfl) ?_
          refine g_iload0 59 rfl dJ6_numberOfTrailingZeros_0f7a4_58 ?_
          refine g_iconst 60 rfl (v := 4) dJ6_numberOfTrailingZeros_0f7a4_59 (by decide) ?_
          refine g_iushr 61 rfl dJ6_numberOfTrailingZeros_0f7a4_60 ?_
          refine g_istore0 62 rfl dJ6_numberOfTrailingZeros_0f7a4_61 rfl ?_
          refine g_iload0 63 rfl dJ6_numberOfTrailingZeros_0f7a4_62 ?_
          refine g_iconst 64 rfl (v := 4) dJ6_numberOfTrailingZeros_0f7a4_63 (by decide) ?_
          refine g_cmple 74 67 rfl dJ6_numberOfTrailingZeros_0f7a4_64 (by decide) (fun h64 => ?_) (fun h64 => ?_)
          · refine g_iload1 75 rfl dJ6_numberOfTrailingZeros_0f7a4_74 ?_
            refine g_iload0 76 rfl dJ6_numberOfTrailingZeros_0f7a4_75 ?_
            refine g_iconst 77 rfl (v := 1) dJ6_numberOfTrailingZeros_0f7a4_76 (by decide) ?_
            refine g_iushr 78 rfl dJ6_numberOfTrailingZeros_0f7a4_77 ?_
            refine g_iadd 79 rfl dJ6_numberOfTrailingZeros_0f7a4_78 ?_
            refine g_iret rfl dJ6_numberOfTrailingZeros_0f7a4_79 ?_
            refine ⟨?_, rfl⟩
            simp only [nz0, nz1, nz2, nz3, nz4, ush, *, if_true, if_false]
          · refine g_iinc1 70 rfl dJ6_numberOfTrailingZeros_0f7a4_67 rfl rfl _ (by first | exact iinc1 _ | exact iincx _ | rfl) ?_
            refine g_iload0 71 rfl dJ6_numberOfTrailingZeros_0f7a4_70 ?_
            refine g_iconst 72 rfl (v := 2) dJ6_numberOfTrailingZeros_0f7a4_71 (by decide) ?_
            refine g_iushr 73 rfl dJ6_numberOfTrailingZeros_0f7a4_72 ?_
            refine g_istore0 74 rfl dJ6_numberOfTrailingZeros_0f7a4_73 rfl ?_
            refine g_iload1 75 rfl dJ6_numberOfTrailingZeros_0f7a4_74 ?_
            refine g_iload0 76 rfl dJ6_numberOfTrailingZeros_0f7a4_75 ?_
            refine g_iconst 77 rfl (v := 1) dJ6_numberOfTrailingZeros_0f7a4_76 (by decide) ?_
            refine g_iushr 78 rfl dJ6_numberOfTrailingZeros_0f7a4_77 ?_
            refine g_iadd 79 rfl dJ6_numberOfTrailingZeros_0f7a4_78 ?_
            refine g_iret rfl dJ6_numberOfTrailingZeros_0f7a4_79 ?_
            refine ⟨?_, rfl⟩
            simp only [nz0, nz1, nz2, nz3, nz4, ush, *, if_true, if_false]
      · refine g_iinc1 44 rfl dJ6_numberOfTrailingZeros_0f7a4_41 rfl rfl _ (by first | exact iinc1 _ | exact iincx _ | rfl) ?_
        refine g_iload0 45 rfl dJ6_numberOfTrailingZeros_0f7a4_44 ?_
        refine g_bipush 47 rfl (v := 8) dJ6_numberOfTrailingZeros_0f7a4_45 (by decide) ?_
        refine g_iushr 48 rfl dJ6_numberOfTrailingZeros_0f7a4_47 ?_
        refine g_istore0 49 rfl dJ6_numberOfTrailingZeros_0f7a4_48 rfl ?_
        refine g_iload0 50 rfl dJ6_numberOfTrailingZeros_0f7a4_49 ?_
        refine g_bipush 52 rfl (v := 16) dJ6_numberOfTrailingZeros_0f7a4_50 (by decide) ?_
        refine g_cmple 62 55 rfl dJ6_numberOfTrailingZeros_0f7a4_52 (by decide) (fun h52 => ?_) (fun h52 => ?_)
        · refine g_iload0 63 rfl dJ6_numberOfTrailingZeros_0f7a4_62 ?_
          refine g_iconst 64 rfl (v := 4) dJ6_numberOfTrailingZeros_0f7a4_63 (by decide) ?_
          refine g_cmple 74 67 rfl dJ6_numberOfTrailingZeros_0f7a4_64 (by decide) (fun h64 => ?_) (fun h64 => ?_)
          · refine g_iload1 75 rfl dJ6_numberOfTrailingZeros_0f7a4_74 ?_
            refine g_iload0 76 rfl dJ6_numberOfTrailingZeros_0f7a4_75 ?_
            refine g_iconst 77 rfl (v := 1) dJ6_numberOfTrailingZeros_0f7a4_76 (by decide) ?_
            refine g_iushr 78 rfl dJ6_numberOfTrailingZeros_0f7a4_77 ?_
            refine g_iadd 79 rfl dJ6_numberOfTrailingZeros_0f7a4_78 ?_
            refine g_iret rfl dJ6_numberOfTrailingZeros_0f7a4_79 ?_
            refine ⟨?_, rfl⟩
            simp only [nz0, nz1, nz2, nz3, nz4, ush, *, if_true, if_false]
          · refine g_iinc1 70 rfl dJ6_numberOfTrailingZeros_0f7a4_67 rfl rfl _ (by first | exact iinc1 _ | exact iincx _ | rfl) ?_
            refine g_iload0 71 rfl dJ6_numberOfTrailingZeros_0f7a4_70 ?_
            refine g_iconst 72 rfl (v := 2) dJ6_numberOfTrailingZeros_0f7a4_71 (by decide) ?_
            refine g_iushr 73 rfl dJ6_numberOfTrailingZeros_0f7a4_72 ?_
            refine g_istore0 74 rfl dJ6_numberOfTrailingZeros_0f7a4_73 rfl ?_
            refine g_iload1 75 rfl dJ6_numberOfTrailingZeros_0f7a4_74 ?_
            refine g_iload0 76 rfl dJ6_numberOfTrailingZeros_0f7a4_75 ?_
            refine g_iconst 77 rfl (v := 1) dJ6_numberOfTrailingZeros_0f7a4_76 (by decide) ?_
            refine g_iushr 78 rfl dJ6_numberOfTrailingZeros_0f7a4_77 ?_
            refine g_iadd 79 rfl dJ6_numberOfTrailingZeros_0f7a4_78 ?_
            refine g_iret rfl dJ6_numberOfTrailingZeros_0f7a4_79 ?_
            refine ⟨?_, rfl⟩
            simp only [nz0, nz1, nz2, nz3, nz4, ush, *, if_true, if_false]
        · refine g_iinc1 58 rfl dJ6_numberOfTrailingZeros_0f7a4_55 rfl rfl _ (by first | exact iinc1 _ | exact iincx _ | rfl) ?_
          refine g_iload0 59 rfl dJ6_numberOfTrailingZeros_0f7a4_58 ?_
          refine g_iconst 60 rfl (v := 4) dJ6_numberOfTrailingZeros_0f7a4_59 (by decide) ?_
          refine g_iushr 61 rfl dJ6_numberOfTrailingZeros_0f7a4_60 ?_
          refine g_istore0 62 rfl dJ6_numberOfTrailingZeros_0f7a4_61 rfl ?_
          refine g_iload0 63 rfl dJ6_numberOfTrailingZeros_0f7a4_62 ?_
          refine g_iconst 64 rfl (v := 4) dJ6_numberOfTrailingZeros_0f7a4_63 (by decide) ?_
          refine g_cmple 74 67 rfl dJ6_numberOfTrailingZeros_0f7a4_64 (by decide) (fun h64 => ?_) (fun h64 => ?_)
          · refine g_iload1 75 rfl dJ6_numberOfTrailingZeros_0f7a4_74 ?_
            refine g_iload0 76 rfl dJ6_numberOfTrailingZeros_0f7a4_75 ?_
            refine g_iconst 77 rfl (v := 1) dJ6_numberOfTrailingZeros_0f7a4_76 (by decide) ?_
            refine g_iushr 78 rfl dJ6_numberOfTrailingZeros_0f7a4_77 ?_
            refine g_iadd 79 rfl dJ6_numberOfTrailingZeros_0f7a4_78 ?_
            refine g_iret rfl dJ6_numberOfTrailingZeros_0f7a4_79 ?_
            refine ⟨?_, rfl⟩
            simp only [nz0, nz1, nz2, nz3, nz4, ush, *, if_true, if_false]
          · refine g_iinc1 70 rfl dJ6_numberOfTrailingZeros_0f7a4_67 rfl rfl _ (by first | exact iinc1 _ | exact iincx _ | rfl) ?_
            refine g_iload0 71 rfl dJ6_numberOfTrailingZeros_0f7a4_70 ?_
            refine g_iconst 72 rfl (v := 2) dJ6_numberOfTrailingZeros_0f7a4_71 (by decide) ?_
            refine g_iushr 73 rfl dJ6_numberOfTrailingZeros_0f7a4_72 ?_
            refine g_istore0 74 rfl dJ6_numberOfTrailingZeros_0f7a4_73 rfl ?_
            refine g_iload1 75 rfl dJ6_numberOfTrailingZeros_0f7a4_74 ?_
            refine g_iload0 76 rfl dJ6_numberOfTrailingZeros_0f7a4_75 ?_
            refine g_iconst 77 rfl (v := 1) dJ6_numberOfTrailingZeros_0f7a4_76 (by decide) ?_
            refine g_iushr 78 rfl dJ6_numberOfTrailingZeros_0f7a4_77 ?_
            refine g_iadd 79 rfl dJ6_numberOfTrailingZeros_0f7a4_78 ?_
            refine g_iret rfl dJ6_numberOfTrailingZeros_0f7a4_79 ?_
            refine ⟨?_, rfl⟩
            simp only [nz0, nz1, nz2, nz3, nz4, ush, *, if_true, if_false]
  · refine g_iload0 13 rfl dJ6_numberOfTrailingZeros_0f7a4_12 ?_
    refine g_bipush 15 rfl (v := 32) dJ6_numberOfTrailingZeros_0f7a4_13 (by decide) ?_
    refine g_iand 16 rfl dJ6_numberOfTrailingZeros_0f7a4_15 ?_
    refine g_iret rfl dJ6_numberOfTrailingZeros_0f7a4_16 ?_
    refine ⟨?_, rfl⟩
    simp only [nz0, nz1, nz2, nz3, nz4, ush, *, if_true, if_false]
/-- the heap: how many, their sizes, what lies below each -/
def bel (z : Nat → Int32) : Nat → Int32
  | 0 => 0
  | i + 1 => bel z i + z i
def Hp (M : Mm) (m : Nat) (z : Nat → Int32) : Prop := m ≤ 10 ∧ M.1 42 2 = nI m ∧ ∀ i, i < m → M.1 43 i = z i ∧ M.1 44 i = bel z i
def wid (z : Nat → Int32) (b : Nat) : Nat → Int32
  | 0 => 0
  | k + 1 => wid z b k + (if b / 2 ^ k % 2 = 1 then z k else 0)
set_option maxRecDepth 100000 in
theorem bits : ∀ b, b < 1023 → ∀ k, k < 10 → (k < tz (b + 1) → (b + 1) / 2 ^ k % 2 = 0 ∧ b / 2 ^ k % 2 = 1) ∧ (k = tz (b + 1) → (b + 1) / 2 ^ k % 2 = 1 ∧ b / 2 ^ k % 2 = 0) ∧ (tz (b + 1) < k → (b + 1) / 2 ^ k % 2 = b / 2 ^ k % 2) := by decide +kernel
theorem wid_up {z : Nat → Int32} {b : Nat} (hb : b < 1023) : ∀ m, m ≤ 10 → wid z (b + 1) m + bel z (if m ≤ tz (b + 1) then m else tz (b + 1)) = wid z b m + (if tz (b + 1) < m then z (tz (b + 1)) else 0)
  | 0, _ => by simp [wid, bel]
  | m + 1, hm => by
    have ih := wid_up (z := z) hb m (by omega)
    obtain ⟨h1, h2, h3⟩ := bits b hb m (by omega)
    rw [wid, wid]
    rcases Nat.lt_trichotomy m (tz (b + 1)) with h | h | h
    · rw [if_neg (show ¬ (b + 1) / 2 ^ m % 2 = 1 by rw [(h1 h).1]; decide), if_pos (h1 h).2, if_pos (show m + 1 ≤ tz (b + 1) by omega), if_neg (show ¬ tz (b + 1) < m + 1 by omega)]
      rw [if_pos (by omega), if_neg (by omega)] at ih
      rw [bel, Int32.add_zero, Int32.add_zero, ← Int32.add_assoc, ih, Int32.add_zero]
    · rw [if_pos (h2 h).1, if_neg (show ¬ b / 2 ^ m % 2 = 1 by rw [(h2 h).2]; decide), if_neg (show ¬ m + 1 ≤ tz (b + 1) by omega), if_pos (show tz (b + 1) < m + 1 by omega), ← h]
      rw [if_pos (by omega), if_neg (by omega)] at ih
      rw [Int32.add_zero] at ih ⊢
      rw [Int32.add_assoc, Int32.add_comm (z m), ← Int32.add_assoc, ih]
    · rw [h3 h, if_neg (show ¬ m + 1 ≤ tz (b + 1) by omega), if_pos (show tz (b + 1) < m + 1 by omega)]
      rw [if_neg (by omega), if_pos (by omega)] at ih
      rw [Int32.add_assoc, Int32.add_comm (if b / 2 ^ m % 2 = 1 then z m else 0), ← Int32.add_assoc, ih, Int32.add_assoc, Int32.add_assoc, Int32.add_comm (z (tz (b + 1)))]
set_option maxRecDepth 100000 in
theorem tz_lt : ∀ b, b < 1023 → ∀ m, m ≤ 10 → b + 1 < 2 ^ m → tz (b + 1) < m := by decide +kernel
theorem wid_st {z : Nat → Int32} {b m : Nat} (hm : m ≤ 10) (hb : b + 1 < 2 ^ m) : wid z (b + 1) m = wid z b m + (z (tz (b + 1)) - bel z (tz (b + 1))) := by
  have h1023 : b < 1023 := by
    have : 2 ^ m ≤ 2 ^ 10 := Nat.pow_le_pow_right (by decide) hm
    omega
  have ht := tz_lt b h1023 m hm hb
  have h := wid_up (z := z) h1023 m hm
  rw [if_neg (by omega), if_pos ht] at h
  have h2 : wid z (b + 1) m + bel z (tz (b + 1)) - bel z (tz (b + 1)) = wid z b m + z (tz (b + 1)) - bel z (tz (b + 1)) := by rw [h]
  rw [Int32.add_sub_cancel] at h2
  rw [h2, Int32.sub_eq_add_neg, Int32.sub_eq_add_neg, Int32.add_assoc]
/-- the better of two sets for a hole -/
def betr (z : Nat → Int32) (m : Nat) (b best : Nat) : Prop := wid z best m < wid z b m ∨ (wid z b m = wid z best m ∧ pcn b < pcn best)
noncomputable def choN (z : Nat → Int32) (m : Nat) (hole : Int32) : Nat → Nat
  | 0 => 0
  | b + 1 => @ite _ (wid z (b + 1) m ≤ hole ∧ betr z m (b + 1) (choN z m hole b)) (Classical.propDecidable _) (b + 1) (choN z m hole b)
theorem choN_le {z : Nat → Int32} {m : Nat} {hole : Int32} : ∀ b, choN z m hole b ≤ b
  | 0 => Nat.le_refl _
  | b + 1 => by
    rw [choN]
    split
    · exact Nat.le_refl _
    · exact Nat.le_succ_of_le (choN_le b)
set_option maxRecDepth 100000 in
theorem pcn_le : ∀ b, b < 1024 → pcn b ≤ 10 := by decide +kernel
theorem ok_X1_isBetter {l : Launch} {M : Mm} {b best m : Nat} {z : Nat → Int32} (q3 : M.1 42 3 = nI best) (q4 : M.1 42 4 = wid z best m) (hb : b < 1024) (hb2 : best < 1024) : Ok GC l mX1_isBetter [.ref 42, .int (nI b), .int (wid z b m)] M (fun r M' => M' = M ∧ ((r = some (.inl 1) ∧ betr z m b best) ∨ (r = some (.inl 0) ∧ ¬ betr z m b best))) := by
  have p1 := pcn_le b hb
  have p2 := pcn_le best hb2
  refine ok_of (by decide +kernel) rfl rfl ?_
  refine g_iload2 1 rfl dX1_isBetter_0 ?_
  refine g_aload0 2 rfl dX1_isBetter_1 ?_
  refine g_getI 5 rfl fX1_25 (by first | rfl | exact st_o hb | exact st_1 hb | exact st_2 hb | exact st_3 hb | exact st_4 hb | exact st_5 hb | exact st_o hb2 | exact st_1 hb2 | exact st_2 hb2 | exact st_3 hb2 | exact st_4 hb2 | exact st_5 hb2) rfl dX1_isBetter_2 ?_
  try simp only [q3, q4]
  refine g_cmpeq 22 8 rfl dX1_isBetter_5 (by decide) (fun h5 => ?_) (fun h5 => ?_)
  · refine g_iload1 23 rfl dX1_isBetter_22 ?_
    refine g_callSi 26 1 rfl kX1_38 dX1_isBetter_23 ⟨rfl, rfl⟩ (ok_bitCount hb) rfl rfl rfl ?_
    refine g_aload0 27 rfl dX1_isBetter_26 ?_
    refine g_getI 30 rfl fX1_22 (by first | rfl | exact st_o hb | exact st_1 hb | exact st_2 hb | exact st_3 hb | exact st_4 hb | exact st_5 hb | exact st_o hb2 | exact st_1 hb2 | exact st_2 hb2 | exact st_3 hb2 | exact st_4 hb2 | exact st_5 hb2) rfl dX1_isBetter_27 ?_
    try simp only [q3, q4]
    refine g_callSi 33 1 rfl kX1_38 dX1_isBetter_30 ⟨rfl, rfl⟩ (ok_bitCount hb2) rfl rfl rfl ?_
    refine g_cmpge 40 36 rfl dX1_isBetter_33 (by decide) (fun h33 => ?_) (fun h33 => ?_)
    · refine g_iconst 41 rfl (v := 0) dX1_isBetter_40 (by decide) ?_
      refine g_zret rfl dX1_isBetter_41 (by first | exact Or.inl rfl | exact Or.inr rfl | assumption) ?_
      refine ⟨rfl, ?_⟩
      first | exact Or.inl ⟨rfl, Or.inl (Int32.not_le.mp h13)⟩ | exact Or.inr ⟨rfl, fun q => q.elim (fun q => absurd h13 (Int32.not_le.mpr q)) (fun q => h5 q.1)⟩ | exact Or.inl ⟨rfl, Or.inr ⟨h5, Nat.lt_of_not_le (fun q => h33 (nI_le q (by omega)))⟩⟩ | exact Or.inr ⟨rfl, fun q => q.elim (fun q => absurd q (by rw [h5]; exact fun z => Int32.lt_irrefl z)) (fun q => absurd h33 (nI_ge q.2 (by omega)))⟩
    · refine g_iconst 37 rfl (v := 1) dX1_isBetter_36 (by decide) ?_
      refine g_goto 41 dX1_isBetter_37 (by decide) ?_
      refine g_zret rfl dX1_isBetter_41 (by first | exact Or.inl rfl | exact Or.inr rfl | assumption) ?_
      refine ⟨rfl, ?_⟩
      first | exact Or.inl ⟨rfl, Or.inl (Int32.not_le.mp h13)⟩ | exact Or.inr ⟨rfl, fun q => q.elim (fun q => absurd h13 (Int32.not_le.mpr q)) (fun q => h5 q.1)⟩ | exact Or.inl ⟨rfl, Or.inr ⟨h5, Nat.lt_of_not_le (fun q => h33 (nI_le q (by omega)))⟩⟩ | exact Or.inr ⟨rfl, fun q => q.elim (fun q => absurd q (by rw [h5]; exact fun z => Int32.lt_irrefl z)) (fun q => absurd h33 (nI_ge q.2 (by omega)))⟩
  · refine g_iload2 9 rfl dX1_isBetter_8 ?_
    refine g_aload0 10 rfl dX1_isBetter_9 ?_
    refine g_getI 13 rfl fX1_25 (by first | rfl | exact st_o hb | exact st_1 hb | exact st_2 hb | exact st_3 hb | exact st_4 hb | exact st_5 hb | exact st_o hb2 | exact st_1 hb2 | exact st_2 hb2 | exact st_3 hb2 | exact st_4 hb2 | exact st_5 hb2) rfl dX1_isBetter_10 ?_
    try simp only [q3, q4]
    refine g_cmple 20 16 rfl dX1_isBetter_13 (by decide) (fun h13 => ?_) (fun h13 => ?_)
    · refine g_iconst 21 rfl (v := 0) dX1_isBetter_20 (by decide) ?_
      refine g_zret rfl dX1_isBetter_21 (by first | exact Or.inl rfl | exact Or.inr rfl | assumption) ?_
      refine ⟨rfl, ?_⟩
      first | exact Or.inl ⟨rfl, Or.inl (Int32.not_le.mp h13)⟩ | exact Or.inr ⟨rfl, fun q => q.elim (fun q => absurd h13 (Int32.not_le.mpr q)) (fun q => h5 q.1)⟩ | exact Or.inl ⟨rfl, Or.inr ⟨h5, Nat.lt_of_not_le (fun q => h33 (nI_le q (by omega)))⟩⟩ | exact Or.inr ⟨rfl, fun q => q.elim (fun q => absurd q (by rw [h5]; exact fun z => Int32.lt_irrefl z)) (fun q => absurd h33 (nI_ge q.2 (by omega)))⟩
    · refine g_iconst 17 rfl (v := 1) dX1_isBetter_16 (by decide) ?_
      refine g_goto 21 dX1_isBetter_17 (by decide) ?_
      refine g_zret rfl dX1_isBetter_21 (by first | exact Or.inl rfl | exact Or.inr rfl | assumption) ?_
      refine ⟨rfl, ?_⟩
      first | exact Or.inl ⟨rfl, Or.inl (Int32.not_le.mp h13)⟩ | exact Or.inr ⟨rfl, fun q => q.elim (fun q => absurd h13 (Int32.not_le.mpr q)) (fun q => h5 q.1)⟩ | exact Or.inl ⟨rfl, Or.inr ⟨h5, Nat.lt_of_not_le (fun q => h33 (nI_le q (by omega)))⟩⟩ | exact Or.inr ⟨rfl, fun q => q.elim (fun q => absurd q (by rw [h5]; exact fun z => Int32.lt_irrefl z)) (fun q => absurd h33 (nI_ge q.2 (by omega)))⟩
theorem one_shl : ∀ m, m ≤ 10 → (1 : Int32) <<< (nI m &&& 31) = nI (2 ^ m) := by decide +kernel
/-- what choose leaves -/
abbrev qCh (z : Nat → Int32) (m : Nat) (hole : Int32) (M : Mm) : Rr → Mm → Prop := fun r M' => r = none ∧ ∃ f, M' = setA M 42 f ∧ f 2 = nI m ∧ f 3 = nI (choN z m hole (2 ^ m - 1)) ∧ f 4 = wid z (choN z m hole (2 ^ m - 1)) m
theorem ok_X1_choose {l : Launch} {M : Mm} {m : Nat} {z : Nat → Int32} {hole : Int32} (hh : Hp M m z) (hho : 0 ≤ hole) : Ok GC l mX1_choose [.ref 42, .int hole] M (qCh z m hole M) := by
  obtain ⟨hm, h2, hz⟩ := hh
  have hpw : 2 ^ m ≤ 1024 := Nat.le_trans (Nat.pow_le_pow_right (by decide) hm) (by decide)
  have hpw1 : 1 ≤ 2 ^ m := Nat.one_le_two_pow
  have w0 : ∀ k, wid z 0 k = 0 := by
    intro k
    induction k with
    | zero => rfl
    | succ k ih => rw [wid, ih]; simp
  refine ok_of (by decide +kernel) rfl rfl ?_
  refine g_mem (setA M 42 (M.1 42)) sA_id.symm ?_
  refine g_aload0 1 rfl dX1_choose_0 ?_
  refine g_iconst 2 rfl (v := 0) dX1_choose_1 (by decide) ?_
  refine g_putI 5 rfl fX1_22 (by first | rfl | exact st_o hb | exact st_1 hb | exact st_2 hb | exact st_3 hb | exact st_4 hb | exact st_5 hb | exact st_o hb2 | exact st_1 hb2 | exact st_2 hb2 | exact st_3 hb2 | exact st_4 hb2 | exact st_5 hb2) rfl dX1_choose_2 ?_
  try simp only [sA_s, sA_sA]
  refine g_aload0 6 rfl dX1_choose_5 ?_
  refine g_iconst 7 rfl (v := 0) dX1_choose_6 (by decide) ?_
  refine g_putI 10 rfl fX1_25 (by first | rfl | exact st_o hb | exact st_1 hb | exact st_2 hb | exact st_3 hb | exact st_4 hb | exact st_5 hb | exact st_o hb2 | exact st_1 hb2 | exact st_2 hb2 | exact st_3 hb2 | exact st_4 hb2 | exact st_5 hb2) rfl dX1_choose_7 ?_
  try simp only [sA_s, sA_sA]
  refine g_iconst 11 rfl (v := 0) dX1_choose_10 (by decide) ?_
  refine g_istore2 12 rfl dX1_choose_11 rfl rfl ?_
  refine g_iconst 13 rfl (v := 1) dX1_choose_12 (by decide) ?_
  refine g_aload0 14 rfl dX1_choose_13 ?_
  refine g_getI 17 rfl fX1_18 (by first | rfl | exact st_o hb | exact st_1 hb | exact st_2 hb | exact st_3 hb | exact st_4 hb | exact st_5 hb | exact st_o hb2 | exact st_1 hb2 | exact st_2 hb2 | exact st_3 hb2 | exact st_4 hb2 | exact st_5 hb2) rfl dX1_choose_14 ?_
  try simp only [sA_s, sA_sA]
  have e2 : upd (upd (M.1 42) 3 0) 4 0 2 = nI m := by rw [pk_un (by decide), pk_un (by decide), h2]
  have e3 : upd (upd (M.1 42) 3 0) 4 0 3 = nI (choN z m hole 0) := by rw [pk_un (by decide), upd_at]; rfl
  have e4 : upd (upd (M.1 42) 3 0) 4 0 4 = wid z (choN z m hole 0) m := by rw [upd_at, choN, w0]
  rw [e2]
  generalize upd (upd (M.1 42) 3 0) 4 0 = f at e2 e3 e4 ⊢
  refine g_ishl 18 rfl dX1_choose_17 ?_
  have esh := one_shl m hm
  rw [esh]
  refine g_istore3 19 rfl dX1_choose_18 rfl rfl ?_
  refine g_iconst 20 rfl (v := 1) dX1_choose_19 (by decide) ?_
  refine g_istore4 22 rfl dX1_choose_20 rfl rfl ?_
  have r43 : ∀ f, (setA M 42 f).1 43 = M.1 43 := fun f => sA_n (by decide)
  have r44 : ∀ f, (setA M 42 f).1 44 = M.1 44 := fun f => sA_n (by decide)
  refine g_lv [.ref 42, .int hole, .int (wid z 0 m), .int (nI (2 ^ m)), .int (nI (0 + 1)), .null] (by rw [w0]; rfl) ?_
  have key := loop_up (P := fun b => ∀ f, f 2 = nI m → f 3 = nI (choN z m hole b) → f 4 = wid z (choN z m hole b) m → Go GC l mX1_choose 22 [.ref 42, .int hole, .int (wid z b m), .int (nI (2 ^ m)), .int (nI (b + 1)), .null] [] (setA M 42 f) (qCh z m hole M)) (2 ^ m - 1) ?_ ?_ 0 (Nat.zero_le _)
  · exact key f e2 e3 e4
  · intro f e2 e3 e4
    rw [show 2 ^ m - 1 + 1 = 2 ^ m by omega]
    refine g_iload4 24 rfl dX1_choose_22 ?_
    refine g_iload3 25 rfl dX1_choose_24 ?_
    refine g_cmpge 94 28 rfl dX1_choose_25 (by decide) (fun h25 => ?_) (fun h => absurd (Int32.le_refl _) h)
    refine g_vret rfl dX1_choose_94 ?_
    exact ⟨rfl, f, rfl, e2, e3, e4⟩
  · intro b hb ih f e2 e3 e4
    have ht := tz_lt b (by omega) m hm (by omega)
    have hcl := choN_le (z := z) (m := m) (hole := hole) b
    have hst := wid_st (z := z) (b := b) hm (by omega)
    obtain ⟨z1, z2⟩ := hz (tz (b + 1)) ht
    refine g_iload4 24 rfl dX1_choose_22 ?_
    refine g_iload3 25 rfl dX1_choose_24 ?_
    refine g_cmpge 94 28 rfl dX1_choose_25 (by decide) (fun h => absurd h (nI_ge (show b + 1 < 2 ^ m by omega) (by omega))) (fun _ => ?_)
    refine g_iload4 30 rfl dX1_choose_28 ?_
    refine g_callSi 33 1 rfl kX1_28 dX1_choose_30 ⟨rfl, rfl⟩ (ok_ntz (by omega) (by omega)) rfl rfl rfl ?_
    refine g_istore5 35 rfl dX1_choose_33 rfl rfl ?_
    refine g_iload5 37 rfl dX1_choose_35 ?_
    refine g_aload0 38 rfl dX1_choose_37 ?_
    refine g_getI 41 rfl fX1_18 (by first | rfl | exact st_o hb | exact st_1 hb | exact st_2 hb | exact st_3 hb | exact st_4 hb | exact st_5 hb | exact st_o hb2 | exact st_1 hb2 | exact st_2 hb2 | exact st_3 hb2 | exact st_4 hb2 | exact st_5 hb2) rfl dX1_choose_38 ?_
    try simp only [sA_s, sA_sA, r43, r44]
    rw [e2]
    refine g_cmpge 62 44 rfl dX1_choose_41 (by decide) (fun h => absurd h (nI_ge ht (by omega))) (fun h => ?_)
    refine g_iload2 45 rfl dX1_choose_44 ?_
    refine g_aload0 46 rfl dX1_choose_45 ?_
    refine g_getR 49 rfl fX1_9 (by first | rfl | exact st_o hb | exact st_1 hb | exact st_2 hb | exact st_3 hb | exact st_4 hb | exact st_5 hb | exact st_o hb2 | exact st_1 hb2 | exact st_2 hb2 | exact st_3 hb2 | exact st_4 hb2 | exact st_5 hb2) rfl dX1_choose_46 ?_
    refine g_iload5 51 rfl dX1_choose_49 ?_
    refine g_iald 52 rfl dX1_choose_51 (by first | rfl | exact st_o hb | exact st_1 hb | exact st_2 hb | exact st_3 hb | exact st_4 hb | exact st_5 hb | exact st_o hb2 | exact st_1 hb2 | exact st_2 hb2 | exact st_3 hb2 | exact st_4 hb2 | exact st_5 hb2) rfl rfl (by first | assumption | omega) ?_
    try simp only [sA_s, sA_sA, r43, r44]
    refine g_aload0 53 rfl dX1_choose_52 ?_
    refine g_getR 56 rfl fX1_15 (by first | rfl | exact st_o hb | exact st_1 hb | exact st_2 hb | exact st_3 hb | exact st_4 hb | exact st_5 hb | exact st_o hb2 | exact st_1 hb2 | exact st_2 hb2 | exact st_3 hb2 | exact st_4 hb2 | exact st_5 hb2) rfl dX1_choose_53 ?_
    refine g_iload5 58 rfl dX1_choose_56 ?_
    refine g_iald 59 rfl dX1_choose_58 (by first | rfl | exact st_o hb | exact st_1 hb | exact st_2 hb | exact st_3 hb | exact st_4 hb | exact st_5 hb | exact st_o hb2 | exact st_1 hb2 | exact st_2 hb2 | exact st_3 hb2 | exact st_4 hb2 | exact st_5 hb2) rfl rfl (by first | assumption | omega) ?_
    try simp only [sA_s, sA_sA, r43, r44]
    refine g_isub 60 rfl dX1_choose_59 ?_
    refine g_iadd 61 rfl dX1_choose_60 ?_
    rw [z1, z2, ← hst]
    refine g_istore2 62 rfl dX1_choose_61 rfl rfl ?_
    refine g_iload2 63 rfl dX1_choose_62 ?_
    refine g_iload1 64 rfl dX1_choose_63 ?_
    refine g_cmpgt 88 67 rfl dX1_choose_64 (by decide) (fun h64 => ?_) (fun h64 => ?_)
    · refine g_iinc4 91 rfl dX1_choose_88 rfl rfl _ (by first | exact iinc1 _ | exact iincx _ | rfl) ?_
      refine g_goto 22 dX1_choose_91 (by decide) ?_
      refine g_fg 5 ?_
      have ec : choN z m hole (b + 1) = choN z m hole b := by rw [choN, if_neg (fun q => absurd h64 (Int32.not_lt.mpr q.1))]
      exact ih f e2 (by rw [ec]; exact e3) (by rw [ec]; exact e4)
    · have q3 : (setA M 42 f).1 42 3 = nI (choN z m hole b) := by rw [sA_s]; exact e3
      have q4 : (setA M 42 f).1 42 4 = wid z (choN z m hole b) m := by rw [sA_s]; exact e4
      refine g_aload0 68 rfl dX1_choose_67 ?_
      refine g_iload4 70 rfl dX1_choose_68 ?_
      refine g_iload2 71 rfl dX1_choose_70 ?_
      refine g_callV 74 2 rfl kX1_34 (by first | rfl | exact st_o hb | exact st_1 hb | exact st_2 hb | exact st_3 hb | exact st_4 hb | exact st_5 hb | exact st_o hb2 | exact st_1 hb2 | exact st_2 hb2 | exact st_3 hb2 | exact st_4 hb2 | exact st_5 hb2) dX1_choose_71 ⟨rfl, rfl⟩ (ok_X1_isBetter q3 q4 (by omega) (by omega)) rfl rfl rfl (fun r M1 hq => ?_)
      obtain ⟨rfl, ⟨rfl, hbt⟩ | ⟨rfl, hbt⟩⟩ := hq
      try simp only [rV, Option.toList, List.cons_append, List.nil_append]
      · try simp only [rV, Option.toList, List.cons_append, List.nil_append]
        have ec : choN z m hole (b + 1) = b + 1 := by rw [choN, if_pos ⟨Int32.not_lt.mp h64, hbt⟩]
        refine g_ifeq 88 77 rfl dX1_choose_74 (by decide) (fun h => absurd h (by decide)) (fun _ => ?_)
        refine g_aload0 78 rfl dX1_choose_77 ?_
        refine g_iload4 80 rfl dX1_choose_78 ?_
        refine g_putI 83 rfl fX1_22 (by first | rfl | exact st_o hb | exact st_1 hb | exact st_2 hb | exact st_3 hb | exact st_4 hb | exact st_5 hb | exact st_o hb2 | exact st_1 hb2 | exact st_2 hb2 | exact st_3 hb2 | exact st_4 hb2 | exact st_5 hb2) rfl dX1_choose_80 ?_
        try simp only [sA_s, sA_sA, r43, r44]
        refine g_aload0 84 rfl dX1_choose_83 ?_
        refine g_iload2 85 rfl dX1_choose_84 ?_
        refine g_putI 88 rfl fX1_25 (by first | rfl | exact st_o hb | exact st_1 hb | exact st_2 hb | exact st_3 hb | exact st_4 hb | exact st_5 hb | exact st_o hb2 | exact st_1 hb2 | exact st_2 hb2 | exact st_3 hb2 | exact st_4 hb2 | exact st_5 hb2) rfl dX1_choose_85 ?_
        try simp only [sA_s, sA_sA, r43, r44]
        refine g_iinc4 91 rfl dX1_choose_88 rfl rfl _ (by first | exact iinc1 _ | exact iincx _ | rfl) ?_
        refine g_goto 22 dX1_choose_91 (by decide) ?_
        refine g_fg 5 ?_
        exact ih _ (by rw [pk_un (by decide), pk_un (by decide)]; exact e2) (by rw [pk_un (by decide), upd_at, ec]) (by rw [upd_at, ec])
      · try simp only [rV, Option.toList, List.cons_append, List.nil_append]
        have ec : choN z m hole (b + 1) = choN z m hole b := by rw [choN, if_neg (fun q => hbt q.2)]
        refine g_ifeq 88 77 rfl dX1_choose_74 (by decide) (fun _ => ?_) (fun h => absurd rfl h)
        refine g_iinc4 91 rfl dX1_choose_88 rfl rfl _ (by first | exact iinc1 _ | exact iincx _ | rfl) ?_
        refine g_goto 22 dX1_choose_91 (by decide) ?_
        refine g_fg 5 ?_
        exact ih f e2 (by rw [ec]; exact e3) (by rw [ec]; exact e4)
theorem bel_E {y z : Nat → Int32} : ∀ i, (∀ k, k < i → y k = z k) → bel y i = bel z i
  | 0, _ => rfl
  | i + 1, h => by rw [bel, bel, bel_E i (fun k hk => h k (by omega)), h i (by omega)]
/-- one more on the heap -/
abbrev qPut (m : Nat) (z : Nat → Int32) (v : Int32) (M : Mm) : Rr → Mm → Prop := fun r M' => r = none ∧ ∃ f g a, M' = setA (setA (setA M 42 f) 43 g) 44 a ∧ Hp M' (m + 1) (upd z m v)
theorem ok_X1_put {l : Launch} {M : Mm} {m : Nat} {z : Nat → Int32} {v : Int32} (hh : Hp M m z) (hm : m < 10) : Ok GC l mX1_put [.ref 42, .int v] M (qPut m z v M) := by
  obtain ⟨hm0, h2, hz⟩ := hh
  refine ok_of (by decide +kernel) rfl rfl ?_
  refine g_mem (setA (setA (setA M 42 (M.1 42)) 43 (M.1 43)) 44 (M.1 44)) (by rw [sA_id, sA_id, sA_id]) ?_
  have r2 : ∀ f g a, (setA (setA (setA M 42 f) 43 g) 44 a).1 42 = f := fun f g a => by rw [sA_n (by decide), sA_n (by decide), sA_s]
  have r3 : ∀ f g a, (setA (setA (setA M 42 f) 43 g) 44 a).1 43 = g := fun f g a => by rw [sA_n (by decide), sA_s]
  have r4 : ∀ f g a, (setA (setA (setA M 42 f) 43 g) 44 a).1 44 = a := fun f g a => by rw [sA_s]
  have w2 : ∀ f g a e, setA (setA (setA (setA M 42 f) 43 g) 44 a) 42 e = setA (setA (setA M 42 e) 43 g) 44 a := fun f g a e => by rw [sA_sw (by decide), sA_sw (h' := 42) (h := 43) (by decide), sA_sA]
  have w3 : ∀ f g a e, setA (setA (setA (setA M 42 f) 43 g) 44 a) 43 e = setA (setA (setA M 42 f) 43 e) 44 a := fun f g a e => by rw [sA_sw (by decide), sA_sA]
  have w4 : ∀ f g a e, setA (setA (setA (setA M 42 f) 43 g) 44 a) 44 e = setA (setA (setA M 42 f) 43 g) 44 e := fun f g a e => by rw [sA_sA]
  have fin : ∀ v', v' = bel (upd z m v) m → Hp (setA (setA (setA M 42 (upd (M.1 42) 2 (nI m + 1))) 43 (upd (M.1 43) m v)) 44 (upd (M.1 44) m v')) (m + 1) (upd z m v) := by
    intro v' hv'
    refine ⟨by omega, by rw [r2, upd_at, nI_1], fun i hi => ?_⟩
    rw [r3, r4]
    by_cases him : i < m
    · rw [upd_lt him, upd_lt him, upd_lt him]
      exact ⟨(hz i him).1, by rw [(hz i him).2]; exact bel_E i (fun k hk => (pk_un (by omega)).symm)⟩
    · have : i = m := by omega
      subst this
      rw [upd_at, upd_at, upd_at]
      exact ⟨rfl, hv'⟩
  refine g_aload0 1 rfl dX1_put_0 ?_
  refine g_getI 4 rfl fX1_18 (by first | rfl | exact st_o hb | exact st_1 hb | exact st_2 hb | exact st_3 hb | exact st_4 hb | exact st_5 hb | exact st_o hb2 | exact st_1 hb2 | exact st_2 hb2 | exact st_3 hb2 | exact st_4 hb2 | exact st_5 hb2) rfl dX1_put_1 ?_
  try simp only [r2, r3, r4, w2, w3, w4, h2]
  refine g_iflt 79 7 rfl dX1_put_4 (by decide) (fun h => absurd h (nI_pos (by omega))) (fun _ => ?_)
  refine g_aload0 8 rfl dX1_put_7 ?_
  refine g_getI 11 rfl fX1_18 (by first | rfl | exact st_o hb | exact st_1 hb | exact st_2 hb | exact st_3 hb | exact st_4 hb | exact st_5 hb | exact st_o hb2 | exact st_1 hb2 | exact st_2 hb2 | exact st_3 hb2 | exact st_4 hb2 | exact st_5 hb2) rfl dX1_put_8 ?_
  try simp only [r2, r3, r4, w2, w3, w4, h2]
  refine g_bipush 13 rfl (v := 10) dX1_put_11 (by decide) ?_
  refine g_cmpge 79 16 rfl dX1_put_13 (by decide) (fun h => absurd h (nI_ge (b := 10) hm (by decide))) (fun h => ?_)
  refine g_aload0 17 rfl dX1_put_16 ?_
  refine g_getR 20 rfl fX1_9 (by first | rfl | exact st_o hb | exact st_1 hb | exact st_2 hb | exact st_3 hb | exact st_4 hb | exact st_5 hb | exact st_o hb2 | exact st_1 hb2 | exact st_2 hb2 | exact st_3 hb2 | exact st_4 hb2 | exact st_5 hb2) rfl dX1_put_17 ?_
  refine g_aload0 21 rfl dX1_put_20 ?_
  refine g_getI 24 rfl fX1_18 (by first | rfl | exact st_o hb | exact st_1 hb | exact st_2 hb | exact st_3 hb | exact st_4 hb | exact st_5 hb | exact st_o hb2 | exact st_1 hb2 | exact st_2 hb2 | exact st_3 hb2 | exact st_4 hb2 | exact st_5 hb2) rfl dX1_put_21 ?_
  try simp only [r2, r3, r4, w2, w3, w4, h2]
  refine g_iload1 25 rfl dX1_put_24 ?_
  refine g_iast 26 rfl dX1_put_25 (by first | rfl | exact st_o hb | exact st_1 hb | exact st_2 hb | exact st_3 hb | exact st_4 hb | exact st_5 hb | exact st_o hb2 | exact st_1 hb2 | exact st_2 hb2 | exact st_3 hb2 | exact st_4 hb2 | exact st_5 hb2) rfl rfl (by first | assumption | omega) ?_
  try simp only [r2, r3, r4, w2, w3, w4, h2]
  refine g_aload0 27 rfl dX1_put_26 ?_
  refine g_getR 30 rfl fX1_15 (by first | rfl | exact st_o hb | exact st_1 hb | exact st_2 hb | exact st_3 hb | exact st_4 hb | exact st_5 hb | exact st_o hb2 | exact st_1 hb2 | exact st_2 hb2 | exact st_3 hb2 | exact st_4 hb2 | exact st_5 hb2) rfl dX1_put_27 ?_
  refine g_aload0 31 rfl dX1_put_30 ?_
  refine g_getI 34 rfl fX1_18 (by first | rfl | exact st_o hb | exact st_1 hb | exact st_2 hb | exact st_3 hb | exact st_4 hb | exact st_5 hb | exact st_o hb2 | exact st_1 hb2 | exact st_2 hb2 | exact st_3 hb2 | exact st_4 hb2 | exact st_5 hb2) rfl dX1_put_31 ?_
  try simp only [r2, r3, r4, w2, w3, w4, h2]
  refine g_aload0 35 rfl dX1_put_34 ?_
  refine g_getI 38 rfl fX1_18 (by first | rfl | exact st_o hb | exact st_1 hb | exact st_2 hb | exact st_3 hb | exact st_4 hb | exact st_5 hb | exact st_o hb2 | exact st_1 hb2 | exact st_2 hb2 | exact st_3 hb2 | exact st_4 hb2 | exact st_5 hb2) rfl dX1_put_35 ?_
  try simp only [r2, r3, r4, w2, w3, w4, h2]
  refine g_ifne 45 41 rfl dX1_put_38 (by decide) (fun h38 => ?_) (fun h38 => ?_)
  · obtain ⟨k, rfl⟩ : ∃ k, m = k + 1 := ⟨m - 1, by have : m ≠ 0 := fun q => h38 (by rw [q]; rfl); omega⟩
    refine g_aload0 46 rfl dX1_put_45 ?_
    refine g_getR 49 rfl fX1_15 (by first | rfl | exact st_o hb | exact st_1 hb | exact st_2 hb | exact st_3 hb | exact st_4 hb | exact st_5 hb | exact st_o hb2 | exact st_1 hb2 | exact st_2 hb2 | exact st_3 hb2 | exact st_4 hb2 | exact st_5 hb2) rfl dX1_put_46 ?_
    refine g_aload0 50 rfl dX1_put_49 ?_
    refine g_getI 53 rfl fX1_18 (by first | rfl | exact st_o hb | exact st_1 hb | exact st_2 hb | exact st_3 hb | exact st_4 hb | exact st_5 hb | exact st_o hb2 | exact st_1 hb2 | exact st_2 hb2 | exact st_3 hb2 | exact st_4 hb2 | exact st_5 hb2) rfl dX1_put_50 ?_
    try simp only [r2, r3, r4, w2, w3, w4, h2]
    refine g_iconst 54 rfl (v := 1) dX1_put_53 (by decide) ?_
    refine g_isub 55 rfl dX1_put_54 ?_
    rw [nI_pred]
    refine g_iald 56 rfl dX1_put_55 (by first | rfl | exact st_o hb | exact st_1 hb | exact st_2 hb | exact st_3 hb | exact st_4 hb | exact st_5 hb | exact st_o hb2 | exact st_1 hb2 | exact st_2 hb2 | exact st_3 hb2 | exact st_4 hb2 | exact st_5 hb2) rfl rfl (by first | assumption | omega) ?_
    try simp only [r2, r3, r4, w2, w3, w4, h2]
    refine g_aload0 57 rfl dX1_put_56 ?_
    refine g_getR 60 rfl fX1_9 (by first | rfl | exact st_o hb | exact st_1 hb | exact st_2 hb | exact st_3 hb | exact st_4 hb | exact st_5 hb | exact st_o hb2 | exact st_1 hb2 | exact st_2 hb2 | exact st_3 hb2 | exact st_4 hb2 | exact st_5 hb2) rfl dX1_put_57 ?_
    refine g_aload0 61 rfl dX1_put_60 ?_
    refine g_getI 64 rfl fX1_18 (by first | rfl | exact st_o hb | exact st_1 hb | exact st_2 hb | exact st_3 hb | exact st_4 hb | exact st_5 hb | exact st_o hb2 | exact st_1 hb2 | exact st_2 hb2 | exact st_3 hb2 | exact st_4 hb2 | exact st_5 hb2) rfl dX1_put_61 ?_
    try simp only [r2, r3, r4, w2, w3, w4, h2]
    refine g_iconst 65 rfl (v := 1) dX1_put_64 (by decide) ?_
    refine g_isub 66 rfl dX1_put_65 ?_
    rw [nI_pred]
    refine g_iald 67 rfl dX1_put_66 (by first | rfl | exact st_o hb | exact st_1 hb | exact st_2 hb | exact st_3 hb | exact st_4 hb | exact st_5 hb | exact st_o hb2 | exact st_1 hb2 | exact st_2 hb2 | exact st_3 hb2 | exact st_4 hb2 | exact st_5 hb2) rfl rfl (by first | assumption | omega) ?_
    try simp only [r2, r3, r4, w2, w3, w4, h2]
    refine g_iadd 68 rfl dX1_put_67 ?_
    refine g_iast 69 rfl dX1_put_68 (by first | rfl | exact st_o hb | exact st_1 hb | exact st_2 hb | exact st_3 hb | exact st_4 hb | exact st_5 hb | exact st_o hb2 | exact st_1 hb2 | exact st_2 hb2 | exact st_3 hb2 | exact st_4 hb2 | exact st_5 hb2) rfl rfl (by first | assumption | omega) ?_
    try simp only [r2, r3, r4, w2, w3, w4, h2]
    refine g_aload0 70 rfl dX1_put_69 ?_
    refine g_dup 71 rfl dX1_put_70 rfl ?_
    refine g_getI 74 rfl fX1_18 (by first | rfl | exact st_o hb | exact st_1 hb | exact st_2 hb | exact st_3 hb | exact st_4 hb | exact st_5 hb | exact st_o hb2 | exact st_1 hb2 | exact st_2 hb2 | exact st_3 hb2 | exact st_4 hb2 | exact st_5 hb2) rfl dX1_put_71 ?_
    try simp only [r2, r3, r4, w2, w3, w4, h2]
    refine g_iconst 75 rfl (v := 1) dX1_put_74 (by decide) ?_
    refine g_iadd 76 rfl dX1_put_75 ?_
    refine g_putI 79 rfl fX1_18 (by first | rfl | exact st_o hb | exact st_1 hb | exact st_2 hb | exact st_3 hb | exact st_4 hb | exact st_5 hb | exact st_o hb2 | exact st_1 hb2 | exact st_2 hb2 | exact st_3 hb2 | exact st_4 hb2 | exact st_5 hb2) rfl dX1_put_76 ?_
    try simp only [r2, r3, r4, w2, w3, w4, h2]
    refine g_vret rfl dX1_put_79 ?_
    refine ⟨rfl, _, _, _, rfl, fin _ ?_⟩
    rw [pk_un (show k ≠ k + 1 by omega), (hz k (by omega)).2, (hz k (by omega)).1]
    show bel z k + z k = bel (upd z (k + 1) v) k + upd z (k + 1) v k
    rw [pk_un (show k ≠ k + 1 by omega), bel_E (y := upd z (k + 1) v) (z := z) k (fun i hi => pk_un (by omega))]
  · have : m = 0 := (nI_eq (by omega) (by decide)).mp h38
    subst this
    refine g_iconst 42 rfl (v := 0) dX1_put_41 (by decide) ?_
    refine g_goto 68 dX1_put_42 (by decide) ?_
    refine g_iast 69 rfl dX1_put_68 (by first | rfl | exact st_o hb | exact st_1 hb | exact st_2 hb | exact st_3 hb | exact st_4 hb | exact st_5 hb | exact st_o hb2 | exact st_1 hb2 | exact st_2 hb2 | exact st_3 hb2 | exact st_4 hb2 | exact st_5 hb2) rfl rfl (by first | assumption | omega) ?_
    try simp only [r2, r3, r4, w2, w3, w4, h2]
    refine g_aload0 70 rfl dX1_put_69 ?_
    refine g_dup 71 rfl dX1_put_70 rfl ?_
    refine g_getI 74 rfl fX1_18 (by first | rfl | exact st_o hb | exact st_1 hb | exact st_2 hb | exact st_3 hb | exact st_4 hb | exact st_5 hb | exact st_o hb2 | exact st_1 hb2 | exact st_2 hb2 | exact st_3 hb2 | exact st_4 hb2 | exact st_5 hb2) rfl dX1_put_71 ?_
    try simp only [r2, r3, r4, w2, w3, w4, h2]
    refine g_iconst 75 rfl (v := 1) dX1_put_74 (by decide) ?_
    refine g_iadd 76 rfl dX1_put_75 ?_
    refine g_putI 79 rfl fX1_18 (by first | rfl | exact st_o hb | exact st_1 hb | exact st_2 hb | exact st_3 hb | exact st_4 hb | exact st_5 hb | exact st_o hb2 | exact st_1 hb2 | exact st_2 hb2 | exact st_3 hb2 | exact st_4 hb2 | exact st_5 hb2) rfl dX1_put_76 ?_
    try simp only [r2, r3, r4, w2, w3, w4, h2]
    refine g_vret rfl dX1_put_79 ?_
    exact ⟨rfl, _, _, _, rfl, fin _ rfl⟩
