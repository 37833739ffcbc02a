/-! the class's Street, the rest -/
def telS (R W : Nat) (x : Sx) (c : Nat) (q : Int32) : Int32 := if q = 0 then sK x c else if q = 1 then sZ x c else if q = 2 then sH x c else if q = 3 then sS x c else if q = 4 then sJ x c else if q = 5 then holdS R W x c else -1002
theorem telS_out {R W c : Nat} {x : Sx} {q : Int32} (h : q.toInt < 0 ∨ 5 < q.toInt) : telS R W x c q = -1002 := by
  unfold telS
  repeat' split
  all_goals (first | rfl | (subst_vars; exact absurd h (by decide)))
theorem ok_X7_tell {l : Launch} {M : Mm} {R W b c : Nat} {x : Sx} {q : Int32} (hb : isSt b) (hp : Plan M R W) (hc : c < R * W) : Oi GC l mX7_tell [.ref b, .int (nI c), .int q] (pC M b x) (telS R W x c q) (pC M b x) := by
  have h30 := hp.1.le
  have hN : ∀ y, (pC M b y).1 12 4 = nI (R * W) := fun y => (pC_plan (x := y) hb hp).2.2.2.1
  refine ok_of (by decide +kernel) rfl rfl ?_
  refine g_iload2 1 rfl dX7_tell_0 ?_
  refine g_tab6 0 1 2 3 4 5 81 40 47 54 61 68 75 dX7_tell_1 (by decide) (by decide) (by decide) (by decide) (by decide) (by decide) (by decide) (by decide) (by decide) (by decide) (by decide) (by decide) (by decide) (by decide) (fun h1 => ?_) (fun h1 => ?_) (fun h1 => ?_) (fun h1 => ?_) (fun h1 => ?_) (fun h1 => ?_) (fun h1 => ?_)
  · refine g_sipush 84 rfl (v := (-1002)) dX7_tell_81 (by decide) ?_
    refine g_iret rfl dX7_tell_84 ?_
    exact ⟨by first | rw [telS_out h1] | (rw [h1]; rfl), rfl⟩
  · refine g_aload0 41 rfl dX7_tell_40 ?_
    refine g_getR 44 rfl fX7_9 (by first | rfl | exact st_o hb | exact st_1 hb | exact st_2 hb | exact st_3 hb | exact st_4 hb | exact st_5 hb | exact st_o hb2 | exact st_1 hb2 | exact st_2 hb2 | exact st_3 hb2 | exact st_4 hb2 | exact st_5 hb2) rfl dX7_tell_41 ?_
    refine g_iload1 45 rfl dX7_tell_44 ?_
    refine g_iald 46 rfl dX7_tell_45 (by first | rfl | exact st_o hb | exact st_1 hb | exact st_2 hb | exact st_3 hb | exact st_4 hb | exact st_5 hb | exact st_o hb2 | exact st_1 hb2 | exact st_2 hb2 | exact st_3 hb2 | exact st_4 hb2 | exact st_5 hb2) rfl rfl (by first | assumption | omega) ?_
    try simp only [hN, pC_1, pC_2, pC_3, pC_4, pC_5, pC_6, pC_7, set_1, set_2, set_3, set_4, set_5, set_6, set_7]
    refine g_iret rfl dX7_tell_46 ?_
    exact ⟨by first | rw [telS_out h1] | (rw [h1]; rfl), rfl⟩
  · refine g_aload0 48 rfl dX7_tell_47 ?_
    refine g_getR 51 rfl fX7_15 (by first | rfl | exact st_o hb | exact st_1 hb | exact st_2 hb | exact st_3 hb | exact st_4 hb | exact st_5 hb | exact st_o hb2 | exact st_1 hb2 | exact st_2 hb2 | exact st_3 hb2 | exact st_4 hb2 | exact st_5 hb2) rfl dX7_tell_48 ?_
    refine g_iload1 52 rfl dX7_tell_51 ?_
    refine g_iald 53 rfl dX7_tell_52 (by first | rfl | exact st_o hb | exact st_1 hb | exact st_2 hb | exact st_3 hb | exact st_4 hb | exact st_5 hb | exact st_o hb2 | exact st_1 hb2 | exact st_2 hb2 | exact st_3 hb2 | exact st_4 hb2 | exact st_5 hb2) rfl rfl (by first | assumption | omega) ?_
    try simp only [hN, pC_1, pC_2, pC_3, pC_4, pC_5, pC_6, pC_7, set_1, set_2, set_3, set_4, set_5, set_6, set_7]
    refine g_iret rfl dX7_tell_53 ?_
    exact ⟨by first | rw [telS_out h1] | (rw [h1]; rfl), rfl⟩
  · refine g_aload0 55 rfl dX7_tell_54 ?_
    refine g_getR 58 rfl fX7_18 (by first | rfl | exact st_o hb | exact st_1 hb | exact st_2 hb | exact st_3 hb | exact st_4 hb | exact st_5 hb | exact st_o hb2 | exact st_1 hb2 | exact st_2 hb2 | exact st_3 hb2 | exact st_4 hb2 | exact st_5 hb2) rfl dX7_tell_55 ?_
    refine g_iload1 59 rfl dX7_tell_58 ?_
    refine g_iald 60 rfl dX7_tell_59 (by first | rfl | exact st_o hb | exact st_1 hb | exact st_2 hb | exact st_3 hb | exact st_4 hb | exact st_5 hb | exact st_o hb2 | exact st_1 hb2 | exact st_2 hb2 | exact st_3 hb2 | exact st_4 hb2 | exact st_5 hb2) rfl rfl (by first | assumption | omega) ?_
    try simp only [hN, pC_1, pC_2, pC_3, pC_4, pC_5, pC_6, pC_7, set_1, set_2, set_3, set_4, set_5, set_6, set_7]
    refine g_iret rfl dX7_tell_60 ?_
    exact ⟨by first | rw [telS_out h1] | (rw [h1]; rfl), rfl⟩
  · refine g_aload0 62 rfl dX7_tell_61 ?_
    refine g_getR 65 rfl fX7_21 (by first | rfl | exact st_o hb | exact st_1 hb | exact st_2 hb | exact st_3 hb | exact st_4 hb | exact st_5 hb | exact st_o hb2 | exact st_1 hb2 | exact st_2 hb2 | exact st_3 hb2 | exact st_4 hb2 | exact st_5 hb2) rfl dX7_tell_62 ?_
    refine g_iload1 66 rfl dX7_tell_65 ?_
    refine g_iald 67 rfl dX7_tell_66 (by first | rfl | exact st_o hb | exact st_1 hb | exact st_2 hb | exact st_3 hb | exact st_4 hb | exact st_5 hb | exact st_o hb2 | exact st_1 hb2 | exact st_2 hb2 | exact st_3 hb2 | exact st_4 hb2 | exact st_5 hb2) rfl rfl (by first | assumption | omega) ?_
    try simp only [hN, pC_1, pC_2, pC_3, pC_4, pC_5, pC_6, pC_7, set_1, set_2, set_3, set_4, set_5, set_6, set_7]
    refine g_iret rfl dX7_tell_67 ?_
    exact ⟨by first | rw [telS_out h1] | (rw [h1]; rfl), rfl⟩
  · refine g_aload0 69 rfl dX7_tell_68 ?_
    refine g_getR 72 rfl fX7_24 (by first | rfl | exact st_o hb | exact st_1 hb | exact st_2 hb | exact st_3 hb | exact st_4 hb | exact st_5 hb | exact st_o hb2 | exact st_1 hb2 | exact st_2 hb2 | exact st_3 hb2 | exact st_4 hb2 | exact st_5 hb2) rfl dX7_tell_69 ?_
    refine g_iload1 73 rfl dX7_tell_72 ?_
    refine g_iald 74 rfl dX7_tell_73 (by first | rfl | exact st_o hb | exact st_1 hb | exact st_2 hb | exact st_3 hb | exact st_4 hb | exact st_5 hb | exact st_o hb2 | exact st_1 hb2 | exact st_2 hb2 | exact st_3 hb2 | exact st_4 hb2 | exact st_5 hb2) rfl rfl (by first | assumption | omega) ?_
    try simp only [hN, pC_1, pC_2, pC_3, pC_4, pC_5, pC_6, pC_7, set_1, set_2, set_3, set_4, set_5, set_6, set_7]
    refine g_iret rfl dX7_tell_74 ?_
    exact ⟨by first | rw [telS_out h1] | (rw [h1]; rfl), rfl⟩
  · refine g_aload0 76 rfl dX7_tell_75 ?_
    refine g_iload1 77 rfl dX7_tell_76 ?_
    refine g_callVi 80 1 rfl kX7_47 (by first | rfl | exact st_o hb | exact st_1 hb | exact st_2 hb | exact st_3 hb | exact st_4 hb | exact st_5 hb | exact st_o hb2 | exact st_1 hb2 | exact st_2 hb2 | exact st_3 hb2 | exact st_4 hb2 | exact st_5 hb2) dX7_tell_77 ⟨rfl, rfl⟩ (ok_X7_hold hb hp hc) rfl rfl rfl ?_
    refine g_iret rfl dX7_tell_80 ?_
    exact ⟨by first | rw [telS_out h1] | (rw [h1]; rfl), rfl⟩
def isoS (x : Sx) (c : Nat) (k : Int32) : Int32 := zB (¬ sK x c = -1 ∧ (k = 0 ∨ sK x c = k ∨ (sK x c = 3 ∧ k = 2)))
theorem ok_X7_isOf {l : Launch} {M : Mm} {R W b c : Nat} {x : Sx} {k : Int32} (hb : isSt b) (hp : Plan M R W) (hc : c < R * W) : Oi GC l mX7_isOf [.ref b, .int (nI c), .int k] (pC M b x) (isoS x c k) (pC M b x) := by
  have h30 := hp.1.le
  have hN : ∀ y, (pC M b y).1 12 4 = nI (R * W) := fun y => (pC_plan (x := y) hb hp).2.2.2.1
  refine ok_of (by decide +kernel) rfl rfl ?_
  refine g_aload0 1 rfl dX7_isOf_0 ?_
  refine g_getR 4 rfl fX7_9 (by first | rfl | exact st_o hb | exact st_1 hb | exact st_2 hb | exact st_3 hb | exact st_4 hb | exact st_5 hb | exact st_o hb2 | exact st_1 hb2 | exact st_2 hb2 | exact st_3 hb2 | exact st_4 hb2 | exact st_5 hb2) rfl dX7_isOf_1 ?_
  refine g_iload1 5 rfl dX7_isOf_4 ?_
  refine g_iald 6 rfl dX7_isOf_5 (by first | rfl | exact st_o hb | exact st_1 hb | exact st_2 hb | exact st_3 hb | exact st_4 hb | exact st_5 hb | exact st_o hb2 | exact st_1 hb2 | exact st_2 hb2 | exact st_3 hb2 | exact st_4 hb2 | exact st_5 hb2) rfl rfl (by first | assumption | omega) ?_
  try simp only [hN, pC_1, pC_2, pC_3, pC_4, pC_5, pC_6, pC_7, set_1, set_2, set_3, set_4, set_5, set_6, set_7]
  refine g_istore3 7 rfl dX7_isOf_6 rfl rfl ?_
  refine g_iload3 8 rfl dX7_isOf_7 ?_
  refine g_iconst 9 rfl (v := (-1)) dX7_isOf_8 (by decide) ?_
  refine g_cmpne 14 12 rfl dX7_isOf_9 (by decide) (fun h9 => ?_) (fun h9 => ?_)
  · refine g_iload2 15 rfl dX7_isOf_14 ?_
    refine g_ifeq 33 18 rfl dX7_isOf_15 (by decide) (fun h15 => ?_) (fun h15 => ?_)
    · refine g_iconst 34 rfl (v := 1) dX7_isOf_33 (by decide) ?_
      refine g_goto 38 dX7_isOf_34 (by decide) ?_
      refine g_zret rfl dX7_isOf_38 (by first | exact Or.inl rfl | exact Or.inr rfl | assumption) ?_
      exact ⟨by simp_all [isoS, zB], rfl⟩
    · refine g_iload3 19 rfl dX7_isOf_18 ?_
      refine g_iload2 20 rfl dX7_isOf_19 ?_
      refine g_cmpeq 33 23 rfl dX7_isOf_20 (by decide) (fun h20 => ?_) (fun h20 => ?_)
      · refine g_iconst 34 rfl (v := 1) dX7_isOf_33 (by decide) ?_
        refine g_goto 38 dX7_isOf_34 (by decide) ?_
        refine g_zret rfl dX7_isOf_38 (by first | exact Or.inl rfl | exact Or.inr rfl | assumption) ?_
        exact ⟨by simp_all [isoS, zB], rfl⟩
      · refine g_iload3 24 rfl dX7_isOf_23 ?_
        refine g_iconst 25 rfl (v := 3) dX7_isOf_24 (by decide) ?_
        refine g_cmpne 37 28 rfl dX7_isOf_25 (by decide) (fun h25 => ?_) (fun h25 => ?_)
        · refine g_iconst 38 rfl (v := 0) dX7_isOf_37 (by decide) ?_
          refine g_zret rfl dX7_isOf_38 (by first | exact Or.inl rfl | exact Or.inr rfl | assumption) ?_
          exact ⟨by simp_all [isoS, zB], rfl⟩
        · refine g_iload2 29 rfl dX7_isOf_28 ?_
          refine g_iconst 30 rfl (v := 2) dX7_isOf_29 (by decide) ?_
          refine g_cmpne 37 33 rfl dX7_isOf_30 (by decide) (fun h30 => ?_) (fun h30 => ?_)
          · refine g_iconst 38 rfl (v := 0) dX7_isOf_37 (by decide) ?_
            refine g_zret rfl dX7_isOf_38 (by first | exact Or.inl rfl | exact Or.inr rfl | assumption) ?_
            exact ⟨by simp_all [isoS, zB], rfl⟩
          · refine g_iconst 34 rfl (v := 1) dX7_isOf_33 (by decide) ?_
            refine g_goto 38 dX7_isOf_34 (by decide) ?_
            refine g_zret rfl dX7_isOf_38 (by first | exact Or.inl rfl | exact Or.inr rfl | assumption) ?_
            exact ⟨by simp_all [isoS, zB], rfl⟩
  · refine g_iconst 13 rfl (v := 0) dX7_isOf_12 (by decide) ?_
    refine g_zret rfl dX7_isOf_13 (by first | exact Or.inl rfl | exact Or.inr rfl | assumption) ?_
    exact ⟨by simp_all [isoS, zB], rfl⟩
def canS (x : Sx) (c : Nat) : Int32 := zB (sK x c = -1 ∨ sK x c = 2 ∨ sK x c = 3)
theorem ok_X7_canBeMended {l : Launch} {M : Mm} {R W b c : Nat} {x : Sx} (hb : isSt b) (hp : Plan M R W) (hc : c < R * W) : Oi GC l mX7_canBeMended [.ref b, .int (nI c)] (pC M b x) (canS x c) (pC M b x) := by
  have h30 := hp.1.le
  have hN : ∀ y, (pC M b y).1 12 4 = nI (R * W) := fun y => (pC_plan (x := y) hb hp).2.2.2.1
  refine ok_of (by decide +kernel) rfl rfl ?_
  refine g_aload0 1 rfl dX7_canBeMended_0 ?_
  refine g_getR 4 rfl fX7_9 (by first | rfl | exact st_o hb | exact st_1 hb | exact st_2 hb | exact st_3 hb | exact st_4 hb | exact st_5 hb | exact st_o hb2 | exact st_1 hb2 | exact st_2 hb2 | exact st_3 hb2 | exact st_4 hb2 | exact st_5 hb2) rfl dX7_canBeMended_1 ?_
  refine g_iload1 5 rfl dX7_canBeMended_4 ?_
  refine g_iald 6 rfl dX7_canBeMended_5 (by first | rfl | exact st_o hb | exact st_1 hb | exact st_2 hb | exact st_3 hb | exact st_4 hb | exact st_5 hb | exact st_o hb2 | exact st_1 hb2 | exact st_2 hb2 | exact st_3 hb2 | exact st_4 hb2 | exact st_5 hb2) rfl rfl (by first | assumption | omega) ?_
  try simp only [hN, pC_1, pC_2, pC_3, pC_4, pC_5, pC_6, pC_7, set_1, set_2, set_3, set_4, set_5, set_6, set_7]
  refine g_istore2 7 rfl dX7_canBeMended_6 rfl rfl ?_
  refine g_iload2 8 rfl dX7_canBeMended_7 ?_
  refine g_iconst 9 rfl (v := (-1)) dX7_canBeMended_8 (by decide) ?_
  refine g_cmpeq 22 12 rfl dX7_canBeMended_9 (by decide) (fun h9 => ?_) (fun h9 => ?_)
  · refine g_iconst 23 rfl (v := 1) dX7_canBeMended_22 (by decide) ?_
    refine g_goto 27 dX7_canBeMended_23 (by decide) ?_
    refine g_zret rfl dX7_canBeMended_27 (by first | exact Or.inl rfl | exact Or.inr rfl | assumption) ?_
    exact ⟨by simp_all [canS, zB], rfl⟩
  · refine g_iload2 13 rfl dX7_canBeMended_12 ?_
    refine g_iconst 14 rfl (v := 2) dX7_canBeMended_13 (by decide) ?_
    refine g_cmpeq 22 17 rfl dX7_canBeMended_14 (by decide) (fun h14 => ?_) (fun h14 => ?_)
    · refine g_iconst 23 rfl (v := 1) dX7_canBeMended_22 (by decide) ?_
      refine g_goto 27 dX7_canBeMended_23 (by decide) ?_
      refine g_zret rfl dX7_canBeMended_27 (by first | exact Or.inl rfl | exact Or.inr rfl | assumption) ?_
      exact ⟨by simp_all [canS, zB], rfl⟩
    · refine g_iload2 18 rfl dX7_canBeMended_17 ?_
      refine g_iconst 19 rfl (v := 3) dX7_canBeMended_18 (by decide) ?_
      refine g_cmpne 26 22 rfl dX7_canBeMended_19 (by decide) (fun h19 => ?_) (fun h19 => ?_)
      · refine g_iconst 27 rfl (v := 0) dX7_canBeMended_26 (by decide) ?_
        refine g_zret rfl dX7_canBeMended_27 (by first | exact Or.inl rfl | exact Or.inr rfl | assumption) ?_
        exact ⟨by simp_all [canS, zB], rfl⟩
      · refine g_iconst 23 rfl (v := 1) dX7_canBeMended_22 (by decide) ?_
        refine g_goto 27 dX7_canBeMended_23 (by decide) ?_
        refine g_zret rfl dX7_canBeMended_27 (by first | exact Or.inl rfl | exact Or.inr rfl | assumption) ?_
        exact ⟨by simp_all [canS, zB], rfl⟩
def repS (c : Nat) (z : Int32) (x : Sx) : Sx := if sK x c = -1 then wS (wH (wZ (wK x (upd (sK x) c 1)) (upd (sZ x) c z)) (upd (sH x) c 0)) (upd (sS x) c 0) else wS (wH (wK x (upd (sK x) c 0)) (upd (sH x) c 0)) (upd (sS x) c 0)
theorem ok_X7_repair {l : Launch} {M : Mm} {R W b c : Nat} {x : Sx} {z : Int32} (hb : isSt b) (hp : Plan M R W) (hc : c < R * W) : Ov GC l mX7_repair [.ref b, .int (nI c), .int z] (pC M b x) (pC M b (repS c z x)) := by
  have h30 := hp.1.le
  have hN : ∀ y, (pC M b y).1 12 4 = nI (R * W) := fun y => (pC_plan (x := y) hb hp).2.2.2.1
  refine ok_of (by decide +kernel) rfl rfl ?_
  refine g_aload0 1 rfl dX7_repair_0 ?_
  refine g_getR 4 rfl fX7_9 (by first | rfl | exact st_o hb | exact st_1 hb | exact st_2 hb | exact st_3 hb | exact st_4 hb | exact st_5 hb | exact st_o hb2 | exact st_1 hb2 | exact st_2 hb2 | exact st_3 hb2 | exact st_4 hb2 | exact st_5 hb2) rfl dX7_repair_1 ?_
  refine g_iload1 5 rfl dX7_repair_4 ?_
  refine g_iald 6 rfl dX7_repair_5 (by first | rfl | exact st_o hb | exact st_1 hb | exact st_2 hb | exact st_3 hb | exact st_4 hb | exact st_5 hb | exact st_o hb2 | exact st_1 hb2 | exact st_2 hb2 | exact st_3 hb2 | exact st_4 hb2 | exact st_5 hb2) rfl rfl (by first | assumption | omega) ?_
  try simp only [hN, pC_1, pC_2, pC_3, pC_4, pC_5, pC_6, pC_7, set_1, set_2, set_3, set_4, set_5, set_6, set_7]
  refine g_iconst 7 rfl (v := (-1)) dX7_repair_6 (by decide) ?_
  refine g_cmpne 27 10 rfl dX7_repair_7 (by decide) (fun h7 => ?_) (fun h7 => ?_)
  · refine g_aload0 28 rfl dX7_repair_27 ?_
    refine g_getR 31 rfl fX7_9 (by first | rfl | exact st_o hb | exact st_1 hb | exact st_2 hb | exact st_3 hb | exact st_4 hb | exact st_5 hb | exact st_o hb2 | exact st_1 hb2 | exact st_2 hb2 | exact st_3 hb2 | exact st_4 hb2 | exact st_5 hb2) rfl dX7_repair_28 ?_
    refine g_iload1 32 rfl dX7_repair_31 ?_
    refine g_iconst 33 rfl (v := 0) dX7_repair_32 (by decide) ?_
    refine g_iast 34 rfl dX7_repair_33 (by first | rfl | exact st_o hb | exact st_1 hb | exact st_2 hb | exact st_3 hb | exact st_4 hb | exact st_5 hb | exact st_o hb2 | exact st_1 hb2 | exact st_2 hb2 | exact st_3 hb2 | exact st_4 hb2 | exact st_5 hb2) rfl rfl (by first | assumption | omega) ?_
    try simp only [hN, pC_1, pC_2, pC_3, pC_4, pC_5, pC_6, pC_7, set_1, set_2, set_3, set_4, set_5, set_6, set_7]
    refine g_aload0 35 rfl dX7_repair_34 ?_
    refine g_getR 38 rfl fX7_18 (by first | rfl | exact st_o hb | exact st_1 hb | exact st_2 hb | exact st_3 hb | exact st_4 hb | exact st_5 hb | exact st_o hb2 | exact st_1 hb2 | exact st_2 hb2 | exact st_3 hb2 | exact st_4 hb2 | exact st_5 hb2) rfl dX7_repair_35 ?_
    refine g_iload1 39 rfl dX7_repair_38 ?_
    refine g_iconst 40 rfl (v := 0) dX7_repair_39 (by decide) ?_
    refine g_iast 41 rfl dX7_repair_40 (by first | rfl | exact st_o hb | exact st_1 hb | exact st_2 hb | exact st_3 hb | exact st_4 hb | exact st_5 hb | exact st_o hb2 | exact st_1 hb2 | exact st_2 hb2 | exact st_3 hb2 | exact st_4 hb2 | exact st_5 hb2) rfl rfl (by first | assumption | omega) ?_
    try simp only [hN, pC_1, pC_2, pC_3, pC_4, pC_5, pC_6, pC_7, set_1, set_2, set_3, set_4, set_5, set_6, set_7]
    refine g_aload0 42 rfl dX7_repair_41 ?_
    refine g_getR 45 rfl fX7_21 (by first | rfl | exact st_o hb | exact st_1 hb | exact st_2 hb | exact st_3 hb | exact st_4 hb | exact st_5 hb | exact st_o hb2 | exact st_1 hb2 | exact st_2 hb2 | exact st_3 hb2 | exact st_4 hb2 | exact st_5 hb2) rfl dX7_repair_42 ?_
    refine g_iload1 46 rfl dX7_repair_45 ?_
    refine g_iconst 47 rfl (v := 0) dX7_repair_46 (by decide) ?_
    refine g_iast 48 rfl dX7_repair_47 (by first | rfl | exact st_o hb | exact st_1 hb | exact st_2 hb | exact st_3 hb | exact st_4 hb | exact st_5 hb | exact st_o hb2 | exact st_1 hb2 | exact st_2 hb2 | exact st_3 hb2 | exact st_4 hb2 | exact st_5 hb2) rfl rfl (by first | assumption | omega) ?_
    try simp only [hN, pC_1, pC_2, pC_3, pC_4, pC_5, pC_6, pC_7, set_1, set_2, set_3, set_4, set_5, set_6, set_7]
    refine g_vret rfl dX7_repair_48 ?_
    refine ⟨rfl, ?_⟩
    first | (rw [repS, if_pos h7]; rfl) | (rw [repS, if_neg h7]; rfl)
  · refine g_aload0 11 rfl dX7_repair_10 ?_
    refine g_getR 14 rfl fX7_9 (by first | rfl | exact st_o hb | exact st_1 hb | exact st_2 hb | exact st_3 hb | exact st_4 hb | exact st_5 hb | exact st_o hb2 | exact st_1 hb2 | exact st_2 hb2 | exact st_3 hb2 | exact st_4 hb2 | exact st_5 hb2) rfl dX7_repair_11 ?_
    refine g_iload1 15 rfl dX7_repair_14 ?_
    refine g_iconst 16 rfl (v := 1) dX7_repair_15 (by decide) ?_
    refine g_iast 17 rfl dX7_repair_16 (by first | rfl | exact st_o hb | exact st_1 hb | exact st_2 hb | exact st_3 hb | exact st_4 hb | exact st_5 hb | exact st_o hb2 | exact st_1 hb2 | exact st_2 hb2 | exact st_3 hb2 | exact st_4 hb2 | exact st_5 hb2) rfl rfl (by first | assumption | omega) ?_
    try simp only [hN, pC_1, pC_2, pC_3, pC_4, pC_5, pC_6, pC_7, set_1, set_2, set_3, set_4, set_5, set_6, set_7]
    refine g_aload0 18 rfl dX7_repair_17 ?_
    refine g_getR 21 rfl fX7_15 (by first | rfl | exact st_o hb | exact st_1 hb | exact st_2 hb | exact st_3 hb | exact st_4 hb | exact st_5 hb | exact st_o hb2 | exact st_1 hb2 | exact st_2 hb2 | exact st_3 hb2 | exact st_4 hb2 | exact st_5 hb2) rfl dX7_repair_18 ?_
    refine g_iload1 22 rfl dX7_repair_21 ?_
    refine g_iload2 23 rfl dX7_repair_22 ?_
    refine g_iast 24 rfl dX7_repair_23 (by first | rfl | exact st_o hb | exact st_1 hb | exact st_2 hb | exact st_3 hb | exact st_4 hb | exact st_5 hb | exact st_o hb2 | exact st_1 hb2 | exact st_2 hb2 | exact st_3 hb2 | exact st_4 hb2 | exact st_5 hb2) rfl rfl (by first | assumption | omega) ?_
    try simp only [hN, pC_1, pC_2, pC_3, pC_4, pC_5, pC_6, pC_7, set_1, set_2, set_3, set_4, set_5, set_6, set_7]
    refine g_goto 34 dX7_repair_24 (by decide) ?_
    refine g_aload0 35 rfl dX7_repair_34 ?_
    refine g_getR 38 rfl fX7_18 (by first | rfl | exact st_o hb | exact st_1 hb | exact st_2 hb | exact st_3 hb | exact st_4 hb | exact st_5 hb | exact st_o hb2 | exact st_1 hb2 | exact st_2 hb2 | exact st_3 hb2 | exact st_4 hb2 | exact st_5 hb2) rfl dX7_repair_35 ?_
    refine g_iload1 39 rfl dX7_repair_38 ?_
    refine g_iconst 40 rfl (v := 0) dX7_repair_39 (by decide) ?_
    refine g_iast 41 rfl dX7_repair_40 (by first | rfl | exact st_o hb | exact st_1 hb | exact st_2 hb | exact st_3 hb | exact st_4 hb | exact st_5 hb | exact st_o hb2 | exact st_1 hb2 | exact st_2 hb2 | exact st_3 hb2 | exact st_4 hb2 | exact st_5 hb2) rfl rfl (by first | assumption | omega) ?_
    try simp only [hN, pC_1, pC_2, pC_3, pC_4, pC_5, pC_6, pC_7, set_1, set_2, set_3, set_4, set_5, set_6, set_7]
    refine g_aload0 42 rfl dX7_repair_41 ?_
    refine g_getR 45 rfl fX7_21 (by first | rfl | exact st_o hb | exact st_1 hb | exact st_2 hb | exact st_3 hb | exact st_4 hb | exact st_5 hb | exact st_o hb2 | exact st_1 hb2 | exact st_2 hb2 | exact st_3 hb2 | exact st_4 hb2 | exact st_5 hb2) rfl dX7_repair_42 ?_
    refine g_iload1 46 rfl dX7_repair_45 ?_
    refine g_iconst 47 rfl (v := 0) dX7_repair_46 (by decide) ?_
    refine g_iast 48 rfl dX7_repair_47 (by first | rfl | exact st_o hb | exact st_1 hb | exact st_2 hb | exact st_3 hb | exact st_4 hb | exact st_5 hb | exact st_o hb2 | exact st_1 hb2 | exact st_2 hb2 | exact st_3 hb2 | exact st_4 hb2 | exact st_5 hb2) rfl rfl (by first | assumption | omega) ?_
    try simp only [hN, pC_1, pC_2, pC_3, pC_4, pC_5, pC_6, pC_7, set_1, set_2, set_3, set_4, set_5, set_6, set_7]
    refine g_vret rfl dX7_repair_48 ?_
    refine ⟨rfl, ?_⟩
    first | (rw [repS, if_pos h7]; rfl) | (rw [repS, if_neg h7]; rfl)
def worS (c : Nat) (x : Sx) : Sx := if sK x c = -1 ∨ sK x c = 4 then x else if sK x c = 0 ∨ sK x c = 1 then wK (wS (wC x (sC x + 1)) (upd (sS x) c 0)) (upd (sK x) c 2) else wJ (wH (wZ (wK (wS (wC x (sC x + 1)) (upd (sS x) c 0)) (upd (sK x) c (-1))) (upd (sZ x) c 0)) (upd (sH x) c (sH x c - 5))) (upd (sJ x) c 0)
def worV (c : Nat) (x : Sx) : Int32 := if sK x c = -1 ∨ sK x c = 4 then 0 else if sK x c = 0 ∨ sK x c = 1 then 0 else 1
theorem ok_X7_worsen {l : Launch} {M : Mm} {R W b c : Nat} {x : Sx} (hb : isSt b) (hp : Plan M R W) (hc : c < R * W) : Oi GC l mX7_worsen [.ref b, .int (nI c)] (pC M b x) (worV c x) (pC M b (worS c x)) := by
  have h30 := hp.1.le
  have hN : ∀ y, (pC M b y).1 12 4 = nI (R * W) := fun y => (pC_plan (x := y) hb hp).2.2.2.1
  refine ok_of (by decide +kernel) rfl rfl ?_
  refine g_aload0 1 rfl dX7_worsen_0 ?_
  refine g_getR 4 rfl fX7_9 (by first | rfl | exact st_o hb | exact st_1 hb | exact st_2 hb | exact st_3 hb | exact st_4 hb | exact st_5 hb | exact st_o hb2 | exact st_1 hb2 | exact st_2 hb2 | exact st_3 hb2 | exact st_4 hb2 | exact st_5 hb2) rfl dX7_worsen_1 ?_
  refine g_iload1 5 rfl dX7_worsen_4 ?_
  refine g_iald 6 rfl dX7_worsen_5 (by first | rfl | exact st_o hb | exact st_1 hb | exact st_2 hb | exact st_3 hb | exact st_4 hb | exact st_5 hb | exact st_o hb2 | exact st_1 hb2 | exact st_2 hb2 | exact st_3 hb2 | exact st_4 hb2 | exact st_5 hb2) rfl rfl (by first | assumption | omega) ?_
  try simp only [hN, pC_1, pC_2, pC_3, pC_4, pC_5, pC_6, pC_7, set_1, set_2, set_3, set_4, set_5, set_6, set_7]
  refine g_istore2 7 rfl dX7_worsen_6 rfl rfl ?_
  refine g_iload2 8 rfl dX7_worsen_7 ?_
  refine g_iconst 9 rfl (v := (-1)) dX7_worsen_8 (by decide) ?_
  refine g_cmpeq 17 12 rfl dX7_worsen_9 (by decide) (fun h9 => ?_) (fun h9 => ?_)
  · refine g_iconst 18 rfl (v := 0) dX7_worsen_17 (by decide) ?_
    refine g_zret rfl dX7_worsen_18 (by first | exact Or.inl rfl | exact Or.inr rfl | assumption) ?_
    refine ⟨by simp [worV, *], ?_⟩
    first | (simp only [worS, *, true_or, or_true, if_true, or_self, if_false]; done) | (simp only [worS, *, true_or, or_true, if_true, or_self, if_false]; rfl)
  · refine g_iload2 13 rfl dX7_worsen_12 ?_
    refine g_iconst 14 rfl (v := 4) dX7_worsen_13 (by decide) ?_
    refine g_cmpne 19 17 rfl dX7_worsen_14 (by decide) (fun h14 => ?_) (fun h14 => ?_)
    · refine g_aload0 20 rfl dX7_worsen_19 ?_
      refine g_dup 21 rfl dX7_worsen_20 rfl ?_
      refine g_getI 24 rfl fX7_31 (by first | rfl | exact st_o hb | exact st_1 hb | exact st_2 hb | exact st_3 hb | exact st_4 hb | exact st_5 hb | exact st_o hb2 | exact st_1 hb2 | exact st_2 hb2 | exact st_3 hb2 | exact st_4 hb2 | exact st_5 hb2) rfl dX7_worsen_21 ?_
      try simp only [hN, pC_1, pC_2, pC_3, pC_4, pC_5, pC_6, pC_7, set_1, set_2, set_3, set_4, set_5, set_6, set_7]
      refine g_iconst 25 rfl (v := 1) dX7_worsen_24 (by decide) ?_
      refine g_iadd 26 rfl dX7_worsen_25 ?_
      refine g_putI 29 rfl fX7_31 (by first | rfl | exact st_o hb | exact st_1 hb | exact st_2 hb | exact st_3 hb | exact st_4 hb | exact st_5 hb | exact st_o hb2 | exact st_1 hb2 | exact st_2 hb2 | exact st_3 hb2 | exact st_4 hb2 | exact st_5 hb2) rfl dX7_worsen_26 ?_
      try simp only [hN, pC_1, pC_2, pC_3, pC_4, pC_5, pC_6, pC_7, set_1, set_2, set_3, set_4, set_5, set_6, set_7]
      refine g_aload0 30 rfl dX7_worsen_29 ?_
      refine g_getR 33 rfl fX7_21 (by first | rfl | exact st_o hb | exact st_1 hb | exact st_2 hb | exact st_3 hb | exact st_4 hb | exact st_5 hb | exact st_o hb2 | exact st_1 hb2 | exact st_2 hb2 | exact st_3 hb2 | exact st_4 hb2 | exact st_5 hb2) rfl dX7_worsen_30 ?_
      refine g_iload1 34 rfl dX7_worsen_33 ?_
      refine g_iconst 35 rfl (v := 0) dX7_worsen_34 (by decide) ?_
      refine g_iast 36 rfl dX7_worsen_35 (by first | rfl | exact st_o hb | exact st_1 hb | exact st_2 hb | exact st_3 hb | exact st_4 hb | exact st_5 hb | exact st_o hb2 | exact st_1 hb2 | exact st_2 hb2 | exact st_3 hb2 | exact st_4 hb2 | exact st_5 hb2) rfl rfl (by first | assumption | omega) ?_
      try simp only [hN, pC_1, pC_2, pC_3, pC_4, pC_5, pC_6, pC_7, set_1, set_2, set_3, set_4, set_5, set_6, set_7]
      refine g_iload2 37 rfl dX7_worsen_36 ?_
      refine g_ifeq 45 40 rfl dX7_worsen_37 (by decide) (fun h37 => ?_) (fun h37 => ?_)
      · refine g_aload0 46 rfl dX7_worsen_45 ?_
        refine g_getR 49 rfl fX7_9 (by first | rfl | exact st_o hb | exact st_1 hb | exact st_2 hb | exact st_3 hb | exact st_4 hb | exact st_5 hb | exact st_o hb2 | exact st_1 hb2 | exact st_2 hb2 | exact st_3 hb2 | exact st_4 hb2 | exact st_5 hb2) rfl dX7_worsen_46 ?_
        refine g_iload1 50 rfl dX7_worsen_49 ?_
        refine g_iconst 51 rfl (v := 2) dX7_worsen_50 (by decide) ?_
        refine g_iast 52 rfl dX7_worsen_51 (by first | rfl | exact st_o hb | exact st_1 hb | exact st_2 hb | exact st_3 hb | exact st_4 hb | exact st_5 hb | exact st_o hb2 | exact st_1 hb2 | exact st_2 hb2 | exact st_3 hb2 | exact st_4 hb2 | exact st_5 hb2) rfl rfl (by first | assumption | omega) ?_
        try simp only [hN, pC_1, pC_2, pC_3, pC_4, pC_5, pC_6, pC_7, set_1, set_2, set_3, set_4, set_5, set_6, set_7]
        refine g_iconst 53 rfl (v := 0) dX7_worsen_52 (by decide) ?_
        refine g_zret rfl dX7_worsen_53 (by first | exact Or.inl rfl | exact Or.inr rfl | assumption) ?_
        refine ⟨by simp [worV, *], ?_⟩
        first | (simp only [worS, *, true_or, or_true, if_true, or_self, if_false]; done) | (simp only [worS, *, true_or, or_true, if_true, or_self, if_false]; rfl)
      · refine g_iload2 41 rfl dX7_worsen_40 ?_
        refine g_iconst 42 rfl (v := 1) dX7_worsen_41 (by decide) ?_
        refine g_cmpne 54 45 rfl dX7_worsen_42 (by decide) (fun h42 => ?_) (fun h42 => ?_)
        · refine g_aload0 55 rfl dX7_worsen_54 ?_
          refine g_getR 58 rfl fX7_9 (by first | rfl | exact st_o hb | exact st_1 hb | exact st_2 hb | exact st_3 hb | exact st_4 hb | exact st_5 hb | exact st_o hb2 | exact st_1 hb2 | exact st_2 hb2 | exact st_3 hb2 | exact st_4 hb2 | exact st_5 hb2) rfl dX7_worsen_55 ?_
          refine g_iload1 59 rfl dX7_worsen_58 ?_
          refine g_iconst 60 rfl (v := (-1)) dX7_worsen_59 (by decide) ?_
          refine g_iast 61 rfl dX7_worsen_60 (by first | rfl | exact st_o hb | exact st_1 hb | exact st_2 hb | exact st_3 hb | exact st_4 hb | exact st_5 hb | exact st_o hb2 | exact st_1 hb2 | exact st_2 hb2 | exact st_3 hb2 | exact st_4 hb2 | exact st_5 hb2) rfl rfl (by first | assumption | omega) ?_
          try simp only [hN, pC_1, pC_2, pC_3, pC_4, pC_5, pC_6, pC_7, set_1, set_2, set_3, set_4, set_5, set_6, set_7]
          refine g_aload0 62 rfl dX7_worsen_61 ?_
          refine g_getR 65 rfl fX7_15 (by first | rfl | exact st_o hb | exact st_1 hb | exact st_2 hb | exact st_3 hb | exact st_4 hb | exact st_5 hb | exact st_o hb2 | exact st_1 hb2 | exact st_2 hb2 | exact st_3 hb2 | exact st_4 hb2 | exact st_5 hb2) rfl dX7_worsen_62 ?_
          refine g_iload1 66 rfl dX7_worsen_65 ?_
          refine g_iconst 67 rfl (v := 0) dX7_worsen_66 (by decide) ?_
          refine g_iast 68 rfl dX7_worsen_67 (by first | rfl | exact st_o hb | exact st_1 hb | exact st_2 hb | exact st_3 hb | exact st_4 hb | exact st_5 hb | exact st_o hb2 | exact st_1 hb2 | exact st_2 hb2 | exact st_3 hb2 | exact st_4 hb2 | exact st_5 hb2) rfl rfl (by first | assumption | omega) ?_
          try simp only [hN, pC_1, pC_2, pC_3, pC_4, pC_5, pC_6, pC_7, set_1, set_2, set_3, set_4, set_5, set_6, set_7]
          refine g_aload0 69 rfl dX7_worsen_68 ?_
          refine g_getR 72 rfl fX7_18 (by first | rfl | exact st_o hb | exact st_1 hb | exact st_2 hb | exact st_3 hb | exact st_4 hb | exact st_5 hb | exact st_o hb2 | exact st_1 hb2 | exact st_2 hb2 | exact st_3 hb2 | exact st_4 hb2 | exact st_5 hb2) rfl dX7_worsen_69 ?_
          refine g_iload1 73 rfl dX7_worsen_72 ?_
          refine g_dup2 74 rfl dX7_worsen_73 rfl rfl ?_
          refine g_iald 75 rfl dX7_worsen_74 (by first | rfl | exact st_o hb | exact st_1 hb | exact st_2 hb | exact st_3 hb | exact st_4 hb | exact st_5 hb | exact st_o hb2 | exact st_1 hb2 | exact st_2 hb2 | exact st_3 hb2 | exact st_4 hb2 | exact st_5 hb2) rfl rfl (by first | assumption | omega) ?_
          try simp only [hN, pC_1, pC_2, pC_3, pC_4, pC_5, pC_6, pC_7, set_1, set_2, set_3, set_4, set_5, set_6, set_7]
          refine g_iconst 76 rfl (v := 5) dX7_worsen_75 (by decide) ?_
          refine g_isub 77 rfl dX7_worsen_76 ?_
          refine g_iast 78 rfl dX7_worsen_77 (by first | rfl | exact st_o hb | exact st_1 hb | exact st_2 hb | exact st_3 hb | exact st_4 hb | exact st_5 hb | exact st_o hb2 | exact st_1 hb2 | exact st_2 hb2 | exact st_3 hb2 | exact st_4 hb2 | exact st_5 hb2) rfl rfl (by first | assumption | omega) ?_
          try simp only [hN, pC_1, pC_2, pC_3, pC_4, pC_5, pC_6, pC_7, set_1, set_2, set_3, set_4, set_5, set_6, set_7]
          refine g_aload0 79 rfl dX7_worsen_78 ?_
          refine g_getR 82 rfl fX7_24 (by first | rfl | exact st_o hb | exact st_1 hb | exact st_2 hb | exact st_3 hb | exact st_4 hb | exact st_5 hb | exact st_o hb2 | exact st_1 hb2 | exact st_2 hb2 | exact st_3 hb2 | exact st_4 hb2 | exact st_5 hb2) rfl dX7_worsen_79 ?_
          refine g_iload1 83 rfl dX7_worsen_82 ?_
          refine g_iconst 84 rfl (v := 0) dX7_worsen_83 (by decide) ?_
          refine g_iast 85 rfl dX7_worsen_84 (by first | rfl | exact st_o hb | exact st_1 hb | exact st_2 hb | exact st_3 hb | exact st_4 hb | exact st_5 hb | exact st_o hb2 | exact st_1 hb2 | exact st_2 hb2 | exact st_3 hb2 | exact st_4 hb2 | exact st_5 hb2) rfl rfl (by first | assumption | omega) ?_
          try simp only [hN, pC_1, pC_2, pC_3, pC_4, pC_5, pC_6, pC_7, set_1, set_2, set_3, set_4, set_5, set_6, set_7]
          refine g_iconst 86 rfl (v := 1) dX7_worsen_85 (by decide) ?_
          refine g_zret rfl dX7_worsen_86 (by first | exact Or.inl rfl | exact Or.inr rfl | assumption) ?_
          refine ⟨by simp [worV, *], ?_⟩
          first | (simp only [worS, *, true_or, or_true, if_true, or_self, if_false]; done) | (simp only [worS, *, true_or, or_true, if_true, or_self, if_false]; rfl)
        · refine g_aload0 46 rfl dX7_worsen_45 ?_
          refine g_getR 49 rfl fX7_9 (by first | rfl | exact st_o hb | exact st_1 hb | exact st_2 hb | exact st_3 hb | exact st_4 hb | exact st_5 hb | exact st_o hb2 | exact st_1 hb2 | exact st_2 hb2 | exact st_3 hb2 | exact st_4 hb2 | exact st_5 hb2) rfl dX7_worsen_46 ?_
          refine g_iload1 50 rfl dX7_worsen_49 ?_
          refine g_iconst 51 rfl (v := 2) dX7_worsen_50 (by decide) ?_
          refine g_iast 52 rfl dX7_worsen_51 (by first | rfl | exact st_o hb | exact st_1 hb | exact st_2 hb | exact st_3 hb | exact st_4 hb | exact st_5 hb | exact st_o hb2 | exact st_1 hb2 | exact st_2 hb2 | exact st_3 hb2 | exact st_4 hb2 | exact st_5 hb2) rfl rfl (by first | assumption | omega) ?_
          try simp only [hN, pC_1, pC_2, pC_3, pC_4, pC_5, pC_6, pC_7, set_1, set_2, set_3, set_4, set_5, set_6, set_7]
          refine g_iconst 53 rfl (v := 0) dX7_worsen_52 (by decide) ?_
          refine g_zret rfl dX7_worsen_53 (by first | exact Or.inl rfl | exact Or.inr rfl | assumption) ?_
          refine ⟨by simp [worV, *], ?_⟩
          first | (simp only [worS, *, true_or, or_true, if_true, or_self, if_false]; done) | (simp only [worS, *, true_or, or_true, if_true, or_self, if_false]; rfl)
    · refine g_iconst 18 rfl (v := 0) dX7_worsen_17 (by decide) ?_
      refine g_zret rfl dX7_worsen_18 (by first | exact Or.inl rfl | exact Or.inr rfl | assumption) ?_
      refine ⟨by simp [worV, *], ?_⟩
      first | (simp only [worS, *, true_or, or_true, if_true, or_self, if_false]; done) | (simp only [worS, *, true_or, or_true, if_true, or_self, if_false]; rfl)
def losS (c : Nat) (x : Sx) : Sx := wJ x (upd (sJ x) c (if 0 < sJ x c - 1 then sJ x c - 1 else 0))
theorem ok_X7_loseGrit {l : Launch} {M : Mm} {R W b c : Nat} {x : Sx} (hb : isSt b) (hp : Plan M R W) (hc : c < R * W) : Ov GC l mX7_loseGrit [.ref b, .int (nI c)] (pC M b x) (pC M b (losS c x)) := by
  have h30 := hp.1.le
  have hN : ∀ y, (pC M b y).1 12 4 = nI (R * W) := fun y => (pC_plan (x := y) hb hp).2.2.2.1
  refine ok_of (by decide +kernel) rfl rfl ?_
  refine g_aload0 1 rfl dX7_loseGrit_0 ?_
  refine g_getR 4 rfl fX7_24 (by first | rfl | exact st_o hb | exact st_1 hb | exact st_2 hb | exact st_3 hb | exact st_4 hb | exact st_5 hb | exact st_o hb2 | exact st_1 hb2 | exact st_2 hb2 | exact st_3 hb2 | exact st_4 hb2 | exact st_5 hb2) rfl dX7_loseGrit_1 ?_
  refine g_iload1 5 rfl dX7_loseGrit_4 ?_
  refine g_iconst 6 rfl (v := 0) dX7_loseGrit_5 (by decide) ?_
  refine g_aload0 7 rfl dX7_loseGrit_6 ?_
  refine g_getR 10 rfl fX7_24 (by first | rfl | exact st_o hb | exact st_1 hb | exact st_2 hb | exact st_3 hb | exact st_4 hb | exact st_5 hb | exact st_o hb2 | exact st_1 hb2 | exact st_2 hb2 | exact st_3 hb2 | exact st_4 hb2 | exact st_5 hb2) rfl dX7_loseGrit_7 ?_
  refine g_iload1 11 rfl dX7_loseGrit_10 ?_
  refine g_iald 12 rfl dX7_loseGrit_11 (by first | rfl | exact st_o hb | exact st_1 hb | exact st_2 hb | exact st_3 hb | exact st_4 hb | exact st_5 hb | exact st_o hb2 | exact st_1 hb2 | exact st_2 hb2 | exact st_3 hb2 | exact st_4 hb2 | exact st_5 hb2) rfl rfl (by first | assumption | omega) ?_
  try simp only [hN, pC_1, pC_2, pC_3, pC_4, pC_5, pC_6, pC_7, set_1, set_2, set_3, set_4, set_5, set_6, set_7]
  refine g_iconst 13 rfl (v := 1) dX7_loseGrit_12 (by decide) ?_
  refine g_isub 14 rfl dX7_loseGrit_13 ?_
  refine g_mmax 17 rfl kX7_75 dX7_loseGrit_14 mt_max.1 mt_max.2.1 mt_max.2.2 ⟨rfl, rfl⟩ rfl ?_
  refine g_iast 18 rfl dX7_loseGrit_17 (by first | rfl | exact st_o hb | exact st_1 hb | exact st_2 hb | exact st_3 hb | exact st_4 hb | exact st_5 hb | exact st_o hb2 | exact st_1 hb2 | exact st_2 hb2 | exact st_3 hb2 | exact st_4 hb2 | exact st_5 hb2) rfl rfl (by first | assumption | omega) ?_
  try simp only [hN, pC_1, pC_2, pC_3, pC_4, pC_5, pC_6, pC_7, set_1, set_2, set_3, set_4, set_5, set_6, set_7]
  refine g_vret rfl dX7_loseGrit_18 ?_
  exact ⟨rfl, rfl⟩
def draD (d : Int32) : Int32 := ((1103515245 * d.toInt64 + 12345) &&& 2147483647).toInt32
def draV (d : Int32) : Int32 := draD d / 65536 - draD d / 65536 / 10 * 10
theorem ok_X7_drawOfTen {l : Launch} {M : Mm} {b : Nat} {x : Sx} (hb : isSt b) : Oi GC l mX7_drawOfTen [.ref b] (pC M b x) (draV (sD x)) (pC M b (wD x (draD (sD x)))) := by
  have hN : True := trivial
  refine ok_of (by decide +kernel) rfl rfl ?_
  refine g_aload0 1 rfl dX7_drawOfTen_0 ?_
  refine g_ldc2 4 rfl dX7_drawOfTen_1 cX7_82 ?_
  refine g_aload0 5 rfl dX7_drawOfTen_4 ?_
  refine g_getI 8 rfl fX7_27 (by first | rfl | exact st_o hb | exact st_1 hb | exact st_2 hb | exact st_3 hb | exact st_4 hb | exact st_5 hb | exact st_o hb2 | exact st_1 hb2 | exact st_2 hb2 | exact st_3 hb2 | exact st_4 hb2 | exact st_5 hb2) rfl dX7_drawOfTen_5 ?_
  try simp only [hN, pC_1, pC_2, pC_3, pC_4, pC_5, pC_6, pC_7, set_1, set_2, set_3, set_4, set_5, set_6, set_7]
  refine g_i2l 9 rfl dX7_drawOfTen_8 ?_
  refine g_lmul 10 rfl dX7_drawOfTen_9 ?_
  refine g_ldc2 13 rfl dX7_drawOfTen_10 cX7_84 ?_
  refine g_ladd 14 rfl dX7_drawOfTen_13 ?_
  refine g_ldc2 17 rfl dX7_drawOfTen_14 cX7_86 ?_
  refine g_land 18 rfl dX7_drawOfTen_17 ?_
  refine g_l2i 19 rfl dX7_drawOfTen_18 ?_
  refine g_putI 22 rfl fX7_27 (by first | rfl | exact st_o hb | exact st_1 hb | exact st_2 hb | exact st_3 hb | exact st_4 hb | exact st_5 hb | exact st_o hb2 | exact st_1 hb2 | exact st_2 hb2 | exact st_3 hb2 | exact st_4 hb2 | exact st_5 hb2) rfl dX7_drawOfTen_19 ?_
  try simp only [hN, pC_1, pC_2, pC_3, pC_4, pC_5, pC_6, pC_7, set_1, set_2, set_3, set_4, set_5, set_6, set_7]
  refine g_aload0 23 rfl dX7_drawOfTen_22 ?_
  refine g_getI 26 rfl fX7_27 (by first | rfl | exact st_o hb | exact st_1 hb | exact st_2 hb | exact st_3 hb | exact st_4 hb | exact st_5 hb | exact st_o hb2 | exact st_1 hb2 | exact st_2 hb2 | exact st_3 hb2 | exact st_4 hb2 | exact st_5 hb2) rfl dX7_drawOfTen_23 ?_
  try simp only [hN, pC_1, pC_2, pC_3, pC_4, pC_5, pC_6, pC_7, set_1, set_2, set_3, set_4, set_5, set_6, set_7]
  refine g_ldc 28 rfl dX7_drawOfTen_26 cX7_88 ?_
  refine g_idiv 29 rfl dX7_drawOfTen_28 (by decide) ?_
  refine g_bipush 31 rfl (v := 10) dX7_drawOfTen_29 (by decide) ?_
  refine g_irem 32 rfl dX7_drawOfTen_31 (by decide) ?_
  refine g_iret rfl dX7_drawOfTen_32 ?_
  exact ⟨rfl, rfl⟩
def freS (c : Nat) (f : Int32) (x : Sx) : Sx := if sK x c = 0 ∨ sK x c = 1 then (if draV (sD x) < f then wS (wH (wK (wC (wD x (draD (sD x))) (sC x + 1)) (upd (sK x) c 3)) (upd (sH x) c (sH x c + 2))) (upd (sS x) c 0) else wD x (draD (sD x))) else x
theorem ok_X7_freeze {l : Launch} {M : Mm} {R W b c : Nat} {x : Sx} {f : Int32} (hb : isSt b) (hp : Plan M R W) (hc : c < R * W) : Ov GC l mX7_freeze [.ref b, .int (nI c), .int f] (pC M b x) (pC M b (freS c f x)) := by
  have h30 := hp.1.le
  have hN : ∀ y, (pC M b y).1 12 4 = nI (R * W) := fun y => (pC_plan (x := y) hb hp).2.2.2.1
  refine ok_of (by decide +kernel) rfl rfl ?_
  refine g_aload0 1 rfl dX7_freeze_0 ?_
  refine g_getR 4 rfl fX7_9 (by first | rfl | exact st_o hb | exact st_1 hb | exact st_2 hb | exact st_3 hb | exact st_4 hb | exact st_5 hb | exact st_o hb2 | exact st_1 hb2 | exact st_2 hb2 | exact st_3 hb2 | exact st_4 hb2 | exact st_5 hb2) rfl dX7_freeze_1 ?_
  refine g_iload1 5 rfl dX7_freeze_4 ?_
  refine g_iald 6 rfl dX7_freeze_5 (by first | rfl | exact st_o hb | exact st_1 hb | exact st_2 hb | exact st_3 hb | exact st_4 hb | exact st_5 hb | exact st_o hb2 | exact st_1 hb2 | exact st_2 hb2 | exact st_3 hb2 | exact st_4 hb2 | exact st_5 hb2) rfl rfl (by first | assumption | omega) ?_
  try simp only [hN, pC_1, pC_2, pC_3, pC_4, pC_5, pC_6, pC_7, set_1, set_2, set_3, set_4, set_5, set_6, set_7]
  refine g_ifeq 19 9 rfl dX7_freeze_6 (by decide) (fun h6 => ?_) (fun h6 => ?_)
  · refine g_iconst 20 rfl (v := 1) dX7_freeze_19 (by decide) ?_
    refine g_goto 24 dX7_freeze_20 (by decide) ?_
    refine g_istore3 25 rfl dX7_freeze_24 rfl rfl ?_
    refine g_iload3 26 rfl dX7_freeze_25 ?_
    refine g_ifeq 71 29 rfl dX7_freeze_26 (by decide) (fun h26 => ?_) (fun h26 => ?_)
    · refine g_vret rfl dX7_freeze_71 ?_
      first | exact absurd h26 (by decide) | (refine ⟨rfl, ?_⟩; simp only [← Int32.not_le, freS, *, true_or, or_true, if_true, or_self, if_false, not_true, not_false_eq_true]; done) | (refine ⟨rfl, ?_⟩; simp only [← Int32.not_le, freS, *, true_or, or_true, if_true, or_self, if_false, not_true, not_false_eq_true]; rfl)
    · refine g_aload0 30 rfl dX7_freeze_29 ?_
      refine g_callVi 33 0 rfl kX7_78 (by first | rfl | exact st_o hb | exact st_1 hb | exact st_2 hb | exact st_3 hb | exact st_4 hb | exact st_5 hb | exact st_o hb2 | exact st_1 hb2 | exact st_2 hb2 | exact st_3 hb2 | exact st_4 hb2 | exact st_5 hb2) dX7_freeze_30 ⟨rfl, rfl⟩ (ok_X7_drawOfTen hb) rfl rfl rfl ?_
      refine g_iload2 34 rfl dX7_freeze_33 ?_
      refine g_cmpge 71 37 rfl dX7_freeze_34 (by decide) (fun h34 => ?_) (fun h34 => ?_)
      · refine g_vret rfl dX7_freeze_71 ?_
        first | exact absurd h26 (by decide) | (refine ⟨rfl, ?_⟩; simp only [← Int32.not_le, freS, *, true_or, or_true, if_true, or_self, if_false, not_true, not_false_eq_true]; done) | (refine ⟨rfl, ?_⟩; simp only [← Int32.not_le, freS, *, true_or, or_true, if_true, or_self, if_false, not_true, not_false_eq_true]; rfl)
      · refine g_aload0 38 rfl dX7_freeze_37 ?_
        refine g_dup 39 rfl dX7_freeze_38 rfl ?_
        refine g_getI 42 rfl fX7_31 (by first | rfl | exact st_o hb | exact st_1 hb | exact st_2 hb | exact st_3 hb | exact st_4 hb | exact st_5 hb | exact st_o hb2 | exact st_1 hb2 | exact st_2 hb2 | exact st_3 hb2 | exact st_4 hb2 | exact st_5 hb2) rfl dX7_freeze_39 ?_
        try simp only [hN, pC_1, pC_2, pC_3, pC_4, pC_5, pC_6, pC_7, set_1, set_2, set_3, set_4, set_5, set_6, set_7]
        refine g_iconst 43 rfl (v := 1) dX7_freeze_42 (by decide) ?_
        refine g_iadd 44 rfl dX7_freeze_43 ?_
        refine g_putI 47 rfl fX7_31 (by first | rfl | exact st_o hb | exact st_1 hb | exact st_2 hb | exact st_3 hb | exact st_4 hb | exact st_5 hb | exact st_o hb2 | exact st_1 hb2 | exact st_2 hb2 | exact st_3 hb2 | exact st_4 hb2 | exact st_5 hb2) rfl dX7_freeze_44 ?_
        try simp only [hN, pC_1, pC_2, pC_3, pC_4, pC_5, pC_6, pC_7, set_1, set_2, set_3, set_4, set_5, set_6, set_7]
        refine g_aload0 48 rfl dX7_freeze_47 ?_
        refine g_getR 51 rfl fX7_9 (by first | rfl | exact st_o hb | exact st_1 hb | exact st_2 hb | exact st_3 hb | exact st_4 hb | exact st_5 hb | exact st_o hb2 | exact st_1 hb2 | exact st_2 hb2 | exact st_3 hb2 | exact st_4 hb2 | exact st_5 hb2) rfl dX7_freeze_48 ?_
        refine g_iload1 52 rfl dX7_freeze_51 ?_
        refine g_iconst 53 rfl (v := 3) dX7_freeze_52 (by decide) ?_
        refine g_iast 54 rfl dX7_freeze_53 (by first | rfl | exact st_o hb | exact st_1 hb | exact st_2 hb | exact st_3 hb | exact st_4 hb | exact st_5 hb | exact st_o hb2 | exact st_1 hb2 | exact st_2 hb2 | exact st_3 hb2 | exact st_4 hb2 | exact st_5 hb2) rfl rfl (by first | assumption | omega) ?_
        try simp only [hN, pC_1, pC_2, pC_3, pC_4, pC_5, pC_6, pC_7, set_1, set_2, set_3, set_4, set_5, set_6, set_7]
        refine g_aload0 55 rfl dX7_freeze_54 ?_
        refine g_getR 58 rfl fX7_18 (by first | rfl | exact st_o hb | exact st_1 hb | exact st_2 hb | exact st_3 hb | exact st_4 hb | exact st_5 hb | exact st_o hb2 | exact st_1 hb2 | exact st_2 hb2 | exact st_3 hb2 | exact st_4 hb2 | exact st_5 hb2) rfl dX7_freeze_55 ?_
        refine g_iload1 59 rfl dX7_freeze_58 ?_
        refine g_dup2 60 rfl dX7_freeze_59 rfl rfl ?_
        refine g_iald 61 rfl dX7_freeze_60 (by first | rfl | exact st_o hb | exact st_1 hb | exact st_2 hb | exact st_3 hb | exact st_4 hb | exact st_5 hb | exact st_o hb2 | exact st_1 hb2 | exact st_2 hb2 | exact st_3 hb2 | exact st_4 hb2 | exact st_5 hb2) rfl rfl (by first | assumption | omega) ?_
        try simp only [hN, pC_1, pC_2, pC_3, pC_4, pC_5, pC_6, pC_7, set_1, set_2, set_3, set_4, set_5, set_6, set_7]
        refine g_iconst 62 rfl (v := 2) dX7_freeze_61 (by decide) ?_
        refine g_iadd 63 rfl dX7_freeze_62 ?_
        refine g_iast 64 rfl dX7_freeze_63 (by first | rfl | exact st_o hb | exact st_1 hb | exact st_2 hb | exact st_3 hb | exact st_4 hb | exact st_5 hb | exact st_o hb2 | exact st_1 hb2 | exact st_2 hb2 | exact st_3 hb2 | exact st_4 hb2 | exact st_5 hb2) rfl rfl (by first | assumption | omega) ?_
        try simp only [hN, pC_1, pC_2, pC_3, pC_4, pC_5, pC_6, pC_7, set_1, set_2, set_3, set_4, set_5, set_6, set_7]
        refine g_aload0 65 rfl dX7_freeze_64 ?_
        refine g_getR 68 rfl fX7_21 (by first | rfl | exact st_o hb | exact st_1 hb | exact st_2 hb | exact st_3 hb | exact st_4 hb | exact st_5 hb | exact st_o hb2 | exact st_1 hb2 | exact st_2 hb2 | exact st_3 hb2 | exact st_4 hb2 | exact st_5 hb2) rfl dX7_freeze_65 ?_
        refine g_iload1 69 rfl dX7_freeze_68 ?_
        refine g_iconst 70 rfl (v := 0) dX7_freeze_69 (by decide) ?_
        refine g_iast 71 rfl dX7_freeze_70 (by first | rfl | exact st_o hb | exact st_1 hb | exact st_2 hb | exact st_3 hb | exact st_4 hb | exact st_5 hb | exact st_o hb2 | exact st_1 hb2 | exact st_2 hb2 | exact st_3 hb2 | exact st_4 hb2 | exact st_5 hb2) rfl rfl (by first | assumption | omega) ?_
        try simp only [hN, pC_1, pC_2, pC_3, pC_4, pC_5, pC_6, pC_7, set_1, set_2, set_3, set_4, set_5, set_6, set_7]
        refine g_vret rfl dX7_freeze_71 ?_
        first | exact absurd h26 (by decide) | (refine ⟨rfl, ?_⟩; simp only [← Int32.not_le, freS, *, true_or, or_true, if_true, or_self, if_false, not_true, not_false_eq_true]; done) | (refine ⟨rfl, ?_⟩; simp only [← Int32.not_le, freS, *, true_or, or_true, if_true, or_self, if_false, not_true, not_false_eq_true]; rfl)
  · refine g_aload0 10 rfl dX7_freeze_9 ?_
    refine g_getR 13 rfl fX7_9 (by first | rfl | exact st_o hb | exact st_1 hb | exact st_2 hb | exact st_3 hb | exact st_4 hb | exact st_5 hb | exact st_o hb2 | exact st_1 hb2 | exact st_2 hb2 | exact st_3 hb2 | exact st_4 hb2 | exact st_5 hb2) rfl dX7_freeze_10 ?_
    refine g_iload1 14 rfl dX7_freeze_13 ?_
    refine g_iald 15 rfl dX7_freeze_14 (by first | rfl | exact st_o hb | exact st_1 hb | exact st_2 hb | exact st_3 hb | exact st_4 hb | exact st_5 hb | exact st_o hb2 | exact st_1 hb2 | exact st_2 hb2 | exact st_3 hb2 | exact st_4 hb2 | exact st_5 hb2) rfl rfl (by first | assumption | omega) ?_
    try simp only [hN, pC_1, pC_2, pC_3, pC_4, pC_5, pC_6, pC_7, set_1, set_2, set_3, set_4, set_5, set_6, set_7]
    refine g_iconst 16 rfl (v := 1) dX7_freeze_15 (by decide) ?_
    refine g_cmpne 23 19 rfl dX7_freeze_16 (by decide) (fun h16 => ?_) (fun h16 => ?_)
    · refine g_iconst 24 rfl (v := 0) dX7_freeze_23 (by decide) ?_
      refine g_istore3 25 rfl dX7_freeze_24 rfl rfl ?_
      refine g_iload3 26 rfl dX7_freeze_25 ?_
      refine g_ifeq 71 29 rfl dX7_freeze_26 (by decide) (fun h26 => ?_) (fun h26 => ?_)
      · refine g_vret rfl dX7_freeze_71 ?_
        first | exact absurd h26 (by decide) | (refine ⟨rfl, ?_⟩; simp only [← Int32.not_le, freS, *, true_or, or_true, if_true, or_self, if_false, not_true, not_false_eq_true]; done) | (refine ⟨rfl, ?_⟩; simp only [← Int32.not_le, freS, *, true_or, or_true, if_true, or_self, if_false, not_true, not_false_eq_true]; rfl)
      · refine g_aload0 30 rfl dX7_freeze_29 ?_
        refine g_callVi 33 0 rfl kX7_78 (by first | rfl | exact st_o hb | exact st_1 hb | exact st_2 hb | exact st_3 hb | exact st_4 hb | exact st_5 hb | exact st_o hb2 | exact st_1 hb2 | exact st_2 hb2 | exact st_3 hb2 | exact st_4 hb2 | exact st_5 hb2) dX7_freeze_30 ⟨rfl, rfl⟩ (ok_X7_drawOfTen hb) rfl rfl rfl ?_
        refine g_iload2 34 rfl dX7_freeze_33 ?_
        refine g_cmpge 71 37 rfl dX7_freeze_34 (by decide) (fun h34 => ?_) (fun h34 => ?_)
        · refine g_vret rfl dX7_freeze_71 ?_
          first | exact absurd h26 (by decide) | (refine ⟨rfl, ?_⟩; simp only [← Int32.not_le, freS, *, true_or, or_true, if_true, or_self, if_false, not_true, not_false_eq_true]; done) | (refine ⟨rfl, ?_⟩; simp only [← Int32.not_le, freS, *, true_or, or_true, if_true, or_self, if_false, not_true, not_false_eq_true]; rfl)
        · refine g_aload0 38 rfl dX7_freeze_37 ?_
          refine g_dup 39 rfl dX7_freeze_38 rfl ?_
          refine g_getI 42 rfl fX7_31 (by first | rfl | exact st_o hb | exact st_1 hb | exact st_2 hb | exact st_3 hb | exact st_4 hb | exact st_5 hb | exact st_o hb2 | exact st_1 hb2 | exact st_2 hb2 | exact st_3 hb2 | exact st_4 hb2 | exact st_5 hb2) rfl dX7_freeze_39 ?_
          try simp only [hN, pC_1, pC_2, pC_3, pC_4, pC_5, pC_6, pC_7, set_1, set_2, set_3, set_4, set_5, set_6, set_7]
          refine g_iconst 43 rfl (v := 1) dX7_freeze_42 (by decide) ?_
          refine g_iadd 44 rfl dX7_freeze_43 ?_
          refine g_putI 47 rfl fX7_31 (by first | rfl | exact st_o hb | exact st_1 hb | exact st_2 hb | exact st_3 hb | exact st_4 hb | exact st_5 hb | exact st_o hb2 | exact st_1 hb2 | exact st_2 hb2 | exact st_3 hb2 | exact st_4 hb2 | exact st_5 hb2) rfl dX7_freeze_44 ?_
          try simp only [hN, pC_1, pC_2, pC_3, pC_4, pC_5, pC_6, pC_7, set_1, set_2, set_3, set_4, set_5, set_6, set_7]
          refine g_aload0 48 rfl dX7_freeze_47 ?_
          refine g_getR 51 rfl fX7_9 (by first | rfl | exact st_o hb | exact st_1 hb | exact st_2 hb | exact st_3 hb | exact st_4 hb | exact st_5 hb | exact st_o hb2 | exact st_1 hb2 | exact st_2 hb2 | exact st_3 hb2 | exact st_4 hb2 | exact st_5 hb2) rfl dX7_freeze_48 ?_
          refine g_iload1 52 rfl dX7_freeze_51 ?_
          refine g_iconst 53 rfl (v := 3) dX7_freeze_52 (by decide) ?_
          refine g_iast 54 rfl dX7_freeze_53 (by first | rfl | exact st_o hb | exact st_1 hb | exact st_2 hb | exact st_3 hb | exact st_4 hb | exact st_5 hb | exact st_o hb2 | exact st_1 hb2 | exact st_2 hb2 | exact st_3 hb2 | exact st_4 hb2 | exact st_5 hb2) rfl rfl (by first | assumption | omega) ?_
          try simp only [hN, pC_1, pC_2, pC_3, pC_4, pC_5, pC_6, pC_7, set_1, set_2, set_3, set_4, set_5, set_6, set_7]
          refine g_aload0 55 rfl dX7_freeze_54 ?_
          refine g_getR 58 rfl fX7_18 (by first | rfl | exact st_o hb | exact st_1 hb | exact st_2 hb | exact st_3 hb | exact st_4 hb | exact st_5 hb | exact st_o hb2 | exact st_1 hb2 | exact st_2 hb2 | exact st_3 hb2 | exact st_4 hb2 | exact st_5 hb2) rfl dX7_freeze_55 ?_
          refine g_iload1 59 rfl dX7_freeze_58 ?_
          refine g_dup2 60 rfl dX7_freeze_59 rfl rfl ?_
          refine g_iald 61 rfl dX7_freeze_60 (by first | rfl | exact st_o hb | exact st_1 hb | exact st_2 hb | exact st_3 hb | exact st_4 hb | exact st_5 hb | exact st_o hb2 | exact st_1 hb2 | exact st_2 hb2 | exact st_3 hb2 | exact st_4 hb2 | exact st_5 hb2) rfl rfl (by first | assumption | omega) ?_
          try simp only [hN, pC_1, pC_2, pC_3, pC_4, pC_5, pC_6, pC_7, set_1, set_2, set_3, set_4, set_5, set_6, set_7]
          refine g_iconst 62 rfl (v := 2) dX7_freeze_61 (by decide) ?_
          refine g_iadd 63 rfl dX7_freeze_62 ?_
          refine g_iast 64 rfl dX7_freeze_63 (by first | rfl | exact st_o hb | exact st_1 hb | exact st_2 hb | exact st_3 hb | exact st_4 hb | exact st_5 hb | exact st_o hb2 | exact st_1 hb2 | exact st_2 hb2 | exact st_3 hb2 | exact st_4 hb2 | exact st_5 hb2) rfl rfl (by first | assumption | omega) ?_
          try simp only [hN, pC_1, pC_2, pC_3, pC_4, pC_5, pC_6, pC_7, set_1, set_2, set_3, set_4, set_5, set_6, set_7]
          refine g_aload0 65 rfl dX7_freeze_64 ?_
          refine g_getR 68 rfl fX7_21 (by first | rfl | exact st_o hb | exact st_1 hb | exact st_2 hb | exact st_3 hb | exact st_4 hb | exact st_5 hb | exact st_o hb2 | exact st_1 hb2 | exact st_2 hb2 | exact st_3 hb2 | exact st_4 hb2 | exact st_5 hb2) rfl dX7_freeze_65 ?_
          refine g_iload1 69 rfl dX7_freeze_68 ?_
          refine g_iconst 70 rfl (v := 0) dX7_freeze_69 (by decide) ?_
          refine g_iast 71 rfl dX7_freeze_70 (by first | rfl | exact st_o hb | exact st_1 hb | exact st_2 hb | exact st_3 hb | exact st_4 hb | exact st_5 hb | exact st_o hb2 | exact st_1 hb2 | exact st_2 hb2 | exact st_3 hb2 | exact st_4 hb2 | exact st_5 hb2) rfl rfl (by first | assumption | omega) ?_
          try simp only [hN, pC_1, pC_2, pC_3, pC_4, pC_5, pC_6, pC_7, set_1, set_2, set_3, set_4, set_5, set_6, set_7]
          refine g_vret rfl dX7_freeze_71 ?_
          first | exact absurd h26 (by decide) | (refine ⟨rfl, ?_⟩; simp only [← Int32.not_le, freS, *, true_or, or_true, if_true, or_self, if_false, not_true, not_false_eq_true]; done) | (refine ⟨rfl, ?_⟩; simp only [← Int32.not_le, freS, *, true_or, or_true, if_true, or_self, if_false, not_true, not_false_eq_true]; rfl)
    · refine g_iconst 20 rfl (v := 1) dX7_freeze_19 (by decide) ?_
      refine g_goto 24 dX7_freeze_20 (by decide) ?_
      refine g_istore3 25 rfl dX7_freeze_24 rfl rfl ?_
      refine g_iload3 26 rfl dX7_freeze_25 ?_
      refine g_ifeq 71 29 rfl dX7_freeze_26 (by decide) (fun h26 => ?_) (fun h26 => ?_)
      · refine g_vret rfl dX7_freeze_71 ?_
        first | exact absurd h26 (by decide) | (refine ⟨rfl, ?_⟩; simp only [← Int32.not_le, freS, *, true_or, or_true, if_true, or_self, if_false, not_true, not_false_eq_true]; done) | (refine ⟨rfl, ?_⟩; simp only [← Int32.not_le, freS, *, true_or, or_true, if_true, or_self, if_false, not_true, not_false_eq_true]; rfl)
      · refine g_aload0 30 rfl dX7_freeze_29 ?_
        refine g_callVi 33 0 rfl kX7_78 (by first | rfl | exact st_o hb | exact st_1 hb | exact st_2 hb | exact st_3 hb | exact st_4 hb | exact st_5 hb | exact st_o hb2 | exact st_1 hb2 | exact st_2 hb2 | exact st_3 hb2 | exact st_4 hb2 | exact st_5 hb2) dX7_freeze_30 ⟨rfl, rfl⟩ (ok_X7_drawOfTen hb) rfl rfl rfl ?_
        refine g_iload2 34 rfl dX7_freeze_33 ?_
        refine g_cmpge 71 37 rfl dX7_freeze_34 (by decide) (fun h34 => ?_) (fun h34 => ?_)
        · refine g_vret rfl dX7_freeze_71 ?_
          first | exact absurd h26 (by decide) | (refine ⟨rfl, ?_⟩; simp only [← Int32.not_le, freS, *, true_or, or_true, if_true, or_self, if_false, not_true, not_false_eq_true]; done) | (refine ⟨rfl, ?_⟩; simp only [← Int32.not_le, freS, *, true_or, or_true, if_true, or_self, if_false, not_true, not_false_eq_true]; rfl)
        · refine g_aload0 38 rfl dX7_freeze_37 ?_
          refine g_dup 39 rfl dX7_freeze_38 rfl ?_
          refine g_getI 42 rfl fX7_31 (by first | rfl | exact st_o hb | exact st_1 hb | exact st_2 hb | exact st_3 hb | exact st_4 hb | exact st_5 hb | exact st_o hb2 | exact st_1 hb2 | exact st_2 hb2 | exact st_3 hb2 | exact st_4 hb2 | exact st_5 hb2) rfl dX7_freeze_39 ?_
          try simp only [hN, pC_1, pC_2, pC_3, pC_4, pC_5, pC_6, pC_7, set_1, set_2, set_3, set_4, set_5, set_6, set_7]
          refine g_iconst 43 rfl (v := 1) dX7_freeze_42 (by decide) ?_
          refine g_iadd 44 rfl dX7_freeze_43 ?_
          refine g_putI 47 rfl fX7_31 (by first | rfl | exact st_o hb | exact st_1 hb | exact st_2 hb | exact st_3 hb | exact st_4 hb | exact st_5 hb | exact st_o hb2 | exact st_1 hb2 | exact st_2 hb2 | exact st_3 hb2 | exact st_4 hb2 | exact st_5 hb2) rfl dX7_freeze_44 ?_
          try simp only [hN, pC_1, pC_2, pC_3, pC_4, pC_5, pC_6, pC_7, set_1, set_2, set_3, set_4, set_5, set_6, set_7]
          refine g_aload0 48 rfl dX7_freeze_47 ?_
          refine g_getR 51 rfl fX7_9 (by first | rfl | exact st_o hb | exact st_1 hb | exact st_2 hb | exact st_3 hb | exact st_4 hb | exact st_5 hb | exact st_o hb2 | exact st_1 hb2 | exact st_2 hb2 | exact st_3 hb2 | exact st_4 hb2 | exact st_5 hb2) rfl dX7_freeze_48 ?_
          refine g_iload1 52 rfl dX7_freeze_51 ?_
          refine g_iconst 53 rfl (v := 3) dX7_freeze_52 (by decide) ?_
          refine g_iast 54 rfl dX7_freeze_53 (by first | rfl | exact st_o hb | exact st_1 hb | exact st_2 hb | exact st_3 hb | exact st_4 hb | exact st_5 hb | exact st_o hb2 | exact st_1 hb2 | exact st_2 hb2 | exact st_3 hb2 | exact st_4 hb2 | exact st_5 hb2) rfl rfl (by first | assumption | omega) ?_
          try simp only [hN, pC_1, pC_2, pC_3, pC_4, pC_5, pC_6, pC_7, set_1, set_2, set_3, set_4, set_5, set_6, set_7]
          refine g_aload0 55 rfl dX7_freeze_54 ?_
          refine g_getR 58 rfl fX7_18 (by first | rfl | exact st_o hb | exact st_1 hb | exact st_2 hb | exact st_3 hb | exact st_4 hb | exact st_5 hb | exact st_o hb2 | exact st_1 hb2 | exact st_2 hb2 | exact st_3 hb2 | exact st_4 hb2 | exact st_5 hb2) rfl dX7_freeze_55 ?_
          refine g_iload1 59 rfl dX7_freeze_58 ?_
          refine g_dup2 60 rfl dX7_freeze_59 rfl rfl ?_
          refine g_iald 61 rfl dX7_freeze_60 (by first | rfl | exact st_o hb | exact st_1 hb | exact st_2 hb | exact st_3 hb | exact st_4 hb | exact st_5 hb | exact st_o hb2 | exact st_1 hb2 | exact st_2 hb2 | exact st_3 hb2 | exact st_4 hb2 | exact st_5 hb2) rfl rfl (by first | assumption | omega) ?_
          try simp only [hN, pC_1, pC_2, pC_3, pC_4, pC_5, pC_6, pC_7, set_1, set_2, set_3, set_4, set_5, set_6, set_7]
          refine g_iconst 62 rfl (v := 2) dX7_freeze_61 (by decide) ?_
          refine g_iadd 63 rfl dX7_freeze_62 ?_
          refine g_iast 64 rfl dX7_freeze_63 (by first | rfl | exact st_o hb | exact st_1 hb | exact st_2 hb | exact st_3 hb | exact st_4 hb | exact st_5 hb | exact st_o hb2 | exact st_1 hb2 | exact st_2 hb2 | exact st_3 hb2 | exact st_4 hb2 | exact st_5 hb2) rfl rfl (by first | assumption | omega) ?_
          try simp only [hN, pC_1, pC_2, pC_3, pC_4, pC_5, pC_6, pC_7, set_1, set_2, set_3, set_4, set_5, set_6, set_7]
          refine g_aload0 65 rfl dX7_freeze_64 ?_
          refine g_getR 68 rfl fX7_21 (by first | rfl | exact st_o hb | exact st_1 hb | exact st_2 hb | exact st_3 hb | exact st_4 hb | exact st_5 hb | exact st_o hb2 | exact st_1 hb2 | exact st_2 hb2 | exact st_3 hb2 | exact st_4 hb2 | exact st_5 hb2) rfl dX7_freeze_65 ?_
          refine g_iload1 69 rfl dX7_freeze_68 ?_
          refine g_iconst 70 rfl (v := 0) dX7_freeze_69 (by decide) ?_
          refine g_iast 71 rfl dX7_freeze_70 (by first | rfl | exact st_o hb | exact st_1 hb | exact st_2 hb | exact st_3 hb | exact st_4 hb | exact st_5 hb | exact st_o hb2 | exact st_1 hb2 | exact st_2 hb2 | exact st_3 hb2 | exact st_4 hb2 | exact st_5 hb2) rfl rfl (by first | assumption | omega) ?_
          try simp only [hN, pC_1, pC_2, pC_3, pC_4, pC_5, pC_6, pC_7, set_1, set_2, set_3, set_4, set_5, set_6, set_7]
          refine g_vret rfl dX7_freeze_71 ?_
          first | exact absurd h26 (by decide) | (refine ⟨rfl, ?_⟩; simp only [← Int32.not_le, freS, *, true_or, or_true, if_true, or_self, if_false, not_true, not_false_eq_true]; done) | (refine ⟨rfl, ?_⟩; simp only [← Int32.not_le, freS, *, true_or, or_true, if_true, or_self, if_false, not_true, not_false_eq_true]; rfl)
def bsd (x : Sx) (R W c s : Nat) : Prop := match nb R W c s with
  | none => False
  | some k => sK x k = -1
theorem bsd_none {x : Sx} {R W c s : Nat} (h : nb R W c s = none) : ¬ bsd x R W c s := by unfold bsd; rw [h]; exact fun z => z
theorem bsd_some {x : Sx} {R W c s k : Nat} (h : nb R W c s = some k) : bsd x R W c s ↔ sK x k = -1 := by unfold bsd; rw [h]
noncomputable def bssS (x : Sx) (R W c : Nat) : Int32 := @ite _ (∃ s, s < 4 ∧ bsd x R W c s) (Classical.propDecidable _) 1 0
theorem ok_X7_isBesideSand {l : Launch} {M : Mm} {R W b c : Nat} {x : Sx} (hb : isSt b) (hp : Plan M R W) (hc : c < R * W) : Oi GC l mX7_isBesideSand [.ref b, .int (nI c)] (pC M b x) (bssS x R W c) (pC M b x) := by
  have h30 := hp.1.le
  have hN : ∀ y, (pC M b y).1 12 4 = nI (R * W) := fun y => (pC_plan (x := y) hb hp).2.2.2.1
  have hp := pC_plan (x := x) hb hp
  refine ok_of (by decide +kernel) rfl rfl ?_
  refine g_iconst 1 rfl (v := 0) dX7_isBesideSand_0 (by decide) ?_
  refine g_istore2 2 rfl dX7_isBesideSand_1 rfl rfl ?_
  refine loop_up (P := fun i => (∀ j, j < i → ¬ bsd x R W c j) → Go GC l mX7_isBesideSand 2 [.ref b, .int (nI c), .int (nI i), .null] [] (pC M b x) _) 4 ?_ ?_ 0 (by omega) (fun j hj => absurd hj (by omega))
  · intro hn
    refine g_iload2 3 rfl dX7_isBesideSand_2 ?_
    refine g_iconst 4 rfl (v := 4) dX7_isBesideSand_3 (by decide) ?_
    refine g_cmpge 40 7 rfl dX7_isBesideSand_4 (by decide) (fun h4 => ?_) (fun h => absurd (by decide) h)
    refine g_iconst 41 rfl (v := 0) dX7_isBesideSand_40 (by decide) ?_
    refine g_zret rfl dX7_isBesideSand_41 (by first | exact Or.inl rfl | exact Or.inr rfl | assumption) ?_
    refine ⟨?_, rfl⟩
    rw [bssS, if_neg]
    rintro ⟨s, h1, h2⟩
    exact hn s h1 h2
  · intro i hi ih hn
    refine g_iload2 3 rfl dX7_isBesideSand_2 ?_
    refine g_iconst 4 rfl (v := 4) dX7_isBesideSand_3 (by decide) ?_
    refine g_cmpge 40 7 rfl dX7_isBesideSand_4 (by decide) (fun h => absurd h (nI_ge hi (by decide))) (fun _ => ?_)
    refine g_aload0 8 rfl dX7_isBesideSand_7 ?_
    refine g_getR 11 rfl fX7_34 (by first | rfl | exact st_o hb | exact st_1 hb | exact st_2 hb | exact st_3 hb | exact st_4 hb | exact st_5 hb | exact st_o hb2 | exact st_1 hb2 | exact st_2 hb2 | exact st_3 hb2 | exact st_4 hb2 | exact st_5 hb2) rfl dX7_isBesideSand_8 ?_
    refine g_iload1 12 rfl dX7_isBesideSand_11 ?_
    refine g_iload2 13 rfl dX7_isBesideSand_12 ?_
    refine g_callVi 16 2 rfl kX7_51 (by first | rfl | exact st_o hb | exact st_1 hb | exact st_2 hb | exact st_3 hb | exact st_4 hb | exact st_5 hb | exact st_o hb2 | exact st_1 hb2 | exact st_2 hb2 | exact st_3 hb2 | exact st_4 hb2 | exact st_5 hb2) dX7_isBesideSand_13 ⟨rfl, rfl⟩ (ok_X4_beside hp hc (by assumption)) rfl rfl rfl ?_
    refine g_istore3 17 rfl dX7_isBesideSand_16 rfl rfl ?_
    refine g_iload3 18 rfl dX7_isBesideSand_17 ?_
    cases hk : nb R W c i with
    | none =>
      refine g_iconst 19 rfl (v := (-1)) dX7_isBesideSand_18 (by decide) ?_
      refine g_cmpeq 34 22 rfl dX7_isBesideSand_19 (by decide) (fun _ => ?_) (fun h => absurd rfl h)
      refine g_iinc2 37 rfl dX7_isBesideSand_34 rfl rfl _ (by first | exact iinc1 _ | exact iincx _ | rfl) ?_
      refine g_goto 2 dX7_isBesideSand_37 (by decide) ?_
      refine g_fg 3 ?_
      exact ih (fun j hj => if h : j < i then hn j h else by rw [show j = i by omega]; exact bsd_none hk)
    | some k =>
      have hk2 := nb_lt hc hk
      refine g_iconst 19 rfl (v := (-1)) dX7_isBesideSand_18 (by decide) ?_
      refine g_cmpeq 34 22 rfl dX7_isBesideSand_19 (by decide) (fun h => absurd h (nI_ne_m1 (by omega))) (fun _ => ?_)
      refine g_aload0 23 rfl dX7_isBesideSand_22 ?_
      refine g_getR 26 rfl fX7_9 (by first | rfl | exact st_o hb | exact st_1 hb | exact st_2 hb | exact st_3 hb | exact st_4 hb | exact st_5 hb | exact st_o hb2 | exact st_1 hb2 | exact st_2 hb2 | exact st_3 hb2 | exact st_4 hb2 | exact st_5 hb2) rfl dX7_isBesideSand_23 ?_
      refine g_iload3 27 rfl dX7_isBesideSand_26 ?_
      refine g_iald 28 rfl dX7_isBesideSand_27 (by first | rfl | exact st_o hb | exact st_1 hb | exact st_2 hb | exact st_3 hb | exact st_4 hb | exact st_5 hb | exact st_o hb2 | exact st_1 hb2 | exact st_2 hb2 | exact st_3 hb2 | exact st_4 hb2 | exact st_5 hb2) rfl rfl (by first | assumption | omega) ?_
      try simp only [hN, pC_1, pC_2, pC_3, pC_4, pC_5, pC_6, pC_7, set_1, set_2, set_3, set_4, set_5, set_6, set_7]
      refine g_iconst 29 rfl (v := (-1)) dX7_isBesideSand_28 (by decide) ?_
      refine g_cmpne 34 32 rfl dX7_isBesideSand_29 (by decide) (fun h => ?_) (fun h => ?_)
      · refine g_iinc2 37 rfl dX7_isBesideSand_34 rfl rfl _ (by first | exact iinc1 _ | exact iincx _ | rfl) ?_
        refine g_goto 2 dX7_isBesideSand_37 (by decide) ?_
        refine g_fg 3 ?_
        exact ih (fun j hj => if h2 : j < i then hn j h2 else by rw [show j = i by omega, bsd_some hk]; exact h)
      · refine g_iconst 33 rfl (v := 1) dX7_isBesideSand_32 (by decide) ?_
        refine g_zret rfl dX7_isBesideSand_33 (by first | exact Or.inl rfl | exact Or.inr rfl | assumption) ?_
        refine ⟨?_, rfl⟩
        rw [bssS, if_pos]
        exact ⟨i, hi, (bsd_some hk).mpr h⟩
