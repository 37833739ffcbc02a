/-! the class's Plan.numberOf, Ramming -/
theorem sA_s {M : Mm} {h : Nat} {f : Nat → Int32} : (setA M h f).1 h = f := by simp [setA]
theorem sA_n {M : Mm} {h h' : Nat} {f : Nat → Int32} (hn : h' ≠ h) : (setA M h f).1 h' = M.1 h' := by simp [setA, hn]
theorem sA_sA {M : Mm} {h : Nat} {f g : Nat → Int32} : setA (setA M h f) h g = setA M h g := by
  refine Prod.ext ?_ rfl
  funext h'
  simp only [setA]
  split <;> rfl
theorem sA_id {M : Mm} {h : Nat} : setA M h (M.1 h) = M := by
  refine Prod.ext ?_ rfl
  funext h'
  simp only [setA]
  split
  · subst_vars; rfl
  · rfl
theorem sA_sw {M : Mm} {h h' : Nat} {f g : Nat → Int32} (hn : h' ≠ h) : setA (setA M h f) h' g = setA (setA M h' g) h f := by
  refine Prod.ext ?_ rfl
  funext k
  simp only [setA]
  split <;> split <;> first | rfl | (exfalso; omega)
theorem pl_set {M : Mm} {R W h : Nat} {f : Nat → Int32} (hp : Plan M R W) (hh : h ≠ 12 ∧ h ≠ 13 ∧ h ≠ 14) : Plan (setA M h f) R W := by
  unfold Plan
  rw [sA_n (Ne.symm hh.1), sA_n (Ne.symm hh.2.1), sA_n (Ne.symm hh.2.2)]
  exact hp
theorem set_o {M : Mm} {b h : Nat} {x : Sx} {f : Nat → Int32} (hh : h < b ∨ b + 5 < h) : setA (pC M b x) h f = pC (setA M h f) b x := by
  refine Prod.ext ?_ rfl
  funext k
  by_cases hk : k = h
  · subst hk
    rw [pC_o hh, sA_s, sA_s]
  · rw [sA_n hk]
    by_cases hkb : k < b ∨ b + 5 < k
    · rw [pC_o hkb, pC_o hkb, sA_n hk]
    · simp only [pC, sA_n (show b ≠ h by omega), sA_n hk]
theorem st_out {b h : Nat} (hb : isSt b) (hh : h < 15 ∨ 32 < h) : h < b ∨ b + 5 < h := by rcases hb with rfl | rfl | rfl <;> omega
def numO (R W : Nat) (r c : Int32) : Int32 := if 0 ≤ r ∧ r < nI R ∧ 0 ≤ c ∧ c < nI W then r * nI W + c else -1
theorem tI0 : (0 : Int32).toInt = 0 := by decide
theorem tI1 : (1 : Int32).toInt = 1 := by decide
theorem tIm : (-1 : Int32).toInt = -1 := by decide
theorem ok_X4_numberOf {l : Launch} {M : Mm} {R W : Nat} {r c : Int32} (h2 : M.1 12 2 = nI R) (h3 : M.1 12 3 = nI W) : Oi GC l mX4_numberOf [.ref 12, .int r, .int c] M (numO R W r c) M := by
  refine ok_of (by decide +kernel) rfl rfl ?_
  refine g_iload1 1 rfl dX4_numberOf_0 ?_
  refine g_iflt 28 4 rfl dX4_numberOf_1 (by decide) (fun h1 => ?_) (fun h1 => ?_)
  · refine g_iconst 29 rfl (v := 0) dX4_numberOf_28 (by decide) ?_
    refine g_istore3 30 rfl dX4_numberOf_29 rfl rfl ?_
    refine g_iload3 31 rfl dX4_numberOf_30 ?_
    refine g_ifeq 45 34 rfl dX4_numberOf_31 (by decide) (fun h31 => ?_) (fun h31 => ?_)
    · refine g_iconst 46 rfl (v := (-1)) dX4_numberOf_45 (by decide) ?_
      refine g_iret rfl dX4_numberOf_46 ?_
      first | exact absurd h31 (by decide) | (clear h2 h3; refine ⟨?_, rfl⟩; simp only [numO, Int32.lt_iff_toInt_lt, Int32.le_iff_toInt_le, tI0] at *; first | rw [if_pos (by omega)] | rw [if_neg (by omega)])
    · refine g_iload1 35 rfl dX4_numberOf_34 ?_
      refine g_aload0 36 rfl dX4_numberOf_35 ?_
      refine g_getI 39 rfl fX4_23 (by first | rfl | exact st_o hb | exact st_1 hb | exact st_2 hb | exact st_3 hb | exact st_4 hb | exact st_5 hb | exact st_o hb2 | exact st_1 hb2 | exact st_2 hb2 | exact st_3 hb2 | exact st_4 hb2 | exact st_5 hb2) rfl dX4_numberOf_36 ?_
      try simp only [h2, h3]
      refine g_imul 40 rfl dX4_numberOf_39 ?_
      refine g_iload2 41 rfl dX4_numberOf_40 ?_
      refine g_iadd 42 rfl dX4_numberOf_41 ?_
      refine g_goto 46 dX4_numberOf_42 (by decide) ?_
      refine g_iret rfl dX4_numberOf_46 ?_
      first | exact absurd h31 (by decide) | (clear h2 h3; refine ⟨?_, rfl⟩; simp only [numO, Int32.lt_iff_toInt_lt, Int32.le_iff_toInt_le, tI0] at *; first | rw [if_pos (by omega)] | rw [if_neg (by omega)])
  · refine g_iload1 5 rfl dX4_numberOf_4 ?_
    refine g_aload0 6 rfl dX4_numberOf_5 ?_
    refine g_getI 9 rfl fX4_19 (by first | rfl | exact st_o hb | exact st_1 hb | exact st_2 hb | exact st_3 hb | exact st_4 hb | exact st_5 hb | exact st_o hb2 | exact st_1 hb2 | exact st_2 hb2 | exact st_3 hb2 | exact st_4 hb2 | exact st_5 hb2) rfl dX4_numberOf_6 ?_
    try simp only [h2, h3]
    refine g_cmpge 28 12 rfl dX4_numberOf_9 (by decide) (fun h9 => ?_) (fun h9 => ?_)
    · refine g_iconst 29 rfl (v := 0) dX4_numberOf_28 (by decide) ?_
      refine g_istore3 30 rfl dX4_numberOf_29 rfl rfl ?_
      refine g_iload3 31 rfl dX4_numberOf_30 ?_
      refine g_ifeq 45 34 rfl dX4_numberOf_31 (by decide) (fun h31 => ?_) (fun h31 => ?_)
      · refine g_iconst 46 rfl (v := (-1)) dX4_numberOf_45 (by decide) ?_
        refine g_iret rfl dX4_numberOf_46 ?_
        first | exact absurd h31 (by decide) | (clear h2 h3; refine ⟨?_, rfl⟩; simp only [numO, Int32.lt_iff_toInt_lt, Int32.le_iff_toInt_le, tI0] at *; first | rw [if_pos (by omega)] | rw [if_neg (by omega)])
      · refine g_iload1 35 rfl dX4_numberOf_34 ?_
        refine g_aload0 36 rfl dX4_numberOf_35 ?_
        refine g_getI 39 rfl fX4_23 (by first | rfl | exact st_o hb | exact st_1 hb | exact st_2 hb | exact st_3 hb | exact st_4 hb | exact st_5 hb | exact st_o hb2 | exact st_1 hb2 | exact st_2 hb2 | exact st_3 hb2 | exact st_4 hb2 | exact st_5 hb2) rfl dX4_numberOf_36 ?_
        try simp only [h2, h3]
        refine g_imul 40 rfl dX4_numberOf_39 ?_
        refine g_iload2 41 rfl dX4_numberOf_40 ?_
        refine g_iadd 42 rfl dX4_numberOf_41 ?_
        refine g_goto 46 dX4_numberOf_42 (by decide) ?_
        refine g_iret rfl dX4_numberOf_46 ?_
        first | exact absurd h31 (by decide) | (clear h2 h3; refine ⟨?_, rfl⟩; simp only [numO, Int32.lt_iff_toInt_lt, Int32.le_iff_toInt_le, tI0] at *; first | rw [if_pos (by omega)] | rw [if_neg (by omega)])
    · refine g_iload2 13 rfl dX4_numberOf_12 ?_
      refine g_iflt 28 16 rfl dX4_numberOf_13 (by decide) (fun h13 => ?_) (fun h13 => ?_)
      · refine g_iconst 29 rfl (v := 0) dX4_numberOf_28 (by decide) ?_
        refine g_istore3 30 rfl dX4_numberOf_29 rfl rfl ?_
        refine g_iload3 31 rfl dX4_numberOf_30 ?_
        refine g_ifeq 45 34 rfl dX4_numberOf_31 (by decide) (fun h31 => ?_) (fun h31 => ?_)
        · refine g_iconst 46 rfl (v := (-1)) dX4_numberOf_45 (by decide) ?_
          refine g_iret rfl dX4_numberOf_46 ?_
          first | exact absurd h31 (by decide) | (clear h2 h3; refine ⟨?_, rfl⟩; simp only [numO, Int32.lt_iff_toInt_lt, Int32.le_iff_toInt_le, tI0] at *; first | rw [if_pos (by omega)] | rw [if_neg (by omega)])
        · refine g_iload1 35 rfl dX4_numberOf_34 ?_
          refine g_aload0 36 rfl dX4_numberOf_35 ?_
          refine g_getI 39 rfl fX4_23 (by first | rfl | exact st_o hb | exact st_1 hb | exact st_2 hb | exact st_3 hb | exact st_4 hb | exact st_5 hb | exact st_o hb2 | exact st_1 hb2 | exact st_2 hb2 | exact st_3 hb2 | exact st_4 hb2 | exact st_5 hb2) rfl dX4_numberOf_36 ?_
          try simp only [h2, h3]
          refine g_imul 40 rfl dX4_numberOf_39 ?_
          refine g_iload2 41 rfl dX4_numberOf_40 ?_
          refine g_iadd 42 rfl dX4_numberOf_41 ?_
          refine g_goto 46 dX4_numberOf_42 (by decide) ?_
          refine g_iret rfl dX4_numberOf_46 ?_
          first | exact absurd h31 (by decide) | (clear h2 h3; refine ⟨?_, rfl⟩; simp only [numO, Int32.lt_iff_toInt_lt, Int32.le_iff_toInt_le, tI0] at *; first | rw [if_pos (by omega)] | rw [if_neg (by omega)])
      · refine g_iload2 17 rfl dX4_numberOf_16 ?_
        refine g_aload0 18 rfl dX4_numberOf_17 ?_
        refine g_getI 21 rfl fX4_23 (by first | rfl | exact st_o hb | exact st_1 hb | exact st_2 hb | exact st_3 hb | exact st_4 hb | exact st_5 hb | exact st_o hb2 | exact st_1 hb2 | exact st_2 hb2 | exact st_3 hb2 | exact st_4 hb2 | exact st_5 hb2) rfl dX4_numberOf_18 ?_
        try simp only [h2, h3]
        refine g_cmpge 28 24 rfl dX4_numberOf_21 (by decide) (fun h21 => ?_) (fun h21 => ?_)
        · refine g_iconst 29 rfl (v := 0) dX4_numberOf_28 (by decide) ?_
          refine g_istore3 30 rfl dX4_numberOf_29 rfl rfl ?_
          refine g_iload3 31 rfl dX4_numberOf_30 ?_
          refine g_ifeq 45 34 rfl dX4_numberOf_31 (by decide) (fun h31 => ?_) (fun h31 => ?_)
          · refine g_iconst 46 rfl (v := (-1)) dX4_numberOf_45 (by decide) ?_
            refine g_iret rfl dX4_numberOf_46 ?_
            first | exact absurd h31 (by decide) | (clear h2 h3; refine ⟨?_, rfl⟩; simp only [numO, Int32.lt_iff_toInt_lt, Int32.le_iff_toInt_le, tI0] at *; first | rw [if_pos (by omega)] | rw [if_neg (by omega)])
          · refine g_iload1 35 rfl dX4_numberOf_34 ?_
            refine g_aload0 36 rfl dX4_numberOf_35 ?_
            refine g_getI 39 rfl fX4_23 (by first | rfl | exact st_o hb | exact st_1 hb | exact st_2 hb | exact st_3 hb | exact st_4 hb | exact st_5 hb | exact st_o hb2 | exact st_1 hb2 | exact st_2 hb2 | exact st_3 hb2 | exact st_4 hb2 | exact st_5 hb2) rfl dX4_numberOf_36 ?_
            try simp only [h2, h3]
            refine g_imul 40 rfl dX4_numberOf_39 ?_
            refine g_iload2 41 rfl dX4_numberOf_40 ?_
            refine g_iadd 42 rfl dX4_numberOf_41 ?_
            refine g_goto 46 dX4_numberOf_42 (by decide) ?_
            refine g_iret rfl dX4_numberOf_46 ?_
            first | exact absurd h31 (by decide) | (clear h2 h3; refine ⟨?_, rfl⟩; simp only [numO, Int32.lt_iff_toInt_lt, Int32.le_iff_toInt_le, tI0] at *; first | rw [if_pos (by omega)] | rw [if_neg (by omega)])
        · refine g_iconst 25 rfl (v := 1) dX4_numberOf_24 (by decide) ?_
          refine g_goto 29 dX4_numberOf_25 (by decide) ?_
          refine g_istore3 30 rfl dX4_numberOf_29 rfl rfl ?_
          refine g_iload3 31 rfl dX4_numberOf_30 ?_
          refine g_ifeq 45 34 rfl dX4_numberOf_31 (by decide) (fun h31 => ?_) (fun h31 => ?_)
          · refine g_iconst 46 rfl (v := (-1)) dX4_numberOf_45 (by decide) ?_
            refine g_iret rfl dX4_numberOf_46 ?_
            first | exact absurd h31 (by decide) | (clear h2 h3; refine ⟨?_, rfl⟩; simp only [numO, Int32.lt_iff_toInt_lt, Int32.le_iff_toInt_le, tI0] at *; first | rw [if_pos (by omega)] | rw [if_neg (by omega)])
          · refine g_iload1 35 rfl dX4_numberOf_34 ?_
            refine g_aload0 36 rfl dX4_numberOf_35 ?_
            refine g_getI 39 rfl fX4_23 (by first | rfl | exact st_o hb | exact st_1 hb | exact st_2 hb | exact st_3 hb | exact st_4 hb | exact st_5 hb | exact st_o hb2 | exact st_1 hb2 | exact st_2 hb2 | exact st_3 hb2 | exact st_4 hb2 | exact st_5 hb2) rfl dX4_numberOf_36 ?_
            try simp only [h2, h3]
            refine g_imul 40 rfl dX4_numberOf_39 ?_
            refine g_iload2 41 rfl dX4_numberOf_40 ?_
            refine g_iadd 42 rfl dX4_numberOf_41 ?_
            refine g_goto 46 dX4_numberOf_42 (by decide) ?_
            refine g_iret rfl dX4_numberOf_46 ?_
            first | exact absurd h31 (by decide) | (clear h2 h3; refine ⟨?_, rfl⟩; simp only [numO, Int32.lt_iff_toInt_lt, Int32.le_iff_toInt_le, tI0] at *; first | rw [if_pos (by omega)] | rw [if_neg (by omega)])
/-- the cell that comes as the i-th in an order -/
def trn (R W o i : Nat) : Nat := if o = 0 then i else if o = 1 then R * W - 1 - i else if o = 2 then i % R * W + i / R else if i < (R * W + 1) / 2 then 2 * i else 2 * (i - (R * W + 1) / 2) + 1
theorem cm_lt {R W i : Nat} (hi : i < R * W) : i % R * W + i / R < R * W := by
  have hR : 0 < R := by
    rcases Nat.eq_zero_or_pos R with h | h
    · subst h; simp at hi
    · exact h
  have h1 : i % R < R := Nat.mod_lt _ hR
  have h2 : i / R < W := Nat.div_lt_of_lt_mul hi
  have h3 : (i % R + 1) * W ≤ R * W := Nat.mul_le_mul_right W h1
  rw [Nat.add_mul, Nat.one_mul] at h3
  omega
theorem trn_lt {R W o i : Nat} (hi : i < R * W) : trn R W o i < R * W := by
  unfold trn
  split
  · exact hi
  · split
    · omega
    · split
      · exact cm_lt hi
      · split <;> omega
def rndB (R W o : Nat) (w : Int32) (i : Nat) (p : Sx × Int32) : Sx × Int32 := (strS R W (trn R W o i) w p.1, p.2 + sinkS R W p.1 (trn R W o i) w)
def rndS (R W o : Nat) (w : Int32) (x : Sx) : Sx × Int32 := itN (rndB R W o w) (R * W) (x, 0)
theorem ok_X5_goRound {l : Launch} {M : Mm} {R W b o : Nat} {x : Sx} {w : Int32} (hb : isSt b) (hp : Plan M R W) (hT : ∀ i, i < R * W → M.1 34 i = nI (trn R W o i)) : Oi GC l mX5_goRound [.ref 33, .ref b, .int w] (pC M b x) (rndS R W o w x).2 (pC M b (rndS R W o w x).1) := by
  have h30 := hp.1.le
  have hN : ∀ y, (pC M b y).1 12 4 = nI (R * W) := fun y => (pC_plan (x := y) hb hp).2.2.2.1
  have hT2 : ∀ (y : Sx) (i : Nat), i < R * W → (pC M b y).1 34 i = nI (trn R W o i) := fun y i hi => by rw [pC_o (st_out hb (by decide))]; exact hT i hi
  refine ok_of (by decide +kernel) rfl rfl ?_
  refine g_iconst 1 rfl (v := 0) dX5_goRound_0 (by decide) ?_
  refine g_istore3 2 rfl dX5_goRound_1 rfl rfl ?_
  refine g_iconst 3 rfl (v := 0) dX5_goRound_2 (by decide) ?_
  refine g_istore4 5 rfl dX5_goRound_3 rfl rfl ?_
  refine loop_up (P := fun i => Go GC l mX5_goRound 5 [.ref 33, .ref b, .int w, .int (itN (rndB R W o w) i (x, 0)).2, .int (nI i)] [] (pC M b (itN (rndB R W o w) i (x, 0)).1) _) (R * W) ?_ ?_ 0 (by omega)
  · refine g_iload4 7 rfl dX5_goRound_5 ?_
    refine g_aload0 8 rfl dX5_goRound_7 ?_
    refine g_getR 11 rfl fX5_15 (by first | rfl | exact st_o hb | exact st_1 hb | exact st_2 hb | exact st_3 hb | exact st_4 hb | exact st_5 hb | exact st_o hb2 | exact st_1 hb2 | exact st_2 hb2 | exact st_3 hb2 | exact st_4 hb2 | exact st_5 hb2) rfl dX5_goRound_8 ?_
    refine g_getI 14 rfl fX5_37 (by first | rfl | exact st_o hb | exact st_1 hb | exact st_2 hb | exact st_3 hb | exact st_4 hb | exact st_5 hb | exact st_o hb2 | exact st_1 hb2 | exact st_2 hb2 | exact st_3 hb2 | exact st_4 hb2 | exact st_5 hb2) rfl dX5_goRound_11 ?_
    try simp only [hN]
    refine g_cmpge 38 17 rfl dX5_goRound_14 (by decide) (fun h14 => ?_) (fun h => absurd (Int32.le_refl _) h)
    refine g_iload3 39 rfl dX5_goRound_38 ?_
    refine g_iret rfl dX5_goRound_39 ?_
    exact ⟨rfl, rfl⟩
  · intro i hi ih
    have ht := trn_lt (o := o) hi
    refine g_iload4 7 rfl dX5_goRound_5 ?_
    refine g_aload0 8 rfl dX5_goRound_7 ?_
    refine g_getR 11 rfl fX5_15 (by first | rfl | exact st_o hb | exact st_1 hb | exact st_2 hb | exact st_3 hb | exact st_4 hb | exact st_5 hb | exact st_o hb2 | exact st_1 hb2 | exact st_2 hb2 | exact st_3 hb2 | exact st_4 hb2 | exact st_5 hb2) rfl dX5_goRound_8 ?_
    refine g_getI 14 rfl fX5_37 (by first | rfl | exact st_o hb | exact st_1 hb | exact st_2 hb | exact st_3 hb | exact st_4 hb | exact st_5 hb | exact st_o hb2 | exact st_1 hb2 | exact st_2 hb2 | exact st_3 hb2 | exact st_4 hb2 | exact st_5 hb2) rfl dX5_goRound_11 ?_
    try simp only [hN]
    refine g_cmpge 38 17 rfl dX5_goRound_14 (by decide) (fun h => absurd h (nI_ge hi (by omega))) (fun _ => ?_)
    refine g_iload3 18 rfl dX5_goRound_17 ?_
    refine g_aload1 19 rfl dX5_goRound_18 ?_
    refine g_aload0 20 rfl dX5_goRound_19 ?_
    refine g_getR 23 rfl fX5_9 (by first | rfl | exact st_o hb | exact st_1 hb | exact st_2 hb | exact st_3 hb | exact st_4 hb | exact st_5 hb | exact st_o hb2 | exact st_1 hb2 | exact st_2 hb2 | exact st_3 hb2 | exact st_4 hb2 | exact st_5 hb2) rfl dX5_goRound_20 ?_
    refine g_iload4 25 rfl dX5_goRound_23 ?_
    refine g_iald 26 rfl dX5_goRound_25 (by first | rfl | exact st_o hb | exact st_1 hb | exact st_2 hb | exact st_3 hb | exact st_4 hb | exact st_5 hb | exact st_o hb2 | exact st_1 hb2 | exact st_2 hb2 | exact st_3 hb2 | exact st_4 hb2 | exact st_5 hb2) rfl rfl (by first | assumption | omega) ?_
    try simp only [hN]
    refine g_top (nI (trn R W o i)) (hT2 _ i hi) ?_
    refine g_iload2 27 rfl dX5_goRound_26 ?_
    refine g_callVi 30 2 rfl kX5_43 (by first | rfl | exact st_o hb | exact st_1 hb | exact st_2 hb | exact st_3 hb | exact st_4 hb | exact st_5 hb | exact st_o hb2 | exact st_1 hb2 | exact st_2 hb2 | exact st_3 hb2 | exact st_4 hb2 | exact st_5 hb2) dX5_goRound_27 ⟨rfl, rfl⟩ (ok_X7_strike hb hp ht) rfl rfl rfl ?_
    refine g_iadd 31 rfl dX5_goRound_30 ?_
    refine g_istore3 32 rfl dX5_goRound_31 rfl rfl ?_
    refine g_iinc4 35 rfl dX5_goRound_32 rfl rfl _ (by first | exact iinc1 _ | exact iincx _ | rfl) ?_
    refine g_goto 5 dX5_goRound_35 (by decide) ?_
    exact ih
def rouB (R W o : Nat) (w : Int32) (_ : Nat) (p : Sx × Int32) : Sx × Int32 := ((rndS R W o w p.1).1, p.2 + (rndS R W o w p.1).2)
/-- what arrange leaves: the cells by their order -/
def Trn (R W o : Nat) (f : Nat → Int32) : Prop := ∀ i, i < R * W → f i = nI (trn R W o i)
theorem upd_lt {f : Nat → Int32} {i k : Nat} {v : Int32} (h : k < i) : upd f i v k = f k := pk_un (by omega)
abbrev qArr (R W o : Nat) (M : Mm) : Rr → Mm → Prop := fun r M' => r = none ∧ ∃ f, M' = setA M 34 f ∧ Trn R W o f
theorem ok_X5_arrangeByColumns {l : Launch} {M : Mm} {R W : Nat} (hp : Plan M R W) : Ok GC l mX5_arrangeByColumns [.ref 33] M (qArr R W 2 M) := by
  have h30 := hp.1.le
  have hW2 : ∀ f, (setA M 34 f).1 12 3 = nI W := fun f => (pl_set hp (by decide)).2.2.1
  have hR2 : ∀ f, (setA M 34 f).1 12 2 = nI R := fun f => (pl_set hp (by decide)).2.1
  have hn : ∀ r c, r < R → c < W → numO R W (nI r) (nI c) = nI (r * W + c) := by
    intro r c hr hc
    have hr5 : R ≤ 30 ∧ W ≤ 30 := by rcases hp.1 with ⟨rfl, rfl⟩ | ⟨h1, h2, h3, h4⟩ <;> omega
    rw [numO, if_pos ⟨nI_pos' (by omega), nI_lt hr (by omega), nI_pos' (by omega), nI_lt hc (by omega)⟩, pk_mul, nI_add]
  have hr5 : R ≤ 30 ∧ W ≤ 30 := by rcases hp.1 with ⟨rfl, rfl⟩ | ⟨h1, h2, h3, h4⟩ <;> omega
  refine ok_of (by decide +kernel) rfl rfl ?_
  refine g_mem (setA M 34 (M.1 34)) sA_id.symm ?_
  refine g_iconst 1 rfl (v := 0) dX5_arrangeByColumns_0 (by decide) ?_
  refine g_istore1 2 rfl dX5_arrangeByColumns_1 rfl rfl ?_
  refine g_iconst 3 rfl (v := 0) dX5_arrangeByColumns_2 (by decide) ?_
  refine g_istore2 4 rfl dX5_arrangeByColumns_3 rfl rfl ?_
  refine loop_up (P := fun c => ∀ f, (∀ i, i < R * c → f i = nI (trn R W 2 i)) → Go GC l mX5_arrangeByColumns 4 [.ref 33, .int (nI (R * c)), .int (nI c), .null] [] (setA M 34 f) (qArr R W 2 M)) W ?_ ?_ 0 (by omega) (M.1 34) (fun i hi => absurd hi (by omega))
  · intro f hf
    refine g_iload2 5 rfl dX5_arrangeByColumns_4 ?_
    refine g_aload0 6 rfl dX5_arrangeByColumns_5 ?_
    refine g_getR 9 rfl fX5_15 (by first | rfl | exact st_o hb | exact st_1 hb | exact st_2 hb | exact st_3 hb | exact st_4 hb | exact st_5 hb | exact st_o hb2 | exact st_1 hb2 | exact st_2 hb2 | exact st_3 hb2 | exact st_4 hb2 | exact st_5 hb2) rfl dX5_arrangeByColumns_6 ?_
    refine g_getI 12 rfl fX5_50 (by first | rfl | exact st_o hb | exact st_1 hb | exact st_2 hb | exact st_3 hb | exact st_4 hb | exact st_5 hb | exact st_o hb2 | exact st_1 hb2 | exact st_2 hb2 | exact st_3 hb2 | exact st_4 hb2 | exact st_5 hb2) rfl dX5_arrangeByColumns_9 ?_
    try simp only [hW2, hR2]
    refine g_cmpge 58 15 rfl dX5_arrangeByColumns_12 (by decide) (fun h12 => ?_) (fun h => absurd (Int32.le_refl _) h)
    refine g_vret rfl dX5_arrangeByColumns_58 ?_
    exact ⟨rfl, f, rfl, by exact hf⟩
  · intro c hc ih f hf
    refine g_iload2 5 rfl dX5_arrangeByColumns_4 ?_
    refine g_aload0 6 rfl dX5_arrangeByColumns_5 ?_
    refine g_getR 9 rfl fX5_15 (by first | rfl | exact st_o hb | exact st_1 hb | exact st_2 hb | exact st_3 hb | exact st_4 hb | exact st_5 hb | exact st_o hb2 | exact st_1 hb2 | exact st_2 hb2 | exact st_3 hb2 | exact st_4 hb2 | exact st_5 hb2) rfl dX5_arrangeByColumns_6 ?_
    refine g_getI 12 rfl fX5_50 (by first | rfl | exact st_o hb | exact st_1 hb | exact st_2 hb | exact st_3 hb | exact st_4 hb | exact st_5 hb | exact st_o hb2 | exact st_1 hb2 | exact st_2 hb2 | exact st_3 hb2 | exact st_4 hb2 | exact st_5 hb2) rfl dX5_arrangeByColumns_9 ?_
    try simp only [hW2, hR2]
    refine g_cmpge 58 15 rfl dX5_arrangeByColumns_12 (by decide) (fun h => absurd h (nI_ge hc (by omega))) (fun _ => ?_)
    refine g_iconst 16 rfl (v := 0) dX5_arrangeByColumns_15 (by decide) ?_
    refine g_istore3 17 rfl dX5_arrangeByColumns_16 rfl rfl ?_
    refine loop_up (P := fun r => ∀ f, (∀ i, i < R * c + r → f i = nI (trn R W 2 i)) → Go GC l mX5_arrangeByColumns 17 [.ref 33, .int (nI (R * c + r)), .int (nI c), .int (nI r)] [] (setA M 34 f) (qArr R W 2 M)) R ?_ ?_ 0 (by omega) f (fun i hi => hf i (by omega))
    · intro f hf
      refine g_iload3 18 rfl dX5_arrangeByColumns_17 ?_
      refine g_aload0 19 rfl dX5_arrangeByColumns_18 ?_
      refine g_getR 22 rfl fX5_15 (by first | rfl | exact st_o hb | exact st_1 hb | exact st_2 hb | exact st_3 hb | exact st_4 hb | exact st_5 hb | exact st_o hb2 | exact st_1 hb2 | exact st_2 hb2 | exact st_3 hb2 | exact st_4 hb2 | exact st_5 hb2) rfl dX5_arrangeByColumns_19 ?_
      refine g_getI 25 rfl fX5_53 (by first | rfl | exact st_o hb | exact st_1 hb | exact st_2 hb | exact st_3 hb | exact st_4 hb | exact st_5 hb | exact st_o hb2 | exact st_1 hb2 | exact st_2 hb2 | exact st_3 hb2 | exact st_4 hb2 | exact st_5 hb2) rfl dX5_arrangeByColumns_22 ?_
      try simp only [hW2, hR2]
      refine g_cmpge 52 28 rfl dX5_arrangeByColumns_25 (by decide) (fun _ => ?_) (fun h => absurd (Int32.le_refl _) h)
      refine g_iinc2 55 rfl dX5_arrangeByColumns_52 rfl rfl _ (by first | exact iinc1 _ | exact iincx _ | rfl) ?_
      refine g_goto 4 dX5_arrangeByColumns_55 (by decide) ?_
      refine g_fg 3 ?_
      have e : R * c + R = R * (c + 1) := by rw [Nat.mul_add, Nat.mul_one]
      rw [e] at hf ⊢
      exact ih f hf
    · intro r hr ih2 f hf
      have e1 : R * (c + 1) ≤ R * W := Nat.mul_le_mul_left R hc
      rw [Nat.mul_add, Nat.mul_one] at e1
      refine g_iload3 18 rfl dX5_arrangeByColumns_17 ?_
      refine g_aload0 19 rfl dX5_arrangeByColumns_18 ?_
      refine g_getR 22 rfl fX5_15 (by first | rfl | exact st_o hb | exact st_1 hb | exact st_2 hb | exact st_3 hb | exact st_4 hb | exact st_5 hb | exact st_o hb2 | exact st_1 hb2 | exact st_2 hb2 | exact st_3 hb2 | exact st_4 hb2 | exact st_5 hb2) rfl dX5_arrangeByColumns_19 ?_
      refine g_getI 25 rfl fX5_53 (by first | rfl | exact st_o hb | exact st_1 hb | exact st_2 hb | exact st_3 hb | exact st_4 hb | exact st_5 hb | exact st_o hb2 | exact st_1 hb2 | exact st_2 hb2 | exact st_3 hb2 | exact st_4 hb2 | exact st_5 hb2) rfl dX5_arrangeByColumns_22 ?_
      try simp only [hW2, hR2]
      refine g_cmpge 52 28 rfl dX5_arrangeByColumns_25 (by decide) (fun h => absurd h (nI_ge hr (by omega))) (fun _ => ?_)
      refine g_aload0 29 rfl dX5_arrangeByColumns_28 ?_
      refine g_getR 32 rfl fX5_9 (by first | rfl | exact st_o hb | exact st_1 hb | exact st_2 hb | exact st_3 hb | exact st_4 hb | exact st_5 hb | exact st_o hb2 | exact st_1 hb2 | exact st_2 hb2 | exact st_3 hb2 | exact st_4 hb2 | exact st_5 hb2) rfl dX5_arrangeByColumns_29 ?_
      refine g_iload1 33 rfl dX5_arrangeByColumns_32 ?_
      refine g_aload0 34 rfl dX5_arrangeByColumns_33 ?_
      refine g_getR 37 rfl fX5_15 (by first | rfl | exact st_o hb | exact st_1 hb | exact st_2 hb | exact st_3 hb | exact st_4 hb | exact st_5 hb | exact st_o hb2 | exact st_1 hb2 | exact st_2 hb2 | exact st_3 hb2 | exact st_4 hb2 | exact st_5 hb2) rfl dX5_arrangeByColumns_34 ?_
      refine g_iload3 38 rfl dX5_arrangeByColumns_37 ?_
      refine g_iload2 39 rfl dX5_arrangeByColumns_38 ?_
      refine g_callVi 42 2 rfl kX5_56 (by first | rfl | exact st_o hb | exact st_1 hb | exact st_2 hb | exact st_3 hb | exact st_4 hb | exact st_5 hb | exact st_o hb2 | exact st_1 hb2 | exact st_2 hb2 | exact st_3 hb2 | exact st_4 hb2 | exact st_5 hb2) dX5_arrangeByColumns_39 ⟨rfl, rfl⟩ (ok_X4_numberOf (hR2 f) (hW2 f)) rfl rfl rfl ?_
      refine g_iast 43 rfl dX5_arrangeByColumns_42 (by first | rfl | exact st_o hb | exact st_1 hb | exact st_2 hb | exact st_3 hb | exact st_4 hb | exact st_5 hb | exact st_o hb2 | exact st_1 hb2 | exact st_2 hb2 | exact st_3 hb2 | exact st_4 hb2 | exact st_5 hb2) rfl rfl (by omega) ?_
      try simp only [hW2, hR2]
      refine g_iinc1 46 rfl dX5_arrangeByColumns_43 rfl rfl _ (by first | exact iinc1 _ | exact iincx _ | rfl) ?_
      refine g_iinc3 49 rfl dX5_arrangeByColumns_46 rfl rfl _ (by first | exact iinc1 _ | exact iincx _ | rfl) ?_
      refine g_goto 17 dX5_arrangeByColumns_49 (by decide) ?_
      rw [sA_sA, sA_s, hn r c hr hc]
      refine ih2 _ (fun i hi => ?_)
      by_cases h2 : i < R * c + r
      · rw [upd_lt h2]; exact hf i h2
      · have h3 : i = R * c + r := by omega
        subst h3
        rw [upd_at]
        have h4 : (R * c + r) % R = r := by rw [Nat.mul_add_mod]; exact Nat.mod_eq_of_lt hr
        have h5 : (R * c + r) / R = c := by rw [Nat.mul_add_div (by omega), Nat.div_eq_of_lt hr, Nat.add_zero]
        simp [trn, h4, h5]
theorem ok_X5_arrange {l : Launch} {M : Mm} {R W o : Nat} (hp : Plan M R W) (ho : o < 4) : Ok GC l mX5_arrange [.ref 33, .int (nI o)] M (qArr R W o M) := by
  have h30 := hp.1.le
  have hN : ∀ f, (setA M 34 f).1 12 4 = nI (R * W) := fun f => (pl_set hp (by decide)).2.2.2.1
  have hN0 : M.1 12 4 = nI (R * W) := hp.2.2.2.1
  have hev : (nI (R * W) + 1) / 2 = nI ((R * W + 1) / 2) := by rw [nI_1, show (2 : Int32) = nI 2 from rfl, pk_div (by omega) (by omega) (by omega)]
  have e2 : (2 : Int32) = nI 2 := rfl
  have e1 : (1 : Int32) = nI 1 := rfl
  refine ok_of (by decide +kernel) rfl rfl ?_
  refine g_mem (setA M 34 (M.1 34)) sA_id.symm ?_
  have step : ∀ (f : Nat → Int32) (i : Nat) (v : Int32), i < R * W → v = nI (trn R W o i) → (∀ j, j < i → f j = nI (trn R W o j)) → ∀ j, j < i + 1 → upd f i v j = nI (trn R W o j) := by
    intro f i v hi hv hf j hj
    by_cases h2 : j < i
    · rw [upd_lt h2]; exact hf j h2
    · have h3 : j = i := by omega
      subst h3
      rw [upd_at, hv]
  refine g_iload1 1 rfl dX5_arrange_0 ?_
  refine g_iconst 2 rfl (v := 2) dX5_arrange_1 (by decide) ?_
  refine g_cmpne 10 5 rfl dX5_arrange_2 (by decide) (fun h2 => ?_) (fun h2 => ?_)
  · refine g_aload0 11 rfl dX5_arrange_10 ?_
    refine g_getR 14 rfl fX5_15 (by first | rfl | exact st_o hb | exact st_1 hb | exact st_2 hb | exact st_3 hb | exact st_4 hb | exact st_5 hb | exact st_o hb2 | exact st_1 hb2 | exact st_2 hb2 | exact st_3 hb2 | exact st_4 hb2 | exact st_5 hb2) rfl dX5_arrange_11 ?_
    refine g_getI 17 rfl fX5_37 (by first | rfl | exact st_o hb | exact st_1 hb | exact st_2 hb | exact st_3 hb | exact st_4 hb | exact st_5 hb | exact st_o hb2 | exact st_1 hb2 | exact st_2 hb2 | exact st_3 hb2 | exact st_4 hb2 | exact st_5 hb2) rfl dX5_arrange_14 ?_
    try simp only [hN]
    refine g_iconst 18 rfl (v := 1) dX5_arrange_17 (by decide) ?_
    refine g_iadd 19 rfl dX5_arrange_18 ?_
    refine g_iconst 20 rfl (v := 2) dX5_arrange_19 (by decide) ?_
    refine g_idiv 21 rfl dX5_arrange_20 (by decide) ?_
    rw [hev]
    refine g_istore2 22 rfl dX5_arrange_21 rfl rfl ?_
    refine g_iconst 23 rfl (v := 0) dX5_arrange_22 (by decide) ?_
    refine g_istore3 24 rfl dX5_arrange_23 rfl rfl ?_
    refine loop_up (P := fun i => ∀ f, (∀ j, j < i → f j = nI (trn R W o j)) → Go GC l mX5_arrange 24 [.ref 33, .int (nI o), .int (nI ((R * W + 1) / 2)), .int (nI i)] [] (setA M 34 f) (qArr R W o M)) (R * W) ?_ ?_ 0 (by omega) (M.1 34) (fun i hi => absurd hi (by omega))
    · intro f hf
      refine g_iload3 25 rfl dX5_arrange_24 ?_
      refine g_aload0 26 rfl dX5_arrange_25 ?_
      refine g_getR 29 rfl fX5_15 (by first | rfl | exact st_o hb | exact st_1 hb | exact st_2 hb | exact st_3 hb | exact st_4 hb | exact st_5 hb | exact st_o hb2 | exact st_1 hb2 | exact st_2 hb2 | exact st_3 hb2 | exact st_4 hb2 | exact st_5 hb2) rfl dX5_arrange_26 ?_
      refine g_getI 32 rfl fX5_37 (by first | rfl | exact st_o hb | exact st_1 hb | exact st_2 hb | exact st_3 hb | exact st_4 hb | exact st_5 hb | exact st_o hb2 | exact st_1 hb2 | exact st_2 hb2 | exact st_3 hb2 | exact st_4 hb2 | exact st_5 hb2) rfl dX5_arrange_29 ?_
      try simp only [hN]
      refine g_cmpge 104 35 rfl dX5_arrange_32 (by decide) (fun h32 => ?_) (fun h => absurd (Int32.le_refl _) h)
      refine g_vret rfl dX5_arrange_104 ?_
      exact ⟨rfl, f, rfl, hf⟩
    · intro i hi ih f hf
      have o2 : o ≠ 2 := fun z => h2 (by subst z; rfl)
      refine g_iload3 25 rfl dX5_arrange_24 ?_
      refine g_aload0 26 rfl dX5_arrange_25 ?_
      refine g_getR 29 rfl fX5_15 (by first | rfl | exact st_o hb | exact st_1 hb | exact st_2 hb | exact st_3 hb | exact st_4 hb | exact st_5 hb | exact st_o hb2 | exact st_1 hb2 | exact st_2 hb2 | exact st_3 hb2 | exact st_4 hb2 | exact st_5 hb2) rfl dX5_arrange_26 ?_
      refine g_getI 32 rfl fX5_37 (by first | rfl | exact st_o hb | exact st_1 hb | exact st_2 hb | exact st_3 hb | exact st_4 hb | exact st_5 hb | exact st_o hb2 | exact st_1 hb2 | exact st_2 hb2 | exact st_3 hb2 | exact st_4 hb2 | exact st_5 hb2) rfl dX5_arrange_29 ?_
      try simp only [hN]
      refine g_cmpge 104 35 rfl dX5_arrange_32 (by decide) (fun h => absurd h (nI_ge hi (by omega))) (fun h32 => ?_)
      refine g_iload1 36 rfl dX5_arrange_35 ?_
      refine g_ifne 49 39 rfl dX5_arrange_36 (by decide) (fun h36 => ?_) (fun h36 => ?_)
      · refine g_iload1 50 rfl dX5_arrange_49 ?_
        refine g_iconst 51 rfl (v := 1) dX5_arrange_50 (by decide) ?_
        refine g_cmpne 74 54 rfl dX5_arrange_51 (by decide) (fun h51 => ?_) (fun h51 => ?_)
        · refine g_aload0 75 rfl dX5_arrange_74 ?_
          refine g_getR 78 rfl fX5_9 (by first | rfl | exact st_o hb | exact st_1 hb | exact st_2 hb | exact st_3 hb | exact st_4 hb | exact st_5 hb | exact st_o hb2 | exact st_1 hb2 | exact st_2 hb2 | exact st_3 hb2 | exact st_4 hb2 | exact st_5 hb2) rfl dX5_arrange_75 ?_
          refine g_iload3 79 rfl dX5_arrange_78 ?_
          refine g_iload3 80 rfl dX5_arrange_79 ?_
          refine g_iload2 81 rfl dX5_arrange_80 ?_
          refine g_cmpge 90 84 rfl dX5_arrange_81 (by decide) (fun h81 => ?_) (fun h81 => ?_)
          · refine g_iconst 91 rfl (v := 2) dX5_arrange_90 (by decide) ?_
            refine g_iload3 92 rfl dX5_arrange_91 ?_
            refine g_iload2 93 rfl dX5_arrange_92 ?_
            refine g_isub 94 rfl dX5_arrange_93 ?_
            refine g_imul 95 rfl dX5_arrange_94 ?_
            refine g_iconst 96 rfl (v := 1) dX5_arrange_95 (by decide) ?_
            refine g_iadd 97 rfl dX5_arrange_96 ?_
            refine g_iast 98 rfl dX5_arrange_97 (by first | rfl | exact st_o hb | exact st_1 hb | exact st_2 hb | exact st_3 hb | exact st_4 hb | exact st_5 hb | exact st_o hb2 | exact st_1 hb2 | exact st_2 hb2 | exact st_3 hb2 | exact st_4 hb2 | exact st_5 hb2) rfl rfl (by first | assumption | omega) ?_
            try simp only [hN]
            refine g_iinc3 101 rfl dX5_arrange_98 rfl rfl _ (by first | exact iinc1 _ | exact iincx _ | rfl) ?_
            refine g_goto 24 dX5_arrange_101 (by decide) ?_
            (rw [sA_sA, sA_s]; refine ih _ (step f i _ hi ?_ hf); first | (have z : o = 0 := (nI_eq (by omega) (by decide)).mp h36; simp [trn, z]; done) | (have z0 : o ≠ 0 := (fun z => h36 (by subst z; rfl)); have z1 : o = 1 := (nI_eq (by omega) (by decide)).mp h51; rw [e1, pk_sub (by omega), pk_sub (by omega)]; simp [trn, z0, z1]; done) | (have z0 : o ≠ 0 := (fun z => h36 (by subst z; rfl)); have z1 : o ≠ 1 := (fun z => h51 (by subst z; rfl)); have z3 : ¬ i < (R * W + 1) / 2 := (fun z => absurd h81 (nI_ge z (by omega))); rw [pk_sub (by omega), e2, pk_mul, e1, nI_add]; simp [trn, z0, z1, o2, z3]; done) | (have z0 : o ≠ 0 := (fun z => h36 (by subst z; rfl)); have z1 : o ≠ 1 := (fun z => h51 (by subst z; rfl)); have z3 : i < (R * W + 1) / 2 := (Nat.lt_of_not_le (fun z => h81 (nI_le z (by omega)))); rw [e2, pk_mul]; simp [trn, z0, z1, o2, z3]; done))
          · refine g_iconst 85 rfl (v := 2) dX5_arrange_84 (by decide) ?_
            refine g_iload3 86 rfl dX5_arrange_85 ?_
            refine g_imul 87 rfl dX5_arrange_86 ?_
            refine g_goto 97 dX5_arrange_87 (by decide) ?_
            refine g_iast 98 rfl dX5_arrange_97 (by first | rfl | exact st_o hb | exact st_1 hb | exact st_2 hb | exact st_3 hb | exact st_4 hb | exact st_5 hb | exact st_o hb2 | exact st_1 hb2 | exact st_2 hb2 | exact st_3 hb2 | exact st_4 hb2 | exact st_5 hb2) rfl rfl (by first | assumption | omega) ?_
            try simp only [hN]
            refine g_iinc3 101 rfl dX5_arrange_98 rfl rfl _ (by first | exact iinc1 _ | exact iincx _ | rfl) ?_
            refine g_goto 24 dX5_arrange_101 (by decide) ?_
            (rw [sA_sA, sA_s]; refine ih _ (step f i _ hi ?_ hf); first | (have z : o = 0 := (nI_eq (by omega) (by decide)).mp h36; simp [trn, z]; done) | (have z0 : o ≠ 0 := (fun z => h36 (by subst z; rfl)); have z1 : o = 1 := (nI_eq (by omega) (by decide)).mp h51; rw [e1, pk_sub (by omega), pk_sub (by omega)]; simp [trn, z0, z1]; done) | (have z0 : o ≠ 0 := (fun z => h36 (by subst z; rfl)); have z1 : o ≠ 1 := (fun z => h51 (by subst z; rfl)); have z3 : ¬ i < (R * W + 1) / 2 := (fun z => absurd h81 (nI_ge z (by omega))); rw [pk_sub (by omega), e2, pk_mul, e1, nI_add]; simp [trn, z0, z1, o2, z3]; done) | (have z0 : o ≠ 0 := (fun z => h36 (by subst z; rfl)); have z1 : o ≠ 1 := (fun z => h51 (by subst z; rfl)); have z3 : i < (R * W + 1) / 2 := (Nat.lt_of_not_le (fun z => h81 (nI_le z (by omega)))); rw [e2, pk_mul]; simp [trn, z0, z1, o2, z3]; done))
        · refine g_aload0 55 rfl dX5_arrange_54 ?_
          refine g_getR 58 rfl fX5_9 (by first | rfl | exact st_o hb | exact st_1 hb | exact st_2 hb | exact st_3 hb | exact st_4 hb | exact st_5 hb | exact st_o hb2 | exact st_1 hb2 | exact st_2 hb2 | exact st_3 hb2 | exact st_4 hb2 | exact st_5 hb2) rfl dX5_arrange_55 ?_
          refine g_iload3 59 rfl dX5_arrange_58 ?_
          refine g_aload0 60 rfl dX5_arrange_59 ?_
          refine g_getR 63 rfl fX5_15 (by first | rfl | exact st_o hb | exact st_1 hb | exact st_2 hb | exact st_3 hb | exact st_4 hb | exact st_5 hb | exact st_o hb2 | exact st_1 hb2 | exact st_2 hb2 | exact st_3 hb2 | exact st_4 hb2 | exact st_5 hb2) rfl dX5_arrange_60 ?_
          refine g_getI 66 rfl fX5_37 (by first | rfl | exact st_o hb | exact st_1 hb | exact st_2 hb | exact st_3 hb | exact st_4 hb | exact st_5 hb | exact st_o hb2 | exact st_1 hb2 | exact st_2 hb2 | exact st_3 hb2 | exact st_4 hb2 | exact st_5 hb2) rfl dX5_arrange_63 ?_
          try simp only [hN]
          refine g_iconst 67 rfl (v := 1) dX5_arrange_66 (by decide) ?_
          refine g_isub 68 rfl dX5_arrange_67 ?_
          refine g_iload3 69 rfl dX5_arrange_68 ?_
          refine g_isub 70 rfl dX5_arrange_69 ?_
          refine g_iast 71 rfl dX5_arrange_70 (by first | rfl | exact st_o hb | exact st_1 hb | exact st_2 hb | exact st_3 hb | exact st_4 hb | exact st_5 hb | exact st_o hb2 | exact st_1 hb2 | exact st_2 hb2 | exact st_3 hb2 | exact st_4 hb2 | exact st_5 hb2) rfl rfl (by first | assumption | omega) ?_
          try simp only [hN]
          refine g_goto 98 dX5_arrange_71 (by decide) ?_
          refine g_iinc3 101 rfl dX5_arrange_98 rfl rfl _ (by first | exact iinc1 _ | exact iincx _ | rfl) ?_
          refine g_goto 24 dX5_arrange_101 (by decide) ?_
          (rw [sA_sA, sA_s]; refine ih _ (step f i _ hi ?_ hf); first | (have z : o = 0 := (nI_eq (by omega) (by decide)).mp h36; simp [trn, z]; done) | (have z0 : o ≠ 0 := (fun z => h36 (by subst z; rfl)); have z1 : o = 1 := (nI_eq (by omega) (by decide)).mp h51; rw [e1, pk_sub (by omega), pk_sub (by omega)]; simp [trn, z0, z1]; done) | (have z0 : o ≠ 0 := (fun z => h36 (by subst z; rfl)); have z1 : o ≠ 1 := (fun z => h51 (by subst z; rfl)); have z3 : ¬ i < (R * W + 1) / 2 := (fun z => absurd h81 (nI_ge z (by omega))); rw [pk_sub (by omega), e2, pk_mul, e1, nI_add]; simp [trn, z0, z1, o2, z3]; done) | (have z0 : o ≠ 0 := (fun z => h36 (by subst z; rfl)); have z1 : o ≠ 1 := (fun z => h51 (by subst z; rfl)); have z3 : i < (R * W + 1) / 2 := (Nat.lt_of_not_le (fun z => h81 (nI_le z (by omega)))); rw [e2, pk_mul]; simp [trn, z0, z1, o2, z3]; done))
      · refine g_aload0 40 rfl dX5_arrange_39 ?_
        refine g_getR 43 rfl fX5_9 (by first | rfl | exact st_o hb | exact st_1 hb | exact st_2 hb | exact st_3 hb | exact st_4 hb | exact st_5 hb | exact st_o hb2 | exact st_1 hb2 | exact st_2 hb2 | exact st_3 hb2 | exact st_4 hb2 | exact st_5 hb2) rfl dX5_arrange_40 ?_
        refine g_iload3 44 rfl dX5_arrange_43 ?_
        refine g_iload3 45 rfl dX5_arrange_44 ?_
        refine g_iast 46 rfl dX5_arrange_45 (by first | rfl | exact st_o hb | exact st_1 hb | exact st_2 hb | exact st_3 hb | exact st_4 hb | exact st_5 hb | exact st_o hb2 | exact st_1 hb2 | exact st_2 hb2 | exact st_3 hb2 | exact st_4 hb2 | exact st_5 hb2) rfl rfl (by first | assumption | omega) ?_
        try simp only [hN]
        refine g_goto 98 dX5_arrange_46 (by decide) ?_
        refine g_iinc3 101 rfl dX5_arrange_98 rfl rfl _ (by first | exact iinc1 _ | exact iincx _ | rfl) ?_
        refine g_goto 24 dX5_arrange_101 (by decide) ?_
        (rw [sA_sA, sA_s]; refine ih _ (step f i _ hi ?_ hf); first | (have z : o = 0 := (nI_eq (by omega) (by decide)).mp h36; simp [trn, z]; done) | (have z0 : o ≠ 0 := (fun z => h36 (by subst z; rfl)); have z1 : o = 1 := (nI_eq (by omega) (by decide)).mp h51; rw [e1, pk_sub (by omega), pk_sub (by omega)]; simp [trn, z0, z1]; done) | (have z0 : o ≠ 0 := (fun z => h36 (by subst z; rfl)); have z1 : o ≠ 1 := (fun z => h51 (by subst z; rfl)); have z3 : ¬ i < (R * W + 1) / 2 := (fun z => absurd h81 (nI_ge z (by omega))); rw [pk_sub (by omega), e2, pk_mul, e1, nI_add]; simp [trn, z0, z1, o2, z3]; done) | (have z0 : o ≠ 0 := (fun z => h36 (by subst z; rfl)); have z1 : o ≠ 1 := (fun z => h51 (by subst z; rfl)); have z3 : i < (R * W + 1) / 2 := (Nat.lt_of_not_le (fun z => h81 (nI_le z (by omega)))); rw [e2, pk_mul]; simp [trn, z0, z1, o2, z3]; done))
  · have o2 : o = 2 := (nI_eq (by omega) (by decide)).mp h2
    subst o2
    rw [sA_id]
    refine g_aload0 6 rfl dX5_arrange_5 ?_
    refine g_callV 9 0 rfl kX5_47 (by first | rfl | exact st_o hb | exact st_1 hb | exact st_2 hb | exact st_3 hb | exact st_4 hb | exact st_5 hb | exact st_o hb2 | exact st_1 hb2 | exact st_2 hb2 | exact st_3 hb2 | exact st_4 hb2 | exact st_5 hb2) dX5_arrange_6 ⟨rfl, rfl⟩ (ok_X5_arrangeByColumns hp) rfl rfl rfl (fun r M1 hq => ?_)
    obtain ⟨rfl, f, rfl, hf⟩ := hq
    try simp only [rV, Option.toList, List.cons_append, List.nil_append]
    refine g_vret rfl dX5_arrange_9 ?_
    exact ⟨rfl, f, rfl, hf⟩
abbrev qGo (R W o b k : Nat) (w : Int32) (x : Sx) (M : Mm) : Rr → Mm → Prop := fun r M' => r = some (.inl (itN (rouB R W o w) k (x, 0)).2) ∧ ∃ f, M' = pC (setA M 34 f) b (itN (rouB R W o w) k (x, 0)).1
theorem ok_X5_go {l : Launch} {M : Mm} {R W o b k : Nat} {x : Sx} {w : Int32} (hb : isSt b) (hp : Plan M R W) (ho : o < 4) (hk : k < 100) : Ok GC l mX5_go [.ref 33, .ref b, .int w, .int (nI k), .int (nI o)] (pC M b x) (qGo R W o b k w x M) := by
  have h30 := hp.1.le
  refine ok_of (by decide +kernel) rfl rfl ?_
  refine g_aload0 1 rfl dX5_go_0 ?_
  refine g_iload4 3 rfl dX5_go_1 ?_
  refine g_callV 6 1 rfl kX5_19 (by first | rfl | exact st_o hb | exact st_1 hb | exact st_2 hb | exact st_3 hb | exact st_4 hb | exact st_5 hb | exact st_o hb2 | exact st_1 hb2 | exact st_2 hb2 | exact st_3 hb2 | exact st_4 hb2 | exact st_5 hb2) dX5_go_3 ⟨rfl, rfl⟩ (ok_X5_arrange (pC_plan hb hp) ho) rfl rfl rfl (fun r M1 hq => ?_)
  obtain ⟨rfl, f, rfl, hf⟩ := hq
  try simp only [rV, Option.toList, List.cons_append, List.nil_append]
  refine g_iconst 7 rfl (v := 0) dX5_go_6 (by decide) ?_
  refine g_istore5 9 rfl dX5_go_7 rfl rfl ?_
  refine g_iconst 10 rfl (v := 0) dX5_go_9 (by decide) ?_
  refine g_istore6 12 rfl dX5_go_10 rfl rfl ?_
  rw [set_o (st_out hb (by decide))]
  have hp2 : Plan (setA M 34 f) R W := pl_set hp (by decide)
  have hT : ∀ i, i < R * W → (setA M 34 f).1 34 i = nI (trn R W o i) := fun i hi => by rw [sA_s]; exact hf i hi
  refine loop_up (P := fun i => Go GC l mX5_go 12 [.ref 33, .ref b, .int w, .int (nI k), .int (nI o), .int (itN (rouB R W o w) i (x, 0)).2, .int (nI i)] [] (pC (setA M 34 f) b (itN (rouB R W o w) i (x, 0)).1) (qGo R W o b k w x M)) k ?_ ?_ 0 (by omega)
  · refine g_iload6 14 rfl dX5_go_12 ?_
    refine g_iload3 15 rfl dX5_go_14 ?_
    refine g_cmpge 35 18 rfl dX5_go_15 (by decide) (fun h15 => ?_) (fun h => absurd (Int32.le_refl _) h)
    refine g_iload5 37 rfl dX5_go_35 ?_
    refine g_iret rfl dX5_go_37 ?_
    exact ⟨rfl, f, rfl⟩
  · intro i hi ih
    refine g_iload6 14 rfl dX5_go_12 ?_
    refine g_iload3 15 rfl dX5_go_14 ?_
    refine g_cmpge 35 18 rfl dX5_go_15 (by decide) (fun h => absurd h (nI_ge hi (by omega))) (fun h15 => ?_)
    refine g_iload5 20 rfl dX5_go_18 ?_
    refine g_aload0 21 rfl dX5_go_20 ?_
    refine g_aload1 22 rfl dX5_go_21 ?_
    refine g_iload2 23 rfl dX5_go_22 ?_
    refine g_callVi 26 2 rfl kX5_23 (by first | rfl | exact st_o hb | exact st_1 hb | exact st_2 hb | exact st_3 hb | exact st_4 hb | exact st_5 hb | exact st_o hb2 | exact st_1 hb2 | exact st_2 hb2 | exact st_3 hb2 | exact st_4 hb2 | exact st_5 hb2) dX5_go_23 ⟨rfl, rfl⟩ (ok_X5_goRound hb hp2 hT) rfl rfl rfl ?_
    refine g_iadd 27 rfl dX5_go_26 ?_
    refine g_istore5 29 rfl dX5_go_27 rfl rfl ?_
    refine g_iinc6 32 rfl dX5_go_29 rfl rfl _ (by first | exact iinc1 _ | exact iincx _ | rfl) ?_
    refine g_goto 12 dX5_go_32 (by decide) ?_
    exact ih
/-- behind how many rounds all ring first -/
def untF (R W o : Nat) (w q : Int32) : Nat → Sx → Nat → Int32
  | 0, _, _ => -1
  | d + 1, x, r => if ringN R W x w (R * W) = q then nI r else untF R W o w q d (rndS R W o w x).1 (r + 1)
abbrev qUn (R W o b : Nat) (w : Int32) (x : Sx) (M : Mm) : Rr → Mm → Prop := fun r M' => r = some (.inl (untF R W o w (stoN x (R * W)) 100 x 0)) ∧ ∃ f y, M' = pC (setA M 34 f) b y
theorem ok_X5_until {l : Launch} {M : Mm} {R W o b : Nat} {x : Sx} {w : Int32} (hb : isSt b) (hp : Plan M R W) (ho : o < 4) : Ok GC l mX5_roundsTillAllRing [.ref 33, .ref b, .int w, .int (nI o)] (pC M b x) (qUn R W o b w x M) := by
  have h30 := hp.1.le
  refine ok_of (by decide +kernel) rfl rfl ?_
  refine g_aload0 1 rfl dX5_roundsTillAllRing_0 ?_
  refine g_iload3 2 rfl dX5_roundsTillAllRing_1 ?_
  refine g_callV 5 1 rfl kX5_19 (by first | rfl | exact st_o hb | exact st_1 hb | exact st_2 hb | exact st_3 hb | exact st_4 hb | exact st_5 hb | exact st_o hb2 | exact st_1 hb2 | exact st_2 hb2 | exact st_3 hb2 | exact st_4 hb2 | exact st_5 hb2) dX5_roundsTillAllRing_2 ⟨rfl, rfl⟩ (ok_X5_arrange (pC_plan hb hp) ho) rfl rfl rfl (fun r M1 hq => ?_)
  obtain ⟨rfl, f, rfl, hf⟩ := hq
  try simp only [rV, Option.toList, List.cons_append, List.nil_append]
  rw [set_o (st_out hb (by decide))]
  have hp2 : Plan (setA M 34 f) R W := pl_set hp (by decide)
  have hT : ∀ i, i < R * W → (setA M 34 f).1 34 i = nI (trn R W o i) := fun i hi => by rw [sA_s]; exact hf i hi
  refine g_aload1 6 rfl dX5_roundsTillAllRing_5 ?_
  refine g_callVi 9 0 rfl kX5_27 (by first | rfl | exact st_o hb | exact st_1 hb | exact st_2 hb | exact st_3 hb | exact st_4 hb | exact st_5 hb | exact st_o hb2 | exact st_1 hb2 | exact st_2 hb2 | exact st_3 hb2 | exact st_4 hb2 | exact st_5 hb2) dX5_roundsTillAllRing_6 ⟨rfl, rfl⟩ (ok_X7_stones hb hp2) rfl rfl rfl ?_
  refine g_istore4 11 rfl dX5_roundsTillAllRing_9 rfl rfl ?_
  refine g_iconst 12 rfl (v := 0) dX5_roundsTillAllRing_11 (by decide) ?_
  refine g_istore5 14 rfl dX5_roundsTillAllRing_12 rfl rfl ?_
  refine loop_up (P := fun i => ∀ y, untF R W o w (stoN x (R * W)) (100 - i) y i = untF R W o w (stoN x (R * W)) 100 x 0 → Go GC l mX5_roundsTillAllRing 14 [.ref 33, .ref b, .int w, .int (nI o), .int (stoN x (R * W)), .int (nI i)] [] (pC (setA M 34 f) b y) (qUn R W o b w x M)) 100 ?_ ?_ 0 (by omega) x rfl
  · intro y hy
    refine g_iload5 16 rfl dX5_roundsTillAllRing_14 ?_
    refine g_bipush 18 rfl (v := 99) dX5_roundsTillAllRing_16 (by decide) ?_
    refine g_cmpgt 47 21 rfl dX5_roundsTillAllRing_18 (by decide) (fun h18 => ?_) (fun h => absurd (by decide) h)
    refine g_iconst 48 rfl (v := (-1)) dX5_roundsTillAllRing_47 (by decide) ?_
    refine g_iret rfl dX5_roundsTillAllRing_48 ?_
    exact ⟨by rw [← hy]; rfl, f, y, rfl⟩
  · intro i hi ih y hy
    rw [show 100 - i = 100 - (i + 1) + 1 by omega, untF] at hy
    refine g_iload5 16 rfl dX5_roundsTillAllRing_14 ?_
    refine g_bipush 18 rfl (v := 99) dX5_roundsTillAllRing_16 (by decide) ?_
    refine g_cmpgt 47 21 rfl dX5_roundsTillAllRing_18 (by decide) (fun h => absurd h (nI_nlt (a := 99) (b := i) (by omega) (by decide))) (fun h18 => ?_)
    refine g_aload1 22 rfl dX5_roundsTillAllRing_21 ?_
    refine g_iload2 23 rfl dX5_roundsTillAllRing_22 ?_
    refine g_callVi 26 1 rfl kX5_33 (by first | rfl | exact st_o hb | exact st_1 hb | exact st_2 hb | exact st_3 hb | exact st_4 hb | exact st_5 hb | exact st_o hb2 | exact st_1 hb2 | exact st_2 hb2 | exact st_3 hb2 | exact st_4 hb2 | exact st_5 hb2) dX5_roundsTillAllRing_23 ⟨rfl, rfl⟩ (ok_X7_ringing hb hp2) rfl rfl rfl ?_
    refine g_iload4 28 rfl dX5_roundsTillAllRing_26 ?_
    refine g_cmpne 34 31 rfl dX5_roundsTillAllRing_28 (by decide) (fun h28 => ?_) (fun h28 => ?_)
    · refine g_aload0 35 rfl dX5_roundsTillAllRing_34 ?_
      refine g_aload1 36 rfl dX5_roundsTillAllRing_35 ?_
      refine g_iload2 37 rfl dX5_roundsTillAllRing_36 ?_
      refine g_callVi 40 2 rfl kX5_23 (by first | rfl | exact st_o hb | exact st_1 hb | exact st_2 hb | exact st_3 hb | exact st_4 hb | exact st_5 hb | exact st_o hb2 | exact st_1 hb2 | exact st_2 hb2 | exact st_3 hb2 | exact st_4 hb2 | exact st_5 hb2) dX5_roundsTillAllRing_37 ⟨rfl, rfl⟩ (ok_X5_goRound hb hp2 hT) rfl rfl rfl ?_
      refine g_pop 41 rfl dX5_roundsTillAllRing_40 rfl ?_
      refine g_iinc5 44 rfl dX5_roundsTillAllRing_41 rfl rfl _ (by first | exact iinc1 _ | exact iincx _ | rfl) ?_
      refine g_goto 14 dX5_roundsTillAllRing_44 (by decide) ?_
      (rw [if_neg h28] at hy; exact ih _ hy)
    · refine g_iload5 33 rfl dX5_roundsTillAllRing_31 ?_
      refine g_iret rfl dX5_roundsTillAllRing_33 ?_
      exact ⟨by rw [← hy, if_pos h28], f, y, rfl⟩
