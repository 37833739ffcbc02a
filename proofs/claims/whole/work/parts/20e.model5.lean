/-! the reference: unevenness, loads -/
/-- heights stay within b of the plane -/
def HB (b n : Nat) (x : Sx) : Prop := ∀ c, c < n → -(b : Int) ≤ (sH x c).toInt ∧ (sH x c).toInt ≤ (b : Int)
theorem HB.mono {b d n : Nat} {x : Sx} (h : HB b n x) (hd : b ≤ d) : HB d n x := fun c hc => by have := h c hc; omega
def mloN (x : Sx) : Nat → Int32
  | 0 => 268435456
  | i + 1 => if sK x i = -1 then mloN x i else if mloN x i ≤ sH x i then mloN x i else sH x i
def mhiN (x : Sx) : Nat → Int32
  | 0 => -268435456
  | i + 1 => if sK x i = -1 then mhiN x i else if sH x i ≤ mhiN x i then mhiN x i else sH x i
theorem mlo_is {b n : Nat} {x : Sx} (h : HB b n x) (hb : b < 268435456) : ∀ i, i ≤ n → ((lowN x i = 2147483647 ∧ higN x i = -2147483648 ∧ mloN x i = 268435456 ∧ mhiN x i = -268435456) ∨ (lowN x i = mloN x i ∧ higN x i = mhiN x i ∧ (lowN x i).toInt ≤ (higN x i).toInt ∧ -(b : Int) ≤ (lowN x i).toInt ∧ (higN x i).toInt ≤ (b : Int)))
  | 0, _ => Or.inl ⟨rfl, rfl, rfl, rfl⟩
  | i + 1, hi => by
    have e1 : (2147483647 : Int32).toInt = 2147483647 := by decide
    have e2 : (-2147483648 : Int32).toInt = -2147483648 := by decide
    have e3 : (268435456 : Int32).toInt = 268435456 := by decide
    have e4 : (-268435456 : Int32).toInt = -268435456 := by decide
    have hx := h i (by omega)
    rcases mlo_is h hb i (by omega) with ⟨a1, a2, a3, a4⟩ | ⟨a1, a2, a3, a4, a5⟩
    · rw [lowN, higN, mloN, mhiN, a1, a2, a3, a4]
      by_cases hk : sK x i = -1
      · rw [if_pos hk, if_pos hk, if_pos hk, if_pos hk]
        exact Or.inl ⟨rfl, rfl, rfl, rfl⟩
      · rw [if_neg hk, if_neg hk, if_neg hk, if_neg hk]
        simp only [Int32.lt_iff_toInt_lt, Int32.le_iff_toInt_le, e1, e2, e3, e4]
        rw [if_pos (show (sH x i).toInt < 2147483647 by omega), if_pos (show (-2147483648 : Int) < (sH x i).toInt by omega), if_neg (show ¬ (268435456 : Int) ≤ (sH x i).toInt by omega), if_neg (show ¬ (sH x i).toInt ≤ -268435456 by omega)]
        exact Or.inr ⟨rfl, rfl, by omega, by omega, by omega⟩
    · rw [lowN, higN, mloN, mhiN, ← a1, ← a2]
      by_cases hk : sK x i = -1
      · rw [if_pos hk, if_pos hk, if_pos hk, if_pos hk]
        exact Or.inr ⟨rfl, rfl, a3, a4, a5⟩
      · rw [if_neg hk, if_neg hk, if_neg hk, if_neg hk]
        simp only [Int32.lt_iff_toInt_lt, Int32.le_iff_toInt_le]
        by_cases q1 : (sH x i).toInt < (lowN x i).toInt
        · have p1 : ¬ (lowN x i).toInt ≤ (sH x i).toInt := by omega
          have p2 : ¬ (higN x i).toInt < (sH x i).toInt := by omega
          have p3 : (sH x i).toInt ≤ (higN x i).toInt := by omega
          rw [if_pos q1, if_neg p1, if_neg p2, if_pos p3]
          exact Or.inr ⟨rfl, rfl, by omega, by omega, by omega⟩
        · have p1 : (lowN x i).toInt ≤ (sH x i).toInt := by omega
          rw [if_neg q1, if_pos p1]
          by_cases q2 : (higN x i).toInt < (sH x i).toInt
          · have p3 : ¬ (sH x i).toInt ≤ (higN x i).toInt := by omega
            rw [if_pos q2, if_neg p3]
            exact Or.inr ⟨rfl, rfl, by omega, by omega, by omega⟩
          · have p3 : (sH x i).toInt ≤ (higN x i).toInt := by omega
            rw [if_neg q2, if_pos p3]
            exact Or.inr ⟨rfl, rfl, by omega, by omega, by omega⟩
theorem om_unevenNow {l : Launch} {M : Mm} {R W b : Nat} {x : Sx} (hm : Mod M R W) (h : HB b (R * W) x) (hb : b < 268435456) : Oi GM l mX12_unevenNow [.ref 0] (pM M x) (sprS R W x) (pM M x) := by
  have h30 := hm.le
  have hm2 := pM_mod (x := x) hm
  refine ok_of (by decide +kernel) rfl rfl ?_
  refine g_ldc 2 rfl dX12_unevenNow_0 cX12_196 ?_
  refine g_istore1 3 rfl dX12_unevenNow_2 rfl rfl ?_
  refine g_ldc 5 rfl dX12_unevenNow_3 cX12_197 ?_
  refine g_istore2 6 rfl dX12_unevenNow_5 rfl rfl ?_
  refine g_iconst 7 rfl (v := 0) dX12_unevenNow_6 (by decide) ?_
  refine g_istore3 8 rfl dX12_unevenNow_7 rfl rfl ?_
  refine loop_up (P := fun i => Go GM l mX12_unevenNow 8 [.ref 0, .int (mloN x i), .int (mhiN x i), .int (nI i)] [] (pM M x) _) (R * W) ?_ ?_ 0 (by omega)
  · have hs := mlo_is h hb (R * W) (Nat.le_refl _)
    have e3 : (268435456 : Int32).toInt = 268435456 := by decide
    refine g_iload3 9 rfl dX12_unevenNow_8 ?_
    refine g_aload0 10 rfl dX12_unevenNow_9 ?_
    refine g_callVi 13 0 rfl kX12_140 (by first | rfl | exact st_o hb | exact st_1 hb | exact st_2 hb | exact st_3 hb | exact st_4 hb | exact st_5 hb | exact st_o hb2 | exact st_1 hb2 | exact st_2 hb2 | exact st_3 hb2 | exact st_4 hb2 | exact st_5 hb2) dX12_unevenNow_10 ⟨rfl, rfl⟩ (om_cells hm2) rfl rfl rfl ?_
    refine g_cmpge 74 16 rfl dX12_unevenNow_13 (by decide) (fun h13 => ?_) (fun h => absurd (Int32.le_refl _) h)
    refine g_iload1 75 rfl dX12_unevenNow_74 ?_
    refine g_ldc 77 rfl dX12_unevenNow_75 cX12_196 ?_
    refine g_cmpne 84 80 rfl dX12_unevenNow_77 (by decide) (fun h77 => ?_) (fun h77 => ?_)
    · refine g_iload2 85 rfl dX12_unevenNow_84 ?_
      refine g_iload1 86 rfl dX12_unevenNow_85 ?_
      refine g_isub 87 rfl dX12_unevenNow_86 ?_
      refine g_iret rfl dX12_unevenNow_87 ?_
      refine ⟨?_, rfl⟩
      congr 2
      rcases hs with ⟨a1, a2, a3, a4⟩ | ⟨a1, a2, a3, a4, a5⟩ <;> first | (rw [sprS, a1, a2, if_neg (by decide)]; done) | exact absurd a3 h77 | (have h7 := congrArg Int32.toInt h77; rw [← a1, e3] at h7; exfalso; omega) | (rw [sprS, if_pos (Int32.le_iff_toInt_le.mpr a3), ← a1, ← a2]; done)
    · refine g_iconst 81 rfl (v := 0) dX12_unevenNow_80 (by decide) ?_
      refine g_goto 87 dX12_unevenNow_81 (by decide) ?_
      refine g_iret rfl dX12_unevenNow_87 ?_
      refine ⟨?_, rfl⟩
      congr 2
      rcases hs with ⟨a1, a2, a3, a4⟩ | ⟨a1, a2, a3, a4, a5⟩ <;> first | (rw [sprS, a1, a2, if_neg (by decide)]; done) | exact absurd a3 h77 | (have h7 := congrArg Int32.toInt h77; rw [← a1, e3] at h7; exfalso; omega) | (rw [sprS, if_pos (Int32.le_iff_toInt_le.mpr a3), ← a1, ← a2]; done)
  · intro i hi ih
    rw [mloN, mhiN] at ih
    refine g_iload3 9 rfl dX12_unevenNow_8 ?_
    refine g_aload0 10 rfl dX12_unevenNow_9 ?_
    refine g_callVi 13 0 rfl kX12_140 (by first | rfl | exact st_o hb | exact st_1 hb | exact st_2 hb | exact st_3 hb | exact st_4 hb | exact st_5 hb | exact st_o hb2 | exact st_1 hb2 | exact st_2 hb2 | exact st_3 hb2 | exact st_4 hb2 | exact st_5 hb2) dX12_unevenNow_10 ⟨rfl, rfl⟩ (om_cells hm2) rfl rfl rfl ?_
    refine g_cmpge 74 16 rfl dX12_unevenNow_13 (by decide) (fun h => absurd h (nI_ge hi (by omega))) (fun h13 => ?_)
    refine g_aload0 17 rfl dX12_unevenNow_16 ?_
    refine g_getR 20 rfl fX12_7 (by first | rfl | exact st_o hb | exact st_1 hb | exact st_2 hb | exact st_3 hb | exact st_4 hb | exact st_5 hb | exact st_o hb2 | exact st_1 hb2 | exact st_2 hb2 | exact st_3 hb2 | exact st_4 hb2 | exact st_5 hb2) rfl dX12_unevenNow_17 ?_
    refine g_iload3 21 rfl dX12_unevenNow_20 ?_
    refine g_iald 22 rfl dX12_unevenNow_21 (by first | rfl | exact st_o hb | exact st_1 hb | exact st_2 hb | exact st_3 hb | exact st_4 hb | exact st_5 hb | exact st_o hb2 | exact st_1 hb2 | exact st_2 hb2 | exact st_3 hb2 | exact st_4 hb2 | exact st_5 hb2) rfl rfl (by first | assumption | omega) ?_
    try simp only [pM_1, pM_3]
    refine g_iconst 23 rfl (v := (-1)) dX12_unevenNow_22 (by decide) ?_
    refine g_cmpeq 68 26 rfl dX12_unevenNow_23 (by decide) (fun h23 => ?_) (fun h23 => ?_)
    · refine g_iinc3 71 rfl dX12_unevenNow_68 rfl rfl _ (by first | exact iinc1 _ | exact iincx _ | rfl) ?_
      refine g_goto 8 dX12_unevenNow_71 (by decide) ?_
      (simp only [h23, if_true, if_false] at ih; (try simp only [h33, if_true, if_false] at ih); (try simp only [h54, if_true, if_false] at ih); exact ih)
    · refine g_aload0 27 rfl dX12_unevenNow_26 ?_
      refine g_getR 30 rfl fX12_16 (by first | rfl | exact st_o hb | exact st_1 hb | exact st_2 hb | exact st_3 hb | exact st_4 hb | exact st_5 hb | exact st_o hb2 | exact st_1 hb2 | exact st_2 hb2 | exact st_3 hb2 | exact st_4 hb2 | exact st_5 hb2) rfl dX12_unevenNow_27 ?_
      refine g_iload3 31 rfl dX12_unevenNow_30 ?_
      refine g_iald 32 rfl dX12_unevenNow_31 (by first | rfl | exact st_o hb | exact st_1 hb | exact st_2 hb | exact st_3 hb | exact st_4 hb | exact st_5 hb | exact st_o hb2 | exact st_1 hb2 | exact st_2 hb2 | exact st_3 hb2 | exact st_4 hb2 | exact st_5 hb2) rfl rfl (by first | assumption | omega) ?_
      try simp only [pM_1, pM_3]
      refine g_iload1 33 rfl dX12_unevenNow_32 ?_
      refine g_cmpge 45 36 rfl dX12_unevenNow_33 (by decide) (fun h33 => ?_) (fun h33 => ?_)
      · refine g_iload1 46 rfl dX12_unevenNow_45 ?_
        refine g_istore1 47 rfl dX12_unevenNow_46 rfl rfl ?_
        refine g_aload0 48 rfl dX12_unevenNow_47 ?_
        refine g_getR 51 rfl fX12_16 (by first | rfl | exact st_o hb | exact st_1 hb | exact st_2 hb | exact st_3 hb | exact st_4 hb | exact st_5 hb | exact st_o hb2 | exact st_1 hb2 | exact st_2 hb2 | exact st_3 hb2 | exact st_4 hb2 | exact st_5 hb2) rfl dX12_unevenNow_48 ?_
        refine g_iload3 52 rfl dX12_unevenNow_51 ?_
        refine g_iald 53 rfl dX12_unevenNow_52 (by first | rfl | exact st_o hb | exact st_1 hb | exact st_2 hb | exact st_3 hb | exact st_4 hb | exact st_5 hb | exact st_o hb2 | exact st_1 hb2 | exact st_2 hb2 | exact st_3 hb2 | exact st_4 hb2 | exact st_5 hb2) rfl rfl (by first | assumption | omega) ?_
        try simp only [pM_1, pM_3]
        refine g_iload2 54 rfl dX12_unevenNow_53 ?_
        refine g_cmple 66 57 rfl dX12_unevenNow_54 (by decide) (fun h54 => ?_) (fun h54 => ?_)
        · refine g_iload2 67 rfl dX12_unevenNow_66 ?_
          refine g_istore2 68 rfl dX12_unevenNow_67 rfl rfl ?_
          refine g_iinc3 71 rfl dX12_unevenNow_68 rfl rfl _ (by first | exact iinc1 _ | exact iincx _ | rfl) ?_
          refine g_goto 8 dX12_unevenNow_71 (by decide) ?_
          (simp only [h23, if_true, if_false] at ih; (try simp only [h33, if_true, if_false] at ih); (try simp only [h54, if_true, if_false] at ih); exact ih)
        · refine g_aload0 58 rfl dX12_unevenNow_57 ?_
          refine g_getR 61 rfl fX12_16 (by first | rfl | exact st_o hb | exact st_1 hb | exact st_2 hb | exact st_3 hb | exact st_4 hb | exact st_5 hb | exact st_o hb2 | exact st_1 hb2 | exact st_2 hb2 | exact st_3 hb2 | exact st_4 hb2 | exact st_5 hb2) rfl dX12_unevenNow_58 ?_
          refine g_iload3 62 rfl dX12_unevenNow_61 ?_
          refine g_iald 63 rfl dX12_unevenNow_62 (by first | rfl | exact st_o hb | exact st_1 hb | exact st_2 hb | exact st_3 hb | exact st_4 hb | exact st_5 hb | exact st_o hb2 | exact st_1 hb2 | exact st_2 hb2 | exact st_3 hb2 | exact st_4 hb2 | exact st_5 hb2) rfl rfl (by first | assumption | omega) ?_
          try simp only [pM_1, pM_3]
          refine g_goto 67 dX12_unevenNow_63 (by decide) ?_
          refine g_istore2 68 rfl dX12_unevenNow_67 rfl rfl ?_
          refine g_iinc3 71 rfl dX12_unevenNow_68 rfl rfl _ (by first | exact iinc1 _ | exact iincx _ | rfl) ?_
          refine g_goto 8 dX12_unevenNow_71 (by decide) ?_
          (simp only [h23, if_true, if_false] at ih; (try simp only [h33, if_true, if_false] at ih); (try simp only [h54, if_true, if_false] at ih); exact ih)
      · refine g_aload0 37 rfl dX12_unevenNow_36 ?_
        refine g_getR 40 rfl fX12_16 (by first | rfl | exact st_o hb | exact st_1 hb | exact st_2 hb | exact st_3 hb | exact st_4 hb | exact st_5 hb | exact st_o hb2 | exact st_1 hb2 | exact st_2 hb2 | exact st_3 hb2 | exact st_4 hb2 | exact st_5 hb2) rfl dX12_unevenNow_37 ?_
        refine g_iload3 41 rfl dX12_unevenNow_40 ?_
        refine g_iald 42 rfl dX12_unevenNow_41 (by first | rfl | exact st_o hb | exact st_1 hb | exact st_2 hb | exact st_3 hb | exact st_4 hb | exact st_5 hb | exact st_o hb2 | exact st_1 hb2 | exact st_2 hb2 | exact st_3 hb2 | exact st_4 hb2 | exact st_5 hb2) rfl rfl (by first | assumption | omega) ?_
        try simp only [pM_1, pM_3]
        refine g_goto 46 dX12_unevenNow_42 (by decide) ?_
        refine g_istore1 47 rfl dX12_unevenNow_46 rfl rfl ?_
        refine g_aload0 48 rfl dX12_unevenNow_47 ?_
        refine g_getR 51 rfl fX12_16 (by first | rfl | exact st_o hb | exact st_1 hb | exact st_2 hb | exact st_3 hb | exact st_4 hb | exact st_5 hb | exact st_o hb2 | exact st_1 hb2 | exact st_2 hb2 | exact st_3 hb2 | exact st_4 hb2 | exact st_5 hb2) rfl dX12_unevenNow_48 ?_
        refine g_iload3 52 rfl dX12_unevenNow_51 ?_
        refine g_iald 53 rfl dX12_unevenNow_52 (by first | rfl | exact st_o hb | exact st_1 hb | exact st_2 hb | exact st_3 hb | exact st_4 hb | exact st_5 hb | exact st_o hb2 | exact st_1 hb2 | exact st_2 hb2 | exact st_3 hb2 | exact st_4 hb2 | exact st_5 hb2) rfl rfl (by first | assumption | omega) ?_
        try simp only [pM_1, pM_3]
        refine g_iload2 54 rfl dX12_unevenNow_53 ?_
        refine g_cmple 66 57 rfl dX12_unevenNow_54 (by decide) (fun h54 => ?_) (fun h54 => ?_)
        · refine g_iload2 67 rfl dX12_unevenNow_66 ?_
          refine g_istore2 68 rfl dX12_unevenNow_67 rfl rfl ?_
          refine g_iinc3 71 rfl dX12_unevenNow_68 rfl rfl _ (by first | exact iinc1 _ | exact iincx _ | rfl) ?_
          refine g_goto 8 dX12_unevenNow_71 (by decide) ?_
          (simp only [h23, if_true, if_false] at ih; (try simp only [h33, if_true, if_false] at ih); (try simp only [h54, if_true, if_false] at ih); exact ih)
        · refine g_aload0 58 rfl dX12_unevenNow_57 ?_
          refine g_getR 61 rfl fX12_16 (by first | rfl | exact st_o hb | exact st_1 hb | exact st_2 hb | exact st_3 hb | exact st_4 hb | exact st_5 hb | exact st_o hb2 | exact st_1 hb2 | exact st_2 hb2 | exact st_3 hb2 | exact st_4 hb2 | exact st_5 hb2) rfl dX12_unevenNow_58 ?_
          refine g_iload3 62 rfl dX12_unevenNow_61 ?_
          refine g_iald 63 rfl dX12_unevenNow_62 (by first | rfl | exact st_o hb | exact st_1 hb | exact st_2 hb | exact st_3 hb | exact st_4 hb | exact st_5 hb | exact st_o hb2 | exact st_1 hb2 | exact st_2 hb2 | exact st_3 hb2 | exact st_4 hb2 | exact st_5 hb2) rfl rfl (by first | assumption | omega) ?_
          try simp only [pM_1, pM_3]
          refine g_goto 67 dX12_unevenNow_63 (by decide) ?_
          refine g_istore2 68 rfl dX12_unevenNow_67 rfl rfl ?_
          refine g_iinc3 71 rfl dX12_unevenNow_68 rfl rfl _ (by first | exact iinc1 _ | exact iincx _ | rfl) ?_
          refine g_goto 8 dX12_unevenNow_71 (by decide) ?_
          (simp only [h23, if_true, if_false] at ih; (try simp only [h33, if_true, if_false] at ih); (try simp only [h54, if_true, if_false] at ih); exact ih)
/-! loads -/
abbrev gx (x : Sx) : Nat → Int32 := fun c => gpI (sK x c)
theorem gp_z {k : Int32} (h : ¬ k = -1) (h2 : gpI k ≤ 0) : gripK k = 0 := by
  rw [gpI, if_neg h] at h2
  revert h2
  unfold gripK
  repeat' split
  all_goals first | (intro z; exact absurd z (by decide)) | (intro _; rfl)
theorem upd_sm {f : Nat → Int32} {k : Nat} : upd f k (f k) = f := by
  funext j
  unfold upd
  split
  · subst_vars; rfl
  · rfl
theorem pas_0 {g : Nat → Int32} {R W c : Nat} {fi : Int32} {B : Nat → Int32} : pasS g R W c fi 0 B = B := by
  have e : ∀ i, itN (pasB g R W c fi 0) i ((0 : Int32), B) = (0, B) := by
    intro i
    induction i with
    | zero => rfl
    | succ i ih =>
      rw [it4, ih, pasB]
      cases nb R W c i with
      | none => rfl
      | some k =>
        dsimp only
        have z : (0 : Int32) * g k / 20 = 0 := by rw [Int32.zero_mul]; decide
        rw [z, Int32.add_zero, upd_sm]
        split
        · rfl
        · split <;> rfl
  unfold pasS
  rw [e, Int32.add_zero, upd_sm]
abbrev qCl (M : Mm) (x : Sx) : Rr → Mm → Prop := fun r M' => r = none ∧ ∃ f, M' = pM (setA M 16 f) x ∧ ∀ c, c < 30 → f c = 0
theorem om_clearWear {l : Launch} {M : Mm} {x : Sx} : Ok GM l mX12_clearWear [.ref 0] (pM M x) (qCl M x) := by
  have w16 : ∀ f e, setA (pM (setA M 16 f) x) 16 e = pM (setA M 16 e) x := fun f e => by rw [pM_wo (Or.inr (by decide)), sA_sA]
  have r16 : ∀ f, (pM (setA M 16 f) x).1 16 = f := fun f => by rw [pM_o (Or.inr (by decide)), sA_s]
  refine ok_of (by decide +kernel) rfl rfl ?_
  refine g_mem (pM (setA M 16 (M.1 16)) x) (by rw [sA_id]) ?_
  refine g_iconst 1 rfl (v := 0) dX12_clearWear_0 (by decide) ?_
  refine g_istore1 2 rfl dX12_clearWear_1 rfl rfl ?_
  have key : ∀ i, i ≤ 30 → ∀ f, (∀ c, c < i → f c = 0) → Go GM l mX12_clearWear 2 [.ref 0, .int (nI i)] [] (pM (setA M 16 f) x) (qCl M x) := by
    refine loop_up (P := fun i => ∀ f, (∀ c, c < i → f c = 0) → Go GM l mX12_clearWear 2 [.ref 0, .int (nI i)] [] (pM (setA M 16 f) x) (qCl M x)) 30 ?_ ?_
    · intro f hf
      refine g_iload1 3 rfl dX12_clearWear_2 ?_
      refine g_bipush 5 rfl (v := 30) dX12_clearWear_3 (by decide) ?_
      refine g_cmpge 21 8 rfl dX12_clearWear_5 (by decide) (fun h5 => ?_) (fun h => absurd (by decide) h)
      refine g_vret rfl dX12_clearWear_21 ?_
      exact ⟨rfl, f, rfl, hf⟩
    · intro i hi ih f hf
      refine g_iload1 3 rfl dX12_clearWear_2 ?_
      refine g_bipush 5 rfl (v := 30) dX12_clearWear_3 (by decide) ?_
      refine g_cmpge 21 8 rfl dX12_clearWear_5 (by decide) (fun h => absurd h (nI_ge hi (by decide))) (fun _ => ?_)
      refine g_aload0 9 rfl dX12_clearWear_8 ?_
      refine g_getR 12 rfl fX12_60 (by first | rfl | exact st_o hb | exact st_1 hb | exact st_2 hb | exact st_3 hb | exact st_4 hb | exact st_5 hb | exact st_o hb2 | exact st_1 hb2 | exact st_2 hb2 | exact st_3 hb2 | exact st_4 hb2 | exact st_5 hb2) rfl dX12_clearWear_9 ?_
      refine g_iload1 13 rfl dX12_clearWear_12 ?_
      refine g_iconst 14 rfl (v := 0) dX12_clearWear_13 (by decide) ?_
      refine g_iast 15 rfl dX12_clearWear_14 (by first | rfl | exact st_o hb | exact st_1 hb | exact st_2 hb | exact st_3 hb | exact st_4 hb | exact st_5 hb | exact st_o hb2 | exact st_1 hb2 | exact st_2 hb2 | exact st_3 hb2 | exact st_4 hb2 | exact st_5 hb2) rfl rfl (by first | assumption | omega) ?_
      try simp only [r16, w16]
      refine g_iinc1 18 rfl dX12_clearWear_15 rfl rfl _ (by first | exact iinc1 _ | exact iincx _ | rfl) ?_
      refine g_goto 2 dX12_clearWear_18 (by decide) ?_
      refine ih _ (fun c hc => ?_)
      by_cases hci : c = i
      · subst hci; rw [upd_at]
      · rw [pk_un hci]; exact hf c (by omega)
  exact key 0 (by omega) _ (fun c hc => absurd hc (by omega))
theorem om_bearSecond {l : Launch} {M : Mm} {R W c : Nat} {fi ld : Int32} {x : Sx} {B : Nat → Int32} (hm : Mod M R W) (hc : c < R * W) : Ov GM l mX12_bearSecond [.ref 0, .int (nI c), .int fi, .int ld] (pM (setA M 16 B) x) (pM (setA M 16 (pasS (gx x) R W c fi ld B)) x) := by
  have h30 := hm.le
  have hm2 : ∀ B, Mod (pM (setA M 16 B) x) R W := fun B => pM_mod (mod_sA hm (by decide))
  have w16 : ∀ f e, setA (pM (setA M 16 f) x) 16 e = pM (setA M 16 e) x := fun f e => by rw [pM_wo (Or.inr (by decide)), sA_sA]
  have r16 : ∀ f, (pM (setA M 16 f) x).1 16 = f := fun f => by rw [pM_o (Or.inr (by decide)), sA_s]
  refine ok_of (by decide +kernel) rfl rfl ?_
  refine g_iload3 1 rfl dX12_bearSecond_0 ?_
  refine g_istore4 3 rfl dX12_bearSecond_1 rfl rfl ?_
  refine g_iconst 4 rfl (v := 0) dX12_bearSecond_3 (by decide) ?_
  refine g_istore5 6 rfl dX12_bearSecond_4 rfl rfl ?_
  refine loop_up (P := fun i => Go GM l mX12_bearSecond 6 [.ref 0, .int (nI c), .int fi, .int ld, .int (itN (pasB (gx x) R W c fi ld) i (ld, B)).1, .int (nI i), .null, .null] [] (pM (setA M 16 (itN (pasB (gx x) R W c fi ld) i (ld, B)).2) x) _) 4 ?_ ?_ 0 (by omega)
  · refine g_iload5 8 rfl dX12_bearSecond_6 ?_
    refine g_iconst 9 rfl (v := 4) dX12_bearSecond_8 (by decide) ?_
    refine g_cmpge 82 12 rfl dX12_bearSecond_9 (by decide) (fun h9 => ?_) (fun h => absurd (by decide) h)
    refine g_aload0 83 rfl dX12_bearSecond_82 ?_
    refine g_getR 86 rfl fX12_60 (by first | rfl | exact st_o hb | exact st_1 hb | exact st_2 hb | exact st_3 hb | exact st_4 hb | exact st_5 hb | exact st_o hb2 | exact st_1 hb2 | exact st_2 hb2 | exact st_3 hb2 | exact st_4 hb2 | exact st_5 hb2) rfl dX12_bearSecond_83 ?_
    refine g_iload1 87 rfl dX12_bearSecond_86 ?_
    refine g_dup2 88 rfl dX12_bearSecond_87 rfl rfl ?_
    refine g_iald 89 rfl dX12_bearSecond_88 (by first | rfl | exact st_o hb | exact st_1 hb | exact st_2 hb | exact st_3 hb | exact st_4 hb | exact st_5 hb | exact st_o hb2 | exact st_1 hb2 | exact st_2 hb2 | exact st_3 hb2 | exact st_4 hb2 | exact st_5 hb2) rfl rfl (by first | assumption | omega) ?_
    try simp only [pM_1, r16, w16]
    refine g_iload4 91 rfl dX12_bearSecond_89 ?_
    refine g_iadd 92 rfl dX12_bearSecond_91 ?_
    refine g_iast 93 rfl dX12_bearSecond_92 (by first | rfl | exact st_o hb | exact st_1 hb | exact st_2 hb | exact st_3 hb | exact st_4 hb | exact st_5 hb | exact st_o hb2 | exact st_1 hb2 | exact st_2 hb2 | exact st_3 hb2 | exact st_4 hb2 | exact st_5 hb2) rfl rfl (by first | assumption | omega) ?_
    try simp only [pM_1, r16, w16]
    refine g_vret rfl dX12_bearSecond_93 ?_
    exact ⟨rfl, rfl⟩
  · intro i hi ih
    simp only [it4] at ih
    generalize itN (pasB (gx x) R W c fi ld) i (ld, B) = p at ih ⊢
    refine g_iload5 8 rfl dX12_bearSecond_6 ?_
    refine g_iconst 9 rfl (v := 4) dX12_bearSecond_8 (by decide) ?_
    refine g_cmpge 82 12 rfl dX12_bearSecond_9 (by decide) (fun h => absurd h (nI_ge hi (by decide))) (fun _ => ?_)
    refine g_aload0 13 rfl dX12_bearSecond_12 ?_
    refine g_iload1 14 rfl dX12_bearSecond_13 ?_
    refine g_iload5 16 rfl dX12_bearSecond_14 ?_
    refine g_callVi 19 2 rfl kX12_147 (by first | rfl | exact st_o hb | exact st_1 hb | exact st_2 hb | exact st_3 hb | exact st_4 hb | exact st_5 hb | exact st_o hb2 | exact st_1 hb2 | exact st_2 hb2 | exact st_3 hb2 | exact st_4 hb2 | exact st_5 hb2) dX12_bearSecond_16 ⟨rfl, rfl⟩ (om_beside (hm2 _) hc hi) rfl rfl rfl ?_
    refine g_istore6 21 rfl dX12_bearSecond_19 rfl rfl ?_
    refine g_iload6 23 rfl dX12_bearSecond_21 ?_
    cases hk : nb R W c i with
    | none =>
      simp only [pasB, hk] at ih
      refine g_iconst 24 rfl (v := (-1)) dX12_bearSecond_23 (by decide) ?_
      refine g_cmpeq 76 27 rfl dX12_bearSecond_24 (by decide) (fun h => ?_) (fun h => absurd rfl h)
      refine g_iinc5 79 rfl dX12_bearSecond_76 rfl rfl _ (by first | exact iinc1 _ | exact iincx _ | rfl) ?_
      refine g_goto 6 dX12_bearSecond_79 (by decide) ?_
      refine g_fg 6 ?_
      exact ih
    | some k =>
      have hk2 := nb_lt hc hk
      simp only [pasB, hk] at ih
      refine g_iconst 24 rfl (v := (-1)) dX12_bearSecond_23 (by decide) ?_
      refine g_cmpeq 76 27 rfl dX12_bearSecond_24 (by decide) (fun h => absurd h (nI_ne_m1 (by omega))) (fun _ => ?_)
      refine g_iload6 29 rfl dX12_bearSecond_27 ?_
      refine g_iload2 30 rfl dX12_bearSecond_29 ?_
      refine g_cmpeq 76 33 rfl dX12_bearSecond_30 (by decide) (fun h30 => ?_) (fun h30 => ?_)
      · have h30 : nI k = fi := h30
        rw [if_pos h30] at ih
        refine g_iinc5 79 rfl dX12_bearSecond_76 rfl rfl _ (by first | exact iinc1 _ | exact iincx _ | rfl) ?_
        refine g_goto 6 dX12_bearSecond_79 (by decide) ?_
        refine g_fg 6 ?_
        refine g_fg 7 ?_
        exact ih
      · have h30 : ¬ nI k = fi := h30
        rw [if_neg h30] at ih
        refine g_aload0 34 rfl dX12_bearSecond_33 ?_
        refine g_getR 37 rfl fX12_7 (by first | rfl | exact st_o hb | exact st_1 hb | exact st_2 hb | exact st_3 hb | exact st_4 hb | exact st_5 hb | exact st_o hb2 | exact st_1 hb2 | exact st_2 hb2 | exact st_3 hb2 | exact st_4 hb2 | exact st_5 hb2) rfl dX12_bearSecond_34 ?_
        refine g_iload6 39 rfl dX12_bearSecond_37 ?_
        refine g_iald 40 rfl dX12_bearSecond_39 (by first | rfl | exact st_o hb | exact st_1 hb | exact st_2 hb | exact st_3 hb | exact st_4 hb | exact st_5 hb | exact st_o hb2 | exact st_1 hb2 | exact st_2 hb2 | exact st_3 hb2 | exact st_4 hb2 | exact st_5 hb2) rfl rfl (by first | assumption | omega) ?_
        try simp only [pM_1, r16, w16]
        refine g_iconst 41 rfl (v := (-1)) dX12_bearSecond_40 (by decide) ?_
        refine g_cmpeq 76 44 rfl dX12_bearSecond_41 (by decide) (fun h41 => ?_) (fun h41 => ?_)
        · have h41 : sK x k = -1 := h41
          rw [if_pos (by show gpI (sK x k) ≤ 0; rw [h41]; decide)] at ih
          refine g_iinc5 79 rfl dX12_bearSecond_76 rfl rfl _ (by first | exact iinc1 _ | exact iincx _ | rfl) ?_
          refine g_goto 6 dX12_bearSecond_79 (by decide) ?_
          refine g_fg 6 ?_
          refine g_fg 7 ?_
          exact ih
        · have h41 : ¬ sK x k = -1 := h41
          refine g_iload3 45 rfl dX12_bearSecond_44 ?_
          refine g_aload0 46 rfl dX12_bearSecond_45 ?_
          refine g_iload6 48 rfl dX12_bearSecond_46 ?_
          refine g_callVi 51 1 rfl kX12_150 (by first | rfl | exact st_o hb | exact st_1 hb | exact st_2 hb | exact st_3 hb | exact st_4 hb | exact st_5 hb | exact st_o hb2 | exact st_1 hb2 | exact st_2 hb2 | exact st_3 hb2 | exact st_4 hb2 | exact st_5 hb2) dX12_bearSecond_48 ⟨rfl, rfl⟩ (om_grip (by omega)) rfl rfl rfl ?_
          refine g_imul 52 rfl dX12_bearSecond_51 ?_
          refine g_bipush 54 rfl (v := 20) dX12_bearSecond_52 (by decide) ?_
          refine g_idiv 55 rfl dX12_bearSecond_54 (by decide) ?_
          refine g_istore7 57 rfl dX12_bearSecond_55 rfl rfl ?_
          refine g_iload4 59 rfl dX12_bearSecond_57 ?_
          refine g_iload7 61 rfl dX12_bearSecond_59 ?_
          refine g_isub 62 rfl dX12_bearSecond_61 ?_
          refine g_istore4 64 rfl dX12_bearSecond_62 rfl rfl ?_
          refine g_aload0 65 rfl dX12_bearSecond_64 ?_
          refine g_getR 68 rfl fX12_60 (by first | rfl | exact st_o hb | exact st_1 hb | exact st_2 hb | exact st_3 hb | exact st_4 hb | exact st_5 hb | exact st_o hb2 | exact st_1 hb2 | exact st_2 hb2 | exact st_3 hb2 | exact st_4 hb2 | exact st_5 hb2) rfl dX12_bearSecond_65 ?_
          refine g_iload6 70 rfl dX12_bearSecond_68 ?_
          refine g_dup2 71 rfl dX12_bearSecond_70 rfl rfl ?_
          refine g_iald 72 rfl dX12_bearSecond_71 (by first | rfl | exact st_o hb | exact st_1 hb | exact st_2 hb | exact st_3 hb | exact st_4 hb | exact st_5 hb | exact st_o hb2 | exact st_1 hb2 | exact st_2 hb2 | exact st_3 hb2 | exact st_4 hb2 | exact st_5 hb2) rfl rfl (by first | assumption | omega) ?_
          try simp only [pM_1, r16, w16]
          refine g_iload7 74 rfl dX12_bearSecond_72 ?_
          refine g_iadd 75 rfl dX12_bearSecond_74 ?_
          refine g_iast 76 rfl dX12_bearSecond_75 (by first | rfl | exact st_o hb | exact st_1 hb | exact st_2 hb | exact st_3 hb | exact st_4 hb | exact st_5 hb | exact st_o hb2 | exact st_1 hb2 | exact st_2 hb2 | exact st_3 hb2 | exact st_4 hb2 | exact st_5 hb2) rfl rfl (by first | assumption | omega) ?_
          try simp only [pM_1, r16, w16]
          refine g_iinc5 79 rfl dX12_bearSecond_76 rfl rfl _ (by first | exact iinc1 _ | exact iincx _ | rfl) ?_
          refine g_goto 6 dX12_bearSecond_79 (by decide) ?_
          refine g_fg 6 ?_
          refine g_fg 7 ?_
          by_cases hz : gpI (sK x k) ≤ 0
          · rw [if_pos hz] at ih
            have z := gp_z h41 hz
            have e : ld * gripK (sK x k) / 20 = 0 := by rw [z, Int32.mul_zero]; decide
            rw [e, Int32.sub_zero, Int32.add_zero, upd_sm]
            exact ih
          · rw [if_neg hz] at ih
            have e : gpI (sK x k) = gripK (sK x k) := by rw [gpI, if_neg h41]
            dsimp only [gx] at ih
            rw [e] at ih
            exact ih
theorem om_bear {l : Launch} {M : Mm} {R W c : Nat} {ld : Int32} {x : Sx} {B : Nat → Int32} (hm : Mod M R W) (hc : c < R * W) (hkc : ¬ sK x c = -1) : Ov GM l mX12_bear [.ref 0, .int (nI c), .int ld] (pM (setA M 16 B) x) (pM (setA M 16 (layS (gx x) R W c ld B)) x) := by
  have h30 := hm.le
  have hm2 : ∀ B, Mod (pM (setA M 16 B) x) R W := fun B => pM_mod (mod_sA hm (by decide))
  have w16 : ∀ f e, setA (pM (setA M 16 f) x) 16 e = pM (setA M 16 e) x := fun f e => by rw [pM_wo (Or.inr (by decide)), sA_sA]
  have r16 : ∀ f, (pM (setA M 16 f) x).1 16 = f := fun f => by rw [pM_o (Or.inr (by decide)), sA_s]
  have hg : ¬ gx x c = -1 := by
    show ¬ gpI (sK x c) = -1
    rw [gpI, if_neg hkc]
    unfold gripK
    repeat' split
    all_goals decide
  refine ok_of (by decide +kernel) rfl rfl ?_
  refine g_iload2 1 rfl dX12_bear_0 ?_
  refine g_istore3 2 rfl dX12_bear_1 rfl rfl ?_
  refine g_iconst 3 rfl (v := 0) dX12_bear_2 (by decide) ?_
  refine g_istore4 5 rfl dX12_bear_3 rfl rfl ?_
  refine loop_up (P := fun i => Go GM l mX12_bear 5 [.ref 0, .int (nI c), .int ld, .int (itN (layB (gx x) R W c ld) i (ld, B)).1, .int (nI i), .null, .null] [] (pM (setA M 16 (itN (layB (gx x) R W c ld) i (ld, B)).2) x) _) 4 ?_ ?_ 0 (by omega)
  · refine g_iload4 7 rfl dX12_bear_5 ?_
    refine g_iconst 8 rfl (v := 4) dX12_bear_7 (by decide) ?_
    refine g_cmpge 70 11 rfl dX12_bear_8 (by decide) (fun h8 => ?_) (fun h => absurd (by decide) h)
    refine g_aload0 71 rfl dX12_bear_70 ?_
    refine g_getR 74 rfl fX12_60 (by first | rfl | exact st_o hb | exact st_1 hb | exact st_2 hb | exact st_3 hb | exact st_4 hb | exact st_5 hb | exact st_o hb2 | exact st_1 hb2 | exact st_2 hb2 | exact st_3 hb2 | exact st_4 hb2 | exact st_5 hb2) rfl dX12_bear_71 ?_
    refine g_iload1 75 rfl dX12_bear_74 ?_
    refine g_dup2 76 rfl dX12_bear_75 rfl rfl ?_
    refine g_iald 77 rfl dX12_bear_76 (by first | rfl | exact st_o hb | exact st_1 hb | exact st_2 hb | exact st_3 hb | exact st_4 hb | exact st_5 hb | exact st_o hb2 | exact st_1 hb2 | exact st_2 hb2 | exact st_3 hb2 | exact st_4 hb2 | exact st_5 hb2) rfl rfl (by first | assumption | omega) ?_
    try simp only [pM_1, r16, w16]
    refine g_iload3 78 rfl dX12_bear_77 ?_
    refine g_iadd 79 rfl dX12_bear_78 ?_
    refine g_iast 80 rfl dX12_bear_79 (by first | rfl | exact st_o hb | exact st_1 hb | exact st_2 hb | exact st_3 hb | exact st_4 hb | exact st_5 hb | exact st_o hb2 | exact st_1 hb2 | exact st_2 hb2 | exact st_3 hb2 | exact st_4 hb2 | exact st_5 hb2) rfl rfl (by first | assumption | omega) ?_
    try simp only [pM_1, r16, w16]
    refine g_vret rfl dX12_bear_80 ?_
    exact ⟨rfl, by rw [layS, if_neg hg]⟩
  · intro i hi ih
    simp only [it4] at ih
    generalize itN (layB (gx x) R W c ld) i (ld, B) = p at ih ⊢
    refine g_iload4 7 rfl dX12_bear_5 ?_
    refine g_iconst 8 rfl (v := 4) dX12_bear_7 (by decide) ?_
    refine g_cmpge 70 11 rfl dX12_bear_8 (by decide) (fun h => absurd h (nI_ge hi (by decide))) (fun _ => ?_)
    refine g_aload0 12 rfl dX12_bear_11 ?_
    refine g_iload1 13 rfl dX12_bear_12 ?_
    refine g_iload4 15 rfl dX12_bear_13 ?_
    refine g_callVi 18 2 rfl kX12_147 (by first | rfl | exact st_o hb | exact st_1 hb | exact st_2 hb | exact st_3 hb | exact st_4 hb | exact st_5 hb | exact st_o hb2 | exact st_1 hb2 | exact st_2 hb2 | exact st_3 hb2 | exact st_4 hb2 | exact st_5 hb2) dX12_bear_15 ⟨rfl, rfl⟩ (om_beside (hm2 _) hc hi) rfl rfl rfl ?_
    refine g_istore5 20 rfl dX12_bear_18 rfl rfl ?_
    refine g_iload5 22 rfl dX12_bear_20 ?_
    cases hk : nb R W c i with
    | none =>
      simp only [layB, hk] at ih
      refine g_iconst 23 rfl (v := (-1)) dX12_bear_22 (by decide) ?_
      refine g_cmpeq 64 26 rfl dX12_bear_23 (by decide) (fun h => ?_) (fun h => absurd rfl h)
      refine g_iinc4 67 rfl dX12_bear_64 rfl rfl _ (by first | exact iinc1 _ | exact iincx _ | rfl) ?_
      refine g_goto 5 dX12_bear_67 (by decide) ?_
      refine g_fg 5 ?_
      exact ih
    | some k =>
      have hk2 := nb_lt hc hk
      simp only [layB, hk] at ih
      refine g_iconst 23 rfl (v := (-1)) dX12_bear_22 (by decide) ?_
      refine g_cmpeq 64 26 rfl dX12_bear_23 (by decide) (fun h => absurd h (nI_ne_m1 (by omega))) (fun _ => ?_)
      refine g_aload0 27 rfl dX12_bear_26 ?_
      refine g_getR 30 rfl fX12_7 (by first | rfl | exact st_o hb | exact st_1 hb | exact st_2 hb | exact st_3 hb | exact st_4 hb | exact st_5 hb | exact st_o hb2 | exact st_1 hb2 | exact st_2 hb2 | exact st_3 hb2 | exact st_4 hb2 | exact st_5 hb2) rfl dX12_bear_27 ?_
      refine g_iload5 32 rfl dX12_bear_30 ?_
      refine g_iald 33 rfl dX12_bear_32 (by first | rfl | exact st_o hb | exact st_1 hb | exact st_2 hb | exact st_3 hb | exact st_4 hb | exact st_5 hb | exact st_o hb2 | exact st_1 hb2 | exact st_2 hb2 | exact st_3 hb2 | exact st_4 hb2 | exact st_5 hb2) rfl rfl (by first | assumption | omega) ?_
      try simp only [pM_1, r16, w16]
      refine g_iconst 34 rfl (v := (-1)) dX12_bear_33 (by decide) ?_
      refine g_cmpeq 64 37 rfl dX12_bear_34 (by decide) (fun h41 => ?_) (fun h41 => ?_)
      · have h41 : sK x k = -1 := h41
        rw [if_pos (by show gpI (sK x k) ≤ 0; rw [h41]; decide)] at ih
        refine g_iinc4 67 rfl dX12_bear_64 rfl rfl _ (by first | exact iinc1 _ | exact iincx _ | rfl) ?_
        refine g_goto 5 dX12_bear_67 (by decide) ?_
        refine g_fg 5 ?_
        refine g_fg 6 ?_
        exact ih
      · have h41 : ¬ sK x k = -1 := h41
        refine g_iload2 38 rfl dX12_bear_37 ?_
        refine g_aload0 39 rfl dX12_bear_38 ?_
        refine g_iload5 41 rfl dX12_bear_39 ?_
        refine g_callVi 44 1 rfl kX12_150 (by first | rfl | exact st_o hb | exact st_1 hb | exact st_2 hb | exact st_3 hb | exact st_4 hb | exact st_5 hb | exact st_o hb2 | exact st_1 hb2 | exact st_2 hb2 | exact st_3 hb2 | exact st_4 hb2 | exact st_5 hb2) dX12_bear_41 ⟨rfl, rfl⟩ (om_grip (by omega)) rfl rfl rfl ?_
        refine g_imul 45 rfl dX12_bear_44 ?_
        refine g_bipush 47 rfl (v := 20) dX12_bear_45 (by decide) ?_
        refine g_idiv 48 rfl dX12_bear_47 (by decide) ?_
        refine g_istore6 50 rfl dX12_bear_48 rfl rfl ?_
        refine g_iload3 51 rfl dX12_bear_50 ?_
        refine g_iload6 53 rfl dX12_bear_51 ?_
        refine g_isub 54 rfl dX12_bear_53 ?_
        refine g_istore3 55 rfl dX12_bear_54 rfl rfl ?_
        refine g_aload0 56 rfl dX12_bear_55 ?_
        refine g_iload5 58 rfl dX12_bear_56 ?_
        refine g_iload1 59 rfl dX12_bear_58 ?_
        refine g_iload6 61 rfl dX12_bear_59 ?_
        refine g_callVv 64 3 rfl kX12_201 (by first | rfl | exact st_o hb | exact st_1 hb | exact st_2 hb | exact st_3 hb | exact st_4 hb | exact st_5 hb | exact st_o hb2 | exact st_1 hb2 | exact st_2 hb2 | exact st_3 hb2 | exact st_4 hb2 | exact st_5 hb2) dX12_bear_61 ⟨rfl, rfl⟩ (om_bearSecond hm hk2) rfl rfl rfl ?_
        refine g_iinc4 67 rfl dX12_bear_64 rfl rfl _ (by first | exact iinc1 _ | exact iincx _ | rfl) ?_
        refine g_goto 5 dX12_bear_67 (by decide) ?_
        refine g_fg 5 ?_
        refine g_fg 6 ?_
        by_cases hz : gpI (sK x k) ≤ 0
        · rw [if_pos hz] at ih
          have z := gp_z h41 hz
          have e : ld * gripK (sK x k) / 20 = 0 := by rw [z, Int32.mul_zero]; decide
          rw [e, Int32.sub_zero, pas_0]
          exact ih
        · rw [if_neg hz] at ih
          have e : gpI (sK x k) = gripK (sK x k) := by rw [gpI, if_neg h41]
          dsimp only [gx] at ih
          rw [e] at ih
          exact ih
abbrev qLl (R W c : Nat) (ld : Int32) (M : Mm) (x : Sx) : Rr → Mm → Prop := fun r M' => r = none ∧ ∃ B, M' = pM (setA M 16 B) x ∧ eqN (R * W) B (layS (gx x) R W c ld (fun _ => 0))
theorem om_layLoad {l : Launch} {M : Mm} {R W c : Nat} {ld : Int32} {x : Sx} (hm : Mod M R W) (hc : c < R * W) : Ok GM l mX12_layLoad [.ref 0, .int (nI c), .int ld] (pM M x) (qLl R W c ld M x) := by
  have h30 := hm.le
  refine ok_of (by decide +kernel) rfl rfl ?_
  refine g_aload0 1 rfl dX12_layLoad_0 ?_
  refine g_callV 4 0 rfl kX12_205 (by first | rfl | exact st_o hb | exact st_1 hb | exact st_2 hb | exact st_3 hb | exact st_4 hb | exact st_5 hb | exact st_o hb2 | exact st_1 hb2 | exact st_2 hb2 | exact st_3 hb2 | exact st_4 hb2 | exact st_5 hb2) dX12_layLoad_1 ⟨rfl, rfl⟩ om_clearWear rfl rfl rfl (fun r M1 hq => ?_)
  obtain ⟨rfl, f, rfl, hf⟩ := hq
  try simp only [rV, Option.toList, List.cons_append, List.nil_append]
  refine g_aload0 5 rfl dX12_layLoad_4 ?_
  refine g_getR 8 rfl fX12_7 (by first | rfl | exact st_o hb | exact st_1 hb | exact st_2 hb | exact st_3 hb | exact st_4 hb | exact st_5 hb | exact st_o hb2 | exact st_1 hb2 | exact st_2 hb2 | exact st_3 hb2 | exact st_4 hb2 | exact st_5 hb2) rfl dX12_layLoad_5 ?_
  refine g_iload1 9 rfl dX12_layLoad_8 ?_
  refine g_iald 10 rfl dX12_layLoad_9 (by first | rfl | exact st_o hb | exact st_1 hb | exact st_2 hb | exact st_3 hb | exact st_4 hb | exact st_5 hb | exact st_o hb2 | exact st_1 hb2 | exact st_2 hb2 | exact st_3 hb2 | exact st_4 hb2 | exact st_5 hb2) rfl rfl (by first | assumption | omega) ?_
  try simp only [pM_1]
  refine g_iconst 11 rfl (v := (-1)) dX12_layLoad_10 (by decide) ?_
  have hE : eqN (R * W) (layS (gx x) R W c ld f) (layS (gx x) R W c ld (fun _ => 0)) := layS_E eqN.rf (fun d hd => hf d (by omega)) hc
  refine g_cmpeq 20 14 rfl dX12_layLoad_11 (by decide) (fun h11 => ?_) (fun h11 => ?_)
  · have hg : gx x c = -1 := by show gpI (sK x c) = -1; rw [gpI, if_pos h11]
    rw [layS, if_pos hg] at hE
    refine g_vret rfl dX12_layLoad_20 ?_
    exact ⟨rfl, f, rfl, hE⟩
  · refine g_aload0 15 rfl dX12_layLoad_14 ?_
    refine g_iload1 16 rfl dX12_layLoad_15 ?_
    refine g_iload2 17 rfl dX12_layLoad_16 ?_
    refine g_callVv 20 2 rfl kX12_208 (by first | rfl | exact st_o hb | exact st_1 hb | exact st_2 hb | exact st_3 hb | exact st_4 hb | exact st_5 hb | exact st_o hb2 | exact st_1 hb2 | exact st_2 hb2 | exact st_3 hb2 | exact st_4 hb2 | exact st_5 hb2) dX12_layLoad_17 ⟨rfl, rfl⟩ (om_bear hm hc h11) rfl rfl rfl ?_
    refine g_vret rfl dX12_layLoad_20 ?_
    exact ⟨rfl, _, rfl, hE⟩
