/-! the class's Years: what a year does -/
def wdB (R W : Nat) (B : Nat → Int32) (x0 : Sx) (i : Nat) (p : Sx × Int32) : Sx × Int32 := if B i ≤ 20 * sZ x0 i + 10 * holdS R W x0 i then p else (worS i p.1, if worV i p.1 = 0 then p.2 else p.2 + 1)
def wdS (R W : Nat) (B : Nat → Int32) (x : Sx) : Sx × Int32 := itN (wdB R W B x) (R * W) (x, 0)
abbrev qWd (R W b : Nat) (x : Sx) (M : Mm) : Rr → Mm → Prop := fun r M' => r = some (.inl (wdS R W (M.1 37) x).2) ∧ ∃ f, M' = pC (setA M 41 f) b (wdS R W (M.1 37) x).1
theorem ok_X10_wearDown {l : Launch} {M : Mm} {R W b : Nat} {x : Sx} (hb : isSt b) (hp : Plan M R W) : Ok GC l mX10_wearDown [.ref 40, .ref b] (pC M b x) (qWd R W b x M) := by
  have h30 := hp.1.le
  have hp2 : ∀ f, Plan (setA M 41 f) R W := fun f => pl_set hp (by decide)
  have hN : ∀ f y, (pC (setA M 41 f) b y).1 12 4 = nI (R * W) := fun f y => (pC_plan (x := y) hb (hp2 f)).2.2.2.1
  have e37 : ∀ f y, (pC (setA M 41 f) b y).1 37 = M.1 37 := fun f y => by rw [pC_o (st_out hb (by decide)), sA_n (by decide)]
  have e41 : ∀ f y, (pC (setA M 41 f) b y).1 41 = f := fun f y => by rw [pC_o (st_out hb (by decide)), sA_s]
  have w41 : ∀ f y g, setA (pC (setA M 41 f) b y) 41 g = pC (setA M 41 g) b y := fun f y g => by rw [set_o (st_out hb (by decide)), sA_sA]
  refine ok_of (by decide +kernel) rfl rfl ?_
  refine g_mem (pC (setA M 41 (M.1 41)) b x) (by rw [sA_id]) ?_
  refine g_iconst 1 rfl (v := 0) dX10_wearDown_0 (by decide) ?_
  refine g_istore2 2 rfl dX10_wearDown_1 rfl rfl ?_
  refine loop_up (P := fun i => ∀ f, (∀ c, c < i → f c = zB (¬ M.1 37 c ≤ 20 * sZ x c + 10 * holdS R W x c)) → Go GC l mX10_wearDown 2 [.ref 40, .ref b, .int (nI i), .null] [] (pC (setA M 41 f) b x) (qWd R W b x M)) (R * W) ?_ ?_ 0 (by omega) (M.1 41) (fun i hi => absurd hi (by omega))
  · intro f hf
    refine g_iload2 3 rfl dX10_wearDown_2 ?_
    refine g_aload0 4 rfl dX10_wearDown_3 ?_
    refine g_getR 7 rfl fX10_15 (by first | rfl | exact st_o hb | exact st_1 hb | exact st_2 hb | exact st_3 hb | exact st_4 hb | exact st_5 hb | exact st_o hb2 | exact st_1 hb2 | exact st_2 hb2 | exact st_3 hb2 | exact st_4 hb2 | exact st_5 hb2) rfl dX10_wearDown_4 ?_
    refine g_getI 10 rfl fX10_79 (by first | rfl | exact st_o hb | exact st_1 hb | exact st_2 hb | exact st_3 hb | exact st_4 hb | exact st_5 hb | exact st_o hb2 | exact st_1 hb2 | exact st_2 hb2 | exact st_3 hb2 | exact st_4 hb2 | exact st_5 hb2) rfl dX10_wearDown_7 ?_
    try simp only [hN, pC_2, e37, e41, w41]
    refine g_cmpge 62 13 rfl dX10_wearDown_10 (by decide) (fun _ => ?_) (fun h => absurd (Int32.le_refl _) h)
    refine g_iconst 63 rfl (v := 0) dX10_wearDown_62 (by decide) ?_
    refine g_istore2 64 rfl dX10_wearDown_63 rfl rfl ?_
    refine g_iconst 65 rfl (v := 0) dX10_wearDown_64 (by decide) ?_
    refine g_istore3 66 rfl dX10_wearDown_65 rfl rfl ?_
    refine loop_up (P := fun i => Go GC l mX10_wearDown 66 [.ref 40, .ref b, .int (itN (wdB R W (M.1 37) x) i (x, 0)).2, .int (nI i)] [] (pC (setA M 41 f) b (itN (wdB R W (M.1 37) x) i (x, 0)).1) (qWd R W b x M)) (R * W) ?_ ?_ 0 (by omega)
    · refine g_iload3 67 rfl dX10_wearDown_66 ?_
      refine g_aload0 68 rfl dX10_wearDown_67 ?_
      refine g_getR 71 rfl fX10_15 (by first | rfl | exact st_o hb | exact st_1 hb | exact st_2 hb | exact st_3 hb | exact st_4 hb | exact st_5 hb | exact st_o hb2 | exact st_1 hb2 | exact st_2 hb2 | exact st_3 hb2 | exact st_4 hb2 | exact st_5 hb2) rfl dX10_wearDown_68 ?_
      refine g_getI 74 rfl fX10_79 (by first | rfl | exact st_o hb | exact st_1 hb | exact st_2 hb | exact st_3 hb | exact st_4 hb | exact st_5 hb | exact st_o hb2 | exact st_1 hb2 | exact st_2 hb2 | exact st_3 hb2 | exact st_4 hb2 | exact st_5 hb2) rfl dX10_wearDown_71 ?_
      try simp only [hN, pC_2, e37, e41, w41]
      refine g_cmpge 103 77 rfl dX10_wearDown_74 (by decide) (fun h74 => ?_) (fun h => absurd (Int32.le_refl _) h)
      refine g_iload2 104 rfl dX10_wearDown_103 ?_
      refine g_iret rfl dX10_wearDown_104 ?_
      exact ⟨rfl, f, rfl⟩
    · intro i hi ih
      simp only [it4, wdB] at ih
      refine g_iload3 67 rfl dX10_wearDown_66 ?_
      refine g_aload0 68 rfl dX10_wearDown_67 ?_
      refine g_getR 71 rfl fX10_15 (by first | rfl | exact st_o hb | exact st_1 hb | exact st_2 hb | exact st_3 hb | exact st_4 hb | exact st_5 hb | exact st_o hb2 | exact st_1 hb2 | exact st_2 hb2 | exact st_3 hb2 | exact st_4 hb2 | exact st_5 hb2) rfl dX10_wearDown_68 ?_
      refine g_getI 74 rfl fX10_79 (by first | rfl | exact st_o hb | exact st_1 hb | exact st_2 hb | exact st_3 hb | exact st_4 hb | exact st_5 hb | exact st_o hb2 | exact st_1 hb2 | exact st_2 hb2 | exact st_3 hb2 | exact st_4 hb2 | exact st_5 hb2) rfl dX10_wearDown_71 ?_
      try simp only [hN, pC_2, e37, e41, w41]
      refine g_cmpge 103 77 rfl dX10_wearDown_74 (by decide) (fun h => absurd h (nI_ge hi (by omega))) (fun _ => ?_)
      refine g_aload0 78 rfl dX10_wearDown_77 ?_
      refine g_getR 81 rfl fX10_9 (by first | rfl | exact st_o hb | exact st_1 hb | exact st_2 hb | exact st_3 hb | exact st_4 hb | exact st_5 hb | exact st_o hb2 | exact st_1 hb2 | exact st_2 hb2 | exact st_3 hb2 | exact st_4 hb2 | exact st_5 hb2) rfl dX10_wearDown_78 ?_
      refine g_iload3 82 rfl dX10_wearDown_81 ?_
      refine g_zald 83 rfl dX10_wearDown_82 (by first | rfl | exact st_o hb | exact st_1 hb | exact st_2 hb | exact st_3 hb | exact st_4 hb | exact st_5 hb | exact st_o hb2 | exact st_1 hb2 | exact st_2 hb2 | exact st_3 hb2 | exact st_4 hb2 | exact st_5 hb2) rfl rfl (by first | assumption | omega) ?_
      try simp only [hN, pC_2, e37, e41, w41]
      rw [hf i hi]
      refine g_ifeq 97 86 rfl dX10_wearDown_83 (by decide) (fun h83 => ?_) (fun h83 => ?_)
      · have h8 := Decidable.not_not.mp (zB_1.mp h83)
        rw [if_pos h8] at ih
        refine g_iinc3 100 rfl dX10_wearDown_97 rfl rfl _ (by first | exact iinc1 _ | exact iincx _ | rfl) ?_
        refine g_goto 66 dX10_wearDown_100 (by decide) ?_
        exact ih
      · have h8 : ¬ M.1 37 i ≤ 20 * sZ x i + 10 * holdS R W x i := fun z => h83 (zB_f (fun q => q z))
        rw [if_neg h8] at ih
        refine g_aload1 87 rfl dX10_wearDown_86 ?_
        refine g_iload3 88 rfl dX10_wearDown_87 ?_
        refine g_callVi 91 1 rfl kX10_92 (by first | rfl | exact st_o hb | exact st_1 hb | exact st_2 hb | exact st_3 hb | exact st_4 hb | exact st_5 hb | exact st_o hb2 | exact st_1 hb2 | exact st_2 hb2 | exact st_3 hb2 | exact st_4 hb2 | exact st_5 hb2) dX10_wearDown_88 ⟨rfl, rfl⟩ (ok_X7_worsen hb (hp2 f) hi) rfl rfl rfl ?_
        refine g_ifeq 97 94 rfl dX10_wearDown_91 (by decide) (fun h91 => ?_) (fun h91 => ?_)
        · refine g_iinc3 100 rfl dX10_wearDown_97 rfl rfl _ (by first | exact iinc1 _ | exact iincx _ | rfl) ?_
          refine g_goto 66 dX10_wearDown_100 (by decide) ?_
          (simp only [h91, if_true, if_false] at ih; exact ih)
        · refine g_iinc2 97 rfl dX10_wearDown_94 rfl rfl _ (by first | exact iinc1 _ | exact iincx _ | rfl) ?_
          refine g_iinc3 100 rfl dX10_wearDown_97 rfl rfl _ (by first | exact iinc1 _ | exact iincx _ | rfl) ?_
          refine g_goto 66 dX10_wearDown_100 (by decide) ?_
          (simp only [h91, if_true, if_false] at ih; exact ih)
  · intro i hi ih f hf
    have up : ∀ v, v = zB (¬ M.1 37 i ≤ 20 * sZ x i + 10 * holdS R W x i) → ∀ c, c < i + 1 → upd f i v c = zB (¬ M.1 37 c ≤ 20 * sZ x c + 10 * holdS R W x c) := by
      intro v hv c hcc
      by_cases h3 : c < i
      · rw [upd_lt h3]; exact hf c h3
      · have h4 : c = i := by omega
        subst h4
        rw [upd_at, hv]
    refine g_iload2 3 rfl dX10_wearDown_2 ?_
    refine g_aload0 4 rfl dX10_wearDown_3 ?_
    refine g_getR 7 rfl fX10_15 (by first | rfl | exact st_o hb | exact st_1 hb | exact st_2 hb | exact st_3 hb | exact st_4 hb | exact st_5 hb | exact st_o hb2 | exact st_1 hb2 | exact st_2 hb2 | exact st_3 hb2 | exact st_4 hb2 | exact st_5 hb2) rfl dX10_wearDown_4 ?_
    refine g_getI 10 rfl fX10_79 (by first | rfl | exact st_o hb | exact st_1 hb | exact st_2 hb | exact st_3 hb | exact st_4 hb | exact st_5 hb | exact st_o hb2 | exact st_1 hb2 | exact st_2 hb2 | exact st_3 hb2 | exact st_4 hb2 | exact st_5 hb2) rfl dX10_wearDown_7 ?_
    try simp only [hN, pC_2, e37, e41, w41]
    refine g_cmpge 62 13 rfl dX10_wearDown_10 (by decide) (fun h => absurd h (nI_ge hi (by omega))) (fun h10 => ?_)
    refine g_bipush 15 rfl (v := 20) dX10_wearDown_13 (by decide) ?_
    refine g_aload1 16 rfl dX10_wearDown_15 ?_
    refine g_getR 19 rfl fX10_82 (by first | rfl | exact st_o hb | exact st_1 hb | exact st_2 hb | exact st_3 hb | exact st_4 hb | exact st_5 hb | exact st_o hb2 | exact st_1 hb2 | exact st_2 hb2 | exact st_3 hb2 | exact st_4 hb2 | exact st_5 hb2) rfl dX10_wearDown_16 ?_
    refine g_iload2 20 rfl dX10_wearDown_19 ?_
    refine g_iald 21 rfl dX10_wearDown_20 (by first | rfl | exact st_o hb | exact st_1 hb | exact st_2 hb | exact st_3 hb | exact st_4 hb | exact st_5 hb | exact st_o hb2 | exact st_1 hb2 | exact st_2 hb2 | exact st_3 hb2 | exact st_4 hb2 | exact st_5 hb2) rfl rfl (by first | assumption | omega) ?_
    try simp only [hN, pC_2, e37, e41, w41]
    refine g_imul 22 rfl dX10_wearDown_21 ?_
    refine g_bipush 24 rfl (v := 10) dX10_wearDown_22 (by decide) ?_
    refine g_aload1 25 rfl dX10_wearDown_24 ?_
    refine g_iload2 26 rfl dX10_wearDown_25 ?_
    refine g_callVi 29 1 rfl kX10_85 (by first | rfl | exact st_o hb | exact st_1 hb | exact st_2 hb | exact st_3 hb | exact st_4 hb | exact st_5 hb | exact st_o hb2 | exact st_1 hb2 | exact st_2 hb2 | exact st_3 hb2 | exact st_4 hb2 | exact st_5 hb2) dX10_wearDown_26 ⟨rfl, rfl⟩ (ok_X7_hold hb (hp2 f) hi) rfl rfl rfl ?_
    refine g_imul 30 rfl dX10_wearDown_29 ?_
    refine g_iadd 31 rfl dX10_wearDown_30 ?_
    refine g_istore3 32 rfl dX10_wearDown_31 rfl rfl ?_
    refine g_aload0 33 rfl dX10_wearDown_32 ?_
    refine g_getR 36 rfl fX10_9 (by first | rfl | exact st_o hb | exact st_1 hb | exact st_2 hb | exact st_3 hb | exact st_4 hb | exact st_5 hb | exact st_o hb2 | exact st_1 hb2 | exact st_2 hb2 | exact st_3 hb2 | exact st_4 hb2 | exact st_5 hb2) rfl dX10_wearDown_33 ?_
    refine g_iload2 37 rfl dX10_wearDown_36 ?_
    refine g_aload0 38 rfl dX10_wearDown_37 ?_
    refine g_getR 41 rfl fX10_19 (by first | rfl | exact st_o hb | exact st_1 hb | exact st_2 hb | exact st_3 hb | exact st_4 hb | exact st_5 hb | exact st_o hb2 | exact st_1 hb2 | exact st_2 hb2 | exact st_3 hb2 | exact st_4 hb2 | exact st_5 hb2) rfl dX10_wearDown_38 ?_
    refine g_getR 44 rfl fX10_89 (by first | rfl | exact st_o hb | exact st_1 hb | exact st_2 hb | exact st_3 hb | exact st_4 hb | exact st_5 hb | exact st_o hb2 | exact st_1 hb2 | exact st_2 hb2 | exact st_3 hb2 | exact st_4 hb2 | exact st_5 hb2) rfl dX10_wearDown_41 ?_
    refine g_iload2 45 rfl dX10_wearDown_44 ?_
    refine g_iald 46 rfl dX10_wearDown_45 (by first | rfl | exact st_o hb | exact st_1 hb | exact st_2 hb | exact st_3 hb | exact st_4 hb | exact st_5 hb | exact st_o hb2 | exact st_1 hb2 | exact st_2 hb2 | exact st_3 hb2 | exact st_4 hb2 | exact st_5 hb2) rfl rfl (by first | assumption | omega) ?_
    try simp only [hN, pC_2, e37, e41, w41]
    refine g_iload3 47 rfl dX10_wearDown_46 ?_
    refine g_cmple 54 50 rfl dX10_wearDown_47 (by decide) (fun h47 => ?_) (fun h47 => ?_)
    · refine g_iconst 55 rfl (v := 0) dX10_wearDown_54 (by decide) ?_
      refine g_zast 56 rfl dX10_wearDown_55 (by first | rfl | exact st_o hb | exact st_1 hb | exact st_2 hb | exact st_3 hb | exact st_4 hb | exact st_5 hb | exact st_o hb2 | exact st_1 hb2 | exact st_2 hb2 | exact st_3 hb2 | exact st_4 hb2 | exact st_5 hb2) rfl rfl (by first | assumption | omega) (by first | exact Or.inl rfl | exact Or.inr rfl | assumption) ?_
      try simp only [hN, pC_2, e37, e41, w41]
      refine g_iinc2 59 rfl dX10_wearDown_56 rfl rfl _ (by first | exact iinc1 _ | exact iincx _ | rfl) ?_
      refine g_goto 2 dX10_wearDown_59 (by decide) ?_
      (refine g_fg 3 ?_; exact ih _ (up _ (by simp [zB, h47])))
    · refine g_iconst 51 rfl (v := 1) dX10_wearDown_50 (by decide) ?_
      refine g_goto 55 dX10_wearDown_51 (by decide) ?_
      refine g_zast 56 rfl dX10_wearDown_55 (by first | rfl | exact st_o hb | exact st_1 hb | exact st_2 hb | exact st_3 hb | exact st_4 hb | exact st_5 hb | exact st_o hb2 | exact st_1 hb2 | exact st_2 hb2 | exact st_3 hb2 | exact st_4 hb2 | exact st_5 hb2) rfl rfl (by first | assumption | omega) (by first | exact Or.inl rfl | exact Or.inr rfl | assumption) ?_
      try simp only [hN, pC_2, e37, e41, w41]
      refine g_iinc2 59 rfl dX10_wearDown_56 rfl rfl _ (by first | exact iinc1 _ | exact iincx _ | rfl) ?_
      refine g_goto 2 dX10_wearDown_59 (by decide) ?_
      (refine g_fg 3 ?_; exact ih _ (up _ (by simp [zB, h47])))
def frzB (L : Nat → Int32) (fr : Int32) (i : Nat) (x : Sx) : Sx := if L i - sH x i ≤ 0 then x else freS i fr (losS i x)
theorem ok_X10_freeze {l : Launch} {M : Mm} {R W b : Nat} {x : Sx} {fr : Int32} (hb : isSt b) (hp : Plan M R W) : Ov GC l mX10_freeze [.ref 40, .ref b, .int fr] (pC M b x) (pC (setA M 39 (filS R W (sH x) (M.1 39))) b (itN (frzB (filS R W (sH x) (M.1 39)) fr) (R * W) x)) := by
  have h30 := hp.1.le
  have hp2 : ∀ f, Plan (setA M 39 f) R W := fun f => pl_set hp (by decide)
  have hN : ∀ f y, (pC (setA M 39 f) b y).1 12 4 = nI (R * W) := fun f y => (pC_plan (x := y) hb (hp2 f)).2.2.2.1
  refine ok_of (by decide +kernel) rfl rfl ?_
  refine g_mem (pC (setA M 39 (M.1 39)) b x) (by rw [sA_id]) ?_
  refine g_aload0 1 rfl dX10_freeze_0 ?_
  refine g_getR 4 rfl fX10_23 (by first | rfl | exact st_o hb | exact st_1 hb | exact st_2 hb | exact st_3 hb | exact st_4 hb | exact st_5 hb | exact st_o hb2 | exact st_1 hb2 | exact st_2 hb2 | exact st_3 hb2 | exact st_4 hb2 | exact st_5 hb2) rfl dX10_freeze_1 ?_
  refine g_aload1 5 rfl dX10_freeze_4 ?_
  refine g_callVv 8 1 rfl kX10_96 (by first | rfl | exact st_o hb | exact st_1 hb | exact st_2 hb | exact st_3 hb | exact st_4 hb | exact st_5 hb | exact st_o hb2 | exact st_1 hb2 | exact st_2 hb2 | exact st_3 hb2 | exact st_4 hb2 | exact st_5 hb2) dX10_freeze_5 ⟨rfl, rfl⟩ (ok_X9_fill hb hp) rfl rfl rfl ?_
  refine g_iconst 9 rfl (v := 0) dX10_freeze_8 (by decide) ?_
  refine g_istore3 10 rfl dX10_freeze_9 rfl rfl ?_
  generalize filS R W (sH x) (M.1 39) = L
  refine loop_up (P := fun i => Go GC l mX10_freeze 10 [.ref 40, .ref b, .int fr, .int (nI i)] [] (pC (setA M 39 L) b (itN (frzB L fr) i x)) _) (R * W) ?_ ?_ 0 (by omega)
  · refine g_iload3 11 rfl dX10_freeze_10 ?_
    refine g_aload0 12 rfl dX10_freeze_11 ?_
    refine g_getR 15 rfl fX10_15 (by first | rfl | exact st_o hb | exact st_1 hb | exact st_2 hb | exact st_3 hb | exact st_4 hb | exact st_5 hb | exact st_o hb2 | exact st_1 hb2 | exact st_2 hb2 | exact st_3 hb2 | exact st_4 hb2 | exact st_5 hb2) rfl dX10_freeze_12 ?_
    refine g_getI 18 rfl fX10_79 (by first | rfl | exact st_o hb | exact st_1 hb | exact st_2 hb | exact st_3 hb | exact st_4 hb | exact st_5 hb | exact st_o hb2 | exact st_1 hb2 | exact st_2 hb2 | exact st_3 hb2 | exact st_4 hb2 | exact st_5 hb2) rfl dX10_freeze_15 ?_
    try simp only [hN]
    refine g_cmpge 50 21 rfl dX10_freeze_18 (by decide) (fun h18 => ?_) (fun h => absurd (Int32.le_refl _) h)
    refine g_vret rfl dX10_freeze_50 ?_
    exact ⟨rfl, rfl⟩
  · intro i hi ih
    simp only [it4] at ih
    rw [frzB] at ih
    refine g_iload3 11 rfl dX10_freeze_10 ?_
    refine g_aload0 12 rfl dX10_freeze_11 ?_
    refine g_getR 15 rfl fX10_15 (by first | rfl | exact st_o hb | exact st_1 hb | exact st_2 hb | exact st_3 hb | exact st_4 hb | exact st_5 hb | exact st_o hb2 | exact st_1 hb2 | exact st_2 hb2 | exact st_3 hb2 | exact st_4 hb2 | exact st_5 hb2) rfl dX10_freeze_12 ?_
    refine g_getI 18 rfl fX10_79 (by first | rfl | exact st_o hb | exact st_1 hb | exact st_2 hb | exact st_3 hb | exact st_4 hb | exact st_5 hb | exact st_o hb2 | exact st_1 hb2 | exact st_2 hb2 | exact st_3 hb2 | exact st_4 hb2 | exact st_5 hb2) rfl dX10_freeze_15 ?_
    try simp only [hN]
    refine g_cmpge 50 21 rfl dX10_freeze_18 (by decide) (fun h => absurd h (nI_ge hi (by omega))) (fun h18 => ?_)
    refine g_aload0 22 rfl dX10_freeze_21 ?_
    refine g_getR 25 rfl fX10_23 (by first | rfl | exact st_o hb | exact st_1 hb | exact st_2 hb | exact st_3 hb | exact st_4 hb | exact st_5 hb | exact st_o hb2 | exact st_1 hb2 | exact st_2 hb2 | exact st_3 hb2 | exact st_4 hb2 | exact st_5 hb2) rfl dX10_freeze_22 ?_
    refine g_aload1 26 rfl dX10_freeze_25 ?_
    refine g_iload3 27 rfl dX10_freeze_26 ?_
    refine g_callVi 30 2 rfl kX10_101 (by first | rfl | exact st_o hb | exact st_1 hb | exact st_2 hb | exact st_3 hb | exact st_4 hb | exact st_5 hb | exact st_o hb2 | exact st_1 hb2 | exact st_2 hb2 | exact st_3 hb2 | exact st_4 hb2 | exact st_5 hb2) dX10_freeze_27 ⟨rfl, rfl⟩ (ok_X9_depth hb (by omega)) rfl rfl rfl ?_
    refine g_ifle 44 33 rfl dX10_freeze_30 (by decide) (fun h30 => ?_) (fun h30 => ?_)
    · refine g_iinc3 47 rfl dX10_freeze_44 rfl rfl _ (by first | exact iinc1 _ | exact iincx _ | rfl) ?_
      refine g_goto 10 dX10_freeze_47 (by decide) ?_
      (simp only [h30, if_true, if_false] at ih; exact ih)
    · refine g_aload1 34 rfl dX10_freeze_33 ?_
      refine g_iload3 35 rfl dX10_freeze_34 ?_
      refine g_callVv 38 1 rfl kX10_105 (by first | rfl | exact st_o hb | exact st_1 hb | exact st_2 hb | exact st_3 hb | exact st_4 hb | exact st_5 hb | exact st_o hb2 | exact st_1 hb2 | exact st_2 hb2 | exact st_3 hb2 | exact st_4 hb2 | exact st_5 hb2) dX10_freeze_35 ⟨rfl, rfl⟩ (ok_X7_loseGrit hb (hp2 L) hi) rfl rfl rfl ?_
      refine g_aload1 39 rfl dX10_freeze_38 ?_
      refine g_iload3 40 rfl dX10_freeze_39 ?_
      refine g_iload2 41 rfl dX10_freeze_40 ?_
      refine g_callVv 44 2 rfl kX10_109 (by first | rfl | exact st_o hb | exact st_1 hb | exact st_2 hb | exact st_3 hb | exact st_4 hb | exact st_5 hb | exact st_o hb2 | exact st_1 hb2 | exact st_2 hb2 | exact st_3 hb2 | exact st_4 hb2 | exact st_5 hb2) dX10_freeze_41 ⟨rfl, rfl⟩ (ok_X7_freeze hb (hp2 L) hi) rfl rfl rfl ?_
      refine g_iinc3 47 rfl dX10_freeze_44 rfl rfl _ (by first | exact iinc1 _ | exact iincx _ | rfl) ?_
      refine g_goto 10 dX10_freeze_47 (by decide) ?_
      (simp only [h30, if_true, if_false] at ih; exact ih)
noncomputable def wasB (R W : Nat) (i : Nat) (x : Sx) : Sx := if bssS x R W i = 0 then x else losS i x
theorem ok_X10_washOut {l : Launch} {M : Mm} {R W b : Nat} {x : Sx} (hb : isSt b) (hp : Plan M R W) : Ov GC l mX10_washOut [.ref 40, .ref b] (pC M b x) (pC M b (itN (wasB R W) (R * W) x)) := by
  have h30 := hp.1.le
  have hN : ∀ y, (pC M b y).1 12 4 = nI (R * W) := fun y => (pC_plan (x := y) hb hp).2.2.2.1
  refine ok_of (by decide +kernel) rfl rfl ?_
  refine g_iconst 1 rfl (v := 0) dX10_washOut_0 (by decide) ?_
  refine g_istore2 2 rfl dX10_washOut_1 rfl rfl ?_
  refine loop_up (P := fun i => Go GC l mX10_washOut 2 [.ref 40, .ref b, .int (nI i)] [] (pC M b (itN (wasB R W) i x)) _) (R * W) ?_ ?_ 0 (by omega)
  · refine g_iload2 3 rfl dX10_washOut_2 ?_
    refine g_aload0 4 rfl dX10_washOut_3 ?_
    refine g_getR 7 rfl fX10_15 (by first | rfl | exact st_o hb | exact st_1 hb | exact st_2 hb | exact st_3 hb | exact st_4 hb | exact st_5 hb | exact st_o hb2 | exact st_1 hb2 | exact st_2 hb2 | exact st_3 hb2 | exact st_4 hb2 | exact st_5 hb2) rfl dX10_washOut_4 ?_
    refine g_getI 10 rfl fX10_79 (by first | rfl | exact st_o hb | exact st_1 hb | exact st_2 hb | exact st_3 hb | exact st_4 hb | exact st_5 hb | exact st_o hb2 | exact st_1 hb2 | exact st_2 hb2 | exact st_3 hb2 | exact st_4 hb2 | exact st_5 hb2) rfl dX10_washOut_7 ?_
    try simp only [hN]
    refine g_cmpge 32 13 rfl dX10_washOut_10 (by decide) (fun h10 => ?_) (fun h => absurd (Int32.le_refl _) h)
    refine g_vret rfl dX10_washOut_32 ?_
    exact ⟨rfl, rfl⟩
  · intro i hi ih
    simp only [it4] at ih
    rw [wasB] at ih
    refine g_iload2 3 rfl dX10_washOut_2 ?_
    refine g_aload0 4 rfl dX10_washOut_3 ?_
    refine g_getR 7 rfl fX10_15 (by first | rfl | exact st_o hb | exact st_1 hb | exact st_2 hb | exact st_3 hb | exact st_4 hb | exact st_5 hb | exact st_o hb2 | exact st_1 hb2 | exact st_2 hb2 | exact st_3 hb2 | exact st_4 hb2 | exact st_5 hb2) rfl dX10_washOut_4 ?_
    refine g_getI 10 rfl fX10_79 (by first | rfl | exact st_o hb | exact st_1 hb | exact st_2 hb | exact st_3 hb | exact st_4 hb | exact st_5 hb | exact st_o hb2 | exact st_1 hb2 | exact st_2 hb2 | exact st_3 hb2 | exact st_4 hb2 | exact st_5 hb2) rfl dX10_washOut_7 ?_
    try simp only [hN]
    refine g_cmpge 32 13 rfl dX10_washOut_10 (by decide) (fun h => absurd h (nI_ge hi (by omega))) (fun h10 => ?_)
    refine g_aload1 14 rfl dX10_washOut_13 ?_
    refine g_iload2 15 rfl dX10_washOut_14 ?_
    refine g_callVi 18 1 rfl kX10_111 (by first | rfl | exact st_o hb | exact st_1 hb | exact st_2 hb | exact st_3 hb | exact st_4 hb | exact st_5 hb | exact st_o hb2 | exact st_1 hb2 | exact st_2 hb2 | exact st_3 hb2 | exact st_4 hb2 | exact st_5 hb2) dX10_washOut_15 ⟨rfl, rfl⟩ (ok_X7_isBesideSand hb hp hi) rfl rfl rfl ?_
    refine g_ifeq 26 21 rfl dX10_washOut_18 (by decide) (fun h18 => ?_) (fun h18 => ?_)
    · refine g_iinc2 29 rfl dX10_washOut_26 rfl rfl _ (by first | exact iinc1 _ | exact iincx _ | rfl) ?_
      refine g_goto 2 dX10_washOut_29 (by decide) ?_
      (simp only [h18, if_true, if_false] at ih; exact ih)
    · refine g_aload1 22 rfl dX10_washOut_21 ?_
      refine g_iload2 23 rfl dX10_washOut_22 ?_
      refine g_callVv 26 1 rfl kX10_105 (by first | rfl | exact st_o hb | exact st_1 hb | exact st_2 hb | exact st_3 hb | exact st_4 hb | exact st_5 hb | exact st_o hb2 | exact st_1 hb2 | exact st_2 hb2 | exact st_3 hb2 | exact st_4 hb2 | exact st_5 hb2) dX10_washOut_23 ⟨rfl, rfl⟩ (ok_X7_loseGrit hb hp hi) rfl rfl rfl ?_
      refine g_iinc2 29 rfl dX10_washOut_26 rfl rfl _ (by first | exact iinc1 _ | exact iincx _ | rfl) ?_
      refine g_goto 2 dX10_washOut_29 (by decide) ?_
      (simp only [h18, if_true, if_false] at ih; exact ih)
