/-! the class's Loads -/
theorem it4 {α : Type} (f : Nat → α → α) (i : Nat) (x : α) : itN f (i + 1) x = f i (itN f i x) := rfl
def gpI (k : Int32) : Int32 := if k = -1 then -1 else gripK k
def pasB (g : Nat → Int32) (R W c : Nat) (fi ld : Int32) (s : Nat) (p : Int32 × (Nat → Int32)) : Int32 × (Nat → Int32) := match nb R W c s with
  | none => p
  | some k => if nI k = fi then p else if g k ≤ 0 then p else (p.1 - ld * g k / 20, upd p.2 k (p.2 k + ld * g k / 20))
def pasS (g : Nat → Int32) (R W c : Nat) (fi ld : Int32) (B : Nat → Int32) : Nat → Int32 := upd (itN (pasB g R W c fi ld) 4 (ld, B)).2 c ((itN (pasB g R W c fi ld) 4 (ld, B)).2 c + (itN (pasB g R W c fi ld) 4 (ld, B)).1)
theorem ok_X2_passOn {l : Launch} {M : Mm} {R W c : Nat} {fi ld : Int32} {B : Nat → Int32} (hp : Plan M R W) (hc : c < R * W) : Ov GC l mX2_passOn [.ref 35, .int (nI c), .int ld, .int fi] (setA M 37 B) (setA M 37 (pasS (M.1 36) R W c fi ld B)) := by
  have h30 := hp.1.le
  have hg : ∀ B, (setA M 37 B).1 36 = M.1 36 := fun B => sA_n (by decide)
  refine ok_of (by decide +kernel) rfl rfl ?_
  refine g_iload2 1 rfl dX2_passOn_0 ?_
  refine g_istore4 3 rfl dX2_passOn_1 rfl rfl ?_
  refine g_iconst 4 rfl (v := 0) dX2_passOn_3 (by decide) ?_
  refine g_istore5 6 rfl dX2_passOn_4 rfl rfl ?_
  refine loop_up (P := fun i => Go GC l mX2_passOn 6 [.ref 35, .int (nI c), .int ld, .int fi, .int (itN (pasB (M.1 36) R W c fi ld) i (ld, B)).1, .int (nI i), .null, .null] [] (setA M 37 (itN (pasB (M.1 36) R W c fi ld) i (ld, B)).2) _) 4 ?_ ?_ 0 (by omega)
  · refine g_iload5 8 rfl dX2_passOn_6 ?_
    refine g_iconst 9 rfl (v := 4) dX2_passOn_8 (by decide) ?_
    refine g_cmpge 85 12 rfl dX2_passOn_9 (by decide) (fun h9 => ?_) (fun h => absurd (by decide) h)
    refine g_aload0 86 rfl dX2_passOn_85 ?_
    refine g_getR 89 rfl fX2_15 (by first | rfl | exact st_o hb | exact st_1 hb | exact st_2 hb | exact st_3 hb | exact st_4 hb | exact st_5 hb | exact st_o hb2 | exact st_1 hb2 | exact st_2 hb2 | exact st_3 hb2 | exact st_4 hb2 | exact st_5 hb2) rfl dX2_passOn_86 ?_
    refine g_iload1 90 rfl dX2_passOn_89 ?_
    refine g_dup2 91 rfl dX2_passOn_90 rfl rfl ?_
    refine g_iald 92 rfl dX2_passOn_91 (by first | rfl | exact st_o hb | exact st_1 hb | exact st_2 hb | exact st_3 hb | exact st_4 hb | exact st_5 hb | exact st_o hb2 | exact st_1 hb2 | exact st_2 hb2 | exact st_3 hb2 | exact st_4 hb2 | exact st_5 hb2) rfl rfl (by first | assumption | omega) ?_
    try simp only [hg, sA_s, sA_sA]
    refine g_iload4 94 rfl dX2_passOn_92 ?_
    refine g_iadd 95 rfl dX2_passOn_94 ?_
    refine g_iast 96 rfl dX2_passOn_95 (by first | rfl | exact st_o hb | exact st_1 hb | exact st_2 hb | exact st_3 hb | exact st_4 hb | exact st_5 hb | exact st_o hb2 | exact st_1 hb2 | exact st_2 hb2 | exact st_3 hb2 | exact st_4 hb2 | exact st_5 hb2) rfl rfl (by first | assumption | omega) ?_
    try simp only [hg, sA_s, sA_sA]
    refine g_vret rfl dX2_passOn_96 ?_
    exact ⟨rfl, rfl⟩
  · intro i hi ih
    simp only [it4] at ih
    have hp2 : Plan (setA M 37 (itN (pasB (M.1 36) R W c fi ld) i (ld, B)).2) R W := pl_set hp (by decide)
    refine g_iload5 8 rfl dX2_passOn_6 ?_
    refine g_iconst 9 rfl (v := 4) dX2_passOn_8 (by decide) ?_
    refine g_cmpge 85 12 rfl dX2_passOn_9 (by decide) (fun h => absurd h (nI_ge hi (by decide))) (fun _ => ?_)
    refine g_aload0 13 rfl dX2_passOn_12 ?_
    refine g_getR 16 rfl fX2_18 (by first | rfl | exact st_o hb | exact st_1 hb | exact st_2 hb | exact st_3 hb | exact st_4 hb | exact st_5 hb | exact st_o hb2 | exact st_1 hb2 | exact st_2 hb2 | exact st_3 hb2 | exact st_4 hb2 | exact st_5 hb2) rfl dX2_passOn_13 ?_
    refine g_iload1 17 rfl dX2_passOn_16 ?_
    refine g_iload5 19 rfl dX2_passOn_17 ?_
    refine g_callVi 22 2 rfl kX2_37 (by first | rfl | exact st_o hb | exact st_1 hb | exact st_2 hb | exact st_3 hb | exact st_4 hb | exact st_5 hb | exact st_o hb2 | exact st_1 hb2 | exact st_2 hb2 | exact st_3 hb2 | exact st_4 hb2 | exact st_5 hb2) dX2_passOn_19 ⟨rfl, rfl⟩ (ok_X4_beside hp2 hc hi) rfl rfl rfl ?_
    refine g_istore6 24 rfl dX2_passOn_22 rfl rfl ?_
    refine g_iload6 26 rfl dX2_passOn_24 ?_
    cases hk : nb R W c i with
    | none =>
      simp only [pasB, hk] at ih
      refine g_iconst 27 rfl (v := (-1)) dX2_passOn_26 (by decide) ?_
      refine g_cmpeq 79 30 rfl dX2_passOn_27 (by decide) (fun _ => ?_) (fun h => absurd rfl h)
      refine g_iinc5 82 rfl dX2_passOn_79 rfl rfl _ (by first | exact iinc1 _ | exact iincx _ | rfl) ?_
      refine g_goto 6 dX2_passOn_82 (by decide) ?_
      refine g_fg 6 ?_
      exact ih
    | some k =>
      have hk2 := nb_lt hc hk
      simp only [pasB, hk] at ih
      refine g_iconst 27 rfl (v := (-1)) dX2_passOn_26 (by decide) ?_
      refine g_cmpeq 79 30 rfl dX2_passOn_27 (by decide) (fun h => absurd h (nI_ne_m1 (by omega))) (fun _ => ?_)
      refine g_iload6 32 rfl dX2_passOn_30 ?_
      refine g_iload3 33 rfl dX2_passOn_32 ?_
      refine g_cmpeq 79 36 rfl dX2_passOn_33 (by decide) (fun h33 => ?_) (fun h33 => ?_)
      · refine g_iinc5 82 rfl dX2_passOn_79 rfl rfl _ (by first | exact iinc1 _ | exact iincx _ | rfl) ?_
        refine g_goto 6 dX2_passOn_82 (by decide) ?_
        (first | (have h33 : nI k = fi := h33; rw [if_pos h33] at ih; refine g_fg 6 ?_; refine g_fg 7 ?_; exact ih) | (have h33 : ¬ nI k = fi := h33; rw [if_neg h33, if_pos h43] at ih; refine g_fg 6 ?_; refine g_fg 7 ?_; exact ih) | (have h33 : ¬ nI k = fi := h33; rw [if_neg h33, if_neg h43] at ih; refine g_fg 6 ?_; refine g_fg 7 ?_; exact ih))
      · refine g_aload0 37 rfl dX2_passOn_36 ?_
        refine g_getR 40 rfl fX2_9 (by first | rfl | exact st_o hb | exact st_1 hb | exact st_2 hb | exact st_3 hb | exact st_4 hb | exact st_5 hb | exact st_o hb2 | exact st_1 hb2 | exact st_2 hb2 | exact st_3 hb2 | exact st_4 hb2 | exact st_5 hb2) rfl dX2_passOn_37 ?_
        refine g_iload6 42 rfl dX2_passOn_40 ?_
        refine g_iald 43 rfl dX2_passOn_42 (by first | rfl | exact st_o hb | exact st_1 hb | exact st_2 hb | exact st_3 hb | exact st_4 hb | exact st_5 hb | exact st_o hb2 | exact st_1 hb2 | exact st_2 hb2 | exact st_3 hb2 | exact st_4 hb2 | exact st_5 hb2) rfl rfl (by first | assumption | omega) ?_
        try simp only [hg, sA_s, sA_sA]
        refine g_ifle 79 46 rfl dX2_passOn_43 (by decide) (fun h43 => ?_) (fun h43 => ?_)
        · refine g_iinc5 82 rfl dX2_passOn_79 rfl rfl _ (by first | exact iinc1 _ | exact iincx _ | rfl) ?_
          refine g_goto 6 dX2_passOn_82 (by decide) ?_
          (first | (have h33 : nI k = fi := h33; rw [if_pos h33] at ih; refine g_fg 6 ?_; refine g_fg 7 ?_; exact ih) | (have h33 : ¬ nI k = fi := h33; rw [if_neg h33, if_pos h43] at ih; refine g_fg 6 ?_; refine g_fg 7 ?_; exact ih) | (have h33 : ¬ nI k = fi := h33; rw [if_neg h33, if_neg h43] at ih; refine g_fg 6 ?_; refine g_fg 7 ?_; exact ih))
        · refine g_iload2 47 rfl dX2_passOn_46 ?_
          refine g_aload0 48 rfl dX2_passOn_47 ?_
          refine g_getR 51 rfl fX2_9 (by first | rfl | exact st_o hb | exact st_1 hb | exact st_2 hb | exact st_3 hb | exact st_4 hb | exact st_5 hb | exact st_o hb2 | exact st_1 hb2 | exact st_2 hb2 | exact st_3 hb2 | exact st_4 hb2 | exact st_5 hb2) rfl dX2_passOn_48 ?_
          refine g_iload6 53 rfl dX2_passOn_51 ?_
          refine g_iald 54 rfl dX2_passOn_53 (by first | rfl | exact st_o hb | exact st_1 hb | exact st_2 hb | exact st_3 hb | exact st_4 hb | exact st_5 hb | exact st_o hb2 | exact st_1 hb2 | exact st_2 hb2 | exact st_3 hb2 | exact st_4 hb2 | exact st_5 hb2) rfl rfl (by first | assumption | omega) ?_
          try simp only [hg, sA_s, sA_sA]
          refine g_imul 55 rfl dX2_passOn_54 ?_
          refine g_bipush 57 rfl (v := 20) dX2_passOn_55 (by decide) ?_
          refine g_idiv 58 rfl dX2_passOn_57 (by decide) ?_
          refine g_istore7 60 rfl dX2_passOn_58 rfl rfl ?_
          refine g_iload4 62 rfl dX2_passOn_60 ?_
          refine g_iload7 64 rfl dX2_passOn_62 ?_
          refine g_isub 65 rfl dX2_passOn_64 ?_
          refine g_istore4 67 rfl dX2_passOn_65 rfl rfl ?_
          refine g_aload0 68 rfl dX2_passOn_67 ?_
          refine g_getR 71 rfl fX2_15 (by first | rfl | exact st_o hb | exact st_1 hb | exact st_2 hb | exact st_3 hb | exact st_4 hb | exact st_5 hb | exact st_o hb2 | exact st_1 hb2 | exact st_2 hb2 | exact st_3 hb2 | exact st_4 hb2 | exact st_5 hb2) rfl dX2_passOn_68 ?_
          refine g_iload6 73 rfl dX2_passOn_71 ?_
          refine g_dup2 74 rfl dX2_passOn_73 rfl rfl ?_
          refine g_iald 75 rfl dX2_passOn_74 (by first | rfl | exact st_o hb | exact st_1 hb | exact st_2 hb | exact st_3 hb | exact st_4 hb | exact st_5 hb | exact st_o hb2 | exact st_1 hb2 | exact st_2 hb2 | exact st_3 hb2 | exact st_4 hb2 | exact st_5 hb2) rfl rfl (by first | assumption | omega) ?_
          try simp only [hg, sA_s, sA_sA]
          refine g_iload7 77 rfl dX2_passOn_75 ?_
          refine g_iadd 78 rfl dX2_passOn_77 ?_
          refine g_iast 79 rfl dX2_passOn_78 (by first | rfl | exact st_o hb | exact st_1 hb | exact st_2 hb | exact st_3 hb | exact st_4 hb | exact st_5 hb | exact st_o hb2 | exact st_1 hb2 | exact st_2 hb2 | exact st_3 hb2 | exact st_4 hb2 | exact st_5 hb2) rfl rfl (by first | assumption | omega) ?_
          try simp only [hg, sA_s, sA_sA]
          refine g_iinc5 82 rfl dX2_passOn_79 rfl rfl _ (by first | exact iinc1 _ | exact iincx _ | rfl) ?_
          refine g_goto 6 dX2_passOn_82 (by decide) ?_
          (first | (have h33 : nI k = fi := h33; rw [if_pos h33] at ih; refine g_fg 6 ?_; refine g_fg 7 ?_; exact ih) | (have h33 : ¬ nI k = fi := h33; rw [if_neg h33, if_pos h43] at ih; refine g_fg 6 ?_; refine g_fg 7 ?_; exact ih) | (have h33 : ¬ nI k = fi := h33; rw [if_neg h33, if_neg h43] at ih; refine g_fg 6 ?_; refine g_fg 7 ?_; exact ih))
def layB (g : Nat → Int32) (R W c : Nat) (ld : Int32) (s : Nat) (p : Int32 × (Nat → Int32)) : Int32 × (Nat → Int32) := match nb R W c s with
  | none => p
  | some k => if g k ≤ 0 then p else (p.1 - ld * g k / 20, pasS g R W k (nI c) (ld * g k / 20) p.2)
def layS (g : Nat → Int32) (R W c : Nat) (ld : Int32) (B : Nat → Int32) : Nat → Int32 := if g c = -1 then B else upd (itN (layB g R W c ld) 4 (ld, B)).2 c ((itN (layB g R W c ld) 4 (ld, B)).2 c + (itN (layB g R W c ld) 4 (ld, B)).1)
theorem ok_X2_lay {l : Launch} {M : Mm} {R W c : Nat} {ld : Int32} {B : Nat → Int32} (hp : Plan M R W) (hc : c < R * W) : Ov GC l mX2_lay [.ref 35, .int (nI c), .int ld] (setA M 37 B) (setA M 37 (layS (M.1 36) R W c ld B)) := by
  have h30 := hp.1.le
  have hg : ∀ B, (setA M 37 B).1 36 = M.1 36 := fun B => sA_n (by decide)
  refine ok_of (by decide +kernel) rfl rfl ?_
  refine g_aload0 1 rfl dX2_lay_0 ?_
  refine g_getR 4 rfl fX2_9 (by first | rfl | exact st_o hb | exact st_1 hb | exact st_2 hb | exact st_3 hb | exact st_4 hb | exact st_5 hb | exact st_o hb2 | exact st_1 hb2 | exact st_2 hb2 | exact st_3 hb2 | exact st_4 hb2 | exact st_5 hb2) rfl dX2_lay_1 ?_
  refine g_iload1 5 rfl dX2_lay_4 ?_
  refine g_iald 6 rfl dX2_lay_5 (by first | rfl | exact st_o hb | exact st_1 hb | exact st_2 hb | exact st_3 hb | exact st_4 hb | exact st_5 hb | exact st_o hb2 | exact st_1 hb2 | exact st_2 hb2 | exact st_3 hb2 | exact st_4 hb2 | exact st_5 hb2) rfl rfl (by first | assumption | omega) ?_
  try simp only [hg, sA_s, sA_sA]
  refine g_iconst 7 rfl (v := (-1)) dX2_lay_6 (by decide) ?_
  refine g_cmpne 11 10 rfl dX2_lay_7 (by decide) (fun h7 => ?_) (fun h7 => ?_)
  · refine g_iload2 12 rfl dX2_lay_11 ?_
    refine g_istore3 13 rfl dX2_lay_12 rfl rfl ?_
    refine g_iconst 14 rfl (v := 0) dX2_lay_13 (by decide) ?_
    refine g_istore4 16 rfl dX2_lay_14 rfl rfl ?_
    refine loop_up (P := fun i => Go GC l mX2_lay 16 [.ref 35, .int (nI c), .int ld, .int (itN (layB (M.1 36) R W c ld) i (ld, B)).1, .int (nI i), .null, .null] [] (setA M 37 (itN (layB (M.1 36) R W c ld) i (ld, B)).2) _) 4 ?_ ?_ 0 (by omega)
    · refine g_iload4 18 rfl dX2_lay_16 ?_
      refine g_iconst 19 rfl (v := 4) dX2_lay_18 (by decide) ?_
      refine g_cmpge 84 22 rfl dX2_lay_19 (by decide) (fun h19 => ?_) (fun h => absurd (by decide) h)
      refine g_aload0 85 rfl dX2_lay_84 ?_
      refine g_getR 88 rfl fX2_15 (by first | rfl | exact st_o hb | exact st_1 hb | exact st_2 hb | exact st_3 hb | exact st_4 hb | exact st_5 hb | exact st_o hb2 | exact st_1 hb2 | exact st_2 hb2 | exact st_3 hb2 | exact st_4 hb2 | exact st_5 hb2) rfl dX2_lay_85 ?_
      refine g_iload1 89 rfl dX2_lay_88 ?_
      refine g_dup2 90 rfl dX2_lay_89 rfl rfl ?_
      refine g_iald 91 rfl dX2_lay_90 (by first | rfl | exact st_o hb | exact st_1 hb | exact st_2 hb | exact st_3 hb | exact st_4 hb | exact st_5 hb | exact st_o hb2 | exact st_1 hb2 | exact st_2 hb2 | exact st_3 hb2 | exact st_4 hb2 | exact st_5 hb2) rfl rfl (by first | assumption | omega) ?_
      try simp only [hg, sA_s, sA_sA]
      refine g_iload3 92 rfl dX2_lay_91 ?_
      refine g_iadd 93 rfl dX2_lay_92 ?_
      refine g_iast 94 rfl dX2_lay_93 (by first | rfl | exact st_o hb | exact st_1 hb | exact st_2 hb | exact st_3 hb | exact st_4 hb | exact st_5 hb | exact st_o hb2 | exact st_1 hb2 | exact st_2 hb2 | exact st_3 hb2 | exact st_4 hb2 | exact st_5 hb2) rfl rfl (by first | assumption | omega) ?_
      try simp only [hg, sA_s, sA_sA]
      refine g_vret rfl dX2_lay_94 ?_
      exact ⟨rfl, by rw [layS, if_neg h7]⟩
    · intro i hi ih
      simp only [it4] at ih
      have hp2 : Plan (setA M 37 (itN (layB (M.1 36) R W c ld) i (ld, B)).2) R W := pl_set hp (by decide)
      refine g_iload4 18 rfl dX2_lay_16 ?_
      refine g_iconst 19 rfl (v := 4) dX2_lay_18 (by decide) ?_
      refine g_cmpge 84 22 rfl dX2_lay_19 (by decide) (fun h => absurd h (nI_ge hi (by decide))) (fun _ => ?_)
      refine g_aload0 23 rfl dX2_lay_22 ?_
      refine g_getR 26 rfl fX2_18 (by first | rfl | exact st_o hb | exact st_1 hb | exact st_2 hb | exact st_3 hb | exact st_4 hb | exact st_5 hb | exact st_o hb2 | exact st_1 hb2 | exact st_2 hb2 | exact st_3 hb2 | exact st_4 hb2 | exact st_5 hb2) rfl dX2_lay_23 ?_
      refine g_iload1 27 rfl dX2_lay_26 ?_
      refine g_iload4 29 rfl dX2_lay_27 ?_
      refine g_callVi 32 2 rfl kX2_37 (by first | rfl | exact st_o hb | exact st_1 hb | exact st_2 hb | exact st_3 hb | exact st_4 hb | exact st_5 hb | exact st_o hb2 | exact st_1 hb2 | exact st_2 hb2 | exact st_3 hb2 | exact st_4 hb2 | exact st_5 hb2) dX2_lay_29 ⟨rfl, rfl⟩ (ok_X4_beside hp2 hc hi) rfl rfl rfl ?_
      refine g_istore5 34 rfl dX2_lay_32 rfl rfl ?_
      refine g_iload5 36 rfl dX2_lay_34 ?_
      cases hk : nb R W c i with
      | none =>
        simp only [layB, hk] at ih
        refine g_iconst 37 rfl (v := (-1)) dX2_lay_36 (by decide) ?_
        refine g_cmpeq 78 40 rfl dX2_lay_37 (by decide) (fun _ => ?_) (fun h => absurd rfl h)
        refine g_iinc4 81 rfl dX2_lay_78 rfl rfl _ (by first | exact iinc1 _ | exact iincx _ | rfl) ?_
        refine g_goto 16 dX2_lay_81 (by decide) ?_
        refine g_fg 5 ?_
        exact ih
      | some k =>
        have hk2 := nb_lt hc hk
        simp only [layB, hk] at ih
        refine g_iconst 37 rfl (v := (-1)) dX2_lay_36 (by decide) ?_
        refine g_cmpeq 78 40 rfl dX2_lay_37 (by decide) (fun h => absurd h (nI_ne_m1 (by omega))) (fun _ => ?_)
        refine g_aload0 41 rfl dX2_lay_40 ?_
        refine g_getR 44 rfl fX2_9 (by first | rfl | exact st_o hb | exact st_1 hb | exact st_2 hb | exact st_3 hb | exact st_4 hb | exact st_5 hb | exact st_o hb2 | exact st_1 hb2 | exact st_2 hb2 | exact st_3 hb2 | exact st_4 hb2 | exact st_5 hb2) rfl dX2_lay_41 ?_
        refine g_iload5 46 rfl dX2_lay_44 ?_
        refine g_iald 47 rfl dX2_lay_46 (by first | rfl | exact st_o hb | exact st_1 hb | exact st_2 hb | exact st_3 hb | exact st_4 hb | exact st_5 hb | exact st_o hb2 | exact st_1 hb2 | exact st_2 hb2 | exact st_3 hb2 | exact st_4 hb2 | exact st_5 hb2) rfl rfl (by first | assumption | omega) ?_
        try simp only [hg, sA_s, sA_sA]
        refine g_ifle 78 50 rfl dX2_lay_47 (by decide) (fun h47 => ?_) (fun h47 => ?_)
        · refine g_iinc4 81 rfl dX2_lay_78 rfl rfl _ (by first | exact iinc1 _ | exact iincx _ | rfl) ?_
          refine g_goto 16 dX2_lay_81 (by decide) ?_
          (first | (rw [if_pos h47] at ih; refine g_fg 5 ?_; refine g_fg 6 ?_; exact ih) | (rw [if_neg h47] at ih; refine g_fg 5 ?_; refine g_fg 6 ?_; exact ih))
        · refine g_iload2 51 rfl dX2_lay_50 ?_
          refine g_aload0 52 rfl dX2_lay_51 ?_
          refine g_getR 55 rfl fX2_9 (by first | rfl | exact st_o hb | exact st_1 hb | exact st_2 hb | exact st_3 hb | exact st_4 hb | exact st_5 hb | exact st_o hb2 | exact st_1 hb2 | exact st_2 hb2 | exact st_3 hb2 | exact st_4 hb2 | exact st_5 hb2) rfl dX2_lay_52 ?_
          refine g_iload5 57 rfl dX2_lay_55 ?_
          refine g_iald 58 rfl dX2_lay_57 (by first | rfl | exact st_o hb | exact st_1 hb | exact st_2 hb | exact st_3 hb | exact st_4 hb | exact st_5 hb | exact st_o hb2 | exact st_1 hb2 | exact st_2 hb2 | exact st_3 hb2 | exact st_4 hb2 | exact st_5 hb2) rfl rfl (by first | assumption | omega) ?_
          try simp only [hg, sA_s, sA_sA]
          refine g_imul 59 rfl dX2_lay_58 ?_
          refine g_bipush 61 rfl (v := 20) dX2_lay_59 (by decide) ?_
          refine g_idiv 62 rfl dX2_lay_61 (by decide) ?_
          refine g_istore6 64 rfl dX2_lay_62 rfl rfl ?_
          refine g_iload3 65 rfl dX2_lay_64 ?_
          refine g_iload6 67 rfl dX2_lay_65 ?_
          refine g_isub 68 rfl dX2_lay_67 ?_
          refine g_istore3 69 rfl dX2_lay_68 rfl rfl ?_
          refine g_aload0 70 rfl dX2_lay_69 ?_
          refine g_iload5 72 rfl dX2_lay_70 ?_
          refine g_iload6 74 rfl dX2_lay_72 ?_
          refine g_iload1 75 rfl dX2_lay_74 ?_
          refine g_callVv 78 3 rfl kX2_41 (by first | rfl | exact st_o hb | exact st_1 hb | exact st_2 hb | exact st_3 hb | exact st_4 hb | exact st_5 hb | exact st_o hb2 | exact st_1 hb2 | exact st_2 hb2 | exact st_3 hb2 | exact st_4 hb2 | exact st_5 hb2) dX2_lay_75 ⟨rfl, rfl⟩ (ok_X2_passOn hp hk2) rfl rfl rfl ?_
          refine g_iinc4 81 rfl dX2_lay_78 rfl rfl _ (by first | exact iinc1 _ | exact iincx _ | rfl) ?_
          refine g_goto 16 dX2_lay_81 (by decide) ?_
          (first | (rw [if_pos h47] at ih; refine g_fg 5 ?_; refine g_fg 6 ?_; exact ih) | (rw [if_neg h47] at ih; refine g_fg 5 ?_; refine g_fg 6 ?_; exact ih))
  · refine g_vret rfl dX2_lay_10 ?_
    exact ⟨rfl, by rw [layS, if_pos h7]⟩
def grtN (B : Nat → Int32) : Nat → Int32 × Int32
  | 0 => (-1, 0)
  | i + 1 => if B i ≤ (grtN B i).2 then grtN B i else (nI i, B i)
theorem ok_X2_greatest {l : Launch} {M : Mm} {R W : Nat} (hp : Plan M R W) : Oi GC l mX2_greatest [.ref 35] M (grtN (M.1 37) (R * W)).1 M := by
  have h30 := hp.1.le
  have hN : M.1 12 4 = nI (R * W) := hp.2.2.2.1
  refine ok_of (by decide +kernel) rfl rfl ?_
  refine g_iconst 1 rfl (v := (-1)) dX2_greatest_0 (by decide) ?_
  refine g_istore1 2 rfl dX2_greatest_1 rfl rfl ?_
  refine g_iconst 3 rfl (v := 0) dX2_greatest_2 (by decide) ?_
  refine g_istore2 4 rfl dX2_greatest_3 rfl rfl ?_
  refine g_iconst 5 rfl (v := 0) dX2_greatest_4 (by decide) ?_
  refine g_istore3 6 rfl dX2_greatest_5 rfl rfl ?_
  refine loop_up (P := fun i => Go GC l mX2_greatest 6 [.ref 35, .int (grtN (M.1 37) i).1, .int (grtN (M.1 37) i).2, .int (nI i)] [] M _) (R * W) ?_ ?_ 0 (by omega)
  · refine g_iload3 7 rfl dX2_greatest_6 ?_
    refine g_aload0 8 rfl dX2_greatest_7 ?_
    refine g_getR 11 rfl fX2_18 (by first | rfl | exact st_o hb | exact st_1 hb | exact st_2 hb | exact st_3 hb | exact st_4 hb | exact st_5 hb | exact st_o hb2 | exact st_1 hb2 | exact st_2 hb2 | exact st_3 hb2 | exact st_4 hb2 | exact st_5 hb2) rfl dX2_greatest_8 ?_
    refine g_getI 14 rfl fX2_22 (by first | rfl | exact st_o hb | exact st_1 hb | exact st_2 hb | exact st_3 hb | exact st_4 hb | exact st_5 hb | exact st_o hb2 | exact st_1 hb2 | exact st_2 hb2 | exact st_3 hb2 | exact st_4 hb2 | exact st_5 hb2) rfl dX2_greatest_11 ?_
    try simp only [hN]
    refine g_cmpge 42 17 rfl dX2_greatest_14 (by decide) (fun h14 => ?_) (fun h => absurd (Int32.le_refl _) h)
    refine g_iload1 43 rfl dX2_greatest_42 ?_
    refine g_iret rfl dX2_greatest_43 ?_
    exact ⟨rfl, rfl⟩
  · intro i hi ih
    refine g_iload3 7 rfl dX2_greatest_6 ?_
    refine g_aload0 8 rfl dX2_greatest_7 ?_
    refine g_getR 11 rfl fX2_18 (by first | rfl | exact st_o hb | exact st_1 hb | exact st_2 hb | exact st_3 hb | exact st_4 hb | exact st_5 hb | exact st_o hb2 | exact st_1 hb2 | exact st_2 hb2 | exact st_3 hb2 | exact st_4 hb2 | exact st_5 hb2) rfl dX2_greatest_8 ?_
    refine g_getI 14 rfl fX2_22 (by first | rfl | exact st_o hb | exact st_1 hb | exact st_2 hb | exact st_3 hb | exact st_4 hb | exact st_5 hb | exact st_o hb2 | exact st_1 hb2 | exact st_2 hb2 | exact st_3 hb2 | exact st_4 hb2 | exact st_5 hb2) rfl dX2_greatest_11 ?_
    try simp only [hN]
    refine g_cmpge 42 17 rfl dX2_greatest_14 (by decide) (fun h => absurd h (nI_ge hi (by omega))) (fun h14 => ?_)
    refine g_aload0 18 rfl dX2_greatest_17 ?_
    refine g_getR 21 rfl fX2_15 (by first | rfl | exact st_o hb | exact st_1 hb | exact st_2 hb | exact st_3 hb | exact st_4 hb | exact st_5 hb | exact st_o hb2 | exact st_1 hb2 | exact st_2 hb2 | exact st_3 hb2 | exact st_4 hb2 | exact st_5 hb2) rfl dX2_greatest_18 ?_
    refine g_iload3 22 rfl dX2_greatest_21 ?_
    refine g_iald 23 rfl dX2_greatest_22 (by first | rfl | exact st_o hb | exact st_1 hb | exact st_2 hb | exact st_3 hb | exact st_4 hb | exact st_5 hb | exact st_o hb2 | exact st_1 hb2 | exact st_2 hb2 | exact st_3 hb2 | exact st_4 hb2 | exact st_5 hb2) rfl rfl (by first | assumption | omega) ?_
    try simp only [hN]
    refine g_iload2 24 rfl dX2_greatest_23 ?_
    refine g_cmple 36 27 rfl dX2_greatest_24 (by decide) (fun h24 => ?_) (fun h24 => ?_)
    · refine g_iinc3 39 rfl dX2_greatest_36 rfl rfl _ (by first | exact iinc1 _ | exact iincx _ | rfl) ?_
      refine g_goto 6 dX2_greatest_39 (by decide) ?_
      (simp only [grtN, *, if_true, if_false] at ih; exact ih)
    · refine g_aload0 28 rfl dX2_greatest_27 ?_
      refine g_getR 31 rfl fX2_15 (by first | rfl | exact st_o hb | exact st_1 hb | exact st_2 hb | exact st_3 hb | exact st_4 hb | exact st_5 hb | exact st_o hb2 | exact st_1 hb2 | exact st_2 hb2 | exact st_3 hb2 | exact st_4 hb2 | exact st_5 hb2) rfl dX2_greatest_28 ?_
      refine g_iload3 32 rfl dX2_greatest_31 ?_
      refine g_iald 33 rfl dX2_greatest_32 (by first | rfl | exact st_o hb | exact st_1 hb | exact st_2 hb | exact st_3 hb | exact st_4 hb | exact st_5 hb | exact st_o hb2 | exact st_1 hb2 | exact st_2 hb2 | exact st_3 hb2 | exact st_4 hb2 | exact st_5 hb2) rfl rfl (by first | assumption | omega) ?_
      try simp only [hN]
      refine g_istore2 34 rfl dX2_greatest_33 rfl rfl ?_
      refine g_iload3 35 rfl dX2_greatest_34 ?_
      refine g_istore1 36 rfl dX2_greatest_35 rfl rfl ?_
      refine g_iinc3 39 rfl dX2_greatest_36 rfl rfl _ (by first | exact iinc1 _ | exact iincx _ | rfl) ?_
      refine g_goto 6 dX2_greatest_39 (by decide) ?_
      (simp only [grtN, *, if_true, if_false] at ih; exact ih)
/-- the loads begin: nothing borne, the grips of now -/
abbrev qBeg (R W b : Nat) (x : Sx) (M : Mm) : Rr → Mm → Prop := fun r M' => r = none ∧ ∃ g B, M' = pC (setA (setA M 36 g) 37 B) b x ∧ (∀ c, c < R * W → g c = gpI (sK x c)) ∧ ∀ c, c < R * W → B c = 0
theorem ok_X2_begin {l : Launch} {M : Mm} {R W b : Nat} {x : Sx} (hb : isSt b) (hp : Plan M R W) : Ok GC l mX2_begin [.ref 35, .ref b] (pC M b x) (qBeg R W b x M) := by
  have h30 := hp.1.le
  have hN : ∀ g B, (pC (setA (setA M 36 g) 37 B) b x).1 12 4 = nI (R * W) := fun g B => (pC_plan hb (pl_set (pl_set hp (by decide)) (by decide))).2.2.2.1
  have e36 : ∀ g B, (pC (setA (setA M 36 g) 37 B) b x).1 36 = g := fun g B => by rw [pC_o (st_out hb (by decide)), sA_n (by decide), sA_s]
  have e37 : ∀ g B, (pC (setA (setA M 36 g) 37 B) b x).1 37 = B := fun g B => by rw [pC_o (st_out hb (by decide)), sA_s]
  have w36 : ∀ g B f, setA (pC (setA (setA M 36 g) 37 B) b x) 36 f = pC (setA (setA M 36 f) 37 B) b x := fun g B f => by rw [set_o (st_out hb (by decide)), sA_sw (by decide), sA_sA]
  have w37 : ∀ g B f, setA (pC (setA (setA M 36 g) 37 B) b x) 37 f = pC (setA (setA M 36 g) 37 f) b x := fun g B f => by rw [set_o (st_out hb (by decide)), sA_sA]
  refine ok_of (by decide +kernel) rfl rfl ?_
  refine g_mem (pC (setA (setA M 36 (M.1 36)) 37 (M.1 37)) b x) (by rw [sA_id, sA_id]) ?_
  refine g_iconst 1 rfl (v := 0) dX2_begin_0 (by decide) ?_
  refine g_istore2 2 rfl dX2_begin_1 rfl rfl ?_
  refine loop_up (P := fun i => ∀ g B, (∀ c, c < i → g c = gpI (sK x c)) → (∀ c, c < i → B c = 0) → Go GC l mX2_begin 2 [.ref 35, .ref b, .int (nI i)] [] (pC (setA (setA M 36 g) 37 B) b x) (qBeg R W b x M)) (R * W) ?_ ?_ 0 (by omega) _ _ (fun i hi => absurd hi (by omega)) (fun i hi => absurd hi (by omega))
  · intro g B h1 h2
    refine g_iload2 3 rfl dX2_begin_2 ?_
    refine g_aload0 4 rfl dX2_begin_3 ?_
    refine g_getR 7 rfl fX2_18 (by first | rfl | exact st_o hb | exact st_1 hb | exact st_2 hb | exact st_3 hb | exact st_4 hb | exact st_5 hb | exact st_o hb2 | exact st_1 hb2 | exact st_2 hb2 | exact st_3 hb2 | exact st_4 hb2 | exact st_5 hb2) rfl dX2_begin_4 ?_
    refine g_getI 10 rfl fX2_22 (by first | rfl | exact st_o hb | exact st_1 hb | exact st_2 hb | exact st_3 hb | exact st_4 hb | exact st_5 hb | exact st_o hb2 | exact st_1 hb2 | exact st_2 hb2 | exact st_3 hb2 | exact st_4 hb2 | exact st_5 hb2) rfl dX2_begin_7 ?_
    try simp only [hN, pC_1, e36, e37, w36, w37]
    refine g_cmpge 51 13 rfl dX2_begin_10 (by decide) (fun h10 => ?_) (fun h => absurd (Int32.le_refl _) h)
    refine g_vret rfl dX2_begin_51 ?_
    exact ⟨rfl, g, B, rfl, h1, h2⟩
  · intro i hi ih g B h1 h2
    have up : ∀ (f : Nat → Int32) (F : Nat → Int32) (v : Int32), v = F i → (∀ c, c < i → f c = F c) → ∀ c, c < i + 1 → upd f i v c = F c := by
      intro f F v hv hf c hcc
      by_cases h3 : c < i
      · rw [upd_lt h3]; exact hf c h3
      · have h4 : c = i := by omega
        subst h4
        rw [upd_at, hv]
    refine g_iload2 3 rfl dX2_begin_2 ?_
    refine g_aload0 4 rfl dX2_begin_3 ?_
    refine g_getR 7 rfl fX2_18 (by first | rfl | exact st_o hb | exact st_1 hb | exact st_2 hb | exact st_3 hb | exact st_4 hb | exact st_5 hb | exact st_o hb2 | exact st_1 hb2 | exact st_2 hb2 | exact st_3 hb2 | exact st_4 hb2 | exact st_5 hb2) rfl dX2_begin_4 ?_
    refine g_getI 10 rfl fX2_22 (by first | rfl | exact st_o hb | exact st_1 hb | exact st_2 hb | exact st_3 hb | exact st_4 hb | exact st_5 hb | exact st_o hb2 | exact st_1 hb2 | exact st_2 hb2 | exact st_3 hb2 | exact st_4 hb2 | exact st_5 hb2) rfl dX2_begin_7 ?_
    try simp only [hN, pC_1, e36, e37, w36, w37]
    refine g_cmpge 51 13 rfl dX2_begin_10 (by decide) (fun h => absurd h (nI_ge hi (by omega))) (fun h10 => ?_)
    refine g_aload0 14 rfl dX2_begin_13 ?_
    refine g_getR 17 rfl fX2_15 (by first | rfl | exact st_o hb | exact st_1 hb | exact st_2 hb | exact st_3 hb | exact st_4 hb | exact st_5 hb | exact st_o hb2 | exact st_1 hb2 | exact st_2 hb2 | exact st_3 hb2 | exact st_4 hb2 | exact st_5 hb2) rfl dX2_begin_14 ?_
    refine g_iload2 18 rfl dX2_begin_17 ?_
    refine g_iconst 19 rfl (v := 0) dX2_begin_18 (by decide) ?_
    refine g_iast 20 rfl dX2_begin_19 (by first | rfl | exact st_o hb | exact st_1 hb | exact st_2 hb | exact st_3 hb | exact st_4 hb | exact st_5 hb | exact st_o hb2 | exact st_1 hb2 | exact st_2 hb2 | exact st_3 hb2 | exact st_4 hb2 | exact st_5 hb2) rfl rfl (by first | assumption | omega) ?_
    try simp only [hN, pC_1, e36, e37, w36, w37]
    refine g_aload0 21 rfl dX2_begin_20 ?_
    refine g_getR 24 rfl fX2_9 (by first | rfl | exact st_o hb | exact st_1 hb | exact st_2 hb | exact st_3 hb | exact st_4 hb | exact st_5 hb | exact st_o hb2 | exact st_1 hb2 | exact st_2 hb2 | exact st_3 hb2 | exact st_4 hb2 | exact st_5 hb2) rfl dX2_begin_21 ?_
    refine g_iload2 25 rfl dX2_begin_24 ?_
    refine g_aload1 26 rfl dX2_begin_25 ?_
    refine g_getR 29 rfl fX2_28 (by first | rfl | exact st_o hb | exact st_1 hb | exact st_2 hb | exact st_3 hb | exact st_4 hb | exact st_5 hb | exact st_o hb2 | exact st_1 hb2 | exact st_2 hb2 | exact st_3 hb2 | exact st_4 hb2 | exact st_5 hb2) rfl dX2_begin_26 ?_
    refine g_iload2 30 rfl dX2_begin_29 ?_
    refine g_iald 31 rfl dX2_begin_30 (by first | rfl | exact st_o hb | exact st_1 hb | exact st_2 hb | exact st_3 hb | exact st_4 hb | exact st_5 hb | exact st_o hb2 | exact st_1 hb2 | exact st_2 hb2 | exact st_3 hb2 | exact st_4 hb2 | exact st_5 hb2) rfl rfl (by first | assumption | omega) ?_
    try simp only [hN, pC_1, e36, e37, w36, w37]
    refine g_iconst 32 rfl (v := (-1)) dX2_begin_31 (by decide) ?_
    refine g_cmpne 39 35 rfl dX2_begin_32 (by decide) (fun h32 => ?_) (fun h32 => ?_)
    · refine g_aload1 40 rfl dX2_begin_39 ?_
      refine g_iload2 41 rfl dX2_begin_40 ?_
      refine g_callVi 44 1 rfl kX2_33 (by first | rfl | exact st_o hb | exact st_1 hb | exact st_2 hb | exact st_3 hb | exact st_4 hb | exact st_5 hb | exact st_o hb2 | exact st_1 hb2 | exact st_2 hb2 | exact st_3 hb2 | exact st_4 hb2 | exact st_5 hb2) dX2_begin_41 ⟨rfl, rfl⟩ (ok_X7_grip hb (by omega)) rfl rfl rfl ?_
      refine g_iast 45 rfl dX2_begin_44 (by first | rfl | exact st_o hb | exact st_1 hb | exact st_2 hb | exact st_3 hb | exact st_4 hb | exact st_5 hb | exact st_o hb2 | exact st_1 hb2 | exact st_2 hb2 | exact st_3 hb2 | exact st_4 hb2 | exact st_5 hb2) rfl rfl (by first | assumption | omega) ?_
      try simp only [hN, pC_1, e36, e37, w36, w37]
      refine g_iinc2 48 rfl dX2_begin_45 rfl rfl _ (by first | exact iinc1 _ | exact iincx _ | rfl) ?_
      refine g_goto 2 dX2_begin_48 (by decide) ?_
      exact ih _ _ (up g _ _ (by simp [gpI, h32]) h1) (up B (fun _ => 0) _ rfl h2)
    · refine g_iconst 36 rfl (v := (-1)) dX2_begin_35 (by decide) ?_
      refine g_goto 44 dX2_begin_36 (by decide) ?_
      refine g_iast 45 rfl dX2_begin_44 (by first | rfl | exact st_o hb | exact st_1 hb | exact st_2 hb | exact st_3 hb | exact st_4 hb | exact st_5 hb | exact st_o hb2 | exact st_1 hb2 | exact st_2 hb2 | exact st_3 hb2 | exact st_4 hb2 | exact st_5 hb2) rfl rfl (by first | assumption | omega) ?_
      try simp only [hN, pC_1, e36, e37, w36, w37]
      refine g_iinc2 48 rfl dX2_begin_45 rfl rfl _ (by first | exact iinc1 _ | exact iincx _ | rfl) ?_
      refine g_goto 2 dX2_begin_48 (by decide) ?_
      exact ih _ _ (up g _ _ (by simp [gpI, h32]) h1) (up B (fun _ => 0) _ rfl h2)
