/-! the class's Water -/
def lowS (L : Nat → Int32) (R W c : Nat) : Nat → Int32
  | 0 => L c
  | s + 1 => match nb R W c s with
    | none => lowS L R W c s
    | some k => if L k < lowS L R W c s then L k else lowS L R W c s
def falV (H L : Nat → Int32) (R W c : Nat) : Int32 := if H c < lowS L R W c 4 then lowS L R W c 4 else H c
theorem ok_X9_depth {l : Launch} {M : Mm} {b c : Nat} {x : Sx} {L : Nat → Int32} (hb : isSt b) (hc : c < 30) : Oi GC l mX9_depth [.ref 38, .ref b, .int (nI c)] (pC (setA M 39 L) b x) (L c - sH x c) (pC (setA M 39 L) b x) := by
  have e39 : ∀ L, (pC (setA M 39 L) b x).1 39 = L := fun L => by rw [pC_o (st_out hb (by decide)), sA_s]
  have w39 : ∀ L f, setA (pC (setA M 39 L) b x) 39 f = pC (setA M 39 f) b x := fun L f => by rw [set_o (st_out hb (by decide)), sA_sA]
  refine ok_of (by decide +kernel) rfl rfl ?_
  refine g_aload0 1 rfl dX9_depth_0 ?_
  refine g_getR 4 rfl fX9_9 (by first | rfl | exact st_o hb | exact st_1 hb | exact st_2 hb | exact st_3 hb | exact st_4 hb | exact st_5 hb | exact st_o hb2 | exact st_1 hb2 | exact st_2 hb2 | exact st_3 hb2 | exact st_4 hb2 | exact st_5 hb2) rfl dX9_depth_1 ?_
  refine g_iload2 5 rfl dX9_depth_4 ?_
  refine g_iald 6 rfl dX9_depth_5 (by first | rfl | exact st_o hb | exact st_1 hb | exact st_2 hb | exact st_3 hb | exact st_4 hb | exact st_5 hb | exact st_o hb2 | exact st_1 hb2 | exact st_2 hb2 | exact st_3 hb2 | exact st_4 hb2 | exact st_5 hb2) rfl rfl (by first | assumption | omega) ?_
  try simp only [pC_3, e39, w39]
  refine g_aload1 7 rfl dX9_depth_6 ?_
  refine g_getR 10 rfl fX9_29 (by first | rfl | exact st_o hb | exact st_1 hb | exact st_2 hb | exact st_3 hb | exact st_4 hb | exact st_5 hb | exact st_o hb2 | exact st_1 hb2 | exact st_2 hb2 | exact st_3 hb2 | exact st_4 hb2 | exact st_5 hb2) rfl dX9_depth_7 ?_
  refine g_iload2 11 rfl dX9_depth_10 ?_
  refine g_iald 12 rfl dX9_depth_11 (by first | rfl | exact st_o hb | exact st_1 hb | exact st_2 hb | exact st_3 hb | exact st_4 hb | exact st_5 hb | exact st_o hb2 | exact st_1 hb2 | exact st_2 hb2 | exact st_3 hb2 | exact st_4 hb2 | exact st_5 hb2) rfl rfl (by first | assumption | omega) ?_
  try simp only [pC_3, e39, w39]
  refine g_isub 13 rfl dX9_depth_12 ?_
  refine g_iret rfl dX9_depth_13 ?_
  exact ⟨rfl, rfl⟩
theorem ok_X9_fallsIn {l : Launch} {M : Mm} {R W b c : Nat} {x : Sx} {L : Nat → Int32} (hb : isSt b) (hp : Plan M R W) (hc : c < R * W) : Oi GC l mX9_fallsIn [.ref 38, .ref b, .int (nI c)] (pC (setA M 39 L) b x) (zB (falV (sH x) L R W c < L c)) (pC (setA M 39 (upd L c (falV (sH x) L R W c))) b x) := by
  have h30 := hp.1.le
  have e39 : ∀ L, (pC (setA M 39 L) b x).1 39 = L := fun L => by rw [pC_o (st_out hb (by decide)), sA_s]
  have w39 : ∀ L f, setA (pC (setA M 39 L) b x) 39 f = pC (setA M 39 f) b x := fun L f => by rw [set_o (st_out hb (by decide)), sA_sA]
  have hp2 : Plan (pC (setA M 39 L) b x) R W := pC_plan hb (pl_set hp (by decide))
  refine ok_of (by decide +kernel) rfl rfl ?_
  refine g_aload0 1 rfl dX9_fallsIn_0 ?_
  refine g_getR 4 rfl fX9_9 (by first | rfl | exact st_o hb | exact st_1 hb | exact st_2 hb | exact st_3 hb | exact st_4 hb | exact st_5 hb | exact st_o hb2 | exact st_1 hb2 | exact st_2 hb2 | exact st_3 hb2 | exact st_4 hb2 | exact st_5 hb2) rfl dX9_fallsIn_1 ?_
  refine g_iload2 5 rfl dX9_fallsIn_4 ?_
  refine g_iald 6 rfl dX9_fallsIn_5 (by first | rfl | exact st_o hb | exact st_1 hb | exact st_2 hb | exact st_3 hb | exact st_4 hb | exact st_5 hb | exact st_o hb2 | exact st_1 hb2 | exact st_2 hb2 | exact st_3 hb2 | exact st_4 hb2 | exact st_5 hb2) rfl rfl (by first | assumption | omega) ?_
  try simp only [pC_3, e39, w39]
  refine g_istore3 7 rfl dX9_fallsIn_6 rfl rfl ?_
  refine g_iconst 8 rfl (v := 0) dX9_fallsIn_7 (by decide) ?_
  refine g_istore4 10 rfl dX9_fallsIn_8 rfl rfl ?_
  refine loop_up (P := fun i => Go GC l mX9_fallsIn 10 [.ref 38, .ref b, .int (nI c), .int (lowS L R W c i), .int (nI i), .null] [] (pC (setA M 39 L) b x) _) 4 ?_ ?_ 0 (by omega)
  · refine g_iload4 12 rfl dX9_fallsIn_10 ?_
    refine g_iconst 13 rfl (v := 4) dX9_fallsIn_12 (by decide) ?_
    refine g_cmpge 52 16 rfl dX9_fallsIn_13 (by decide) (fun h13 => ?_) (fun h => absurd (by decide) h)
    refine g_aload1 53 rfl dX9_fallsIn_52 ?_
    refine g_getR 56 rfl fX9_29 (by first | rfl | exact st_o hb | exact st_1 hb | exact st_2 hb | exact st_3 hb | exact st_4 hb | exact st_5 hb | exact st_o hb2 | exact st_1 hb2 | exact st_2 hb2 | exact st_3 hb2 | exact st_4 hb2 | exact st_5 hb2) rfl dX9_fallsIn_53 ?_
    refine g_iload2 57 rfl dX9_fallsIn_56 ?_
    refine g_iald 58 rfl dX9_fallsIn_57 (by first | rfl | exact st_o hb | exact st_1 hb | exact st_2 hb | exact st_3 hb | exact st_4 hb | exact st_5 hb | exact st_o hb2 | exact st_1 hb2 | exact st_2 hb2 | exact st_3 hb2 | exact st_4 hb2 | exact st_5 hb2) rfl rfl (by first | assumption | omega) ?_
    try simp only [pC_3, e39, w39]
    refine g_iload3 59 rfl dX9_fallsIn_58 ?_
    refine g_mmax 62 rfl kX9_48 dX9_fallsIn_59 mt_max.1 mt_max.2.1 mt_max.2.2 ⟨rfl, rfl⟩ rfl ?_
    refine g_istore4 64 rfl dX9_fallsIn_62 rfl rfl ?_
    refine g_iload4 66 rfl dX9_fallsIn_64 ?_
    refine g_aload0 67 rfl dX9_fallsIn_66 ?_
    refine g_getR 70 rfl fX9_9 (by first | rfl | exact st_o hb | exact st_1 hb | exact st_2 hb | exact st_3 hb | exact st_4 hb | exact st_5 hb | exact st_o hb2 | exact st_1 hb2 | exact st_2 hb2 | exact st_3 hb2 | exact st_4 hb2 | exact st_5 hb2) rfl dX9_fallsIn_67 ?_
    refine g_iload2 71 rfl dX9_fallsIn_70 ?_
    refine g_iald 72 rfl dX9_fallsIn_71 (by first | rfl | exact st_o hb | exact st_1 hb | exact st_2 hb | exact st_3 hb | exact st_4 hb | exact st_5 hb | exact st_o hb2 | exact st_1 hb2 | exact st_2 hb2 | exact st_3 hb2 | exact st_4 hb2 | exact st_5 hb2) rfl rfl (by first | assumption | omega) ?_
    try simp only [pC_3, e39, w39]
    refine g_cmpge 79 75 rfl dX9_fallsIn_72 (by decide) (fun h72 => ?_) (fun h72 => ?_)
    · refine g_iconst 80 rfl (v := 0) dX9_fallsIn_79 (by decide) ?_
      refine g_istore5 82 rfl dX9_fallsIn_80 rfl rfl ?_
      refine g_aload0 83 rfl dX9_fallsIn_82 ?_
      refine g_getR 86 rfl fX9_9 (by first | rfl | exact st_o hb | exact st_1 hb | exact st_2 hb | exact st_3 hb | exact st_4 hb | exact st_5 hb | exact st_o hb2 | exact st_1 hb2 | exact st_2 hb2 | exact st_3 hb2 | exact st_4 hb2 | exact st_5 hb2) rfl dX9_fallsIn_83 ?_
      refine g_iload2 87 rfl dX9_fallsIn_86 ?_
      refine g_iload4 89 rfl dX9_fallsIn_87 ?_
      refine g_iast 90 rfl dX9_fallsIn_89 (by first | rfl | exact st_o hb | exact st_1 hb | exact st_2 hb | exact st_3 hb | exact st_4 hb | exact st_5 hb | exact st_o hb2 | exact st_1 hb2 | exact st_2 hb2 | exact st_3 hb2 | exact st_4 hb2 | exact st_5 hb2) rfl rfl (by first | assumption | omega) ?_
      try simp only [pC_3, e39, w39]
      refine g_iload5 92 rfl dX9_fallsIn_90 ?_
      refine g_zret rfl dX9_fallsIn_92 (by first | exact Or.inl rfl | exact Or.inr rfl | assumption) ?_
      refine ⟨?_, rfl⟩
      first | rw [falV, zB_t (Int32.not_le.mp h72)] | rw [falV, zB_f (Int32.not_lt.mpr h72)]
    · refine g_iconst 76 rfl (v := 1) dX9_fallsIn_75 (by decide) ?_
      refine g_goto 80 dX9_fallsIn_76 (by decide) ?_
      refine g_istore5 82 rfl dX9_fallsIn_80 rfl rfl ?_
      refine g_aload0 83 rfl dX9_fallsIn_82 ?_
      refine g_getR 86 rfl fX9_9 (by first | rfl | exact st_o hb | exact st_1 hb | exact st_2 hb | exact st_3 hb | exact st_4 hb | exact st_5 hb | exact st_o hb2 | exact st_1 hb2 | exact st_2 hb2 | exact st_3 hb2 | exact st_4 hb2 | exact st_5 hb2) rfl dX9_fallsIn_83 ?_
      refine g_iload2 87 rfl dX9_fallsIn_86 ?_
      refine g_iload4 89 rfl dX9_fallsIn_87 ?_
      refine g_iast 90 rfl dX9_fallsIn_89 (by first | rfl | exact st_o hb | exact st_1 hb | exact st_2 hb | exact st_3 hb | exact st_4 hb | exact st_5 hb | exact st_o hb2 | exact st_1 hb2 | exact st_2 hb2 | exact st_3 hb2 | exact st_4 hb2 | exact st_5 hb2) rfl rfl (by first | assumption | omega) ?_
      try simp only [pC_3, e39, w39]
      refine g_iload5 92 rfl dX9_fallsIn_90 ?_
      refine g_zret rfl dX9_fallsIn_92 (by first | exact Or.inl rfl | exact Or.inr rfl | assumption) ?_
      refine ⟨?_, rfl⟩
      first | rw [falV, zB_t (Int32.not_le.mp h72)] | rw [falV, zB_f (Int32.not_lt.mpr h72)]
  · intro i hi ih
    refine g_iload4 12 rfl dX9_fallsIn_10 ?_
    refine g_iconst 13 rfl (v := 4) dX9_fallsIn_12 (by decide) ?_
    refine g_cmpge 52 16 rfl dX9_fallsIn_13 (by decide) (fun h => absurd h (nI_ge hi (by decide))) (fun _ => ?_)
    refine g_aload0 17 rfl dX9_fallsIn_16 ?_
    refine g_getR 20 rfl fX9_15 (by first | rfl | exact st_o hb | exact st_1 hb | exact st_2 hb | exact st_3 hb | exact st_4 hb | exact st_5 hb | exact st_o hb2 | exact st_1 hb2 | exact st_2 hb2 | exact st_3 hb2 | exact st_4 hb2 | exact st_5 hb2) rfl dX9_fallsIn_17 ?_
    refine g_iload2 21 rfl dX9_fallsIn_20 ?_
    refine g_iload4 23 rfl dX9_fallsIn_21 ?_
    refine g_callVi 26 2 rfl kX9_39 (by first | rfl | exact st_o hb | exact st_1 hb | exact st_2 hb | exact st_3 hb | exact st_4 hb | exact st_5 hb | exact st_o hb2 | exact st_1 hb2 | exact st_2 hb2 | exact st_3 hb2 | exact st_4 hb2 | exact st_5 hb2) dX9_fallsIn_23 ⟨rfl, rfl⟩ (ok_X4_beside hp2 hc hi) rfl rfl rfl ?_
    refine g_istore5 28 rfl dX9_fallsIn_26 rfl rfl ?_
    refine g_iload5 30 rfl dX9_fallsIn_28 ?_
    cases hk : nb R W c i with
    | none =>
      simp only [lowS, hk] at ih
      refine g_iconst 31 rfl (v := (-1)) dX9_fallsIn_30 (by decide) ?_
      refine g_cmpeq 46 34 rfl dX9_fallsIn_31 (by decide) (fun _ => ?_) (fun h => absurd rfl h)
      refine g_iinc4 49 rfl dX9_fallsIn_46 rfl rfl _ (by first | exact iinc1 _ | exact iincx _ | rfl) ?_
      refine g_goto 10 dX9_fallsIn_49 (by decide) ?_
      refine g_fg 5 ?_
      exact ih
    | some k =>
      have hk2 := nb_lt hc hk
      simp only [lowS, hk] at ih
      refine g_iconst 31 rfl (v := (-1)) dX9_fallsIn_30 (by decide) ?_
      refine g_cmpeq 46 34 rfl dX9_fallsIn_31 (by decide) (fun h => absurd h (nI_ne_m1 (by omega))) (fun _ => ?_)
      refine g_iload3 35 rfl dX9_fallsIn_34 ?_
      refine g_aload0 36 rfl dX9_fallsIn_35 ?_
      refine g_getR 39 rfl fX9_9 (by first | rfl | exact st_o hb | exact st_1 hb | exact st_2 hb | exact st_3 hb | exact st_4 hb | exact st_5 hb | exact st_o hb2 | exact st_1 hb2 | exact st_2 hb2 | exact st_3 hb2 | exact st_4 hb2 | exact st_5 hb2) rfl dX9_fallsIn_36 ?_
      refine g_iload5 41 rfl dX9_fallsIn_39 ?_
      refine g_iald 42 rfl dX9_fallsIn_41 (by first | rfl | exact st_o hb | exact st_1 hb | exact st_2 hb | exact st_3 hb | exact st_4 hb | exact st_5 hb | exact st_o hb2 | exact st_1 hb2 | exact st_2 hb2 | exact st_3 hb2 | exact st_4 hb2 | exact st_5 hb2) rfl rfl (by first | assumption | omega) ?_
      try simp only [pC_3, e39, w39]
      refine g_mmin 45 rfl kX9_43 dX9_fallsIn_42 mt_min.1 mt_min.2.1 mt_min.2.2 ⟨rfl, rfl⟩ rfl ?_
      refine g_istore3 46 rfl dX9_fallsIn_45 rfl rfl ?_
      refine g_iinc4 49 rfl dX9_fallsIn_46 rfl rfl _ (by first | exact iinc1 _ | exact iincx _ | rfl) ?_
      refine g_goto 10 dX9_fallsIn_49 (by decide) ?_
      refine g_fg 5 ?_
      exact ih
noncomputable def lv0S (R W : Nat) (H : Nat → Int32) (i : Nat) (L : Nat → Int32) : Nat → Int32 := upd L i (@ite _ (rim R W i) (Classical.propDecidable _) (H i) 2147483647)
noncomputable def swpB (R W : Nat) (H : Nat → Int32) (c : Nat) (p : Int32 × (Nat → Int32)) : Int32 × (Nat → Int32) := @ite _ (rim R W c) (Classical.propDecidable _) p (if falV H p.2 R W c < p.2 c then 1 else p.1, upd p.2 c (falV H p.2 R W c))
noncomputable def swpS (R W : Nat) (H : Nat → Int32) (L : Nat → Int32) : Int32 × (Nat → Int32) := itN (swpB R W H) (R * W) (0, L)
noncomputable def filF (R W : Nat) (H : Nat → Int32) : Nat → (Nat → Int32) → Nat → Int32
  | 0, L => L
  | d + 1, L => if (swpS R W H L).1 = 0 then (swpS R W H L).2 else filF R W H d (swpS R W H L).2
noncomputable def filS (R W : Nat) (H : Nat → Int32) (L : Nat → Int32) : Nat → Int32 := filF R W H 30 (itN (lv0S R W H) (R * W) L)
theorem swp_or {R W : Nat} {H : Nat → Int32} {L : Nat → Int32} : ∀ i, (itN (swpB R W H) i (0, L)).1 = 0 ∨ (itN (swpB R W H) i (0, L)).1 = 1
  | 0 => Or.inl rfl
  | i + 1 => by
    simp only [itN, swpB]
    split
    · exact swp_or i
    · dsimp only
      split
      · exact Or.inr rfl
      · exact swp_or i
theorem ok_X9_fill {l : Launch} {M : Mm} {R W b : Nat} {x : Sx} {L : Nat → Int32} (hb : isSt b) (hp : Plan M R W) : Ov GC l mX9_fill [.ref 38, .ref b] (pC (setA M 39 L) b x) (pC (setA M 39 (filS R W (sH x) L)) b x) := by
  have h30 := hp.1.le
  have e39 : ∀ L, (pC (setA M 39 L) b x).1 39 = L := fun L => by rw [pC_o (st_out hb (by decide)), sA_s]
  have w39 : ∀ L f, setA (pC (setA M 39 L) b x) 39 f = pC (setA M 39 f) b x := fun L f => by rw [set_o (st_out hb (by decide)), sA_sA]
  have hp2 : ∀ L, Plan (pC (setA M 39 L) b x) R W := fun L => pC_plan hb (pl_set hp (by decide))
  have hN : ∀ L, (pC (setA M 39 L) b x).1 12 4 = nI (R * W) := fun L => (hp2 L).2.2.2.1
  have hR : ∀ L c, c < R * W → ((pC (setA M 39 L) b x).1 14 c = 1 ∧ rim R W c) ∨ ((pC (setA M 39 L) b x).1 14 c = 0 ∧ ¬ rim R W c) := fun L => (hp2 L).2.2.2.2.2
  refine ok_of (by decide +kernel) rfl rfl ?_
  refine g_iconst 1 rfl (v := 0) dX9_fill_0 (by decide) ?_
  refine g_istore2 2 rfl dX9_fill_1 rfl rfl ?_
  refine loop_up (P := fun i => Go GC l mX9_fill 2 [.ref 38, .ref b, .int (nI i), .null, .null] [] (pC (setA M 39 (itN (lv0S R W (sH x)) i L)) b x) _) (R * W) ?_ ?_ 0 (by omega)
  · refine g_iload2 3 rfl dX9_fill_2 ?_
    refine g_aload0 4 rfl dX9_fill_3 ?_
    refine g_getR 7 rfl fX9_15 (by first | rfl | exact st_o hb | exact st_1 hb | exact st_2 hb | exact st_3 hb | exact st_4 hb | exact st_5 hb | exact st_o hb2 | exact st_1 hb2 | exact st_2 hb2 | exact st_3 hb2 | exact st_4 hb2 | exact st_5 hb2) rfl dX9_fill_4 ?_
    refine g_getI 10 rfl fX9_19 (by first | rfl | exact st_o hb | exact st_1 hb | exact st_2 hb | exact st_3 hb | exact st_4 hb | exact st_5 hb | exact st_o hb2 | exact st_1 hb2 | exact st_2 hb2 | exact st_3 hb2 | exact st_4 hb2 | exact st_5 hb2) rfl dX9_fill_7 ?_
    try simp only [hN, pC_3, e39, w39]
    refine g_cmpge 48 13 rfl dX9_fill_10 (by decide) (fun _ => ?_) (fun h => absurd (Int32.le_refl _) h)
    refine g_iconst 49 rfl (v := 1) dX9_fill_48 (by decide) ?_
    refine g_istore2 50 rfl dX9_fill_49 rfl rfl ?_
    refine g_iconst 51 rfl (v := 0) dX9_fill_50 (by decide) ?_
    refine g_istore3 52 rfl dX9_fill_51 rfl rfl ?_
    rw [filS]
    generalize itN (lv0S R W (sH x)) (R * W) L = L0
    refine loop_up (P := fun i => (∀ L1 fl, (fl = 0 ∨ fl = 1) → (if fl = 0 then L1 else filF R W (sH x) (30 - i) L1) = filF R W (sH x) 30 L0 → Go GC l mX9_fill 52 [.ref 38, .ref b, .int fl, .int (nI i), .null] [] (pC (setA M 39 L1) b x) (fun r M1 => r = none ∧ M1 = pC (setA M 39 (filF R W (sH x) 30 L0)) b x))) 30 ?_ ?_ 0 (by omega) L0 1 (Or.inr rfl) (by rw [if_neg (by decide)])
    · intro L1 fl hfl he
      have he : L1 = filF R W (sH x) 30 L0 := by rw [← he]; simp [filF]
      refine g_iload3 53 rfl dX9_fill_52 ?_
      refine g_bipush 55 rfl (v := 30) dX9_fill_53 (by decide) ?_
      refine g_cmpge 124 58 rfl dX9_fill_55 (by decide) (fun h55 => ?_) (fun h => absurd (by decide) h)
      refine g_vret rfl dX9_fill_124 ?_
      exact ⟨rfl, by rw [he]⟩
    · intro i hi ih L1 fl hfl he
      refine g_iload3 53 rfl dX9_fill_52 ?_
      refine g_bipush 55 rfl (v := 30) dX9_fill_53 (by decide) ?_
      refine g_cmpge 124 58 rfl dX9_fill_55 (by decide) (fun h => absurd h (nI_ge hi (by decide))) (fun _ => ?_)
      refine g_iload2 59 rfl dX9_fill_58 ?_
      refine g_ifeq 124 62 rfl dX9_fill_59 (by decide) (fun h59 => ?_) (fun h59 => ?_)
      · rw [if_pos h59] at he
        refine g_vret rfl dX9_fill_124 ?_
        exact ⟨rfl, by rw [he]⟩
      · rw [if_neg h59] at he
        refine g_iconst 63 rfl (v := 0) dX9_fill_62 (by decide) ?_
        refine g_istore2 64 rfl dX9_fill_63 rfl rfl ?_
        refine g_iconst 65 rfl (v := 0) dX9_fill_64 (by decide) ?_
        refine g_istore4 67 rfl dX9_fill_65 rfl rfl ?_
        refine loop_up (P := fun c => Go GC l mX9_fill 67 [.ref 38, .ref b, .int (itN (swpB R W (sH x)) c (0, L1)).1, .int (nI i), .int (nI c)] [] (pC (setA M 39 (itN (swpB R W (sH x)) c (0, L1)).2) b x) (fun r M1 => r = none ∧ M1 = pC (setA M 39 (filF R W (sH x) 30 L0)) b x)) (R * W) ?_ ?_ 0 (by omega)
        · refine g_iload4 69 rfl dX9_fill_67 ?_
          refine g_aload0 70 rfl dX9_fill_69 ?_
          refine g_getR 73 rfl fX9_15 (by first | rfl | exact st_o hb | exact st_1 hb | exact st_2 hb | exact st_3 hb | exact st_4 hb | exact st_5 hb | exact st_o hb2 | exact st_1 hb2 | exact st_2 hb2 | exact st_3 hb2 | exact st_4 hb2 | exact st_5 hb2) rfl dX9_fill_70 ?_
          refine g_getI 76 rfl fX9_19 (by first | rfl | exact st_o hb | exact st_1 hb | exact st_2 hb | exact st_3 hb | exact st_4 hb | exact st_5 hb | exact st_o hb2 | exact st_1 hb2 | exact st_2 hb2 | exact st_3 hb2 | exact st_4 hb2 | exact st_5 hb2) rfl dX9_fill_73 ?_
          try simp only [hN, pC_3, e39, w39]
          refine g_cmpge 118 79 rfl dX9_fill_76 (by decide) (fun _ => ?_) (fun h => absurd (Int32.le_refl _) h)
          refine g_iinc3 121 rfl dX9_fill_118 rfl rfl _ (by first | exact iinc1 _ | exact iincx _ | rfl) ?_
          refine g_goto 52 dX9_fill_121 (by decide) ?_
          refine g_fg 4 ?_
          refine ih _ _ (swp_or _) ?_
          have es : itN (swpB R W (sH x)) (R * W) (0, L1) = swpS R W (sH x) L1 := rfl
          rw [es, ← he, show 30 - i = 30 - (i + 1) + 1 by omega, filF]
        · intro c hc ih2
          simp only [it4] at ih2
          refine g_iload4 69 rfl dX9_fill_67 ?_
          refine g_aload0 70 rfl dX9_fill_69 ?_
          refine g_getR 73 rfl fX9_15 (by first | rfl | exact st_o hb | exact st_1 hb | exact st_2 hb | exact st_3 hb | exact st_4 hb | exact st_5 hb | exact st_o hb2 | exact st_1 hb2 | exact st_2 hb2 | exact st_3 hb2 | exact st_4 hb2 | exact st_5 hb2) rfl dX9_fill_70 ?_
          refine g_getI 76 rfl fX9_19 (by first | rfl | exact st_o hb | exact st_1 hb | exact st_2 hb | exact st_3 hb | exact st_4 hb | exact st_5 hb | exact st_o hb2 | exact st_1 hb2 | exact st_2 hb2 | exact st_3 hb2 | exact st_4 hb2 | exact st_5 hb2) rfl dX9_fill_73 ?_
          try simp only [hN, pC_3, e39, w39]
          refine g_cmpge 118 79 rfl dX9_fill_76 (by decide) (fun h => absurd h (nI_ge hc (by omega))) (fun _ => ?_)
          refine g_aload0 80 rfl dX9_fill_79 ?_
          refine g_getR 83 rfl fX9_15 (by first | rfl | exact st_o hb | exact st_1 hb | exact st_2 hb | exact st_3 hb | exact st_4 hb | exact st_5 hb | exact st_o hb2 | exact st_1 hb2 | exact st_2 hb2 | exact st_3 hb2 | exact st_4 hb2 | exact st_5 hb2) rfl dX9_fill_80 ?_
          refine g_getR 86 rfl fX9_25 (by first | rfl | exact st_o hb | exact st_1 hb | exact st_2 hb | exact st_3 hb | exact st_4 hb | exact st_5 hb | exact st_o hb2 | exact st_1 hb2 | exact st_2 hb2 | exact st_3 hb2 | exact st_4 hb2 | exact st_5 hb2) rfl dX9_fill_83 ?_
          refine g_iload4 88 rfl dX9_fill_86 ?_
          refine g_zald 89 rfl dX9_fill_88 (by first | rfl | exact st_o hb | exact st_1 hb | exact st_2 hb | exact st_3 hb | exact st_4 hb | exact st_5 hb | exact st_o hb2 | exact st_1 hb2 | exact st_2 hb2 | exact st_3 hb2 | exact st_4 hb2 | exact st_5 hb2) rfl rfl (by first | assumption | omega) ?_
          try simp only [hN, pC_3, e39, w39]
          rcases hR (itN (swpB R W (sH x)) c (0, L1)).2 c hc with ⟨e, hr⟩ | ⟨e, hr⟩
          · rw [e]
            simp only [swpB, hr, if_true] at ih2
            refine g_ifne 102 92 rfl dX9_fill_89 (by decide) (fun h89 => ?_) (fun h => absurd h (by decide))
            refine g_iload2 103 rfl dX9_fill_102 ?_
            refine g_ifeq 110 106 rfl dX9_fill_103 (by decide) (fun h103 => ?_) (fun h103 => ?_)
            · refine g_iconst 111 rfl (v := 0) dX9_fill_110 (by decide) ?_
              refine g_istore2 112 rfl dX9_fill_111 rfl rfl ?_
              refine g_iinc4 115 rfl dX9_fill_112 rfl rfl _ (by first | exact iinc1 _ | exact iincx _ | rfl) ?_
              refine g_goto 67 dX9_fill_115 (by decide) ?_
              (first | (rw [h103] at ih2; exact ih2) | (rw [(swp_or c).resolve_left h103] at ih2; exact ih2))
            · refine g_iconst 107 rfl (v := 1) dX9_fill_106 (by decide) ?_
              refine g_goto 111 dX9_fill_107 (by decide) ?_
              refine g_istore2 112 rfl dX9_fill_111 rfl rfl ?_
              refine g_iinc4 115 rfl dX9_fill_112 rfl rfl _ (by first | exact iinc1 _ | exact iincx _ | rfl) ?_
              refine g_goto 67 dX9_fill_115 (by decide) ?_
              (first | (rw [h103] at ih2; exact ih2) | (rw [(swp_or c).resolve_left h103] at ih2; exact ih2))
          · rw [e]
            simp only [swpB, hr, if_false] at ih2
            refine g_ifne 102 92 rfl dX9_fill_89 (by decide) (fun h => absurd rfl h) (fun _ => ?_)
            refine g_aload0 93 rfl dX9_fill_92 ?_
            refine g_aload1 94 rfl dX9_fill_93 ?_
            refine g_iload4 96 rfl dX9_fill_94 ?_
            refine g_callVi 99 2 rfl kX9_35 (by first | rfl | exact st_o hb | exact st_1 hb | exact st_2 hb | exact st_3 hb | exact st_4 hb | exact st_5 hb | exact st_o hb2 | exact st_1 hb2 | exact st_2 hb2 | exact st_3 hb2 | exact st_4 hb2 | exact st_5 hb2) dX9_fill_96 ⟨rfl, rfl⟩ (ok_X9_fallsIn hb hp hc) rfl rfl rfl ?_
            refine g_ifne 106 102 rfl dX9_fill_99 (by decide) (fun h99 => ?_) (fun h99 => ?_)
            · have h9 : falV (sH x) (itN (swpB R W (sH x)) c (0, L1)).2 R W c < (itN (swpB R W (sH x)) c (0, L1)).2 c := Decidable.not_not.mp (fun z => h99 (zB_f z))
              rw [if_pos h9] at ih2
              refine g_iconst 107 rfl (v := 1) dX9_fill_106 (by decide) ?_
              refine g_goto 111 dX9_fill_107 (by decide) ?_
              refine g_istore2 112 rfl dX9_fill_111 rfl rfl ?_
              refine g_iinc4 115 rfl dX9_fill_112 rfl rfl _ (by first | exact iinc1 _ | exact iincx _ | rfl) ?_
              refine g_goto 67 dX9_fill_115 (by decide) ?_
              exact ih2
            · have h9 := zB_1.mp h99
              rw [if_neg h9] at ih2
              refine g_iload2 103 rfl dX9_fill_102 ?_
              refine g_ifeq 110 106 rfl dX9_fill_103 (by decide) (fun h103 => ?_) (fun h103 => ?_)
              · refine g_iconst 111 rfl (v := 0) dX9_fill_110 (by decide) ?_
                refine g_istore2 112 rfl dX9_fill_111 rfl rfl ?_
                refine g_iinc4 115 rfl dX9_fill_112 rfl rfl _ (by first | exact iinc1 _ | exact iincx _ | rfl) ?_
                refine g_goto 67 dX9_fill_115 (by decide) ?_
                (first | (rw [h103] at ih2; exact ih2) | (rw [(swp_or c).resolve_left h103] at ih2; exact ih2))
              · refine g_iconst 107 rfl (v := 1) dX9_fill_106 (by decide) ?_
                refine g_goto 111 dX9_fill_107 (by decide) ?_
                refine g_istore2 112 rfl dX9_fill_111 rfl rfl ?_
                refine g_iinc4 115 rfl dX9_fill_112 rfl rfl _ (by first | exact iinc1 _ | exact iincx _ | rfl) ?_
                refine g_goto 67 dX9_fill_115 (by decide) ?_
                (first | (rw [h103] at ih2; exact ih2) | (rw [(swp_or c).resolve_left h103] at ih2; exact ih2))
  · intro i hi ih
    simp only [it4] at ih
    refine g_iload2 3 rfl dX9_fill_2 ?_
    refine g_aload0 4 rfl dX9_fill_3 ?_
    refine g_getR 7 rfl fX9_15 (by first | rfl | exact st_o hb | exact st_1 hb | exact st_2 hb | exact st_3 hb | exact st_4 hb | exact st_5 hb | exact st_o hb2 | exact st_1 hb2 | exact st_2 hb2 | exact st_3 hb2 | exact st_4 hb2 | exact st_5 hb2) rfl dX9_fill_4 ?_
    refine g_getI 10 rfl fX9_19 (by first | rfl | exact st_o hb | exact st_1 hb | exact st_2 hb | exact st_3 hb | exact st_4 hb | exact st_5 hb | exact st_o hb2 | exact st_1 hb2 | exact st_2 hb2 | exact st_3 hb2 | exact st_4 hb2 | exact st_5 hb2) rfl dX9_fill_7 ?_
    try simp only [hN, pC_3, e39, w39]
    refine g_cmpge 48 13 rfl dX9_fill_10 (by decide) (fun h => absurd h (nI_ge hi (by omega))) (fun _ => ?_)
    refine g_aload0 14 rfl dX9_fill_13 ?_
    refine g_getR 17 rfl fX9_9 (by first | rfl | exact st_o hb | exact st_1 hb | exact st_2 hb | exact st_3 hb | exact st_4 hb | exact st_5 hb | exact st_o hb2 | exact st_1 hb2 | exact st_2 hb2 | exact st_3 hb2 | exact st_4 hb2 | exact st_5 hb2) rfl dX9_fill_14 ?_
    refine g_iload2 18 rfl dX9_fill_17 ?_
    refine g_aload0 19 rfl dX9_fill_18 ?_
    refine g_getR 22 rfl fX9_15 (by first | rfl | exact st_o hb | exact st_1 hb | exact st_2 hb | exact st_3 hb | exact st_4 hb | exact st_5 hb | exact st_o hb2 | exact st_1 hb2 | exact st_2 hb2 | exact st_3 hb2 | exact st_4 hb2 | exact st_5 hb2) rfl dX9_fill_19 ?_
    refine g_getR 25 rfl fX9_25 (by first | rfl | exact st_o hb | exact st_1 hb | exact st_2 hb | exact st_3 hb | exact st_4 hb | exact st_5 hb | exact st_o hb2 | exact st_1 hb2 | exact st_2 hb2 | exact st_3 hb2 | exact st_4 hb2 | exact st_5 hb2) rfl dX9_fill_22 ?_
    refine g_iload2 26 rfl dX9_fill_25 ?_
    refine g_zald 27 rfl dX9_fill_26 (by first | rfl | exact st_o hb | exact st_1 hb | exact st_2 hb | exact st_3 hb | exact st_4 hb | exact st_5 hb | exact st_o hb2 | exact st_1 hb2 | exact st_2 hb2 | exact st_3 hb2 | exact st_4 hb2 | exact st_5 hb2) rfl rfl (by first | assumption | omega) ?_
    try simp only [hN, pC_3, e39, w39]
    rcases hR (itN (lv0S R W (sH x)) i L) i hi with ⟨e, hr⟩ | ⟨e, hr⟩
    · rw [e]
      simp only [lv0S, hr, if_true] at ih
      refine g_ifeq 39 30 rfl dX9_fill_27 (by decide) (fun h => absurd h (by decide)) (fun h27 => ?_)
      refine g_aload1 31 rfl dX9_fill_30 ?_
      refine g_getR 34 rfl fX9_29 (by first | rfl | exact st_o hb | exact st_1 hb | exact st_2 hb | exact st_3 hb | exact st_4 hb | exact st_5 hb | exact st_o hb2 | exact st_1 hb2 | exact st_2 hb2 | exact st_3 hb2 | exact st_4 hb2 | exact st_5 hb2) rfl dX9_fill_31 ?_
      refine g_iload2 35 rfl dX9_fill_34 ?_
      refine g_iald 36 rfl dX9_fill_35 (by first | rfl | exact st_o hb | exact st_1 hb | exact st_2 hb | exact st_3 hb | exact st_4 hb | exact st_5 hb | exact st_o hb2 | exact st_1 hb2 | exact st_2 hb2 | exact st_3 hb2 | exact st_4 hb2 | exact st_5 hb2) rfl rfl (by first | assumption | omega) ?_
      try simp only [hN, pC_3, e39, w39]
      refine g_goto 41 dX9_fill_36 (by decide) ?_
      refine g_iast 42 rfl dX9_fill_41 (by first | rfl | exact st_o hb | exact st_1 hb | exact st_2 hb | exact st_3 hb | exact st_4 hb | exact st_5 hb | exact st_o hb2 | exact st_1 hb2 | exact st_2 hb2 | exact st_3 hb2 | exact st_4 hb2 | exact st_5 hb2) rfl rfl (by first | assumption | omega) ?_
      try simp only [hN, pC_3, e39, w39]
      refine g_iinc2 45 rfl dX9_fill_42 rfl rfl _ (by first | exact iinc1 _ | exact iincx _ | rfl) ?_
      refine g_goto 2 dX9_fill_45 (by decide) ?_
      exact ih
    · rw [e]
      simp only [lv0S, hr, if_false] at ih
      refine g_ifeq 39 30 rfl dX9_fill_27 (by decide) (fun h27 => ?_) (fun h => absurd rfl h)
      refine g_ldc 41 rfl dX9_fill_39 cX9_34 ?_
      refine g_iast 42 rfl dX9_fill_41 (by first | rfl | exact st_o hb | exact st_1 hb | exact st_2 hb | exact st_3 hb | exact st_4 hb | exact st_5 hb | exact st_o hb2 | exact st_1 hb2 | exact st_2 hb2 | exact st_3 hb2 | exact st_4 hb2 | exact st_5 hb2) rfl rfl (by first | assumption | omega) ?_
      try simp only [hN, pC_3, e39, w39]
      refine g_iinc2 45 rfl dX9_fill_42 rfl rfl _ (by first | exact iinc1 _ | exact iincx _ | rfl) ?_
      refine g_goto 2 dX9_fill_45 (by decide) ?_
      exact ih
