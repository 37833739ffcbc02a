/-! the class's Years -/
/-- the carts: how many, rows, loads -/
abbrev Ct : Type := Nat × (Nat → Nat) × (Nat → Int32)
/-- carts that the class keeps at the cell d -/
def Crt (M : Mm) (d : Nat) (k : Ct) : Prop := k.1 ≤ 6 ∧ M.1 d 2 = nI k.1 ∧ ∀ i, i < k.1 → M.1 (d + 1) i = nI (k.2.1 i) ∧ M.1 (d + 2) i = k.2.2 i ∧ k.2.1 i < 10
/-- one cart's loads along its row -/
def crtB (g : Nat → Int32) (R W r : Nat) (ld : Int32) (c : Nat) (B : Nat → Int32) : Nat → Int32 := if r < R then layS g R W (r * W + c) ld B else B
def crtS (g : Nat → Int32) (R W : Nat) (k : Ct) (i : Nat) (B : Nat → Int32) : Nat → Int32 := itN (crtB g R W (k.2.1 i) (k.2.2 i)) W B
def weaS (g : Nat → Int32) (R W : Nat) (k : Ct) (B : Nat → Int32) : Nat → Int32 := itN (crtS g R W k) k.1 B
theorem rc_lt {R W r c : Nat} (hr : r < R) (hc : c < W) : r * W + c < R * W := by
  have h : (r + 1) * W ≤ R * W := Nat.mul_le_mul_right W hr
  rw [Nat.add_mul, Nat.one_mul] at h
  omega
abbrev qLay (R W b : Nat) (k : Ct) (x : Sx) (M : Mm) : Rr → Mm → Prop := fun r M' => r = none ∧ ∃ g B, M' = pC (setA (setA M 36 g) 37 (weaS g R W k B)) b x ∧ (∀ c, c < R * W → g c = gpI (sK x c)) ∧ ∀ c, c < R * W → B c = 0
theorem ok_X10_layCarts {l : Launch} {M : Mm} {R W b : Nat} {k : Ct} {x : Sx} (hb : isSt b) (hp : Plan M R W) (hk : Crt M 9 k) : Ok GC l mX10_layCarts [.ref 40, .ref b, .ref 9] (pC M b x) (qLay R W b k x M) := by
  have h30 := hp.1.le
  have hr5 : R ≤ 30 ∧ W ≤ 30 := by rcases hp.1 with ⟨rfl, rfl⟩ | ⟨h1, h2, h3, h4⟩ <;> omega
  have hk6 := hk.1
  refine ok_of (by decide +kernel) rfl rfl ?_
  refine g_aload0 1 rfl dX10_layCarts_0 ?_
  refine g_getR 4 rfl fX10_19 (by first | rfl | exact st_o hb | exact st_1 hb | exact st_2 hb | exact st_3 hb | exact st_4 hb | exact st_5 hb | exact st_o hb2 | exact st_1 hb2 | exact st_2 hb2 | exact st_3 hb2 | exact st_4 hb2 | exact st_5 hb2) rfl dX10_layCarts_1 ?_
  refine g_aload1 5 rfl dX10_layCarts_4 ?_
  refine g_callV 8 1 rfl kX10_49 (by first | rfl | exact st_o hb | exact st_1 hb | exact st_2 hb | exact st_3 hb | exact st_4 hb | exact st_5 hb | exact st_o hb2 | exact st_1 hb2 | exact st_2 hb2 | exact st_3 hb2 | exact st_4 hb2 | exact st_5 hb2) dX10_layCarts_5 ⟨rfl, rfl⟩ (ok_X2_begin hb hp) rfl rfl rfl (fun r M1 hq => ?_)
  obtain ⟨rfl, g, B, rfl, hg, hB⟩ := hq
  try simp only [rV, Option.toList, List.cons_append, List.nil_append]
  have hp2 : ∀ B, Plan (pC (setA (setA M 36 g) 37 B) b x) R W := fun B => pC_plan hb (pl_set (pl_set hp (by decide)) (by decide))
  have h3 : ∀ B, (pC (setA (setA M 36 g) 37 B) b x).1 12 3 = nI W := fun B => (hp2 B).2.2.1
  have e9 : ∀ B h, h = 9 ∨ h = 10 ∨ h = 11 → (pC (setA (setA M 36 g) 37 B) b x).1 h = M.1 h := fun B h hh => by rw [pC_o (st_out hb (by omega)), sA_n (by omega), sA_n (by omega)]
  have f9 : ∀ B, (pC (setA (setA M 36 g) 37 B) b x).1 9 2 = nI k.1 := fun B => by rw [e9 B 9 (by omega)]; exact hk.2.1
  have f10 : ∀ B i, i < k.1 → (pC (setA (setA M 36 g) 37 B) b x).1 10 i = nI (k.2.1 i) := fun B i hi => by rw [e9 B 10 (by omega)]; exact (hk.2.2 i hi).1
  have f11 : ∀ B i, i < k.1 → (pC (setA (setA M 36 g) 37 B) b x).1 11 i = k.2.2 i := fun B i hi => by rw [e9 B 11 (by omega)]; exact (hk.2.2 i hi).2.1
  have lay : ∀ B c ld, c < R * W → Ov GC l mX2_lay [.ref 35, .int (nI c), .int ld] (pC (setA (setA M 36 g) 37 B) b x) (pC (setA (setA M 36 g) 37 (layS g R W c ld B)) b x) := by
    intro B c ld hc
    have h := ok_X2_lay (l := l) (M := pC (setA M 36 g) b x) (R := R) (W := W) (c := c) (ld := ld) (B := B) (pC_plan hb (pl_set hp (by decide))) hc
    rw [set_o (st_out hb (by decide)), set_o (st_out hb (by decide)), pC_o (st_out hb (by decide)), sA_s] at h
    exact h
  refine g_iconst 9 rfl (v := 0) dX10_layCarts_8 (by decide) ?_
  refine g_istore3 10 rfl dX10_layCarts_9 rfl rfl ?_
  refine loop_up (P := fun i => Go GC l mX10_layCarts 10 [.ref 40, .ref b, .ref 9, .int (nI i), .null, .null] [] (pC (setA (setA M 36 g) 37 (itN (crtS g R W k) i B)) b x) (qLay R W b k x M)) k.1 ?_ ?_ 0 (by omega)
  · refine g_iload3 11 rfl dX10_layCarts_10 ?_
    refine g_aload2 12 rfl dX10_layCarts_11 ?_
    refine g_getI 15 rfl fX10_54 (by first | rfl | exact st_o hb | exact st_1 hb | exact st_2 hb | exact st_3 hb | exact st_4 hb | exact st_5 hb | exact st_o hb2 | exact st_1 hb2 | exact st_2 hb2 | exact st_3 hb2 | exact st_4 hb2 | exact st_5 hb2) rfl dX10_layCarts_12 ?_
    try simp only [h3, f9]
    refine g_cmpge 83 18 rfl dX10_layCarts_15 (by decide) (fun h15 => ?_) (fun h => absurd (Int32.le_refl _) h)
    refine g_vret rfl dX10_layCarts_83 ?_
    exact ⟨rfl, g, B, rfl, hg, hB⟩
  · intro i hi ih
    simp only [it4, crtS] at ih
    generalize itN (crtS g R W k) i B = B1 at ih ⊢
    have hrow := (hk.2.2 i hi).2.2
    refine g_iload3 11 rfl dX10_layCarts_10 ?_
    refine g_aload2 12 rfl dX10_layCarts_11 ?_
    refine g_getI 15 rfl fX10_54 (by first | rfl | exact st_o hb | exact st_1 hb | exact st_2 hb | exact st_3 hb | exact st_4 hb | exact st_5 hb | exact st_o hb2 | exact st_1 hb2 | exact st_2 hb2 | exact st_3 hb2 | exact st_4 hb2 | exact st_5 hb2) rfl dX10_layCarts_12 ?_
    try simp only [h3, f9]
    refine g_cmpge 83 18 rfl dX10_layCarts_15 (by decide) (fun h => absurd h (nI_ge hi (by omega))) (fun _ => ?_)
    refine g_iconst 19 rfl (v := 0) dX10_layCarts_18 (by decide) ?_
    refine g_istore4 21 rfl dX10_layCarts_19 rfl rfl ?_
    refine loop_up (P := fun c => Go GC l mX10_layCarts 21 [.ref 40, .ref b, .ref 9, .int (nI i), .int (nI c), .null] [] (pC (setA (setA M 36 g) 37 (itN (crtB g R W (k.2.1 i) (k.2.2 i)) c B1)) b x) (qLay R W b k x M)) W ?_ ?_ 0 (by omega)
    · refine g_iload4 23 rfl dX10_layCarts_21 ?_
      refine g_aload0 24 rfl dX10_layCarts_23 ?_
      refine g_getR 27 rfl fX10_15 (by first | rfl | exact st_o hb | exact st_1 hb | exact st_2 hb | exact st_3 hb | exact st_4 hb | exact st_5 hb | exact st_o hb2 | exact st_1 hb2 | exact st_2 hb2 | exact st_3 hb2 | exact st_4 hb2 | exact st_5 hb2) rfl dX10_layCarts_24 ?_
      refine g_getI 30 rfl fX10_59 (by first | rfl | exact st_o hb | exact st_1 hb | exact st_2 hb | exact st_3 hb | exact st_4 hb | exact st_5 hb | exact st_o hb2 | exact st_1 hb2 | exact st_2 hb2 | exact st_3 hb2 | exact st_4 hb2 | exact st_5 hb2) rfl dX10_layCarts_27 ?_
      try simp only [h3, f9]
      refine g_cmpge 77 33 rfl dX10_layCarts_30 (by decide) (fun _ => ?_) (fun h => absurd (Int32.le_refl _) h)
      refine g_iinc3 80 rfl dX10_layCarts_77 rfl rfl _ (by first | exact iinc1 _ | exact iincx _ | rfl) ?_
      refine g_goto 10 dX10_layCarts_80 (by decide) ?_
      refine g_fg 4 ?_
      exact ih
    · intro c hc ih2
      simp only [it4, crtB] at ih2
      generalize hB2 : itN (crtB g R W (k.2.1 i) (k.2.2 i)) c B1 = B2 at ih2 ⊢
      refine g_iload4 23 rfl dX10_layCarts_21 ?_
      refine g_aload0 24 rfl dX10_layCarts_23 ?_
      refine g_getR 27 rfl fX10_15 (by first | rfl | exact st_o hb | exact st_1 hb | exact st_2 hb | exact st_3 hb | exact st_4 hb | exact st_5 hb | exact st_o hb2 | exact st_1 hb2 | exact st_2 hb2 | exact st_3 hb2 | exact st_4 hb2 | exact st_5 hb2) rfl dX10_layCarts_24 ?_
      refine g_getI 30 rfl fX10_59 (by first | rfl | exact st_o hb | exact st_1 hb | exact st_2 hb | exact st_3 hb | exact st_4 hb | exact st_5 hb | exact st_o hb2 | exact st_1 hb2 | exact st_2 hb2 | exact st_3 hb2 | exact st_4 hb2 | exact st_5 hb2) rfl dX10_layCarts_27 ?_
      try simp only [h3, f9]
      refine g_cmpge 77 33 rfl dX10_layCarts_30 (by decide) (fun h => absurd h (nI_ge hc (by omega))) (fun _ => ?_)
      refine g_aload0 34 rfl dX10_layCarts_33 ?_
      refine g_getR 37 rfl fX10_15 (by first | rfl | exact st_o hb | exact st_1 hb | exact st_2 hb | exact st_3 hb | exact st_4 hb | exact st_5 hb | exact st_o hb2 | exact st_1 hb2 | exact st_2 hb2 | exact st_3 hb2 | exact st_4 hb2 | exact st_5 hb2) rfl dX10_layCarts_34 ?_
      refine g_aload2 38 rfl dX10_layCarts_37 ?_
      refine g_getR 41 rfl fX10_64 (by first | rfl | exact st_o hb | exact st_1 hb | exact st_2 hb | exact st_3 hb | exact st_4 hb | exact st_5 hb | exact st_o hb2 | exact st_1 hb2 | exact st_2 hb2 | exact st_3 hb2 | exact st_4 hb2 | exact st_5 hb2) rfl dX10_layCarts_38 ?_
      refine g_iload3 42 rfl dX10_layCarts_41 ?_
      refine g_iald 43 rfl dX10_layCarts_42 (by first | rfl | exact st_o hb | exact st_1 hb | exact st_2 hb | exact st_3 hb | exact st_4 hb | exact st_5 hb | exact st_o hb2 | exact st_1 hb2 | exact st_2 hb2 | exact st_3 hb2 | exact st_4 hb2 | exact st_5 hb2) rfl rfl (by first | assumption | omega) ?_
      try simp only [h3, f9]
      rw [f10 _ i hi]
      refine g_iload4 45 rfl dX10_layCarts_43 ?_
      refine g_callVi 48 2 rfl kX10_68 (by first | rfl | exact st_o hb | exact st_1 hb | exact st_2 hb | exact st_3 hb | exact st_4 hb | exact st_5 hb | exact st_o hb2 | exact st_1 hb2 | exact st_2 hb2 | exact st_3 hb2 | exact st_4 hb2 | exact st_5 hb2) dX10_layCarts_45 ⟨rfl, rfl⟩ (ok_X4_numberOf (hp2 B2).2.1 (hp2 B2).2.2.1) rfl rfl rfl ?_
      refine g_istore5 50 rfl dX10_layCarts_48 rfl rfl ?_
      refine g_iload5 52 rfl dX10_layCarts_50 ?_
      by_cases hr : k.2.1 i < R
      · have e : numO R W (nI (k.2.1 i)) (nI c) = nI (k.2.1 i * W + c) := by rw [numO, if_pos ⟨nI_pos' (by omega), nI_lt hr (by omega), nI_pos' (by omega), nI_lt hc (by omega)⟩, pk_mul, nI_add]
        have hl := rc_lt hr hc
        rw [e]
        rw [if_pos hr] at ih2
        refine g_iconst 53 rfl (v := (-1)) dX10_layCarts_52 (by decide) ?_
        refine g_cmpeq 71 56 rfl dX10_layCarts_53 (by decide) (fun h => absurd h (nI_ne_m1 (by omega))) (fun _ => ?_)
        refine g_aload0 57 rfl dX10_layCarts_56 ?_
        refine g_getR 60 rfl fX10_19 (by first | rfl | exact st_o hb | exact st_1 hb | exact st_2 hb | exact st_3 hb | exact st_4 hb | exact st_5 hb | exact st_o hb2 | exact st_1 hb2 | exact st_2 hb2 | exact st_3 hb2 | exact st_4 hb2 | exact st_5 hb2) rfl dX10_layCarts_57 ?_
        refine g_iload5 62 rfl dX10_layCarts_60 ?_
        refine g_aload2 63 rfl dX10_layCarts_62 ?_
        refine g_getR 66 rfl fX10_72 (by first | rfl | exact st_o hb | exact st_1 hb | exact st_2 hb | exact st_3 hb | exact st_4 hb | exact st_5 hb | exact st_o hb2 | exact st_1 hb2 | exact st_2 hb2 | exact st_3 hb2 | exact st_4 hb2 | exact st_5 hb2) rfl dX10_layCarts_63 ?_
        refine g_iload3 67 rfl dX10_layCarts_66 ?_
        refine g_iald 68 rfl dX10_layCarts_67 (by first | rfl | exact st_o hb | exact st_1 hb | exact st_2 hb | exact st_3 hb | exact st_4 hb | exact st_5 hb | exact st_o hb2 | exact st_1 hb2 | exact st_2 hb2 | exact st_3 hb2 | exact st_4 hb2 | exact st_5 hb2) rfl rfl (by first | assumption | omega) ?_
        try simp only [h3, f9]
        rw [f11 _ i hi]
        refine g_callVv 71 2 rfl kX10_75 (by first | rfl | exact st_o hb | exact st_1 hb | exact st_2 hb | exact st_3 hb | exact st_4 hb | exact st_5 hb | exact st_o hb2 | exact st_1 hb2 | exact st_2 hb2 | exact st_3 hb2 | exact st_4 hb2 | exact st_5 hb2) dX10_layCarts_68 ⟨rfl, rfl⟩ (lay _ _ _ hl) rfl rfl rfl ?_
        refine g_iinc4 74 rfl dX10_layCarts_71 rfl rfl _ (by first | exact iinc1 _ | exact iincx _ | rfl) ?_
        refine g_goto 21 dX10_layCarts_74 (by decide) ?_
        refine g_fg 5 ?_
        exact ih2
      · have e : numO R W (nI (k.2.1 i)) (nI c) = -1 := by rw [numO, if_neg]; intro z; exact absurd z.2.1 (nI_nlt (by omega) (by omega))
        rw [e]
        rw [if_neg hr] at ih2
        refine g_iconst 53 rfl (v := (-1)) dX10_layCarts_52 (by decide) ?_
        refine g_cmpeq 71 56 rfl dX10_layCarts_53 (by decide) (fun _ => ?_) (fun h => absurd rfl h)
        refine g_iinc4 74 rfl dX10_layCarts_71 rfl rfl _ (by first | exact iinc1 _ | exact iincx _ | rfl) ?_
        refine g_goto 21 dX10_layCarts_74 (by decide) ?_
        refine g_fg 5 ?_
        exact ih2
