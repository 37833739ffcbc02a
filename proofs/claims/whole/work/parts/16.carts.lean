/-! the class's CartText -/
def CT3 (M : Mm) (f a b : Nat → Int32) : Mm := setA (setA (setA M 6 f) 7 a) 8 b
theorem ct3_6 {M : Mm} {f k z : Nat → Int32} : (CT3 M f k z).1 6 = f := by unfold CT3; rw [sA_n (by decide), sA_n (by decide), sA_s]
theorem ct3_7 {M : Mm} {f k z : Nat → Int32} : (CT3 M f k z).1 7 = k := by unfold CT3; rw [sA_n (by decide), sA_s]
theorem ct3_8 {M : Mm} {f k z : Nat → Int32} : (CT3 M f k z).1 8 = z := by unfold CT3; rw [sA_s]
theorem ct3_n {M : Mm} {f k z : Nat → Int32} {h : Nat} (h3 : h ≠ 6) (h4 : h ≠ 7) (h5 : h ≠ 8) : (CT3 M f k z).1 h = M.1 h := by unfold CT3; rw [sA_n h5, sA_n h4, sA_n h3]
theorem ct3_w6 {M : Mm} {f k z e : Nat → Int32} : setA (CT3 M f k z) 6 e = CT3 M e k z := by unfold CT3; rw [sA_sw (by decide), sA_sw (h' := 6) (h := 7) (by decide), sA_sA]
theorem ct3_w7 {M : Mm} {f k z e : Nat → Int32} : setA (CT3 M f k z) 7 e = CT3 M f e z := by unfold CT3; rw [sA_sw (by decide), sA_sA]
theorem ct3_w8 {M : Mm} {f k z e : Nat → Int32} : setA (CT3 M f k z) 8 e = CT3 M f k e := by unfold CT3; rw [sA_sA]
theorem ct3_id {M : Mm} : CT3 M (M.1 6) (M.1 7) (M.1 8) = M := by unfold CT3; rw [sA_id, sA_id, sA_id]
/-- a text being read as carts: how many, what is due (0 row, 1 x, 2 load, 3 digit or end, 4 end), rows, loads -/
abbrev Cs : Type := Nat × Nat × (Nat → Int32) × (Nat → Int32)
def csI (s : Cs) : Prop := s.1 ≤ 6 ∧ s.2.1 ≤ 4 ∧ (s.2.1 ≤ 2 → s.1 ≤ 5) ∧ (3 ≤ s.2.1 → 1 ≤ s.1)
def csM (s : Cs) : Nat := if s.2.1 = 1 ∨ s.2.1 = 2 then s.1 + 1 else s.1
def dig (c : Int32) : Prop := 48 ≤ c ∧ c ≤ 57
noncomputable def stC (c : Int32) (s : Cs) : Option Cs :=
  if s.2.1 = 0 then @ite _ (dig c) (Classical.propDecidable _) (some (s.1, 1, upd s.2.2.1 s.1 (c - 48), s.2.2.2)) none
  else if s.2.1 = 1 then (if c = 120 then some (s.1, 2, s.2.2) else none)
  else if s.2.1 = 2 then @ite _ (dig c ∧ ¬ c = 48) (Classical.propDecidable _) (some (s.1 + 1, 3, s.2.2.1, upd s.2.2.2 s.1 (c - 48))) none
  else @ite _ (s.2.1 = 3 ∧ dig c) (Classical.propDecidable _) (some (s.1, 4, s.2.2.1, upd s.2.2.2 (s.1 - 1) (10 * s.2.2.2 (s.1 - 1) + (c - 48)))) (if c = 44 ∧ s.1 < 6 then some (s.1, 0, s.2.2) else none)
def cs0 : Cs := (0, 0, fun _ => 0, fun _ => 0)
def CR (f a b : Nat → Int32) (s : Cs) : Prop := csI s ∧ f 2 = nI (csM s) ∧ f 3 = nI s.2.1 ∧ (∀ i, i < csM s → a i = s.2.2.1 i) ∧ (∀ i, i < s.1 → b i = s.2.2.2 i) ∧ ((s.2.1 = 1 ∨ s.2.1 = 2) → b s.1 = 0)
abbrev qTc (M : Mm) (c : Int32) (s : Cs) : Rr → Mm → Prop := fun r M' => ∃ f a b, M' = CT3 M f a b ∧ ((r = some (.inl 1) ∧ ∃ s', stC c s = some s' ∧ CR f a b s') ∨ (r = some (.inl 0) ∧ stC c s = none))
theorem ok_X0_begin {l : Launch} {M : Mm} : Ok GC l mX0_begin [.ref 6] M (fun r M' => r = none ∧ ∃ f, M' = CT3 M f (M.1 7) (M.1 8) ∧ CR f (M.1 7) (M.1 8) cs0) := by
  refine ok_of (by decide +kernel) rfl rfl ?_
  refine g_mem (CT3 M (M.1 6) (M.1 7) (M.1 8)) ct3_id.symm ?_
  refine g_aload0 1 rfl dX0_begin_0 ?_
  refine g_iconst 2 rfl (v := 0) dX0_begin_1 (by decide) ?_
  refine g_putI 5 rfl fX0_18 (by first | rfl | exact st_o hb | exact st_1 hb | exact st_2 hb | exact st_3 hb | exact st_4 hb | exact st_5 hb | exact st_o hb2 | exact st_1 hb2 | exact st_2 hb2 | exact st_3 hb2 | exact st_4 hb2 | exact st_5 hb2) rfl dX0_begin_2 ?_
  try simp only [ct3_6, ct3_7, ct3_8, ct3_w6, ct3_w7, ct3_w8]
  refine g_aload0 6 rfl dX0_begin_5 ?_
  refine g_iconst 7 rfl (v := 0) dX0_begin_6 (by decide) ?_
  refine g_putI 10 rfl fX0_22 (by first | rfl | exact st_o hb | exact st_1 hb | exact st_2 hb | exact st_3 hb | exact st_4 hb | exact st_5 hb | exact st_o hb2 | exact st_1 hb2 | exact st_2 hb2 | exact st_3 hb2 | exact st_4 hb2 | exact st_5 hb2) rfl dX0_begin_7 ?_
  try simp only [ct3_6, ct3_7, ct3_8, ct3_w6, ct3_w7, ct3_w8]
  refine g_vret rfl dX0_begin_10 ?_
  refine ⟨rfl, _, rfl, ⟨by decide, by decide, by decide, by decide⟩, by rw [pk_un (by decide), upd_at]; rfl, by rw [upd_at]; rfl, fun i h => absurd h (by simp [csM, cs0]), fun i h => absurd h (by simp [cs0]), fun h => absurd h (by decide)⟩
theorem ok_X0_takesRow {l : Launch} {M : Mm} {c : Int32} {f a b : Nat → Int32} {s : Cs} (hs : CR f a b s) (hd : s.2.1 = 0) (hc : dig c) : Ok GC l mX0_takesRow [.ref 6, .int (c - 48)] (CT3 M f a b) (qTc M c s) := by
  obtain ⟨hI, e2, e3, ha, hb, h0⟩ := hs
  obtain ⟨k, d, ro, lo⟩ := s
  simp only at hd e3 ha hb h0
  subst hd
  have hk : k ≤ 5 := hI.2.2.1 (by simp)
  have em : csM (k, 0, ro, lo) = k := by simp [csM]
  rw [em] at e2 ha
  refine ok_of (by decide +kernel) rfl rfl ?_
  refine g_aload0 1 rfl dX0_takesRow_0 ?_
  refine g_getI 4 rfl fX0_18 (by first | rfl | exact st_o hb | exact st_1 hb | exact st_2 hb | exact st_3 hb | exact st_4 hb | exact st_5 hb | exact st_o hb2 | exact st_1 hb2 | exact st_2 hb2 | exact st_3 hb2 | exact st_4 hb2 | exact st_5 hb2) rfl dX0_takesRow_1 ?_
  try simp only [ct3_6, ct3_7, ct3_8, ct3_w6, ct3_w7, ct3_w8, e2]
  refine g_bipush 6 rfl (v := 6) dX0_takesRow_4 (by decide) ?_
  refine g_cmplt 11 9 rfl dX0_takesRow_6 (by decide) (fun _ => ?_) (fun q => absurd (nI_lt (b := 6) (by omega) (by decide)) q)
  refine g_aload0 12 rfl dX0_takesRow_11 ?_
  refine g_getR 15 rfl fX0_9 (by first | rfl | exact st_o hb | exact st_1 hb | exact st_2 hb | exact st_3 hb | exact st_4 hb | exact st_5 hb | exact st_o hb2 | exact st_1 hb2 | exact st_2 hb2 | exact st_3 hb2 | exact st_4 hb2 | exact st_5 hb2) rfl dX0_takesRow_12 ?_
  refine g_aload0 16 rfl dX0_takesRow_15 ?_
  refine g_getI 19 rfl fX0_18 (by first | rfl | exact st_o hb | exact st_1 hb | exact st_2 hb | exact st_3 hb | exact st_4 hb | exact st_5 hb | exact st_o hb2 | exact st_1 hb2 | exact st_2 hb2 | exact st_3 hb2 | exact st_4 hb2 | exact st_5 hb2) rfl dX0_takesRow_16 ?_
  try simp only [ct3_6, ct3_7, ct3_8, ct3_w6, ct3_w7, ct3_w8, e2]
  refine g_iload1 20 rfl dX0_takesRow_19 ?_
  refine g_iast 21 rfl dX0_takesRow_20 (by first | rfl | exact st_o hb | exact st_1 hb | exact st_2 hb | exact st_3 hb | exact st_4 hb | exact st_5 hb | exact st_o hb2 | exact st_1 hb2 | exact st_2 hb2 | exact st_3 hb2 | exact st_4 hb2 | exact st_5 hb2) rfl rfl (by first | assumption | omega) ?_
  try simp only [ct3_6, ct3_7, ct3_8, ct3_w6, ct3_w7, ct3_w8, e2]
  refine g_aload0 22 rfl dX0_takesRow_21 ?_
  refine g_getR 25 rfl fX0_15 (by first | rfl | exact st_o hb | exact st_1 hb | exact st_2 hb | exact st_3 hb | exact st_4 hb | exact st_5 hb | exact st_o hb2 | exact st_1 hb2 | exact st_2 hb2 | exact st_3 hb2 | exact st_4 hb2 | exact st_5 hb2) rfl dX0_takesRow_22 ?_
  refine g_aload0 26 rfl dX0_takesRow_25 ?_
  refine g_getI 29 rfl fX0_18 (by first | rfl | exact st_o hb | exact st_1 hb | exact st_2 hb | exact st_3 hb | exact st_4 hb | exact st_5 hb | exact st_o hb2 | exact st_1 hb2 | exact st_2 hb2 | exact st_3 hb2 | exact st_4 hb2 | exact st_5 hb2) rfl dX0_takesRow_26 ?_
  try simp only [ct3_6, ct3_7, ct3_8, ct3_w6, ct3_w7, ct3_w8, e2]
  refine g_iconst 30 rfl (v := 0) dX0_takesRow_29 (by decide) ?_
  refine g_iast 31 rfl dX0_takesRow_30 (by first | rfl | exact st_o hb | exact st_1 hb | exact st_2 hb | exact st_3 hb | exact st_4 hb | exact st_5 hb | exact st_o hb2 | exact st_1 hb2 | exact st_2 hb2 | exact st_3 hb2 | exact st_4 hb2 | exact st_5 hb2) rfl rfl (by first | assumption | omega) ?_
  try simp only [ct3_6, ct3_7, ct3_8, ct3_w6, ct3_w7, ct3_w8, e2]
  refine g_aload0 32 rfl dX0_takesRow_31 ?_
  refine g_dup 33 rfl dX0_takesRow_32 rfl ?_
  refine g_getI 36 rfl fX0_18 (by first | rfl | exact st_o hb | exact st_1 hb | exact st_2 hb | exact st_3 hb | exact st_4 hb | exact st_5 hb | exact st_o hb2 | exact st_1 hb2 | exact st_2 hb2 | exact st_3 hb2 | exact st_4 hb2 | exact st_5 hb2) rfl dX0_takesRow_33 ?_
  try simp only [ct3_6, ct3_7, ct3_8, ct3_w6, ct3_w7, ct3_w8, e2]
  refine g_iconst 37 rfl (v := 1) dX0_takesRow_36 (by decide) ?_
  refine g_iadd 38 rfl dX0_takesRow_37 ?_
  refine g_putI 41 rfl fX0_18 (by first | rfl | exact st_o hb | exact st_1 hb | exact st_2 hb | exact st_3 hb | exact st_4 hb | exact st_5 hb | exact st_o hb2 | exact st_1 hb2 | exact st_2 hb2 | exact st_3 hb2 | exact st_4 hb2 | exact st_5 hb2) rfl dX0_takesRow_38 ?_
  try simp only [ct3_6, ct3_7, ct3_8, ct3_w6, ct3_w7, ct3_w8, e2]
  refine g_aload0 42 rfl dX0_takesRow_41 ?_
  refine g_iconst 43 rfl (v := 1) dX0_takesRow_42 (by decide) ?_
  refine g_putI 46 rfl fX0_22 (by first | rfl | exact st_o hb | exact st_1 hb | exact st_2 hb | exact st_3 hb | exact st_4 hb | exact st_5 hb | exact st_o hb2 | exact st_1 hb2 | exact st_2 hb2 | exact st_3 hb2 | exact st_4 hb2 | exact st_5 hb2) rfl dX0_takesRow_43 ?_
  try simp only [ct3_6, ct3_7, ct3_8, ct3_w6, ct3_w7, ct3_w8, e2]
  refine g_iconst 47 rfl (v := 1) dX0_takesRow_46 (by decide) ?_
  refine g_zret rfl dX0_takesRow_47 (by first | exact Or.inl rfl | exact Or.inr rfl | assumption) ?_
  have em2 : csM (k, 1, upd ro k (c - 48), lo) = k + 1 := by simp [csM]
  refine ⟨_, _, _, rfl, Or.inl ⟨rfl, (k, 1, upd ro k (c - 48), lo), by simp only [stC, if_true]; rw [if_pos hc], ⟨by show k ≤ 6; omega, by show 1 ≤ 4; omega, fun _ => hk, fun h => absurd h (by show ¬ 3 ≤ 1; omega)⟩, ?_, ?_, ?_, ?_, ?_⟩⟩
  · rw [pk_un (by decide), upd_at, nI_1, em2]
  · rw [upd_at]; rfl
  · intro i hi
    rw [em2] at hi
    by_cases e : i = k
    · subst e; rw [upd_at]; exact (upd_at _ _ _).symm
    · rw [pk_un e]; exact (ha i (by omega)).trans (pk_un e).symm
  · intro i hi
    rw [pk_un (by simp only at hi; omega)]; exact hb i hi
  · intro _; exact upd_at _ _ _
theorem ok_X0_takesEnd {l : Launch} {M : Mm} {c : Int32} {f a b : Nat → Int32} {s : Cs} (hs : CR f a b s) (hd : 3 ≤ s.2.1) (hc : ¬ (s.2.1 = 3 ∧ dig c)) : Ok GC l mX0_takesEnd [.ref 6, .int c] (CT3 M f a b) (qTc M c s) := by
  obtain ⟨hI, e2, e3, ha, hb, h0⟩ := hs
  obtain ⟨k, d, ro, lo⟩ := s
  simp only at hd e3 ha hb h0 hc
  have hk : k ≤ 6 := hI.1
  have em : csM (k, d, ro, lo) = k := by simp only [csM]; rw [if_neg (by omega)]
  rw [em] at e2 ha
  have d0 : ¬ d = 0 := by omega
  have d1 : ¬ d = 1 := by omega
  have d2 : ¬ d = 2 := by omega
  refine ok_of (by decide +kernel) rfl rfl ?_
  refine g_aload0 1 rfl dX0_takesEnd_0 ?_
  refine g_iconst 2 rfl (v := 0) dX0_takesEnd_1 (by decide) ?_
  refine g_putI 5 rfl fX0_22 (by first | rfl | exact st_o hb | exact st_1 hb | exact st_2 hb | exact st_3 hb | exact st_4 hb | exact st_5 hb | exact st_o hb2 | exact st_1 hb2 | exact st_2 hb2 | exact st_3 hb2 | exact st_4 hb2 | exact st_5 hb2) rfl dX0_takesEnd_2 ?_
  try simp only [ct3_6, ct3_7, ct3_8, ct3_w6, ct3_w7, ct3_w8, e2]
  refine g_iload1 6 rfl dX0_takesEnd_5 ?_
  refine g_bipush 8 rfl (v := 44) dX0_takesEnd_6 (by decide) ?_
  refine g_cmpne 24 11 rfl dX0_takesEnd_8 (by decide) (fun q => ?_) (fun q => ?_)
  · refine g_iconst 25 rfl (v := 0) dX0_takesEnd_24 (by decide) ?_
    refine g_zret rfl dX0_takesEnd_25 (by first | exact Or.inl rfl | exact Or.inr rfl | assumption) ?_
    refine ⟨_, _, _, rfl, Or.inr ⟨rfl, ?_⟩⟩
    simp only [stC, d0, d1, d2, if_false]
    rw [if_neg hc, if_neg (fun z => q z.1)]
  · refine g_aload0 12 rfl dX0_takesEnd_11 ?_
    refine g_getI 15 rfl fX0_18 (by first | rfl | exact st_o hb | exact st_1 hb | exact st_2 hb | exact st_3 hb | exact st_4 hb | exact st_5 hb | exact st_o hb2 | exact st_1 hb2 | exact st_2 hb2 | exact st_3 hb2 | exact st_4 hb2 | exact st_5 hb2) rfl dX0_takesEnd_12 ?_
    try simp only [ct3_6, ct3_7, ct3_8, ct3_w6, ct3_w7, ct3_w8, e2]
    refine g_bipush 17 rfl (v := 6) dX0_takesEnd_15 (by decide) ?_
    rw [pk_un (by decide), e2]
    refine g_cmpge 24 20 rfl dX0_takesEnd_17 (by decide) (fun q2 => ?_) (fun q2 => ?_)
    · refine g_iconst 25 rfl (v := 0) dX0_takesEnd_24 (by decide) ?_
      refine g_zret rfl dX0_takesEnd_25 (by first | exact Or.inl rfl | exact Or.inr rfl | assumption) ?_
      refine ⟨_, _, _, rfl, Or.inr ⟨rfl, ?_⟩⟩
      simp only [stC, d0, d1, d2, if_false]
      rw [if_neg hc, if_neg (fun z => absurd q2 (nI_ge (b := 6) z.2 (by decide)))]
    · have hk6 : k < 6 := Nat.lt_of_not_le (fun z => q2 (nI_le (a := 6) z (by omega)))
      refine g_iconst 21 rfl (v := 1) dX0_takesEnd_20 (by decide) ?_
      refine g_goto 25 dX0_takesEnd_21 (by decide) ?_
      refine g_zret rfl dX0_takesEnd_25 (by first | exact Or.inl rfl | exact Or.inr rfl | assumption) ?_
      have em2 : csM (k, 0, ro, lo) = k := by simp [csM]
      refine ⟨_, _, _, rfl, Or.inl ⟨rfl, (k, 0, ro, lo), ?_, ⟨hk, by show 0 ≤ 4; omega, fun _ => by show k ≤ 5; omega, fun h => absurd h (by show ¬ 3 ≤ 0; omega)⟩, ?_, ?_, ?_, hb, fun h => absurd h (by show ¬ (0 = 1 ∨ 0 = 2); omega)⟩⟩
      · simp only [stC, d0, d1, d2, if_false]; rw [if_neg hc, if_pos ⟨q, hk6⟩]
      · rw [pk_un (by decide), em2]; exact e2
      · rw [upd_at]; rfl
      · rw [em2]; exact ha
theorem ok_X0_takesDigit {l : Launch} {M : Mm} {c : Int32} {f a b : Nat → Int32} {s : Cs} {n : Nat} (hs : CR f a b s) (hd : (s.2.1 = 2 ∧ n = 3 ∧ dig c ∧ ¬ c = 48) ∨ (s.2.1 = 3 ∧ n = 4 ∧ dig c)) : Ok GC l mX0_takesDigit [.ref 6, .int (c - 48), .int (nI n)] (CT3 M f a b) (qTc M c s) := by
  obtain ⟨hI, e2, e3, ha, hb, h0⟩ := hs
  obtain ⟨k, d, ro, lo⟩ := s
  simp only at hd e3 ha hb h0
  obtain ⟨m, em⟩ : ∃ m, m = csM (k, d, ro, lo) := ⟨_, rfl⟩
  have hm : 1 ≤ m ∧ m ≤ 6 := by
    rcases hd with ⟨rfl, -⟩ | ⟨rfl, -⟩
    · have := hI.2.2.1 (by simp)
      simp [csM] at em this; omega
    · have h1 := hI.1
      have h2 := hI.2.2.2 (by simp)
      simp [csM] at em h1 h2; omega
  rw [← em] at e2 ha
  refine ok_of (by decide +kernel) rfl rfl ?_
  have e1 : nI m - 1 = nI (m - 1) := by rw [show (1 : Int32) = nI 1 from rfl, pk_sub hm.1]
  refine g_aload0 1 rfl dX0_takesDigit_0 ?_
  refine g_getI 4 rfl fX0_18 (by first | rfl | exact st_o hb | exact st_1 hb | exact st_2 hb | exact st_3 hb | exact st_4 hb | exact st_5 hb | exact st_o hb2 | exact st_1 hb2 | exact st_2 hb2 | exact st_3 hb2 | exact st_4 hb2 | exact st_5 hb2) rfl dX0_takesDigit_1 ?_
  try simp only [ct3_6, ct3_7, ct3_8, ct3_w6, ct3_w7, ct3_w8, e2]
  refine g_iconst 5 rfl (v := 1) dX0_takesDigit_4 (by decide) ?_
  refine g_cmplt 17 8 rfl dX0_takesDigit_5 (by decide) (fun q => absurd q (nI_nlt (b := 1) hm.1 (by omega))) (fun _ => ?_)
  refine g_aload0 9 rfl dX0_takesDigit_8 ?_
  refine g_getI 12 rfl fX0_18 (by first | rfl | exact st_o hb | exact st_1 hb | exact st_2 hb | exact st_3 hb | exact st_4 hb | exact st_5 hb | exact st_o hb2 | exact st_1 hb2 | exact st_2 hb2 | exact st_3 hb2 | exact st_4 hb2 | exact st_5 hb2) rfl dX0_takesDigit_9 ?_
  try simp only [ct3_6, ct3_7, ct3_8, ct3_w6, ct3_w7, ct3_w8, e2]
  refine g_bipush 14 rfl (v := 6) dX0_takesDigit_12 (by decide) ?_
  refine g_cmple 19 17 rfl dX0_takesDigit_14 (by decide) (fun _ => ?_) (fun q => absurd (nI_le (b := 6) hm.2 (by decide)) q)
  refine g_aload0 20 rfl dX0_takesDigit_19 ?_
  refine g_getR 23 rfl fX0_15 (by first | rfl | exact st_o hb | exact st_1 hb | exact st_2 hb | exact st_3 hb | exact st_4 hb | exact st_5 hb | exact st_o hb2 | exact st_1 hb2 | exact st_2 hb2 | exact st_3 hb2 | exact st_4 hb2 | exact st_5 hb2) rfl dX0_takesDigit_20 ?_
  refine g_aload0 24 rfl dX0_takesDigit_23 ?_
  refine g_getI 27 rfl fX0_18 (by first | rfl | exact st_o hb | exact st_1 hb | exact st_2 hb | exact st_3 hb | exact st_4 hb | exact st_5 hb | exact st_o hb2 | exact st_1 hb2 | exact st_2 hb2 | exact st_3 hb2 | exact st_4 hb2 | exact st_5 hb2) rfl dX0_takesDigit_24 ?_
  try simp only [ct3_6, ct3_7, ct3_8, ct3_w6, ct3_w7, ct3_w8, e2]
  refine g_iconst 28 rfl (v := 1) dX0_takesDigit_27 (by decide) ?_
  refine g_isub 29 rfl dX0_takesDigit_28 ?_
  rw [e1]
  refine g_bipush 31 rfl (v := 10) dX0_takesDigit_29 (by decide) ?_
  refine g_aload0 32 rfl dX0_takesDigit_31 ?_
  refine g_getR 35 rfl fX0_15 (by first | rfl | exact st_o hb | exact st_1 hb | exact st_2 hb | exact st_3 hb | exact st_4 hb | exact st_5 hb | exact st_o hb2 | exact st_1 hb2 | exact st_2 hb2 | exact st_3 hb2 | exact st_4 hb2 | exact st_5 hb2) rfl dX0_takesDigit_32 ?_
  refine g_aload0 36 rfl dX0_takesDigit_35 ?_
  refine g_getI 39 rfl fX0_18 (by first | rfl | exact st_o hb | exact st_1 hb | exact st_2 hb | exact st_3 hb | exact st_4 hb | exact st_5 hb | exact st_o hb2 | exact st_1 hb2 | exact st_2 hb2 | exact st_3 hb2 | exact st_4 hb2 | exact st_5 hb2) rfl dX0_takesDigit_36 ?_
  try simp only [ct3_6, ct3_7, ct3_8, ct3_w6, ct3_w7, ct3_w8, e2]
  refine g_iconst 40 rfl (v := 1) dX0_takesDigit_39 (by decide) ?_
  refine g_isub 41 rfl dX0_takesDigit_40 ?_
  rw [e1]
  refine g_iald 42 rfl dX0_takesDigit_41 (by first | rfl | exact st_o hb | exact st_1 hb | exact st_2 hb | exact st_3 hb | exact st_4 hb | exact st_5 hb | exact st_o hb2 | exact st_1 hb2 | exact st_2 hb2 | exact st_3 hb2 | exact st_4 hb2 | exact st_5 hb2) rfl rfl (by first | assumption | omega) ?_
  try simp only [ct3_6, ct3_7, ct3_8, ct3_w6, ct3_w7, ct3_w8, e2]
  refine g_imul 43 rfl dX0_takesDigit_42 ?_
  refine g_iload1 44 rfl dX0_takesDigit_43 ?_
  refine g_iadd 45 rfl dX0_takesDigit_44 ?_
  refine g_iast 46 rfl dX0_takesDigit_45 (by first | rfl | exact st_o hb | exact st_1 hb | exact st_2 hb | exact st_3 hb | exact st_4 hb | exact st_5 hb | exact st_o hb2 | exact st_1 hb2 | exact st_2 hb2 | exact st_3 hb2 | exact st_4 hb2 | exact st_5 hb2) rfl rfl (by first | assumption | omega) ?_
  try simp only [ct3_6, ct3_7, ct3_8, ct3_w6, ct3_w7, ct3_w8, e2]
  refine g_aload0 47 rfl dX0_takesDigit_46 ?_
  refine g_iload2 48 rfl dX0_takesDigit_47 ?_
  refine g_putI 51 rfl fX0_22 (by first | rfl | exact st_o hb | exact st_1 hb | exact st_2 hb | exact st_3 hb | exact st_4 hb | exact st_5 hb | exact st_o hb2 | exact st_1 hb2 | exact st_2 hb2 | exact st_3 hb2 | exact st_4 hb2 | exact st_5 hb2) rfl dX0_takesDigit_48 ?_
  try simp only [ct3_6, ct3_7, ct3_8, ct3_w6, ct3_w7, ct3_w8, e2]
  refine g_iconst 52 rfl (v := 1) dX0_takesDigit_51 (by decide) ?_
  refine g_zret rfl dX0_takesDigit_52 (by first | exact Or.inl rfl | exact Or.inr rfl | assumption) ?_
  rcases hd with ⟨rfl, rfl, hc, hc2⟩ | ⟨rfl, rfl, hc⟩
  · have hk : k ≤ 5 := hI.2.2.1 (by simp)
    have em1 : m = k + 1 := by rw [em]; simp [csM]
    subst em1
    have eb : b k = 0 := h0 (Or.inr rfl)
    have em2 : csM (k + 1, 3, ro, upd lo k (c - 48)) = k + 1 := by simp [csM]
    refine ⟨_, _, _, rfl, Or.inl ⟨rfl, (k + 1, 3, ro, upd lo k (c - 48)), ?_, ⟨by show k + 1 ≤ 6; omega, by show 3 ≤ 4; omega, fun h => absurd h (by show ¬ 3 ≤ 2; omega), fun _ => by show 1 ≤ k + 1; omega⟩, ?_, ?_, ?_, ?_, fun h => absurd h (by show ¬ (3 = 1 ∨ 3 = 2); omega)⟩⟩
    · simp [stC, hc, hc2]
    · rw [pk_un (by decide), em2]; exact e2
    · rw [upd_at]
    · rw [em2]; exact ha
    · intro i hi
      simp only at hi
      simp only [Nat.add_sub_cancel]
      by_cases e : i = k
      · subst e; rw [upd_at, eb, show (10 : Int32) * 0 = 0 from rfl, Int32.zero_add]; exact (upd_at _ _ _).symm
      · rw [pk_un e]; exact (hb i (by omega)).trans (pk_un e).symm
  · have hk1 : 1 ≤ k := hI.2.2.2 (by simp)
    have em1 : m = k := by rw [em]; simp [csM]
    subst em1
    have em2 : csM (m, 4, ro, upd lo (m - 1) (10 * lo (m - 1) + (c - 48))) = m := by simp [csM]
    refine ⟨_, _, _, rfl, Or.inl ⟨rfl, (m, 4, ro, upd lo (m - 1) (10 * lo (m - 1) + (c - 48))), ?_, ⟨hI.1, by show 4 ≤ 4; omega, fun h => absurd h (by show ¬ 4 ≤ 2; omega), fun _ => hk1⟩, ?_, ?_, ?_, ?_, fun h => absurd h (by show ¬ (4 = 1 ∨ 4 = 2); omega)⟩⟩
    · simp [stC, hc]
    · rw [pk_un (by decide), em2]; exact e2
    · rw [upd_at]
    · rw [em2]; exact ha
    · intro i hi
      simp only at hi
      by_cases e : i = m - 1
      · subst e; rw [upd_at, hb _ (by omega)]; exact (upd_at _ _ _).symm
      · rw [pk_un e]; exact (hb i (by omega)).trans (pk_un e).symm
