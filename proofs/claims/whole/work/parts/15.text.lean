/-! the class's StreetText -/
def ST3 (M : Mm) (f k z : Nat → Int32) : Mm := setA (setA (setA M 3 f) 4 k) 5 z
theorem st3_3 {M : Mm} {f k z : Nat → Int32} : (ST3 M f k z).1 3 = f := by unfold ST3; rw [sA_n (by decide), sA_n (by decide), sA_s]
theorem st3_4 {M : Mm} {f k z : Nat → Int32} : (ST3 M f k z).1 4 = k := by unfold ST3; rw [sA_n (by decide), sA_s]
theorem st3_5 {M : Mm} {f k z : Nat → Int32} : (ST3 M f k z).1 5 = z := by unfold ST3; rw [sA_s]
theorem st3_n {M : Mm} {f k z : Nat → Int32} {h : Nat} (h3 : h ≠ 3) (h4 : h ≠ 4) (h5 : h ≠ 5) : (ST3 M f k z).1 h = M.1 h := by unfold ST3; rw [sA_n h5, sA_n h4, sA_n h3]
theorem st3_w3 {M : Mm} {f k z e : Nat → Int32} : setA (ST3 M f k z) 3 e = ST3 M e k z := by unfold ST3; rw [sA_sw (by decide), sA_sw (h' := 3) (h := 4) (by decide), sA_sA]
theorem st3_w4 {M : Mm} {f k z e : Nat → Int32} : setA (ST3 M f k z) 4 e = ST3 M f e z := by unfold ST3; rw [sA_sw (by decide), sA_sA]
theorem st3_w5 {M : Mm} {f k z e : Nat → Int32} : setA (ST3 M f k z) 5 e = ST3 M f k e := by unfold ST3; rw [sA_sA]
theorem st3_id {M : Mm} : ST3 M (M.1 3) (M.1 4) (M.1 5) = M := by unfold ST3; rw [sA_id, sA_id, sA_id]
/-- a text being read as a street: rows ended, width, cells in this row, whether a size is due, kinds, sizes -/
abbrev Tx : Type := Nat × Nat × Nat × Prop × (Nat → Int32) × (Nat → Int32)
def txN (t : Tx) : Nat := t.1 * t.2.1 + t.2.2.1
def txI (t : Tx) : Prop := t.1 ≤ 4 ∧ ((t.1 = 0 ∧ t.2.1 = 0 ∧ t.2.2.1 ≤ 6) ∨ (1 ≤ t.1 ∧ 2 ≤ t.2.1 ∧ t.2.1 ≤ 6 ∧ t.2.2.1 ≤ t.2.1)) ∧ (t.2.2.2.1 → 1 ≤ t.2.2.1)
def kndO (c : Int32) : Int32 := if c = 115 then 0 else if c = 111 then 1 else if c = 108 then 2 else if c = 116 then 3 else if c = 107 then 4 else -1
/-- what a letter makes of it; none: it can't stand there -/
noncomputable def stT (c : Int32) (t : Tx) : Option Tx :=
  @ite _ t.2.2.2.1 (Classical.propDecidable _) (if 49 ≤ c ∧ c ≤ 57 then some (t.1, t.2.1, t.2.2.1, False, t.2.2.2.2.1, upd t.2.2.2.2.2 (txN t - 1) (c - 48)) else none)
    (if c = 47 then (if t.1 = 0 then (if 2 ≤ t.2.2.1 then some (1, t.2.2.1, 0, False, t.2.2.2.2) else none) else if t.2.2.1 = t.2.1 ∧ t.1 < 4 then some (t.1 + 1, t.2.1, 0, False, t.2.2.2.2) else none)
    else if kndO c = -1 ∧ ¬ c = 46 then none else if t.2.2.1 = (if t.1 = 0 then 6 else t.2.1) then none else some (t.1, t.2.1, t.2.2.1 + 1, ¬ kndO c = -1, upd t.2.2.2.2.1 (txN t) (kndO c), upd t.2.2.2.2.2 (txN t) 0))
def tx0 : Tx := (0, 0, 0, False, fun _ => 0, fun _ => 0)
/-- the class's rows hold it -/
def SR (f k z : Nat → Int32) (t : Tx) : Prop := txI t ∧ f 2 = nI t.1 ∧ f 3 = nI t.2.1 ∧ f 4 = nI t.2.2.1 ∧ f 5 = nI (txN t) ∧ ((t.2.2.2.1 ∧ f 6 = 1) ∨ (¬ t.2.2.2.1 ∧ f 6 = 0)) ∧ (∀ c, c < txN t → k c = t.2.2.2.2.1 c) ∧ ∀ c, c < txN t → z c = t.2.2.2.2.2 c
theorem txI.n {t : Tx} (h : txI t) : txN t ≤ 30 := by
  unfold txN
  obtain ⟨h1, h2, -⟩ := h
  rcases h2 with ⟨a, b, c⟩ | ⟨a, b, c, d⟩
  · rw [a]; omega
  · have : t.1 * t.2.1 ≤ 4 * 6 := Nat.mul_le_mul h1 c
    omega
abbrev qTk (M : Mm) (c : Int32) (t : Tx) : Rr → Mm → Prop := fun r M' => ∃ f k z, M' = ST3 M f k z ∧ ((r = some (.inl 1) ∧ ∃ t', stT c t = some t' ∧ SR f k z t') ∨ (r = some (.inl 0) ∧ stT c t = none))
theorem kndO_out {c : Int32} (h : c.toInt < 107 ∨ 116 < c.toInt) : kndO c = -1 := by
  unfold kndO
  repeat' split
  all_goals (first | rfl | (subst_vars; exact absurd h (by decide)))
theorem ok_X8_kindOf {l : Launch} {M : Mm} {c : Int32} : Oi GC l mX8_kindOf [.int c] M (kndO c) M := by
  refine ok_of (by decide +kernel) rfl rfl ?_
  refine g_iload0 1 rfl dX8_kindOf_0 ?_
  refine g_tab10 107 108 109 110 111 112 113 114 115 116 66 64 60 66 66 58 66 66 66 56 62 dX8_kindOf_1 (by decide) (by decide) (by decide) (by decide) (by decide) (by decide) (by decide) (by decide) (by decide) (by decide) (by decide) (by decide) (by decide) (by decide) (by decide) (by decide) (by decide) (by decide) (by decide) (by decide) (by decide) (by decide) (fun h1 => ?_) (fun h1 => ?_) (fun h1 => ?_) (fun h1 => ?_) (fun h1 => ?_) (fun h1 => ?_) (fun h1 => ?_) (fun h1 => ?_) (fun h1 => ?_) (fun h1 => ?_) (fun h1 => ?_)
  · refine g_iconst 67 rfl (v := (-1)) dX8_kindOf_66 (by decide) ?_
    refine g_iret rfl dX8_kindOf_67 ?_
    exact ⟨by first | rw [kndO_out h1] | (rw [h1]; decide), rfl⟩
  · refine g_iconst 65 rfl (v := 4) dX8_kindOf_64 (by decide) ?_
    refine g_iret rfl dX8_kindOf_65 ?_
    exact ⟨by first | rw [kndO_out h1] | (rw [h1]; decide), rfl⟩
  · refine g_iconst 61 rfl (v := 2) dX8_kindOf_60 (by decide) ?_
    refine g_iret rfl dX8_kindOf_61 ?_
    exact ⟨by first | rw [kndO_out h1] | (rw [h1]; decide), rfl⟩
  · refine g_iconst 67 rfl (v := (-1)) dX8_kindOf_66 (by decide) ?_
    refine g_iret rfl dX8_kindOf_67 ?_
    exact ⟨by first | rw [kndO_out h1] | (rw [h1]; decide), rfl⟩
  · refine g_iconst 67 rfl (v := (-1)) dX8_kindOf_66 (by decide) ?_
    refine g_iret rfl dX8_kindOf_67 ?_
    exact ⟨by first | rw [kndO_out h1] | (rw [h1]; decide), rfl⟩
  · refine g_iconst 59 rfl (v := 1) dX8_kindOf_58 (by decide) ?_
    refine g_iret rfl dX8_kindOf_59 ?_
    exact ⟨by first | rw [kndO_out h1] | (rw [h1]; decide), rfl⟩
  · refine g_iconst 67 rfl (v := (-1)) dX8_kindOf_66 (by decide) ?_
    refine g_iret rfl dX8_kindOf_67 ?_
    exact ⟨by first | rw [kndO_out h1] | (rw [h1]; decide), rfl⟩
  · refine g_iconst 67 rfl (v := (-1)) dX8_kindOf_66 (by decide) ?_
    refine g_iret rfl dX8_kindOf_67 ?_
    exact ⟨by first | rw [kndO_out h1] | (rw [h1]; decide), rfl⟩
  · refine g_iconst 67 rfl (v := (-1)) dX8_kindOf_66 (by decide) ?_
    refine g_iret rfl dX8_kindOf_67 ?_
    exact ⟨by first | rw [kndO_out h1] | (rw [h1]; decide), rfl⟩
  · refine g_iconst 57 rfl (v := 0) dX8_kindOf_56 (by decide) ?_
    refine g_iret rfl dX8_kindOf_57 ?_
    exact ⟨by first | rw [kndO_out h1] | (rw [h1]; decide), rfl⟩
  · refine g_iconst 63 rfl (v := 3) dX8_kindOf_62 (by decide) ?_
    refine g_iret rfl dX8_kindOf_63 ?_
    exact ⟨by first | rw [kndO_out h1] | (rw [h1]; decide), rfl⟩
theorem ok_X8_begin {l : Launch} {M : Mm} : Ok GC l mX8_begin [.ref 3] M (fun r M' => r = none ∧ ∃ f, M' = ST3 M f (M.1 4) (M.1 5) ∧ SR f (M.1 4) (M.1 5) tx0) := by
  refine ok_of (by decide +kernel) rfl rfl ?_
  refine g_mem (ST3 M (M.1 3) (M.1 4) (M.1 5)) st3_id.symm ?_
  refine g_aload0 1 rfl dX8_begin_0 ?_
  refine g_iconst 2 rfl (v := 0) dX8_begin_1 (by decide) ?_
  refine g_putI 5 rfl fX8_18 (by first | rfl | exact st_o hb | exact st_1 hb | exact st_2 hb | exact st_3 hb | exact st_4 hb | exact st_5 hb | exact st_o hb2 | exact st_1 hb2 | exact st_2 hb2 | exact st_3 hb2 | exact st_4 hb2 | exact st_5 hb2) rfl dX8_begin_2 ?_
  try simp only [st3_3, st3_4, st3_5, st3_w3, st3_w4, st3_w5]
  refine g_aload0 6 rfl dX8_begin_5 ?_
  refine g_iconst 7 rfl (v := 0) dX8_begin_6 (by decide) ?_
  refine g_putI 10 rfl fX8_22 (by first | rfl | exact st_o hb | exact st_1 hb | exact st_2 hb | exact st_3 hb | exact st_4 hb | exact st_5 hb | exact st_o hb2 | exact st_1 hb2 | exact st_2 hb2 | exact st_3 hb2 | exact st_4 hb2 | exact st_5 hb2) rfl dX8_begin_7 ?_
  try simp only [st3_3, st3_4, st3_5, st3_w3, st3_w4, st3_w5]
  refine g_aload0 11 rfl dX8_begin_10 ?_
  refine g_iconst 12 rfl (v := 0) dX8_begin_11 (by decide) ?_
  refine g_putI 15 rfl fX8_25 (by first | rfl | exact st_o hb | exact st_1 hb | exact st_2 hb | exact st_3 hb | exact st_4 hb | exact st_5 hb | exact st_o hb2 | exact st_1 hb2 | exact st_2 hb2 | exact st_3 hb2 | exact st_4 hb2 | exact st_5 hb2) rfl dX8_begin_12 ?_
  try simp only [st3_3, st3_4, st3_5, st3_w3, st3_w4, st3_w5]
  refine g_aload0 16 rfl dX8_begin_15 ?_
  refine g_iconst 17 rfl (v := 0) dX8_begin_16 (by decide) ?_
  refine g_putI 20 rfl fX8_28 (by first | rfl | exact st_o hb | exact st_1 hb | exact st_2 hb | exact st_3 hb | exact st_4 hb | exact st_5 hb | exact st_o hb2 | exact st_1 hb2 | exact st_2 hb2 | exact st_3 hb2 | exact st_4 hb2 | exact st_5 hb2) rfl dX8_begin_17 ?_
  try simp only [st3_3, st3_4, st3_5, st3_w3, st3_w4, st3_w5]
  refine g_aload0 21 rfl dX8_begin_20 ?_
  refine g_iconst 22 rfl (v := 0) dX8_begin_21 (by decide) ?_
  refine g_putZ 25 rfl fX8_31 (by first | rfl | exact st_o hb | exact st_1 hb | exact st_2 hb | exact st_3 hb | exact st_4 hb | exact st_5 hb | exact st_o hb2 | exact st_1 hb2 | exact st_2 hb2 | exact st_3 hb2 | exact st_4 hb2 | exact st_5 hb2) rfl dX8_begin_22 (by first | exact Or.inl rfl | exact Or.inr rfl | assumption) ?_
  try simp only [st3_3, st3_4, st3_5, st3_w3, st3_w4, st3_w5]
  refine g_vret rfl dX8_begin_25 ?_
  refine ⟨rfl, _, rfl, ⟨by decide, Or.inl ⟨rfl, rfl, by decide⟩, fun h => h.elim⟩, ?_, ?_, ?_, ?_, Or.inr ⟨fun h => h, ?_⟩, fun c h => absurd h (by simp [txN, tx0]), fun c h => absurd h (by simp [txN, tx0])⟩
  all_goals (simp [upd, tx0, txN]; try rfl)
theorem ok_X8_takesSize {l : Launch} {M : Mm} {c : Int32} {f k z : Nat → Int32} {t : Tx} (hs : SR f k z t) (hd : t.2.2.2.1) : Ok GC l mX8_takesSize [.ref 3, .int c] (ST3 M f k z) (qTk M c t) := by
  obtain ⟨hI, h2, h3, h4, h5, h6, hk, hz⟩ := hs
  have hn := hI.n
  have h1 := hI.2.2 hd
  have hn1 : 1 ≤ txN t := by unfold txN; omega
  refine ok_of (by decide +kernel) rfl rfl ?_
  refine g_iload1 1 rfl dX8_takesSize_0 ?_
  refine g_bipush 3 rfl (v := 49) dX8_takesSize_1 (by decide) ?_
  refine g_cmplt 29 6 rfl dX8_takesSize_3 (by decide) (fun h => ?_) (fun h3' => ?_)
  · refine g_iconst 30 rfl (v := 0) dX8_takesSize_29 (by decide) ?_
    refine g_zret rfl dX8_takesSize_30 (by first | exact Or.inl rfl | exact Or.inr rfl | assumption) ?_
    refine ⟨f, k, z, rfl, Or.inr ⟨rfl, ?_⟩⟩
    rw [stT, if_pos hd, if_neg (fun q => absurd h (Int32.not_lt.mpr q.1))]
  · refine g_iload1 7 rfl dX8_takesSize_6 ?_
    refine g_bipush 9 rfl (v := 57) dX8_takesSize_7 (by decide) ?_
    refine g_cmpgt 29 12 rfl dX8_takesSize_9 (by decide) (fun h => ?_) (fun h9' => ?_)
    · refine g_iconst 30 rfl (v := 0) dX8_takesSize_29 (by decide) ?_
      refine g_zret rfl dX8_takesSize_30 (by first | exact Or.inl rfl | exact Or.inr rfl | assumption) ?_
      refine ⟨f, k, z, rfl, Or.inr ⟨rfl, ?_⟩⟩
      rw [stT, if_pos hd, if_neg (fun q => absurd h (Int32.not_lt.mpr q.2))]
    · refine g_aload0 13 rfl dX8_takesSize_12 ?_
      refine g_getI 16 rfl fX8_28 (by first | rfl | exact st_o hb | exact st_1 hb | exact st_2 hb | exact st_3 hb | exact st_4 hb | exact st_5 hb | exact st_o hb2 | exact st_1 hb2 | exact st_2 hb2 | exact st_3 hb2 | exact st_4 hb2 | exact st_5 hb2) rfl dX8_takesSize_13 ?_
      try simp only [st3_3, st3_4, st3_5, st3_w3, st3_w4, st3_w5, h5]
      refine g_iconst 17 rfl (v := 1) dX8_takesSize_16 (by decide) ?_
      refine g_cmplt 29 20 rfl dX8_takesSize_17 (by decide) (fun h => absurd h (nI_nlt (b := 1) hn1 (by omega))) (fun h => ?_)
      refine g_aload0 21 rfl dX8_takesSize_20 ?_
      refine g_getI 24 rfl fX8_28 (by first | rfl | exact st_o hb | exact st_1 hb | exact st_2 hb | exact st_3 hb | exact st_4 hb | exact st_5 hb | exact st_o hb2 | exact st_1 hb2 | exact st_2 hb2 | exact st_3 hb2 | exact st_4 hb2 | exact st_5 hb2) rfl dX8_takesSize_21 ?_
      try simp only [st3_3, st3_4, st3_5, st3_w3, st3_w4, st3_w5, h5]
      refine g_bipush 26 rfl (v := 30) dX8_takesSize_24 (by decide) ?_
      refine g_cmple 31 29 rfl dX8_takesSize_26 (by decide) (fun h => ?_) (fun h => absurd (nI_le (b := 30) hn (by decide)) h)
      refine g_aload0 32 rfl dX8_takesSize_31 ?_
      refine g_getR 35 rfl fX8_15 (by first | rfl | exact st_o hb | exact st_1 hb | exact st_2 hb | exact st_3 hb | exact st_4 hb | exact st_5 hb | exact st_o hb2 | exact st_1 hb2 | exact st_2 hb2 | exact st_3 hb2 | exact st_4 hb2 | exact st_5 hb2) rfl dX8_takesSize_32 ?_
      refine g_aload0 36 rfl dX8_takesSize_35 ?_
      refine g_getI 39 rfl fX8_28 (by first | rfl | exact st_o hb | exact st_1 hb | exact st_2 hb | exact st_3 hb | exact st_4 hb | exact st_5 hb | exact st_o hb2 | exact st_1 hb2 | exact st_2 hb2 | exact st_3 hb2 | exact st_4 hb2 | exact st_5 hb2) rfl dX8_takesSize_36 ?_
      try simp only [st3_3, st3_4, st3_5, st3_w3, st3_w4, st3_w5, h5]
      refine g_iconst 40 rfl (v := 1) dX8_takesSize_39 (by decide) ?_
      refine g_isub 41 rfl dX8_takesSize_40 ?_
      refine g_top (nI (txN t - 1)) (by rw [show (1 : Int32) = nI 1 from rfl, pk_sub hn1]) ?_
      refine g_iload1 42 rfl dX8_takesSize_41 ?_
      refine g_bipush 44 rfl (v := 48) dX8_takesSize_42 (by decide) ?_
      refine g_isub 45 rfl dX8_takesSize_44 ?_
      refine g_iast 46 rfl dX8_takesSize_45 (by first | rfl | exact st_o hb | exact st_1 hb | exact st_2 hb | exact st_3 hb | exact st_4 hb | exact st_5 hb | exact st_o hb2 | exact st_1 hb2 | exact st_2 hb2 | exact st_3 hb2 | exact st_4 hb2 | exact st_5 hb2) rfl rfl (by first | assumption | omega) ?_
      try simp only [st3_3, st3_4, st3_5, st3_w3, st3_w4, st3_w5, h5]
      refine g_aload0 47 rfl dX8_takesSize_46 ?_
      refine g_iconst 48 rfl (v := 0) dX8_takesSize_47 (by decide) ?_
      refine g_putZ 51 rfl fX8_31 (by first | rfl | exact st_o hb | exact st_1 hb | exact st_2 hb | exact st_3 hb | exact st_4 hb | exact st_5 hb | exact st_o hb2 | exact st_1 hb2 | exact st_2 hb2 | exact st_3 hb2 | exact st_4 hb2 | exact st_5 hb2) rfl dX8_takesSize_48 (by first | exact Or.inl rfl | exact Or.inr rfl | assumption) ?_
      try simp only [st3_3, st3_4, st3_5, st3_w3, st3_w4, st3_w5, h5]
      refine g_iconst 52 rfl (v := 1) dX8_takesSize_51 (by decide) ?_
      refine g_zret rfl dX8_takesSize_52 (by first | exact Or.inl rfl | exact Or.inr rfl | assumption) ?_
      refine ⟨_, _, _, rfl, Or.inl ⟨rfl, (t.1, t.2.1, t.2.2.1, False, t.2.2.2.2.1, upd t.2.2.2.2.2 (txN t - 1) (c - 48)), by rw [stT, if_pos hd, if_pos ⟨Int32.not_lt.mp h3', Int32.not_lt.mp h9'⟩], ⟨hI.1, hI.2.1, fun h => h.elim⟩, ?_, ?_, ?_, ?_, Or.inr ⟨fun h => h, upd_at _ _ _⟩, hk, ?_⟩⟩
      · rw [pk_un (by decide)]; exact h2
      · rw [pk_un (by decide)]; exact h3
      · rw [pk_un (by decide)]; exact h4
      · rw [pk_un (by decide)]; exact h5
      · intro c' hc'
        by_cases e : c' = txN t - 1
        · subst e; rw [upd_at]; exact (upd_at _ _ _).symm
        · rw [pk_un e]; exact (hz c' hc').trans (pk_un e).symm
theorem ok_X8_takesRowEnd {l : Launch} {M : Mm} {f k z : Nat → Int32} {t : Tx} (hs : SR f k z t) (hd : ¬ t.2.2.2.1) : Ok GC l mX8_takesRowEnd [.ref 3] (ST3 M f k z) (qTk M 47 t) := by
  obtain ⟨hI, h2, h3, h4, h5, h6, hk, hz⟩ := hs
  obtain ⟨r, w, h, d, K, Z⟩ := t
  simp only [txN] at h2 h3 h4 h5 h6 hk hz hd
  obtain ⟨hr, hI2, -⟩ := hI
  simp only at hr hI2
  refine ok_of (by decide +kernel) rfl rfl ?_
  rcases hI2 with ⟨rfl, rfl, hh⟩ | ⟨h1, hw, hw6, hh⟩
  · have e4 : upd f 3 (nI h) 4 = nI h := by rw [pk_un (by decide)]; exact h4
    have e3 : upd f 3 (nI h) 3 = nI h := upd_at _ _ _
    have e2 : upd f 3 (nI h) 2 = nI 0 := by rw [pk_un (by decide)]; exact h2
    refine g_aload0 1 rfl dX8_takesRowEnd_0 ?_
    refine g_getI 4 rfl fX8_18 (by first | rfl | exact st_o hb | exact st_1 hb | exact st_2 hb | exact st_3 hb | exact st_4 hb | exact st_5 hb | exact st_o hb2 | exact st_1 hb2 | exact st_2 hb2 | exact st_3 hb2 | exact st_4 hb2 | exact st_5 hb2) rfl dX8_takesRowEnd_1 ?_
    try simp only [st3_3, st3_4, st3_5, st3_w3, st3_w4, st3_w5, h2, h3, h4]
    refine g_ifne 15 7 rfl dX8_takesRowEnd_4 (by decide) (fun q => absurd rfl q) (fun _ => ?_)
    refine g_aload0 8 rfl dX8_takesRowEnd_7 ?_
    refine g_aload0 9 rfl dX8_takesRowEnd_8 ?_
    refine g_getI 12 rfl fX8_25 (by first | rfl | exact st_o hb | exact st_1 hb | exact st_2 hb | exact st_3 hb | exact st_4 hb | exact st_5 hb | exact st_o hb2 | exact st_1 hb2 | exact st_2 hb2 | exact st_3 hb2 | exact st_4 hb2 | exact st_5 hb2) rfl dX8_takesRowEnd_9 ?_
    try simp only [st3_3, st3_4, st3_5, st3_w3, st3_w4, st3_w5, h2, h3, h4]
    refine g_putI 15 rfl fX8_22 (by first | rfl | exact st_o hb | exact st_1 hb | exact st_2 hb | exact st_3 hb | exact st_4 hb | exact st_5 hb | exact st_o hb2 | exact st_1 hb2 | exact st_2 hb2 | exact st_3 hb2 | exact st_4 hb2 | exact st_5 hb2) rfl dX8_takesRowEnd_12 ?_
    try simp only [st3_3, st3_4, st3_5, st3_w3, st3_w4, st3_w5, h2, h3, h4]
    refine g_aload0 16 rfl dX8_takesRowEnd_15 ?_
    refine g_getI 19 rfl fX8_25 (by first | rfl | exact st_o hb | exact st_1 hb | exact st_2 hb | exact st_3 hb | exact st_4 hb | exact st_5 hb | exact st_o hb2 | exact st_1 hb2 | exact st_2 hb2 | exact st_3 hb2 | exact st_4 hb2 | exact st_5 hb2) rfl dX8_takesRowEnd_16 ?_
    try simp only [st3_3, st3_4, st3_5, st3_w3, st3_w4, st3_w5, h2, h3, h4]
    refine g_iconst 20 rfl (v := 2) dX8_takesRowEnd_19 (by decide) ?_
    rw [e4]
    refine g_cmplt 44 23 rfl dX8_takesRowEnd_20 (by decide) (fun q => ?_) (fun q => ?_)
    · have : ¬ 2 ≤ h := fun z => absurd q (nI_nlt (b := 2) z (by omega))
      refine g_iconst 45 rfl (v := 0) dX8_takesRowEnd_44 (by decide) ?_
      refine g_zret rfl dX8_takesRowEnd_45 (by first | exact Or.inl rfl | exact Or.inr rfl | assumption) ?_
      refine ⟨_, _, _, rfl, Or.inr ⟨rfl, ?_⟩⟩
      simp [stT, hd, this]
    · have h2' : 2 ≤ h := Nat.le_of_not_lt (fun z => q (nI_lt (b := 2) z (by decide)))
      refine g_aload0 24 rfl dX8_takesRowEnd_23 ?_
      refine g_getI 27 rfl fX8_25 (by first | rfl | exact st_o hb | exact st_1 hb | exact st_2 hb | exact st_3 hb | exact st_4 hb | exact st_5 hb | exact st_o hb2 | exact st_1 hb2 | exact st_2 hb2 | exact st_3 hb2 | exact st_4 hb2 | exact st_5 hb2) rfl dX8_takesRowEnd_24 ?_
      try simp only [st3_3, st3_4, st3_5, st3_w3, st3_w4, st3_w5, h2, h3, h4]
      refine g_aload0 28 rfl dX8_takesRowEnd_27 ?_
      refine g_getI 31 rfl fX8_22 (by first | rfl | exact st_o hb | exact st_1 hb | exact st_2 hb | exact st_3 hb | exact st_4 hb | exact st_5 hb | exact st_o hb2 | exact st_1 hb2 | exact st_2 hb2 | exact st_3 hb2 | exact st_4 hb2 | exact st_5 hb2) rfl dX8_takesRowEnd_28 ?_
      try simp only [st3_3, st3_4, st3_5, st3_w3, st3_w4, st3_w5, h2, h3, h4]
      rw [e4, e3]
      refine g_cmpne 44 34 rfl dX8_takesRowEnd_31 (by decide) (fun q => absurd rfl q) (fun _ => ?_)
      refine g_aload0 35 rfl dX8_takesRowEnd_34 ?_
      refine g_getI 38 rfl fX8_18 (by first | rfl | exact st_o hb | exact st_1 hb | exact st_2 hb | exact st_3 hb | exact st_4 hb | exact st_5 hb | exact st_o hb2 | exact st_1 hb2 | exact st_2 hb2 | exact st_3 hb2 | exact st_4 hb2 | exact st_5 hb2) rfl dX8_takesRowEnd_35 ?_
      try simp only [st3_3, st3_4, st3_5, st3_w3, st3_w4, st3_w5, h2, h3, h4]
      refine g_iconst 39 rfl (v := 1) dX8_takesRowEnd_38 (by decide) ?_
      refine g_iadd 40 rfl dX8_takesRowEnd_39 ?_
      refine g_iconst 41 rfl (v := 5) dX8_takesRowEnd_40 (by decide) ?_
      rw [e2]
      refine g_cmplt 46 44 rfl dX8_takesRowEnd_41 (by decide) (fun _ => ?_) (fun q => absurd (by decide) q)
      refine g_aload0 47 rfl dX8_takesRowEnd_46 ?_
      refine g_dup 48 rfl dX8_takesRowEnd_47 rfl ?_
      refine g_getI 51 rfl fX8_18 (by first | rfl | exact st_o hb | exact st_1 hb | exact st_2 hb | exact st_3 hb | exact st_4 hb | exact st_5 hb | exact st_o hb2 | exact st_1 hb2 | exact st_2 hb2 | exact st_3 hb2 | exact st_4 hb2 | exact st_5 hb2) rfl dX8_takesRowEnd_48 ?_
      try simp only [st3_3, st3_4, st3_5, st3_w3, st3_w4, st3_w5, h2, h3, h4]
      refine g_iconst 52 rfl (v := 1) dX8_takesRowEnd_51 (by decide) ?_
      refine g_iadd 53 rfl dX8_takesRowEnd_52 ?_
      refine g_putI 56 rfl fX8_18 (by first | rfl | exact st_o hb | exact st_1 hb | exact st_2 hb | exact st_3 hb | exact st_4 hb | exact st_5 hb | exact st_o hb2 | exact st_1 hb2 | exact st_2 hb2 | exact st_3 hb2 | exact st_4 hb2 | exact st_5 hb2) rfl dX8_takesRowEnd_53 ?_
      try simp only [st3_3, st3_4, st3_5, st3_w3, st3_w4, st3_w5, h2, h3, h4]
      refine g_aload0 57 rfl dX8_takesRowEnd_56 ?_
      refine g_iconst 58 rfl (v := 0) dX8_takesRowEnd_57 (by decide) ?_
      refine g_putI 61 rfl fX8_25 (by first | rfl | exact st_o hb | exact st_1 hb | exact st_2 hb | exact st_3 hb | exact st_4 hb | exact st_5 hb | exact st_o hb2 | exact st_1 hb2 | exact st_2 hb2 | exact st_3 hb2 | exact st_4 hb2 | exact st_5 hb2) rfl dX8_takesRowEnd_58 ?_
      try simp only [st3_3, st3_4, st3_5, st3_w3, st3_w4, st3_w5, h2, h3, h4]
      refine g_iconst 62 rfl (v := 1) dX8_takesRowEnd_61 (by decide) ?_
      refine g_zret rfl dX8_takesRowEnd_62 (by first | exact Or.inl rfl | exact Or.inr rfl | assumption) ?_
      rw [e2]
      refine ⟨_, _, _, rfl, Or.inl ⟨rfl, (1, h, 0, False, K, Z), by simp [stT, hd, h2'], ⟨(show (1 : Nat) ≤ 4 by decide), Or.inr ⟨(show (1 : Nat) ≤ 1 by decide), h2', hh, Nat.zero_le _⟩, fun h => h.elim⟩, ?_, ?_, ?_, ?_, Or.inr ⟨fun h => h, ?_⟩, ?_, ?_⟩⟩
      · rw [pk_un (by decide), upd_at]; rfl
      · rw [pk_un (by decide), pk_un (by decide)]; exact e3
      · rw [upd_at]; rfl
      · rw [pk_un (by decide), pk_un (by decide), pk_un (by decide), h5]; simp [txN]
      · rw [pk_un (by decide), pk_un (by decide), pk_un (by decide)]; exact (h6.resolve_left (fun q => hd q.1)).2
      · intro c hc; exact hk c (by simp [txN] at hc; omega)
      · intro c hc; exact hz c (by simp [txN] at hc; omega)
  · refine g_aload0 1 rfl dX8_takesRowEnd_0 ?_
    refine g_getI 4 rfl fX8_18 (by first | rfl | exact st_o hb | exact st_1 hb | exact st_2 hb | exact st_3 hb | exact st_4 hb | exact st_5 hb | exact st_o hb2 | exact st_1 hb2 | exact st_2 hb2 | exact st_3 hb2 | exact st_4 hb2 | exact st_5 hb2) rfl dX8_takesRowEnd_1 ?_
    try simp only [st3_3, st3_4, st3_5, st3_w3, st3_w4, st3_w5, h2, h3, h4]
    refine g_ifne 15 7 rfl dX8_takesRowEnd_4 (by decide) (fun _ => ?_) (fun q => absurd q (nI_ne0 h1 (by omega)))
    refine g_aload0 16 rfl dX8_takesRowEnd_15 ?_
    refine g_getI 19 rfl fX8_25 (by first | rfl | exact st_o hb | exact st_1 hb | exact st_2 hb | exact st_3 hb | exact st_4 hb | exact st_5 hb | exact st_o hb2 | exact st_1 hb2 | exact st_2 hb2 | exact st_3 hb2 | exact st_4 hb2 | exact st_5 hb2) rfl dX8_takesRowEnd_16 ?_
    try simp only [st3_3, st3_4, st3_5, st3_w3, st3_w4, st3_w5, h2, h3, h4]
    refine g_iconst 20 rfl (v := 2) dX8_takesRowEnd_19 (by decide) ?_
    have r0 : ¬ r = 0 := by omega
    refine g_cmplt 44 23 rfl dX8_takesRowEnd_20 (by decide) (fun q => ?_) (fun q => ?_)
    · have : ¬ 2 ≤ h := fun z => absurd q (nI_nlt (b := 2) z (by omega))
      refine g_iconst 45 rfl (v := 0) dX8_takesRowEnd_44 (by decide) ?_
      refine g_zret rfl dX8_takesRowEnd_45 (by first | exact Or.inl rfl | exact Or.inr rfl | assumption) ?_
      refine ⟨_, _, _, rfl, Or.inr ⟨rfl, ?_⟩⟩
      simp only [stT, hd, if_false, if_true, r0]
      rw [if_neg (fun z => by omega)]
    · refine g_aload0 24 rfl dX8_takesRowEnd_23 ?_
      refine g_getI 27 rfl fX8_25 (by first | rfl | exact st_o hb | exact st_1 hb | exact st_2 hb | exact st_3 hb | exact st_4 hb | exact st_5 hb | exact st_o hb2 | exact st_1 hb2 | exact st_2 hb2 | exact st_3 hb2 | exact st_4 hb2 | exact st_5 hb2) rfl dX8_takesRowEnd_24 ?_
      try simp only [st3_3, st3_4, st3_5, st3_w3, st3_w4, st3_w5, h2, h3, h4]
      refine g_aload0 28 rfl dX8_takesRowEnd_27 ?_
      refine g_getI 31 rfl fX8_22 (by first | rfl | exact st_o hb | exact st_1 hb | exact st_2 hb | exact st_3 hb | exact st_4 hb | exact st_5 hb | exact st_o hb2 | exact st_1 hb2 | exact st_2 hb2 | exact st_3 hb2 | exact st_4 hb2 | exact st_5 hb2) rfl dX8_takesRowEnd_28 ?_
      try simp only [st3_3, st3_4, st3_5, st3_w3, st3_w4, st3_w5, h2, h3, h4]
      refine g_cmpne 44 34 rfl dX8_takesRowEnd_31 (by decide) (fun q => ?_) (fun q => ?_)
      · have : ¬ h = w := fun z => q (by rw [z])
        refine g_iconst 45 rfl (v := 0) dX8_takesRowEnd_44 (by decide) ?_
        refine g_zret rfl dX8_takesRowEnd_45 (by first | exact Or.inl rfl | exact Or.inr rfl | assumption) ?_
        refine ⟨_, _, _, rfl, Or.inr ⟨rfl, ?_⟩⟩
        simp only [stT, hd, if_false, if_true, r0]
        rw [if_neg (fun z => this z.1)]
      · have hw2 : h = w := (nI_eq (by omega) (by omega)).mp q
        refine g_aload0 35 rfl dX8_takesRowEnd_34 ?_
        refine g_getI 38 rfl fX8_18 (by first | rfl | exact st_o hb | exact st_1 hb | exact st_2 hb | exact st_3 hb | exact st_4 hb | exact st_5 hb | exact st_o hb2 | exact st_1 hb2 | exact st_2 hb2 | exact st_3 hb2 | exact st_4 hb2 | exact st_5 hb2) rfl dX8_takesRowEnd_35 ?_
        try simp only [st3_3, st3_4, st3_5, st3_w3, st3_w4, st3_w5, h2, h3, h4]
        refine g_iconst 39 rfl (v := 1) dX8_takesRowEnd_38 (by decide) ?_
        refine g_iadd 40 rfl dX8_takesRowEnd_39 ?_
        refine g_iconst 41 rfl (v := 5) dX8_takesRowEnd_40 (by decide) ?_
        rw [nI_1]
        refine g_cmplt 46 44 rfl dX8_takesRowEnd_41 (by decide) (fun q2 => ?_) (fun q2 => ?_)
        · have h4' : r < 4 := by
            have := (nI_ltI (a := r + 1) (b := 5) (by omega) (by decide)).mp q2
            omega
          refine g_aload0 47 rfl dX8_takesRowEnd_46 ?_
          refine g_dup 48 rfl dX8_takesRowEnd_47 rfl ?_
          refine g_getI 51 rfl fX8_18 (by first | rfl | exact st_o hb | exact st_1 hb | exact st_2 hb | exact st_3 hb | exact st_4 hb | exact st_5 hb | exact st_o hb2 | exact st_1 hb2 | exact st_2 hb2 | exact st_3 hb2 | exact st_4 hb2 | exact st_5 hb2) rfl dX8_takesRowEnd_48 ?_
          try simp only [st3_3, st3_4, st3_5, st3_w3, st3_w4, st3_w5, h2, h3, h4]
          refine g_iconst 52 rfl (v := 1) dX8_takesRowEnd_51 (by decide) ?_
          refine g_iadd 53 rfl dX8_takesRowEnd_52 ?_
          refine g_putI 56 rfl fX8_18 (by first | rfl | exact st_o hb | exact st_1 hb | exact st_2 hb | exact st_3 hb | exact st_4 hb | exact st_5 hb | exact st_o hb2 | exact st_1 hb2 | exact st_2 hb2 | exact st_3 hb2 | exact st_4 hb2 | exact st_5 hb2) rfl dX8_takesRowEnd_53 ?_
          try simp only [st3_3, st3_4, st3_5, st3_w3, st3_w4, st3_w5, h2, h3, h4]
          refine g_aload0 57 rfl dX8_takesRowEnd_56 ?_
          refine g_iconst 58 rfl (v := 0) dX8_takesRowEnd_57 (by decide) ?_
          refine g_putI 61 rfl fX8_25 (by first | rfl | exact st_o hb | exact st_1 hb | exact st_2 hb | exact st_3 hb | exact st_4 hb | exact st_5 hb | exact st_o hb2 | exact st_1 hb2 | exact st_2 hb2 | exact st_3 hb2 | exact st_4 hb2 | exact st_5 hb2) rfl dX8_takesRowEnd_58 ?_
          try simp only [st3_3, st3_4, st3_5, st3_w3, st3_w4, st3_w5, h2, h3, h4]
          refine g_iconst 62 rfl (v := 1) dX8_takesRowEnd_61 (by decide) ?_
          refine g_zret rfl dX8_takesRowEnd_62 (by first | exact Or.inl rfl | exact Or.inr rfl | assumption) ?_
          rw [nI_1]
          refine ⟨_, _, _, rfl, Or.inl ⟨rfl, (r + 1, w, 0, False, K, Z), ?_, ⟨by omega, Or.inr ⟨by omega, hw, hw6, Nat.zero_le _⟩, fun h => h.elim⟩, ?_, ?_, ?_, ?_, Or.inr ⟨fun h => h, ?_⟩, ?_, ?_⟩⟩
          · simp only [stT, hd, if_false, if_true, r0]; rw [if_pos ⟨hw2, h4'⟩]
          · rw [pk_un (by decide), upd_at]
          · rw [pk_un (by decide), pk_un (by decide)]; exact h3
          · rw [upd_at]; rfl
          · rw [pk_un (by decide), pk_un (by decide), h5]; simp only [txN]; rw [hw2, Nat.add_mul, Nat.one_mul, Nat.add_zero]
          · rw [pk_un (by decide), pk_un (by decide)]; exact (h6.resolve_left (fun q => hd q.1)).2
          · intro c hc; refine hk c ?_; simp only [txN, Nat.add_mul, Nat.one_mul] at hc; omega
          · intro c hc; refine hz c ?_; simp only [txN, Nat.add_mul, Nat.one_mul] at hc; omega
        · have : ¬ r < 4 := fun z => q2 (nI_lt (a := r + 1) (b := 5) (by omega) (by decide))
          refine g_iconst 45 rfl (v := 0) dX8_takesRowEnd_44 (by decide) ?_
          refine g_zret rfl dX8_takesRowEnd_45 (by first | exact Or.inl rfl | exact Or.inr rfl | assumption) ?_
          refine ⟨_, _, _, rfl, Or.inr ⟨rfl, ?_⟩⟩
          simp only [stT, hd, if_false, if_true, r0]
          rw [if_neg (fun z => this z.2)]
