/-! the document's state, and the class's object that holds it -/
/-- rows, width, street, letters of the page, the page, carts, stones of the heap, their sizes, streets read, the image's street (0: none), the image, how often first() was done -/
abbrev Sg : Type := Nat × Nat × Sx × Nat × (Nat → Int32) × Ct × Nat × (Nat → Int32) × Nat × Nat × Sx × Nat
def gR (g : Sg) : Nat := g.1
def gW (g : Sg) : Nat := g.2.1
def gX (g : Sg) : Sx := g.2.2.1
def gL (g : Sg) : Nat := g.2.2.2.1
def gP (g : Sg) : Nat → Int32 := g.2.2.2.2.1
def gK (g : Sg) : Ct := g.2.2.2.2.2.1
def gM (g : Sg) : Nat := g.2.2.2.2.2.2.1
def gZ (g : Sg) : Nat → Int32 := g.2.2.2.2.2.2.2.1
def gS (g : Sg) : Nat := g.2.2.2.2.2.2.2.2.1
def gI (g : Sg) : Nat := g.2.2.2.2.2.2.2.2.2.1
def gV (g : Sg) : Sx := g.2.2.2.2.2.2.2.2.2.2.1
def gF (g : Sg) : Nat := g.2.2.2.2.2.2.2.2.2.2.2
abbrev gN (g : Sg) : Nat := gR g * gW g
def sgX (g : Sg) (x : Sx) : Sg := (g.1, g.2.1, x, g.2.2.2)
def sgP (g : Sg) (L : Nat) (p : Nat → Int32) : Sg := (g.1, g.2.1, g.2.2.1, L, p, g.2.2.2.2.2)
def sgK (g : Sg) (k : Ct) : Sg := (g.1, g.2.1, g.2.2.1, g.2.2.2.1, g.2.2.2.2.1, k, g.2.2.2.2.2.2)
def sgH (g : Sg) (m : Nat) (z : Nat → Int32) : Sg := (g.1, g.2.1, g.2.2.1, g.2.2.2.1, g.2.2.2.2.1, g.2.2.2.2.2.1, m, z, g.2.2.2.2.2.2.2.2)
def sgI (g : Sg) (i : Nat) (v : Sx) : Sg := (g.1, g.2.1, g.2.2.1, g.2.2.2.1, g.2.2.2.2.1, g.2.2.2.2.2.1, g.2.2.2.2.2.2.1, g.2.2.2.2.2.2.2.1, g.2.2.2.2.2.2.2.2.1, i, v, g.2.2.2.2.2.2.2.2.2.2.2)
def sgF (g : Sg) (f : Nat) : Sg := (g.1, g.2.1, g.2.2.1, g.2.2.2.1, g.2.2.2.2.1, g.2.2.2.2.2.1, g.2.2.2.2.2.2.1, g.2.2.2.2.2.2.2.1, g.2.2.2.2.2.2.2.2.1, g.2.2.2.2.2.2.2.2.2.1, g.2.2.2.2.2.2.2.2.2.2.1, f)
/-- numbers of the state that stay in bounds -/
def gOk (g : Sg) : Prop := (0 < gN g ↔ 0 < gS g) ∧ gS g < 1000000 ∧ gI g ≤ gS g ∧ gF g ≤ 20
def CS (g : Sg) (M : Mm) : Prop := Plan M (gR g) (gW g) ∧ sxE (gN g) (vC M 15) (gX g) ∧ Pg M (gL g) (gP g) ∧ Crt M 9 (gK g) ∧ Hp M (gM g) (gZ g) ∧ M.1 0 14 = nI (gS g) ∧ M.1 0 15 = (if gI g = 0 then -1 else nI (gI g)) ∧ (gI g ≠ 0 → gI g = gS g → sxE (gN g) (vC M 27) (gV g)) ∧ M.1 0 16 = nI (gF g) ∧ gOk g
/-- the rows that hold the state; the others are scratch -/
def kpC (h : Nat) : Prop := h ≤ 2 ∨ (9 ≤ h ∧ h ≤ 20) ∨ (27 ≤ h ∧ h ≤ 32) ∨ (42 ≤ h ∧ h ≤ 44)
theorem CS.fr {g : Sg} {M N : Mm} (h : CS g M) (hk : ∀ q, kpC q → N.1 q = M.1 q) : CS g N := by
  obtain ⟨h1, h2, h3, h4, h5, h6, h7, h8, h9, h10⟩ := h
  have e : ∀ q, (q ≤ 2 ∨ (9 ≤ q ∧ q ≤ 20) ∨ (27 ≤ q ∧ q ≤ 32) ∨ (42 ≤ q ∧ q ≤ 44)) → N.1 q = M.1 q := hk
  have v15 : vC N 15 = vC M 15 := by unfold vC; rw [e (15 + 1) (by omega), e (15 + 2) (by omega), e (15 + 3) (by omega), e (15 + 4) (by omega), e (15 + 5) (by omega), e 15 (by omega)]
  have v27 : vC N 27 = vC M 27 := by unfold vC; rw [e (27 + 1) (by omega), e (27 + 2) (by omega), e (27 + 3) (by omega), e (27 + 4) (by omega), e (27 + 5) (by omega), e 27 (by omega)]
  refine ⟨?_, by rw [v15]; exact h2, ?_, ?_, ?_, by rw [e 0 (by omega)]; exact h6, by rw [e 0 (by omega)]; exact h7, by rw [v27]; exact h8, by rw [e 0 (by omega)]; exact h9, h10⟩
  · unfold Plan; rw [e 12 (by omega), e 13 (by omega), e 14 (by omega)]; exact h1
  · unfold Pg; rw [e 1 (by omega), e 2 (by omega)]; exact h3
  · unfold Crt; rw [e 9 (by omega), e (9 + 1) (by omega), e (9 + 2) (by omega)]; exact h4
  · unfold Hp; rw [e 42 (by omega), e 43 (by omega), e 44 (by omega)]; exact h5
theorem CS.now {g : Sg} {M : Mm} {y x : Sx} (h : CS g M) (hy : sxE (gN g) y x) : CS (sgX g x) (pC M 15 y) := by
  obtain ⟨h1, h2, h3, h4, h5, h6, h7, h8, h9, h10⟩ := h
  have e : ∀ q, (q < 15 ∨ 20 < q) → (pC M 15 y).1 q = M.1 q := fun q hq => pC_o (by omega)
  have v27 : vC (pC M 15 y) 27 = vC M 27 := by unfold vC; rw [e (27 + 1) (by omega), e (27 + 2) (by omega), e (27 + 3) (by omega), e (27 + 4) (by omega), e (27 + 5) (by omega), e 27 (by omega)]
  refine ⟨pC_plan (Or.inl rfl) h1, by rw [vC_pC]; exact hy, ?_, ?_, ?_, by rw [e 0 (by omega)]; exact h6, by rw [e 0 (by omega)]; exact h7, by rw [v27]; exact h8, by rw [e 0 (by omega)]; exact h9, h10⟩
  · unfold Pg; rw [e 1 (by omega), e 2 (by omega)]; exact h3
  · unfold Crt; rw [e 9 (by omega), e (9 + 1) (by omega), e (9 + 2) (by omega)]; exact h4
  · unfold Hp; rw [e 42 (by omega), e 43 (by omega), e 44 (by omega)]; exact h5
/-! small questions -/
abbrev qB (M : Mm) (c : Prop) : Rr → Mm → Prop := fun r M' => M' = M ∧ ((r = some (.inl 1) ∧ c) ∨ (r = some (.inl 0) ∧ ¬ c))
theorem in_nI {n : Nat} {a : Int32} (hn : n < 2 ^ 31) : vp_in a n ↔ ¬ a < 0 ∧ ¬ nI n ≤ a := by
  rw [vp_in_iff, Int32.lt_iff_toInt_lt, Int32.le_iff_toInt_le, nI_toInt hn, tI0]
  omega
theorem ok_isCell {l : Launch} {M : Mm} {R W : Nat} {a : Int32} (hp : Plan M R W) : Ok GC l mX11_isCell [.ref 0, .int a] M (qB M (vp_in a (R * W))) := by
  have hN := hp.2.2.2.1
  have h30 := hp.1.le
  refine ok_of (by decide +kernel) rfl rfl ?_
  refine g_iload1 1 rfl dX11_isCell_0 ?_
  refine g_iflt 19 4 rfl dX11_isCell_1 (by decide) (fun h1 => ?_) (fun h1 => ?_)
  · refine g_iconst 20 rfl (v := 0) dX11_isCell_19 (by decide) ?_
    refine g_zret rfl dX11_isCell_20 (by first | exact Or.inl rfl | exact Or.inr rfl | assumption) ?_
    refine ⟨rfl, ?_⟩
    first | exact Or.inl ⟨rfl, (in_nI (by omega)).mpr ⟨h1, h12⟩⟩ | exact Or.inr ⟨rfl, fun q => ((in_nI (by omega)).mp q).1 h1⟩ | exact Or.inr ⟨rfl, fun q => ((in_nI (by omega)).mp q).2 h12⟩
  · refine g_iload1 5 rfl dX11_isCell_4 ?_
    refine g_aload0 6 rfl dX11_isCell_5 ?_
    refine g_getR 9 rfl fX11_36 (by first | rfl | exact st_o hb | exact st_1 hb | exact st_2 hb | exact st_3 hb | exact st_4 hb | exact st_5 hb | exact st_o hb2 | exact st_1 hb2 | exact st_2 hb2 | exact st_3 hb2 | exact st_4 hb2 | exact st_5 hb2) rfl dX11_isCell_6 ?_
    refine g_getI 12 rfl fX11_144 (by first | rfl | exact st_o hb | exact st_1 hb | exact st_2 hb | exact st_3 hb | exact st_4 hb | exact st_5 hb | exact st_o hb2 | exact st_1 hb2 | exact st_2 hb2 | exact st_3 hb2 | exact st_4 hb2 | exact st_5 hb2) rfl dX11_isCell_9 ?_
    try simp only [hN]
    refine g_cmpge 19 15 rfl dX11_isCell_12 (by decide) (fun h12 => ?_) (fun h12 => ?_)
    · refine g_iconst 20 rfl (v := 0) dX11_isCell_19 (by decide) ?_
      refine g_zret rfl dX11_isCell_20 (by first | exact Or.inl rfl | exact Or.inr rfl | assumption) ?_
      refine ⟨rfl, ?_⟩
      first | exact Or.inl ⟨rfl, (in_nI (by omega)).mpr ⟨h1, h12⟩⟩ | exact Or.inr ⟨rfl, fun q => ((in_nI (by omega)).mp q).1 h1⟩ | exact Or.inr ⟨rfl, fun q => ((in_nI (by omega)).mp q).2 h12⟩
    · refine g_iconst 16 rfl (v := 1) dX11_isCell_15 (by decide) ?_
      refine g_goto 20 dX11_isCell_16 (by decide) ?_
      refine g_zret rfl dX11_isCell_20 (by first | exact Or.inl rfl | exact Or.inr rfl | assumption) ?_
      refine ⟨rfl, ?_⟩
      first | exact Or.inl ⟨rfl, (in_nI (by omega)).mpr ⟨h1, h12⟩⟩ | exact Or.inr ⟨rfl, fun q => ((in_nI (by omega)).mp q).1 h1⟩ | exact Or.inr ⟨rfl, fun q => ((in_nI (by omega)).mp q).2 h12⟩
theorem ok_isRow {l : Launch} {M : Mm} {R W : Nat} {a : Int32} (hp : Plan M R W) : Ok GC l mX11_isRow [.ref 0, .int a] M (qB M (vp_in a R)) := by
  have hN := hp.2.1
  have hr5 : R ≤ 30 := by rcases hp.1 with ⟨rfl, rfl⟩ | ⟨h1, h2, h3, h4⟩ <;> omega
  refine ok_of (by decide +kernel) rfl rfl ?_
  refine g_iload1 1 rfl dX11_isRow_0 ?_
  refine g_iflt 19 4 rfl dX11_isRow_1 (by decide) (fun h1 => ?_) (fun h1 => ?_)
  · refine g_iconst 20 rfl (v := 0) dX11_isRow_19 (by decide) ?_
    refine g_zret rfl dX11_isRow_20 (by first | exact Or.inl rfl | exact Or.inr rfl | assumption) ?_
    refine ⟨rfl, ?_⟩
    first | exact Or.inl ⟨rfl, (in_nI (by omega)).mpr ⟨h1, h12⟩⟩ | exact Or.inr ⟨rfl, fun q => ((in_nI (by omega)).mp q).1 h1⟩ | exact Or.inr ⟨rfl, fun q => ((in_nI (by omega)).mp q).2 h12⟩
  · refine g_iload1 5 rfl dX11_isRow_4 ?_
    refine g_aload0 6 rfl dX11_isRow_5 ?_
    refine g_getR 9 rfl fX11_36 (by first | rfl | exact st_o hb | exact st_1 hb | exact st_2 hb | exact st_3 hb | exact st_4 hb | exact st_5 hb | exact st_o hb2 | exact st_1 hb2 | exact st_2 hb2 | exact st_3 hb2 | exact st_4 hb2 | exact st_5 hb2) rfl dX11_isRow_6 ?_
    refine g_getI 12 rfl fX11_326 (by first | rfl | exact st_o hb | exact st_1 hb | exact st_2 hb | exact st_3 hb | exact st_4 hb | exact st_5 hb | exact st_o hb2 | exact st_1 hb2 | exact st_2 hb2 | exact st_3 hb2 | exact st_4 hb2 | exact st_5 hb2) rfl dX11_isRow_9 ?_
    try simp only [hN]
    refine g_cmpge 19 15 rfl dX11_isRow_12 (by decide) (fun h12 => ?_) (fun h12 => ?_)
    · refine g_iconst 20 rfl (v := 0) dX11_isRow_19 (by decide) ?_
      refine g_zret rfl dX11_isRow_20 (by first | exact Or.inl rfl | exact Or.inr rfl | assumption) ?_
      refine ⟨rfl, ?_⟩
      first | exact Or.inl ⟨rfl, (in_nI (by omega)).mpr ⟨h1, h12⟩⟩ | exact Or.inr ⟨rfl, fun q => ((in_nI (by omega)).mp q).1 h1⟩ | exact Or.inr ⟨rfl, fun q => ((in_nI (by omega)).mp q).2 h12⟩
    · refine g_iconst 16 rfl (v := 1) dX11_isRow_15 (by decide) ?_
      refine g_goto 20 dX11_isRow_16 (by decide) ?_
      refine g_zret rfl dX11_isRow_20 (by first | exact Or.inl rfl | exact Or.inr rfl | assumption) ?_
      refine ⟨rfl, ?_⟩
      first | exact Or.inl ⟨rfl, (in_nI (by omega)).mpr ⟨h1, h12⟩⟩ | exact Or.inr ⟨rfl, fun q => ((in_nI (by omega)).mp q).1 h1⟩ | exact Or.inr ⟨rfl, fun q => ((in_nI (by omega)).mp q).2 h12⟩
theorem ok_hasStreet {l : Launch} {M : Mm} {R W : Nat} (hp : Plan M R W) : Ok GC l mX11_hasStreet [.ref 0] M (qB M (0 < R * W)) := by
  have hN := hp.2.2.2.1
  have h30 := hp.1.le
  refine ok_of (by decide +kernel) rfl rfl ?_
  refine g_aload0 1 rfl dX11_hasStreet_0 ?_
  refine g_getR 4 rfl fX11_36 (by first | rfl | exact st_o hb | exact st_1 hb | exact st_2 hb | exact st_3 hb | exact st_4 hb | exact st_5 hb | exact st_o hb2 | exact st_1 hb2 | exact st_2 hb2 | exact st_3 hb2 | exact st_4 hb2 | exact st_5 hb2) rfl dX11_hasStreet_1 ?_
  refine g_getI 7 rfl fX11_144 (by first | rfl | exact st_o hb | exact st_1 hb | exact st_2 hb | exact st_3 hb | exact st_4 hb | exact st_5 hb | exact st_o hb2 | exact st_1 hb2 | exact st_2 hb2 | exact st_3 hb2 | exact st_4 hb2 | exact st_5 hb2) rfl dX11_hasStreet_4 ?_
  try simp only [hN]
  refine g_ifle 14 10 rfl dX11_hasStreet_7 (by decide) (fun h7 => ?_) (fun h7 => ?_)
  · refine g_iconst 15 rfl (v := 0) dX11_hasStreet_14 (by decide) ?_
    refine g_zret rfl dX11_hasStreet_15 (by first | exact Or.inl rfl | exact Or.inr rfl | assumption) ?_
    refine ⟨rfl, ?_⟩
    first | exact Or.inr ⟨rfl, fun q => absurd h7 (nI_nle q (by omega))⟩ | exact Or.inl ⟨rfl, Nat.pos_of_ne_zero (fun q => h7 (by rw [q]; decide))⟩
  · refine g_iconst 11 rfl (v := 1) dX11_hasStreet_10 (by decide) ?_
    refine g_goto 15 dX11_hasStreet_11 (by decide) ?_
    refine g_zret rfl dX11_hasStreet_15 (by first | exact Or.inl rfl | exact Or.inr rfl | assumption) ?_
    refine ⟨rfl, ?_⟩
    first | exact Or.inr ⟨rfl, fun q => absurd h7 (nI_nle q (by omega))⟩ | exact Or.inl ⟨rfl, Nat.pos_of_ne_zero (fun q => h7 (by rw [q]; decide))⟩
theorem ok_hasTraffic {l : Launch} {M : Mm} {R W : Nat} {k : Ct} (hp : Plan M R W) (hk : Crt M 9 k) : Ok GC l mX11_hasTraffic [.ref 0] M (qB M (0 < R * W ∧ 0 < k.1)) := by
  have hN := hk.2.1
  have h6 := hk.1
  refine ok_of (by decide +kernel) rfl rfl ?_
  refine g_aload0 1 rfl dX11_hasTraffic_0 ?_
  refine g_callV 4 0 rfl kX11_171 (by first | rfl | exact st_o hb | exact st_1 hb | exact st_2 hb | exact st_3 hb | exact st_4 hb | exact st_5 hb | exact st_o hb2 | exact st_1 hb2 | exact st_2 hb2 | exact st_3 hb2 | exact st_4 hb2 | exact st_5 hb2) dX11_hasTraffic_1 ⟨rfl, rfl⟩ (ok_hasStreet hp) rfl rfl rfl (fun r M1 hq => ?_)
  obtain ⟨rfl, ⟨rfl, hq⟩ | ⟨rfl, hq⟩⟩ := hq
  try simp only [rV, Option.toList, List.cons_append, List.nil_append]
  · refine g_ifeq 21 7 rfl dX11_hasTraffic_4 (by decide) (fun h4 => ?_) (fun h4 => ?_)
    · refine g_iconst 22 rfl (v := 0) dX11_hasTraffic_21 (by decide) ?_
      refine g_zret rfl dX11_hasTraffic_22 (by first | exact Or.inl rfl | exact Or.inr rfl | assumption) ?_
      refine ⟨rfl, ?_⟩
      first | exact absurd h4 (by decide) | exact Or.inr ⟨rfl, fun q => absurd h14 (nI_nle q.2 (by omega))⟩ | exact Or.inl ⟨rfl, hq, Nat.pos_of_ne_zero (fun q => h14 (by rw [q]; decide))⟩
    · refine g_aload0 8 rfl dX11_hasTraffic_7 ?_
      refine g_getR 11 rfl fX11_30 (by first | rfl | exact st_o hb | exact st_1 hb | exact st_2 hb | exact st_3 hb | exact st_4 hb | exact st_5 hb | exact st_o hb2 | exact st_1 hb2 | exact st_2 hb2 | exact st_3 hb2 | exact st_4 hb2 | exact st_5 hb2) rfl dX11_hasTraffic_8 ?_
      refine g_getI 14 rfl fX11_152 (by first | rfl | exact st_o hb | exact st_1 hb | exact st_2 hb | exact st_3 hb | exact st_4 hb | exact st_5 hb | exact st_o hb2 | exact st_1 hb2 | exact st_2 hb2 | exact st_3 hb2 | exact st_4 hb2 | exact st_5 hb2) rfl dX11_hasTraffic_11 ?_
      try simp only [hN]
      refine g_ifle 21 17 rfl dX11_hasTraffic_14 (by decide) (fun h14 => ?_) (fun h14 => ?_)
      · refine g_iconst 22 rfl (v := 0) dX11_hasTraffic_21 (by decide) ?_
        refine g_zret rfl dX11_hasTraffic_22 (by first | exact Or.inl rfl | exact Or.inr rfl | assumption) ?_
        refine ⟨rfl, ?_⟩
        first | exact absurd h4 (by decide) | exact Or.inr ⟨rfl, fun q => absurd h14 (nI_nle q.2 (by omega))⟩ | exact Or.inl ⟨rfl, hq, Nat.pos_of_ne_zero (fun q => h14 (by rw [q]; decide))⟩
      · refine g_iconst 18 rfl (v := 1) dX11_hasTraffic_17 (by decide) ?_
        refine g_goto 22 dX11_hasTraffic_18 (by decide) ?_
        refine g_zret rfl dX11_hasTraffic_22 (by first | exact Or.inl rfl | exact Or.inr rfl | assumption) ?_
        refine ⟨rfl, ?_⟩
        first | exact absurd h4 (by decide) | exact Or.inr ⟨rfl, fun q => absurd h14 (nI_nle q.2 (by omega))⟩ | exact Or.inl ⟨rfl, hq, Nat.pos_of_ne_zero (fun q => h14 (by rw [q]; decide))⟩
  · refine g_ifeq 21 7 rfl dX11_hasTraffic_4 (by decide) (fun _ => ?_) (fun h => absurd rfl h)
    refine g_iconst 22 rfl (v := 0) dX11_hasTraffic_21 (by decide) ?_
    refine g_zret rfl dX11_hasTraffic_22 (by first | exact Or.inl rfl | exact Or.inr rfl | assumption) ?_
    exact ⟨rfl, Or.inr ⟨rfl, fun q => hq q.1⟩⟩
theorem ok_isOrder {l : Launch} {M : Mm} {a : Int32} : Ok GC l mX11_isOrder [.int a] M (qB M (vp_in a 4)) := by
  refine ok_of (by decide +kernel) rfl rfl ?_
  refine g_iload0 1 rfl dX11_isOrder_0 ?_
  refine g_iflt 13 4 rfl dX11_isOrder_1 (by decide) (fun h1 => ?_) (fun h1 => ?_)
  · refine g_iconst 14 rfl (v := 0) dX11_isOrder_13 (by decide) ?_
    refine g_zret rfl dX11_isOrder_14 (by first | exact Or.inl rfl | exact Or.inr rfl | assumption) ?_
    refine ⟨rfl, ?_⟩
    first | exact Or.inl ⟨rfl, (in_nI (by decide)).mpr ⟨h1, h6⟩⟩ | exact Or.inr ⟨rfl, fun q => ((in_nI (by decide)).mp q).1 h1⟩ | exact Or.inr ⟨rfl, fun q => ((in_nI (by decide)).mp q).2 h6⟩
  · refine g_iload0 5 rfl dX11_isOrder_4 ?_
    refine g_iconst 6 rfl (v := 4) dX11_isOrder_5 (by decide) ?_
    refine g_cmpge 13 9 rfl dX11_isOrder_6 (by decide) (fun h6 => ?_) (fun h6 => ?_)
    · refine g_iconst 14 rfl (v := 0) dX11_isOrder_13 (by decide) ?_
      refine g_zret rfl dX11_isOrder_14 (by first | exact Or.inl rfl | exact Or.inr rfl | assumption) ?_
      refine ⟨rfl, ?_⟩
      first | exact Or.inl ⟨rfl, (in_nI (by decide)).mpr ⟨h1, h6⟩⟩ | exact Or.inr ⟨rfl, fun q => ((in_nI (by decide)).mp q).1 h1⟩ | exact Or.inr ⟨rfl, fun q => ((in_nI (by decide)).mp q).2 h6⟩
    · refine g_iconst 10 rfl (v := 1) dX11_isOrder_9 (by decide) ?_
      refine g_goto 14 dX11_isOrder_10 (by decide) ?_
      refine g_zret rfl dX11_isOrder_14 (by first | exact Or.inl rfl | exact Or.inr rfl | assumption) ?_
      refine ⟨rfl, ?_⟩
      first | exact Or.inl ⟨rfl, (in_nI (by decide)).mpr ⟨h1, h6⟩⟩ | exact Or.inr ⟨rfl, fun q => ((in_nI (by decide)).mp q).1 h1⟩ | exact Or.inr ⟨rfl, fun q => ((in_nI (by decide)).mp q).2 h6⟩
def okW (a : Int32) : Prop := 1 ≤ a ∧ a ≤ 99
def okL (a : Int32) : Prop := 1 ≤ a ∧ a ≤ 9999
def okZ (a : Int32) : Prop := 1 ≤ a ∧ a ≤ 9
def okY (a f : Int32) : Prop := 1 ≤ a ∧ a ≤ 20 ∧ 0 ≤ f ∧ f ≤ 10
theorem ok_isWeight {l : Launch} {M : Mm} {a : Int32} : Ok GC l mX11_isWeight [.int a] M (qB M (okW a)) := by
  refine ok_of (by decide +kernel) rfl rfl ?_
  refine g_iload0 1 rfl dX11_isWeight_0 ?_
  refine g_iconst 2 rfl (v := 1) dX11_isWeight_1 (by decide) ?_
  refine g_cmplt 15 5 rfl dX11_isWeight_2 (by decide) (fun h2 => ?_) (fun h2 => ?_)
  · refine g_iconst 16 rfl (v := 0) dX11_isWeight_15 (by decide) ?_
    refine g_zret rfl dX11_isWeight_16 (by first | exact Or.inl rfl | exact Or.inr rfl | assumption) ?_
    refine ⟨rfl, ?_⟩
    first | exact Or.inl ⟨rfl, Int32.not_lt.mp h2, Int32.not_lt.mp h8⟩ | exact Or.inr ⟨rfl, fun q => absurd h2 (Int32.not_lt.mpr q.1)⟩ | exact Or.inr ⟨rfl, fun q => absurd h8 (Int32.not_lt.mpr q.2)⟩
  · refine g_iload0 6 rfl dX11_isWeight_5 ?_
    refine g_bipush 8 rfl (v := 99) dX11_isWeight_6 (by decide) ?_
    refine g_cmpgt 15 11 rfl dX11_isWeight_8 (by decide) (fun h8 => ?_) (fun h8 => ?_)
    · refine g_iconst 16 rfl (v := 0) dX11_isWeight_15 (by decide) ?_
      refine g_zret rfl dX11_isWeight_16 (by first | exact Or.inl rfl | exact Or.inr rfl | assumption) ?_
      refine ⟨rfl, ?_⟩
      first | exact Or.inl ⟨rfl, Int32.not_lt.mp h2, Int32.not_lt.mp h8⟩ | exact Or.inr ⟨rfl, fun q => absurd h2 (Int32.not_lt.mpr q.1)⟩ | exact Or.inr ⟨rfl, fun q => absurd h8 (Int32.not_lt.mpr q.2)⟩
    · refine g_iconst 12 rfl (v := 1) dX11_isWeight_11 (by decide) ?_
      refine g_goto 16 dX11_isWeight_12 (by decide) ?_
      refine g_zret rfl dX11_isWeight_16 (by first | exact Or.inl rfl | exact Or.inr rfl | assumption) ?_
      refine ⟨rfl, ?_⟩
      first | exact Or.inl ⟨rfl, Int32.not_lt.mp h2, Int32.not_lt.mp h8⟩ | exact Or.inr ⟨rfl, fun q => absurd h2 (Int32.not_lt.mpr q.1)⟩ | exact Or.inr ⟨rfl, fun q => absurd h8 (Int32.not_lt.mpr q.2)⟩
theorem ok_isLoad {l : Launch} {M : Mm} {a : Int32} : Ok GC l mX11_isLoad [.int a] M (qB M (okL a)) := by
  refine ok_of (by decide +kernel) rfl rfl ?_
  refine g_iload0 1 rfl dX11_isLoad_0 ?_
  refine g_iconst 2 rfl (v := 1) dX11_isLoad_1 (by decide) ?_
  refine g_cmplt 16 5 rfl dX11_isLoad_2 (by decide) (fun h2 => ?_) (fun h2 => ?_)
  · refine g_iconst 17 rfl (v := 0) dX11_isLoad_16 (by decide) ?_
    refine g_zret rfl dX11_isLoad_17 (by first | exact Or.inl rfl | exact Or.inr rfl | assumption) ?_
    refine ⟨rfl, ?_⟩
    first | exact Or.inl ⟨rfl, Int32.not_lt.mp h2, Int32.not_lt.mp h9⟩ | exact Or.inr ⟨rfl, fun q => absurd h2 (Int32.not_lt.mpr q.1)⟩ | exact Or.inr ⟨rfl, fun q => absurd h9 (Int32.not_lt.mpr q.2)⟩
  · refine g_iload0 6 rfl dX11_isLoad_5 ?_
    refine g_sipush 9 rfl (v := 9999) dX11_isLoad_6 (by decide) ?_
    refine g_cmpgt 16 12 rfl dX11_isLoad_9 (by decide) (fun h9 => ?_) (fun h9 => ?_)
    · refine g_iconst 17 rfl (v := 0) dX11_isLoad_16 (by decide) ?_
      refine g_zret rfl dX11_isLoad_17 (by first | exact Or.inl rfl | exact Or.inr rfl | assumption) ?_
      refine ⟨rfl, ?_⟩
      first | exact Or.inl ⟨rfl, Int32.not_lt.mp h2, Int32.not_lt.mp h9⟩ | exact Or.inr ⟨rfl, fun q => absurd h2 (Int32.not_lt.mpr q.1)⟩ | exact Or.inr ⟨rfl, fun q => absurd h9 (Int32.not_lt.mpr q.2)⟩
    · refine g_iconst 13 rfl (v := 1) dX11_isLoad_12 (by decide) ?_
      refine g_goto 17 dX11_isLoad_13 (by decide) ?_
      refine g_zret rfl dX11_isLoad_17 (by first | exact Or.inl rfl | exact Or.inr rfl | assumption) ?_
      refine ⟨rfl, ?_⟩
      first | exact Or.inl ⟨rfl, Int32.not_lt.mp h2, Int32.not_lt.mp h9⟩ | exact Or.inr ⟨rfl, fun q => absurd h2 (Int32.not_lt.mpr q.1)⟩ | exact Or.inr ⟨rfl, fun q => absurd h9 (Int32.not_lt.mpr q.2)⟩
theorem ok_isSize {l : Launch} {M : Mm} {a : Int32} : Ok GC l mX11_isSize [.int a] M (qB M (okZ a)) := by
  refine ok_of (by decide +kernel) rfl rfl ?_
  refine g_iload0 1 rfl dX11_isSize_0 ?_
  refine g_iconst 2 rfl (v := 1) dX11_isSize_1 (by decide) ?_
  refine g_cmplt 15 5 rfl dX11_isSize_2 (by decide) (fun h2 => ?_) (fun h2 => ?_)
  · refine g_iconst 16 rfl (v := 0) dX11_isSize_15 (by decide) ?_
    refine g_zret rfl dX11_isSize_16 (by first | exact Or.inl rfl | exact Or.inr rfl | assumption) ?_
    refine ⟨rfl, ?_⟩
    first | exact Or.inl ⟨rfl, Int32.not_lt.mp h2, Int32.not_lt.mp h8⟩ | exact Or.inr ⟨rfl, fun q => absurd h2 (Int32.not_lt.mpr q.1)⟩ | exact Or.inr ⟨rfl, fun q => absurd h8 (Int32.not_lt.mpr q.2)⟩
  · refine g_iload0 6 rfl dX11_isSize_5 ?_
    refine g_bipush 8 rfl (v := 9) dX11_isSize_6 (by decide) ?_
    refine g_cmpgt 15 11 rfl dX11_isSize_8 (by decide) (fun h8 => ?_) (fun h8 => ?_)
    · refine g_iconst 16 rfl (v := 0) dX11_isSize_15 (by decide) ?_
      refine g_zret rfl dX11_isSize_16 (by first | exact Or.inl rfl | exact Or.inr rfl | assumption) ?_
      refine ⟨rfl, ?_⟩
      first | exact Or.inl ⟨rfl, Int32.not_lt.mp h2, Int32.not_lt.mp h8⟩ | exact Or.inr ⟨rfl, fun q => absurd h2 (Int32.not_lt.mpr q.1)⟩ | exact Or.inr ⟨rfl, fun q => absurd h8 (Int32.not_lt.mpr q.2)⟩
    · refine g_iconst 12 rfl (v := 1) dX11_isSize_11 (by decide) ?_
      refine g_goto 16 dX11_isSize_12 (by decide) ?_
      refine g_zret rfl dX11_isSize_16 (by first | exact Or.inl rfl | exact Or.inr rfl | assumption) ?_
      refine ⟨rfl, ?_⟩
      first | exact Or.inl ⟨rfl, Int32.not_lt.mp h2, Int32.not_lt.mp h8⟩ | exact Or.inr ⟨rfl, fun q => absurd h2 (Int32.not_lt.mpr q.1)⟩ | exact Or.inr ⟨rfl, fun q => absurd h8 (Int32.not_lt.mpr q.2)⟩
theorem ok_areYears {l : Launch} {M : Mm} {a f : Int32} : Ok GC l mX11_areYears [.int a, .int f] M (qB M (okY a f)) := by
  refine ok_of (by decide +kernel) rfl rfl ?_
  refine g_iload0 1 rfl dX11_areYears_0 ?_
  refine g_iconst 2 rfl (v := 1) dX11_areYears_1 (by decide) ?_
  refine g_cmplt 25 5 rfl dX11_areYears_2 (by decide) (fun h2 => ?_) (fun h2 => ?_)
  · refine g_iconst 26 rfl (v := 0) dX11_areYears_25 (by decide) ?_
    refine g_zret rfl dX11_areYears_26 (by first | exact Or.inl rfl | exact Or.inr rfl | assumption) ?_
    refine ⟨rfl, ?_⟩
    first | exact Or.inl ⟨rfl, Int32.not_lt.mp h2, Int32.not_lt.mp h8, Int32.not_lt.mp h12, Int32.not_lt.mp h18⟩ | exact Or.inr ⟨rfl, fun q => absurd h2 (Int32.not_lt.mpr q.1)⟩ | exact Or.inr ⟨rfl, fun q => absurd h8 (Int32.not_lt.mpr q.2.1)⟩ | exact Or.inr ⟨rfl, fun q => absurd h12 (Int32.not_lt.mpr q.2.2.1)⟩ | exact Or.inr ⟨rfl, fun q => absurd h18 (Int32.not_lt.mpr q.2.2.2)⟩
  · refine g_iload0 6 rfl dX11_areYears_5 ?_
    refine g_bipush 8 rfl (v := 20) dX11_areYears_6 (by decide) ?_
    refine g_cmpgt 25 11 rfl dX11_areYears_8 (by decide) (fun h8 => ?_) (fun h8 => ?_)
    · refine g_iconst 26 rfl (v := 0) dX11_areYears_25 (by decide) ?_
      refine g_zret rfl dX11_areYears_26 (by first | exact Or.inl rfl | exact Or.inr rfl | assumption) ?_
      refine ⟨rfl, ?_⟩
      first | exact Or.inl ⟨rfl, Int32.not_lt.mp h2, Int32.not_lt.mp h8, Int32.not_lt.mp h12, Int32.not_lt.mp h18⟩ | exact Or.inr ⟨rfl, fun q => absurd h2 (Int32.not_lt.mpr q.1)⟩ | exact Or.inr ⟨rfl, fun q => absurd h8 (Int32.not_lt.mpr q.2.1)⟩ | exact Or.inr ⟨rfl, fun q => absurd h12 (Int32.not_lt.mpr q.2.2.1)⟩ | exact Or.inr ⟨rfl, fun q => absurd h18 (Int32.not_lt.mpr q.2.2.2)⟩
    · refine g_iload1 12 rfl dX11_areYears_11 ?_
      refine g_iflt 25 15 rfl dX11_areYears_12 (by decide) (fun h12 => ?_) (fun h12 => ?_)
      · refine g_iconst 26 rfl (v := 0) dX11_areYears_25 (by decide) ?_
        refine g_zret rfl dX11_areYears_26 (by first | exact Or.inl rfl | exact Or.inr rfl | assumption) ?_
        refine ⟨rfl, ?_⟩
        first | exact Or.inl ⟨rfl, Int32.not_lt.mp h2, Int32.not_lt.mp h8, Int32.not_lt.mp h12, Int32.not_lt.mp h18⟩ | exact Or.inr ⟨rfl, fun q => absurd h2 (Int32.not_lt.mpr q.1)⟩ | exact Or.inr ⟨rfl, fun q => absurd h8 (Int32.not_lt.mpr q.2.1)⟩ | exact Or.inr ⟨rfl, fun q => absurd h12 (Int32.not_lt.mpr q.2.2.1)⟩ | exact Or.inr ⟨rfl, fun q => absurd h18 (Int32.not_lt.mpr q.2.2.2)⟩
      · refine g_iload1 16 rfl dX11_areYears_15 ?_
        refine g_bipush 18 rfl (v := 10) dX11_areYears_16 (by decide) ?_
        refine g_cmpgt 25 21 rfl dX11_areYears_18 (by decide) (fun h18 => ?_) (fun h18 => ?_)
        · refine g_iconst 26 rfl (v := 0) dX11_areYears_25 (by decide) ?_
          refine g_zret rfl dX11_areYears_26 (by first | exact Or.inl rfl | exact Or.inr rfl | assumption) ?_
          refine ⟨rfl, ?_⟩
          first | exact Or.inl ⟨rfl, Int32.not_lt.mp h2, Int32.not_lt.mp h8, Int32.not_lt.mp h12, Int32.not_lt.mp h18⟩ | exact Or.inr ⟨rfl, fun q => absurd h2 (Int32.not_lt.mpr q.1)⟩ | exact Or.inr ⟨rfl, fun q => absurd h8 (Int32.not_lt.mpr q.2.1)⟩ | exact Or.inr ⟨rfl, fun q => absurd h12 (Int32.not_lt.mpr q.2.2.1)⟩ | exact Or.inr ⟨rfl, fun q => absurd h18 (Int32.not_lt.mpr q.2.2.2)⟩
        · refine g_iconst 22 rfl (v := 1) dX11_areYears_21 (by decide) ?_
          refine g_goto 26 dX11_areYears_22 (by decide) ?_
          refine g_zret rfl dX11_areYears_26 (by first | exact Or.inl rfl | exact Or.inr rfl | assumption) ?_
          refine ⟨rfl, ?_⟩
          first | exact Or.inl ⟨rfl, Int32.not_lt.mp h2, Int32.not_lt.mp h8, Int32.not_lt.mp h12, Int32.not_lt.mp h18⟩ | exact Or.inr ⟨rfl, fun q => absurd h2 (Int32.not_lt.mpr q.1)⟩ | exact Or.inr ⟨rfl, fun q => absurd h8 (Int32.not_lt.mpr q.2.1)⟩ | exact Or.inr ⟨rfl, fun q => absurd h12 (Int32.not_lt.mpr q.2.2.1)⟩ | exact Or.inr ⟨rfl, fun q => absurd h18 (Int32.not_lt.mpr q.2.2.2)⟩
theorem ok_isStone {l : Launch} {M : Mm} {R W : Nat} {a : Int32} (hp : Plan M R W) : Ok GC l mX11_isStone [.ref 0, .int a] M (qB M (vp_in a (R * W) ∧ ¬ sK (vC M 15) a.toNatClampNeg = -1)) := by
  have h30 := hp.1.le
  have hb : isSt 15 := Or.inl rfl
  refine ok_of (by decide +kernel) rfl rfl ?_
  refine g_aload0 1 rfl dX11_isStone_0 ?_
  refine g_iload1 2 rfl dX11_isStone_1 ?_
  refine g_callV 5 1 rfl kX11_159 (by first | rfl | exact st_o hb | exact st_1 hb | exact st_2 hb | exact st_3 hb | exact st_4 hb | exact st_5 hb | exact st_o hb2 | exact st_1 hb2 | exact st_2 hb2 | exact st_3 hb2 | exact st_4 hb2 | exact st_5 hb2) dX11_isStone_2 ⟨rfl, rfl⟩ (ok_isCell hp) rfl rfl rfl (fun r M1 hq => ?_)
  obtain ⟨rfl, ⟨rfl, hq⟩ | ⟨rfl, hq⟩⟩ := hq
  try simp only [rV, Option.toList, List.cons_append, List.nil_append]
  · obtain ⟨c, hc, rfl⟩ := vp_in_of hq (by omega)
    have ec : (nI c).toNatClampNeg = c := nI_clamp (by omega)
    refine g_ifeq 25 8 rfl dX11_isStone_5 (by decide) (fun h => absurd h (by decide)) (fun _ => ?_)
    refine g_aload0 9 rfl dX11_isStone_8 ?_
    refine g_getR 12 rfl fX11_45 (by first | rfl | exact st_o hb | exact st_1 hb | exact st_2 hb | exact st_3 hb | exact st_4 hb | exact st_5 hb | exact st_o hb2 | exact st_1 hb2 | exact st_2 hb2 | exact st_3 hb2 | exact st_4 hb2 | exact st_5 hb2) rfl dX11_isStone_9 ?_
    refine g_getR 15 rfl fX11_263 (by first | rfl | exact st_o hb | exact st_1 hb | exact st_2 hb | exact st_3 hb | exact st_4 hb | exact st_5 hb | exact st_o hb2 | exact st_1 hb2 | exact st_2 hb2 | exact st_3 hb2 | exact st_4 hb2 | exact st_5 hb2) rfl dX11_isStone_12 ?_
    refine g_iload1 16 rfl dX11_isStone_15 ?_
    refine g_iald 17 rfl dX11_isStone_16 (by first | rfl | exact st_o hb | exact st_1 hb | exact st_2 hb | exact st_3 hb | exact st_4 hb | exact st_5 hb | exact st_o hb2 | exact st_1 hb2 | exact st_2 hb2 | exact st_3 hb2 | exact st_4 hb2 | exact st_5 hb2) rfl rfl (by first | assumption | omega) ?_
    refine g_iconst 18 rfl (v := (-1)) dX11_isStone_17 (by decide) ?_
    refine g_cmpeq 25 21 rfl dX11_isStone_18 (by decide) (fun h18 => ?_) (fun h18 => ?_)
    · refine g_iconst 26 rfl (v := 0) dX11_isStone_25 (by decide) ?_
      refine g_zret rfl dX11_isStone_26 (by first | exact Or.inl rfl | exact Or.inr rfl | assumption) ?_
      refine ⟨rfl, ?_⟩
      rw [ec]
      first | exact Or.inl ⟨rfl, hq, h18⟩ | exact Or.inr ⟨rfl, fun q => q.2 h18⟩
    · refine g_iconst 22 rfl (v := 1) dX11_isStone_21 (by decide) ?_
      refine g_goto 26 dX11_isStone_22 (by decide) ?_
      refine g_zret rfl dX11_isStone_26 (by first | exact Or.inl rfl | exact Or.inr rfl | assumption) ?_
      refine ⟨rfl, ?_⟩
      rw [ec]
      first | exact Or.inl ⟨rfl, hq, h18⟩ | exact Or.inr ⟨rfl, fun q => q.2 h18⟩
  · refine g_ifeq 25 8 rfl dX11_isStone_5 (by decide) (fun _ => ?_) (fun h => absurd rfl h)
    refine g_iconst 26 rfl (v := 0) dX11_isStone_25 (by decide) ?_
    refine g_zret rfl dX11_isStone_26 (by first | exact Or.inl rfl | exact Or.inr rfl | assumption) ?_
    exact ⟨rfl, Or.inr ⟨rfl, fun q => hq q.1⟩⟩
