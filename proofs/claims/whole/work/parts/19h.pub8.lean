/-! the class's calls: carts, first -/
theorem dig_nI {c : Int32} (h : dig c) : ∃ j, j < 10 ∧ c - 48 = nI j := by
  obtain ⟨h0, h1⟩ := h
  rw [Int32.le_iff_toInt_le] at h0 h1
  have e1 : (48 : Int32).toInt = 48 := by decide
  have e2 : (57 : Int32).toInt = 57 := by decide
  obtain ⟨j, hj, rfl⟩ := vp_in_of (x := c) (n := 58) (vp_in_iff.mpr (by omega)) (by decide)
  rw [nI_toInt (by omega)] at h0 h1
  exact ⟨j - 48, by omega, by rw [show (48 : Int32) = nI 48 from rfl, pk_sub (by omega)]⟩
/-- the rows of carts are digits -/
def csD (s : Cs) : Prop := ∀ i, i < csM s → ∃ j, j < 10 ∧ s.2.2.1 i = nI j
theorem stC_D {c : Int32} {s t : Cs} (hd : csD s) (h4 : s.2.1 ≤ 4) (h : stC c s = some t) : csD t ∧ t.2.1 ≤ 4 := by
  unfold stC at h
  by_cases d0 : s.2.1 = 0
  · rw [if_pos d0] at h
    split at h
    · rename_i hc
      cases h
      refine ⟨fun i hi => ?_, by show 1 ≤ 4; omega⟩
      have hi : i < s.1 + 1 := by simpa [csM] using hi
      by_cases e : i = s.1
      · obtain ⟨j, hj, e2⟩ := dig_nI hc
        exact ⟨j, hj, by subst e; show upd s.2.2.1 s.1 (c - 48) s.1 = nI j; rw [upd_at, e2]⟩
      · obtain ⟨j, hj, e2⟩ := hd i (by simp [csM, d0]; omega)
        exact ⟨j, hj, by show upd s.2.2.1 s.1 (c - 48) i = nI j; rw [pk_un e, e2]⟩
    · cases h
  · rw [if_neg d0] at h
    by_cases d1 : s.2.1 = 1
    · rw [if_pos d1] at h
      split at h
      · cases h
        refine ⟨fun i hi => hd i ?_, by show 2 ≤ 4; omega⟩
        simp [csM] at hi
        simp [csM, d1]
        omega
      · cases h
    · rw [if_neg d1] at h
      by_cases d2 : s.2.1 = 2
      · rw [if_pos d2] at h
        split at h
        · cases h
          refine ⟨fun i hi => hd i ?_, by show 3 ≤ 4; omega⟩
          simp [csM] at hi
          simp [csM, d2]
          omega
        · cases h
      · rw [if_neg d2] at h
        split at h
        · cases h
          refine ⟨fun i hi => hd i ?_, by show 4 ≤ 4; omega⟩
          simp [csM] at hi
          simp only [csM]
          rw [if_neg (by omega)]
          omega
        · split at h
          · cases h
            refine ⟨fun i hi => hd i ?_, by show 0 ≤ 4; omega⟩
            simp [csM] at hi
            simp only [csM]
            rw [if_neg (by omega)]
            omega
          · cases h
theorem runC_D {p : Nat → Int32} : ∀ (d i : Nat) (s t : Cs), csD s → s.2.1 ≤ 4 → (runF stC p d i s).2 = some t → csD t
  | 0, i, s, t, h, _, e => by rw [runF] at e; cases e; exact h
  | d + 1, i, s, t, h, h4, e => by
    rw [runF] at e
    cases hs : stC (p i) s with
    | none => rw [hs] at e; cases e
    | some s' =>
      rw [hs] at e
      have := stC_D h h4 hs
      exact runC_D d (i + 1) s' t this.1 this.2 e
theorem cs0_D : csD cs0 := fun i hi => absurd hi (by simp [csM, cs0])
def cpR (M : Mm) (i : Nat) (N : Mm) : Prop := ∃ a b, N = setA (setA M 10 a) 11 b ∧ (∀ j, j < i → a j = M.1 7 j) ∧ ∀ j, j < i → b j = M.1 8 j
abbrev qCc (M : Mm) : Rr → Mm → Prop := fun r M' => r = none ∧ ∃ a b, M' = setA (setA (setA M 10 a) 11 b) 9 (upd (M.1 9) 2 (M.1 6 2)) ∧ (∀ j, j < 6 → a j = M.1 7 j) ∧ ∀ j, j < 6 → b j = M.1 8 j
theorem ok_X0_copyFrom {l : Launch} {M : Mm} : Ok GC l mX0_copyFrom [.ref 9, .ref 6] M (qCc M) := by
  have r7 : ∀ a b, (setA (setA M 10 a) 11 b).1 7 = M.1 7 := fun a b => by rw [sA_n (by decide), sA_n (by decide)]
  have r8 : ∀ a b, (setA (setA M 10 a) 11 b).1 8 = M.1 8 := fun a b => by rw [sA_n (by decide), sA_n (by decide)]
  have r6 : ∀ a b, (setA (setA M 10 a) 11 b).1 6 = M.1 6 := fun a b => by rw [sA_n (by decide), sA_n (by decide)]
  have r9 : ∀ a b, (setA (setA M 10 a) 11 b).1 9 = M.1 9 := fun a b => by rw [sA_n (by decide), sA_n (by decide)]
  have r10 : ∀ a b, (setA (setA M 10 a) 11 b).1 10 = a := fun a b => by rw [sA_n (by decide), sA_s]
  have r11 : ∀ a b, (setA (setA M 10 a) 11 b).1 11 = b := fun a b => by rw [sA_s]
  have w10 : ∀ a b e, setA (setA (setA M 10 a) 11 b) 10 e = setA (setA M 10 e) 11 b := fun a b e => by rw [sA_sw (by decide), sA_sA]
  have w11 : ∀ a b e, setA (setA (setA M 10 a) 11 b) 11 e = setA (setA M 10 a) 11 e := fun a b e => by rw [sA_sA]
  refine ok_of (by decide +kernel) rfl rfl ?_
  refine g_mem (setA (setA M 10 (M.1 10)) 11 (M.1 11)) (by rw [sA_id, sA_id]) ?_
  refine g_iconst 1 rfl (v := 0) dX0_copyFrom_0 (by decide) ?_
  refine g_istore2 2 rfl dX0_copyFrom_1 rfl rfl ?_
  refine loop_up (P := fun i => ∀ a b, eqN i a (M.1 7) → eqN i b (M.1 8) → Go GC l mX0_copyFrom 2 [.ref 9, .ref 6, .int (nI i)] [] (setA (setA M 10 a) 11 b) (qCc M)) 6 ?_ ?_ 0 (by omega) _ _ (fun i hi => absurd hi (by omega)) (fun i hi => absurd hi (by omega))
  · intro a b ha hb
    refine g_iload2 3 rfl dX0_copyFrom_2 ?_
    refine g_bipush 5 rfl (v := 6) dX0_copyFrom_3 (by decide) ?_
    refine g_cmpge 38 8 rfl dX0_copyFrom_5 (by decide) (fun h5 => ?_) (fun h => absurd (by decide) h)
    refine g_aload0 39 rfl dX0_copyFrom_38 ?_
    refine g_aload1 40 rfl dX0_copyFrom_39 ?_
    refine g_getI 43 rfl fX0_18 (by first | rfl | exact st_o hb | exact st_1 hb | exact st_2 hb | exact st_3 hb | exact st_4 hb | exact st_5 hb | exact st_o hb2 | exact st_1 hb2 | exact st_2 hb2 | exact st_3 hb2 | exact st_4 hb2 | exact st_5 hb2) rfl dX0_copyFrom_40 ?_
    try simp only [r6, r7, r8, r9, r10, r11, w10, w11]
    refine g_putI 46 rfl fX0_18 (by first | rfl | exact st_o hb | exact st_1 hb | exact st_2 hb | exact st_3 hb | exact st_4 hb | exact st_5 hb | exact st_o hb2 | exact st_1 hb2 | exact st_2 hb2 | exact st_3 hb2 | exact st_4 hb2 | exact st_5 hb2) rfl dX0_copyFrom_43 ?_
    try simp only [r6, r7, r8, r9, r10, r11, w10, w11]
    refine g_vret rfl dX0_copyFrom_46 ?_
    exact ⟨rfl, a, b, rfl, ha, hb⟩
  · intro i hi ih a b ha hb
    refine g_iload2 3 rfl dX0_copyFrom_2 ?_
    refine g_bipush 5 rfl (v := 6) dX0_copyFrom_3 (by decide) ?_
    refine g_cmpge 38 8 rfl dX0_copyFrom_5 (by decide) (fun h => absurd h (nI_ge hi (by decide))) (fun h5 => ?_)
    refine g_aload0 9 rfl dX0_copyFrom_8 ?_
    refine g_getR 12 rfl fX0_9 (by first | rfl | exact st_o hb | exact st_1 hb | exact st_2 hb | exact st_3 hb | exact st_4 hb | exact st_5 hb | exact st_o hb2 | exact st_1 hb2 | exact st_2 hb2 | exact st_3 hb2 | exact st_4 hb2 | exact st_5 hb2) rfl dX0_copyFrom_9 ?_
    refine g_iload2 13 rfl dX0_copyFrom_12 ?_
    refine g_aload1 14 rfl dX0_copyFrom_13 ?_
    refine g_getR 17 rfl fX0_9 (by first | rfl | exact st_o hb | exact st_1 hb | exact st_2 hb | exact st_3 hb | exact st_4 hb | exact st_5 hb | exact st_o hb2 | exact st_1 hb2 | exact st_2 hb2 | exact st_3 hb2 | exact st_4 hb2 | exact st_5 hb2) rfl dX0_copyFrom_14 ?_
    refine g_iload2 18 rfl dX0_copyFrom_17 ?_
    refine g_iald 19 rfl dX0_copyFrom_18 (by first | rfl | exact st_o hb | exact st_1 hb | exact st_2 hb | exact st_3 hb | exact st_4 hb | exact st_5 hb | exact st_o hb2 | exact st_1 hb2 | exact st_2 hb2 | exact st_3 hb2 | exact st_4 hb2 | exact st_5 hb2) rfl rfl (by first | assumption | omega) ?_
    try simp only [r6, r7, r8, r9, r10, r11, w10, w11]
    refine g_iast 20 rfl dX0_copyFrom_19 (by first | rfl | exact st_o hb | exact st_1 hb | exact st_2 hb | exact st_3 hb | exact st_4 hb | exact st_5 hb | exact st_o hb2 | exact st_1 hb2 | exact st_2 hb2 | exact st_3 hb2 | exact st_4 hb2 | exact st_5 hb2) rfl rfl (by first | assumption | omega) ?_
    try simp only [r6, r7, r8, r9, r10, r11, w10, w11]
    refine g_aload0 21 rfl dX0_copyFrom_20 ?_
    refine g_getR 24 rfl fX0_15 (by first | rfl | exact st_o hb | exact st_1 hb | exact st_2 hb | exact st_3 hb | exact st_4 hb | exact st_5 hb | exact st_o hb2 | exact st_1 hb2 | exact st_2 hb2 | exact st_3 hb2 | exact st_4 hb2 | exact st_5 hb2) rfl dX0_copyFrom_21 ?_
    refine g_iload2 25 rfl dX0_copyFrom_24 ?_
    refine g_aload1 26 rfl dX0_copyFrom_25 ?_
    refine g_getR 29 rfl fX0_15 (by first | rfl | exact st_o hb | exact st_1 hb | exact st_2 hb | exact st_3 hb | exact st_4 hb | exact st_5 hb | exact st_o hb2 | exact st_1 hb2 | exact st_2 hb2 | exact st_3 hb2 | exact st_4 hb2 | exact st_5 hb2) rfl dX0_copyFrom_26 ?_
    refine g_iload2 30 rfl dX0_copyFrom_29 ?_
    refine g_iald 31 rfl dX0_copyFrom_30 (by first | rfl | exact st_o hb | exact st_1 hb | exact st_2 hb | exact st_3 hb | exact st_4 hb | exact st_5 hb | exact st_o hb2 | exact st_1 hb2 | exact st_2 hb2 | exact st_3 hb2 | exact st_4 hb2 | exact st_5 hb2) rfl rfl (by first | assumption | omega) ?_
    try simp only [r6, r7, r8, r9, r10, r11, w10, w11]
    refine g_iast 32 rfl dX0_copyFrom_31 (by first | rfl | exact st_o hb | exact st_1 hb | exact st_2 hb | exact st_3 hb | exact st_4 hb | exact st_5 hb | exact st_o hb2 | exact st_1 hb2 | exact st_2 hb2 | exact st_3 hb2 | exact st_4 hb2 | exact st_5 hb2) rfl rfl (by first | assumption | omega) ?_
    try simp only [r6, r7, r8, r9, r10, r11, w10, w11]
    refine g_iinc2 35 rfl dX0_copyFrom_32 rfl rfl _ (by first | exact iinc1 _ | exact iincx _ | rfl) ?_
    refine g_goto 2 dX0_copyFrom_35 (by decide) ?_
    exact ih _ _ (up_in ha) (up_in hb)
noncomputable def ctO (s : Cs) : Ct := (s.1, fun i => ce (s.2.2.1 i), s.2.2.2)
noncomputable def fCarts (g : Sg) : Int32 × Sg := ifC (∃ t, isC (gL g) (gP g) t) (match (runF stC (gP g) (gL g) 0 cs0).2 with
  | none => (0, g)
  | some t => (nI t.1, sgP (sgK g (ctO t)) 0 (gP g))) (-103, g)
theorem CS.crt {g : Sg} {M N : Mm} {k : Ct} (h : CS g M) (hP : Crt N 9 k) (hk : ∀ q, (q < 9 ∨ 11 < q) → kpC q → N.1 q = M.1 q) : CS (sgK g k) N := by
  obtain ⟨h1, h2, h3, h4, h5, h6, h7, h8, h9, h10⟩ := h
  have e : ∀ q, ((q < 9 ∨ 11 < q) ∧ (q ≤ 2 ∨ (9 ≤ q ∧ q ≤ 20) ∨ (27 ≤ q ∧ q ≤ 32) ∨ (42 ≤ q ∧ q ≤ 44))) → N.1 q = M.1 q := fun q hq => hk q hq.1 hq.2
  have v15 : vC N 15 = vC M 15 := by unfold vC; rw [e (15 + 1) (by omega), e (15 + 2) (by omega), e (15 + 3) (by omega), e (15 + 4) (by omega), e (15 + 5) (by omega), e 15 (by omega)]
  have v27 : vC N 27 = vC M 27 := by unfold vC; rw [e (27 + 1) (by omega), e (27 + 2) (by omega), e (27 + 3) (by omega), e (27 + 4) (by omega), e (27 + 5) (by omega), e 27 (by omega)]
  refine ⟨?_, by rw [v15]; exact h2, ?_, hP, ?_, by rw [e 0 (by omega)]; exact h6, by rw [e 0 (by omega)]; exact h7, by rw [v27]; exact h8, by rw [e 0 (by omega)]; exact h9, h10⟩
  · unfold Plan; rw [e 12 (by omega), e 13 (by omega), e 14 (by omega)]; exact h1
  · unfold Pg; rw [e 1 (by omega), e 2 (by omega)]; exact h3
  · unfold Hp; rw [e 42 (by omega), e 43 (by omega), e 44 (by omega)]; exact h5
theorem pub_carts {l : Launch} {M : Mm} {g : Sg} (h : CS g M) : Ok GC l mX11_carts [.ref 0] M (qP (fCarts g)) := by
  refine ok_of (by decide +kernel) rfl rfl ?_
  refine g_aload0 1 rfl dX11_carts_0 ?_
  refine g_getR 4 rfl fX11_26 (by first | rfl | exact st_o hb | exact st_1 hb | exact st_2 hb | exact st_3 hb | exact st_4 hb | exact st_5 hb | exact st_o hb2 | exact st_1 hb2 | exact st_2 hb2 | exact st_3 hb2 | exact st_4 hb2 | exact st_5 hb2) rfl dX11_carts_1 ?_
  refine g_aload0 5 rfl dX11_carts_4 ?_
  refine g_getR 8 rfl fX11_12 (by first | rfl | exact st_o hb | exact st_1 hb | exact st_2 hb | exact st_3 hb | exact st_4 hb | exact st_5 hb | exact st_o hb2 | exact st_1 hb2 | exact st_2 hb2 | exact st_3 hb2 | exact st_4 hb2 | exact st_5 hb2) rfl dX11_carts_5 ?_
  refine g_callU 11 1 rfl uX11_147_X0 (by first | rfl | exact st_o hb | exact st_1 hb | exact st_2 hb | exact st_3 hb | exact st_4 hb | exact st_5 hb | exact st_o hb2 | exact st_1 hb2 | exact st_2 hb2 | exact st_3 hb2 | exact st_4 hb2 | exact st_5 hb2) dX11_carts_8 ⟨rfl, rfl⟩ (ok_readsC h.g) rfl rfl rfl (fun r M1 hq => ?_)
  obtain ⟨f, a, b, rfl, ⟨rfl, t, ht, hs⟩ | ⟨rfl, hn⟩⟩ := hq
  try simp only [rV, Option.toList, List.cons_append, List.nil_append]
  · obtain ⟨hI, e2, e3, ha, hb, h0⟩ := hs
    have hw : 3 ≤ t.2.1 := ht.2
    have em : csM t = t.1 := by simp only [csM]; rw [if_neg (by omega)]
    have hD := runC_D _ _ _ t cs0_D (by decide) ht.1
    rw [em] at e2 ha
    have hD2 : ∀ i, i < t.1 → ∃ j, j < 10 ∧ t.2.2.1 i = nI j := fun i hi => hD i (by rw [em]; exact hi)
    refine g_ifne 17 14 rfl dX11_carts_11 (by decide) (fun _ => ?_) (fun h => absurd h (by decide))
    refine g_aload0 18 rfl dX11_carts_17 ?_
    refine g_getR 21 rfl fX11_30 (by first | rfl | exact st_o hb | exact st_1 hb | exact st_2 hb | exact st_3 hb | exact st_4 hb | exact st_5 hb | exact st_o hb2 | exact st_1 hb2 | exact st_2 hb2 | exact st_3 hb2 | exact st_4 hb2 | exact st_5 hb2) rfl dX11_carts_18 ?_
    refine g_aload0 22 rfl dX11_carts_21 ?_
    refine g_getR 25 rfl fX11_26 (by first | rfl | exact st_o hb | exact st_1 hb | exact st_2 hb | exact st_3 hb | exact st_4 hb | exact st_5 hb | exact st_o hb2 | exact st_1 hb2 | exact st_2 hb2 | exact st_3 hb2 | exact st_4 hb2 | exact st_5 hb2) rfl dX11_carts_22 ?_
    refine g_callV 28 1 rfl kX11_148 (by first | rfl | exact st_o hb | exact st_1 hb | exact st_2 hb | exact st_3 hb | exact st_4 hb | exact st_5 hb | exact st_o hb2 | exact st_1 hb2 | exact st_2 hb2 | exact st_3 hb2 | exact st_4 hb2 | exact st_5 hb2) dX11_carts_25 ⟨rfl, rfl⟩ ok_X0_copyFrom rfl rfl rfl (fun r M1 hq => ?_)
    obtain ⟨rfl, a2, b2, rfl, ha2, hb2⟩ := hq
    try simp only [rV, Option.toList, List.cons_append, List.nil_append]
    rw [ct3_6, e2]
    rw [ct3_7] at ha2
    rw [ct3_8] at hb2
    generalize hN : setA (setA (setA (CT3 M f a b) 10 a2) 11 b2) 9 (upd ((CT3 M f a b).1 9) 2 (nI t.1)) = N
    have n9 : N.1 9 2 = nI t.1 := by rw [← hN, sA_s, upd_at]
    have n10 : N.1 10 = a2 := by rw [← hN, sA_n (by decide), sA_n (by decide), sA_s]
    have n11 : N.1 11 = b2 := by rw [← hN, sA_n (by decide), sA_s]
    have nO : ∀ q, (q < 9 ∨ 11 < q) → kpC q → N.1 q = M.1 q := fun q hq hk => by rw [← hN, sA_n (by omega), sA_n (by omega), sA_n (by omega), ct3_n (by unfold kpC at hk; omega) (by unfold kpC at hk; omega) (by unfold kpC at hk; omega)]
    have hcr : Crt N 9 (ctO t) := by
      refine ⟨hI.1, n9, fun i hi => ?_⟩
      have hi : i < t.1 := hi
      have h6 := hI.1
      obtain ⟨j, hj, ej⟩ := hD2 i hi
      refine ⟨?_, ?_, ?_⟩
      · show N.1 10 i = nI (ce (t.2.2.1 i))
        rw [n10, ha2 i (by omega), ha i hi, ej, ce_nI (by omega)]
      · show N.1 11 i = t.2.2.2 i
        rw [n11, hb2 i (by omega), hb i hi]
      · show ce (t.2.2.1 i) < 10
        rw [ej, ce_nI (by omega)]; exact hj
    have hc2 := h.crt hcr nO
    have n92 : (setA N 1 (upd (N.1 1) 1 0)).1 9 2 = nI t.1 := by rw [sA_n (by decide), n9]
    refine g_aload0 29 rfl dX11_carts_28 ?_
    refine g_getR 32 rfl fX11_12 (by first | rfl | exact st_o hb | exact st_1 hb | exact st_2 hb | exact st_3 hb | exact st_4 hb | exact st_5 hb | exact st_o hb2 | exact st_1 hb2 | exact st_2 hb2 | exact st_3 hb2 | exact st_4 hb2 | exact st_5 hb2) rfl dX11_carts_29 ?_
    refine g_iconst 33 rfl (v := 0) dX11_carts_32 (by decide) ?_
    refine g_putI 36 rfl fX11_110 (by first | rfl | exact st_o hb | exact st_1 hb | exact st_2 hb | exact st_3 hb | exact st_4 hb | exact st_5 hb | exact st_o hb2 | exact st_1 hb2 | exact st_2 hb2 | exact st_3 hb2 | exact st_4 hb2 | exact st_5 hb2) rfl dX11_carts_33 ?_
    refine g_aload0 37 rfl dX11_carts_36 ?_
    refine g_getR 40 rfl fX11_30 (by first | rfl | exact st_o hb | exact st_1 hb | exact st_2 hb | exact st_3 hb | exact st_4 hb | exact st_5 hb | exact st_o hb2 | exact st_1 hb2 | exact st_2 hb2 | exact st_3 hb2 | exact st_4 hb2 | exact st_5 hb2) rfl dX11_carts_37 ?_
    refine g_getI 43 rfl fX11_152 (by first | rfl | exact st_o hb | exact st_1 hb | exact st_2 hb | exact st_3 hb | exact st_4 hb | exact st_5 hb | exact st_o hb2 | exact st_1 hb2 | exact st_2 hb2 | exact st_3 hb2 | exact st_4 hb2 | exact st_5 hb2) rfl dX11_carts_40 ?_
    try simp only [n92]
    refine g_iret rfl dX11_carts_43 ?_
    have hc : fCarts g = (nI t.1, sgP (sgK g (ctO t)) 0 (gP g)) := by rw [fCarts, ifC_t ⟨t, ht⟩, ht.1]
    rw [hc]
    exact ⟨rfl, hc2.pg ⟨Nat.zero_le _, by rw [sA_s, upd_at]; rfl, fun i hi => absurd hi (by omega)⟩ (fun q h1 _ _ => sA_n h1)⟩
  · refine g_ifne 17 14 rfl dX11_carts_11 (by decide) (fun h => absurd rfl h) (fun _ => ?_)
    refine g_bipush 16 rfl (v := (-103)) dX11_carts_14 (by decide) ?_
    refine g_iret rfl dX11_carts_16 ?_
    rw [fCarts, ifC_f hn]
    exact ⟨rfl, h.ct3⟩
