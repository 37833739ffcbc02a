/-! the class's Street.copyFrom, pave, jolts; Plan.steps, draw -/
def apart (b d : Nat) : Prop := d + 5 < b ∨ b + 5 < d
theorem vC_ap {M : Mm} {b d k : Nat} {x : Sx} (h : apart b d) (hk : k ≤ 5) : (pC M b x).1 (d + k) = M.1 (d + k) := pC_o (by rcases h with h | h <;> omega)
def cpB (v : Sx) (i : Nat) (y : Sx) : Sx := wJ (wS (wH (wZ (wK y (upd (sK y) i (sK v i))) (upd (sZ y) i (sZ v i))) (upd (sH y) i (sH v i))) (upd (sS y) i (sS v i))) (upd (sJ y) i (sJ v i))
theorem up_in {f g : Nat → Int32} {i : Nat} (h : eqN i f g) : eqN (i + 1) (upd f i (g i)) g := by
  intro c hc
  by_cases h2 : c = i
  · subst h2; rw [upd_at]
  · rw [pk_un h2]; exact h c (by omega)
theorem cp_E {v : Sx} : ∀ (i : Nat) (x : Sx), eqN i (sK (itN (cpB v) i x)) (sK v) ∧ eqN i (sZ (itN (cpB v) i x)) (sZ v) ∧ eqN i (sH (itN (cpB v) i x)) (sH v) ∧ eqN i (sS (itN (cpB v) i x)) (sS v) ∧ eqN i (sJ (itN (cpB v) i x)) (sJ v)
  | 0, x => ⟨fun c h => absurd h (by omega), fun c h => absurd h (by omega), fun c h => absurd h (by omega), fun c h => absurd h (by omega), fun c h => absurd h (by omega)⟩
  | i + 1, x => by
    obtain ⟨h1, h2, h3, h4, h5⟩ := cp_E i x
    exact ⟨up_in h1, up_in h2, up_in h3, up_in h4, up_in h5⟩
abbrev qCp (R W b d : Nat) (M : Mm) : Rr → Mm → Prop := fun r M' => r = none ∧ ∃ y, M' = pC M b y ∧ sxE (R * W) y (vC M d)
theorem ok_X7_copyFrom {l : Launch} {M : Mm} {R W b d : Nat} {x : Sx} (hb : isSt b) (hb2 : isSt d) (hap : apart b d) (hp : Plan M R W) : Ok GC l mX7_copyFrom [.ref b, .ref d] (pC M b x) (qCp R W b d M) := by
  have h30 := hp.1.le
  have hN : ∀ y, (pC M b y).1 12 4 = nI (R * W) := fun y => (pC_plan (x := y) hb hp).2.2.2.1
  have e1 : ∀ y, (pC M b y).1 (d + 1) = sK (vC M d) := fun y => vC_ap hap (by omega)
  have e2 : ∀ y, (pC M b y).1 (d + 2) = sZ (vC M d) := fun y => vC_ap hap (by omega)
  have e3 : ∀ y, (pC M b y).1 (d + 3) = sH (vC M d) := fun y => vC_ap hap (by omega)
  have e4 : ∀ y, (pC M b y).1 (d + 4) = sS (vC M d) := fun y => vC_ap hap (by omega)
  have e5 : ∀ y, (pC M b y).1 (d + 5) = sJ (vC M d) := fun y => vC_ap hap (by omega)
  have e6 : ∀ y, (pC M b y).1 d 6 = sD (vC M d) := fun y => by rw [show (pC M b y).1 d = M.1 d from vC_ap (k := 0) hap (by omega)]; rfl
  refine ok_of (by decide +kernel) rfl rfl ?_
  refine g_iconst 1 rfl (v := 0) dX7_copyFrom_0 (by decide) ?_
  refine g_istore2 2 rfl dX7_copyFrom_1 rfl rfl ?_
  refine loop_up (P := fun i => Go GC l mX7_copyFrom 2 [.ref b, .ref d, .int (nI i)] [] (pC M b (itN (cpB (vC M d)) i x)) (qCp R W b d M)) (R * W) ?_ ?_ 0 (by omega)
  · refine g_iload2 3 rfl dX7_copyFrom_2 ?_
    refine g_aload0 4 rfl dX7_copyFrom_3 ?_
    refine g_getR 7 rfl fX7_34 (by first | rfl | exact st_o hb | exact st_1 hb | exact st_2 hb | exact st_3 hb | exact st_4 hb | exact st_5 hb | exact st_o hb2 | exact st_1 hb2 | exact st_2 hb2 | exact st_3 hb2 | exact st_4 hb2 | exact st_5 hb2) rfl dX7_copyFrom_4 ?_
    refine g_getI 10 rfl fX7_38 (by first | rfl | exact st_o hb | exact st_1 hb | exact st_2 hb | exact st_3 hb | exact st_4 hb | exact st_5 hb | exact st_o hb2 | exact st_1 hb2 | exact st_2 hb2 | exact st_3 hb2 | exact st_4 hb2 | exact st_5 hb2) rfl dX7_copyFrom_7 ?_
    try simp only [hN, e1, e2, e3, e4, e5, e6, pC_1, pC_2, pC_3, pC_4, pC_5, set_1, set_2, set_3, set_4, set_5, set_6]
    refine g_cmpge 79 13 rfl dX7_copyFrom_10 (by decide) (fun h10 => ?_) (fun h => absurd (Int32.le_refl _) h)
    refine g_aload0 80 rfl dX7_copyFrom_79 ?_
    refine g_aload1 81 rfl dX7_copyFrom_80 ?_
    refine g_getI 84 rfl fX7_27 (by first | rfl | exact st_o hb | exact st_1 hb | exact st_2 hb | exact st_3 hb | exact st_4 hb | exact st_5 hb | exact st_o hb2 | exact st_1 hb2 | exact st_2 hb2 | exact st_3 hb2 | exact st_4 hb2 | exact st_5 hb2) rfl dX7_copyFrom_81 ?_
    try simp only [hN, e1, e2, e3, e4, e5, e6, pC_1, pC_2, pC_3, pC_4, pC_5, set_1, set_2, set_3, set_4, set_5, set_6]
    refine g_putI 87 rfl fX7_27 (by first | rfl | exact st_o hb | exact st_1 hb | exact st_2 hb | exact st_3 hb | exact st_4 hb | exact st_5 hb | exact st_o hb2 | exact st_1 hb2 | exact st_2 hb2 | exact st_3 hb2 | exact st_4 hb2 | exact st_5 hb2) rfl dX7_copyFrom_84 ?_
    try simp only [hN, e1, e2, e3, e4, e5, e6, pC_1, pC_2, pC_3, pC_4, pC_5, set_1, set_2, set_3, set_4, set_5, set_6]
    refine g_vret rfl dX7_copyFrom_87 ?_
    exact ⟨rfl, _, rfl, (cp_E _ _).1, (cp_E _ _).2.1, (cp_E _ _).2.2.1, (cp_E _ _).2.2.2.1, (cp_E _ _).2.2.2.2, rfl⟩
  · intro i hi ih
    refine g_iload2 3 rfl dX7_copyFrom_2 ?_
    refine g_aload0 4 rfl dX7_copyFrom_3 ?_
    refine g_getR 7 rfl fX7_34 (by first | rfl | exact st_o hb | exact st_1 hb | exact st_2 hb | exact st_3 hb | exact st_4 hb | exact st_5 hb | exact st_o hb2 | exact st_1 hb2 | exact st_2 hb2 | exact st_3 hb2 | exact st_4 hb2 | exact st_5 hb2) rfl dX7_copyFrom_4 ?_
    refine g_getI 10 rfl fX7_38 (by first | rfl | exact st_o hb | exact st_1 hb | exact st_2 hb | exact st_3 hb | exact st_4 hb | exact st_5 hb | exact st_o hb2 | exact st_1 hb2 | exact st_2 hb2 | exact st_3 hb2 | exact st_4 hb2 | exact st_5 hb2) rfl dX7_copyFrom_7 ?_
    try simp only [hN, e1, e2, e3, e4, e5, e6, pC_1, pC_2, pC_3, pC_4, pC_5, set_1, set_2, set_3, set_4, set_5, set_6]
    refine g_cmpge 79 13 rfl dX7_copyFrom_10 (by decide) (fun h => absurd h (nI_ge hi (by omega))) (fun h10 => ?_)
    refine g_aload0 14 rfl dX7_copyFrom_13 ?_
    refine g_getR 17 rfl fX7_9 (by first | rfl | exact st_o hb | exact st_1 hb | exact st_2 hb | exact st_3 hb | exact st_4 hb | exact st_5 hb | exact st_o hb2 | exact st_1 hb2 | exact st_2 hb2 | exact st_3 hb2 | exact st_4 hb2 | exact st_5 hb2) rfl dX7_copyFrom_14 ?_
    refine g_iload2 18 rfl dX7_copyFrom_17 ?_
    refine g_aload1 19 rfl dX7_copyFrom_18 ?_
    refine g_getR 22 rfl fX7_9 (by first | rfl | exact st_o hb | exact st_1 hb | exact st_2 hb | exact st_3 hb | exact st_4 hb | exact st_5 hb | exact st_o hb2 | exact st_1 hb2 | exact st_2 hb2 | exact st_3 hb2 | exact st_4 hb2 | exact st_5 hb2) rfl dX7_copyFrom_19 ?_
    refine g_iload2 23 rfl dX7_copyFrom_22 ?_
    refine g_iald 24 rfl dX7_copyFrom_23 (by first | rfl | exact st_o hb | exact st_1 hb | exact st_2 hb | exact st_3 hb | exact st_4 hb | exact st_5 hb | exact st_o hb2 | exact st_1 hb2 | exact st_2 hb2 | exact st_3 hb2 | exact st_4 hb2 | exact st_5 hb2) rfl rfl (by first | assumption | omega) ?_
    try simp only [hN, e1, e2, e3, e4, e5, e6, pC_1, pC_2, pC_3, pC_4, pC_5, set_1, set_2, set_3, set_4, set_5, set_6]
    refine g_iast 25 rfl dX7_copyFrom_24 (by first | rfl | exact st_o hb | exact st_1 hb | exact st_2 hb | exact st_3 hb | exact st_4 hb | exact st_5 hb | exact st_o hb2 | exact st_1 hb2 | exact st_2 hb2 | exact st_3 hb2 | exact st_4 hb2 | exact st_5 hb2) rfl rfl (by first | assumption | omega) ?_
    try simp only [hN, e1, e2, e3, e4, e5, e6, pC_1, pC_2, pC_3, pC_4, pC_5, set_1, set_2, set_3, set_4, set_5, set_6]
    refine g_aload0 26 rfl dX7_copyFrom_25 ?_
    refine g_getR 29 rfl fX7_15 (by first | rfl | exact st_o hb | exact st_1 hb | exact st_2 hb | exact st_3 hb | exact st_4 hb | exact st_5 hb | exact st_o hb2 | exact st_1 hb2 | exact st_2 hb2 | exact st_3 hb2 | exact st_4 hb2 | exact st_5 hb2) rfl dX7_copyFrom_26 ?_
    refine g_iload2 30 rfl dX7_copyFrom_29 ?_
    refine g_aload1 31 rfl dX7_copyFrom_30 ?_
    refine g_getR 34 rfl fX7_15 (by first | rfl | exact st_o hb | exact st_1 hb | exact st_2 hb | exact st_3 hb | exact st_4 hb | exact st_5 hb | exact st_o hb2 | exact st_1 hb2 | exact st_2 hb2 | exact st_3 hb2 | exact st_4 hb2 | exact st_5 hb2) rfl dX7_copyFrom_31 ?_
    refine g_iload2 35 rfl dX7_copyFrom_34 ?_
    refine g_iald 36 rfl dX7_copyFrom_35 (by first | rfl | exact st_o hb | exact st_1 hb | exact st_2 hb | exact st_3 hb | exact st_4 hb | exact st_5 hb | exact st_o hb2 | exact st_1 hb2 | exact st_2 hb2 | exact st_3 hb2 | exact st_4 hb2 | exact st_5 hb2) rfl rfl (by first | assumption | omega) ?_
    try simp only [hN, e1, e2, e3, e4, e5, e6, pC_1, pC_2, pC_3, pC_4, pC_5, set_1, set_2, set_3, set_4, set_5, set_6]
    refine g_iast 37 rfl dX7_copyFrom_36 (by first | rfl | exact st_o hb | exact st_1 hb | exact st_2 hb | exact st_3 hb | exact st_4 hb | exact st_5 hb | exact st_o hb2 | exact st_1 hb2 | exact st_2 hb2 | exact st_3 hb2 | exact st_4 hb2 | exact st_5 hb2) rfl rfl (by first | assumption | omega) ?_
    try simp only [hN, e1, e2, e3, e4, e5, e6, pC_1, pC_2, pC_3, pC_4, pC_5, set_1, set_2, set_3, set_4, set_5, set_6]
    refine g_aload0 38 rfl dX7_copyFrom_37 ?_
    refine g_getR 41 rfl fX7_18 (by first | rfl | exact st_o hb | exact st_1 hb | exact st_2 hb | exact st_3 hb | exact st_4 hb | exact st_5 hb | exact st_o hb2 | exact st_1 hb2 | exact st_2 hb2 | exact st_3 hb2 | exact st_4 hb2 | exact st_5 hb2) rfl dX7_copyFrom_38 ?_
    refine g_iload2 42 rfl dX7_copyFrom_41 ?_
    refine g_aload1 43 rfl dX7_copyFrom_42 ?_
    refine g_getR 46 rfl fX7_18 (by first | rfl | exact st_o hb | exact st_1 hb | exact st_2 hb | exact st_3 hb | exact st_4 hb | exact st_5 hb | exact st_o hb2 | exact st_1 hb2 | exact st_2 hb2 | exact st_3 hb2 | exact st_4 hb2 | exact st_5 hb2) rfl dX7_copyFrom_43 ?_
    refine g_iload2 47 rfl dX7_copyFrom_46 ?_
    refine g_iald 48 rfl dX7_copyFrom_47 (by first | rfl | exact st_o hb | exact st_1 hb | exact st_2 hb | exact st_3 hb | exact st_4 hb | exact st_5 hb | exact st_o hb2 | exact st_1 hb2 | exact st_2 hb2 | exact st_3 hb2 | exact st_4 hb2 | exact st_5 hb2) rfl rfl (by first | assumption | omega) ?_
    try simp only [hN, e1, e2, e3, e4, e5, e6, pC_1, pC_2, pC_3, pC_4, pC_5, set_1, set_2, set_3, set_4, set_5, set_6]
    refine g_iast 49 rfl dX7_copyFrom_48 (by first | rfl | exact st_o hb | exact st_1 hb | exact st_2 hb | exact st_3 hb | exact st_4 hb | exact st_5 hb | exact st_o hb2 | exact st_1 hb2 | exact st_2 hb2 | exact st_3 hb2 | exact st_4 hb2 | exact st_5 hb2) rfl rfl (by first | assumption | omega) ?_
    try simp only [hN, e1, e2, e3, e4, e5, e6, pC_1, pC_2, pC_3, pC_4, pC_5, set_1, set_2, set_3, set_4, set_5, set_6]
    refine g_aload0 50 rfl dX7_copyFrom_49 ?_
    refine g_getR 53 rfl fX7_21 (by first | rfl | exact st_o hb | exact st_1 hb | exact st_2 hb | exact st_3 hb | exact st_4 hb | exact st_5 hb | exact st_o hb2 | exact st_1 hb2 | exact st_2 hb2 | exact st_3 hb2 | exact st_4 hb2 | exact st_5 hb2) rfl dX7_copyFrom_50 ?_
    refine g_iload2 54 rfl dX7_copyFrom_53 ?_
    refine g_aload1 55 rfl dX7_copyFrom_54 ?_
    refine g_getR 58 rfl fX7_21 (by first | rfl | exact st_o hb | exact st_1 hb | exact st_2 hb | exact st_3 hb | exact st_4 hb | exact st_5 hb | exact st_o hb2 | exact st_1 hb2 | exact st_2 hb2 | exact st_3 hb2 | exact st_4 hb2 | exact st_5 hb2) rfl dX7_copyFrom_55 ?_
    refine g_iload2 59 rfl dX7_copyFrom_58 ?_
    refine g_iald 60 rfl dX7_copyFrom_59 (by first | rfl | exact st_o hb | exact st_1 hb | exact st_2 hb | exact st_3 hb | exact st_4 hb | exact st_5 hb | exact st_o hb2 | exact st_1 hb2 | exact st_2 hb2 | exact st_3 hb2 | exact st_4 hb2 | exact st_5 hb2) rfl rfl (by first | assumption | omega) ?_
    try simp only [hN, e1, e2, e3, e4, e5, e6, pC_1, pC_2, pC_3, pC_4, pC_5, set_1, set_2, set_3, set_4, set_5, set_6]
    refine g_iast 61 rfl dX7_copyFrom_60 (by first | rfl | exact st_o hb | exact st_1 hb | exact st_2 hb | exact st_3 hb | exact st_4 hb | exact st_5 hb | exact st_o hb2 | exact st_1 hb2 | exact st_2 hb2 | exact st_3 hb2 | exact st_4 hb2 | exact st_5 hb2) rfl rfl (by first | assumption | omega) ?_
    try simp only [hN, e1, e2, e3, e4, e5, e6, pC_1, pC_2, pC_3, pC_4, pC_5, set_1, set_2, set_3, set_4, set_5, set_6]
    refine g_aload0 62 rfl dX7_copyFrom_61 ?_
    refine g_getR 65 rfl fX7_24 (by first | rfl | exact st_o hb | exact st_1 hb | exact st_2 hb | exact st_3 hb | exact st_4 hb | exact st_5 hb | exact st_o hb2 | exact st_1 hb2 | exact st_2 hb2 | exact st_3 hb2 | exact st_4 hb2 | exact st_5 hb2) rfl dX7_copyFrom_62 ?_
    refine g_iload2 66 rfl dX7_copyFrom_65 ?_
    refine g_aload1 67 rfl dX7_copyFrom_66 ?_
    refine g_getR 70 rfl fX7_24 (by first | rfl | exact st_o hb | exact st_1 hb | exact st_2 hb | exact st_3 hb | exact st_4 hb | exact st_5 hb | exact st_o hb2 | exact st_1 hb2 | exact st_2 hb2 | exact st_3 hb2 | exact st_4 hb2 | exact st_5 hb2) rfl dX7_copyFrom_67 ?_
    refine g_iload2 71 rfl dX7_copyFrom_70 ?_
    refine g_iald 72 rfl dX7_copyFrom_71 (by first | rfl | exact st_o hb | exact st_1 hb | exact st_2 hb | exact st_3 hb | exact st_4 hb | exact st_5 hb | exact st_o hb2 | exact st_1 hb2 | exact st_2 hb2 | exact st_3 hb2 | exact st_4 hb2 | exact st_5 hb2) rfl rfl (by first | assumption | omega) ?_
    try simp only [hN, e1, e2, e3, e4, e5, e6, pC_1, pC_2, pC_3, pC_4, pC_5, set_1, set_2, set_3, set_4, set_5, set_6]
    refine g_iast 73 rfl dX7_copyFrom_72 (by first | rfl | exact st_o hb | exact st_1 hb | exact st_2 hb | exact st_3 hb | exact st_4 hb | exact st_5 hb | exact st_o hb2 | exact st_1 hb2 | exact st_2 hb2 | exact st_3 hb2 | exact st_4 hb2 | exact st_5 hb2) rfl rfl (by first | assumption | omega) ?_
    try simp only [hN, e1, e2, e3, e4, e5, e6, pC_1, pC_2, pC_3, pC_4, pC_5, set_1, set_2, set_3, set_4, set_5, set_6]
    refine g_iinc2 76 rfl dX7_copyFrom_73 rfl rfl _ (by first | exact iinc1 _ | exact iincx _ | rfl) ?_
    refine g_goto 2 dX7_copyFrom_76 (by decide) ?_
    exact ih
def pvB (K Z : Nat → Int32) (i : Nat) (y : Sx) : Sx := wJ (wS (wH (wZ (wK y (upd (sK y) i (K i))) (upd (sZ y) i (Z i))) (upd (sH y) i (if K i = -1 then -5 else 0))) (upd (sS y) i 0)) (upd (sJ y) i 0)
theorem pv_E {K Z : Nat → Int32} : ∀ (i : Nat) (x : Sx), eqN i (sK (itN (pvB K Z) i x)) K ∧ eqN i (sZ (itN (pvB K Z) i x)) Z ∧ eqN i (sH (itN (pvB K Z) i x)) (fun c => if K c = -1 then -5 else 0) ∧ eqN i (sS (itN (pvB K Z) i x)) (fun _ => 0) ∧ eqN i (sJ (itN (pvB K Z) i x)) (fun _ => 0) ∧ sD (itN (pvB K Z) i x) = sD x
  | 0, x => ⟨fun c h => absurd h (by omega), fun c h => absurd h (by omega), fun c h => absurd h (by omega), fun c h => absurd h (by omega), fun c h => absurd h (by omega), rfl⟩
  | i + 1, x => by
    obtain ⟨h1, h2, h3, h4, h5, h6⟩ := pv_E (K := K) (Z := Z) i x
    exact ⟨up_in h1, up_in h2, up_in (g := fun c => if K c = -1 then -5 else 0) h3, up_in (g := fun _ => 0) h4, up_in (g := fun _ => 0) h5, h6⟩
theorem ok_X7_pave {l : Launch} {M : Mm} {R W : Nat} {x : Sx} (hp : Plan M R W) : Ov GC l mX7_pave [.ref 15, .ref 3] (pC M 15 x) (pC M 15 (itN (pvB (M.1 4) (M.1 5)) (R * W) x)) := by
  have hb : isSt 15 := Or.inl rfl
  have h30 := hp.1.le
  have hN : ∀ y, (pC M 15 y).1 12 4 = nI (R * W) := fun y => (pC_plan (x := y) hb hp).2.2.2.1
  have e4 : ∀ y, (pC M 15 y).1 4 = M.1 4 := fun y => pC_o (by decide)
  have e5 : ∀ y, (pC M 15 y).1 5 = M.1 5 := fun y => pC_o (by decide)
  have eK : ∀ (y : Sx) (f : Nat → Int32), sK (wZ (wK y f) f) = f := fun _ _ => rfl
  refine ok_of (by decide +kernel) rfl rfl ?_
  refine g_iconst 1 rfl (v := 0) dX7_pave_0 (by decide) ?_
  refine g_istore2 2 rfl dX7_pave_1 rfl rfl ?_
  refine loop_up (P := fun i => Go GC l mX7_pave 2 [.ref 15, .ref 3, .int (nI i)] [] (pC M 15 (itN (pvB (M.1 4) (M.1 5)) i x)) _) (R * W) ?_ ?_ 0 (by omega)
  · refine g_iload2 3 rfl dX7_pave_2 ?_
    refine g_aload0 4 rfl dX7_pave_3 ?_
    refine g_getR 7 rfl fX7_34 (by first | rfl | exact st_o hb | exact st_1 hb | exact st_2 hb | exact st_3 hb | exact st_4 hb | exact st_5 hb | exact st_o hb2 | exact st_1 hb2 | exact st_2 hb2 | exact st_3 hb2 | exact st_4 hb2 | exact st_5 hb2) rfl dX7_pave_4 ?_
    refine g_getI 10 rfl fX7_38 (by first | rfl | exact st_o hb | exact st_1 hb | exact st_2 hb | exact st_3 hb | exact st_4 hb | exact st_5 hb | exact st_o hb2 | exact st_1 hb2 | exact st_2 hb2 | exact st_3 hb2 | exact st_4 hb2 | exact st_5 hb2) rfl dX7_pave_7 ?_
    try simp only [hN, e4, e5, pC_1 (b := 15), pC_2 (b := 15), pC_3 (b := 15), pC_4 (b := 15), pC_5 (b := 15), set_1 (b := 15), set_2 (b := 15), set_3 (b := 15), set_4 (b := 15), set_5 (b := 15)]
    refine g_cmpge 79 13 rfl dX7_pave_10 (by decide) (fun h10 => ?_) (fun h => absurd (Int32.le_refl _) h)
    refine g_vret rfl dX7_pave_79 ?_
    exact ⟨rfl, rfl⟩
  · intro i hi ih
    simp only [it4, pvB] at ih
    refine g_iload2 3 rfl dX7_pave_2 ?_
    refine g_aload0 4 rfl dX7_pave_3 ?_
    refine g_getR 7 rfl fX7_34 (by first | rfl | exact st_o hb | exact st_1 hb | exact st_2 hb | exact st_3 hb | exact st_4 hb | exact st_5 hb | exact st_o hb2 | exact st_1 hb2 | exact st_2 hb2 | exact st_3 hb2 | exact st_4 hb2 | exact st_5 hb2) rfl dX7_pave_4 ?_
    refine g_getI 10 rfl fX7_38 (by first | rfl | exact st_o hb | exact st_1 hb | exact st_2 hb | exact st_3 hb | exact st_4 hb | exact st_5 hb | exact st_o hb2 | exact st_1 hb2 | exact st_2 hb2 | exact st_3 hb2 | exact st_4 hb2 | exact st_5 hb2) rfl dX7_pave_7 ?_
    try simp only [hN, e4, e5, pC_1 (b := 15), pC_2 (b := 15), pC_3 (b := 15), pC_4 (b := 15), pC_5 (b := 15), set_1 (b := 15), set_2 (b := 15), set_3 (b := 15), set_4 (b := 15), set_5 (b := 15)]
    refine g_cmpge 79 13 rfl dX7_pave_10 (by decide) (fun h => absurd h (nI_ge hi (by omega))) (fun h10 => ?_)
    refine g_aload0 14 rfl dX7_pave_13 ?_
    refine g_getR 17 rfl fX7_9 (by first | rfl | exact st_o hb | exact st_1 hb | exact st_2 hb | exact st_3 hb | exact st_4 hb | exact st_5 hb | exact st_o hb2 | exact st_1 hb2 | exact st_2 hb2 | exact st_3 hb2 | exact st_4 hb2 | exact st_5 hb2) rfl dX7_pave_14 ?_
    refine g_iload2 18 rfl dX7_pave_17 ?_
    refine g_aload1 19 rfl dX7_pave_18 ?_
    refine g_getR 22 rfl fX7_43 (by first | rfl | exact st_o hb | exact st_1 hb | exact st_2 hb | exact st_3 hb | exact st_4 hb | exact st_5 hb | exact st_o hb2 | exact st_1 hb2 | exact st_2 hb2 | exact st_3 hb2 | exact st_4 hb2 | exact st_5 hb2) rfl dX7_pave_19 ?_
    refine g_iload2 23 rfl dX7_pave_22 ?_
    refine g_iald 24 rfl dX7_pave_23 (by first | rfl | exact st_o hb | exact st_1 hb | exact st_2 hb | exact st_3 hb | exact st_4 hb | exact st_5 hb | exact st_o hb2 | exact st_1 hb2 | exact st_2 hb2 | exact st_3 hb2 | exact st_4 hb2 | exact st_5 hb2) rfl rfl (by first | assumption | omega) ?_
    try simp only [hN, e4, e5, pC_1 (b := 15), pC_2 (b := 15), pC_3 (b := 15), pC_4 (b := 15), pC_5 (b := 15), set_1 (b := 15), set_2 (b := 15), set_3 (b := 15), set_4 (b := 15), set_5 (b := 15)]
    refine g_iast 25 rfl dX7_pave_24 (by first | rfl | exact st_o hb | exact st_1 hb | exact st_2 hb | exact st_3 hb | exact st_4 hb | exact st_5 hb | exact st_o hb2 | exact st_1 hb2 | exact st_2 hb2 | exact st_3 hb2 | exact st_4 hb2 | exact st_5 hb2) rfl rfl (by first | assumption | omega) ?_
    try simp only [hN, e4, e5, pC_1 (b := 15), pC_2 (b := 15), pC_3 (b := 15), pC_4 (b := 15), pC_5 (b := 15), set_1 (b := 15), set_2 (b := 15), set_3 (b := 15), set_4 (b := 15), set_5 (b := 15)]
    refine g_aload0 26 rfl dX7_pave_25 ?_
    refine g_getR 29 rfl fX7_15 (by first | rfl | exact st_o hb | exact st_1 hb | exact st_2 hb | exact st_3 hb | exact st_4 hb | exact st_5 hb | exact st_o hb2 | exact st_1 hb2 | exact st_2 hb2 | exact st_3 hb2 | exact st_4 hb2 | exact st_5 hb2) rfl dX7_pave_26 ?_
    refine g_iload2 30 rfl dX7_pave_29 ?_
    refine g_aload1 31 rfl dX7_pave_30 ?_
    refine g_getR 34 rfl fX7_46 (by first | rfl | exact st_o hb | exact st_1 hb | exact st_2 hb | exact st_3 hb | exact st_4 hb | exact st_5 hb | exact st_o hb2 | exact st_1 hb2 | exact st_2 hb2 | exact st_3 hb2 | exact st_4 hb2 | exact st_5 hb2) rfl dX7_pave_31 ?_
    refine g_iload2 35 rfl dX7_pave_34 ?_
    refine g_iald 36 rfl dX7_pave_35 (by first | rfl | exact st_o hb | exact st_1 hb | exact st_2 hb | exact st_3 hb | exact st_4 hb | exact st_5 hb | exact st_o hb2 | exact st_1 hb2 | exact st_2 hb2 | exact st_3 hb2 | exact st_4 hb2 | exact st_5 hb2) rfl rfl (by first | assumption | omega) ?_
    try simp only [hN, e4, e5, pC_1 (b := 15), pC_2 (b := 15), pC_3 (b := 15), pC_4 (b := 15), pC_5 (b := 15), set_1 (b := 15), set_2 (b := 15), set_3 (b := 15), set_4 (b := 15), set_5 (b := 15)]
    refine g_iast 37 rfl dX7_pave_36 (by first | rfl | exact st_o hb | exact st_1 hb | exact st_2 hb | exact st_3 hb | exact st_4 hb | exact st_5 hb | exact st_o hb2 | exact st_1 hb2 | exact st_2 hb2 | exact st_3 hb2 | exact st_4 hb2 | exact st_5 hb2) rfl rfl (by first | assumption | omega) ?_
    try simp only [hN, e4, e5, pC_1 (b := 15), pC_2 (b := 15), pC_3 (b := 15), pC_4 (b := 15), pC_5 (b := 15), set_1 (b := 15), set_2 (b := 15), set_3 (b := 15), set_4 (b := 15), set_5 (b := 15)]
    refine g_aload0 38 rfl dX7_pave_37 ?_
    refine g_getR 41 rfl fX7_18 (by first | rfl | exact st_o hb | exact st_1 hb | exact st_2 hb | exact st_3 hb | exact st_4 hb | exact st_5 hb | exact st_o hb2 | exact st_1 hb2 | exact st_2 hb2 | exact st_3 hb2 | exact st_4 hb2 | exact st_5 hb2) rfl dX7_pave_38 ?_
    refine g_iload2 42 rfl dX7_pave_41 ?_
    refine g_aload0 43 rfl dX7_pave_42 ?_
    refine g_getR 46 rfl fX7_9 (by first | rfl | exact st_o hb | exact st_1 hb | exact st_2 hb | exact st_3 hb | exact st_4 hb | exact st_5 hb | exact st_o hb2 | exact st_1 hb2 | exact st_2 hb2 | exact st_3 hb2 | exact st_4 hb2 | exact st_5 hb2) rfl dX7_pave_43 ?_
    refine g_iload2 47 rfl dX7_pave_46 ?_
    refine g_iald 48 rfl dX7_pave_47 (by first | rfl | exact st_o hb | exact st_1 hb | exact st_2 hb | exact st_3 hb | exact st_4 hb | exact st_5 hb | exact st_o hb2 | exact st_1 hb2 | exact st_2 hb2 | exact st_3 hb2 | exact st_4 hb2 | exact st_5 hb2) rfl rfl (by first | assumption | omega) ?_
    try simp only [hN, e4, e5, pC_1 (b := 15), pC_2 (b := 15), pC_3 (b := 15), pC_4 (b := 15), pC_5 (b := 15), set_1 (b := 15), set_2 (b := 15), set_3 (b := 15), set_4 (b := 15), set_5 (b := 15)]
    refine g_iconst 49 rfl (v := (-1)) dX7_pave_48 (by decide) ?_
    refine g_cmpne 57 52 rfl dX7_pave_49 (by decide) (fun h49 => ?_) (fun h49 => ?_)
    · refine g_iconst 58 rfl (v := 0) dX7_pave_57 (by decide) ?_
      refine g_iast 59 rfl dX7_pave_58 (by first | rfl | exact st_o hb | exact st_1 hb | exact st_2 hb | exact st_3 hb | exact st_4 hb | exact st_5 hb | exact st_o hb2 | exact st_1 hb2 | exact st_2 hb2 | exact st_3 hb2 | exact st_4 hb2 | exact st_5 hb2) rfl rfl (by first | assumption | omega) ?_
      try simp only [hN, e4, e5, pC_1 (b := 15), pC_2 (b := 15), pC_3 (b := 15), pC_4 (b := 15), pC_5 (b := 15), set_1 (b := 15), set_2 (b := 15), set_3 (b := 15), set_4 (b := 15), set_5 (b := 15)]
      refine g_aload0 60 rfl dX7_pave_59 ?_
      refine g_getR 63 rfl fX7_21 (by first | rfl | exact st_o hb | exact st_1 hb | exact st_2 hb | exact st_3 hb | exact st_4 hb | exact st_5 hb | exact st_o hb2 | exact st_1 hb2 | exact st_2 hb2 | exact st_3 hb2 | exact st_4 hb2 | exact st_5 hb2) rfl dX7_pave_60 ?_
      refine g_iload2 64 rfl dX7_pave_63 ?_
      refine g_iconst 65 rfl (v := 0) dX7_pave_64 (by decide) ?_
      refine g_iast 66 rfl dX7_pave_65 (by first | rfl | exact st_o hb | exact st_1 hb | exact st_2 hb | exact st_3 hb | exact st_4 hb | exact st_5 hb | exact st_o hb2 | exact st_1 hb2 | exact st_2 hb2 | exact st_3 hb2 | exact st_4 hb2 | exact st_5 hb2) rfl rfl (by first | assumption | omega) ?_
      try simp only [hN, e4, e5, pC_1 (b := 15), pC_2 (b := 15), pC_3 (b := 15), pC_4 (b := 15), pC_5 (b := 15), set_1 (b := 15), set_2 (b := 15), set_3 (b := 15), set_4 (b := 15), set_5 (b := 15)]
      refine g_aload0 67 rfl dX7_pave_66 ?_
      refine g_getR 70 rfl fX7_24 (by first | rfl | exact st_o hb | exact st_1 hb | exact st_2 hb | exact st_3 hb | exact st_4 hb | exact st_5 hb | exact st_o hb2 | exact st_1 hb2 | exact st_2 hb2 | exact st_3 hb2 | exact st_4 hb2 | exact st_5 hb2) rfl dX7_pave_67 ?_
      refine g_iload2 71 rfl dX7_pave_70 ?_
      refine g_iconst 72 rfl (v := 0) dX7_pave_71 (by decide) ?_
      refine g_iast 73 rfl dX7_pave_72 (by first | rfl | exact st_o hb | exact st_1 hb | exact st_2 hb | exact st_3 hb | exact st_4 hb | exact st_5 hb | exact st_o hb2 | exact st_1 hb2 | exact st_2 hb2 | exact st_3 hb2 | exact st_4 hb2 | exact st_5 hb2) rfl rfl (by first | assumption | omega) ?_
      try simp only [hN, e4, e5, pC_1 (b := 15), pC_2 (b := 15), pC_3 (b := 15), pC_4 (b := 15), pC_5 (b := 15), set_1 (b := 15), set_2 (b := 15), set_3 (b := 15), set_4 (b := 15), set_5 (b := 15)]
      refine g_iinc2 76 rfl dX7_pave_73 rfl rfl _ (by first | exact iinc1 _ | exact iincx _ | rfl) ?_
      refine g_goto 2 dX7_pave_76 (by decide) ?_
      (have h4 := h49; simp only [sK, wZ, wK, upd_at] at h4; (first | rw [if_pos h4] at ih | rw [if_neg h4] at ih); exact ih)
    · refine g_bipush 54 rfl (v := (-5)) dX7_pave_52 (by decide) ?_
      refine g_goto 58 dX7_pave_54 (by decide) ?_
      refine g_iast 59 rfl dX7_pave_58 (by first | rfl | exact st_o hb | exact st_1 hb | exact st_2 hb | exact st_3 hb | exact st_4 hb | exact st_5 hb | exact st_o hb2 | exact st_1 hb2 | exact st_2 hb2 | exact st_3 hb2 | exact st_4 hb2 | exact st_5 hb2) rfl rfl (by first | assumption | omega) ?_
      try simp only [hN, e4, e5, pC_1 (b := 15), pC_2 (b := 15), pC_3 (b := 15), pC_4 (b := 15), pC_5 (b := 15), set_1 (b := 15), set_2 (b := 15), set_3 (b := 15), set_4 (b := 15), set_5 (b := 15)]
      refine g_aload0 60 rfl dX7_pave_59 ?_
      refine g_getR 63 rfl fX7_21 (by first | rfl | exact st_o hb | exact st_1 hb | exact st_2 hb | exact st_3 hb | exact st_4 hb | exact st_5 hb | exact st_o hb2 | exact st_1 hb2 | exact st_2 hb2 | exact st_3 hb2 | exact st_4 hb2 | exact st_5 hb2) rfl dX7_pave_60 ?_
      refine g_iload2 64 rfl dX7_pave_63 ?_
      refine g_iconst 65 rfl (v := 0) dX7_pave_64 (by decide) ?_
      refine g_iast 66 rfl dX7_pave_65 (by first | rfl | exact st_o hb | exact st_1 hb | exact st_2 hb | exact st_3 hb | exact st_4 hb | exact st_5 hb | exact st_o hb2 | exact st_1 hb2 | exact st_2 hb2 | exact st_3 hb2 | exact st_4 hb2 | exact st_5 hb2) rfl rfl (by first | assumption | omega) ?_
      try simp only [hN, e4, e5, pC_1 (b := 15), pC_2 (b := 15), pC_3 (b := 15), pC_4 (b := 15), pC_5 (b := 15), set_1 (b := 15), set_2 (b := 15), set_3 (b := 15), set_4 (b := 15), set_5 (b := 15)]
      refine g_aload0 67 rfl dX7_pave_66 ?_
      refine g_getR 70 rfl fX7_24 (by first | rfl | exact st_o hb | exact st_1 hb | exact st_2 hb | exact st_3 hb | exact st_4 hb | exact st_5 hb | exact st_o hb2 | exact st_1 hb2 | exact st_2 hb2 | exact st_3 hb2 | exact st_4 hb2 | exact st_5 hb2) rfl dX7_pave_67 ?_
      refine g_iload2 71 rfl dX7_pave_70 ?_
      refine g_iconst 72 rfl (v := 0) dX7_pave_71 (by decide) ?_
      refine g_iast 73 rfl dX7_pave_72 (by first | rfl | exact st_o hb | exact st_1 hb | exact st_2 hb | exact st_3 hb | exact st_4 hb | exact st_5 hb | exact st_o hb2 | exact st_1 hb2 | exact st_2 hb2 | exact st_3 hb2 | exact st_4 hb2 | exact st_5 hb2) rfl rfl (by first | assumption | omega) ?_
      try simp only [hN, e4, e5, pC_1 (b := 15), pC_2 (b := 15), pC_3 (b := 15), pC_4 (b := 15), pC_5 (b := 15), set_1 (b := 15), set_2 (b := 15), set_3 (b := 15), set_4 (b := 15), set_5 (b := 15)]
      refine g_iinc2 76 rfl dX7_pave_73 rfl rfl _ (by first | exact iinc1 _ | exact iincx _ | rfl) ?_
      refine g_goto 2 dX7_pave_76 (by decide) ?_
      (have h4 := h49; simp only [sK, wZ, wK, upd_at] at h4; (first | rw [if_pos h4] at ih | rw [if_neg h4] at ih); exact ih)
def absI (z : Int32) : Int32 := if 0 ≤ z then z else 0 - z
def jolN (H : Nat → Int32) (W r v : Nat) : Nat → Int32
  | 0 => 0
  | i + 1 => jolN H W r v i + absI (H (r * W + i * v) - H (r * W + (i * v + v)))
theorem ok_X4_steps {l : Launch} {M : Mm} {R W v : Nat} (hp : Plan M R W) (hW : 0 < W) (hv : 0 < v) (hv2 : v < 100) : Oi GC l mX4_steps [.ref 12, .int (nI v)] M (nI ((W - 1) / v)) M := by
  have h3 := hp.2.2.1
  have hr5 : W ≤ 30 := by rcases hp.1 with ⟨rfl, rfl⟩ | ⟨h1, h2, h3, h4⟩ <;> omega
  refine ok_of (by decide +kernel) rfl rfl ?_
  refine g_aload0 1 rfl dX4_steps_0 ?_
  refine g_getI 4 rfl fX4_23 (by first | rfl | exact st_o hb | exact st_1 hb | exact st_2 hb | exact st_3 hb | exact st_4 hb | exact st_5 hb | exact st_o hb2 | exact st_1 hb2 | exact st_2 hb2 | exact st_3 hb2 | exact st_4 hb2 | exact st_5 hb2) rfl dX4_steps_1 ?_
  refine g_iconst 5 rfl (v := 1) dX4_steps_4 (by decide) ?_
  refine g_isub 6 rfl dX4_steps_5 ?_
  refine g_iload1 7 rfl dX4_steps_6 ?_
  refine g_callNi 10 2 rfl kX4_33 dX4_steps_7 ⟨rfl, rfl⟩ ok_X11_quotient rfl rfl rfl ?_
  refine g_iret rfl dX4_steps_10 ?_
  refine ⟨?_, rfl⟩
  rw [h3, show (1 : Int32) = nI 1 from rfl, pk_sub (by omega), quo, if_pos (by rw [show (1 : Int32) = nI 1 from rfl]; exact nI_le (by omega) (by omega)), pk_div (by omega) hv (by omega)]
theorem ok_X7_jolts {l : Launch} {M : Mm} {R W b r v : Nat} {x : Sx} (hb : isSt b) (hp : Plan M R W) (hr : r < R) (hv : 0 < v) (hv2 : v < 100) : Oi GC l mX7_jolts [.ref b, .int (nI r), .int (nI v)] (pC M b x) (jolN (sH x) W r v ((W - 1) / v)) (pC M b x) := by
  have h30 := hp.1.le
  have hr5 : R ≤ 30 ∧ W ≤ 30 ∧ 0 < W := by rcases hp.1 with ⟨rfl, rfl⟩ | ⟨h1, h2, h3, h4⟩ <;> omega
  have hp2 := pC_plan (x := x) hb hp
  have hn : ∀ c, c < W → numO R W (nI r) (nI c) = nI (r * W + c) := by
    intro c hc
    rw [numO, if_pos ⟨nI_pos' (by omega), nI_lt hr (by omega), nI_pos' (by omega), nI_lt hc (by omega)⟩, pk_mul, nI_add]
  refine ok_of (by decide +kernel) rfl rfl ?_
  refine g_iconst 1 rfl (v := 0) dX7_jolts_0 (by decide) ?_
  refine g_istore3 2 rfl dX7_jolts_1 rfl rfl ?_
  refine g_aload0 3 rfl dX7_jolts_2 ?_
  refine g_getR 6 rfl fX7_34 (by first | rfl | exact st_o hb | exact st_1 hb | exact st_2 hb | exact st_3 hb | exact st_4 hb | exact st_5 hb | exact st_o hb2 | exact st_1 hb2 | exact st_2 hb2 | exact st_3 hb2 | exact st_4 hb2 | exact st_5 hb2) rfl dX7_jolts_3 ?_
  refine g_iload2 7 rfl dX7_jolts_6 ?_
  refine g_callVi 10 1 rfl kX7_89 (by first | rfl | exact st_o hb | exact st_1 hb | exact st_2 hb | exact st_3 hb | exact st_4 hb | exact st_5 hb | exact st_o hb2 | exact st_1 hb2 | exact st_2 hb2 | exact st_3 hb2 | exact st_4 hb2 | exact st_5 hb2) dX7_jolts_7 ⟨rfl, rfl⟩ (ok_X4_steps hp2 hr5.2.2 hv hv2) rfl rfl rfl ?_
  refine g_istore4 12 rfl dX7_jolts_10 rfl rfl ?_
  refine g_iconst 13 rfl (v := 0) dX7_jolts_12 (by decide) ?_
  refine g_istore5 15 rfl dX7_jolts_13 rfl rfl ?_
  have hq : (W - 1) / v ≤ W - 1 := Nat.div_le_self _ _
  refine loop_up (P := fun i => Go GC l mX7_jolts 15 [.ref b, .int (nI r), .int (nI v), .int (jolN (sH x) W r v i), .int (nI ((W - 1) / v)), .int (nI i), .null, .null] [] (pC M b x) _) ((W - 1) / v) ?_ ?_ 0 (Nat.zero_le _)
  · refine g_iload5 17 rfl dX7_jolts_15 ?_
    refine g_iload4 19 rfl dX7_jolts_17 ?_
    refine g_cmpge 91 22 rfl dX7_jolts_19 (by decide) (fun h19 => ?_) (fun h => absurd (Int32.le_refl _) h)
    refine g_iload3 92 rfl dX7_jolts_91 ?_
    refine g_iret rfl dX7_jolts_92 ?_
    exact ⟨rfl, rfl⟩
  · intro i hi ih
    have hm : i * v + v ≤ W - 1 := by
      have h1 : (i + 1) * v ≤ (W - 1) / v * v := Nat.mul_le_mul_right v hi
      have h2 : (W - 1) / v * v ≤ W - 1 := Nat.div_mul_le_self _ _
      rw [Nat.add_mul, Nat.one_mul] at h1
      omega
    have hl1 := rc_lt (W := W) hr (show i * v < W by omega)
    have hl2 := rc_lt (W := W) hr (show i * v + v < W by omega)
    refine g_iload5 17 rfl dX7_jolts_15 ?_
    refine g_iload4 19 rfl dX7_jolts_17 ?_
    refine g_cmpge 91 22 rfl dX7_jolts_19 (by decide) (fun h => absurd h (nI_ge hi (by omega))) (fun _ => ?_)
    refine g_aload0 23 rfl dX7_jolts_22 ?_
    refine g_getR 26 rfl fX7_34 (by first | rfl | exact st_o hb | exact st_1 hb | exact st_2 hb | exact st_3 hb | exact st_4 hb | exact st_5 hb | exact st_o hb2 | exact st_1 hb2 | exact st_2 hb2 | exact st_3 hb2 | exact st_4 hb2 | exact st_5 hb2) rfl dX7_jolts_23 ?_
    refine g_iload1 27 rfl dX7_jolts_26 ?_
    refine g_iload5 29 rfl dX7_jolts_27 ?_
    refine g_iload2 30 rfl dX7_jolts_29 ?_
    refine g_imul 31 rfl dX7_jolts_30 ?_
    refine g_callVi 34 2 rfl kX7_92 (by first | rfl | exact st_o hb | exact st_1 hb | exact st_2 hb | exact st_3 hb | exact st_4 hb | exact st_5 hb | exact st_o hb2 | exact st_1 hb2 | exact st_2 hb2 | exact st_3 hb2 | exact st_4 hb2 | exact st_5 hb2) dX7_jolts_31 ⟨rfl, rfl⟩ (ok_X4_numberOf hp2.2.1 hp2.2.2.1) rfl rfl rfl ?_
    rw [pk_mul, hn _ (by omega)]
    refine g_istore6 36 rfl dX7_jolts_34 rfl rfl ?_
    refine g_aload0 37 rfl dX7_jolts_36 ?_
    refine g_getR 40 rfl fX7_34 (by first | rfl | exact st_o hb | exact st_1 hb | exact st_2 hb | exact st_3 hb | exact st_4 hb | exact st_5 hb | exact st_o hb2 | exact st_1 hb2 | exact st_2 hb2 | exact st_3 hb2 | exact st_4 hb2 | exact st_5 hb2) rfl dX7_jolts_37 ?_
    refine g_iload1 41 rfl dX7_jolts_40 ?_
    refine g_iload5 43 rfl dX7_jolts_41 ?_
    refine g_iload2 44 rfl dX7_jolts_43 ?_
    refine g_imul 45 rfl dX7_jolts_44 ?_
    refine g_iload2 46 rfl dX7_jolts_45 ?_
    refine g_iadd 47 rfl dX7_jolts_46 ?_
    refine g_callVi 50 2 rfl kX7_92 (by first | rfl | exact st_o hb | exact st_1 hb | exact st_2 hb | exact st_3 hb | exact st_4 hb | exact st_5 hb | exact st_o hb2 | exact st_1 hb2 | exact st_2 hb2 | exact st_3 hb2 | exact st_4 hb2 | exact st_5 hb2) dX7_jolts_47 ⟨rfl, rfl⟩ (ok_X4_numberOf hp2.2.1 hp2.2.2.1) rfl rfl rfl ?_
    rw [pk_mul, nI_add, hn _ (by omega)]
    refine g_istore7 52 rfl dX7_jolts_50 rfl rfl ?_
    refine g_iload6 54 rfl dX7_jolts_52 ?_
    refine g_iconst 55 rfl (v := (-1)) dX7_jolts_54 (by decide) ?_
    refine g_cmpeq 85 58 rfl dX7_jolts_55 (by decide) (fun h => absurd h (nI_ne_m1 (by omega))) (fun h => ?_)
    refine g_iload7 60 rfl dX7_jolts_58 ?_
    refine g_iconst 61 rfl (v := (-1)) dX7_jolts_60 (by decide) ?_
    refine g_cmpeq 85 64 rfl dX7_jolts_61 (by decide) (fun h => absurd h (nI_ne_m1 (by omega))) (fun h => ?_)
    refine g_iload3 65 rfl dX7_jolts_64 ?_
    refine g_aload0 66 rfl dX7_jolts_65 ?_
    refine g_getR 69 rfl fX7_18 (by first | rfl | exact st_o hb | exact st_1 hb | exact st_2 hb | exact st_3 hb | exact st_4 hb | exact st_5 hb | exact st_o hb2 | exact st_1 hb2 | exact st_2 hb2 | exact st_3 hb2 | exact st_4 hb2 | exact st_5 hb2) rfl dX7_jolts_66 ?_
    refine g_iload6 71 rfl dX7_jolts_69 ?_
    refine g_iald 72 rfl dX7_jolts_71 (by first | rfl | exact st_o hb | exact st_1 hb | exact st_2 hb | exact st_3 hb | exact st_4 hb | exact st_5 hb | exact st_o hb2 | exact st_1 hb2 | exact st_2 hb2 | exact st_3 hb2 | exact st_4 hb2 | exact st_5 hb2) rfl rfl (by first | assumption | omega) ?_
    try simp only [pC_3]
    refine g_aload0 73 rfl dX7_jolts_72 ?_
    refine g_getR 76 rfl fX7_18 (by first | rfl | exact st_o hb | exact st_1 hb | exact st_2 hb | exact st_3 hb | exact st_4 hb | exact st_5 hb | exact st_o hb2 | exact st_1 hb2 | exact st_2 hb2 | exact st_3 hb2 | exact st_4 hb2 | exact st_5 hb2) rfl dX7_jolts_73 ?_
    refine g_iload7 78 rfl dX7_jolts_76 ?_
    refine g_iald 79 rfl dX7_jolts_78 (by first | rfl | exact st_o hb | exact st_1 hb | exact st_2 hb | exact st_3 hb | exact st_4 hb | exact st_5 hb | exact st_o hb2 | exact st_1 hb2 | exact st_2 hb2 | exact st_3 hb2 | exact st_4 hb2 | exact st_5 hb2) rfl rfl (by first | assumption | omega) ?_
    try simp only [pC_3]
    refine g_isub 80 rfl dX7_jolts_79 ?_
    refine g_mabs 83 rfl kX7_95 dX7_jolts_80 mt_abs.1 mt_abs.2.1 mt_abs.2.2 ⟨rfl, rfl⟩ rfl ?_
    refine g_iadd 84 rfl dX7_jolts_83 ?_
    refine g_istore3 85 rfl dX7_jolts_84 rfl rfl ?_
    refine g_iinc5 88 rfl dX7_jolts_85 rfl rfl _ (by first | exact iinc1 _ | exact iincx _ | rfl) ?_
    refine g_goto 15 dX7_jolts_88 (by decide) ?_
    refine g_fg 6 ?_
    refine g_fg 7 ?_
    exact ih
