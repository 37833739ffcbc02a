/-! what a street's numbers keep to, over all that is done to it -/
theorem SIc_of {x y : Sx} {d : Nat} (h1 : sK y d = sK x d) (h2 : sS y d = sS x d) (h3 : sJ y d = sJ x d) (h : SIc x d) : SIc y d := by
  unfold SIc
  rw [h1, h2, h3]
  exact h
theorem SIc_mk {y : Sx} {d : Nat} (k : Int32) (s j : Nat) (h1 : sK y d = k) (h2 : sS y d = nI s) (h3 : sJ y d = nI j) (hk : k = -1 ∨ k = 0 ∨ k = 1 ∨ k = 2 ∨ k = 3 ∨ k = 4) (hs : s ≤ 1) (hj : j ≤ 9) (hz : k = -1 → j = 0) : SIc y d := by
  unfold SIc
  rw [h1, h2, h3]
  exact ⟨hk, ⟨s, by omega, rfl, fun _ => hs, fun _ => by omega⟩, ⟨j, hj, rfl, hz⟩⟩
theorem SI_wor {n c : Nat} {x : Sx} (h : SI n x) : SI n (worS c x) := by
  intro d hd
  unfold worS
  split
  · exact h d hd
  · rename_i q1
    split
    · by_cases hdc : d = c
      · subst hdc
        obtain ⟨j, hj, ej, hz⟩ := (h d hd).2.2
        exact SIc_mk 2 0 j (upd_at _ _ _) (upd_at _ _ _) ej (by decide) (by omega) hj (fun z => absurd z (by decide))
      · exact SIc_of (pk_un hdc) (pk_un hdc) rfl (h d hd)
    · by_cases hdc : d = c
      · subst hdc
        exact SIc_mk (-1) 0 0 (upd_at _ _ _) (upd_at _ _ _) (upd_at _ _ _) (by decide) (by omega) (by omega) (fun _ => rfl)
      · exact SIc_of (pk_un hdc) (pk_un hdc) (pk_un hdc) (h d hd)
theorem los_nn {j : Nat} (hj : j ≤ 9) : (if 0 < nI j - 1 then nI j - 1 else 0) = nI (j - 1) := by
  cases j with
  | zero => decide
  | succ j =>
    rw [nI_pred]
    by_cases h : 0 < j
    · rw [if_pos (by rw [show (0 : Int32) = nI 0 from rfl]; exact nI_lt h (by omega))]; rfl
    · have : j = 0 := by omega
      subst this
      decide
theorem SI_los {n c : Nat} {x : Sx} (h : SI n x) : SI n (losS c x) := by
  intro d hd
  unfold losS
  by_cases hdc : d = c
  · subst hdc
    obtain ⟨a, b, j, hj, ej, hz⟩ := h d hd
    refine ⟨a, b, j - 1, by omega, ?_, fun z => by have := hz z; omega⟩
    show upd (sJ x) d _ d = _
    rw [upd_at, ej, los_nn hj]
  · exact SIc_of (x := x) rfl rfl (pk_un hdc) (h d hd)
theorem SI_fre {n c : Nat} {f : Int32} {x : Sx} (h : SI n x) : SI n (freS c f x) := by
  intro d hd
  unfold freS
  split
  · rename_i q
    split
    · by_cases hdc : d = c
      · subst hdc
        obtain ⟨j, hj, ej, hz⟩ := (h d hd).2.2
        exact SIc_mk 3 0 j (upd_at _ _ _) (upd_at _ _ _) ej (by decide) (by omega) hj (fun z => absurd z (by decide))
      · exact SIc_of (pk_un hdc) (pk_un hdc) rfl (h d hd)
    · exact h d hd
  · exact h d hd
theorem SI_wd {R W : Nat} {B : Nat → Int32} {x0 : Sx} {n : Nat} {p : Sx × Int32} (h : SI n p.1) : ∀ i, SI n (itN (wdB R W B x0) i p).1
  | 0 => h
  | i + 1 => by
    have ih := SI_wd (R := R) (W := W) (B := B) (x0 := x0) h i
    rw [it4, wdB]
    split
    · exact ih
    · exact SI_wor ih
theorem SI_frz {L : Nat → Int32} {fr : Int32} {n : Nat} {x : Sx} (h : SI n x) : ∀ i, SI n (itN (frzB L fr) i x)
  | 0 => h
  | i + 1 => by
    have ih := SI_frz (L := L) (fr := fr) h i
    rw [it4, frzB]
    split
    · exact ih
    · exact SI_fre (SI_los ih)
theorem SI_was {R W : Nat} {n : Nat} {x : Sx} (h : SI n x) : ∀ i, SI n (itN (wasB R W) i x)
  | 0 => h
  | i + 1 => by
    have ih := SI_was (R := R) (W := W) h i
    rw [it4, wasB]
    split
    · exact ih
    · exact SI_los ih
theorem SI_yea {R W n : Nat} {k : Ct} {fr : Int32} {x : Sx} (h : SI n x) : SI n (yeaS R W k fr x) := SI_was (SI_frz (SI_wd (p := (x, 0)) h _) _) _
theorem SI_yrs {R W n : Nat} {k : Ct} {fr : Int32} {x : Sx} (h : SI n x) : ∀ i, SI n (yrsS R W k fr i x).1
  | 0 => h
  | i + 1 => SI_yea (SI_yrs h i)
theorem SI_lev {n : Nat} {v : Int32} {x : Sx} (h : SI n x) : ∀ i, SI n (itN (levB v) i x)
  | 0 => h
  | i + 1 => by
    have ih := SI_lev (v := v) h i
    rw [it4, levB]
    split
    · exact ih
    · intro d hd
      by_cases hdc : d = i
      · subst hdc
        obtain ⟨a, b, c⟩ := ih d hd
        refine ⟨a, ⟨0, by omega, upd_at _ _ _, fun _ => by omega, fun _ => by omega⟩, c⟩
      · exact SIc_of (x := itN (levB v) i x) rfl (pk_un hdc) rfl (ih d hd)
theorem SI_gri {n j : Nat} (hj : j ≤ 9) {x : Sx} (h : SI n x) : ∀ i, SI n (itN (griB (nI j)) i x)
  | 0 => h
  | i + 1 => by
    have ih := SI_gri hj h i
    rw [it4, griB]
    split
    · exact ih
    · rename_i q
      intro d hd
      by_cases hdc : d = i
      · subst hdc
        obtain ⟨a, b, c⟩ := ih d hd
        exact ⟨a, b, j, hj, upd_at _ _ _, fun z => absurd z q⟩
      · exact SIc_of (x := itN (griB (nI j)) i x) rfl rfl (pk_un hdc) (ih d hd)
theorem SI_rep {n c : Nat} {z : Int32} {x : Sx} (h : SI n x) : SI n (repS c z x) := by
  intro d hd
  unfold repS
  split
  · by_cases hdc : d = c
    · subst hdc
      obtain ⟨j, hj, ej, hz⟩ := (h d hd).2.2
      exact SIc_mk 1 0 j (upd_at _ _ _) (upd_at _ _ _) ej (by decide) (by omega) hj (fun z => absurd z (by decide))
    · exact SIc_of (pk_un hdc) (pk_un hdc) rfl (h d hd)
  · by_cases hdc : d = c
    · subst hdc
      obtain ⟨j, hj, ej, hz⟩ := (h d hd).2.2
      exact SIc_mk 0 0 j (upd_at _ _ _) (upd_at _ _ _) ej (by decide) (by omega) hj (fun z => absurd z (by decide))
    · exact SIc_of (pk_un hdc) (pk_un hdc) rfl (h d hd)
theorem SI_E {n : Nat} {x y : Sx} (h : SI n x) (e : sxE n y x) : SI n y := fun c hc => SIc_of (e.K hc) (e.S hc) (e.J hc) (h c hc)
theorem HB_E {b n : Nat} {x y : Sx} (h : HB b n x) (e : sxE n y x) : HB b n y := fun c hc => by rw [e.H hc]; exact h c hc
/-! heights -/
theorem HB_it {α : Type} (pr : α → Sx) (f : Nat → α → α) (e : Nat) {b n : Nat} (hb : b + e < 1073741824) (h1 : ∀ i y c, c ≠ i → sH (pr (f i y)) c = sH (pr y) c) (h2 : ∀ i y (B : Nat), B + e < 1073741824 → -(B : Int) ≤ (sH (pr y) i).toInt → (sH (pr y) i).toInt ≤ (B : Int) → -((B + e : Nat) : Int) ≤ (sH (pr (f i y)) i).toInt ∧ (sH (pr (f i y)) i).toInt ≤ ((B + e : Nat) : Int)) {x : α} (h : HB b n (pr x)) : ∀ i, HB (b + e) n (pr (itN f i x)) ∧ ∀ c, i ≤ c → sH (pr (itN f i x)) c = sH (pr x) c
  | 0 => ⟨h.mono (by omega), fun _ _ => rfl⟩
  | i + 1 => by
    obtain ⟨a, d⟩ := HB_it pr f e hb h1 h2 h i
    rw [it4]
    refine ⟨fun c hc => ?_, fun c hc => ?_⟩
    · by_cases hci : c = i
      · subst hci
        have hx := h c hc
        rw [← d c (Nat.le_refl _)] at hx
        exact h2 c _ b hb hx.1 hx.2
      · rw [h1 i _ c hci]; exact a c hc
    · rw [h1 i _ c (by omega)]; exact d c (by omega)
theorem wor_ne {c d : Nat} {x : Sx} (h : d ≠ c) : sK (worS c x) d = sK x d ∧ sZ (worS c x) d = sZ x d ∧ sH (worS c x) d = sH x d := by
  unfold worS
  split
  · exact ⟨rfl, rfl, rfl⟩
  · split
    · exact ⟨pk_un h, rfl, rfl⟩
    · exact ⟨pk_un h, pk_un h, pk_un h⟩
theorem wd_at {R W : Nat} {B : Nat → Int32} {x : Sx} : ∀ i c, i ≤ c → sK (itN (wdB R W B x) i (x, 0)).1 c = sK x c ∧ sZ (itN (wdB R W B x) i (x, 0)).1 c = sZ x c
  | 0, _, _ => ⟨rfl, rfl⟩
  | i + 1, c, h => by
    have ih := wd_at (R := R) (W := W) (B := B) (x := x) i c (by omega)
    rw [it4, wdB]
    split
    · exact ih
    · have := wor_ne (c := i) (d := c) (x := (itN (wdB R W B x) i (x, 0)).1) (by omega)
      exact ⟨this.1.trans ih.1, this.2.1.trans ih.2⟩
theorem HB_wd {R W b n : Nat} {B : Nat → Int32} {x : Sx} (hb : b < 1000000000) (h : HB b n x) : ∀ i, HB (b + 5) n (itN (wdB R W B x) i (x, 0)).1 := by
  intro i
  refine (HB_it (fun p : Sx × Int32 => p.1) (wdB R W B x) 5 (by omega) (fun i y c hc => ?_) (fun i y D hD a d => ?_) (x := (x, 0)) h i).1
  · unfold wdB
    split
    · rfl
    · exact (wor_ne hc).2.2
  · unfold wdB
    split
    · omega
    · show _ ≤ (sH (worS i y.1) i).toInt ∧ (sH (worS i y.1) i).toInt ≤ _
      have a : -(D : Int) ≤ (sH y.1 i).toInt := a
      have d : (sH y.1 i).toInt ≤ (D : Int) := d
      unfold worS
      split
      · omega
      · split
        · show _ ≤ (sH y.1 i).toInt ∧ (sH y.1 i).toInt ≤ _
          omega
        · show _ ≤ (upd (sH y.1) i (sH y.1 i - 5) i).toInt ∧ (upd (sH y.1) i (sH y.1 i - 5) i).toInt ≤ _
          have e5 : (5 : Int32).toInt = 5 := by decide
          rw [upd_at, tI_sub (by omega) (by omega)]
          omega
theorem frz_H {L : Nat → Int32} {fr : Int32} {b n : Nat} {x : Sx} (hb : b < 1000000000) (h : HB b n x) : ∀ i, HB (b + 2) n (itN (frzB L fr) i x) ∧ ∀ c, i ≤ c → sH (itN (frzB L fr) i x) c = sH x c := by
  refine HB_it (fun p : Sx => p) (frzB L fr) 2 (by omega) (fun i y c hc => ?_) (fun i y D hD a d => ?_) h
  · unfold frzB
    split
    · rfl
    · unfold freS
      split
      · split
        · exact pk_un hc
        · rfl
      · rfl
  · have a : -(D : Int) ≤ (sH y i).toInt := a
    have d : (sH y i).toInt ≤ (D : Int) := d
    unfold frzB
    split
    · omega
    · unfold freS
      split
      · split
        · show _ ≤ (upd (sH y) i (sH y i + 2) i).toInt ∧ (upd (sH y) i (sH y i + 2) i).toInt ≤ _
          have e5 : (2 : Int32).toInt = 2 := by decide
          rw [upd_at, tI_add (by omega) (by omega)]
          omega
        · show _ ≤ (sH y i).toInt ∧ (sH y i).toInt ≤ _
          omega
      · show _ ≤ (sH y i).toInt ∧ (sH y i).toInt ≤ _
        omega
theorem was_H {R W : Nat} {x : Sx} : ∀ i, sH (itN (wasB R W) i x) = sH x
  | 0 => rfl
  | i + 1 => by
    have ih := was_H (R := R) (W := W) (x := x) i
    rw [it4, wasB]
    split
    · exact ih
    · exact ih
theorem HB_yea {R W b n : Nat} {k : Ct} {fr : Int32} {x : Sx} (hb : b < 900000000) (h : HB b n x) : HB (b + 7) n (yeaS R W k fr x) := by
  intro c hc
  unfold yeaS
  rw [was_H]
  exact (frz_H (b := b + 5) (by omega) (HB_wd (by omega) h (R * W)) (R * W)).1 c hc
theorem HB_yrs {R W b n : Nat} {k : Ct} {fr : Int32} {x : Sx} (hb : b < 800000000) (h : HB b n x) : ∀ i, i ≤ 100 → HB (b + 7 * i) n (yrsS R W k fr i x).1
  | 0, _ => h
  | i + 1, hi => by
    have := HB_yea (R := R) (W := W) (k := k) (fr := fr) (b := b + 7 * i) (by omega) (HB_yrs (R := R) (W := W) (k := k) (fr := fr) hb h i (by omega))
    exact this.mono (by omega)
theorem sink_b {R W c : Nat} {x : Sx} {w : Int32} (h : SIc x c) (hw : okW w) : 0 ≤ (sinkS R W x c w).toInt ∧ (sinkS R W x c w).toInt ≤ 50 := by
  obtain ⟨d, hd4, hd, ed⟩ := den_nn (R := R) (W := W) h
  obtain ⟨q, hq, rfl⟩ : ∃ q : Nat, q ≤ 99 ∧ w = nI q := by
    have h1 := Int32.le_iff_toInt_le.mp hw.1
    have h2 := Int32.le_iff_toInt_le.mp hw.2
    have e1 : (1 : Int32).toInt = 1 := by decide
    have e2 : (99 : Int32).toInt = 99 := by decide
    refine ⟨w.toInt.toNat, by omega, Int32.toInt_inj.mp ?_⟩
    rw [nI_toInt (by omega)]
    omega
  have e : quo (nI q) (4 + holdS R W x c + sS x c) = nI (q / d) := by
    rw [quo, ed, if_pos (by rw [show (1 : Int32) = nI 1 from rfl]; exact nI_le (by omega) (by omega)), pk_div (by omega) (by omega) (by omega)]
  have hq2 : q / d ≤ 24 := by
    have : q / d ≤ q / 4 := Nat.div_le_div_left hd4 (by omega)
    omega
  unfold sinkS
  rw [e]
  generalize q / d = r at hq2
  have e1 : (nI r + 1).toInt = (r : Int) + 1 := by rw [nI_1, nI_toInt (by omega)]; omega
  split
  · decide
  · split
    · decide
    · split
      · omega
      · split
        · have e2 : (2 : Int32).toInt = 2 := by decide
          rw [tI_mul (by rw [e1, e2]; omega) (by rw [e1, e2]; omega), e1, e2]
          omega
        · rw [nI_toInt (by omega)]; omega
theorem str_H {R W c : Nat} {x : Sx} {w : Int32} : sH (strS R W c w x) = upd (sH x) c (sH x c - sinkS R W x c w) := by
  unfold strS firmS
  generalize (if sS (wH x (upd (sH x) c (sH x c - sinkS R W x c w))) c + 1 < 99 then sS (wH x (upd (sH x) c (sH x c - sinkS R W x c w))) c + 1 else 99) = z
  split
  · rfl
  · split
    · rfl
    · split <;> rfl
theorem HB_str {R W b n c : Nat} {x : Sx} {w : Int32} (hc : c < n) (hb : b < 1000000000) (hs : SIc x c) (hw : okW w) (h : HB b n x) : HB (b + 50) n (strS R W c w x) := by
  intro d hd
  rw [str_H]
  by_cases hdc : d = c
  · subst hdc
    have h1 := h d hd
    have h2 := sink_b (R := R) (W := W) hs hw
    rw [upd_at, tI_sub (by omega) (by omega)]
    omega
  · rw [pk_un hdc]
    have := h d hd
    omega
theorem HB_rnd {R W o b : Nat} {w : Int32} {x : Sx} (h30 : R * W ≤ 30) (hb : b < 900000000) (hs : SI (R * W) x) (hw : okW w) (h : HB b (R * W) x) : ∀ i, i ≤ R * W → HB (b + 50 * i) (R * W) (itN (rndB R W o w) i (x, 0)).1
  | 0, _ => h
  | i + 1, hi => by
    have := HB_str (R := R) (W := W) (w := w) (trn_lt (o := o) (show i < R * W by omega)) (b := b + 50 * i) (by omega) (SI_rnd hs i (by omega) _ (trn_lt (by omega))) hw (HB_rnd (o := o) h30 hb hs hw h i (by omega))
    exact this.mono (by omega)
theorem HB_rou {R W o b : Nat} {w : Int32} {x : Sx} (h30 : R * W ≤ 30) (hb : b < 800000000) (hs : SI (R * W) x) (hw : okW w) (h : HB b (R * W) x) : ∀ k, k ≤ 200 → HB (b + 1500 * k) (R * W) (itN (rouB R W o w) k (x, 0)).1
  | 0, _ => h
  | k + 1, hk => by
    have := HB_rnd (o := o) h30 (b := b + 1500 * k) (by omega) (SI_rou (o := o) (w := w) hs k) hw (HB_rou (o := o) h30 hb hs hw h k (by omega)) (R * W) (Nat.le_refl _)
    exact this.mono (by omega)
theorem HB_rep {b n c : Nat} {z : Int32} {x : Sx} (h : HB b n x) : HB b n (repS c z x) := by
  intro d hd
  have e0 : (0 : Int32).toInt = 0 := by decide
  unfold repS
  split
  all_goals
    show _ ≤ (upd (sH x) c 0 d).toInt ∧ (upd (sH x) c 0 d).toInt ≤ _
    by_cases hdc : d = c
    · subst hdc; rw [upd_at]; omega
    · rw [pk_un hdc]; exact h d hd
theorem HB_lev {b n : Nat} {v : Int32} {x : Sx} (h0 : 0 ≤ v.toInt) (h1 : v.toInt ≤ b) (h : HB b n x) : ∀ i, HB b n (itN (levB v) i x)
  | 0 => h
  | i + 1 => by
    have ih := HB_lev h0 h1 h i
    rw [it4, levB]
    split
    · exact ih
    · intro d hd
      show _ ≤ (upd _ i v d).toInt ∧ (upd _ i v d).toInt ≤ _
      by_cases hdc : d = i
      · subst hdc; rw [upd_at]; omega
      · rw [pk_un hdc]; exact ih d hd
theorem gri_H {v : Int32} {x : Sx} : ∀ i, sH (itN (griB v) i x) = sH x
  | 0 => rfl
  | i + 1 => by
    have ih := gri_H (v := v) (x := x) i
    rw [it4, griB]
    split
    · exact ih
    · exact ih
