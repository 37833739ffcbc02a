/-! what holds of the state behind i calls -/
def JV (i : Nat) (g : Sg) : Prop := IV (60000 * i) g ∧ gS g ≤ i
theorem JV.keep {i : Nat} {g : Sg} (h : JV i g) : JV (i + 1) g := by
  obtain ⟨⟨a, b, c, d⟩, e⟩ := h
  exact ⟨⟨a, b.mono (by omega), fun z y => ⟨(c z y).1, (c z y).2.mono (by omega)⟩, d⟩, by omega⟩
theorem JV.x {i : Nat} {g : Sg} {x : Sx} (h : JV i g) (hs : SI (gN g) x) (hB : HB (60000 * (i + 1)) (gN g) x) : JV (i + 1) (sgX g x) := by
  obtain ⟨⟨a, b, c, d⟩, e⟩ := h
  exact ⟨⟨hs, hB, fun z y => ⟨(c z y).1, (c z y).2.mono (by omega)⟩, d⟩, Nat.le_succ_of_le e⟩
theorem JV.h {i : Nat} {g : Sg} (h : JV i g) : HB (60000 * (i + 1)) (gN g) (gX g) := h.1.2.1.mono (by omega)
theorem jv_set {i : Nat} {g : Sg} {v : Int32} (h : JV i g) : JV (i + 1) (fSet g v).2 := by
  unfold fSet
  by_cases h1 : 0 < gN g
  · rw [ifC_t h1]
    by_cases h2 : ¬ v < 0 ∧ v ≤ 40
    · rw [ifC_t h2]
      have a := h2.1
      have b := h2.2
      rw [Int32.lt_iff_toInt_lt, tI0] at a
      rw [Int32.le_iff_toInt_le, show (40 : Int32).toInt = 40 by decide] at b
      exact h.x (SI_lev h.1.1 _) (HB_lev (by omega) (by omega) h.h _)
    · rw [ifC_f h2]; exact h.keep
  · rw [ifC_f h1]; exact h.keep
theorem jv_grit {i : Nat} {g : Sg} {v : Int32} (h : JV i g) : JV (i + 1) (fGrit g v).2 := by
  unfold fGrit
  by_cases h1 : 0 < gN g
  · rw [ifC_t h1]
    by_cases h2 : ¬ v < 0 ∧ v ≤ 9
    · rw [ifC_t h2]
      obtain ⟨j, hj, rfl⟩ := nI_of2 (M := 9) (n := 9) (by decide) h2.1 h2.2
      refine h.x (SI_gri hj h.1.1 _) ?_
      have e := gri_H (v := nI j) (x := gX g) (gN g)
      intro c hc
      rw [e]
      exact h.h c hc
    · rw [ifC_f h2]; exact h.keep
  · rw [ifC_f h1]; exact h.keep
theorem jv_blow {i : Nat} {g : Sg} {a w : Int32} (hi : i ≤ 512) (h30 : gN g ≤ 30) (h : JV i g) : JV (i + 1) (fBlow g a w).2 := by
  unfold fBlow
  by_cases h1 : isSn g a
  · rw [ifC_t h1]
    by_cases h2 : okW w
    · rw [ifC_t h2]
      obtain ⟨c, hc, rfl⟩ := vp_in_of h1.1 (by omega)
      rw [ce_nI (by omega)]
      exact h.x (SI_str h.1.1 hc) ((HB_str hc (by omega) (h.1.1 c hc) h2 h.1.2.1).mono (by omega))
    · rw [ifC_f h2]; exact h.keep
  · rw [ifC_f h1]; exact h.keep
theorem jv_ram {i : Nat} {g : Sg} {w r o : Int32} (hi : i ≤ 512) (h30 : gN g ≤ 30) (h : JV i g) : JV (i + 1) (fRam g w r o).2 := by
  unfold fRam
  by_cases h1 : 0 < gN g
  · rw [ifC_t h1]
    by_cases h2 : okW w ∧ okR 1 r ∧ vp_in o 4
    · rw [ifC_t h2]
      obtain ⟨k, hk, rfl⟩ := okR_nI h2.2.1 (by decide)
      unfold rouS
      rw [ce_nI (c := k) (by omega)]
      exact h.x (SI_rou h.1.1 _) ((HB_rou h30 (by omega) h.1.1 h2.1 h.1.2.1 k (by omega)).mono (by omega))
    · rw [ifC_f h2]; exact h.keep
  · rw [ifC_f h1]; exact h.keep
theorem jv_seed {i : Nat} {g : Sg} {v : Int32} (h : JV i g) : JV (i + 1) (fSeed g v).2 := by
  unfold fSeed
  by_cases h1 : 0 ≤ v
  · rw [ifC_t h1]
    exact h.x (fun c hc => SIc_of rfl rfl rfl (h.1.1 c hc)) (fun c hc => h.h c hc)
  · rw [ifC_f h1]; exact h.keep
theorem jv_years {i : Nat} {g : Sg} {y f : Int32} (hi : i ≤ 512) (h : JV i g) : JV (i + 1) (fYears g y f).2 := by
  unfold fYears
  by_cases h1 : isT g
  · rw [ifC_t h1]
    by_cases h2 : okY y f
    · rw [ifC_t h2]
      obtain ⟨k, hk, rfl⟩ := okY_nI h2
      unfold yrG
      rw [ce_nI (by omega)]
      exact h.x (SI_yrs h.1.1 _) ((HB_yrs (by omega) h.1.2.1 k (by omega)).mono (by omega))
    · rw [ifC_f h2]; exact h.keep
  · rw [ifC_f h1]; exact h.keep
theorem jv_mend {i : Nat} {g : Sg} {a z : Int32} (h : JV i g) : JV (i + 1) (fMend g a z).2 := by
  unfold fMend
  by_cases h1 : vp_in a (gN g)
  · rw [ifC_t h1]
    by_cases h2 : okZ z
    · rw [ifC_t h2]
      by_cases h3 : canS (gX g) (ce a) = 0
      · rw [ifC_t h3]; exact h.keep
      · rw [ifC_f h3]
        exact h.x (SI_rep h.1.1) (HB_rep h.h)
    · rw [ifC_f h2]; exact h.keep
  · rw [ifC_f h1]; exact h.keep
theorem jv_heap {i : Nat} {g : Sg} {v : Int32} (h : JV i g) : JV (i + 1) (fHeap g v).2 := by
  unfold fHeap
  by_cases h1 : okZ v
  · rw [ifC_t h1]
    by_cases h2 : gM g < 10
    · rw [ifC_t h2]
      have k := h.keep
      obtain ⟨⟨a, b, c, d⟩, e⟩ := k
      refine ⟨⟨a, b, c, fun j hj => ?_⟩, e⟩
      have hj : j < gM g + 1 := hj
      show okZ (upd (gZ g) (gM g) v j)
      by_cases ej : j = gM g
      · rw [ej, upd_at]; exact h1
      · rw [pk_un ej]; exact d j (by omega)
    · rw [ifC_f h2]; exact h.keep
  · rw [ifC_f h1]; exact h.keep
theorem jv_image {i : Nat} {g : Sg} (h : JV i g) : JV (i + 1) (fImage g).2 := by
  unfold fImage
  by_cases h1 : 0 < gN g
  · rw [ifC_t h1]
    have k := h.keep
    obtain ⟨⟨a, b, c, d⟩, e⟩ := k
    exact ⟨⟨a, b, fun _ _ => ⟨a, b⟩, d⟩, e⟩
  · rw [ifC_f h1]; exact h.keep
theorem jv_restore {i : Nat} {g : Sg} (h : JV i g) : JV (i + 1) (fRestore g).2 := by
  unfold fRestore
  by_cases h1 : gI g ≠ 0 ∧ gI g = gS g
  · rw [ifC_t h1]
    have k := h.keep
    have := k.1.2.2.1 h1.1 h1.2
    exact h.x this.1 this.2
  · rw [ifC_f h1]; exact h.keep
theorem jv_blank {i : Nat} {g : Sg} (h : JV i g) : JV (i + 1) (fBlank g).2 := h.keep
theorem jv_letters {i : Nat} {g : Sg} {w : Int64} (h : JV i g) : JV (i + 1) (fLetters g w).2 := by
  unfold fLetters
  cases litN w 8 with
  | none => exact h.keep
  | some m =>
    dsimp only
    by_cases h1 : 64 < gL g + m
    · rw [ifC_t h1]; exact h.keep
    · rw [ifC_f h1]; exact h.keep
theorem jv_carts {i : Nat} {g : Sg} (h : JV i g) : JV (i + 1) (fCarts g).2 := by
  unfold fCarts
  by_cases h1 : ∃ t, isC (gL g) (gP g) t
  · rw [ifC_t h1]
    cases (runF stC (gP g) (gL g) 0 cs0).2 with
    | none => exact h.keep
    | some t => exact h.keep
  · rw [ifC_f h1]; exact h.keep
theorem jv_first {i : Nat} {g : Sg} {k y f w : Int32} (h : JV i g) : JV (i + 1) (fFirst g k y f w).2 := by
  unfold fFirst
  by_cases h1 : isT g
  · rw [ifC_t h1]
    by_cases h2 : okI k y f w
    · rw [ifC_t h2]
      by_cases h3 : ce k ≤ (menN (gX g) (gN g)).1 ∧ gF g < 20
      · rw [ifC_t h3]; exact h.keep
      · rw [ifC_f h3]; exact h.keep
    · rw [ifC_f h2]; exact h.keep
  · rw [ifC_f h1]; exact h.keep
/-- kinds that a text can tell -/
def okK (k : Int32) : Prop := k = -1 ∨ k = 0 ∨ k = 1 ∨ k = 2 ∨ k = 3 ∨ k = 4
theorem knd_ok (c : Int32) : okK (kndO c) := by
  unfold kndO okK
  repeat' split
  all_goals simp
theorem stT_K {c : Int32} {t t' : Tx} (h : stT c t = some t') (hk : ∀ c, okK (t.2.2.2.2.1 c)) : ∀ c, okK (t'.2.2.2.2.1 c) := by
  unfold stT at h
  split at h
  · split at h
    · cases h; exact hk
    · cases h
  · split at h
    · split at h
      · split at h
        · cases h; exact hk
        · cases h
      · split at h
        · cases h; exact hk
        · cases h
    · split at h
      · cases h
      · by_cases e6 : t.2.2.1 = (if t.1 = 0 then 6 else t.2.1)
        · rw [if_pos e6] at h; cases h
        · rw [if_neg e6] at h
          cases h
          intro d
          show okK (upd t.2.2.2.2.1 (txN t) (kndO c) d)
          by_cases e : d = txN t
          · rw [e, upd_at]; exact knd_ok c
          · rw [pk_un e]; exact hk d
theorem run_K {p : Nat → Int32} : ∀ (d i : Nat) (s t : Tx), (∀ c, okK (s.2.2.2.2.1 c)) → (runF stT p d i s).2 = some t → ∀ c, okK (t.2.2.2.2.1 c)
  | 0, i, s, t, h, e => by rw [runF] at e; cases e; exact h
  | d + 1, i, s, t, h, e => by
    rw [runF] at e
    cases hs : stT (p i) s with
    | none => rw [hs] at e; cases e
    | some s' =>
      rw [hs] at e
      exact run_K d (i + 1) s' t (stT_K hs h) e
theorem jv_street {i : Nat} {g : Sg} (hI : gI g ≤ gS g) (h : JV i g) : JV (i + 1) (fStreet g).2 := by
  unfold fStreet
  by_cases h1 : ∃ t, isS (gL g) (gP g) t
  · rw [ifC_t h1]
    cases hr : (runF stT (gP g) (gL g) 0 tx0).2 with
    | none => exact h.keep
    | some t =>
      have hk := run_K _ _ _ t (fun _ => Or.inr (Or.inl rfl)) hr
      refine ⟨⟨fun c hc => ?_, fun c hc => ?_, fun z y => ?_, h.1.2.2.2⟩, ?_⟩
      · exact SIc_mk (t.2.2.2.2.1 c) 0 0 rfl rfl rfl (hk c) (by omega) (by omega) (fun _ => rfl)
      · show -((60000 * (i + 1) : Nat) : Int) ≤ (if t.2.2.2.2.1 c = -1 then (-5 : Int32) else 0).toInt ∧ (if t.2.2.2.2.1 c = -1 then (-5 : Int32) else 0).toInt ≤ ((60000 * (i + 1) : Nat) : Int)
        split
        · rw [show (-5 : Int32).toInt = -5 by decide]; omega
        · rw [tI0]; omega
      · exfalso
        have y : gI g = gS g + 1 := y
        omega
      · show gS g + 1 ≤ i + 1
        have := h.2
        omega
  · rw [ifC_f h1]; exact h.keep
