/-! the water's levels: sweeps come to rest -/
def tE (t : Int32) (n : Nat) (L K : Nat → Int32) : Prop := ∀ c, c < n → (L c ≤ t ↔ K c ≤ t)
theorem min_t {a b t : Int32} : (if a < b then a else b) ≤ t ↔ a ≤ t ∨ b ≤ t := by
  split
  all_goals (simp only [Int32.lt_iff_toInt_lt, Int32.le_iff_toInt_le] at *; omega)
theorem max_t {a b t : Int32} : (if a < b then b else a) ≤ t ↔ a ≤ t ∧ b ≤ t := by
  split
  all_goals (simp only [Int32.lt_iff_toInt_lt, Int32.le_iff_toInt_le] at *; omega)
theorem lowS_t {t : Int32} {R W c : Nat} {L K : Nat → Int32} (h : tE t (R * W) L K) (hc : c < R * W) : ∀ s, lowS L R W c s ≤ t ↔ lowS K R W c s ≤ t
  | 0 => h c hc
  | s + 1 => by
    rw [lowS, lowS]
    cases hk : nb R W c s with
    | none => exact lowS_t h hc s
    | some k => dsimp only; rw [min_t, min_t, h k (nb_lt hc hk), lowS_t h hc s]
theorem falV_t {t : Int32} {R W c : Nat} {H L K : Nat → Int32} (h : tE t (R * W) L K) (hc : c < R * W) : falV H L R W c ≤ t ↔ falV H K R W c ≤ t := by
  unfold falV
  rw [max_t, max_t, lowS_t h hc]
theorem swp_t {t : Int32} {R W : Nat} {H L K : Nat → Int32} (h : tE t (R * W) L K) : tE t (R * W) (swpS R W H L).2 (swpS R W H K).2 := by
  unfold swpS
  refine itN_rel (r := fun p q : Int32 × (Nat → Int32) => tE t (R * W) p.2 q.2) (fun i hi p q hpq => ?_) h
  unfold swpB
  by_cases hr : rim R W i
  · rw [if_pos hr, if_pos hr]; exact hpq
  · rw [if_neg hr, if_neg hr]
    intro c hc
    dsimp only
    by_cases hci : c = i
    · subst hci; rw [upd_at, upd_at]; exact falV_t hpq hi
    · rw [pk_un hci, pk_un hci]; exact hpq c hc
theorem lowS_le {R W c : Nat} {L : Nat → Int32} : ∀ s, lowS L R W c s ≤ L c
  | 0 => Int32.le_refl _
  | s + 1 => by
    have ih := lowS_le (R := R) (W := W) (c := c) (L := L) s
    rw [lowS]
    cases nb R W c s with
    | none => exact ih
    | some k =>
      dsimp only
      rw [min_t]; exact Or.inr ih
theorem falV_le {R W c : Nat} {H L : Nat → Int32} (h : H c ≤ L c) : falV H L R W c ≤ L c := by
  unfold falV
  rw [max_t]
  exact ⟨h, lowS_le 4⟩
theorem falV_ge {R W c : Nat} {H L : Nat → Int32} : H c ≤ falV H L R W c := by
  unfold falV
  split
  · rename_i h; exact Int32.le_of_lt h
  · exact Int32.le_refl _
/-- levels that sweeps start from and keep to -/
def LvI (R W : Nat) (H L : Nat → Int32) : Prop := ∀ c, c < R * W → H c ≤ L c ∧ (rim R W c → L c = H c) ∧ (L c = 2147483647 ∨ (L c).toInt < 268435456)
theorem lowS_big {R W c : Nat} {L : Nat → Int32} (hc : c < R * W) (h : ∀ c, c < R * W → (L c = 2147483647 ∨ (L c).toInt < 268435456)) : ∀ s, lowS L R W c s = 2147483647 ∨ (lowS L R W c s).toInt < 268435456
  | 0 => h c hc
  | s + 1 => by
    have ih := lowS_big hc h s
    rw [lowS]
    cases hk : nb R W c s with
    | none => exact ih
    | some k =>
      dsimp only
      split
      · exact h k (nb_lt hc hk)
      · exact ih
theorem swp_i {R W : Nat} {H L : Nat → Int32} (hH : ∀ c, c < R * W → (H c).toInt < 268435456) (h : LvI R W H L) : ∀ i, i ≤ R * W → LvI R W H (itN (swpB R W H) i (0, L)).2 ∧ (∀ c, c < R * W → (itN (swpB R W H) i (0, L)).2 c ≤ L c) ∧ (∀ c, i ≤ c → (itN (swpB R W H) i (0, L)).2 c = L c) ∧ ((itN (swpB R W H) i (0, L)).1 = 0 ↔ ∀ c, c < i → (itN (swpB R W H) i (0, L)).2 c = L c)
  | 0, _ => ⟨h, fun c _ => Int32.le_refl _, fun c _ => rfl, ⟨fun _ c hc => absurd hc (by omega), fun _ => rfl⟩⟩
  | i + 1, hi => by
    obtain ⟨h1, h2, h3, h4⟩ := swp_i hH h i (by omega)
    rw [it4]
    generalize itN (swpB R W H) i (0, L) = p at h1 h2 h3 h4 ⊢
    unfold swpB
    by_cases hr : rim R W i
    · rw [if_pos hr]
      refine ⟨h1, h2, fun c hc => h3 c (by omega), ?_⟩
      rw [h4]
      constructor
      · intro q c hc
        by_cases hci : c < i
        · exact q c hci
        · exact h3 c (by omega)
      · intro q c hc; exact q c (by omega)
    · rw [if_neg hr]
      have hL := h1 i (by omega)
      have hle := falV_le (R := R) (W := W) hL.1
      have hbig : falV H p.2 R W i = 2147483647 ∨ (falV H p.2 R W i).toInt < 268435456 := by
        unfold falV
        split
        · exact lowS_big (by omega) (fun c hc => (h1 c hc).2.2) 4
        · exact Or.inr (hH i (by omega))
      refine ⟨fun c hc => ?_, fun c hc => ?_, fun c hc => ?_, ?_⟩
      · dsimp only
        by_cases hci : c = i
        · subst hci; rw [upd_at]; exact ⟨falV_ge, fun z => absurd z hr, hbig⟩
        · rw [pk_un hci]; exact h1 c hc
      · dsimp only
        by_cases hci : c = i
        · subst hci; rw [upd_at, ← h3 c (Nat.le_refl _)]; exact hle
        · rw [pk_un hci]; exact h2 c hc
      · dsimp only
        rw [pk_un (by omega)]; exact h3 c (by omega)
      · dsimp only
        by_cases hv : falV H p.2 R W i < p.2 i
        · rw [if_pos hv]
          refine ⟨fun z => absurd z (by decide), fun z => ?_⟩
          have := z i (by omega)
          rw [upd_at, ← h3 i (Nat.le_refl _)] at this
          rw [this] at hv
          exact absurd hv (fun z => Int32.lt_irrefl z)
        · rw [if_neg hv, h4]
          have he : falV H p.2 R W i = p.2 i := Int32.le_antisymm hle (Int32.not_lt.mp hv)
          rw [he, upd_sm]
          constructor
          · intro q c hc
            by_cases hci : c < i
            · exact q c hci
            · exact h3 c (by omega)
          · intro q c hc; exact q c (by omega)
/-- sweep after sweep -/
noncomputable def sqN (R W : Nat) (H : Nat → Int32) (L : Nat → Int32) : Nat → Nat → Int32
  | 0 => L
  | k + 1 => (swpS R W H (sqN R W H L k)).2
theorem sq_i {R W : Nat} {H L : Nat → Int32} (hH : ∀ c, c < R * W → (H c).toInt < 268435456) (h : LvI R W H L) : ∀ k, LvI R W H (sqN R W H L k)
  | 0 => h
  | k + 1 => (swp_i hH (sq_i hH h k) (R * W) (Nat.le_refl _)).1
def cnt (t : Int32) (L : Nat → Int32) : Nat → Nat
  | 0 => 0
  | i + 1 => cnt t L i + if L i ≤ t then 1 else 0
theorem cnt_le {t : Int32} {L : Nat → Int32} : ∀ n, cnt t L n ≤ n
  | 0 => Nat.le_refl _
  | n + 1 => by have := cnt_le (t := t) (L := L) n; rw [cnt]; split <;> omega
theorem cnt_up {t : Int32} {L K : Nat → Int32} : ∀ n, (∀ c, c < n → K c ≤ L c) → cnt t L n ≤ cnt t K n ∧ ((∃ c, c < n ∧ K c ≤ t ∧ ¬ L c ≤ t) → cnt t L n < cnt t K n)
  | 0, _ => ⟨Nat.le_refl _, fun ⟨c, hc, _⟩ => absurd hc (by omega)⟩
  | n + 1, h => by
    obtain ⟨h1, h2⟩ := cnt_up (t := t) n (fun c hc => h c (by omega))
    have hn := h n (by omega)
    rw [cnt, cnt]
    have step : (if L n ≤ t then 1 else 0) ≤ (if K n ≤ t then (1 : Nat) else 0) := by
      split
      · rename_i q; rw [if_pos (Int32.le_trans hn q)]; exact Nat.le_refl _
      · exact Nat.zero_le _
    refine ⟨by omega, ?_⟩
    rintro ⟨c, hc, a, b⟩
    by_cases hcn : c < n
    · have := h2 ⟨c, hcn, a, b⟩; omega
    · have : c = n := by omega
      subst this
      rw [if_pos a, if_neg b]
      omega
theorem sq_rest {R W : Nat} {H L : Nat → Int32} (h30 : R * W ≤ 30) (hH : ∀ c, c < R * W → (H c).toInt < 268435456) (h : LvI R W H L) : eqN (R * W) (sqN R W H L 31) (sqN R W H L 30) := by
  have dn : ∀ k c, c < R * W → sqN R W H L (k + 1) c ≤ sqN R W H L k c := fun k => (swp_i hH (sq_i hH h k) (R * W) (Nat.le_refl _)).2.1
  have up : ∀ t k, tE t (R * W) (sqN R W H L (k + 1)) (sqN R W H L k) → ∀ j, tE t (R * W) (sqN R W H L (k + j + 1)) (sqN R W H L (k + j)) := by
    intro t k hk j
    induction j with
    | zero => exact hk
    | succ j ih => exact swp_t ih
  have main : ∀ t, tE t (R * W) (sqN R W H L 31) (sqN R W H L 30) := by
    intro t
    refine Classical.byContradiction (fun hn => ?_)
    have all : ∀ k, k ≤ 30 → ¬ tE t (R * W) (sqN R W H L (k + 1)) (sqN R W H L k) := by
      intro k hk z
      have := up t k z (30 - k)
      rw [show k + (30 - k) = 30 by omega] at this
      exact hn this
    have gr : ∀ k, k ≤ 31 → k ≤ cnt t (sqN R W H L k) (R * W) := by
      intro k
      induction k with
      | zero => intro _; exact Nat.zero_le _
      | succ k ih =>
        intro hk
        have h1 := ih (by omega)
        have h2 := all k (by omega)
        have h3 := (cnt_up (t := t) (R * W) (dn k)).2
        have : ∃ c, c < R * W ∧ sqN R W H L (k + 1) c ≤ t ∧ ¬ sqN R W H L k c ≤ t := by
          refine Classical.byContradiction (fun z => h2 (fun c hc => ⟨fun a => ?_, fun a => Int32.le_trans (dn k c hc) a⟩))
          exact Classical.byContradiction (fun b => z ⟨c, hc, a, b⟩)
        have := h3 this
        omega
    have := gr 31 (Nat.le_refl _)
    have := cnt_le (t := t) (L := sqN R W H L 31) (R * W)
    omega
  intro c hc
  refine Int32.le_antisymm (dn 30 c hc) ?_
  exact (main (sqN R W H L 31 c) c hc).mp (Int32.le_refl _)
theorem sq_stay {R W : Nat} {H L : Nat → Int32} {k : Nat} (h : eqN (R * W) (sqN R W H L (k + 1)) (sqN R W H L k)) : ∀ j, eqN (R * W) (sqN R W H L (k + j)) (sqN R W H L k)
  | 0 => eqN.rf
  | j + 1 => ((swpS_E eqN.rf (sq_stay h j)).2).tr h
theorem sq_front {R W : Nat} {H L : Nat → Int32} : ∀ k, sqN R W H L (k + 1) = sqN R W H (swpS R W H L).2 k
  | 0 => rfl
  | k + 1 => by
    have := sq_front (R := R) (W := W) (H := H) (L := L) k
    rw [sqN, this]
    rfl
theorem fil_sq {R W : Nat} {H : Nat → Int32} (hH : ∀ c, c < R * W → (H c).toInt < 268435456) : ∀ d (L : Nat → Int32), LvI R W H L → eqN (R * W) (filF R W H d L) (sqN R W H L d)
  | 0, L, _ => eqN.rf
  | d + 1, L, h => by
    obtain ⟨i1, i2, i3, i4⟩ := swp_i hH h (R * W) (Nat.le_refl _)
    rw [filF, sq_front]
    split
    · rename_i hz
      have e1 : eqN (R * W) (sqN R W H L 1) (sqN R W H L 0) := fun c hc => i4.mp hz c hc
      have e2 := sq_stay e1 (d + 1)
      rw [Nat.zero_add, sq_front] at e2
      exact (fun c hc => (i4.mp hz c hc).trans (e2 c hc).symm)
    · exact fil_sq hH d _ i1
noncomputable def lvZ (R W : Nat) (H : Nat → Int32) : Nat → Int32 := fun c => @ite _ (rim R W c) (Classical.propDecidable _) (H c) 2147483647
theorem lvZ_i {R W : Nat} {H : Nat → Int32} (hH : ∀ c, c < R * W → (H c).toInt < 268435456) : LvI R W H (lvZ R W H) := by
  intro c hc
  unfold lvZ
  by_cases hr : rim R W c
  · rw [if_pos hr]; exact ⟨Int32.le_refl _, fun _ => rfl, Or.inr (hH c hc)⟩
  · rw [if_neg hr]
    refine ⟨Int32.le_iff_toInt_le.mpr ?_, fun z => absurd z hr, Or.inl rfl⟩
    have := hH c hc
    have e1 : (2147483647 : Int32).toInt = 2147483647 := by decide
    omega
theorem fil_is {R W : Nat} {H : Nat → Int32} (hH : ∀ c, c < R * W → (H c).toInt < 268435456) (L : Nat → Int32) : eqN (R * W) (filS R W H L) (sqN R W H (lvZ R W H) 30) := by
  refine eqN.tr (g := filF R W H 30 (lvZ R W H)) ?_ (fil_sq hH 30 _ (lvZ_i hH))
  unfold filS
  refine filF_E eqN.rf 30 (fun c hc => ?_)
  rw [lv0_in _ c hc]
  rfl
/-- no level stays far -/
theorem fil_near {R W : Nat} {H : Nat → Int32} (h30 : R * W ≤ 30) (hW : 0 < W) (hH : ∀ c, c < R * W → (H c).toInt < 268435456) : ∀ m c, c < R * W → c % W = m → ¬ sqN R W H (lvZ R W H) 30 c = 2147483647 := by
  have hi := sq_i hH (lvZ_i hH) 30
  have rest := sq_rest h30 hH (lvZ_i hH)
  have e1 : (2147483647 : Int32).toInt = 2147483647 := by decide
  generalize hS : sqN R W H (lvZ R W H) 30 = S at hi rest
  have nr : ∀ c, c < R * W → rim R W c → ¬ S c = 2147483647 := by
    intro c hc hr z
    rw [(hi c hc).2.1 hr] at z
    have := hH c hc
    rw [z] at this
    omega
  have fx : ∀ c, c < R * W → ¬ rim R W c → S c ≤ falV H S R W c := by
    intro c hc hr
    obtain ⟨j1, j2, j3, j4⟩ := swp_i hH hi (R * W) (Nat.le_refl _)
    have hz : (swpS R W H S).1 = 0 := j4.mpr (fun c hc => by have := rest c hc; rw [sqN, hS] at this; exact this)
    have mono : ∀ i, i ≤ R * W → (itN (swpB R W H) i (0, S)).1 = 0 := by
      intro i hi2
      refine Classical.byContradiction (fun z => ?_)
      have keep : ∀ d, i + d ≤ R * W → ¬ (itN (swpB R W H) (i + d) (0, S)).1 = 0 := by
        intro d
        induction d with
        | zero => intro _; exact z
        | succ d ih =>
          intro hd
          have := ih (by omega)
          rw [← Nat.add_assoc, it4, swpB]
          split
          · exact this
          · dsimp only; split
            · decide
            · exact this
      have := keep (R * W - i) (by omega)
      rw [show i + (R * W - i) = R * W by omega] at this
      exact this hz
    obtain ⟨k1, k2, k3, k4⟩ := swp_i hH hi c (by omega)
    have ez := k4.mp (mono c (by omega))
    have eS : ∀ d, (itN (swpB R W H) c (0, S)).2 d = S d := fun d => by
      by_cases hd : d < c
      · exact ez d hd
      · exact k3 d (by omega)
    have eS2 : (itN (swpB R W H) c (0, S)).2 = S := funext eS
    have m1 := mono (c + 1) (by omega)
    rw [it4, swpB, if_neg hr] at m1
    dsimp only at m1
    rw [eS2] at m1
    refine Int32.not_lt.mp (fun z => ?_)
    rw [if_pos z] at m1
    exact absurd m1 (by decide)
  intro m
  induction m with
  | zero => intro c hc hm; exact nr c hc (Or.inr (Or.inr (Or.inl hm)))
  | succ m ih =>
    intro c hc hm z
    by_cases hr : rim R W c
    · exact nr c hc hr z
    · have f := fx c hc hr
      have hc0 : 0 < c := by
        rcases Nat.eq_zero_or_pos c with h0 | h0
        · subst h0; rw [Nat.zero_mod] at hm; omega
        · exact h0
      have hnb : nb R W c 3 = some (c - 1) := by simp [nb, hm]
      have hm2 : (c - 1) % W = m := by
        have h1 := Nat.div_add_mod c W
        have h2 : c - 1 = W * (c / W) + m := by omega
        rw [h2, Nat.mul_add_mod, Nat.mod_eq_of_lt]
        have := Nat.mod_lt c hW
        omega
      have ihc := ih (c - 1) (by omega) hm2
      have hb := (hi (c - 1) (by omega)).2.2.resolve_left ihc
      have l4 : lowS S R W c 4 ≤ S (c - 1) := by
        rw [lowS, hnb]
        dsimp only
        rw [min_t]
        exact Or.inl (Int32.le_refl _)
      rw [z] at f
      unfold falV at f
      have hh := hH c hc
      have q : ¬ (if H c < lowS S R W c 4 then lowS S R W c 4 else H c) ≤ (268435455 : Int32) := fun z2 => absurd (Int32.le_trans f z2) (by decide)
      rw [max_t] at q
      refine q ⟨Int32.le_iff_toInt_le.mpr ?_, Int32.le_trans l4 (Int32.le_iff_toInt_le.mpr ?_)⟩
      · have e2 : (268435455 : Int32).toInt = 268435455 := by decide
        omega
      · have e2 : (268435455 : Int32).toInt = 268435455 := by decide
        omega
