/-! what lies beyond the street's cells doesn't matter -/
def eqN (n : Nat) (f g : Nat → Int32) : Prop := ∀ c, c < n → f c = g c
theorem eqN.rf {n : Nat} {f : Nat → Int32} : eqN n f f := fun _ _ => rfl
theorem eqN.sy {n : Nat} {f g : Nat → Int32} (h : eqN n f g) : eqN n g f := fun c hc => (h c hc).symm
theorem eqN.tr {n : Nat} {f g k : Nat → Int32} (h : eqN n f g) (h2 : eqN n g k) : eqN n f k := fun c hc => (h c hc).trans (h2 c hc)
theorem eqN.up {n : Nat} {f g : Nat → Int32} (h : eqN n f g) (i : Nat) {v w : Int32} (hv : v = w) : eqN n (upd f i v) (upd g i w) := by
  intro c hc
  subst hv
  by_cases hi : c = i
  · subst hi; rw [upd_at, upd_at]
  · rw [pk_un hi, pk_un hi]; exact h c hc
theorem itN_rel {α β : Type} {r : α → β → Prop} {f : Nat → α → α} {g : Nat → β → β} : ∀ {n : Nat} {x : α} {y : β}, (∀ i, i < n → ∀ x y, r x y → r (f i x) (g i y)) → r x y → r (itN f n x) (itN g n y)
  | 0, _, _, _, h0 => h0
  | n + 1, _, _, h, h0 => h n (by omega) _ _ (itN_rel (fun i hi => h i (by omega)) h0)
theorem itN_eq {α : Type} {f g : Nat → α → α} : ∀ {n : Nat} {x : α}, (∀ i, i < n → ∀ x, f i x = g i x) → itN f n x = itN g n x
  | 0, _, _ => rfl
  | n + 1, x, h => by rw [itN, itN, itN_eq (fun i hi => h i (by omega)), h n (by omega)]
/-- two states of a street that agree on its cells -/
def sxE (n : Nat) (x y : Sx) : Prop := eqN n (sK x) (sK y) ∧ eqN n (sZ x) (sZ y) ∧ eqN n (sH x) (sH y) ∧ eqN n (sS x) (sS y) ∧ eqN n (sJ x) (sJ y) ∧ sD x = sD y
theorem sxE.rf {n : Nat} {x : Sx} : sxE n x x := ⟨eqN.rf, eqN.rf, eqN.rf, eqN.rf, eqN.rf, rfl⟩
theorem sxE.sy {n : Nat} {x y : Sx} (h : sxE n x y) : sxE n y x := ⟨h.1.sy, h.2.1.sy, h.2.2.1.sy, h.2.2.2.1.sy, h.2.2.2.2.1.sy, h.2.2.2.2.2.symm⟩
theorem sxE.tr {n : Nat} {x y z : Sx} (h : sxE n x y) (g : sxE n y z) : sxE n x z := ⟨h.1.tr g.1, h.2.1.tr g.2.1, h.2.2.1.tr g.2.2.1, h.2.2.2.1.tr g.2.2.2.1, h.2.2.2.2.1.tr g.2.2.2.2.1, h.2.2.2.2.2.trans g.2.2.2.2.2⟩
theorem sxE.K {n : Nat} {x y : Sx} (h : sxE n x y) {c : Nat} (hc : c < n) : sK x c = sK y c := h.1 c hc
theorem sxE.Z {n : Nat} {x y : Sx} (h : sxE n x y) {c : Nat} (hc : c < n) : sZ x c = sZ y c := h.2.1 c hc
theorem sxE.H {n : Nat} {x y : Sx} (h : sxE n x y) {c : Nat} (hc : c < n) : sH x c = sH y c := h.2.2.1 c hc
theorem sxE.S {n : Nat} {x y : Sx} (h : sxE n x y) {c : Nat} (hc : c < n) : sS x c = sS y c := h.2.2.2.1 c hc
theorem sxE.J {n : Nat} {x y : Sx} (h : sxE n x y) {c : Nat} (hc : c < n) : sJ x c = sJ y c := h.2.2.2.2.1 c hc
theorem sxE.D {n : Nat} {x y : Sx} (h : sxE n x y) : sD x = sD y := h.2.2.2.2.2
theorem sxE.wK {n : Nat} {x y : Sx} (h : sxE n x y) {f g : Nat → Int32} (e : eqN n f g) : sxE n (wK x f) (wK y g) := ⟨e, h.2⟩
theorem sxE.wZ {n : Nat} {x y : Sx} (h : sxE n x y) {f g : Nat → Int32} (e : eqN n f g) : sxE n (wZ x f) (wZ y g) := ⟨h.1, e, h.2.2⟩
theorem sxE.wH {n : Nat} {x y : Sx} (h : sxE n x y) {f g : Nat → Int32} (e : eqN n f g) : sxE n (wH x f) (wH y g) := ⟨h.1, h.2.1, e, h.2.2.2⟩
theorem sxE.wS {n : Nat} {x y : Sx} (h : sxE n x y) {f g : Nat → Int32} (e : eqN n f g) : sxE n (wS x f) (wS y g) := ⟨h.1, h.2.1, h.2.2.1, e, h.2.2.2.2⟩
theorem sxE.wJ {n : Nat} {x y : Sx} (h : sxE n x y) {f g : Nat → Int32} (e : eqN n f g) : sxE n (wJ x f) (wJ y g) := ⟨h.1, h.2.1, h.2.2.1, h.2.2.2.1, e, h.2.2.2.2.2⟩
theorem sxE.wD {n : Nat} {x y : Sx} (h : sxE n x y) {d e : Int32} (q : d = e) : sxE n (wD x d) (wD y e) := ⟨h.1, h.2.1, h.2.2.1, h.2.2.2.1, h.2.2.2.2.1, q⟩
theorem sxE.wC {n : Nat} {x y : Sx} (h : sxE n x y) {d e : Int32} : sxE n (wC x d) (wC y e) := h
theorem gO_E {n : Nat} {f g : Nat → Int32} (h : eqN n f g) {o : Option Nat} (ho : ∀ k, o = some k → k < n) : gO f o = gO g o := by
  cases o with
  | none => rfl
  | some k => simp only [gO, h k (ho k rfl)]
theorem holdN_E {R W c : Nat} {x y : Sx} (h : sxE (R * W) x y) (hc : c < R * W) : ∀ s, holdN (sK x) (sJ x) R W c s = holdN (sK y) (sJ y) R W c s
  | 0 => h.J hc
  | s + 1 => by rw [holdN, holdN, holdN_E h hc s, gO_E h.1 (fun k hk => nb_lt hc hk)]
theorem holdS_E {R W c : Nat} {x y : Sx} (h : sxE (R * W) x y) (hc : c < R * W) : holdS R W x c = holdS R W y c := holdN_E h hc 4
theorem sinkS_E {R W c : Nat} {x y : Sx} {w : Int32} (h : sxE (R * W) x y) (hc : c < R * W) : sinkS R W x c w = sinkS R W y c w := by
  unfold sinkS
  rw [h.K hc, holdS_E h hc, h.S hc]
theorem firmS_E {n c : Nat} {x y : Sx} (h : sxE n x y) (hc : c < n) : sxE n (firmS c x) (firmS c y) := by
  unfold firmS
  rw [h.K hc, h.S hc]
  generalize (if sS y c + 1 < 99 then sS y c + 1 else 99) = z
  split
  · exact h
  · split
    · exact (h.wS (h.2.2.2.1.up c rfl)).wK (h.1.up c rfl)
    · split
      · exact (h.wS (h.2.2.2.1.up c rfl)).wK (h.1.up c rfl)
      · exact h.wS (h.2.2.2.1.up c rfl)
theorem strS_E {R W c : Nat} {x y : Sx} {w : Int32} (h : sxE (R * W) x y) (hc : c < R * W) : sxE (R * W) (strS R W c w x) (strS R W c w y) := by
  unfold strS
  exact firmS_E (h.wH (h.2.2.1.up c (by rw [h.H hc, sinkS_E h hc]))) hc
/-- a state and a number -/
def spE (n : Nat) (p q : Sx × Int32) : Prop := sxE n p.1 q.1 ∧ p.2 = q.2
theorem rndS_E {R W o : Nat} {x y : Sx} {w : Int32} (h : sxE (R * W) x y) : spE (R * W) (rndS R W o w x) (rndS R W o w y) := by
  unfold rndS
  refine itN_rel (r := spE (R * W)) (fun i hi p q hpq => ?_) ⟨h, rfl⟩
  exact ⟨strS_E hpq.1 (trn_lt hi), by simp only [rndB]; rw [hpq.2, sinkS_E hpq.1 (trn_lt hi)]⟩
theorem rouN_E {R W o k : Nat} {x y : Sx} {w s t : Int32} (h : sxE (R * W) x y) (hs : s = t) : spE (R * W) (itN (rouB R W o w) k (x, s)) (itN (rouB R W o w) k (y, t)) := by
  refine itN_rel (r := spE (R * W)) (fun i hi p q hpq => ?_) ⟨h, hs⟩
  have h1 := rndS_E (o := o) (w := w) hpq.1
  exact ⟨h1.1, by simp only [rouB]; rw [hpq.2, h1.2]⟩
theorem ringN_E {R W : Nat} {x y : Sx} {w : Int32} (h : sxE (R * W) x y) : ∀ i, i ≤ R * W → ringN R W x w i = ringN R W y w i
  | 0, _ => rfl
  | i + 1, hi => by rw [ringN, ringN, ringN_E h i (by omega), h.K (show i < R * W by omega), sinkS_E h (show i < R * W by omega)]
theorem stoN_E {n : Nat} {x y : Sx} (h : sxE n x y) : ∀ i, i ≤ n → stoN x i = stoN y i
  | 0, _ => rfl
  | i + 1, hi => by rw [stoN, stoN, stoN_E h i (by omega), h.K (show i < n by omega)]
theorem lowN_E {n : Nat} {x y : Sx} (h : sxE n x y) : ∀ i, i ≤ n → lowN x i = lowN y i
  | 0, _ => rfl
  | i + 1, hi => by rw [lowN, lowN, lowN_E h i (by omega), h.K (show i < n by omega), h.H (show i < n by omega)]
theorem higN_E {n : Nat} {x y : Sx} (h : sxE n x y) : ∀ i, i ≤ n → higN x i = higN y i
  | 0, _ => rfl
  | i + 1, hi => by rw [higN, higN, higN_E h i (by omega), h.K (show i < n by omega), h.H (show i < n by omega)]
theorem sprS_E {R W : Nat} {x y : Sx} (h : sxE (R * W) x y) : sprS R W x = sprS R W y := by
  unfold sprS
  rw [lowN_E h _ (Nat.le_refl _), higN_E h _ (Nat.le_refl _)]
theorem untF_E {R W o : Nat} {w q : Int32} : ∀ (d : Nat) {x y : Sx} (r : Nat), sxE (R * W) x y → untF R W o w q d x r = untF R W o w q d y r
  | 0, _, _, _, _ => rfl
  | d + 1, x, y, r, h => by rw [untF, untF, ringN_E h _ (Nat.le_refl _), untF_E d (r + 1) (rndS_E h).1]
theorem worS_E {n c : Nat} {x y : Sx} (h : sxE n x y) (hc : c < n) : sxE n (worS c x) (worS c y) := by
  unfold worS
  rw [h.K hc]
  split
  · exact h
  · split
    · exact ((h.wC).wS (h.2.2.2.1.up c rfl)).wK (h.1.up c rfl)
    · exact (((((h.wC).wS (h.2.2.2.1.up c rfl)).wK (h.1.up c rfl)).wZ (h.2.1.up c rfl)).wH (h.2.2.1.up c (by rw [h.H hc]))).wJ (h.2.2.2.2.1.up c rfl)
theorem worV_E {n c : Nat} {x y : Sx} (h : sxE n x y) (hc : c < n) : worV c x = worV c y := by
  unfold worV
  rw [h.K hc]
theorem losS_E {n c : Nat} {x y : Sx} (h : sxE n x y) (hc : c < n) : sxE n (losS c x) (losS c y) := by
  unfold losS
  exact h.wJ (h.2.2.2.2.1.up c (by rw [h.J hc]))
theorem freS_E {n c : Nat} {x y : Sx} {f : Int32} (h : sxE n x y) (hc : c < n) : sxE n (freS c f x) (freS c f y) := by
  unfold freS
  rw [h.K hc, h.D]
  split
  · split
    · exact ((((h.wD rfl).wC).wK (h.1.up c rfl)).wH (h.2.2.1.up c (by rw [h.H hc]))).wS (h.2.2.2.1.up c rfl)
    · exact h.wD rfl
  · exact h
theorem bsd_E {R W c s : Nat} {x y : Sx} (h : sxE (R * W) x y) (hc : c < R * W) : bsd x R W c s ↔ bsd y R W c s := by
  unfold bsd
  cases hk : nb R W c s with
  | none => exact Iff.rfl
  | some k => dsimp only; rw [h.K (nb_lt hc hk)]
theorem bssS_E {R W c : Nat} {x y : Sx} (h : sxE (R * W) x y) (hc : c < R * W) : bssS x R W c = bssS y R W c := by
  have e : (∃ s, s < 4 ∧ bsd x R W c s) ↔ (∃ s, s < 4 ∧ bsd y R W c s) := ⟨fun ⟨s, a, b⟩ => ⟨s, a, (bsd_E h hc).mp b⟩, fun ⟨s, a, b⟩ => ⟨s, a, (bsd_E h hc).mpr b⟩⟩
  unfold bssS
  by_cases q : ∃ s, s < 4 ∧ bsd x R W c s
  · rw [if_pos q, if_pos (e.mp q)]
  · rw [if_neg q, if_neg (fun z => q (e.mpr z))]
theorem wdS_E {R W : Nat} {B C : Nat → Int32} {x y : Sx} (h : sxE (R * W) x y) (hB : eqN (R * W) B C) : spE (R * W) (wdS R W B x) (wdS R W C y) := by
  unfold wdS
  refine itN_rel (r := spE (R * W)) (fun i hi p q hpq => ?_) ⟨h, rfl⟩
  unfold wdB
  rw [hB i hi, h.Z hi, holdS_E h hi]
  split
  · exact hpq
  · exact ⟨worS_E hpq.1 hi, by rw [worV_E hpq.1 hi, hpq.2]⟩
theorem lowS_E {R W c : Nat} {L K : Nat → Int32} (h : eqN (R * W) L K) (hc : c < R * W) : ∀ s, lowS L R W c s = lowS K R W c s
  | 0 => h c hc
  | s + 1 => by
    rw [lowS, lowS, lowS_E h hc s]
    cases hk : nb R W c s with
    | none => rfl
    | some k => dsimp only; rw [h k (nb_lt hc hk)]
theorem falV_E {R W c : Nat} {H I L K : Nat → Int32} (hH : eqN (R * W) H I) (h : eqN (R * W) L K) (hc : c < R * W) : falV H L R W c = falV I K R W c := by
  unfold falV
  rw [hH c hc, lowS_E h hc]
def lpE (n : Nat) (p q : Int32 × (Nat → Int32)) : Prop := p.1 = q.1 ∧ eqN n p.2 q.2
theorem swpS_E {R W : Nat} {H I L K : Nat → Int32} (hH : eqN (R * W) H I) (h : eqN (R * W) L K) : lpE (R * W) (swpS R W H L) (swpS R W I K) := by
  unfold swpS
  refine itN_rel (r := lpE (R * W)) (fun i hi p q hpq => ?_) ⟨rfl, h⟩
  unfold swpB
  by_cases hr : rim R W i
  · rw [if_pos hr, if_pos hr]; exact hpq
  · rw [if_neg hr, if_neg hr, falV_E hH hpq.2 hi, hpq.2 i hi, hpq.1]
    exact ⟨rfl, hpq.2.up i rfl⟩
theorem filF_E {R W : Nat} {H I : Nat → Int32} (hH : eqN (R * W) H I) : ∀ (d : Nat) {L K : Nat → Int32}, eqN (R * W) L K → eqN (R * W) (filF R W H d L) (filF R W I d K)
  | 0, _, _, h => h
  | d + 1, L, K, h => by
    have e := swpS_E hH h
    rw [filF, filF, e.1]
    split
    · exact e.2
    · exact filF_E hH d e.2
theorem lv0_in {R W : Nat} {H : Nat → Int32} {L : Nat → Int32} : ∀ (i : Nat) (c : Nat), c < i → itN (lv0S R W H) i L c = @ite _ (rim R W c) (Classical.propDecidable _) (H c) 2147483647
  | 0, c, h => absurd h (by omega)
  | i + 1, c, h => by
    rw [itN, lv0S]
    by_cases hc : c = i
    · subst hc; rw [upd_at]
    · rw [pk_un hc]; exact lv0_in i c (by omega)
theorem filS_E {R W : Nat} {H I : Nat → Int32} (hH : eqN (R * W) H I) (L K : Nat → Int32) : eqN (R * W) (filS R W H L) (filS R W I K) := by
  unfold filS
  refine filF_E hH 30 (fun c hc => ?_)
  rw [lv0_in _ c hc, lv0_in _ c hc, hH c hc]
theorem frzN_E {R W : Nat} {L K : Nat → Int32} {f : Int32} {x y : Sx} (h : sxE (R * W) x y) (hL : eqN (R * W) L K) : sxE (R * W) (itN (frzB L f) (R * W) x) (itN (frzB K f) (R * W) y) := by
  refine itN_rel (r := sxE (R * W)) (fun i hi p q hpq => ?_) h
  unfold frzB
  rw [hL i hi, hpq.H hi]
  split
  · exact hpq
  · exact freS_E (losS_E hpq hi) hi
theorem wasN_E {R W : Nat} {x y : Sx} (h : sxE (R * W) x y) : sxE (R * W) (itN (wasB R W) (R * W) x) (itN (wasB R W) (R * W) y) := by
  refine itN_rel (r := sxE (R * W)) (fun i hi p q hpq => ?_) h
  unfold wasB
  rw [bssS_E hpq hi]
  split
  · exact hpq
  · exact losS_E hpq hi
theorem pasS_E {R W c : Nat} {g k B C : Nat → Int32} {fi ld : Int32} (hg : eqN (R * W) g k) (hB : eqN (R * W) B C) (hc : c < R * W) : eqN (R * W) (pasS g R W c fi ld B) (pasS k R W c fi ld C) := by
  unfold pasS
  have e : lpE (R * W) (itN (pasB g R W c fi ld) 4 (ld, B)) (itN (pasB k R W c fi ld) 4 (ld, C)) := by
    refine itN_rel (r := lpE (R * W)) (fun i hi p q hpq => ?_) ⟨rfl, hB⟩
    unfold pasB
    cases hk : nb R W c i with
    | none => exact hpq
    | some j =>
      have hj := nb_lt hc hk
      dsimp only
      rw [hg j hj, hpq.2 j hj, hpq.1]
      split
      · exact hpq
      · split
        · exact hpq
        · exact ⟨rfl, hpq.2.up j rfl⟩
  exact e.2.up c (by rw [e.2 c hc, e.1])
theorem layS_E {R W c : Nat} {g k B C : Nat → Int32} {ld : Int32} (hg : eqN (R * W) g k) (hB : eqN (R * W) B C) (hc : c < R * W) : eqN (R * W) (layS g R W c ld B) (layS k R W c ld C) := by
  unfold layS
  rw [hg c hc]
  split
  · exact hB
  · have e : lpE (R * W) (itN (layB g R W c ld) 4 (ld, B)) (itN (layB k R W c ld) 4 (ld, C)) := by
      refine itN_rel (r := lpE (R * W)) (fun i hi p q hpq => ?_) ⟨rfl, hB⟩
      unfold layB
      cases hk : nb R W c i with
      | none => exact hpq
      | some j =>
        have hj := nb_lt hc hk
        dsimp only
        rw [hg j hj, hpq.1]
        split
        · exact hpq
        · exact ⟨rfl, pasS_E hg hpq.2 hj⟩
    exact e.2.up c (by rw [e.2 c hc, e.1])
theorem weaS_E {R W : Nat} {k : Ct} {g j B C : Nat → Int32} (hg : eqN (R * W) g j) (hB : eqN (R * W) B C) : eqN (R * W) (weaS g R W k B) (weaS j R W k C) := by
  unfold weaS
  refine itN_rel (r := eqN (R * W)) (fun i hi p q hpq => ?_) hB
  unfold crtS
  refine itN_rel (r := eqN (R * W)) (fun c hc p q hpq => ?_) hpq
  unfold crtB
  split
  · rename_i hr
    exact layS_E hg hpq (rc_lt hr hc)
  · exact hpq
/-! a year -/
def weaX (R W : Nat) (k : Ct) (x : Sx) : Nat → Int32 := weaS (fun c => gpI (sK x c)) R W k (fun _ => 0)
noncomputable def yeaS (R W : Nat) (k : Ct) (fr : Int32) (x : Sx) : Sx := itN (wasB R W) (R * W) (itN (frzB (filS R W (sH (wdS R W (weaX R W k x) x).1) (fun _ => 0)) fr) (R * W) (wdS R W (weaX R W k x) x).1)
noncomputable def yeaV (R W : Nat) (k : Ct) (x : Sx) : Int32 := (wdS R W (weaX R W k x) x).2
theorem weaX_E {R W : Nat} {k : Ct} {x y : Sx} (h : eqN (R * W) (sK x) (sK y)) : eqN (R * W) (weaX R W k x) (weaX R W k y) := weaS_E (fun c hc => by rw [h c hc]) eqN.rf
theorem yea_E {R W : Nat} {k : Ct} {fr : Int32} {x y : Sx} (h : sxE (R * W) x y) : sxE (R * W) (yeaS R W k fr x) (yeaS R W k fr y) ∧ yeaV R W k x = yeaV R W k y := by
  have e := wdS_E h (weaX_E (k := k) h.1)
  exact ⟨wasN_E (frzN_E e.1 (filS_E e.1.2.2.1 _ _)), e.2⟩
noncomputable def yrsB (R W : Nat) (k : Ct) (fr : Int32) (_ : Nat) (p : Sx × Int32) : Sx × Int32 := (yeaS R W k fr p.1, p.2 + yeaV R W k p.1)
noncomputable def yrsS (R W : Nat) (k : Ct) (fr : Int32) (n : Nat) (x : Sx) : Sx × Int32 := itN (yrsB R W k fr) n (x, 0)
theorem yrsS_E {R W n : Nat} {k : Ct} {fr : Int32} {x y : Sx} (h : sxE (R * W) x y) : spE (R * W) (yrsS R W k fr n x) (yrsS R W k fr n y) := by
  refine itN_rel (r := spE (R * W)) (fun i hi p q hpq => ?_) ⟨h, rfl⟩
  have e := yea_E (k := k) (fr := fr) hpq.1
  exact ⟨e.1, by simp only [yrsB]; rw [hpq.2, e.2]⟩
/-! how often kinds change -/
/-- at most m changes of kinds, and none if the count is the same -/
def chg (m : Nat) (x y : Sx) : Prop := ∃ j, j ≤ m ∧ sC y = sC x + nI j ∧ (j = 0 → sK y = sK x)
theorem chg.rf {x : Sx} : chg 0 x x := ⟨0, Nat.le_refl _, (Int32.add_zero _).symm, fun _ => rfl⟩
theorem chg.tr {m k : Nat} {x y z : Sx} (h : chg m x y) (g : chg k y z) : chg (m + k) x z := by
  obtain ⟨j, h1, h2, h3⟩ := h
  obtain ⟨i, g1, g2, g3⟩ := g
  exact ⟨j + i, by omega, by rw [g2, h2, Int32.add_assoc, nI_add], fun z => by rw [g3 (by omega), h3 (by omega)]⟩
theorem chg.le {m k : Nat} {x y : Sx} (h : chg m x y) (hm : m ≤ k) : chg k x y := by
  obtain ⟨j, h1, h2, h3⟩ := h
  exact ⟨j, by omega, h2, h3⟩
theorem chg_it {f : Nat → Sx → Sx} : ∀ {n : Nat} {x : Sx}, (∀ i x, chg 1 x (f i x)) → chg n x (itN f n x)
  | 0, _, _ => chg.rf
  | n + 1, x, h => (chg_it (n := n) h).tr (h n _)
theorem chg_same {x y : Sx} (hK : sK y = sK x) (hC : sC y = sC x) : chg 1 x y := ⟨0, by omega, by rw [hC]; exact (Int32.add_zero _).symm, fun _ => hK⟩
theorem chg_one {x y : Sx} (hC : sC y = sC x + 1) : chg 1 x y := ⟨1, by omega, hC, fun h => absurd h (by omega)⟩
theorem worS_c (c : Nat) (x : Sx) : chg 1 x (worS c x) := by
  unfold worS
  split
  · exact chg_same rfl rfl
  · split
    · exact chg_one rfl
    · exact chg_one rfl
theorem freS_c (c : Nat) (f : Int32) (x : Sx) : chg 1 x (freS c f x) := by
  unfold freS
  split
  · split
    · exact chg_one rfl
    · exact chg_same rfl rfl
  · exact chg_same rfl rfl
theorem wdS_c {R W : Nat} {B : Nat → Int32} {x : Sx} : chg (R * W) x (wdS R W B x).1 := by
  unfold wdS
  have : ∀ n, chg n x (itN (wdB R W B x) n (x, 0)).1 := by
    intro n
    induction n with
    | zero => exact chg.rf
    | succ n ih =>
      refine ih.tr ?_
      rw [it4, wdB]
      split
      · exact chg_same rfl rfl
      · exact worS_c _ _
  exact this _
theorem frz_c {L : Nat → Int32} {f : Int32} {n : Nat} {x : Sx} : chg n x (itN (frzB L f) n x) := by
  refine chg_it (fun i x => ?_)
  unfold frzB
  split
  · exact chg_same rfl rfl
  · exact (freS_c i f (losS i x))
theorem was_c {R W n : Nat} {x : Sx} : sK (itN (wasB R W) n x) = sK x ∧ sC (itN (wasB R W) n x) = sC x := by
  induction n with
  | zero => exact ⟨rfl, rfl⟩
  | succ n ih =>
    rw [it4, wasB]
    split
    · exact ih
    · exact ih
