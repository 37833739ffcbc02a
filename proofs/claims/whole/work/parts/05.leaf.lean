/-! words for the document's state, and leaves: small static methods, the plan -/
theorem iinc1 (i : Nat) : nI i + Int32.ofInt 1 = nI (i + 1) := nI_1 i
theorem iincx (x : Int32) : x + Int32.ofInt 1 = x + 1 := rfl
def isSt (b : Nat) : Prop := b = 15 ∨ b = 21 ∨ b = 27
theorem st_o {b : Nat} (hb : isSt b) : GC[b]? = some (.inr (6, [14, b + 1 + 2, b + 2 + 2, b + 3 + 2, b + 4 + 2, b + 5 + 2, 0, 0])) := by rcases hb with rfl | rfl | rfl <;> rfl
theorem st_1 {b : Nat} (hb : isSt b) : GC[b + 1]? = some (.inl (0, 30)) := by rcases hb with rfl | rfl | rfl <;> rfl
theorem st_2 {b : Nat} (hb : isSt b) : GC[b + 2]? = some (.inl (0, 30)) := by rcases hb with rfl | rfl | rfl <;> rfl
theorem st_3 {b : Nat} (hb : isSt b) : GC[b + 3]? = some (.inl (0, 30)) := by rcases hb with rfl | rfl | rfl <;> rfl
theorem st_4 {b : Nat} (hb : isSt b) : GC[b + 4]? = some (.inl (0, 30)) := by rcases hb with rfl | rfl | rfl <;> rfl
theorem st_5 {b : Nat} (hb : isSt b) : GC[b + 5]? = some (.inl (0, 30)) := by rcases hb with rfl | rfl | rfl <;> rfl
def zB (c : Prop) [Decidable c] : Int32 := if c then 1 else 0
theorem zB_or (c : Prop) [Decidable c] : zB c = 0 ∨ zB c = 1 := by unfold zB; split <;> simp
theorem zB_t {c : Prop} [Decidable c] (h : c) : zB c = 1 := if_pos h
theorem zB_f {c : Prop} [Decidable c] (h : ¬ c) : zB c = 0 := if_neg h
theorem zB_1 {c : Prop} [Decidable c] : zB c = 0 ↔ ¬ c := by unfold zB; split <;> simp_all
/-- a quotient that is 0 where the divisor is below 1 -/
def quo (a b : Int32) : Int32 := if 1 ≤ b then a / b else 0
theorem ok_X11_quotient {l : Launch} {M : Mm} {a b : Int32} : Oi GC l mX11_quotient [.int a, .int b] M (quo a b) M := by
  refine ok_of (by decide +kernel) rfl rfl ?_
  refine g_iload1 1 rfl dX11_quotient_0 ?_
  refine g_iconst 2 rfl (v := 1) dX11_quotient_1 (by decide) ?_
  refine g_cmpge 9 5 rfl dX11_quotient_2 (by decide) (fun h2 => ?_) (fun h2 => ?_)
  · refine g_iload0 10 rfl dX11_quotient_9 ?_
    refine g_iload1 11 rfl dX11_quotient_10 ?_
    refine g_idiv 12 rfl dX11_quotient_11 (fun h0 => by subst h0; exact absurd h2 (by decide)) ?_
    refine g_iret rfl dX11_quotient_12 ?_
    exact ⟨by simp [quo, h2], rfl⟩
  · refine g_iconst 6 rfl (v := 0) dX11_quotient_5 (by decide) ?_
    refine g_goto 12 dX11_quotient_6 (by decide) ?_
    refine g_iret rfl dX11_quotient_12 ?_
    exact ⟨by simp [quo, h2], rfl⟩
theorem ok_X11_isWeight {l : Launch} {M : Mm} {a : Int32} : Oi GC l mX11_isWeight [.int a] M (zB (1 ≤ a ∧ a ≤ 99)) M := by
  refine ok_of (by decide +kernel) rfl rfl ?_
  refine g_iload0 1 rfl dX11_isWeight_0 ?_
  refine g_iconst 2 rfl (v := 1) dX11_isWeight_1 (by decide) ?_
  refine g_cmplt 15 5 rfl dX11_isWeight_2 (by decide) (fun h2 => ?_) (fun h2 => ?_)
  · refine g_iconst 16 rfl (v := 0) dX11_isWeight_15 (by decide) ?_
    refine g_zret rfl dX11_isWeight_16 (by first | exact Or.inl rfl | exact Or.inr rfl | assumption) ?_
    exact ⟨by simp_all [zB, Int32.not_lt, ← Int32.not_le], rfl⟩
  · refine g_iload0 6 rfl dX11_isWeight_5 ?_
    refine g_bipush 8 rfl (v := 99) dX11_isWeight_6 (by decide) ?_
    refine g_cmpgt 15 11 rfl dX11_isWeight_8 (by decide) (fun h8 => ?_) (fun h8 => ?_)
    · refine g_iconst 16 rfl (v := 0) dX11_isWeight_15 (by decide) ?_
      refine g_zret rfl dX11_isWeight_16 (by first | exact Or.inl rfl | exact Or.inr rfl | assumption) ?_
      exact ⟨by simp_all [zB, Int32.not_lt, ← Int32.not_le], rfl⟩
    · refine g_iconst 12 rfl (v := 1) dX11_isWeight_11 (by decide) ?_
      refine g_goto 16 dX11_isWeight_12 (by decide) ?_
      refine g_zret rfl dX11_isWeight_16 (by first | exact Or.inl rfl | exact Or.inr rfl | assumption) ?_
      exact ⟨by simp_all [zB, Int32.not_lt, ← Int32.not_le], rfl⟩
/-! the plan -/
def oI (o : Option Nat) : Int32 := match o with
  | none => -1
  | some k => nI k
def nb (R W c s : Nat) : Option Nat := match s with
  | 0 => if c < W then none else some (c - W)
  | 1 => if c % W + 1 = W then none else some (c + 1)
  | 2 => if c + W < R * W then some (c + W) else none
  | _ => if c % W = 0 then none else some (c - 1)
def rim (R W c : Nat) : Prop := c < W ∨ R * W ≤ c + W ∨ c % W = 0 ∨ c % W + 1 = W
/-- the sizes that a street may have, or none -/
def RW (R W : Nat) : Prop := (R = 0 ∧ W = 0) ∨ (2 ≤ R ∧ R ≤ 5 ∧ 2 ≤ W ∧ W ≤ 6)
theorem RW.le {R W : Nat} (h : RW R W) : R * W ≤ 30 := by
  rcases h with ⟨rfl, rfl⟩ | ⟨h1, h2, h3, h4⟩
  · decide
  · exact Nat.le_trans (Nat.mul_le_mul h2 h4) (by decide)
def Plan (M : Mm) (R W : Nat) : Prop := RW R W ∧ M.1 12 2 = nI R ∧ M.1 12 3 = nI W ∧ M.1 12 4 = nI (R * W) ∧ (∀ c, c < R * W → ∀ s, s < 4 → M.1 13 (4 * c + s) = oI (nb R W c s)) ∧ (∀ c, c < R * W → (M.1 14 c = 1 ∧ rim R W c) ∨ (M.1 14 c = 0 ∧ ¬ rim R W c))
theorem nb_lt {R W c s k : Nat} (hc : c < R * W) (h : nb R W c s = some k) : k < R * W := by
  have hW : 0 < W := by
    rcases Nat.eq_zero_or_pos W with h0 | h0
    · subst h0; simp at hc
    · exact h0
  unfold nb at h
  split at h
  · split at h
    · cases h
    · cases h; omega
  · split at h
    · cases h
    · rename_i h1
      cases h
      have h2 : c % W < W := Nat.mod_lt _ hW
      have h3 : c = W * (c / W) + c % W := (Nat.div_add_mod c W).symm
      have h4 : c / W < R := Nat.div_lt_of_lt_mul (by rw [Nat.mul_comm]; exact hc)
      have h5 : W * (c / W) + W ≤ W * R := by
        have : W * (c / W + 1) ≤ W * R := Nat.mul_le_mul_left W h4
        rwa [Nat.mul_add, Nat.mul_one] at this
      rw [Nat.mul_comm R W]
      omega
  · split at h
    · cases h; assumption
    · cases h
  · split at h
    · cases h
    · cases h; omega
theorem ok_X4_beside {l : Launch} {M : Mm} {R W c s : Nat} (hp : Plan M R W) (hc : c < R * W) (hs : s < 4) : Oi GC l mX4_beside [.ref 12, .int (nI c), .int (nI s)] M (oI (nb R W c s)) M := by
  have h30 := hp.1.le
  refine ok_of (by decide +kernel) rfl rfl ?_
  refine g_aload0 1 rfl dX4_beside_0 ?_
  refine g_getR 4 rfl fX4_9 (by first | rfl | exact st_o hb | exact st_1 hb | exact st_2 hb | exact st_3 hb | exact st_4 hb | exact st_5 hb | exact st_o hb2 | exact st_1 hb2 | exact st_2 hb2 | exact st_3 hb2 | exact st_4 hb2 | exact st_5 hb2) rfl dX4_beside_1 ?_
  refine g_iload1 5 rfl dX4_beside_4 ?_
  refine g_iconst 6 rfl (v := 4) dX4_beside_5 (by decide) ?_
  refine g_imul 7 rfl dX4_beside_6 ?_
  refine g_iload2 8 rfl dX4_beside_7 ?_
  refine g_iadd 9 rfl dX4_beside_8 ?_
  refine g_top (nI (4 * c + s)) (by rw [show (4 : Int32) = nI 4 from rfl, pk_mul, nI_add, Nat.mul_comm]) ?_
  refine g_iald 10 rfl dX4_beside_9 (by first | rfl | exact st_o hb | exact st_1 hb | exact st_2 hb | exact st_3 hb | exact st_4 hb | exact st_5 hb | exact st_o hb2 | exact st_1 hb2 | exact st_2 hb2 | exact st_3 hb2 | exact st_4 hb2 | exact st_5 hb2) rfl rfl (by first | assumption | omega) ?_
  refine g_iret rfl dX4_beside_10 ?_
  exact ⟨by rw [hp.2.2.2.2.1 c hc s hs], rfl⟩
/-! a street's state: kinds, sizes, heights, seats, joints, the seed, and how often years changed a kind -/
abbrev Sx : Type := (Nat → Int32) × (Nat → Int32) × (Nat → Int32) × (Nat → Int32) × (Nat → Int32) × Int32 × Int32
def sK (x : Sx) : Nat → Int32 := x.1
def sZ (x : Sx) : Nat → Int32 := x.2.1
def sH (x : Sx) : Nat → Int32 := x.2.2.1
def sS (x : Sx) : Nat → Int32 := x.2.2.2.1
def sJ (x : Sx) : Nat → Int32 := x.2.2.2.2.1
def sD (x : Sx) : Int32 := x.2.2.2.2.2.1
def sC (x : Sx) : Int32 := x.2.2.2.2.2.2
def wK (x : Sx) (f : Nat → Int32) : Sx := (f, x.2)
def wZ (x : Sx) (f : Nat → Int32) : Sx := (x.1, f, x.2.2)
def wH (x : Sx) (f : Nat → Int32) : Sx := (x.1, x.2.1, f, x.2.2.2)
def wS (x : Sx) (f : Nat → Int32) : Sx := (x.1, x.2.1, x.2.2.1, f, x.2.2.2.2)
def wJ (x : Sx) (f : Nat → Int32) : Sx := (x.1, x.2.1, x.2.2.1, x.2.2.2.1, f, x.2.2.2.2.2)
def wD (x : Sx) (d : Int32) : Sx := (x.1, x.2.1, x.2.2.1, x.2.2.2.1, x.2.2.2.2.1, d, x.2.2.2.2.2.2)
def wC (x : Sx) (d : Int32) : Sx := (x.1, x.2.1, x.2.2.1, x.2.2.2.1, x.2.2.2.2.1, x.2.2.2.2.2.1, d)
/-- the street at the cell b -/
def vC (M : Mm) (b : Nat) : Sx := (M.1 (b + 1), M.1 (b + 2), M.1 (b + 3), M.1 (b + 4), M.1 (b + 5), M.1 b 6, M.1 b 7)
def pC (M : Mm) (b : Nat) (x : Sx) : Mm := (fun h => if h = b then (fun k => if k = 6 then sD x else if k = 7 then sC x else M.1 b k) else if h = b + 1 then sK x else if h = b + 2 then sZ x else if h = b + 3 then sH x else if h = b + 4 then sS x else if h = b + 5 then sJ x else M.1 h, M.2)
theorem pC_o {M : Mm} {b h : Nat} {x : Sx} (h0 : h < b ∨ b + 5 < h) : (pC M b x).1 h = M.1 h := by
  have e0 : h ≠ b := by omega
  have e1 : h ≠ b + 1 := by omega
  have e2 : h ≠ b + 2 := by omega
  have e3 : h ≠ b + 3 := by omega
  have e4 : h ≠ b + 4 := by omega
  have e5 : h ≠ b + 5 := by omega
  simp [pC, e0, e1, e2, e3, e4, e5]
theorem pC_1 {M : Mm} {b : Nat} {x : Sx} : (pC M b x).1 (b + 1) = sK x := by simp [pC]
theorem pC_2 {M : Mm} {b : Nat} {x : Sx} : (pC M b x).1 (b + 2) = sZ x := by simp [pC]
theorem pC_3 {M : Mm} {b : Nat} {x : Sx} : (pC M b x).1 (b + 3) = sH x := by simp [pC]
theorem pC_4 {M : Mm} {b : Nat} {x : Sx} : (pC M b x).1 (b + 4) = sS x := by simp [pC]
theorem pC_5 {M : Mm} {b : Nat} {x : Sx} : (pC M b x).1 (b + 5) = sJ x := by simp [pC]
theorem pC_6 {M : Mm} {b : Nat} {x : Sx} : (pC M b x).1 b 6 = sD x := by simp [pC]
theorem pC_7 {M : Mm} {b : Nat} {x : Sx} : (pC M b x).1 b 7 = sC x := by simp [pC]
theorem vC_pC (M : Mm) (b : Nat) (x : Sx) : vC (pC M b x) b = x := by
  unfold vC
  rw [pC_1, pC_2, pC_3, pC_4, pC_5, pC_6, pC_7]
  rfl
theorem pC_vC (M : Mm) (b : Nat) : pC M b (vC M b) = M := by
  refine Prod.ext ?_ rfl
  funext h
  simp only [pC, vC, sK, sZ, sH, sS, sJ, sD, sC]
  repeat' split
  all_goals (first | (subst_vars; rfl) | (subst_vars; funext k; repeat' split) | rfl)
  all_goals (subst_vars; rfl)
theorem pC_pC (M : Mm) (b : Nat) (x y : Sx) : pC (pC M b x) b y = pC M b y := by
  refine Prod.ext ?_ rfl
  funext h
  by_cases hh : h < b ∨ b + 5 < h
  · rw [pC_o hh, pC_o hh, pC_o hh]
  · simp only [pC]
    repeat' split
    all_goals (first | rfl | (exfalso; omega) | (funext k; repeat' split))
    all_goals (first | rfl | (exfalso; omega) | simp_all)
theorem pC_plan {M : Mm} {b R W : Nat} {x : Sx} (hb : isSt b) (hp : Plan M R W) : Plan (pC M b x) R W := by
  have e1 : (pC M b x).1 12 = M.1 12 := pC_o (by rcases hb with rfl | rfl | rfl <;> decide)
  have e2 : (pC M b x).1 13 = M.1 13 := pC_o (by rcases hb with rfl | rfl | rfl <;> decide)
  have e3 : (pC M b x).1 14 = M.1 14 := pC_o (by rcases hb with rfl | rfl | rfl <;> decide)
  unfold Plan
  rw [e1, e2, e3]
  exact hp
theorem set_1 {M : Mm} {b : Nat} {x : Sx} {f : Nat → Int32} : setA (pC M b x) (b + 1) f = pC M b (wK x f) := by
  refine Prod.ext ?_ rfl
  funext h
  simp only [setA, pC, wK, sK, sZ, sH, sS, sJ, sD, sC]
  repeat' split
  all_goals (first | rfl | (exfalso; omega))
theorem set_2 {M : Mm} {b : Nat} {x : Sx} {f : Nat → Int32} : setA (pC M b x) (b + 2) f = pC M b (wZ x f) := by
  refine Prod.ext ?_ rfl
  funext h
  simp only [setA, pC, wZ, sK, sZ, sH, sS, sJ, sD, sC]
  repeat' split
  all_goals (first | rfl | (exfalso; omega))
theorem set_3 {M : Mm} {b : Nat} {x : Sx} {f : Nat → Int32} : setA (pC M b x) (b + 3) f = pC M b (wH x f) := by
  refine Prod.ext ?_ rfl
  funext h
  simp only [setA, pC, wH, sK, sZ, sH, sS, sJ, sD, sC]
  repeat' split
  all_goals (first | rfl | (exfalso; omega))
theorem set_4 {M : Mm} {b : Nat} {x : Sx} {f : Nat → Int32} : setA (pC M b x) (b + 4) f = pC M b (wS x f) := by
  refine Prod.ext ?_ rfl
  funext h
  simp only [setA, pC, wS, sK, sZ, sH, sS, sJ, sD, sC]
  repeat' split
  all_goals (first | rfl | (exfalso; omega))
theorem set_5 {M : Mm} {b : Nat} {x : Sx} {f : Nat → Int32} : setA (pC M b x) (b + 5) f = pC M b (wJ x f) := by
  refine Prod.ext ?_ rfl
  funext h
  simp only [setA, pC, wJ, sK, sZ, sH, sS, sJ, sD, sC]
  repeat' split
  all_goals (first | rfl | (exfalso; omega))
theorem set_6 {M : Mm} {b : Nat} {x : Sx} {v : Int32} : setA (pC M b x) b (upd ((pC M b x).1 b) 6 v) = pC M b (wD x v) := by
  refine Prod.ext ?_ rfl
  funext h
  by_cases hh : h = b
  · subst hh
    funext k
    simp only [setA, pC, wD, sK, sZ, sH, sS, sJ, sD, sC, upd, if_true]
    repeat' split
    all_goals (first | rfl | omega)
  · simp only [setA, pC, wD, sK, sZ, sH, sS, sJ, sD, sC, hh, if_false]
theorem set_7 {M : Mm} {b : Nat} {x : Sx} {v : Int32} : setA (pC M b x) b (upd ((pC M b x).1 b) 7 v) = pC M b (wC x v) := by
  refine Prod.ext ?_ rfl
  funext h
  by_cases hh : h = b
  · subst hh
    funext k
    simp only [setA, pC, wC, sK, sZ, sH, sS, sJ, sD, sC, upd, if_true]
    repeat' split
    all_goals (first | rfl | omega)
  · simp only [setA, pC, wC, sK, sZ, sH, sS, sJ, sD, sC, hh, if_false]
