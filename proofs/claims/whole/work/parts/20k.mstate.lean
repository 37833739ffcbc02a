/-! the reference's state, and its small questions -/
theorem pM_0 {M : Mm} {x : Sx} : (pM M x).1 0 = M.1 0 := pM_o (Or.inl rfl)
theorem pM_h6 {M : Mm} {x : Sx} : (pM M x).1 6 = M.1 6 := pM_o (Or.inr (by decide))
theorem pM_h7 {M : Mm} {x : Sx} : (pM M x).1 7 = M.1 7 := pM_o (Or.inr (by decide))
theorem pM_h8 {M : Mm} {x : Sx} : (pM M x).1 8 = M.1 8 := pM_o (Or.inr (by decide))
theorem pM_h9 {M : Mm} {x : Sx} : (pM M x).1 9 = M.1 9 := pM_o (Or.inr (by decide))
theorem pM_h10 {M : Mm} {x : Sx} : (pM M x).1 10 = M.1 10 := pM_o (Or.inr (by decide))
theorem pM_h11 {M : Mm} {x : Sx} : (pM M x).1 11 = M.1 11 := pM_o (Or.inr (by decide))
theorem pM_h12 {M : Mm} {x : Sx} : (pM M x).1 12 = M.1 12 := pM_o (Or.inr (by decide))
theorem pM_h13 {M : Mm} {x : Sx} : (pM M x).1 13 = M.1 13 := pM_o (Or.inr (by decide))
theorem pM_h14 {M : Mm} {x : Sx} : (pM M x).1 14 = M.1 14 := pM_o (Or.inr (by decide))
theorem pM_h15 {M : Mm} {x : Sx} : (pM M x).1 15 = M.1 15 := pM_o (Or.inr (by decide))
theorem pM_h16 {M : Mm} {x : Sx} : (pM M x).1 16 = M.1 16 := pM_o (Or.inr (by decide))
theorem pM_h17 {M : Mm} {x : Sx} : (pM M x).1 17 = M.1 17 := pM_o (Or.inr (by decide))
theorem pM_h19 {M : Mm} {x : Sx} : (pM M x).1 19 = M.1 19 := pM_o (Or.inr (by decide))
theorem pM_w0 {M : Mm} {x : Sx} {f : Nat → Int32} : setA (pM M x) 0 f = pM (setA M 0 f) x := pM_wo (Or.inl rfl)
/-- what the reference's image keeps -/
def Kp (N : Mm) (x : Sx) (n : Nat) : Prop := N.2 0 19 = (sD x).toInt64 ∧ ∀ c, c < n → N.1 10 (5 * c) = sK x c ∧ N.1 10 (5 * c + 1) = sZ x c ∧ N.1 10 (5 * c + 2) = sH x c ∧ N.1 10 (5 * c + 3) = sS x c ∧ N.1 10 (5 * c + 4) = sJ x c
/-- what holds the state beside the street -/
def MR (g : Sg) (N : Mm) : Prop := Mod N (gR g) (gW g) ∧ (gL g ≤ 64 ∧ N.1 0 15 = nI (gL g) ∧ ∀ i, i < gL g → N.1 9 i = gP g i) ∧ CrM N (gK g) ∧ (gM g ≤ 10 ∧ N.1 0 12 = nI (gM g) ∧ ∀ i, i < gM g → N.1 8 i = gZ g i) ∧ N.1 0 2 = nI (gS g) ∧ N.1 0 14 = nI (gF g) ∧ (gI g = 0 → N.1 0 17 = 0) ∧ (gI g ≠ 0 → N.1 0 17 = 1 ∧ N.1 0 18 = nI (gI g)) ∧ (gI g ≠ 0 → gI g = gS g → Kp N (gV g) (gN g)) ∧ gOk g
def MS (g : Sg) (M : Mm) : Prop := ∃ N x, M = pM N x ∧ sxE (gN g) x (gX g) ∧ MR g N
/-- what a call that changes nothing may leave -/
def kpM (N O : Mm) : Prop := (∀ k, k ≤ 22 → O.1 0 k = N.1 0 k) ∧ (∀ h, 6 ≤ h → h ≤ 10 → O.1 h = N.1 h) ∧ O.2 0 19 = N.2 0 19
theorem kpM.rf {N : Mm} : kpM N N := ⟨fun _ _ => rfl, fun _ _ _ => rfl, rfl⟩
theorem kpM.tr {N O P : Mm} (h : kpM N O) (g : kpM O P) : kpM N P := ⟨fun k a => (g.1 k a).trans (h.1 k a), fun k a b => (g.2.1 k a b).trans (h.2.1 k a b), g.2.2.trans h.2.2⟩
theorem kpM.sA {N O : Mm} {q : Nat} {f : Nat → Int32} (h : kpM N O) (hq : 11 ≤ q) : kpM N (setA O q f) := ⟨fun k a => by rw [sA_n (by omega)]; exact h.1 k a, fun k a b => by rw [sA_n (by omega)]; exact h.2.1 k a b, h.2.2⟩
theorem kpM.sL {N O : Mm} {q : Nat} {v : Int64} (h : kpM N O) (hq : q ≠ 19) : kpM N (setL O 0 q v) := ⟨h.1, h.2.1, by simp only [setL]; rw [if_neg (fun z => hq z.2.symm)]; exact h.2.2⟩
theorem kpM.s0 {N O : Mm} {q : Nat} {v : Int32} (h : kpM N O) (hq : 22 < q) : kpM N (setA O 0 (upd (O.1 0) q v)) := ⟨fun k a => by rw [sA_s, pk_un (by omega)]; exact h.1 k a, fun k a b => by rw [sA_n (by omega)]; exact h.2.1 k a b, h.2.2⟩
theorem kpM.fM {N O : Mm} (h : FrM N O) : kpM N O := ⟨fun k _ => by rw [h.1 0 (by decide) (by decide) (by decide)], fun k a b => h.1 k (by omega) (by omega) (by omega), by rw [h.2]⟩
theorem kpM.fS {N O : Mm} (h : FrS N O) : kpM N O := ⟨fun k _ => by rw [h.1 0 (by decide) (by decide) (by decide) (by decide)], fun k a b => h.1 k (by omega) (by omega) (by omega) (by omega), h.2 19 (by decide)⟩
theorem MR.fr {g : Sg} {N O : Mm} (h : MR g N) (k : kpM N O) : MR g O := by
  obtain ⟨k1, k2, k3⟩ := k
  unfold MR Mod CrM Kp at h ⊢
  rw [k1 0 (by decide), k1 1 (by decide), k1 2 (by decide), k1 9 (by decide), k1 12 (by decide), k1 14 (by decide), k1 15 (by decide), k1 17 (by decide), k1 18 (by decide), k2 6 (by decide) (by decide), k2 7 (by decide) (by decide), k2 8 (by decide) (by decide), k2 9 (by decide) (by decide), k2 10 (by decide) (by decide), k3]
  exact h
theorem MR.x {g : Sg} {N : Mm} {y : Sx} (h : MR g N) : MR (sgX g y) N := h
theorem MR.m {g : Sg} {N : Mm} (h : MR g N) : Mod N (gR g) (gW g) := h.1
theorem MR.ok {g : Sg} {N : Mm} (h : MR g N) : gOk g := h.2.2.2.2.2.2.2.2.2
theorem MR.s {g : Sg} {N : Mm} (h : MR g N) : N.1 0 2 = nI (gS g) := h.2.2.2.2.1
theorem MR.k {g : Sg} {N : Mm} (h : MR g N) : CrM N (gK g) := h.2.2.1
theorem MR.s0 {g : Sg} {N : Mm} (h : MR g N) : N.1 0 2 = 0 ↔ ¬ 0 < gN g := by
  rw [h.s]
  have h1 := h.ok.1
  have h2 := h.ok.2.1
  constructor
  · intro e z
    exact nI_ne0 (h1.mp z) (by omega) e
  · intro e
    have : gS g = 0 := Nat.eq_zero_of_not_pos (fun z => e (h1.mpr z))
    rw [this]
    rfl
theorem nI_le0 {k : Nat} (h : k < 2 ^ 31) : nI k ≤ 0 ↔ ¬ 0 < k := by
  constructor
  · intro e z; exact nI_nle z h e
  · intro e
    have : k = 0 := Nat.eq_zero_of_not_pos e
    rw [this]
    decide
theorem MR.sp {g : Sg} {N : Mm} (h : MR g N) : N.1 0 2 ≤ 0 ↔ ¬ 0 < gN g := by
  have h1 := h.ok.1
  have h2 := h.ok.2.1
  rw [h.s, nI_le0 (by omega)]
  exact not_congr h1.symm
theorem MR.cp {g : Sg} {N : Mm} (h : MR g N) : N.1 0 9 ≤ 0 ↔ ¬ 0 < (gK g).1 := by
  have h1 := h.k.1
  rw [h.k.2.1, nI_le0 (by omega)]
theorem sxE.le {n m : Nat} {x y : Sx} (h : sxE m x y) (hn : n ≤ m) : sxE n x y := ⟨fun c hc => h.1 c (by omega), fun c hc => h.2.1 c (by omega), fun c hc => h.2.2.1 c (by omega), fun c hc => h.2.2.2.1 c (by omega), fun c hc => h.2.2.2.2.1 c (by omega), h.2.2.2.2.2⟩
/-- numbers stay in bounds -/
def IV (b : Nat) (g : Sg) : Prop := SI (gN g) (gX g) ∧ HB b (gN g) (gX g) ∧ (gI g ≠ 0 → gI g = gS g → SI (gN g) (gV g) ∧ HB b (gN g) (gV g)) ∧ ∀ i, i < gM g → okZ (gZ g i)
abbrev qM (p : Int32 × Sg) : Rr → Mm → Prop := fun r M' => r = some (.inl p.1) ∧ MS p.2 M'
theorem MR.pg {g : Sg} {N O : Mm} {L : Nat} {p : Nat → Int32} (h : MR g N) (hL : L ≤ 64) (h15 : O.1 0 15 = nI L) (hp : ∀ i, i < L → O.1 9 i = p i) (hk : ∀ k, k ≤ 22 → k ≠ 15 → O.1 0 k = N.1 0 k) (hh : ∀ q, 6 ≤ q → q ≤ 10 → q ≠ 9 → O.1 q = N.1 q) (hl : O.2 0 19 = N.2 0 19) : MR (sgP g L p) O := by
  obtain ⟨a1, a2, a3, a4, a5, a6, a7, a8, a9, a10⟩ := h
  refine ⟨?_, ⟨hL, h15, hp⟩, ?_, ?_, ?_, ?_, ?_, ?_, ?_, a10⟩
  · unfold Mod at a1 ⊢
    rw [hk 0 (by decide) (by decide), hk 1 (by decide) (by decide)]
    exact a1
  · unfold CrM at a3 ⊢
    rw [hk 9 (by decide) (by decide), hh 6 (by decide) (by decide) (by decide), hh 7 (by decide) (by decide) (by decide)]
    exact a3
  · rw [hk 12 (by decide) (by decide), hh 8 (by decide) (by decide) (by decide)]
    exact a4
  · rw [hk 2 (by decide) (by decide)]
    exact a5
  · rw [hk 14 (by decide) (by decide)]
    exact a6
  · rw [hk 17 (by decide) (by decide)]
    exact a7
  · rw [hk 17 (by decide) (by decide), hk 18 (by decide) (by decide)]
    exact a8
  · unfold Kp at a9 ⊢
    rw [hl, hh 10 (by decide) (by decide) (by decide)]
    exact a9
theorem om_isWeight {l : Launch} {M : Mm} {a : Int32} : Ok GM l mX12_isWeight [.int a] M (qB M (okW a)) := by
  refine ok_of (by decide +kernel) rfl rfl ?_
  refine g_iload0 1 rfl dX12_isWeight_0 ?_
  refine g_iconst 2 rfl (v := 1) dX12_isWeight_1 (by decide) ?_
  refine g_bipush 4 rfl (v := 99) dX12_isWeight_2 (by decide) ?_
  refine g_callS 7 3 rfl kX12_78 dX12_isWeight_4 ⟨rfl, rfl⟩ om_within rfl rfl rfl (fun r M1 hq => ?_)
  obtain ⟨rfl, ⟨rfl, hq⟩ | ⟨rfl, hq⟩⟩ := hq
  try simp only [rV, Option.toList, List.cons_append, List.nil_append]
  · refine g_zret rfl dX12_isWeight_7 (Or.inr rfl) ?_
    exact ⟨rfl, Or.inl ⟨rfl, hq⟩⟩
  · refine g_zret rfl dX12_isWeight_7 (Or.inl rfl) ?_
    exact ⟨rfl, Or.inr ⟨rfl, hq⟩⟩
theorem om_isLoad {l : Launch} {M : Mm} {a : Int32} : Ok GM l mX12_isLoad [.int a] M (qB M (okL a)) := by
  refine ok_of (by decide +kernel) rfl rfl ?_
  refine g_iload0 1 rfl dX12_isLoad_0 ?_
  refine g_iconst 2 rfl (v := 1) dX12_isLoad_1 (by decide) ?_
  refine g_sipush 5 rfl (v := 9999) dX12_isLoad_2 (by decide) ?_
  refine g_callS 8 3 rfl kX12_78 dX12_isLoad_5 ⟨rfl, rfl⟩ om_within rfl rfl rfl (fun r M1 hq => ?_)
  obtain ⟨rfl, ⟨rfl, hq⟩ | ⟨rfl, hq⟩⟩ := hq
  try simp only [rV, Option.toList, List.cons_append, List.nil_append]
  · refine g_zret rfl dX12_isLoad_8 (Or.inr rfl) ?_
    exact ⟨rfl, Or.inl ⟨rfl, hq⟩⟩
  · refine g_zret rfl dX12_isLoad_8 (Or.inl rfl) ?_
    exact ⟨rfl, Or.inr ⟨rfl, hq⟩⟩
theorem wi4 {a : Int32} : (0 ≤ a ∧ a ≤ 3) ↔ vp_in a 4 := by
  have := wi_in (n := 4) (a := a) (by decide)
  rwa [show nI 4 - 1 = 3 by decide] at this
theorem wi5 {a : Int32} : (0 ≤ a ∧ a ≤ 4) ↔ vp_in a 5 := by
  have := wi_in (n := 5) (a := a) (by decide)
  rwa [show nI 5 - 1 = 4 by decide] at this
theorem wi6 {a : Int32} : (0 ≤ a ∧ a ≤ 5) ↔ vp_in a 6 := by
  have := wi_in (n := 6) (a := a) (by decide)
  rwa [show nI 6 - 1 = 5 by decide] at this
theorem wi2 {a : Int32} : (0 ≤ a ∧ a ≤ 1) ↔ vp_in a 2 := by
  have := wi_in (n := 2) (a := a) (by decide)
  rwa [show nI 2 - 1 = 1 by decide] at this
theorem q01 {a : Int32} : (0 ≤ a ∧ a ≤ 1) ↔ (a = 0 ∨ a = 1) := by
  rw [wi2]
  constructor
  · intro h
    obtain ⟨c, hc, rfl⟩ := vp_in_of h (by decide)
    rcases (show c = 0 ∨ c = 1 by omega) with rfl | rfl
    · exact Or.inl rfl
    · exact Or.inr rfl
  · rintro (rfl | rfl) <;> rw [← wi2] <;> decide
theorem om_isOrder {l : Launch} {M : Mm} {a : Int32} : Ok GM l mX12_isOrder [.int a] M (qB M (vp_in a 4)) := by
  refine ok_of (by decide +kernel) rfl rfl ?_
  refine g_iload0 1 rfl dX12_isOrder_0 ?_
  refine g_iconst 2 rfl (v := 0) dX12_isOrder_1 (by decide) ?_
  refine g_iconst 3 rfl (v := 3) dX12_isOrder_2 (by decide) ?_
  refine g_callS 6 3 rfl kX12_78 dX12_isOrder_3 ⟨rfl, rfl⟩ om_within rfl rfl rfl (fun r M1 hq => ?_)
  obtain ⟨rfl, ⟨rfl, hq⟩ | ⟨rfl, hq⟩⟩ := hq
  try simp only [rV, Option.toList, List.cons_append, List.nil_append]
  · refine g_zret rfl dX12_isOrder_6 (Or.inr rfl) ?_
    exact ⟨rfl, Or.inl ⟨rfl, wi4.mp hq⟩⟩
  · refine g_zret rfl dX12_isOrder_6 (Or.inl rfl) ?_
    exact ⟨rfl, Or.inr ⟨rfl, fun z => hq (wi4.mpr z)⟩⟩
theorem om_areYears {l : Launch} {M : Mm} {a f : Int32} : Ok GM l mX12_areYears [.int a, .int f] M (qB M (okY a f)) := by
  refine ok_of (by decide +kernel) rfl rfl ?_
  refine g_iload0 1 rfl dX12_areYears_0 ?_
  refine g_iconst 2 rfl (v := 1) dX12_areYears_1 (by decide) ?_
  refine g_bipush 4 rfl (v := 20) dX12_areYears_2 (by decide) ?_
  refine g_callS 7 3 rfl kX12_78 dX12_areYears_4 ⟨rfl, rfl⟩ om_within rfl rfl rfl (fun r M1 hq => ?_)
  obtain ⟨rfl, ⟨rfl, hq⟩ | ⟨rfl, hq⟩⟩ := hq
  try simp only [rV, Option.toList, List.cons_append, List.nil_append]
  · refine g_ifeq 24 10 rfl dX12_areYears_7 (by decide) (fun h => absurd h (by decide)) (fun _ => ?_)
    refine g_iload1 11 rfl dX12_areYears_10 ?_
    refine g_iconst 12 rfl (v := 0) dX12_areYears_11 (by decide) ?_
    refine g_bipush 14 rfl (v := 10) dX12_areYears_12 (by decide) ?_
    refine g_callS 17 3 rfl kX12_78 dX12_areYears_14 ⟨rfl, rfl⟩ om_within rfl rfl rfl (fun r M1 hq => ?_)
    obtain ⟨rfl, ⟨rfl, hw⟩ | ⟨rfl, hw⟩⟩ := hq
    try simp only [rV, Option.toList, List.cons_append, List.nil_append]
    · refine g_ifeq 24 20 rfl dX12_areYears_17 (by decide) (fun h => absurd h (by decide)) (fun _ => ?_)
      refine g_iconst 21 rfl (v := 1) dX12_areYears_20 (by decide) ?_
      refine g_goto 25 dX12_areYears_21 (by decide) ?_
      refine g_zret rfl dX12_areYears_25 (by first | exact Or.inl rfl | exact Or.inr rfl | assumption) ?_
      exact ⟨rfl, Or.inl ⟨rfl, hq.1, hq.2, hw.1, hw.2⟩⟩
    · refine g_ifeq 24 20 rfl dX12_areYears_17 (by decide) (fun _ => ?_) (fun h => absurd rfl h)
      refine g_iconst 25 rfl (v := 0) dX12_areYears_24 (by decide) ?_
      refine g_zret rfl dX12_areYears_25 (by first | exact Or.inl rfl | exact Or.inr rfl | assumption) ?_
      exact ⟨rfl, Or.inr ⟨rfl, fun z => hw ⟨z.2.2.1, z.2.2.2⟩⟩⟩
  · refine g_ifeq 24 10 rfl dX12_areYears_7 (by decide) (fun _ => ?_) (fun h => absurd rfl h)
    refine g_iconst 25 rfl (v := 0) dX12_areYears_24 (by decide) ?_
    refine g_zret rfl dX12_areYears_25 (by first | exact Or.inl rfl | exact Or.inr rfl | assumption) ?_
    exact ⟨rfl, Or.inr ⟨rfl, fun z => hq ⟨z.1, z.2.1⟩⟩⟩
theorem om_isReady {l : Launch} {N : Mm} {x : Sx} {g : Sg} (hr : MR g N) : Ok GM l mX12_isReady [.ref 0] (pM N x) (qB (pM N x) (isT g)) := by
  have hs := hr.sp
  have hc := hr.cp
  refine ok_of (by decide +kernel) rfl rfl ?_
  refine g_aload0 1 rfl dX12_isReady_0 ?_
  refine g_getI 4 rfl fX12_131 (by first | rfl | exact st_o hb | exact st_1 hb | exact st_2 hb | exact st_3 hb | exact st_4 hb | exact st_5 hb | exact st_o hb2 | exact st_1 hb2 | exact st_2 hb2 | exact st_3 hb2 | exact st_4 hb2 | exact st_5 hb2) rfl dX12_isReady_1 ?_
  try simp only [pM_0]
  refine g_ifle 18 7 rfl dX12_isReady_4 (by decide) (fun h4 => ?_) (fun h4 => ?_)
  · refine g_iconst 19 rfl (v := 0) dX12_isReady_18 (by decide) ?_
    refine g_zret rfl dX12_isReady_19 (by first | exact Or.inl rfl | exact Or.inr rfl | assumption) ?_
    refine ⟨rfl, ?_⟩
    first | exact Or.inl ⟨rfl, Classical.byContradiction (fun z => h4 (hs.mpr z)), Classical.byContradiction (fun z => h11 (hc.mpr z))⟩ | exact Or.inr ⟨rfl, fun q => hs.mp h4 q.1⟩ | exact Or.inr ⟨rfl, fun q => hc.mp h11 q.2⟩
  · refine g_aload0 8 rfl dX12_isReady_7 ?_
    refine g_getI 11 rfl fX12_134 (by first | rfl | exact st_o hb | exact st_1 hb | exact st_2 hb | exact st_3 hb | exact st_4 hb | exact st_5 hb | exact st_o hb2 | exact st_1 hb2 | exact st_2 hb2 | exact st_3 hb2 | exact st_4 hb2 | exact st_5 hb2) rfl dX12_isReady_8 ?_
    try simp only [pM_0]
    refine g_ifle 18 14 rfl dX12_isReady_11 (by decide) (fun h11 => ?_) (fun h11 => ?_)
    · refine g_iconst 19 rfl (v := 0) dX12_isReady_18 (by decide) ?_
      refine g_zret rfl dX12_isReady_19 (by first | exact Or.inl rfl | exact Or.inr rfl | assumption) ?_
      refine ⟨rfl, ?_⟩
      first | exact Or.inl ⟨rfl, Classical.byContradiction (fun z => h4 (hs.mpr z)), Classical.byContradiction (fun z => h11 (hc.mpr z))⟩ | exact Or.inr ⟨rfl, fun q => hs.mp h4 q.1⟩ | exact Or.inr ⟨rfl, fun q => hc.mp h11 q.2⟩
    · refine g_iconst 15 rfl (v := 1) dX12_isReady_14 (by decide) ?_
      refine g_goto 19 dX12_isReady_15 (by decide) ?_
      refine g_zret rfl dX12_isReady_19 (by first | exact Or.inl rfl | exact Or.inr rfl | assumption) ?_
      refine ⟨rfl, ?_⟩
      first | exact Or.inl ⟨rfl, Classical.byContradiction (fun z => h4 (hs.mpr z)), Classical.byContradiction (fun z => h11 (hc.mpr z))⟩ | exact Or.inr ⟨rfl, fun q => hs.mp h4 q.1⟩ | exact Or.inr ⟨rfl, fun q => hc.mp h11 q.2⟩
theorem om_isStn {l : Launch} {N : Mm} {x : Sx} {g : Sg} {a : Int32} (hx : sxE (gN g) x (gX g)) (hr : MR g N) : Ok GM l mX12_isStone [.ref 0, .int a] (pM N x) (qB (pM N x) (isSn g a)) := by
  have h30 := hr.m.le
  have e : isSn g a ↔ (vp_in a (gR g * gW g) ∧ ¬ (pM N x).1 1 (ce a) = -1) := by
    unfold isSn
    rw [pM_1]
    constructor
    · intro ⟨h1, h2⟩
      obtain ⟨c, hc, rfl⟩ := vp_in_of h1 (Nat.lt_of_le_of_lt h30 (by decide))
      refine ⟨h1, ?_⟩
      rw [ce_nI (by unfold gN at hc; omega)] at h2 ⊢
      rw [hx.K hc]
      exact h2
    · intro ⟨h1, h2⟩
      obtain ⟨c, hc, rfl⟩ := vp_in_of h1 (Nat.lt_of_le_of_lt h30 (by decide))
      refine ⟨h1, ?_⟩
      rw [ce_nI (by omega)] at h2 ⊢
      rw [hx.K hc] at h2
      exact h2
  have := om_isStone (l := l) (a := a) (pM_mod (x := x) hr.m)
  unfold qB at this ⊢
  rw [e]
  exact this
theorem om_cartNow {l : Launch} {N : Mm} {x : Sx} {g : Sg} {c : Nat} {q : Int32} (hr : MR g N) (hc : c < (gK g).1) : Oi GM l mX12_cartNow [.ref 0, .int (nI c), .int q] (pM N x) (if q = 0 then nI ((gK g).2.1 c) else (gK g).2.2 c) (pM N x) := by
  have h6 := hr.k.1
  obtain ⟨e1, e2, -⟩ := hr.k.2.2 c hc
  refine ok_of (by decide +kernel) rfl rfl ?_
  refine g_iload2 1 rfl dX12_cartNow_0 ?_
  refine g_ifne 13 4 rfl dX12_cartNow_1 (by decide) (fun h1 => ?_) (fun h1 => ?_)
  · refine g_aload0 14 rfl dX12_cartNow_13 ?_
    refine g_getR 17 rfl fX12_32 (by first | rfl | exact st_o hb | exact st_1 hb | exact st_2 hb | exact st_3 hb | exact st_4 hb | exact st_5 hb | exact st_o hb2 | exact st_1 hb2 | exact st_2 hb2 | exact st_3 hb2 | exact st_4 hb2 | exact st_5 hb2) rfl dX12_cartNow_14 ?_
    refine g_iload1 18 rfl dX12_cartNow_17 ?_
    refine g_iald 19 rfl dX12_cartNow_18 (by first | rfl | exact st_o hb | exact st_1 hb | exact st_2 hb | exact st_3 hb | exact st_4 hb | exact st_5 hb | exact st_o hb2 | exact st_1 hb2 | exact st_2 hb2 | exact st_3 hb2 | exact st_4 hb2 | exact st_5 hb2) rfl rfl (by first | assumption | omega) ?_
    try simp only [pM_0, pM_h6, pM_h7]
    refine g_iret rfl dX12_cartNow_19 ?_
    refine ⟨?_, rfl⟩
    first | rw [if_neg h1, e2] | rw [if_pos h1, e1]
  · refine g_aload0 5 rfl dX12_cartNow_4 ?_
    refine g_getR 8 rfl fX12_29 (by first | rfl | exact st_o hb | exact st_1 hb | exact st_2 hb | exact st_3 hb | exact st_4 hb | exact st_5 hb | exact st_o hb2 | exact st_1 hb2 | exact st_2 hb2 | exact st_3 hb2 | exact st_4 hb2 | exact st_5 hb2) rfl dX12_cartNow_5 ?_
    refine g_iload1 9 rfl dX12_cartNow_8 ?_
    refine g_iald 10 rfl dX12_cartNow_9 (by first | rfl | exact st_o hb | exact st_1 hb | exact st_2 hb | exact st_3 hb | exact st_4 hb | exact st_5 hb | exact st_o hb2 | exact st_1 hb2 | exact st_2 hb2 | exact st_3 hb2 | exact st_4 hb2 | exact st_5 hb2) rfl rfl (by first | assumption | omega) ?_
    try simp only [pM_0, pM_h6, pM_h7]
    refine g_goto 19 dX12_cartNow_10 (by decide) ?_
    refine g_iret rfl dX12_cartNow_19 ?_
    refine ⟨?_, rfl⟩
    first | rw [if_neg h1, e2] | rw [if_pos h1, e1]
theorem om_canMend {l : Launch} {N : Mm} {x : Sx} {c : Nat} (hc : c < 30) : Oi GM l mX12_canMend [.ref 0, .int (nI c)] (pM N x) (canS x c) (pM N x) := by
  refine ok_of (by decide +kernel) rfl rfl ?_
  refine g_aload0 1 rfl dX12_canMend_0 ?_
  refine g_getR 4 rfl fX12_7 (by first | rfl | exact st_o hb | exact st_1 hb | exact st_2 hb | exact st_3 hb | exact st_4 hb | exact st_5 hb | exact st_o hb2 | exact st_1 hb2 | exact st_2 hb2 | exact st_3 hb2 | exact st_4 hb2 | exact st_5 hb2) rfl dX12_canMend_1 ?_
  refine g_iload1 5 rfl dX12_canMend_4 ?_
  refine g_iald 6 rfl dX12_canMend_5 (by first | rfl | exact st_o hb | exact st_1 hb | exact st_2 hb | exact st_3 hb | exact st_4 hb | exact st_5 hb | exact st_o hb2 | exact st_1 hb2 | exact st_2 hb2 | exact st_3 hb2 | exact st_4 hb2 | exact st_5 hb2) rfl rfl (by first | assumption | omega) ?_
  try simp only [pM_1, pM_2, pM_3, pM_4, pM_5, pM_w1, pM_w2, pM_w3, pM_w4, pM_w5]
  refine g_iconst 7 rfl (v := (-1)) dX12_canMend_6 (by decide) ?_
  refine g_cmpeq 30 10 rfl dX12_canMend_7 (by decide) (fun h7 => ?_) (fun h7 => ?_)
  · refine g_iconst 31 rfl (v := 1) dX12_canMend_30 (by decide) ?_
    refine g_goto 35 dX12_canMend_31 (by decide) ?_
    refine g_zret rfl dX12_canMend_35 (by first | exact Or.inl rfl | exact Or.inr rfl | assumption) ?_
    refine ⟨?_, rfl⟩
    unfold canS
    first | rw [zB_t (Or.inl h7)] | rw [zB_t (Or.inr (Or.inl h17))] | rw [zB_t (Or.inr (Or.inr h27))] | rw [zB_f (fun z => z.elim h7 (fun z => z.elim h17 h27))]
  · refine g_aload0 11 rfl dX12_canMend_10 ?_
    refine g_getR 14 rfl fX12_7 (by first | rfl | exact st_o hb | exact st_1 hb | exact st_2 hb | exact st_3 hb | exact st_4 hb | exact st_5 hb | exact st_o hb2 | exact st_1 hb2 | exact st_2 hb2 | exact st_3 hb2 | exact st_4 hb2 | exact st_5 hb2) rfl dX12_canMend_11 ?_
    refine g_iload1 15 rfl dX12_canMend_14 ?_
    refine g_iald 16 rfl dX12_canMend_15 (by first | rfl | exact st_o hb | exact st_1 hb | exact st_2 hb | exact st_3 hb | exact st_4 hb | exact st_5 hb | exact st_o hb2 | exact st_1 hb2 | exact st_2 hb2 | exact st_3 hb2 | exact st_4 hb2 | exact st_5 hb2) rfl rfl (by first | assumption | omega) ?_
    try simp only [pM_1, pM_2, pM_3, pM_4, pM_5, pM_w1, pM_w2, pM_w3, pM_w4, pM_w5]
    refine g_iconst 17 rfl (v := 2) dX12_canMend_16 (by decide) ?_
    refine g_cmpeq 30 20 rfl dX12_canMend_17 (by decide) (fun h17 => ?_) (fun h17 => ?_)
    · refine g_iconst 31 rfl (v := 1) dX12_canMend_30 (by decide) ?_
      refine g_goto 35 dX12_canMend_31 (by decide) ?_
      refine g_zret rfl dX12_canMend_35 (by first | exact Or.inl rfl | exact Or.inr rfl | assumption) ?_
      refine ⟨?_, rfl⟩
      unfold canS
      first | rw [zB_t (Or.inl h7)] | rw [zB_t (Or.inr (Or.inl h17))] | rw [zB_t (Or.inr (Or.inr h27))] | rw [zB_f (fun z => z.elim h7 (fun z => z.elim h17 h27))]
    · refine g_aload0 21 rfl dX12_canMend_20 ?_
      refine g_getR 24 rfl fX12_7 (by first | rfl | exact st_o hb | exact st_1 hb | exact st_2 hb | exact st_3 hb | exact st_4 hb | exact st_5 hb | exact st_o hb2 | exact st_1 hb2 | exact st_2 hb2 | exact st_3 hb2 | exact st_4 hb2 | exact st_5 hb2) rfl dX12_canMend_21 ?_
      refine g_iload1 25 rfl dX12_canMend_24 ?_
      refine g_iald 26 rfl dX12_canMend_25 (by first | rfl | exact st_o hb | exact st_1 hb | exact st_2 hb | exact st_3 hb | exact st_4 hb | exact st_5 hb | exact st_o hb2 | exact st_1 hb2 | exact st_2 hb2 | exact st_3 hb2 | exact st_4 hb2 | exact st_5 hb2) rfl rfl (by first | assumption | omega) ?_
      try simp only [pM_1, pM_2, pM_3, pM_4, pM_5, pM_w1, pM_w2, pM_w3, pM_w4, pM_w5]
      refine g_iconst 27 rfl (v := 3) dX12_canMend_26 (by decide) ?_
      refine g_cmpne 34 30 rfl dX12_canMend_27 (by decide) (fun h27 => ?_) (fun h27 => ?_)
      · refine g_iconst 35 rfl (v := 0) dX12_canMend_34 (by decide) ?_
        refine g_zret rfl dX12_canMend_35 (by first | exact Or.inl rfl | exact Or.inr rfl | assumption) ?_
        refine ⟨?_, rfl⟩
        unfold canS
        first | rw [zB_t (Or.inl h7)] | rw [zB_t (Or.inr (Or.inl h17))] | rw [zB_t (Or.inr (Or.inr h27))] | rw [zB_f (fun z => z.elim h7 (fun z => z.elim h17 h27))]
      · refine g_iconst 31 rfl (v := 1) dX12_canMend_30 (by decide) ?_
        refine g_goto 35 dX12_canMend_31 (by decide) ?_
        refine g_zret rfl dX12_canMend_35 (by first | exact Or.inl rfl | exact Or.inr rfl | assumption) ?_
        refine ⟨?_, rfl⟩
        unfold canS
        first | rw [zB_t (Or.inl h7)] | rw [zB_t (Or.inr (Or.inl h17))] | rw [zB_t (Or.inr (Or.inr h27))] | rw [zB_f (fun z => z.elim h7 (fun z => z.elim h17 h27))]
theorem om_goMend {l : Launch} {N : Mm} {x : Sx} {c : Nat} {z : Int32} (hc : c < 30) : Ov GM l mX12_goMend [.ref 0, .int (nI c), .int z] (pM N x) (pM N (repS c z x)) := by
  refine ok_of (by decide +kernel) rfl rfl ?_
  refine g_aload0 1 rfl dX12_goMend_0 ?_
  refine g_getR 4 rfl fX12_7 (by first | rfl | exact st_o hb | exact st_1 hb | exact st_2 hb | exact st_3 hb | exact st_4 hb | exact st_5 hb | exact st_o hb2 | exact st_1 hb2 | exact st_2 hb2 | exact st_3 hb2 | exact st_4 hb2 | exact st_5 hb2) rfl dX12_goMend_1 ?_
  refine g_iload1 5 rfl dX12_goMend_4 ?_
  refine g_iald 6 rfl dX12_goMend_5 (by first | rfl | exact st_o hb | exact st_1 hb | exact st_2 hb | exact st_3 hb | exact st_4 hb | exact st_5 hb | exact st_o hb2 | exact st_1 hb2 | exact st_2 hb2 | exact st_3 hb2 | exact st_4 hb2 | exact st_5 hb2) rfl rfl (by first | assumption | omega) ?_
  try simp only [pM_1, pM_2, pM_3, pM_4, pM_5, pM_w1, pM_w2, pM_w3, pM_w4, pM_w5]
  refine g_iconst 7 rfl (v := (-1)) dX12_goMend_6 (by decide) ?_
  refine g_cmpne 27 10 rfl dX12_goMend_7 (by decide) (fun h7 => ?_) (fun h7 => ?_)
  · refine g_aload0 28 rfl dX12_goMend_27 ?_
    refine g_getR 31 rfl fX12_7 (by first | rfl | exact st_o hb | exact st_1 hb | exact st_2 hb | exact st_3 hb | exact st_4 hb | exact st_5 hb | exact st_o hb2 | exact st_1 hb2 | exact st_2 hb2 | exact st_3 hb2 | exact st_4 hb2 | exact st_5 hb2) rfl dX12_goMend_28 ?_
    refine g_iload1 32 rfl dX12_goMend_31 ?_
    refine g_iconst 33 rfl (v := 0) dX12_goMend_32 (by decide) ?_
    refine g_iast 34 rfl dX12_goMend_33 (by first | rfl | exact st_o hb | exact st_1 hb | exact st_2 hb | exact st_3 hb | exact st_4 hb | exact st_5 hb | exact st_o hb2 | exact st_1 hb2 | exact st_2 hb2 | exact st_3 hb2 | exact st_4 hb2 | exact st_5 hb2) rfl rfl (by first | assumption | omega) ?_
    try simp only [pM_1, pM_2, pM_3, pM_4, pM_5, pM_w1, pM_w2, pM_w3, pM_w4, pM_w5]
    refine g_aload0 35 rfl dX12_goMend_34 ?_
    refine g_getR 38 rfl fX12_16 (by first | rfl | exact st_o hb | exact st_1 hb | exact st_2 hb | exact st_3 hb | exact st_4 hb | exact st_5 hb | exact st_o hb2 | exact st_1 hb2 | exact st_2 hb2 | exact st_3 hb2 | exact st_4 hb2 | exact st_5 hb2) rfl dX12_goMend_35 ?_
    refine g_iload1 39 rfl dX12_goMend_38 ?_
    refine g_iconst 40 rfl (v := 0) dX12_goMend_39 (by decide) ?_
    refine g_iast 41 rfl dX12_goMend_40 (by first | rfl | exact st_o hb | exact st_1 hb | exact st_2 hb | exact st_3 hb | exact st_4 hb | exact st_5 hb | exact st_o hb2 | exact st_1 hb2 | exact st_2 hb2 | exact st_3 hb2 | exact st_4 hb2 | exact st_5 hb2) rfl rfl (by first | assumption | omega) ?_
    try simp only [pM_1, pM_2, pM_3, pM_4, pM_5, pM_w1, pM_w2, pM_w3, pM_w4, pM_w5]
    refine g_aload0 42 rfl dX12_goMend_41 ?_
    refine g_getR 45 rfl fX12_19 (by first | rfl | exact st_o hb | exact st_1 hb | exact st_2 hb | exact st_3 hb | exact st_4 hb | exact st_5 hb | exact st_o hb2 | exact st_1 hb2 | exact st_2 hb2 | exact st_3 hb2 | exact st_4 hb2 | exact st_5 hb2) rfl dX12_goMend_42 ?_
    refine g_iload1 46 rfl dX12_goMend_45 ?_
    refine g_iconst 47 rfl (v := 0) dX12_goMend_46 (by decide) ?_
    refine g_iast 48 rfl dX12_goMend_47 (by first | rfl | exact st_o hb | exact st_1 hb | exact st_2 hb | exact st_3 hb | exact st_4 hb | exact st_5 hb | exact st_o hb2 | exact st_1 hb2 | exact st_2 hb2 | exact st_3 hb2 | exact st_4 hb2 | exact st_5 hb2) rfl rfl (by first | assumption | omega) ?_
    try simp only [pM_1, pM_2, pM_3, pM_4, pM_5, pM_w1, pM_w2, pM_w3, pM_w4, pM_w5]
    refine g_vret rfl dX12_goMend_48 ?_
    refine ⟨rfl, ?_⟩
    unfold repS
    first | (rw [if_pos h7]; rfl) | (rw [if_neg h7]; rfl)
  · refine g_aload0 11 rfl dX12_goMend_10 ?_
    refine g_getR 14 rfl fX12_7 (by first | rfl | exact st_o hb | exact st_1 hb | exact st_2 hb | exact st_3 hb | exact st_4 hb | exact st_5 hb | exact st_o hb2 | exact st_1 hb2 | exact st_2 hb2 | exact st_3 hb2 | exact st_4 hb2 | exact st_5 hb2) rfl dX12_goMend_11 ?_
    refine g_iload1 15 rfl dX12_goMend_14 ?_
    refine g_iconst 16 rfl (v := 1) dX12_goMend_15 (by decide) ?_
    refine g_iast 17 rfl dX12_goMend_16 (by first | rfl | exact st_o hb | exact st_1 hb | exact st_2 hb | exact st_3 hb | exact st_4 hb | exact st_5 hb | exact st_o hb2 | exact st_1 hb2 | exact st_2 hb2 | exact st_3 hb2 | exact st_4 hb2 | exact st_5 hb2) rfl rfl (by first | assumption | omega) ?_
    try simp only [pM_1, pM_2, pM_3, pM_4, pM_5, pM_w1, pM_w2, pM_w3, pM_w4, pM_w5]
    refine g_aload0 18 rfl dX12_goMend_17 ?_
    refine g_getR 21 rfl fX12_13 (by first | rfl | exact st_o hb | exact st_1 hb | exact st_2 hb | exact st_3 hb | exact st_4 hb | exact st_5 hb | exact st_o hb2 | exact st_1 hb2 | exact st_2 hb2 | exact st_3 hb2 | exact st_4 hb2 | exact st_5 hb2) rfl dX12_goMend_18 ?_
    refine g_iload1 22 rfl dX12_goMend_21 ?_
    refine g_iload2 23 rfl dX12_goMend_22 ?_
    refine g_iast 24 rfl dX12_goMend_23 (by first | rfl | exact st_o hb | exact st_1 hb | exact st_2 hb | exact st_3 hb | exact st_4 hb | exact st_5 hb | exact st_o hb2 | exact st_1 hb2 | exact st_2 hb2 | exact st_3 hb2 | exact st_4 hb2 | exact st_5 hb2) rfl rfl (by first | assumption | omega) ?_
    try simp only [pM_1, pM_2, pM_3, pM_4, pM_5, pM_w1, pM_w2, pM_w3, pM_w4, pM_w5]
    refine g_goto 34 dX12_goMend_24 (by decide) ?_
    refine g_aload0 35 rfl dX12_goMend_34 ?_
    refine g_getR 38 rfl fX12_16 (by first | rfl | exact st_o hb | exact st_1 hb | exact st_2 hb | exact st_3 hb | exact st_4 hb | exact st_5 hb | exact st_o hb2 | exact st_1 hb2 | exact st_2 hb2 | exact st_3 hb2 | exact st_4 hb2 | exact st_5 hb2) rfl dX12_goMend_35 ?_
    refine g_iload1 39 rfl dX12_goMend_38 ?_
    refine g_iconst 40 rfl (v := 0) dX12_goMend_39 (by decide) ?_
    refine g_iast 41 rfl dX12_goMend_40 (by first | rfl | exact st_o hb | exact st_1 hb | exact st_2 hb | exact st_3 hb | exact st_4 hb | exact st_5 hb | exact st_o hb2 | exact st_1 hb2 | exact st_2 hb2 | exact st_3 hb2 | exact st_4 hb2 | exact st_5 hb2) rfl rfl (by first | assumption | omega) ?_
    try simp only [pM_1, pM_2, pM_3, pM_4, pM_5, pM_w1, pM_w2, pM_w3, pM_w4, pM_w5]
    refine g_aload0 42 rfl dX12_goMend_41 ?_
    refine g_getR 45 rfl fX12_19 (by first | rfl | exact st_o hb | exact st_1 hb | exact st_2 hb | exact st_3 hb | exact st_4 hb | exact st_5 hb | exact st_o hb2 | exact st_1 hb2 | exact st_2 hb2 | exact st_3 hb2 | exact st_4 hb2 | exact st_5 hb2) rfl dX12_goMend_42 ?_
    refine g_iload1 46 rfl dX12_goMend_45 ?_
    refine g_iconst 47 rfl (v := 0) dX12_goMend_46 (by decide) ?_
    refine g_iast 48 rfl dX12_goMend_47 (by first | rfl | exact st_o hb | exact st_1 hb | exact st_2 hb | exact st_3 hb | exact st_4 hb | exact st_5 hb | exact st_o hb2 | exact st_1 hb2 | exact st_2 hb2 | exact st_3 hb2 | exact st_4 hb2 | exact st_5 hb2) rfl rfl (by first | assumption | omega) ?_
    try simp only [pM_1, pM_2, pM_3, pM_4, pM_5, pM_w1, pM_w2, pM_w3, pM_w4, pM_w5]
    refine g_vret rfl dX12_goMend_48 ?_
    refine ⟨rfl, ?_⟩
    unfold repS
    first | (rw [if_pos h7]; rfl) | (rw [if_neg h7]; rfl)
