/-! the class's first() -/
def updN (f : Nat → Nat) (i v : Nat) : Nat → Nat := fun j => if j = i then v else f j
/-- the first eight cells that can be mended -/
noncomputable def menN (x : Sx) : Nat → Nat × (Nat → Nat)
  | 0 => (0, fun _ => 0)
  | c + 1 => ifC ((menN x c).1 < 8 ∧ ¬ canS x c = 0) ((menN x c).1 + 1, updN (menN x c).2 (menN x c).1 c) (menN x c)
theorem menN_b {x : Sx} : ∀ c, (menN x c).1 ≤ 8 ∧ ∀ i, i < (menN x c).1 → (menN x c).2 i < c
  | 0 => ⟨by show 0 ≤ 8; omega, fun i hi => absurd hi (by show ¬ i < 0; omega)⟩
  | c + 1 => by
    have ih := menN_b (x := x) c
    rw [menN]
    by_cases h : (menN x c).1 < 8 ∧ ¬ canS x c = 0
    · rw [ifC_t h]
      refine ⟨by show (menN x c).1 + 1 ≤ 8; omega, fun i hi => ?_⟩
      show updN (menN x c).2 (menN x c).1 c i < c + 1
      unfold updN
      split
      · omega
      · have := ih.2 i (by have : i < (menN x c).1 + 1 := hi; omega)
        omega
    · rw [ifC_f h]
      exact ⟨ih.1, fun i hi => Nat.lt_succ_of_lt (ih.2 i hi)⟩
theorem menN_full {x : Sx} {c : Nat} (h : 8 ≤ (menN x c).1) : ∀ d, menN x (c + d) = menN x c
  | 0 => rfl
  | d + 1 => by rw [← Nat.add_assoc, menN, menN_full h d, ifC_f (fun z => by omega)]
theorem menN_E {n : Nat} {x y : Sx} (h : sxE n x y) : ∀ c, c ≤ n → menN x c = menN y c
  | 0, _ => rfl
  | c + 1, hc => by rw [menN, menN, menN_E h c (by omega), canS_E h (show c < n by omega)]
def FM (M : Mm) (p : Nat × (Nat → Nat)) : Prop := ∀ i, i < p.1 → M.1 45 i = nI (p.2 i)
theorem ok_find {l : Launch} {M : Mm} {R W : Nat} (hp : Plan M R W) : Ok GC l mX11_findMendable [.ref 0] M (fun r M' => r = some (.inl (nI (menN (vC M 15) (R * W)).1)) ∧ ∃ f, M' = setA M 45 f ∧ FM M' (menN (vC M 15) (R * W))) := by
  have hb : isSt 15 := Or.inl rfl
  have h30 := hp.1.le
  have hN : ∀ f, (setA M 45 f).1 12 4 = nI (R * W) := fun f => by rw [sA_n (by decide)]; exact hp.2.2.2.1
  have ht : ∀ f c, c < R * W → Oi GC l mX7_canBeMended [.ref 15, .int (nI c)] (setA M 45 f) (canS (vC M 15) c) (setA M 45 f) := by
    intro f c hc
    have h := ok_X7_canBeMended (l := l) (M := setA M 45 f) (x := vC (setA M 45 f) 15) hb (pl_set hp (by decide)) hc
    rw [pC_vC, vC_sA (by omega)] at h
    exact h
  refine ok_of (by decide +kernel) rfl rfl ?_
  refine g_mem (setA M 45 (M.1 45)) sA_id.symm ?_
  refine g_iconst 1 rfl (v := 0) dX11_findMendable_0 (by decide) ?_
  refine g_istore1 2 rfl dX11_findMendable_1 rfl rfl ?_
  refine g_iconst 3 rfl (v := 0) dX11_findMendable_2 (by decide) ?_
  refine g_istore2 4 rfl dX11_findMendable_3 rfl rfl ?_
  refine loop_up (P := fun c => ∀ f, (∀ i, i < (menN (vC M 15) c).1 → f i = nI ((menN (vC M 15) c).2 i)) → Go GC l mX11_findMendable 4 [.ref 0, .int (nI (menN (vC M 15) c).1), .int (nI c)] [] (setA M 45 f) (fun r M' => r = some (.inl (nI (menN (vC M 15) (R * W)).1)) ∧ ∃ f, M' = setA M 45 f ∧ FM M' (menN (vC M 15) (R * W)))) (R * W) ?_ ?_ 0 (by omega) (M.1 45) (fun i hi => absurd hi (by show ¬ i < 0; omega))
  · intro f hf
    refine g_iload2 5 rfl dX11_findMendable_4 ?_
    refine g_aload0 6 rfl dX11_findMendable_5 ?_
    refine g_getR 9 rfl fX11_36 (by first | rfl | exact st_o hb | exact st_1 hb | exact st_2 hb | exact st_3 hb | exact st_4 hb | exact st_5 hb | exact st_o hb2 | exact st_1 hb2 | exact st_2 hb2 | exact st_3 hb2 | exact st_4 hb2 | exact st_5 hb2) rfl dX11_findMendable_6 ?_
    refine g_getI 12 rfl fX11_144 (by first | rfl | exact st_o hb | exact st_1 hb | exact st_2 hb | exact st_3 hb | exact st_4 hb | exact st_5 hb | exact st_o hb2 | exact st_1 hb2 | exact st_2 hb2 | exact st_3 hb2 | exact st_4 hb2 | exact st_5 hb2) rfl dX11_findMendable_9 ?_
    try simp only [hN]
    refine g_cmpge 48 15 rfl dX11_findMendable_12 (by decide) (fun h12 => ?_) (fun h => absurd (Int32.le_refl _) h)
    refine g_iload1 49 rfl dX11_findMendable_48 ?_
    refine g_iret rfl dX11_findMendable_49 ?_
    exact ⟨rfl, f, rfl, fun i hi => by rw [sA_s]; exact hf i hi⟩
  · intro c hc ih f hf
    have hmb := menN_b (x := vC M 15) c
    refine g_iload2 5 rfl dX11_findMendable_4 ?_
    refine g_aload0 6 rfl dX11_findMendable_5 ?_
    refine g_getR 9 rfl fX11_36 (by first | rfl | exact st_o hb | exact st_1 hb | exact st_2 hb | exact st_3 hb | exact st_4 hb | exact st_5 hb | exact st_o hb2 | exact st_1 hb2 | exact st_2 hb2 | exact st_3 hb2 | exact st_4 hb2 | exact st_5 hb2) rfl dX11_findMendable_6 ?_
    refine g_getI 12 rfl fX11_144 (by first | rfl | exact st_o hb | exact st_1 hb | exact st_2 hb | exact st_3 hb | exact st_4 hb | exact st_5 hb | exact st_o hb2 | exact st_1 hb2 | exact st_2 hb2 | exact st_3 hb2 | exact st_4 hb2 | exact st_5 hb2) rfl dX11_findMendable_9 ?_
    try simp only [hN]
    refine g_cmpge 48 15 rfl dX11_findMendable_12 (by decide) (fun h => absurd h (nI_ge hc (by omega))) (fun _ => ?_)
    refine g_iload1 16 rfl dX11_findMendable_15 ?_
    refine g_bipush 18 rfl (v := 8) dX11_findMendable_16 (by decide) ?_
    refine g_cmpge 48 21 rfl dX11_findMendable_18 (by decide) (fun h18 => ?_) (fun h18 => ?_)
    · have h8 : 8 ≤ (menN (vC M 15) c).1 := (nI_leI (a := 8) (by decide) (by omega)).mp h18
      have e := menN_full h8 (R * W - c)
      rw [show c + (R * W - c) = R * W by omega] at e
      rw [e]
      refine g_iload1 49 rfl dX11_findMendable_48 ?_
      refine g_iret rfl dX11_findMendable_49 ?_
      exact ⟨rfl, f, rfl, fun i hi => by rw [sA_s]; exact hf i hi⟩
    · have h8 : (menN (vC M 15) c).1 < 8 := Nat.lt_of_not_le (fun z => h18 (nI_le (a := 8) z (by omega)))
      refine g_aload0 22 rfl dX11_findMendable_21 ?_
      refine g_getR 25 rfl fX11_45 (by first | rfl | exact st_o hb | exact st_1 hb | exact st_2 hb | exact st_3 hb | exact st_4 hb | exact st_5 hb | exact st_o hb2 | exact st_1 hb2 | exact st_2 hb2 | exact st_3 hb2 | exact st_4 hb2 | exact st_5 hb2) rfl dX11_findMendable_22 ?_
      refine g_iload2 26 rfl dX11_findMendable_25 ?_
      refine g_callVi 29 1 rfl kX11_257 (by first | rfl | exact st_o hb | exact st_1 hb | exact st_2 hb | exact st_3 hb | exact st_4 hb | exact st_5 hb | exact st_o hb2 | exact st_1 hb2 | exact st_2 hb2 | exact st_3 hb2 | exact st_4 hb2 | exact st_5 hb2) dX11_findMendable_26 ⟨rfl, rfl⟩ (ht f c hc) rfl rfl rfl ?_
      refine g_ifeq 42 32 rfl dX11_findMendable_29 (by decide) (fun h29 => ?_) (fun h29 => ?_)
      · have e : menN (vC M 15) (c + 1) = menN (vC M 15) c := by rw [menN, ifC_f (fun z => z.2 h29)]
        rw [e] at ih
        refine g_iinc2 45 rfl dX11_findMendable_42 rfl rfl _ (by first | exact iinc1 _ | exact iincx _ | rfl) ?_
        refine g_goto 4 dX11_findMendable_45 (by decide) ?_
        exact ih f hf
      · have e : menN (vC M 15) (c + 1) = ((menN (vC M 15) c).1 + 1, updN (menN (vC M 15) c).2 (menN (vC M 15) c).1 c) := by rw [menN, ifC_t ⟨h8, h29⟩]
        rw [e] at ih
        refine g_aload0 33 rfl dX11_findMendable_32 ?_
        refine g_getR 36 rfl fX11_92 (by first | rfl | exact st_o hb | exact st_1 hb | exact st_2 hb | exact st_3 hb | exact st_4 hb | exact st_5 hb | exact st_o hb2 | exact st_1 hb2 | exact st_2 hb2 | exact st_3 hb2 | exact st_4 hb2 | exact st_5 hb2) rfl dX11_findMendable_33 ?_
        refine g_iload1 37 rfl dX11_findMendable_36 ?_
        refine g_iload2 38 rfl dX11_findMendable_37 ?_
        refine g_iast 39 rfl dX11_findMendable_38 (by first | rfl | exact st_o hb | exact st_1 hb | exact st_2 hb | exact st_3 hb | exact st_4 hb | exact st_5 hb | exact st_o hb2 | exact st_1 hb2 | exact st_2 hb2 | exact st_3 hb2 | exact st_4 hb2 | exact st_5 hb2) rfl rfl (by first | assumption | omega) ?_
        try simp only [hN]
        refine g_iinc1 42 rfl dX11_findMendable_39 rfl rfl _ (by first | exact iinc1 _ | exact iincx _ | rfl) ?_
        refine g_iinc2 45 rfl dX11_findMendable_42 rfl rfl _ (by first | exact iinc1 _ | exact iincx _ | rfl) ?_
        refine g_goto 4 dX11_findMendable_45 (by decide) ?_
        rw [sA_sA, sA_s]
        refine ih _ (fun i hi => ?_)
        have hi : i < (menN (vC M 15) c).1 + 1 := hi
        show upd f (menN (vC M 15) c).1 (nI c) i = nI (updN (menN (vC M 15) c).2 (menN (vC M 15) c).1 c i)
        unfold updN
        by_cases e2 : i = (menN (vC M 15) c).1
        · rw [if_pos e2, e2, upd_at]
        · rw [if_neg e2, pk_un e2]; exact hf i (by omega)
def rpB (b : Nat) (a : Nat → Nat) (i : Nat) (x : Sx) : Sx := if b / 2 ^ i % 2 = 1 then repS (a i) 5 x else x
theorem rpN_E {n b m : Nat} {a : Nat → Nat} {x y : Sx} (h : sxE n x y) (ha : ∀ i, i < m → a i < n) : sxE n (itN (rpB b a) m x) (itN (rpB b a) m y) := by
  refine itN_rel (r := sxE n) (fun i hi p q hpq => ?_) h
  unfold rpB
  split
  · exact repS_E hpq (ha i hi)
  · exact hpq
/-- what is lost with a set mended -/
noncomputable def lwS (g : Sg) (y f : Int32) (p : Nat × (Nat → Nat)) (b : Nat) : Int32 := (yrsS (gR g) (gW g) (gK g) f (ce y) (itN (rpB b p.2) p.1 (gX g))).2
set_option maxRecDepth 100000 in
theorem bit_i : ∀ b, b < 256 → ∀ i, i < 8 → (nI b >>> (nI i &&& 31)) &&& 1 = nI (b / 2 ^ i % 2) := by decide +kernel
theorem ok_lost {l : Launch} {M : Mm} {g : Sg} {y f : Int32} {p : Nat × (Nat → Nat)} {b : Nat} (h : CS g M) (hF : FM M p) (hp8 : p.1 ≤ 8) (hpn : ∀ i, i < p.1 → p.2 i < gR g * gW g) (hb256 : b < 256) (hy : okY y f) : Ok GC l mX11_lostWith [.ref 0, .int (nI b), .int (nI p.1), .int y, .int f] M (fun r M' => r = some (.inl (lwS g y f p b)) ∧ CS g M' ∧ FM M' p) := by
  have hb : isSt 15 := Or.inl rfl
  have hb2 : isSt 21 := Or.inr (Or.inl rfl)
  have h30 := h.p.1.le
  obtain ⟨k, hk, rfl⟩ := okY_nI hy
  have ht := ok_X7_copyFrom (l := l) (x := vC M 21) hb2 hb ap21 h.p
  rw [pC_vC] at ht
  have e45 : ∀ u, (pC M 21 u).1 45 = M.1 45 := fun u => pC_o (by decide)
  refine ok_of (by decide +kernel) rfl rfl ?_
  refine g_aload0 1 rfl dX11_lostWith_0 ?_
  refine g_getR 4 rfl fX11_49 (by first | rfl | exact st_o hb | exact st_1 hb | exact st_2 hb | exact st_3 hb | exact st_4 hb | exact st_5 hb | exact st_o hb2 | exact st_1 hb2 | exact st_2 hb2 | exact st_3 hb2 | exact st_4 hb2 | exact st_5 hb2) rfl dX11_lostWith_1 ?_
  refine g_aload0 5 rfl dX11_lostWith_4 ?_
  refine g_getR 8 rfl fX11_45 (by first | rfl | exact st_o hb | exact st_1 hb | exact st_2 hb | exact st_3 hb | exact st_4 hb | exact st_5 hb | exact st_o hb2 | exact st_1 hb2 | exact st_2 hb2 | exact st_3 hb2 | exact st_4 hb2 | exact st_5 hb2) rfl dX11_lostWith_5 ?_
  refine g_callV 11 1 rfl kX11_205 (by first | rfl | exact st_o hb | exact st_1 hb | exact st_2 hb | exact st_3 hb | exact st_4 hb | exact st_5 hb | exact st_o hb2 | exact st_1 hb2 | exact st_2 hb2 | exact st_3 hb2 | exact st_4 hb2 | exact st_5 hb2) dX11_lostWith_8 ⟨rfl, rfl⟩ ht rfl rfl rfl (fun r M1 hq => ?_)
  obtain ⟨rfl, v, rfl, hv⟩ := hq
  try simp only [rV, Option.toList, List.cons_append, List.nil_append]
  refine g_iconst 12 rfl (v := 0) dX11_lostWith_11 (by decide) ?_
  refine g_istore5 14 rfl dX11_lostWith_12 rfl rfl ?_
  refine loop_up (P := fun i => Go GC l mX11_lostWith 14 [.ref 0, .int (nI b), .int (nI p.1), .int (nI k), .int f, .int (nI i)] [] (pC M 21 (itN (rpB b p.2) i v)) (fun r M' => r = some (.inl (lwS g (nI k) f p b)) ∧ CS g M' ∧ FM M' p)) p.1 ?_ ?_ 0 (Nat.zero_le _)
  · refine g_iload5 16 rfl dX11_lostWith_14 ?_
    refine g_iload2 17 rfl dX11_lostWith_16 ?_
    refine g_cmpge 51 20 rfl dX11_lostWith_17 (by decide) (fun _ => ?_) (fun h => absurd (Int32.le_refl _) h)
    refine g_aload0 52 rfl dX11_lostWith_51 ?_
    refine g_getR 55 rfl fX11_81 (by first | rfl | exact st_o hb | exact st_1 hb | exact st_2 hb | exact st_3 hb | exact st_4 hb | exact st_5 hb | exact st_o hb2 | exact st_1 hb2 | exact st_2 hb2 | exact st_3 hb2 | exact st_4 hb2 | exact st_5 hb2) rfl dX11_lostWith_52 ?_
    refine g_aload0 56 rfl dX11_lostWith_55 ?_
    refine g_getR 59 rfl fX11_49 (by first | rfl | exact st_o hb | exact st_1 hb | exact st_2 hb | exact st_3 hb | exact st_4 hb | exact st_5 hb | exact st_o hb2 | exact st_1 hb2 | exact st_2 hb2 | exact st_3 hb2 | exact st_4 hb2 | exact st_5 hb2) rfl dX11_lostWith_56 ?_
    refine g_aload0 60 rfl dX11_lostWith_59 ?_
    refine g_getR 63 rfl fX11_30 (by first | rfl | exact st_o hb | exact st_1 hb | exact st_2 hb | exact st_3 hb | exact st_4 hb | exact st_5 hb | exact st_o hb2 | exact st_1 hb2 | exact st_2 hb2 | exact st_3 hb2 | exact st_4 hb2 | exact st_5 hb2) rfl dX11_lostWith_60 ?_
    refine g_iload3 64 rfl dX11_lostWith_63 ?_
    refine g_iload4 66 rfl dX11_lostWith_64 ?_
    refine g_callV 69 4 rfl kX11_250 (by first | rfl | exact st_o hb | exact st_1 hb | exact st_2 hb | exact st_3 hb | exact st_4 hb | exact st_5 hb | exact st_o hb2 | exact st_1 hb2 | exact st_2 hb2 | exact st_3 hb2 | exact st_4 hb2 | exact st_5 hb2) dX11_lostWith_66 ⟨rfl, rfl⟩ (ok_X10_pass hb2 h.p h.k (show k < 100 by omega)) rfl rfl rfl (fun r M1 hq => ?_)
    obtain ⟨rfl, N, u, rfl, hF4, hu⟩ := hq
    try simp only [rV, Option.toList, List.cons_append, List.nil_append]
    refine g_iret rfl dX11_lostWith_69 ?_
    have e := yrsS_E (n := k) (k := gK g) (fr := f) (rpN_E (b := b) (hv.tr h.x) hpn)
    refine ⟨by rw [lwS, ce_nI (by omega), e.2], (h.f4 hF4).tri, fun i hi => ?_⟩
    rw [pC_o (by decide), hF4.1 45 (by decide) (by decide) (by decide) (by decide)]
    exact hF i hi
  · intro i hi ih
    simp only [it4] at ih
    rw [rpB] at ih
    refine g_iload5 16 rfl dX11_lostWith_14 ?_
    refine g_iload2 17 rfl dX11_lostWith_16 ?_
    refine g_cmpge 51 20 rfl dX11_lostWith_17 (by decide) (fun h => absurd h (nI_ge hi (by omega))) (fun _ => ?_)
    refine g_iload1 21 rfl dX11_lostWith_20 ?_
    refine g_iload5 23 rfl dX11_lostWith_21 ?_
    refine g_ishr 24 rfl dX11_lostWith_23 ?_
    refine g_iconst 25 rfl (v := 1) dX11_lostWith_24 (by decide) ?_
    refine g_iand 26 rfl dX11_lostWith_25 ?_
    rw [bit_i b hb256 i (by omega)]
    refine g_iconst 27 rfl (v := 1) dX11_lostWith_26 (by decide) ?_
    refine g_cmpne 45 30 rfl dX11_lostWith_27 (by decide) (fun h27 => ?_) (fun h27 => ?_)
    · have : ¬ b / 2 ^ i % 2 = 1 := fun z => h27 (by rw [z]; rfl)
      rw [if_neg this] at ih
      refine g_iinc5 48 rfl dX11_lostWith_45 rfl rfl _ (by first | exact iinc1 _ | exact iincx _ | rfl) ?_
      refine g_goto 14 dX11_lostWith_48 (by decide) ?_
      exact ih
    · have : b / 2 ^ i % 2 = 1 := (nI_eq (by omega) (by decide)).mp h27
      rw [if_pos this] at ih
      refine g_aload0 31 rfl dX11_lostWith_30 ?_
      refine g_getR 34 rfl fX11_49 (by first | rfl | exact st_o hb | exact st_1 hb | exact st_2 hb | exact st_3 hb | exact st_4 hb | exact st_5 hb | exact st_o hb2 | exact st_1 hb2 | exact st_2 hb2 | exact st_3 hb2 | exact st_4 hb2 | exact st_5 hb2) rfl dX11_lostWith_31 ?_
      refine g_aload0 35 rfl dX11_lostWith_34 ?_
      refine g_getR 38 rfl fX11_92 (by first | rfl | exact st_o hb | exact st_1 hb | exact st_2 hb | exact st_3 hb | exact st_4 hb | exact st_5 hb | exact st_o hb2 | exact st_1 hb2 | exact st_2 hb2 | exact st_3 hb2 | exact st_4 hb2 | exact st_5 hb2) rfl dX11_lostWith_35 ?_
      refine g_iload5 40 rfl dX11_lostWith_38 ?_
      refine g_iald 41 rfl dX11_lostWith_40 (by first | rfl | exact st_o hb | exact st_1 hb | exact st_2 hb | exact st_3 hb | exact st_4 hb | exact st_5 hb | exact st_o hb2 | exact st_1 hb2 | exact st_2 hb2 | exact st_3 hb2 | exact st_4 hb2 | exact st_5 hb2) rfl rfl (by first | assumption | omega) ?_
      try simp only [e45]
      rw [hF i hi]
      refine g_iconst 42 rfl (v := 5) dX11_lostWith_41 (by decide) ?_
      refine g_callVv 45 2 rfl kX11_260 (by first | rfl | exact st_o hb | exact st_1 hb | exact st_2 hb | exact st_3 hb | exact st_4 hb | exact st_5 hb | exact st_o hb2 | exact st_1 hb2 | exact st_2 hb2 | exact st_3 hb2 | exact st_4 hb2 | exact st_5 hb2) dX11_lostWith_42 ⟨rfl, rfl⟩ (ok_X7_repair hb2 h.p (hpn i hi)) rfl rfl rfl ?_
      refine g_iinc5 48 rfl dX11_lostWith_45 rfl rfl _ (by first | exact iinc1 _ | exact iincx _ | rfl) ?_
      refine g_goto 14 dX11_lostWith_48 (by decide) ?_
      exact ih
/-! none is lost below none -/
theorem wd_nn {R W : Nat} {B : Nat → Int32} {x : Sx} : ∀ i, ∃ j, j ≤ i ∧ (itN (wdB R W B x) i (x, 0)).2 = nI j
  | 0 => ⟨0, Nat.le_refl _, rfl⟩
  | i + 1 => by
    obtain ⟨j, hj, e⟩ := wd_nn (R := R) (W := W) (B := B) (x := x) i
    rw [it4, wdB]
    split
    · exact ⟨j, by omega, e⟩
    · dsimp only
      split
      · exact ⟨j, by omega, e⟩
      · exact ⟨j + 1, by omega, by rw [e, nI_1]⟩
theorem yrs_nn {R W : Nat} {k : Ct} {f : Int32} {x : Sx} : ∀ n, ∃ j, j ≤ n * (R * W) ∧ (yrsS R W k f n x).2 = nI j
  | 0 => ⟨0, by omega, rfl⟩
  | n + 1 => by
    obtain ⟨j, hj, e⟩ := yrs_nn (R := R) (W := W) (k := k) (f := f) (x := x) n
    unfold yrsS at e ⊢
    rw [it4, yrsB]
    dsimp only
    obtain ⟨i, hi, e2⟩ := wd_nn (R := R) (W := W) (B := weaX R W k (itN (yrsB R W k f) n (x, 0)).1) (x := (itN (yrsB R W k f) n (x, 0)).1) (R * W)
    refine ⟨j + i, ?_, ?_⟩
    · rw [Nat.add_mul, Nat.one_mul]; omega
    · rw [e, ← nI_add]
      congr 1
theorem lwS_nn {g : Sg} {y f : Int32} {p : Nat × (Nat → Nat)} {b : Nat} (hRW : gR g * gW g ≤ 30) (hy : okY y f) : ∃ j, j ≤ 600 ∧ lwS g y f p b = nI j := by
  obtain ⟨k, hk, rfl⟩ := okY_nI hy
  obtain ⟨j, hj, e⟩ := yrs_nn (R := gR g) (W := gW g) (k := gK g) (f := f) (x := itN (rpB b p.2) p.1 (gX g)) k
  refine ⟨j, ?_, by rw [lwS, ce_nI (by omega), e]⟩
  have : k * (gR g * gW g) ≤ 20 * 30 := Nat.mul_le_mul (by omega) hRW
  omega
noncomputable def frN (g : Sg) (q : Nat) (y f : Int32) (p : Nat × (Nat → Nat)) : Nat → Nat × Int32
  | 0 => (0, 2147483647)
  | b + 1 => ifC (pcn (b + 1) = q ∧ lwS g y f p (b + 1) < (frN g q y f p b).2) (b + 1, lwS g y f p (b + 1)) (frN g q y f p b)
theorem frN_stop {g : Sg} {q : Nat} {y f : Int32} {p : Nat × (Nat → Nat)} {b : Nat} (hn : ∀ c, 0 ≤ lwS g y f p c) (h : (frN g q y f p b).2 ≤ 0) : ∀ d, frN g q y f p (b + d) = frN g q y f p b
  | 0 => rfl
  | d + 1 => by
    rw [← Nat.add_assoc, frN, frN_stop hn h d, ifC_f]
    intro z
    have h1 := z.2
    have h2 := hn (b + d + 1)
    rw [Int32.lt_iff_toInt_lt] at h1
    rw [Int32.le_iff_toInt_le] at h h2
    omega
theorem frN_b {g : Sg} {q : Nat} {y f : Int32} {p : Nat × (Nat → Nat)} : ∀ b, (frN g q y f p b).1 ≤ b
  | 0 => Nat.le_refl _
  | b + 1 => by
    have ih := frN_b (g := g) (q := q) (y := y) (f := f) (p := p) b
    rw [frN]
    by_cases h : pcn (b + 1) = q ∧ lwS g y f p (b + 1) < (frN g q y f p b).2
    · rw [ifC_t h]; exact Nat.le_refl _
    · rw [ifC_f h]; omega
def okI (k y f w : Int32) : Prop := (1 ≤ k ∧ k ≤ 4) ∧ okY y f ∧ (0 ≤ w ∧ w ≤ 1)
noncomputable def fFirst (g : Sg) (k y f w : Int32) : Int32 × Sg := ifC (isT g) (ifC (okI k y f w) (ifC (ce k ≤ (menN (gX g) (gN g)).1 ∧ gF g < 20) (ifC (w = 0) (nI (frN g (ce k) y f (menN (gX g) (gN g)) (2 ^ (menN (gX g) (gN g)).1 - 1)).1) (frN g (ce k) y f (menN (gX g) (gN g)) (2 ^ (menN (gX g) (gN g)).1 - 1)).2, sgF g (gF g + 1)) (-103, g)) (-102, g)) (-103, g)
theorem CS.fd {g : Sg} {M : Mm} (h : CS g M) (hf : gF g < 20) : CS (sgF g (gF g + 1)) (setA M 0 (upd (M.1 0) 16 (nI (gF g + 1)))) := by
  obtain ⟨h1, h2, h3, h4, h5, h6, h7, h8, h9, h10⟩ := h
  have e : ∀ q, q ≠ 0 → (setA M 0 (upd (M.1 0) 16 (nI (gF g + 1)))).1 q = M.1 q := fun q hq => sA_n hq
  have v15 : vC (setA M 0 (upd (M.1 0) 16 (nI (gF g + 1)))) 15 = vC M 15 := by unfold vC; rw [e (15 + 1) (by omega), e (15 + 2) (by omega), e (15 + 3) (by omega), e (15 + 4) (by omega), e (15 + 5) (by omega), e 15 (by omega)]
  have v27 : vC (setA M 0 (upd (M.1 0) 16 (nI (gF g + 1)))) 27 = vC M 27 := by unfold vC; rw [e (27 + 1) (by omega), e (27 + 2) (by omega), e (27 + 3) (by omega), e (27 + 4) (by omega), e (27 + 5) (by omega), e 27 (by omega)]
  refine ⟨?_, by rw [v15]; exact h2, ?_, ?_, ?_, by rw [sA_s, pk_un (by decide)]; exact h6, by rw [sA_s, pk_un (by decide)]; exact h7, by rw [v27]; exact h8, by rw [sA_s, upd_at]; rfl, h10.1, h10.2.1, h10.2.2.1, ?_⟩
  · unfold Plan; rw [e 12 (by omega), e 13 (by omega), e 14 (by omega)]; exact h1
  · unfold Pg; rw [e 1 (by omega), e 2 (by omega)]; exact h3
  · unfold Crt; rw [e 9 (by omega), e (9 + 1) (by omega), e (9 + 2) (by omega)]; exact h4
  · unfold Hp; rw [e 42 (by omega), e 43 (by omega), e 44 (by omega)]; exact h5
  · show gF g + 1 ≤ 20
    omega
theorem one_shl8 {m : Nat} (h : m ≤ 8) : (1 : Int32) <<< (nI m &&& 31) = nI (2 ^ m) := one_shl m (by omega)
theorem pub_first {l : Launch} {M : Mm} {g : Sg} {k y f w : Int32} (h : CS g M) : Ok GC l mX11_first [.ref 0, .int k, .int y, .int f, .int w] M (qP (fFirst g k y f w)) := by
  have h30 := h.p.1.le
  refine ok_of (by decide +kernel) rfl rfl ?_
  refine g_aload0 1 rfl dX11_first_0 ?_
  refine g_callV 4 0 rfl kX11_244 (by first | rfl | exact st_o hb | exact st_1 hb | exact st_2 hb | exact st_3 hb | exact st_4 hb | exact st_5 hb | exact st_o hb2 | exact st_1 hb2 | exact st_2 hb2 | exact st_3 hb2 | exact st_4 hb2 | exact st_5 hb2) dX11_first_1 ⟨rfl, rfl⟩ (ok_hasTraffic h.p h.k) rfl rfl rfl (fun r M1 hq => ?_)
  obtain ⟨rfl, ⟨rfl, hq⟩ | ⟨rfl, hq⟩⟩ := hq
  try simp only [rV, Option.toList, List.cons_append, List.nil_append]
  · refine g_ifne 10 7 rfl dX11_first_4 (by decide) (fun _ => ?_) (fun h => absurd h (by decide))
    have bad : ¬ okI k y f w → Go GC l mX11_first 39 [.ref 0, .int k, .int y, .int f, .int w, .null, .null, .null, .null, .null, .null] [] M1 (qP (fFirst g k y f w)) := by
      intro hn
      refine g_bipush 41 rfl (v := (-102)) dX11_first_39 (by decide) ?_
      refine g_iret rfl dX11_first_41 ?_
      rw [fFirst, ifC_t hq, ifC_f hn]
      exact ⟨rfl, h⟩
    have good : okI k y f w → Go GC l mX11_first 42 [.ref 0, .int k, .int y, .int f, .int w, .null, .null, .null, .null, .null, .null] [] M1 (qP (fFirst g k y f w)) := by
      intro hg
      obtain ⟨q, hq0, hq5, rfl⟩ := le5 hg.1.1 (Int32.le_trans hg.1.2 (by decide))
      have ecq : ce (nI q) = q := ce_nI (by omega)
      have hnn : ∀ c, 0 ≤ lwS g y f (menN (gX g) (gN g)) c := fun c => by
        obtain ⟨j, hj, e⟩ := lwS_nn (p := menN (gX g) (gN g)) (b := c) h30 hg.2.1
        rw [e]; exact nI_pos' (by omega)
      refine g_aload0 43 rfl dX11_first_42 ?_
      refine g_callV 46 0 rfl kX11_266 (by first | rfl | exact st_o hb | exact st_1 hb | exact st_2 hb | exact st_3 hb | exact st_4 hb | exact st_5 hb | exact st_o hb2 | exact st_1 hb2 | exact st_2 hb2 | exact st_3 hb2 | exact st_4 hb2 | exact st_5 hb2) dX11_first_43 ⟨rfl, rfl⟩ (ok_find h.p) rfl rfl rfl (fun r M1 hq => ?_)
      obtain ⟨rfl, f45, rfl, hFM⟩ := hq
      try simp only [rV, Option.toList, List.cons_append, List.nil_append]
      refine g_istore5 48 rfl dX11_first_46 rfl rfl ?_
      rw [menN_E h.x _ (Nat.le_refl _)] at hFM ⊢
      have hmb := menN_b (x := gX g) (gN g)
      have hmb : (menN (gX g) (gR g * gW g)).1 ≤ 8 ∧ ∀ i, i < (menN (gX g) (gR g * gW g)).1 → (menN (gX g) (gR g * gW g)).2 i < gR g * gW g := hmb
      have hcs := h.sA (f := f45) nk45
      have e16 : (setA M1 45 f45).1 0 16 = nI (gF g) := hcs.2.2.2.2.2.2.2.2.1
      have hfd : gF g ≤ 20 := h.2.2.2.2.2.2.2.2.2.2.2.2
      have st : ¬ (q ≤ (menN (gX g) (gR g * gW g)).1 ∧ gF g < 20) → Go GC l mX11_first 63 [.ref 0, .int (nI q), .int y, .int f, .int w, .int (nI (menN (gX g) (gR g * gW g)).1), .null, .null, .null, .null, .null] [] (setA M1 45 f45) (qP (fFirst g (nI q) y f w)) := by
        intro hn
        refine g_bipush 65 rfl (v := (-103)) dX11_first_63 (by decide) ?_
        refine g_iret rfl dX11_first_65 ?_
        rw [fFirst, ifC_t hq, ifC_t hg, ecq, ifC_f hn]
        exact ⟨rfl, hcs⟩
      refine g_iload5 50 rfl dX11_first_48 ?_
      refine g_iload1 51 rfl dX11_first_50 ?_
      refine g_cmplt 63 54 rfl dX11_first_51 (by decide) (fun h51 => st (fun z => absurd h51 (nI_nlt z.1 (by omega)))) (fun h51 => ?_)
      have hqm : q ≤ (menN (gX g) (gR g * gW g)).1 := Nat.le_of_not_lt (fun z => h51 (nI_lt z (by omega)))
      refine g_aload0 55 rfl dX11_first_54 ?_
      refine g_getI 58 rfl fX11_103 (by first | rfl | exact st_o hb | exact st_1 hb | exact st_2 hb | exact st_3 hb | exact st_4 hb | exact st_5 hb | exact st_o hb2 | exact st_1 hb2 | exact st_2 hb2 | exact st_3 hb2 | exact st_4 hb2 | exact st_5 hb2) rfl dX11_first_55 ?_
      try simp only [e16]
      refine g_bipush 60 rfl (v := 20) dX11_first_58 (by decide) ?_
      refine g_cmplt 66 63 rfl dX11_first_60 (by decide) (fun h60 => ?_) (fun h60 => st (fun z => h60 (nI_lt z.2 (by decide))))
      have hlt : gF g < 20 := (nI_ltI (by omega) (by decide)).mp h60
      refine g_aload0 67 rfl dX11_first_66 ?_
      refine g_dup 68 rfl dX11_first_67 rfl ?_
      refine g_getI 71 rfl fX11_103 (by first | rfl | exact st_o hb | exact st_1 hb | exact st_2 hb | exact st_3 hb | exact st_4 hb | exact st_5 hb | exact st_o hb2 | exact st_1 hb2 | exact st_2 hb2 | exact st_3 hb2 | exact st_4 hb2 | exact st_5 hb2) rfl dX11_first_68 ?_
      try simp only [e16]
      refine g_iconst 72 rfl (v := 1) dX11_first_71 (by decide) ?_
      refine g_iadd 73 rfl dX11_first_72 ?_
      rw [nI_1]
      refine g_putI 76 rfl fX11_103 (by first | rfl | exact st_o hb | exact st_1 hb | exact st_2 hb | exact st_3 hb | exact st_4 hb | exact st_5 hb | exact st_o hb2 | exact st_1 hb2 | exact st_2 hb2 | exact st_3 hb2 | exact st_4 hb2 | exact st_5 hb2) rfl dX11_first_73 ?_
      refine g_iconst 77 rfl (v := 0) dX11_first_76 (by decide) ?_
      refine g_istore6 79 rfl dX11_first_77 rfl rfl ?_
      refine g_ldc 81 rfl dX11_first_79 cX11_218 ?_
      refine g_istore7 83 rfl dX11_first_81 rfl rfl ?_
      refine g_iconst 84 rfl (v := 1) dX11_first_83 (by decide) ?_
      refine g_iload5 86 rfl dX11_first_84 ?_
      rw [show (setA M1 45 f45).1 0 = M1.1 0 from sA_n (by decide)]
      have hc2 : CS (sgF g (gF g + 1)) (setA (setA M1 45 f45) 0 (upd (M1.1 0) 16 (nI (gF g + 1)))) := by
        have := hcs.fd hlt
        rw [show (setA M1 45 f45).1 0 = M1.1 0 from sA_n (by decide)] at this
        exact this
      have hF2 : FM (setA (setA M1 45 f45) 0 (upd (M1.1 0) 16 (nI (gF g + 1)))) (menN (gX g) (gR g * gW g)) := fun i hi => by rw [sA_n (by decide)]; exact hFM i hi
      generalize setA (setA M1 45 f45) 0 (upd (M1.1 0) 16 (nI (gF g + 1))) = M2 at hc2 hF2 ⊢
      have ef : fFirst g (nI q) y f w = (ifC (w = 0) (nI (frN g q y f (menN (gX g) (gR g * gW g)) (2 ^ (menN (gX g) (gR g * gW g)).1 - 1)).1) (frN g q y f (menN (gX g) (gR g * gW g)) (2 ^ (menN (gX g) (gR g * gW g)).1 - 1)).2, sgF g (gF g + 1)) := by rw [fFirst, ifC_t hq, ifC_t hg, ecq, ifC_t ⟨hqm, hlt⟩]
      rw [ef]
      generalize menN (gX g) (gR g * gW g) = p at hmb hnn hF2 ⊢
      have hpw : 2 ^ p.1 ≤ 256 := Nat.le_trans (Nat.pow_le_pow_right (by decide) hmb.1) (by decide)
      have hpw1 : 1 ≤ 2 ^ p.1 := Nat.one_le_two_pow
      refine g_ishl 87 rfl dX11_first_86 ?_
      rw [one_shl8 hmb.1]
      refine g_istore8 89 rfl dX11_first_87 rfl rfl ?_
      refine g_iconst 90 rfl (v := 1) dX11_first_89 (by decide) ?_
      refine g_istore9 92 rfl dX11_first_90 rfl rfl ?_
      have fin : ∀ (b : Nat) (v : Value) (N : Mm), CS (sgF g (gF g + 1)) N → frN g q y f p b = frN g q y f p (2 ^ p.1 - 1) → Go GC l mX11_first 146 [.ref 0, .int (nI q), .int y, .int f, .int w, .int (nI p.1), .int (nI (frN g q y f p b).1), .int (frN g q y f p b).2, .int (nI (2 ^ p.1)), v, .null] [] N (qP (ifC (w = 0) (nI (frN g q y f p (2 ^ p.1 - 1)).1) (frN g q y f p (2 ^ p.1 - 1)).2, sgF g (gF g + 1))) := by
        intro b v N hN e
        rw [e]
        refine g_iload4 148 rfl dX11_first_146 ?_
        refine g_ifne 156 151 rfl dX11_first_148 (by decide) (fun h148 => ?_) (fun h148 => ?_)
        · refine g_iload7 158 rfl dX11_first_156 ?_
          refine g_iret rfl dX11_first_158 ?_
          exact ⟨by rw [ifC_f h148], hN⟩
        · refine g_iload6 153 rfl dX11_first_151 ?_
          refine g_goto 158 dX11_first_153 (by decide) ?_
          refine g_iret rfl dX11_first_158 ?_
          exact ⟨by rw [ifC_t h148], hN⟩
      refine loop_up (P := fun b => ∀ N, CS (sgF g (gF g + 1)) N → FM N p → Go GC l mX11_first 92 [.ref 0, .int (nI q), .int y, .int f, .int w, .int (nI p.1), .int (nI (frN g q y f p b).1), .int (frN g q y f p b).2, .int (nI (2 ^ p.1)), .int (nI (b + 1)), .null] [] N (qP (ifC (w = 0) (nI (frN g q y f p (2 ^ p.1 - 1)).1) (frN g q y f p (2 ^ p.1 - 1)).2, sgF g (gF g + 1)))) (2 ^ p.1 - 1) ?_ ?_ 0 (Nat.zero_le _) M2 hc2 hF2
      · intro N hN hFN
        rw [show 2 ^ p.1 - 1 + 1 = 2 ^ p.1 by omega]
        refine g_iload9 94 rfl dX11_first_92 ?_
        refine g_iload8 96 rfl dX11_first_94 ?_
        refine g_cmpge 146 99 rfl dX11_first_96 (by decide) (fun _ => ?_) (fun h => absurd (Int32.le_refl _) h)
        exact fin _ _ N hN rfl
      · intro b hb ih N hN hFN
        have hfb := frN_b (g := g) (q := q) (y := y) (f := f) (p := p) b
        refine g_iload9 94 rfl dX11_first_92 ?_
        refine g_iload8 96 rfl dX11_first_94 ?_
        refine g_cmpge 146 99 rfl dX11_first_96 (by decide) (fun h => absurd h (nI_ge (show b + 1 < 2 ^ p.1 by omega) (by omega))) (fun _ => ?_)
        refine g_iload7 101 rfl dX11_first_99 ?_
        refine g_ifle 146 104 rfl dX11_first_101 (by decide) (fun h101 => ?_) (fun h101 => ?_)
        · have e := frN_stop hnn h101 (2 ^ p.1 - 1 - b)
          rw [show b + (2 ^ p.1 - 1 - b) = 2 ^ p.1 - 1 by omega] at e
          exact fin b _ N hN e.symm
        · refine g_iload9 106 rfl dX11_first_104 ?_
          refine g_callSi 109 1 rfl kX11_269 dX11_first_106 ⟨rfl, rfl⟩ (ok_bitCount (by omega)) rfl rfl rfl ?_
          refine g_iload1 110 rfl dX11_first_109 ?_
          have p1 := pcn_le (b + 1) (by omega)
          refine g_cmpne 140 113 rfl dX11_first_110 (by decide) (fun h110 => ?_) (fun h110 => ?_)
          · have e : frN g q y f p (b + 1) = frN g q y f p b := by rw [frN, ifC_f (fun z => h110 (by rw [z.1]))]
            rw [e] at ih
            refine g_iinc9 143 rfl dX11_first_140 rfl rfl _ (by first | exact iinc1 _ | exact iincx _ | rfl) ?_
            refine g_goto 92 dX11_first_143 (by decide) ?_
            exact ih N hN hFN
          · have h110 : pcn (b + 1) = q := (nI_eq (by omega) (by omega)).mp h110
            refine g_aload0 114 rfl dX11_first_113 ?_
            refine g_iload9 116 rfl dX11_first_114 ?_
            refine g_iload5 118 rfl dX11_first_116 ?_
            refine g_iload2 119 rfl dX11_first_118 ?_
            refine g_iload3 120 rfl dX11_first_119 ?_
            refine g_callV 123 4 rfl kX11_274 (by first | rfl | exact st_o hb | exact st_1 hb | exact st_2 hb | exact st_3 hb | exact st_4 hb | exact st_5 hb | exact st_o hb2 | exact st_1 hb2 | exact st_2 hb2 | exact st_3 hb2 | exact st_4 hb2 | exact st_5 hb2) dX11_first_120 ⟨rfl, rfl⟩ (ok_lost hN hFN hmb.1 hmb.2 (by omega) hg.2.1) rfl rfl rfl (fun r M1 hq => ?_)
            obtain ⟨rfl, hN2, hF3⟩ := hq
            try simp only [rV, Option.toList, List.cons_append, List.nil_append]
            refine g_istore10 125 rfl dX11_first_123 rfl rfl ?_
            rw [show lwS (sgF g (gF g + 1)) y f p (b + 1) = lwS g y f p (b + 1) from rfl]
            refine g_iload10 127 rfl dX11_first_125 ?_
            refine g_iload7 129 rfl dX11_first_127 ?_
            refine g_cmpge 140 132 rfl dX11_first_129 (by decide) (fun h129 => ?_) (fun h129 => ?_)
            · have e : frN g q y f p (b + 1) = frN g q y f p b := by rw [frN, ifC_f (fun z => absurd z.2 (Int32.not_lt.mpr h129))]
              rw [e] at ih
              refine g_iinc9 143 rfl dX11_first_140 rfl rfl _ (by first | exact iinc1 _ | exact iincx _ | rfl) ?_
              refine g_goto 92 dX11_first_143 (by decide) ?_
              refine g_fg 10 ?_
              exact ih _ hN2 hF3
            · have e : frN g q y f p (b + 1) = (b + 1, lwS g y f p (b + 1)) := by rw [frN, ifC_t ⟨h110, Int32.not_le.mp h129⟩]
              rw [e] at ih
              refine g_iload10 134 rfl dX11_first_132 ?_
              refine g_istore7 136 rfl dX11_first_134 rfl rfl ?_
              refine g_iload9 138 rfl dX11_first_136 ?_
              refine g_istore6 140 rfl dX11_first_138 rfl rfl ?_
              refine g_iinc9 143 rfl dX11_first_140 rfl rfl _ (by first | exact iinc1 _ | exact iincx _ | rfl) ?_
              refine g_goto 92 dX11_first_143 (by decide) ?_
              refine g_fg 10 ?_
              exact ih _ hN2 hF3
    refine g_iload1 11 rfl dX11_first_10 ?_
    refine g_iconst 12 rfl (v := 1) dX11_first_11 (by decide) ?_
    refine g_cmplt 39 15 rfl dX11_first_12 (by decide) (fun z => bad (fun q => absurd z (Int32.not_lt.mpr q.1.1))) (fun h12 => ?_)
    refine g_iload1 16 rfl dX11_first_15 ?_
    refine g_iconst 17 rfl (v := 4) dX11_first_16 (by decide) ?_
    refine g_cmpgt 39 20 rfl dX11_first_17 (by decide) (fun z => bad (fun q => absurd z (Int32.not_lt.mpr q.1.2))) (fun h17 => ?_)
    refine g_iload2 21 rfl dX11_first_20 ?_
    refine g_iload3 22 rfl dX11_first_21 ?_
    refine g_callS 25 2 rfl kX11_247 dX11_first_22 ⟨rfl, rfl⟩ ok_areYears rfl rfl rfl (fun r M1 hq => ?_)
    obtain ⟨rfl, ⟨rfl, hw⟩ | ⟨rfl, hw⟩⟩ := hq
    try simp only [rV, Option.toList, List.cons_append, List.nil_append]
    · refine g_ifeq 39 28 rfl dX11_first_25 (by decide) (fun h => absurd h (by decide)) (fun _ => ?_)
      refine g_iload4 30 rfl dX11_first_28 ?_
      refine g_iflt 39 33 rfl dX11_first_30 (by decide) (fun z => bad (fun q => absurd z (Int32.not_lt.mpr q.2.2.1))) (fun h30 => ?_)
      refine g_iload4 35 rfl dX11_first_33 ?_
      refine g_iconst 36 rfl (v := 1) dX11_first_35 (by decide) ?_
      refine g_cmple 42 39 rfl dX11_first_36 (by decide) (fun h36 => ?_) (fun z => bad (fun q => z q.2.2.2))
      exact good ⟨⟨Int32.not_lt.mp h12, Int32.not_lt.mp h17⟩, hw, Int32.not_lt.mp h30, h36⟩
    · refine g_ifeq 39 28 rfl dX11_first_25 (by decide) (fun _ => ?_) (fun h => absurd rfl h)
      exact bad (fun q => hw q.2.1)
  · refine g_ifne 10 7 rfl dX11_first_4 (by decide) (fun h => absurd rfl h) (fun _ => ?_)
    refine g_bipush 9 rfl (v := (-103)) dX11_first_7 (by decide) ?_
    refine g_iret rfl dX11_first_9 ?_
    rw [fFirst, ifC_f hq]
    exact ⟨rfl, h⟩
