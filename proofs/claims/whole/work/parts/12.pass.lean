/-! the class's Years.pass -/
/-- nothing but the rows of grips, borne, levels and worn has changed -/
def Fr4 (M M' : Mm) : Prop := (∀ h, h ≠ 36 → h ≠ 37 → h ≠ 39 → h ≠ 41 → M'.1 h = M.1 h) ∧ M'.2 = M.2
theorem Fr4.rf {M : Mm} : Fr4 M M := ⟨fun _ _ _ _ _ => rfl, rfl⟩
theorem Fr4.tr {M N P : Mm} (h : Fr4 M N) (g : Fr4 N P) : Fr4 M P := ⟨fun k a b c d => (g.1 k a b c d).trans (h.1 k a b c d), g.2.trans h.2⟩
theorem Fr4.set {M N : Mm} (h : Fr4 M N) {k : Nat} {f : Nat → Int32} (hk : k = 36 ∨ k = 37 ∨ k = 39 ∨ k = 41) : Fr4 M (setA N k f) := ⟨fun q a b c d => by rw [sA_n (by omega)]; exact h.1 q a b c d, h.2⟩
theorem Fr4.plan {M N : Mm} {R W : Nat} (h : Fr4 M N) (hp : Plan M R W) : Plan N R W := by
  unfold Plan
  rw [h.1 12 (by decide) (by decide) (by decide) (by decide), h.1 13 (by decide) (by decide) (by decide) (by decide), h.1 14 (by decide) (by decide) (by decide) (by decide)]
  exact hp
theorem Fr4.crt {M N : Mm} {k : Ct} (h : Fr4 M N) (hp : Crt M 9 k) : Crt N 9 k := by
  unfold Crt
  rw [h.1 9 (by decide) (by decide) (by decide) (by decide), h.1 (9 + 1) (by decide) (by decide) (by decide) (by decide), h.1 (9 + 2) (by decide) (by decide) (by decide) (by decide)]
  exact hp
theorem nI_add0 {a : Int32} {j : Nat} (hj : j < 2 ^ 31) (h : a + nI j = a) : j = 0 := by
  have z2 : nI j + a - a = a - a := by rw [Int32.add_comm, h]
  rw [Int32.sub_self, Int32.add_sub_cancel] at z2
  exact (nI_eq hj (by decide)).mp z2
abbrev qPass (R W b n : Nat) (k : Ct) (fr : Int32) (x : Sx) (M : Mm) : Rr → Mm → Prop := fun r M' => r = some (.inl (yrsS R W k fr n x).2) ∧ ∃ N y, M' = pC N b y ∧ Fr4 M N ∧ sxE (R * W) y (yrsS R W k fr n x).1
theorem ok_X10_pass {l : Launch} {M : Mm} {R W b n : Nat} {k : Ct} {fr : Int32} {x : Sx} (hb : isSt b) (hp : Plan M R W) (hk : Crt M 9 k) (hn : n < 100) : Ok GC l mX10_pass [.ref 40, .ref b, .ref 9, .int (nI n), .int fr] (pC M b x) (qPass R W b n k fr x M) := by
  have h30 := hp.1.le
  refine ok_of (by decide +kernel) rfl rfl ?_
  refine g_iconst 1 rfl (v := 0) dX10_pass_0 (by decide) ?_
  refine g_istore5 3 rfl dX10_pass_1 rfl rfl ?_
  refine g_iconst 4 rfl (v := 0) dX10_pass_3 (by decide) ?_
  refine g_istore6 6 rfl dX10_pass_4 rfl rfl ?_
  refine g_iconst 7 rfl (v := 0) dX10_pass_6 (by decide) ?_
  refine g_istore7 9 rfl dX10_pass_7 rfl rfl ?_
  refine loop_up (P := fun i => ∀ N y laid, Fr4 M N → sxE (R * W) y (itN (yrsB R W k fr) i (x, 0)).1 → (laid = 0 ∨ (laid = 1 ∧ eqN (R * W) (N.1 37) (weaX R W k y))) → Go GC l mX10_pass 9 [.ref 40, .ref b, .ref 9, .int (nI n), .int fr, .int (itN (yrsB R W k fr) i (x, 0)).2, .int laid, .int (nI i), .null] [] (pC N b y) (qPass R W b n k fr x M)) n ?_ ?_ 0 (by omega) M x 0 Fr4.rf sxE.rf (Or.inl rfl)
  · intro N y laid hF hy hl
    refine g_iload7 11 rfl dX10_pass_9 ?_
    refine g_iload3 12 rfl dX10_pass_11 ?_
    refine g_cmpge 76 15 rfl dX10_pass_12 (by decide) (fun h12 => ?_) (fun h => absurd (Int32.le_refl _) h)
    refine g_iload5 78 rfl dX10_pass_76 ?_
    refine g_iret rfl dX10_pass_78 ?_
    exact ⟨rfl, N, y, rfl, hF, hy⟩
  · intro i hi ih N y laid hF hy hl
    simp only [it4, yrsB] at ih
    refine g_iload7 11 rfl dX10_pass_9 ?_
    refine g_iload3 12 rfl dX10_pass_11 ?_
    refine g_cmpge 76 15 rfl dX10_pass_12 (by decide) (fun h => absurd h (nI_ge hi (by omega))) (fun _ => ?_)
    have rest : ∀ (N : Mm), Fr4 M N → eqN (R * W) (N.1 37) (weaX R W k y) → Go GC l mX10_pass 26 [.ref 40, .ref b, .ref 9, .int (nI n), .int fr, .int (itN (yrsB R W k fr) i (x, 0)).2, .int laid, .int (nI i), .null] [] (pC N b y) (qPass R W b n k fr x M) := by
      intro N hF hB
      have hpN := hF.plan hp
      refine g_aload1 27 rfl dX10_pass_26 ?_
      refine g_getI 30 rfl fX10_31 (by first | rfl | exact st_o hb | exact st_1 hb | exact st_2 hb | exact st_3 hb | exact st_4 hb | exact st_5 hb | exact st_o hb2 | exact st_1 hb2 | exact st_2 hb2 | exact st_3 hb2 | exact st_4 hb2 | exact st_5 hb2) rfl dX10_pass_27 ?_
      try simp only [pC_7]
      refine g_istore8 32 rfl dX10_pass_30 rfl rfl ?_
      refine g_iload5 34 rfl dX10_pass_32 ?_
      refine g_aload0 35 rfl dX10_pass_34 ?_
      refine g_aload1 36 rfl dX10_pass_35 ?_
      refine g_callV 39 1 rfl kX10_37 (by first | rfl | exact st_o hb | exact st_1 hb | exact st_2 hb | exact st_3 hb | exact st_4 hb | exact st_5 hb | exact st_o hb2 | exact st_1 hb2 | exact st_2 hb2 | exact st_3 hb2 | exact st_4 hb2 | exact st_5 hb2) dX10_pass_36 ⟨rfl, rfl⟩ (ok_X10_wearDown hb hpN) rfl rfl rfl (fun r M1 hq => ?_)
      obtain ⟨rfl, f41, rfl⟩ := hq
      try simp only [rV, Option.toList, List.cons_append, List.nil_append]
      refine g_iadd 40 rfl dX10_pass_39 ?_
      refine g_istore5 42 rfl dX10_pass_40 rfl rfl ?_
      have hF2 : Fr4 M (setA N 41 f41) := hF.set (by omega)
      have e := wdS_E (sxE.rf (n := R * W) (x := y)) hB
      have e37 : (setA N 41 f41).1 37 = N.1 37 := sA_n (by decide)
      refine g_aload0 43 rfl dX10_pass_42 ?_
      refine g_aload1 44 rfl dX10_pass_43 ?_
      refine g_iload4 46 rfl dX10_pass_44 ?_
      refine g_callVv 49 2 rfl kX10_41 (by first | rfl | exact st_o hb | exact st_1 hb | exact st_2 hb | exact st_3 hb | exact st_4 hb | exact st_5 hb | exact st_o hb2 | exact st_1 hb2 | exact st_2 hb2 | exact st_3 hb2 | exact st_4 hb2 | exact st_5 hb2) dX10_pass_46 ⟨rfl, rfl⟩ (ok_X10_freeze hb (hF2.plan hp)) rfl rfl rfl ?_
      refine g_aload0 50 rfl dX10_pass_49 ?_
      refine g_aload1 51 rfl dX10_pass_50 ?_
      refine g_callVv 54 1 rfl kX10_45 (by first | rfl | exact st_o hb | exact st_1 hb | exact st_2 hb | exact st_3 hb | exact st_4 hb | exact st_5 hb | exact st_o hb2 | exact st_1 hb2 | exact st_2 hb2 | exact st_3 hb2 | exact st_4 hb2 | exact st_5 hb2) dX10_pass_51 ⟨rfl, rfl⟩ (ok_X10_washOut hb ((hF2.set (k := 39) (by omega)).plan hp)) rfl rfl rfl ?_
      have hF3 : Fr4 M (setA (setA N 41 f41) 39 (filS R W (sH (wdS R W (N.1 37) y).1) ((setA N 41 f41).1 39))) := hF2.set (by omega)
      have e37 : (setA (setA N 41 f41) 39 (filS R W (sH (wdS R W (N.1 37) y).1) ((setA N 41 f41).1 39))).1 37 = N.1 37 := by rw [sA_n (by decide), sA_n (by decide)]
      have hv : (wdS R W (N.1 37) y).2 = yeaV R W k (itN (yrsB R W k fr) i (x, 0)).1 := by rw [e.2]; exact (yea_E (fr := fr) hy).2
      have hx : sxE (R * W) (itN (wasB R W) (R * W) (itN (frzB (filS R W (sH (wdS R W (N.1 37) y).1) ((setA N 41 f41).1 39)) fr) (R * W) (wdS R W (N.1 37) y).1)) (yeaS R W k fr (itN (yrsB R W k fr) i (x, 0)).1) := (wasN_E (frzN_E e.1 (filS_E e.1.2.2.1 _ _))).tr (yea_E hy).1
      have hc : chg (R * W + R * W) y (itN (wasB R W) (R * W) (itN (frzB (filS R W (sH (wdS R W (N.1 37) y).1) ((setA N 41 f41).1 39)) fr) (R * W) (wdS R W (N.1 37) y).1)) := by
        have a := (wdS_c (R := R) (W := W) (B := N.1 37) (x := y)).tr (frz_c (L := filS R W (sH (wdS R W (N.1 37) y).1) ((setA N 41 f41).1 39)) (f := fr) (n := R * W))
        obtain ⟨j, a1, a2, a3⟩ := a
        exact ⟨j, a1, by rw [was_c.2]; exact a2, fun z => by rw [was_c.1]; exact a3 z⟩
      rw [hv]
      generalize setA (setA N 41 f41) 39 (filS R W (sH (wdS R W (N.1 37) y).1) ((setA N 41 f41).1 39)) = N3 at hF3 e37 ⊢
      generalize itN (wasB R W) (R * W) (itN (frzB (filS R W (sH (wdS R W (N.1 37) y).1) ((setA N 41 f41).1 39)) fr) (R * W) (wdS R W (N.1 37) y).1) = y3 at hx hc ⊢
      refine g_aload1 55 rfl dX10_pass_54 ?_
      refine g_getI 58 rfl fX10_31 (by first | rfl | exact st_o hb | exact st_1 hb | exact st_2 hb | exact st_3 hb | exact st_4 hb | exact st_5 hb | exact st_o hb2 | exact st_1 hb2 | exact st_2 hb2 | exact st_3 hb2 | exact st_4 hb2 | exact st_5 hb2) rfl dX10_pass_55 ?_
      try simp only [pC_7]
      refine g_iload8 60 rfl dX10_pass_58 ?_
      refine g_cmpne 67 63 rfl dX10_pass_60 (by decide) (fun h60 => ?_) (fun h60 => ?_)
      · refine g_iconst 68 rfl (v := 0) dX10_pass_67 (by decide) ?_
        refine g_istore6 70 rfl dX10_pass_68 rfl rfl ?_
        refine g_iinc7 73 rfl dX10_pass_70 rfl rfl _ (by first | exact iinc1 _ | exact iincx _ | rfl) ?_
        refine g_goto 9 dX10_pass_73 (by decide) ?_
        (refine g_fg 8 ?_; first | exact ih N3 y3 0 hF3 hx (Or.inl rfl) | (refine ih N3 y3 1 hF3 hx (Or.inr ⟨rfl, ?_⟩); obtain ⟨j, c1, c2, c3⟩ := hc; have hj : j = 0 := nI_add0 (by omega) (c2.symm.trans h60); rw [e37]; exact hB.tr (weaX_E (by rw [c3 hj]; exact eqN.rf))))
      · refine g_iconst 64 rfl (v := 1) dX10_pass_63 (by decide) ?_
        refine g_goto 68 dX10_pass_64 (by decide) ?_
        refine g_istore6 70 rfl dX10_pass_68 rfl rfl ?_
        refine g_iinc7 73 rfl dX10_pass_70 rfl rfl _ (by first | exact iinc1 _ | exact iincx _ | rfl) ?_
        refine g_goto 9 dX10_pass_73 (by decide) ?_
        (refine g_fg 8 ?_; first | exact ih N3 y3 0 hF3 hx (Or.inl rfl) | (refine ih N3 y3 1 hF3 hx (Or.inr ⟨rfl, ?_⟩); obtain ⟨j, c1, c2, c3⟩ := hc; have hj : j = 0 := nI_add0 (by omega) (c2.symm.trans h60); rw [e37]; exact hB.tr (weaX_E (by rw [c3 hj]; exact eqN.rf))))
    rcases hl with rfl | ⟨rfl, hB⟩
    · refine g_iload6 17 rfl dX10_pass_15 ?_
      refine g_ifne 26 20 rfl dX10_pass_17 (by decide) (fun h => absurd rfl h) (fun _ => ?_)
      refine g_aload0 21 rfl dX10_pass_20 ?_
      refine g_aload1 22 rfl dX10_pass_21 ?_
      refine g_aload2 23 rfl dX10_pass_22 ?_
      refine g_callV 26 2 rfl kX10_27 (by first | rfl | exact st_o hb | exact st_1 hb | exact st_2 hb | exact st_3 hb | exact st_4 hb | exact st_5 hb | exact st_o hb2 | exact st_1 hb2 | exact st_2 hb2 | exact st_3 hb2 | exact st_4 hb2 | exact st_5 hb2) dX10_pass_23 ⟨rfl, rfl⟩ (ok_X10_layCarts hb (hF.plan hp) (hF.crt hk)) rfl rfl rfl (fun r M1 hq => ?_)
      obtain ⟨rfl, g, B, rfl, hg, hB⟩ := hq
      try simp only [rV, Option.toList, List.cons_append, List.nil_append]
      exact rest _ ((hF.set (by omega)).set (by omega)) (by rw [sA_s]; exact weaS_E hg hB)
    · refine g_iload6 17 rfl dX10_pass_15 ?_
      refine g_ifne 26 20 rfl dX10_pass_17 (by decide) (fun _ => ?_) (fun h => absurd h (by decide))
      exact rest N hF hB
