/-! the class's calls: trenches, heaps, gaps, speeds, images, counts -/
def okT (d b y : Int32) : Prop := (1 ≤ d ∧ d ≤ 99) ∧ (0 ≤ b ∧ b ≤ 9) ∧ (0 ≤ y ∧ y ≤ 99)
def treN (a : Int32) : Nat → Int32
  | 0 => 0
  | i + 1 => treN a i + (a - treN a i + 3) / 4
noncomputable def fTrench (g : Sg) (d b y : Int32) : Int32 × Sg := (ifC (okT d b y) (treN (quo (10 * d) (2 + b)) (ce y)) (-102), g)
theorem le99 {y : Int32} (h0 : 0 ≤ y) (h1 : y ≤ 99) : ∃ k, k < 100 ∧ y = nI k := by
  rw [Int32.le_iff_toInt_le] at h0 h1
  rw [tI0] at h0
  have h20 : (99 : Int32).toInt = 99 := by decide
  obtain ⟨j, hj, rfl⟩ := vp_in_of (x := y) (n := 100) (vp_in_iff.mpr (by omega)) (by decide)
  exact ⟨j, hj, rfl⟩
theorem pub_trench {l : Launch} {M : Mm} {g : Sg} {d b y : Int32} (h : CS g M) : Ok GC l mX11_trench [.ref 0, .int d, .int b, .int y] M (qP (fTrench g d b y)) := by
  refine ok_of (by decide +kernel) rfl rfl ?_
  have bad : ¬ okT d b y → Go GC l mX11_trench 31 [.ref 0, .int d, .int b, .int y, .null, .null, .null] [] M (qP (fTrench g d b y)) := by
    intro hn
    refine g_bipush 33 rfl (v := (-102)) dX11_trench_31 (by decide) ?_
    refine g_iret rfl dX11_trench_33 ?_
    rw [fTrench, ifC_f hn]
    exact ⟨rfl, h⟩
  have good : okT d b y → Go GC l mX11_trench 34 [.ref 0, .int d, .int b, .int y, .null, .null, .null] [] M (qP (fTrench g d b y)) := by
    intro hg
    obtain ⟨k, hk, rfl⟩ := le99 hg.2.2.1 hg.2.2.2
    refine g_bipush 36 rfl (v := 10) dX11_trench_34 (by decide) ?_
    refine g_iload1 37 rfl dX11_trench_36 ?_
    refine g_imul 38 rfl dX11_trench_37 ?_
    refine g_iconst 39 rfl (v := 2) dX11_trench_38 (by decide) ?_
    refine g_iload2 40 rfl dX11_trench_39 ?_
    refine g_iadd 41 rfl dX11_trench_40 ?_
    refine g_callSi 44 2 rfl kX11_278 dX11_trench_41 ⟨rfl, rfl⟩ ok_X11_quotient rfl rfl rfl ?_
    refine g_istore4 46 rfl dX11_trench_44 rfl rfl ?_
    refine g_iconst 47 rfl (v := 0) dX11_trench_46 (by decide) ?_
    refine g_istore5 49 rfl dX11_trench_47 rfl rfl ?_
    refine g_iconst 50 rfl (v := 0) dX11_trench_49 (by decide) ?_
    refine g_istore6 52 rfl dX11_trench_50 rfl rfl ?_
    refine loop_up (P := fun i => Go GC l mX11_trench 52 [.ref 0, .int d, .int b, .int (nI k), .int (quo (10 * d) (2 + b)), .int (treN (quo (10 * d) (2 + b)) i), .int (nI i)] [] M (qP (fTrench g d b (nI k)))) k ?_ ?_ 0 (by omega)
    · refine g_iload6 54 rfl dX11_trench_52 ?_
      refine g_iload3 55 rfl dX11_trench_54 ?_
      refine g_cmpge 78 58 rfl dX11_trench_55 (by decide) (fun _ => ?_) (fun h => absurd (Int32.le_refl _) h)
      refine g_iload5 80 rfl dX11_trench_78 ?_
      refine g_iret rfl dX11_trench_80 ?_
      rw [fTrench, ifC_t hg, ce_nI (by omega)]
      exact ⟨rfl, h⟩
    · intro i hi ih
      refine g_iload6 54 rfl dX11_trench_52 ?_
      refine g_iload3 55 rfl dX11_trench_54 ?_
      refine g_cmpge 78 58 rfl dX11_trench_55 (by decide) (fun h => absurd h (nI_ge hi (by omega))) (fun _ => ?_)
      refine g_iload5 60 rfl dX11_trench_58 ?_
      refine g_iload4 62 rfl dX11_trench_60 ?_
      refine g_iload5 64 rfl dX11_trench_62 ?_
      refine g_isub 65 rfl dX11_trench_64 ?_
      refine g_iconst 66 rfl (v := 3) dX11_trench_65 (by decide) ?_
      refine g_iadd 67 rfl dX11_trench_66 ?_
      refine g_iconst 68 rfl (v := 4) dX11_trench_67 (by decide) ?_
      refine g_idiv 69 rfl dX11_trench_68 (by decide) ?_
      refine g_iadd 70 rfl dX11_trench_69 ?_
      refine g_istore5 72 rfl dX11_trench_70 rfl rfl ?_
      refine g_iinc6 75 rfl dX11_trench_72 rfl rfl _ (by first | exact iinc1 _ | exact iincx _ | rfl) ?_
      refine g_goto 52 dX11_trench_75 (by decide) ?_
      exact ih
  refine g_iload1 1 rfl dX11_trench_0 ?_
  refine g_iconst 2 rfl (v := 1) dX11_trench_1 (by decide) ?_
  refine g_cmplt 31 5 rfl dX11_trench_2 (by decide) (fun h2 => ?_) (fun h2 => ?_)
  · refine bad (fun q => ?_)
    first | exact absurd h2 (Int32.not_lt.mpr q.1.1) | exact absurd h8 (Int32.not_lt.mpr q.1.2) | exact absurd h12 (Int32.not_lt.mpr q.2.1.1) | exact absurd h18 (Int32.not_lt.mpr q.2.1.2) | exact absurd h22 (Int32.not_lt.mpr q.2.2.1) | exact h28 q.2.2.2
  · refine g_iload1 6 rfl dX11_trench_5 ?_
    refine g_bipush 8 rfl (v := 99) dX11_trench_6 (by decide) ?_
    refine g_cmpgt 31 11 rfl dX11_trench_8 (by decide) (fun h8 => ?_) (fun h8 => ?_)
    · refine bad (fun q => ?_)
      first | exact absurd h2 (Int32.not_lt.mpr q.1.1) | exact absurd h8 (Int32.not_lt.mpr q.1.2) | exact absurd h12 (Int32.not_lt.mpr q.2.1.1) | exact absurd h18 (Int32.not_lt.mpr q.2.1.2) | exact absurd h22 (Int32.not_lt.mpr q.2.2.1) | exact h28 q.2.2.2
    · refine g_iload2 12 rfl dX11_trench_11 ?_
      refine g_iflt 31 15 rfl dX11_trench_12 (by decide) (fun h12 => ?_) (fun h12 => ?_)
      · refine bad (fun q => ?_)
        first | exact absurd h2 (Int32.not_lt.mpr q.1.1) | exact absurd h8 (Int32.not_lt.mpr q.1.2) | exact absurd h12 (Int32.not_lt.mpr q.2.1.1) | exact absurd h18 (Int32.not_lt.mpr q.2.1.2) | exact absurd h22 (Int32.not_lt.mpr q.2.2.1) | exact h28 q.2.2.2
      · refine g_iload2 16 rfl dX11_trench_15 ?_
        refine g_bipush 18 rfl (v := 9) dX11_trench_16 (by decide) ?_
        refine g_cmpgt 31 21 rfl dX11_trench_18 (by decide) (fun h18 => ?_) (fun h18 => ?_)
        · refine bad (fun q => ?_)
          first | exact absurd h2 (Int32.not_lt.mpr q.1.1) | exact absurd h8 (Int32.not_lt.mpr q.1.2) | exact absurd h12 (Int32.not_lt.mpr q.2.1.1) | exact absurd h18 (Int32.not_lt.mpr q.2.1.2) | exact absurd h22 (Int32.not_lt.mpr q.2.2.1) | exact h28 q.2.2.2
        · refine g_iload3 22 rfl dX11_trench_21 ?_
          refine g_iflt 31 25 rfl dX11_trench_22 (by decide) (fun h22 => ?_) (fun h22 => ?_)
          · refine bad (fun q => ?_)
            first | exact absurd h2 (Int32.not_lt.mpr q.1.1) | exact absurd h8 (Int32.not_lt.mpr q.1.2) | exact absurd h12 (Int32.not_lt.mpr q.2.1.1) | exact absurd h18 (Int32.not_lt.mpr q.2.1.2) | exact absurd h22 (Int32.not_lt.mpr q.2.2.1) | exact h28 q.2.2.2
          · refine g_iload3 26 rfl dX11_trench_25 ?_
            refine g_bipush 28 rfl (v := 99) dX11_trench_26 (by decide) ?_
            refine g_cmple 34 31 rfl dX11_trench_28 (by decide) (fun h28 => ?_) (fun h28 => ?_)
            · exact good ⟨⟨Int32.not_lt.mp h2, Int32.not_lt.mp h8⟩, ⟨Int32.not_lt.mp h12, Int32.not_lt.mp h18⟩, Int32.not_lt.mp h22, h28⟩
            · refine bad (fun q => ?_)
              first | exact absurd h2 (Int32.not_lt.mpr q.1.1) | exact absurd h8 (Int32.not_lt.mpr q.1.2) | exact absurd h12 (Int32.not_lt.mpr q.2.1.1) | exact absurd h18 (Int32.not_lt.mpr q.2.1.2) | exact absurd h22 (Int32.not_lt.mpr q.2.2.1) | exact h28 q.2.2.2
def okG (n z s : Int32) : Prop := (1 ≤ n ∧ n ≤ 99) ∧ (1 ≤ z ∧ z ≤ 99) ∧ (0 ≤ s ∧ s ≤ 200)
noncomputable def fGaps (g : Sg) (n z s : Int32) : Int32 × Sg := (ifC (okG n z s) (quo ((n * z * s + 999) / 1000 + n) (n + 1)) (-102), g)
theorem pub_gaps {l : Launch} {M : Mm} {g : Sg} {n z s : Int32} (h : CS g M) : Ok GC l mX11_gaps [.ref 0, .int n, .int z, .int s] M (qP (fGaps g n z s)) := by
  refine ok_of (by decide +kernel) rfl rfl ?_
  refine g_iload1 1 rfl dX11_gaps_0 ?_
  refine g_iconst 2 rfl (v := 1) dX11_gaps_1 (by decide) ?_
  refine g_cmplt 33 5 rfl dX11_gaps_2 (by decide) (fun h2 => ?_) (fun h2 => ?_)
  · have hn : ¬ okG n z s := (fun q => by first | exact absurd h2 (Int32.not_lt.mpr q.1.1) | exact absurd h8 (Int32.not_lt.mpr q.1.2) | exact absurd h13 (Int32.not_lt.mpr q.2.1.1) | exact absurd h19 (Int32.not_lt.mpr q.2.1.2) | exact absurd h23 (Int32.not_lt.mpr q.2.2.1) | exact h30 q.2.2.2)
    refine g_bipush 35 rfl (v := (-102)) dX11_gaps_33 (by decide) ?_
    refine g_iret rfl dX11_gaps_35 ?_
    rw [fGaps, ifC_f hn]
    exact ⟨rfl, h⟩
  · refine g_iload1 6 rfl dX11_gaps_5 ?_
    refine g_bipush 8 rfl (v := 99) dX11_gaps_6 (by decide) ?_
    refine g_cmpgt 33 11 rfl dX11_gaps_8 (by decide) (fun h8 => ?_) (fun h8 => ?_)
    · have hn : ¬ okG n z s := (fun q => by first | exact absurd h2 (Int32.not_lt.mpr q.1.1) | exact absurd h8 (Int32.not_lt.mpr q.1.2) | exact absurd h13 (Int32.not_lt.mpr q.2.1.1) | exact absurd h19 (Int32.not_lt.mpr q.2.1.2) | exact absurd h23 (Int32.not_lt.mpr q.2.2.1) | exact h30 q.2.2.2)
      refine g_bipush 35 rfl (v := (-102)) dX11_gaps_33 (by decide) ?_
      refine g_iret rfl dX11_gaps_35 ?_
      rw [fGaps, ifC_f hn]
      exact ⟨rfl, h⟩
    · refine g_iload2 12 rfl dX11_gaps_11 ?_
      refine g_iconst 13 rfl (v := 1) dX11_gaps_12 (by decide) ?_
      refine g_cmplt 33 16 rfl dX11_gaps_13 (by decide) (fun h13 => ?_) (fun h13 => ?_)
      · have hn : ¬ okG n z s := (fun q => by first | exact absurd h2 (Int32.not_lt.mpr q.1.1) | exact absurd h8 (Int32.not_lt.mpr q.1.2) | exact absurd h13 (Int32.not_lt.mpr q.2.1.1) | exact absurd h19 (Int32.not_lt.mpr q.2.1.2) | exact absurd h23 (Int32.not_lt.mpr q.2.2.1) | exact h30 q.2.2.2)
        refine g_bipush 35 rfl (v := (-102)) dX11_gaps_33 (by decide) ?_
        refine g_iret rfl dX11_gaps_35 ?_
        rw [fGaps, ifC_f hn]
        exact ⟨rfl, h⟩
      · refine g_iload2 17 rfl dX11_gaps_16 ?_
        refine g_bipush 19 rfl (v := 99) dX11_gaps_17 (by decide) ?_
        refine g_cmpgt 33 22 rfl dX11_gaps_19 (by decide) (fun h19 => ?_) (fun h19 => ?_)
        · have hn : ¬ okG n z s := (fun q => by first | exact absurd h2 (Int32.not_lt.mpr q.1.1) | exact absurd h8 (Int32.not_lt.mpr q.1.2) | exact absurd h13 (Int32.not_lt.mpr q.2.1.1) | exact absurd h19 (Int32.not_lt.mpr q.2.1.2) | exact absurd h23 (Int32.not_lt.mpr q.2.2.1) | exact h30 q.2.2.2)
          refine g_bipush 35 rfl (v := (-102)) dX11_gaps_33 (by decide) ?_
          refine g_iret rfl dX11_gaps_35 ?_
          rw [fGaps, ifC_f hn]
          exact ⟨rfl, h⟩
        · refine g_iload3 23 rfl dX11_gaps_22 ?_
          refine g_iflt 33 26 rfl dX11_gaps_23 (by decide) (fun h23 => ?_) (fun h23 => ?_)
          · have hn : ¬ okG n z s := (fun q => by first | exact absurd h2 (Int32.not_lt.mpr q.1.1) | exact absurd h8 (Int32.not_lt.mpr q.1.2) | exact absurd h13 (Int32.not_lt.mpr q.2.1.1) | exact absurd h19 (Int32.not_lt.mpr q.2.1.2) | exact absurd h23 (Int32.not_lt.mpr q.2.2.1) | exact h30 q.2.2.2)
            refine g_bipush 35 rfl (v := (-102)) dX11_gaps_33 (by decide) ?_
            refine g_iret rfl dX11_gaps_35 ?_
            rw [fGaps, ifC_f hn]
            exact ⟨rfl, h⟩
          · refine g_iload3 27 rfl dX11_gaps_26 ?_
            refine g_sipush 30 rfl (v := 200) dX11_gaps_27 (by decide) ?_
            refine g_cmple 36 33 rfl dX11_gaps_30 (by decide) (fun h30 => ?_) (fun h30 => ?_)
            · refine g_iload1 37 rfl dX11_gaps_36 ?_
              refine g_iload2 38 rfl dX11_gaps_37 ?_
              refine g_imul 39 rfl dX11_gaps_38 ?_
              refine g_iload3 40 rfl dX11_gaps_39 ?_
              refine g_imul 41 rfl dX11_gaps_40 ?_
              refine g_sipush 44 rfl (v := 999) dX11_gaps_41 (by decide) ?_
              refine g_iadd 45 rfl dX11_gaps_44 ?_
              refine g_sipush 48 rfl (v := 1000) dX11_gaps_45 (by decide) ?_
              refine g_idiv 49 rfl dX11_gaps_48 (by decide) ?_
              refine g_istore4 51 rfl dX11_gaps_49 rfl rfl ?_
              refine g_iload4 53 rfl dX11_gaps_51 ?_
              refine g_iload1 54 rfl dX11_gaps_53 ?_
              refine g_iadd 55 rfl dX11_gaps_54 ?_
              refine g_iload1 56 rfl dX11_gaps_55 ?_
              refine g_iconst 57 rfl (v := 1) dX11_gaps_56 (by decide) ?_
              refine g_iadd 58 rfl dX11_gaps_57 ?_
              refine g_callSi 61 2 rfl kX11_278 dX11_gaps_58 ⟨rfl, rfl⟩ ok_X11_quotient rfl rfl rfl ?_
              refine g_iret rfl dX11_gaps_61 ?_
              rw [fGaps, ifC_t ⟨⟨Int32.not_lt.mp h2, Int32.not_lt.mp h8⟩, ⟨Int32.not_lt.mp h13, Int32.not_lt.mp h19⟩, Int32.not_lt.mp h23, h30⟩]
              exact ⟨rfl, h⟩
            · have hn : ¬ okG n z s := (fun q => by first | exact absurd h2 (Int32.not_lt.mpr q.1.1) | exact absurd h8 (Int32.not_lt.mpr q.1.2) | exact absurd h13 (Int32.not_lt.mpr q.2.1.1) | exact absurd h19 (Int32.not_lt.mpr q.2.1.2) | exact absurd h23 (Int32.not_lt.mpr q.2.2.1) | exact h30 q.2.2.2)
              refine g_bipush 35 rfl (v := (-102)) dX11_gaps_33 (by decide) ?_
              refine g_iret rfl dX11_gaps_35 ?_
              rw [fGaps, ifC_f hn]
              exact ⟨rfl, h⟩
theorem CS.hp {g : Sg} {M : Mm} (h : CS g M) : Hp M (gM g) (gZ g) := h.2.2.2.2.1
theorem CS.hea {g : Sg} {M : Mm} {m : Nat} {z f k a : Nat → Int32} (h : CS g M) (hz : Hp (setA (setA (setA M 42 f) 43 k) 44 a) m z) : CS (sgH g m z) (setA (setA (setA M 42 f) 43 k) 44 a) := by
  obtain ⟨h1, h2, h3, h4, h5, h6, h7, h8, h9, h10⟩ := h
  have e : ∀ q, q < 42 → (setA (setA (setA M 42 f) 43 k) 44 a).1 q = M.1 q := fun q hq => by rw [sA_n (by omega), sA_n (by omega), sA_n (by omega)]
  have v15 : vC (setA (setA (setA M 42 f) 43 k) 44 a) 15 = vC M 15 := by unfold vC; rw [e (15 + 1) (by omega), e (15 + 2) (by omega), e (15 + 3) (by omega), e (15 + 4) (by omega), e (15 + 5) (by omega), e 15 (by omega)]
  have v27 : vC (setA (setA (setA M 42 f) 43 k) 44 a) 27 = vC M 27 := by unfold vC; rw [e (27 + 1) (by omega), e (27 + 2) (by omega), e (27 + 3) (by omega), e (27 + 4) (by omega), e (27 + 5) (by omega), e 27 (by omega)]
  refine ⟨?_, by rw [v15]; exact h2, ?_, ?_, hz, by rw [e 0 (by omega)]; exact h6, by rw [e 0 (by omega)]; exact h7, by rw [v27]; exact h8, by rw [e 0 (by omega)]; exact h9, h10⟩
  · unfold Plan; rw [e 12 (by omega), e 13 (by omega), e 14 (by omega)]; exact h1
  · unfold Pg; rw [e 1 (by omega), e 2 (by omega)]; exact h3
  · unfold Crt; rw [e 9 (by omega), e (9 + 1) (by omega), e (9 + 2) (by omega)]; exact h4
noncomputable def fHeap (g : Sg) (v : Int32) : Int32 × Sg := ifC (okZ v) (ifC (gM g < 10) (nI (gM g + 1), sgH g (gM g + 1) (upd (gZ g) (gM g) v)) (-104, g)) (-102, g)
theorem pub_heap {l : Launch} {M : Mm} {g : Sg} {v : Int32} (h : CS g M) : Ok GC l mX11_heap [.ref 0, .int v] M (qP (fHeap g v)) := by
  have hm := h.hp.1
  refine ok_of (by decide +kernel) rfl rfl ?_
  refine g_iload1 1 rfl dX11_heap_0 ?_
  refine g_callS 4 1 rfl kX11_254 dX11_heap_1 ⟨rfl, rfl⟩ ok_isSize rfl rfl rfl (fun r M1 hq => ?_)
  obtain ⟨rfl, ⟨rfl, hq⟩ | ⟨rfl, hq⟩⟩ := hq
  try simp only [rV, Option.toList, List.cons_append, List.nil_append]
  · refine g_ifne 10 7 rfl dX11_heap_4 (by decide) (fun _ => ?_) (fun h => absurd h (by decide))
    refine g_aload0 11 rfl dX11_heap_10 ?_
    refine g_getR 14 rfl fX11_88 (by first | rfl | exact st_o hb | exact st_1 hb | exact st_2 hb | exact st_3 hb | exact st_4 hb | exact st_5 hb | exact st_o hb2 | exact st_1 hb2 | exact st_2 hb2 | exact st_3 hb2 | exact st_4 hb2 | exact st_5 hb2) rfl dX11_heap_11 ?_
    refine g_getI 17 rfl fX11_281 (by first | rfl | exact st_o hb | exact st_1 hb | exact st_2 hb | exact st_3 hb | exact st_4 hb | exact st_5 hb | exact st_o hb2 | exact st_1 hb2 | exact st_2 hb2 | exact st_3 hb2 | exact st_4 hb2 | exact st_5 hb2) rfl dX11_heap_14 ?_
    rw [h.hp.2.1]
    refine g_bipush 19 rfl (v := 10) dX11_heap_17 (by decide) ?_
    refine g_cmplt 25 22 rfl dX11_heap_19 (by decide) (fun h19 => ?_) (fun h19 => ?_)
    · have hlt : gM g < 10 := (nI_ltI (by omega) (by decide)).mp h19
      refine g_aload0 26 rfl dX11_heap_25 ?_
      refine g_getR 29 rfl fX11_88 (by first | rfl | exact st_o hb | exact st_1 hb | exact st_2 hb | exact st_3 hb | exact st_4 hb | exact st_5 hb | exact st_o hb2 | exact st_1 hb2 | exact st_2 hb2 | exact st_3 hb2 | exact st_4 hb2 | exact st_5 hb2) rfl dX11_heap_26 ?_
      refine g_iload1 30 rfl dX11_heap_29 ?_
      refine g_callV 33 1 rfl kX11_282 (by first | rfl | exact st_o hb | exact st_1 hb | exact st_2 hb | exact st_3 hb | exact st_4 hb | exact st_5 hb | exact st_o hb2 | exact st_1 hb2 | exact st_2 hb2 | exact st_3 hb2 | exact st_4 hb2 | exact st_5 hb2) dX11_heap_30 ⟨rfl, rfl⟩ (ok_X1_put h.hp hlt) rfl rfl rfl (fun r M1 hq => ?_)
      obtain ⟨rfl, f, k, a, rfl, hz⟩ := hq
      try simp only [rV, Option.toList, List.cons_append, List.nil_append]
      refine g_aload0 34 rfl dX11_heap_33 ?_
      refine g_getR 37 rfl fX11_88 (by first | rfl | exact st_o hb | exact st_1 hb | exact st_2 hb | exact st_3 hb | exact st_4 hb | exact st_5 hb | exact st_o hb2 | exact st_1 hb2 | exact st_2 hb2 | exact st_3 hb2 | exact st_4 hb2 | exact st_5 hb2) rfl dX11_heap_34 ?_
      refine g_getI 40 rfl fX11_281 (by first | rfl | exact st_o hb | exact st_1 hb | exact st_2 hb | exact st_3 hb | exact st_4 hb | exact st_5 hb | exact st_o hb2 | exact st_1 hb2 | exact st_2 hb2 | exact st_3 hb2 | exact st_4 hb2 | exact st_5 hb2) rfl dX11_heap_37 ?_
      refine g_iret rfl dX11_heap_40 ?_
      rw [fHeap, ifC_t hq, ifC_t hlt]
      exact ⟨by rw [hz.2.1], h.hea hz⟩
    · have hlt : ¬ gM g < 10 := fun q => h19 (nI_lt q (by decide))
      refine g_bipush 24 rfl (v := (-104)) dX11_heap_22 (by decide) ?_
      refine g_iret rfl dX11_heap_24 ?_
      rw [fHeap, ifC_t hq, ifC_f hlt]
      exact ⟨rfl, h⟩
  · refine g_ifne 10 7 rfl dX11_heap_4 (by decide) (fun h => absurd rfl h) (fun _ => ?_)
    refine g_bipush 9 rfl (v := (-102)) dX11_heap_7 (by decide) ?_
    refine g_iret rfl dX11_heap_9 ?_
    rw [fHeap, ifC_f hq]
    exact ⟨rfl, h⟩
def okF (o w : Int32) : Prop := (0 ≤ o ∧ o ≤ 90) ∧ (0 ≤ w ∧ w ≤ 1)
noncomputable def fFits (g : Sg) (o w : Int32) : Int32 × Sg := (ifC (okF o w) (ifC (w = 0) (nI (choN (gZ g) (gM g) o (2 ^ gM g - 1))) (wid (gZ g) (choN (gZ g) (gM g) o (2 ^ gM g - 1)) (gM g))) (-102), g)
theorem pub_fits {l : Launch} {M : Mm} {g : Sg} {o w : Int32} (h : CS g M) : Ok GC l mX11_fits [.ref 0, .int o, .int w] M (qP (fFits g o w)) := by
  refine ok_of (by decide +kernel) rfl rfl ?_
  have good : okF o w → Go GC l mX11_fits 22 [.ref 0, .int o, .int w] [] M (qP (fFits g o w)) := by
    intro hg
    have hM : ∀ f, f 2 = nI (gM g) → CS g (setA M 42 f) := by
      intro f hf
      have hz : Hp (setA (setA (setA M 42 f) 43 (M.1 43)) 44 (M.1 44)) (gM g) (gZ g) := by
        refine ⟨h.hp.1, by rw [sA_n (by decide), sA_n (by decide), sA_s]; exact hf, fun i hi => ?_⟩
        rw [sA_n (by decide), sA_s, sA_s]
        exact h.hp.2.2 i hi
      have := h.hea hz
      rw [← show (setA M 42 f).1 43 = M.1 43 from sA_n (by decide), sA_id, ← show (setA M 42 f).1 44 = M.1 44 from sA_n (by decide), sA_id] at this
      exact this
    refine g_aload0 23 rfl dX11_fits_22 ?_
    refine g_getR 26 rfl fX11_88 (by first | rfl | exact st_o hb | exact st_1 hb | exact st_2 hb | exact st_3 hb | exact st_4 hb | exact st_5 hb | exact st_o hb2 | exact st_1 hb2 | exact st_2 hb2 | exact st_3 hb2 | exact st_4 hb2 | exact st_5 hb2) rfl dX11_fits_23 ?_
    refine g_iload1 27 rfl dX11_fits_26 ?_
    refine g_callV 30 1 rfl kX11_285 (by first | rfl | exact st_o hb | exact st_1 hb | exact st_2 hb | exact st_3 hb | exact st_4 hb | exact st_5 hb | exact st_o hb2 | exact st_1 hb2 | exact st_2 hb2 | exact st_3 hb2 | exact st_4 hb2 | exact st_5 hb2) dX11_fits_27 ⟨rfl, rfl⟩ (ok_X1_choose h.hp hg.1.1) rfl rfl rfl (fun r M1 hq => ?_)
    obtain ⟨rfl, f, rfl, e2, e3, e4⟩ := hq
    try simp only [rV, Option.toList, List.cons_append, List.nil_append]
    refine g_iload2 31 rfl dX11_fits_30 ?_
    refine g_ifne 44 34 rfl dX11_fits_31 (by decide) (fun h31 => ?_) (fun h31 => ?_)
    · refine g_aload0 45 rfl dX11_fits_44 ?_
      refine g_getR 48 rfl fX11_88 (by first | rfl | exact st_o hb | exact st_1 hb | exact st_2 hb | exact st_3 hb | exact st_4 hb | exact st_5 hb | exact st_o hb2 | exact st_1 hb2 | exact st_2 hb2 | exact st_3 hb2 | exact st_4 hb2 | exact st_5 hb2) rfl dX11_fits_45 ?_
      refine g_getI 51 rfl fX11_291 (by first | rfl | exact st_o hb | exact st_1 hb | exact st_2 hb | exact st_3 hb | exact st_4 hb | exact st_5 hb | exact st_o hb2 | exact st_1 hb2 | exact st_2 hb2 | exact st_3 hb2 | exact st_4 hb2 | exact st_5 hb2) rfl dX11_fits_48 ?_
      try simp only [sA_s, e3, e4]
      refine g_iret rfl dX11_fits_51 ?_
      rw [fFits, ifC_t hg]
      first | rw [ifC_t h31] | rw [ifC_f h31]
      exact ⟨rfl, hM f e2⟩
    · refine g_aload0 35 rfl dX11_fits_34 ?_
      refine g_getR 38 rfl fX11_88 (by first | rfl | exact st_o hb | exact st_1 hb | exact st_2 hb | exact st_3 hb | exact st_4 hb | exact st_5 hb | exact st_o hb2 | exact st_1 hb2 | exact st_2 hb2 | exact st_3 hb2 | exact st_4 hb2 | exact st_5 hb2) rfl dX11_fits_35 ?_
      refine g_getI 41 rfl fX11_288 (by first | rfl | exact st_o hb | exact st_1 hb | exact st_2 hb | exact st_3 hb | exact st_4 hb | exact st_5 hb | exact st_o hb2 | exact st_1 hb2 | exact st_2 hb2 | exact st_3 hb2 | exact st_4 hb2 | exact st_5 hb2) rfl dX11_fits_38 ?_
      try simp only [sA_s, e3, e4]
      refine g_goto 51 dX11_fits_41 (by decide) ?_
      refine g_iret rfl dX11_fits_51 ?_
      rw [fFits, ifC_t hg]
      first | rw [ifC_t h31] | rw [ifC_f h31]
      exact ⟨rfl, hM f e2⟩
  refine g_iload1 1 rfl dX11_fits_0 ?_
  refine g_iflt 19 4 rfl dX11_fits_1 (by decide) (fun h1 => ?_) (fun h1 => ?_)
  · have hn : ¬ okF o w := (fun q => by first | exact absurd h1 (Int32.not_lt.mpr q.1.1) | exact absurd h7 (Int32.not_lt.mpr q.1.2) | exact absurd h11 (Int32.not_lt.mpr q.2.1) | exact h16 q.2.2)
    refine g_bipush 21 rfl (v := (-102)) dX11_fits_19 (by decide) ?_
    refine g_iret rfl dX11_fits_21 ?_
    rw [fFits, ifC_f hn]
    exact ⟨rfl, h⟩
  · refine g_iload1 5 rfl dX11_fits_4 ?_
    refine g_bipush 7 rfl (v := 90) dX11_fits_5 (by decide) ?_
    refine g_cmpgt 19 10 rfl dX11_fits_7 (by decide) (fun h7 => ?_) (fun h7 => ?_)
    · have hn : ¬ okF o w := (fun q => by first | exact absurd h1 (Int32.not_lt.mpr q.1.1) | exact absurd h7 (Int32.not_lt.mpr q.1.2) | exact absurd h11 (Int32.not_lt.mpr q.2.1) | exact h16 q.2.2)
      refine g_bipush 21 rfl (v := (-102)) dX11_fits_19 (by decide) ?_
      refine g_iret rfl dX11_fits_21 ?_
      rw [fFits, ifC_f hn]
      exact ⟨rfl, h⟩
    · refine g_iload2 11 rfl dX11_fits_10 ?_
      refine g_iflt 19 14 rfl dX11_fits_11 (by decide) (fun h11 => ?_) (fun h11 => ?_)
      · have hn : ¬ okF o w := (fun q => by first | exact absurd h1 (Int32.not_lt.mpr q.1.1) | exact absurd h7 (Int32.not_lt.mpr q.1.2) | exact absurd h11 (Int32.not_lt.mpr q.2.1) | exact h16 q.2.2)
        refine g_bipush 21 rfl (v := (-102)) dX11_fits_19 (by decide) ?_
        refine g_iret rfl dX11_fits_21 ?_
        rw [fFits, ifC_f hn]
        exact ⟨rfl, h⟩
      · refine g_iload2 15 rfl dX11_fits_14 ?_
        refine g_iconst 16 rfl (v := 1) dX11_fits_15 (by decide) ?_
        refine g_cmple 22 19 rfl dX11_fits_16 (by decide) (fun h16 => ?_) (fun h16 => ?_)
        · exact good ⟨⟨Int32.not_lt.mp h1, Int32.not_lt.mp h7⟩, Int32.not_lt.mp h11, h16⟩
        · have hn : ¬ okF o w := (fun q => by first | exact absurd h1 (Int32.not_lt.mpr q.1.1) | exact absurd h7 (Int32.not_lt.mpr q.1.2) | exact absurd h11 (Int32.not_lt.mpr q.2.1) | exact h16 q.2.2)
          refine g_bipush 21 rfl (v := (-102)) dX11_fits_19 (by decide) ?_
          refine g_iret rfl dX11_fits_21 ?_
          rw [fFits, ifC_f hn]
          exact ⟨rfl, h⟩
noncomputable def fCount (g : Sg) (q : Int32) : Int32 × Sg := (if q = 0 then nI (gN g) else if q = 1 then stoN (gX g) (gN g) else if q = 2 then nI (gK g).1 else if q = 3 then nI (gM g) else if q = 4 then nI (gL g) else if q = 5 then sD (gX g) else if q = 6 then nI (gS g) else if q = 7 then nI (gF g) else -102, g)
theorem cnt_out {g : Sg} {q : Int32} (h : q.toInt < 0 ∨ 7 < q.toInt) : fCount g q = (-102, g) := by
  unfold fCount
  repeat' split
  all_goals (first | rfl | (subst_vars; exact absurd h (by decide)))
theorem pub_count {l : Launch} {M : Mm} {g : Sg} {q : Int32} (h : CS g M) : Ok GC l mX11_count [.ref 0, .int q] M (qP (fCount g q)) := by
  have hb : isSt 15 := Or.inl rfl
  have ht := ok_X7_stones (l := l) (x := vC M 15) hb h.p
  rw [pC_vC] at ht
  have e0 := h.p.2.2.2.1
  have e2 := h.k.2.1
  have e3 := h.hp.2.1
  have e4 := h.2.2.1.2.1
  have e5 : M.1 15 6 = sD (gX g) := h.x.D
  have e6 := h.2.2.2.2.2.1
  have e7 := h.2.2.2.2.2.2.2.2.1
  refine ok_of (by decide +kernel) rfl rfl ?_
  refine g_iload1 1 rfl dX11_count_0 ?_
  refine g_tab8 0 1 2 3 4 5 6 7 106 48 56 64 72 80 88 96 101 dX11_count_1 (by decide) (by decide) (by decide) (by decide) (by decide) (by decide) (by decide) (by decide) (by decide) (by decide) (by decide) (by decide) (by decide) (by decide) (by decide) (by decide) (by decide) (by decide) (fun h1 => ?_) (fun h1 => ?_) (fun h1 => ?_) (fun h1 => ?_) (fun h1 => ?_) (fun h1 => ?_) (fun h1 => ?_) (fun h1 => ?_) (fun h1 => ?_)
  · refine g_bipush 108 rfl (v := (-102)) dX11_count_106 (by decide) ?_
    refine g_iret rfl dX11_count_108 ?_
    first | (rw [cnt_out h1]; exact ⟨rfl, h⟩) | (subst h1; exact ⟨rfl, h⟩) | (subst h1; exact ⟨by rw [stoN_E h.x _ (Nat.le_refl _)]; rfl, h⟩)
  · refine g_aload0 49 rfl dX11_count_48 ?_
    refine g_getR 52 rfl fX11_36 (by first | rfl | exact st_o hb | exact st_1 hb | exact st_2 hb | exact st_3 hb | exact st_4 hb | exact st_5 hb | exact st_o hb2 | exact st_1 hb2 | exact st_2 hb2 | exact st_3 hb2 | exact st_4 hb2 | exact st_5 hb2) rfl dX11_count_49 ?_
    refine g_getI 55 rfl fX11_144 (by first | rfl | exact st_o hb | exact st_1 hb | exact st_2 hb | exact st_3 hb | exact st_4 hb | exact st_5 hb | exact st_o hb2 | exact st_1 hb2 | exact st_2 hb2 | exact st_3 hb2 | exact st_4 hb2 | exact st_5 hb2) rfl dX11_count_52 ?_
    try simp only [e0, e2, e3, e4, e5, e6, e7]
    refine g_iret rfl dX11_count_55 ?_
    first | (rw [cnt_out h1]; exact ⟨rfl, h⟩) | (subst h1; exact ⟨rfl, h⟩) | (subst h1; exact ⟨by rw [stoN_E h.x _ (Nat.le_refl _)]; rfl, h⟩)
  · refine g_aload0 57 rfl dX11_count_56 ?_
    refine g_getR 60 rfl fX11_45 (by first | rfl | exact st_o hb | exact st_1 hb | exact st_2 hb | exact st_3 hb | exact st_4 hb | exact st_5 hb | exact st_o hb2 | exact st_1 hb2 | exact st_2 hb2 | exact st_3 hb2 | exact st_4 hb2 | exact st_5 hb2) rfl dX11_count_57 ?_
    refine g_callVi 63 0 rfl kX11_178 (by first | rfl | exact st_o hb | exact st_1 hb | exact st_2 hb | exact st_3 hb | exact st_4 hb | exact st_5 hb | exact st_o hb2 | exact st_1 hb2 | exact st_2 hb2 | exact st_3 hb2 | exact st_4 hb2 | exact st_5 hb2) dX11_count_60 ⟨rfl, rfl⟩ ht rfl rfl rfl ?_
    refine g_iret rfl dX11_count_63 ?_
    first | (rw [cnt_out h1]; exact ⟨rfl, h⟩) | (subst h1; exact ⟨rfl, h⟩) | (subst h1; exact ⟨by rw [stoN_E h.x _ (Nat.le_refl _)]; rfl, h⟩)
  · refine g_aload0 65 rfl dX11_count_64 ?_
    refine g_getR 68 rfl fX11_30 (by first | rfl | exact st_o hb | exact st_1 hb | exact st_2 hb | exact st_3 hb | exact st_4 hb | exact st_5 hb | exact st_o hb2 | exact st_1 hb2 | exact st_2 hb2 | exact st_3 hb2 | exact st_4 hb2 | exact st_5 hb2) rfl dX11_count_65 ?_
    refine g_getI 71 rfl fX11_152 (by first | rfl | exact st_o hb | exact st_1 hb | exact st_2 hb | exact st_3 hb | exact st_4 hb | exact st_5 hb | exact st_o hb2 | exact st_1 hb2 | exact st_2 hb2 | exact st_3 hb2 | exact st_4 hb2 | exact st_5 hb2) rfl dX11_count_68 ?_
    try simp only [e0, e2, e3, e4, e5, e6, e7]
    refine g_iret rfl dX11_count_71 ?_
    first | (rw [cnt_out h1]; exact ⟨rfl, h⟩) | (subst h1; exact ⟨rfl, h⟩) | (subst h1; exact ⟨by rw [stoN_E h.x _ (Nat.le_refl _)]; rfl, h⟩)
  · refine g_aload0 73 rfl dX11_count_72 ?_
    refine g_getR 76 rfl fX11_88 (by first | rfl | exact st_o hb | exact st_1 hb | exact st_2 hb | exact st_3 hb | exact st_4 hb | exact st_5 hb | exact st_o hb2 | exact st_1 hb2 | exact st_2 hb2 | exact st_3 hb2 | exact st_4 hb2 | exact st_5 hb2) rfl dX11_count_73 ?_
    refine g_getI 79 rfl fX11_281 (by first | rfl | exact st_o hb | exact st_1 hb | exact st_2 hb | exact st_3 hb | exact st_4 hb | exact st_5 hb | exact st_o hb2 | exact st_1 hb2 | exact st_2 hb2 | exact st_3 hb2 | exact st_4 hb2 | exact st_5 hb2) rfl dX11_count_76 ?_
    try simp only [e0, e2, e3, e4, e5, e6, e7]
    refine g_iret rfl dX11_count_79 ?_
    first | (rw [cnt_out h1]; exact ⟨rfl, h⟩) | (subst h1; exact ⟨rfl, h⟩) | (subst h1; exact ⟨by rw [stoN_E h.x _ (Nat.le_refl _)]; rfl, h⟩)
  · refine g_aload0 81 rfl dX11_count_80 ?_
    refine g_getR 84 rfl fX11_12 (by first | rfl | exact st_o hb | exact st_1 hb | exact st_2 hb | exact st_3 hb | exact st_4 hb | exact st_5 hb | exact st_o hb2 | exact st_1 hb2 | exact st_2 hb2 | exact st_3 hb2 | exact st_4 hb2 | exact st_5 hb2) rfl dX11_count_81 ?_
    refine g_getI 87 rfl fX11_110 (by first | rfl | exact st_o hb | exact st_1 hb | exact st_2 hb | exact st_3 hb | exact st_4 hb | exact st_5 hb | exact st_o hb2 | exact st_1 hb2 | exact st_2 hb2 | exact st_3 hb2 | exact st_4 hb2 | exact st_5 hb2) rfl dX11_count_84 ?_
    try simp only [e0, e2, e3, e4, e5, e6, e7]
    refine g_iret rfl dX11_count_87 ?_
    first | (rw [cnt_out h1]; exact ⟨rfl, h⟩) | (subst h1; exact ⟨rfl, h⟩) | (subst h1; exact ⟨by rw [stoN_E h.x _ (Nat.le_refl _)]; rfl, h⟩)
  · refine g_aload0 89 rfl dX11_count_88 ?_
    refine g_getR 92 rfl fX11_45 (by first | rfl | exact st_o hb | exact st_1 hb | exact st_2 hb | exact st_3 hb | exact st_4 hb | exact st_5 hb | exact st_o hb2 | exact st_1 hb2 | exact st_2 hb2 | exact st_3 hb2 | exact st_4 hb2 | exact st_5 hb2) rfl dX11_count_89 ?_
    refine g_getI 95 rfl fX11_241 (by first | rfl | exact st_o hb | exact st_1 hb | exact st_2 hb | exact st_3 hb | exact st_4 hb | exact st_5 hb | exact st_o hb2 | exact st_1 hb2 | exact st_2 hb2 | exact st_3 hb2 | exact st_4 hb2 | exact st_5 hb2) rfl dX11_count_92 ?_
    try simp only [e0, e2, e3, e4, e5, e6, e7]
    refine g_iret rfl dX11_count_95 ?_
    first | (rw [cnt_out h1]; exact ⟨rfl, h⟩) | (subst h1; exact ⟨rfl, h⟩) | (subst h1; exact ⟨by rw [stoN_E h.x _ (Nat.le_refl _)]; rfl, h⟩)
  · refine g_aload0 97 rfl dX11_count_96 ?_
    refine g_getI 100 rfl fX11_96 (by first | rfl | exact st_o hb | exact st_1 hb | exact st_2 hb | exact st_3 hb | exact st_4 hb | exact st_5 hb | exact st_o hb2 | exact st_1 hb2 | exact st_2 hb2 | exact st_3 hb2 | exact st_4 hb2 | exact st_5 hb2) rfl dX11_count_97 ?_
    try simp only [e0, e2, e3, e4, e5, e6, e7]
    refine g_iret rfl dX11_count_100 ?_
    first | (rw [cnt_out h1]; exact ⟨rfl, h⟩) | (subst h1; exact ⟨rfl, h⟩) | (subst h1; exact ⟨by rw [stoN_E h.x _ (Nat.le_refl _)]; rfl, h⟩)
  · refine g_aload0 102 rfl dX11_count_101 ?_
    refine g_getI 105 rfl fX11_103 (by first | rfl | exact st_o hb | exact st_1 hb | exact st_2 hb | exact st_3 hb | exact st_4 hb | exact st_5 hb | exact st_o hb2 | exact st_1 hb2 | exact st_2 hb2 | exact st_3 hb2 | exact st_4 hb2 | exact st_5 hb2) rfl dX11_count_102 ?_
    try simp only [e0, e2, e3, e4, e5, e6, e7]
    refine g_iret rfl dX11_count_105 ?_
    first | (rw [cnt_out h1]; exact ⟨rfl, h⟩) | (subst h1; exact ⟨rfl, h⟩) | (subst h1; exact ⟨by rw [stoN_E h.x _ (Nat.le_refl _)]; rfl, h⟩)
noncomputable def fCart (g : Sg) (a q : Int32) : Int32 × Sg := (ifC (vp_in a (gK g).1) (ifC (q = 0) (nI ((gK g).2.1 (ce a))) (ifC (q = 1) ((gK g).2.2 (ce a)) (-102))) (-101), g)
theorem pub_cart {l : Launch} {M : Mm} {g : Sg} {a q : Int32} (h : CS g M) : Ok GC l mX11_cart [.ref 0, .int a, .int q] M (qP (fCart g a q)) := by
  have h6 := h.k.1
  have e2 := h.k.2.1
  refine ok_of (by decide +kernel) rfl rfl ?_
  have bad : ¬ vp_in a (gK g).1 → Go GC l mX11_cart 15 [.ref 0, .int a, .int q] [] M (qP (fCart g a q)) := by
    intro hn
    refine g_bipush 17 rfl (v := (-101)) dX11_cart_15 (by decide) ?_
    refine g_iret rfl dX11_cart_17 ?_
    rw [fCart, ifC_f hn]
    exact ⟨rfl, h⟩
  refine g_iload1 1 rfl dX11_cart_0 ?_
  refine g_iflt 15 4 rfl dX11_cart_1 (by decide) (fun h1 => bad (fun z => ((in_nI (by omega)).mp z).1 h1)) (fun h1 => ?_)
  refine g_iload1 5 rfl dX11_cart_4 ?_
  refine g_aload0 6 rfl dX11_cart_5 ?_
  refine g_getR 9 rfl fX11_30 (by first | rfl | exact st_o hb | exact st_1 hb | exact st_2 hb | exact st_3 hb | exact st_4 hb | exact st_5 hb | exact st_o hb2 | exact st_1 hb2 | exact st_2 hb2 | exact st_3 hb2 | exact st_4 hb2 | exact st_5 hb2) rfl dX11_cart_6 ?_
  refine g_getI 12 rfl fX11_152 (by first | rfl | exact st_o hb | exact st_1 hb | exact st_2 hb | exact st_3 hb | exact st_4 hb | exact st_5 hb | exact st_o hb2 | exact st_1 hb2 | exact st_2 hb2 | exact st_3 hb2 | exact st_4 hb2 | exact st_5 hb2) rfl dX11_cart_9 ?_
  try simp only [e2]
  refine g_cmplt 18 15 rfl dX11_cart_12 (by decide) (fun h12 => ?_) (fun h12 => bad (fun z => ((in_nI (by omega)).mp z).2 (Int32.not_lt.mp h12)))
  have hq : vp_in a (gK g).1 := (in_nI (by omega)).mpr ⟨h1, Int32.not_le.mpr h12⟩
  obtain ⟨c, hc, rfl⟩ := vp_in_of hq (by omega)
  have hr := h.k.2.2 c hc
  refine g_iload2 19 rfl dX11_cart_18 ?_
  refine g_ifne 32 22 rfl dX11_cart_19 (by decide) (fun h19 => ?_) (fun h19 => ?_)
  · refine g_iload2 33 rfl dX11_cart_32 ?_
    refine g_iconst 34 rfl (v := 1) dX11_cart_33 (by decide) ?_
    refine g_cmpne 47 37 rfl dX11_cart_34 (by decide) (fun h34 => ?_) (fun h34 => ?_)
    · refine g_bipush 49 rfl (v := (-102)) dX11_cart_47 (by decide) ?_
      refine g_iret rfl dX11_cart_49 ?_
      rw [fCart, ifC_t hq, ce_nI (by omega)]
      first | (rw [ifC_t h19]; exact ⟨by rw [← hr.1], h⟩) | (rw [ifC_f h19, ifC_t h34]; exact ⟨by rw [← hr.2.1], h⟩) | (rw [ifC_f h19, ifC_f h34]; exact ⟨rfl, h⟩)
    · refine g_aload0 38 rfl dX11_cart_37 ?_
      refine g_getR 41 rfl fX11_30 (by first | rfl | exact st_o hb | exact st_1 hb | exact st_2 hb | exact st_3 hb | exact st_4 hb | exact st_5 hb | exact st_o hb2 | exact st_1 hb2 | exact st_2 hb2 | exact st_3 hb2 | exact st_4 hb2 | exact st_5 hb2) rfl dX11_cart_38 ?_
      refine g_getR 44 rfl fX11_157 (by first | rfl | exact st_o hb | exact st_1 hb | exact st_2 hb | exact st_3 hb | exact st_4 hb | exact st_5 hb | exact st_o hb2 | exact st_1 hb2 | exact st_2 hb2 | exact st_3 hb2 | exact st_4 hb2 | exact st_5 hb2) rfl dX11_cart_41 ?_
      refine g_iload1 45 rfl dX11_cart_44 ?_
      refine g_iald 46 rfl dX11_cart_45 (by first | rfl | exact st_o hb | exact st_1 hb | exact st_2 hb | exact st_3 hb | exact st_4 hb | exact st_5 hb | exact st_o hb2 | exact st_1 hb2 | exact st_2 hb2 | exact st_3 hb2 | exact st_4 hb2 | exact st_5 hb2) rfl rfl (by first | assumption | omega) ?_
      try simp only [e2]
      refine g_iret rfl dX11_cart_46 ?_
      rw [fCart, ifC_t hq, ce_nI (by omega)]
      first | (rw [ifC_t h19]; exact ⟨by rw [← hr.1], h⟩) | (rw [ifC_f h19, ifC_t h34]; exact ⟨by rw [← hr.2.1], h⟩) | (rw [ifC_f h19, ifC_f h34]; exact ⟨rfl, h⟩)
  · refine g_aload0 23 rfl dX11_cart_22 ?_
    refine g_getR 26 rfl fX11_30 (by first | rfl | exact st_o hb | exact st_1 hb | exact st_2 hb | exact st_3 hb | exact st_4 hb | exact st_5 hb | exact st_o hb2 | exact st_1 hb2 | exact st_2 hb2 | exact st_3 hb2 | exact st_4 hb2 | exact st_5 hb2) rfl dX11_cart_23 ?_
    refine g_getR 29 rfl fX11_155 (by first | rfl | exact st_o hb | exact st_1 hb | exact st_2 hb | exact st_3 hb | exact st_4 hb | exact st_5 hb | exact st_o hb2 | exact st_1 hb2 | exact st_2 hb2 | exact st_3 hb2 | exact st_4 hb2 | exact st_5 hb2) rfl dX11_cart_26 ?_
    refine g_iload1 30 rfl dX11_cart_29 ?_
    refine g_iald 31 rfl dX11_cart_30 (by first | rfl | exact st_o hb | exact st_1 hb | exact st_2 hb | exact st_3 hb | exact st_4 hb | exact st_5 hb | exact st_o hb2 | exact st_1 hb2 | exact st_2 hb2 | exact st_3 hb2 | exact st_4 hb2 | exact st_5 hb2) rfl rfl (by first | assumption | omega) ?_
    try simp only [e2]
    refine g_iret rfl dX11_cart_31 ?_
    rw [fCart, ifC_t hq, ce_nI (by omega)]
    first | (rw [ifC_t h19]; exact ⟨by rw [← hr.1], h⟩) | (rw [ifC_f h19, ifC_t h34]; exact ⟨by rw [← hr.2.1], h⟩) | (rw [ifC_f h19, ifC_f h34]; exact ⟨rfl, h⟩)
