/-! the class's calls: texts' cells, ramming -/
noncomputable def ifC {α : Type} (c : Prop) (a b : α) : α := @ite _ c (Classical.propDecidable _) a b
theorem ifC_t {α : Type} {c : Prop} {a b : α} (h : c) : ifC c a b = a := if_pos h
theorem ifC_f {α : Type} {c : Prop} {a b : α} (h : ¬ c) : ifC c a b = b := if_neg h
def ce (a : Int32) : Nat := a.toNatClampNeg
theorem ce_nI {c : Nat} (h : c < 2 ^ 31) : ce (nI c) = c := nI_clamp h
abbrev qP (p : Int32 × Sg) : Rr → Mm → Prop := fun r M' => r = some (.inl p.1) ∧ CS p.2 M'
theorem CS.p {g : Sg} {M : Mm} (h : CS g M) : Plan M (gR g) (gW g) := h.1
theorem CS.x {g : Sg} {M : Mm} (h : CS g M) : sxE (gR g * gW g) (vC M 15) (gX g) := h.2.1
theorem CS.k {g : Sg} {M : Mm} (h : CS g M) : Crt M 9 (gK g) := h.2.2.2.1
noncomputable def fCell (g : Sg) (a b : Int32) : Int32 × Sg := (ifC (vp_in a (gN g)) (telS (gR g) (gW g) (gX g) (ce a) b) (-1001), g)
theorem telS_E {R W c : Nat} {x y : Sx} {q : Int32} (h : sxE (R * W) x y) (hc : c < R * W) : telS R W x c q = telS R W y c q := by
  unfold telS
  rw [h.K hc, h.Z hc, h.H hc, h.S hc, h.J hc, holdS_E h hc]
theorem pub_cell {l : Launch} {M : Mm} {g : Sg} {a b : Int32} (h : CS g M) : Ok GC l mX11_cell [.ref 0, .int a, .int b] M (qP (fCell g a b)) := by
  have h30 := h.p.1.le
  have hb : isSt 15 := Or.inl rfl
  have ht := fun c (hc : c < gR g * gW g) => ok_X7_tell (l := l) (M := M) (x := vC M 15) (q := b) hb h.p hc
  rw [pC_vC] at ht
  refine ok_of (by decide +kernel) rfl rfl ?_
  refine g_aload0 1 rfl dX11_cell_0 ?_
  refine g_iload1 2 rfl dX11_cell_1 ?_
  refine g_callV 5 1 rfl kX11_159 (by first | rfl | exact st_o hb | exact st_1 hb | exact st_2 hb | exact st_3 hb | exact st_4 hb | exact st_5 hb | exact st_o hb2 | exact st_1 hb2 | exact st_2 hb2 | exact st_3 hb2 | exact st_4 hb2 | exact st_5 hb2) dX11_cell_2 ⟨rfl, rfl⟩ (ok_isCell h.p) rfl rfl rfl (fun r M1 hq => ?_)
  obtain ⟨rfl, ⟨rfl, hq⟩ | ⟨rfl, hq⟩⟩ := hq
  try simp only [rV, Option.toList, List.cons_append, List.nil_append]
  · obtain ⟨c, hc, rfl⟩ := vp_in_of hq (by omega)
    refine g_ifne 12 8 rfl dX11_cell_5 (by decide) (fun _ => ?_) (fun h => absurd h (by decide))
    refine g_aload0 13 rfl dX11_cell_12 ?_
    refine g_getR 16 rfl fX11_45 (by first | rfl | exact st_o hb | exact st_1 hb | exact st_2 hb | exact st_3 hb | exact st_4 hb | exact st_5 hb | exact st_o hb2 | exact st_1 hb2 | exact st_2 hb2 | exact st_3 hb2 | exact st_4 hb2 | exact st_5 hb2) rfl dX11_cell_13 ?_
    refine g_iload1 17 rfl dX11_cell_16 ?_
    refine g_iload2 18 rfl dX11_cell_17 ?_
    refine g_callVi 21 2 rfl kX11_163 (by first | rfl | exact st_o hb | exact st_1 hb | exact st_2 hb | exact st_3 hb | exact st_4 hb | exact st_5 hb | exact st_o hb2 | exact st_1 hb2 | exact st_2 hb2 | exact st_3 hb2 | exact st_4 hb2 | exact st_5 hb2) dX11_cell_18 ⟨rfl, rfl⟩ (ht c hc) rfl rfl rfl ?_
    refine g_iret rfl dX11_cell_21 ?_
    exact ⟨by rw [fCell, ifC_t hq, ce_nI (by omega), telS_E h.x hc], h⟩
  · refine g_ifne 12 8 rfl dX11_cell_5 (by decide) (fun h => absurd rfl h) (fun _ => ?_)
    refine g_sipush 11 rfl (v := (-1001)) dX11_cell_8 (by decide) ?_
    refine g_iret rfl dX11_cell_11 ?_
    exact ⟨by rw [fCell, ifC_f hq], h⟩
noncomputable def fAs (g : Sg) (a b : Int32) : Int32 × Sg := (ifC (vp_in a (gN g)) (ifC (vp_in b 5) (ifC (isoS (gX g) (ce a) b = 0) (-1) a) (-102)) (-101), g)
theorem isoS_E {n c : Nat} {x y : Sx} {q : Int32} (h : sxE n x y) (hc : c < n) : isoS x c q = isoS y c q := by unfold isoS; rw [h.K hc]
theorem in5 {b : Int32} : vp_in b 5 ↔ ¬ b < 0 ∧ b ≤ 4 := by
  rw [vp_in_iff, Int32.lt_iff_toInt_lt, Int32.le_iff_toInt_le, tI0, show (4 : Int32).toInt = 4 by decide]
  omega
theorem pub_as {l : Launch} {M : Mm} {g : Sg} {a b : Int32} (h : CS g M) : Ok GC l mX11_as [.ref 0, .int a, .int b] M (qP (fAs g a b)) := by
  have h30 := h.p.1.le
  have hb : isSt 15 := Or.inl rfl
  have ht := fun c (hc : c < gR g * gW g) => ok_X7_isOf (l := l) (M := M) (x := vC M 15) (k := b) hb h.p hc
  rw [pC_vC] at ht
  refine ok_of (by decide +kernel) rfl rfl ?_
  refine g_aload0 1 rfl dX11_as_0 ?_
  refine g_iload1 2 rfl dX11_as_1 ?_
  refine g_callV 5 1 rfl kX11_159 (by first | rfl | exact st_o hb | exact st_1 hb | exact st_2 hb | exact st_3 hb | exact st_4 hb | exact st_5 hb | exact st_o hb2 | exact st_1 hb2 | exact st_2 hb2 | exact st_3 hb2 | exact st_4 hb2 | exact st_5 hb2) dX11_as_2 ⟨rfl, rfl⟩ (ok_isCell h.p) rfl rfl rfl (fun r M1 hq => ?_)
  obtain ⟨rfl, ⟨rfl, hq⟩ | ⟨rfl, hq⟩⟩ := hq
  try simp only [rV, Option.toList, List.cons_append, List.nil_append]
  · obtain ⟨c, hc, rfl⟩ := vp_in_of hq (by omega)
    refine g_ifne 11 8 rfl dX11_as_5 (by decide) (fun _ => ?_) (fun h => absurd h (by decide))
    refine g_iload2 12 rfl dX11_as_11 ?_
    refine g_iflt 20 15 rfl dX11_as_12 (by decide) (fun h12 => ?_) (fun h12 => ?_)
    · refine g_bipush 22 rfl (v := (-102)) dX11_as_20 (by decide) ?_
      refine g_iret rfl dX11_as_22 ?_
      refine ⟨?_, h⟩
      rw [fAs, ifC_t hq]
      first | rw [ifC_f (fun q => (in5.mp q).1 h12)] | rw [ifC_f (fun q => h17 (in5.mp q).2)] | (rw [ifC_t (in5.mpr ⟨h12, h17⟩), ce_nI (by omega), ← isoS_E h.x hc]; first | rw [ifC_t h32] | rw [ifC_f h32])
    · refine g_iload2 16 rfl dX11_as_15 ?_
      refine g_iconst 17 rfl (v := 4) dX11_as_16 (by decide) ?_
      refine g_cmple 23 20 rfl dX11_as_17 (by decide) (fun h17 => ?_) (fun h17 => ?_)
      · refine g_aload0 24 rfl dX11_as_23 ?_
        refine g_getR 27 rfl fX11_45 (by first | rfl | exact st_o hb | exact st_1 hb | exact st_2 hb | exact st_3 hb | exact st_4 hb | exact st_5 hb | exact st_o hb2 | exact st_1 hb2 | exact st_2 hb2 | exact st_3 hb2 | exact st_4 hb2 | exact st_5 hb2) rfl dX11_as_24 ?_
        refine g_iload1 28 rfl dX11_as_27 ?_
        refine g_iload2 29 rfl dX11_as_28 ?_
        refine g_callVi 32 2 rfl kX11_167 (by first | rfl | exact st_o hb | exact st_1 hb | exact st_2 hb | exact st_3 hb | exact st_4 hb | exact st_5 hb | exact st_o hb2 | exact st_1 hb2 | exact st_2 hb2 | exact st_3 hb2 | exact st_4 hb2 | exact st_5 hb2) dX11_as_29 ⟨rfl, rfl⟩ (ht c hc) rfl rfl rfl ?_
        refine g_ifeq 39 35 rfl dX11_as_32 (by decide) (fun h32 => ?_) (fun h32 => ?_)
        · refine g_iconst 40 rfl (v := (-1)) dX11_as_39 (by decide) ?_
          refine g_iret rfl dX11_as_40 ?_
          refine ⟨?_, h⟩
          rw [fAs, ifC_t hq]
          first | rw [ifC_f (fun q => (in5.mp q).1 h12)] | rw [ifC_f (fun q => h17 (in5.mp q).2)] | (rw [ifC_t (in5.mpr ⟨h12, h17⟩), ce_nI (by omega), ← isoS_E h.x hc]; first | rw [ifC_t h32] | rw [ifC_f h32])
        · refine g_iload1 36 rfl dX11_as_35 ?_
          refine g_goto 40 dX11_as_36 (by decide) ?_
          refine g_iret rfl dX11_as_40 ?_
          refine ⟨?_, h⟩
          rw [fAs, ifC_t hq]
          first | rw [ifC_f (fun q => (in5.mp q).1 h12)] | rw [ifC_f (fun q => h17 (in5.mp q).2)] | (rw [ifC_t (in5.mpr ⟨h12, h17⟩), ce_nI (by omega), ← isoS_E h.x hc]; first | rw [ifC_t h32] | rw [ifC_f h32])
      · refine g_bipush 22 rfl (v := (-102)) dX11_as_20 (by decide) ?_
        refine g_iret rfl dX11_as_22 ?_
        refine ⟨?_, h⟩
        rw [fAs, ifC_t hq]
        first | rw [ifC_f (fun q => (in5.mp q).1 h12)] | rw [ifC_f (fun q => h17 (in5.mp q).2)] | (rw [ifC_t (in5.mpr ⟨h12, h17⟩), ce_nI (by omega), ← isoS_E h.x hc]; first | rw [ifC_t h32] | rw [ifC_f h32])
  · refine g_ifne 11 8 rfl dX11_as_5 (by decide) (fun h => absurd rfl h) (fun _ => ?_)
    refine g_bipush 10 rfl (v := (-101)) dX11_as_8 (by decide) ?_
    refine g_iret rfl dX11_as_10 ?_
    exact ⟨by rw [fAs, ifC_f hq], h⟩
theorem levN_E {n : Nat} {v : Int32} {x y : Sx} (h : sxE n x y) : sxE n (itN (levB v) n x) (itN (levB v) n y) := by
  refine itN_rel (r := sxE n) (fun i hi p q hpq => ?_) h
  unfold levB
  rw [hpq.K hi]
  split
  · exact hpq
  · exact (hpq.wH (hpq.2.2.1.up i rfl)).wS (hpq.2.2.2.1.up i rfl)
theorem griN_E {n : Nat} {v : Int32} {x y : Sx} (h : sxE n x y) : sxE n (itN (griB v) n x) (itN (griB v) n y) := by
  refine itN_rel (r := sxE n) (fun i hi p q hpq => ?_) h
  unfold griB
  rw [hpq.K hi]
  split
  · exact hpq
  · exact hpq.wJ (hpq.2.2.2.2.1.up i rfl)
noncomputable def fSet (g : Sg) (v : Int32) : Int32 × Sg := ifC (0 < gN g) (ifC (¬ v < 0 ∧ v ≤ 40) (stoN (itN (levB v) (gN g) (gX g)) (gN g), sgX g (itN (levB v) (gN g) (gX g))) (-102, g)) (-103, g)
theorem pub_set {l : Launch} {M : Mm} {g : Sg} {v : Int32} (h : CS g M) : Ok GC l mX11_set [.ref 0, .int v] M (qP (fSet g v)) := by
  have hb : isSt 15 := Or.inl rfl
  have ht := ok_X7_level (l := l) (M := M) (x := vC M 15) (h := v) hb h.p
  rw [pC_vC] at ht
  refine ok_of (by decide +kernel) rfl rfl ?_
  refine g_aload0 1 rfl dX11_set_0 ?_
  refine g_callV 4 0 rfl kX11_171 (by first | rfl | exact st_o hb | exact st_1 hb | exact st_2 hb | exact st_3 hb | exact st_4 hb | exact st_5 hb | exact st_o hb2 | exact st_1 hb2 | exact st_2 hb2 | exact st_3 hb2 | exact st_4 hb2 | exact st_5 hb2) dX11_set_1 ⟨rfl, rfl⟩ (ok_hasStreet h.p) rfl rfl rfl (fun r M1 hq => ?_)
  obtain ⟨rfl, ⟨rfl, hq⟩ | ⟨rfl, hq⟩⟩ := hq
  try simp only [rV, Option.toList, List.cons_append, List.nil_append]
  · refine g_ifne 10 7 rfl dX11_set_4 (by decide) (fun _ => ?_) (fun h => absurd h (by decide))
    refine g_iload1 11 rfl dX11_set_10 ?_
    refine g_iflt 20 14 rfl dX11_set_11 (by decide) (fun h11 => ?_) (fun h11 => ?_)
    · have hn : ¬ (¬ v < 0 ∧ v ≤ 40) := (fun q => by first | exact q.1 h11 | exact h17 q.2)
      refine g_bipush 22 rfl (v := (-102)) dX11_set_20 (by decide) ?_
      refine g_iret rfl dX11_set_22 ?_
      rw [fSet, ifC_t hq, ifC_f hn]
      exact ⟨rfl, h⟩
    · refine g_iload1 15 rfl dX11_set_14 ?_
      refine g_bipush 17 rfl (v := 40) dX11_set_15 (by decide) ?_
      refine g_cmple 23 20 rfl dX11_set_17 (by decide) (fun h17 => ?_) (fun h17 => ?_)
      · refine g_aload0 24 rfl dX11_set_23 ?_
        refine g_getR 27 rfl fX11_45 (by first | rfl | exact st_o hb | exact st_1 hb | exact st_2 hb | exact st_3 hb | exact st_4 hb | exact st_5 hb | exact st_o hb2 | exact st_1 hb2 | exact st_2 hb2 | exact st_3 hb2 | exact st_4 hb2 | exact st_5 hb2) rfl dX11_set_24 ?_
        refine g_iload1 28 rfl dX11_set_27 ?_
        refine g_callVv 31 1 rfl kX11_175 (by first | rfl | exact st_o hb | exact st_1 hb | exact st_2 hb | exact st_3 hb | exact st_4 hb | exact st_5 hb | exact st_o hb2 | exact st_1 hb2 | exact st_2 hb2 | exact st_3 hb2 | exact st_4 hb2 | exact st_5 hb2) dX11_set_28 ⟨rfl, rfl⟩ ht rfl rfl rfl ?_
        refine g_aload0 32 rfl dX11_set_31 ?_
        refine g_getR 35 rfl fX11_45 (by first | rfl | exact st_o hb | exact st_1 hb | exact st_2 hb | exact st_3 hb | exact st_4 hb | exact st_5 hb | exact st_o hb2 | exact st_1 hb2 | exact st_2 hb2 | exact st_3 hb2 | exact st_4 hb2 | exact st_5 hb2) rfl dX11_set_32 ?_
        refine g_callVi 38 0 rfl kX11_178 (by first | rfl | exact st_o hb | exact st_1 hb | exact st_2 hb | exact st_3 hb | exact st_4 hb | exact st_5 hb | exact st_o hb2 | exact st_1 hb2 | exact st_2 hb2 | exact st_3 hb2 | exact st_4 hb2 | exact st_5 hb2) dX11_set_35 ⟨rfl, rfl⟩ (ok_X7_stones hb h.p) rfl rfl rfl ?_
        refine g_iret rfl dX11_set_38 ?_
        rw [fSet, ifC_t hq, ifC_t ⟨h11, h17⟩]
        exact ⟨by rw [stoN_E (levN_E h.x) _ (Nat.le_refl _)], h.now (levN_E h.x)⟩
      · have hn : ¬ (¬ v < 0 ∧ v ≤ 40) := (fun q => by first | exact q.1 h11 | exact h17 q.2)
        refine g_bipush 22 rfl (v := (-102)) dX11_set_20 (by decide) ?_
        refine g_iret rfl dX11_set_22 ?_
        rw [fSet, ifC_t hq, ifC_f hn]
        exact ⟨rfl, h⟩
  · refine g_ifne 10 7 rfl dX11_set_4 (by decide) (fun h => absurd rfl h) (fun _ => ?_)
    refine g_bipush 9 rfl (v := (-103)) dX11_set_7 (by decide) ?_
    refine g_iret rfl dX11_set_9 ?_
    exact ⟨by rw [fSet, ifC_f hq], by rw [fSet, ifC_f hq]; exact h⟩
noncomputable def fGrit (g : Sg) (v : Int32) : Int32 × Sg := ifC (0 < gN g) (ifC (¬ v < 0 ∧ v ≤ 9) (stoN (itN (griB v) (gN g) (gX g)) (gN g), sgX g (itN (griB v) (gN g) (gX g))) (-102, g)) (-103, g)
theorem pub_grit {l : Launch} {M : Mm} {g : Sg} {v : Int32} (h : CS g M) : Ok GC l mX11_grit [.ref 0, .int v] M (qP (fGrit g v)) := by
  have hb : isSt 15 := Or.inl rfl
  have ht := ok_X7_fillJoints (l := l) (M := M) (x := vC M 15) (v := v) hb h.p
  rw [pC_vC] at ht
  refine ok_of (by decide +kernel) rfl rfl ?_
  refine g_aload0 1 rfl dX11_grit_0 ?_
  refine g_callV 4 0 rfl kX11_171 (by first | rfl | exact st_o hb | exact st_1 hb | exact st_2 hb | exact st_3 hb | exact st_4 hb | exact st_5 hb | exact st_o hb2 | exact st_1 hb2 | exact st_2 hb2 | exact st_3 hb2 | exact st_4 hb2 | exact st_5 hb2) dX11_grit_1 ⟨rfl, rfl⟩ (ok_hasStreet h.p) rfl rfl rfl (fun r M1 hq => ?_)
  obtain ⟨rfl, ⟨rfl, hq⟩ | ⟨rfl, hq⟩⟩ := hq
  try simp only [rV, Option.toList, List.cons_append, List.nil_append]
  · refine g_ifne 10 7 rfl dX11_grit_4 (by decide) (fun _ => ?_) (fun h => absurd h (by decide))
    refine g_iload1 11 rfl dX11_grit_10 ?_
    refine g_iflt 20 14 rfl dX11_grit_11 (by decide) (fun h11 => ?_) (fun h11 => ?_)
    · have hn : ¬ (¬ v < 0 ∧ v ≤ 9) := (fun q => by first | exact q.1 h11 | exact h17 q.2)
      refine g_bipush 22 rfl (v := (-102)) dX11_grit_20 (by decide) ?_
      refine g_iret rfl dX11_grit_22 ?_
      rw [fGrit, ifC_t hq, ifC_f hn]
      exact ⟨rfl, h⟩
    · refine g_iload1 15 rfl dX11_grit_14 ?_
      refine g_bipush 17 rfl (v := 9) dX11_grit_15 (by decide) ?_
      refine g_cmple 23 20 rfl dX11_grit_17 (by decide) (fun h17 => ?_) (fun h17 => ?_)
      · refine g_aload0 24 rfl dX11_grit_23 ?_
        refine g_getR 27 rfl fX11_45 (by first | rfl | exact st_o hb | exact st_1 hb | exact st_2 hb | exact st_3 hb | exact st_4 hb | exact st_5 hb | exact st_o hb2 | exact st_1 hb2 | exact st_2 hb2 | exact st_3 hb2 | exact st_4 hb2 | exact st_5 hb2) rfl dX11_grit_24 ?_
        refine g_iload1 28 rfl dX11_grit_27 ?_
        refine g_callVv 31 1 rfl kX11_182 (by first | rfl | exact st_o hb | exact st_1 hb | exact st_2 hb | exact st_3 hb | exact st_4 hb | exact st_5 hb | exact st_o hb2 | exact st_1 hb2 | exact st_2 hb2 | exact st_3 hb2 | exact st_4 hb2 | exact st_5 hb2) dX11_grit_28 ⟨rfl, rfl⟩ ht rfl rfl rfl ?_
        refine g_aload0 32 rfl dX11_grit_31 ?_
        refine g_getR 35 rfl fX11_45 (by first | rfl | exact st_o hb | exact st_1 hb | exact st_2 hb | exact st_3 hb | exact st_4 hb | exact st_5 hb | exact st_o hb2 | exact st_1 hb2 | exact st_2 hb2 | exact st_3 hb2 | exact st_4 hb2 | exact st_5 hb2) rfl dX11_grit_32 ?_
        refine g_callVi 38 0 rfl kX11_178 (by first | rfl | exact st_o hb | exact st_1 hb | exact st_2 hb | exact st_3 hb | exact st_4 hb | exact st_5 hb | exact st_o hb2 | exact st_1 hb2 | exact st_2 hb2 | exact st_3 hb2 | exact st_4 hb2 | exact st_5 hb2) dX11_grit_35 ⟨rfl, rfl⟩ (ok_X7_stones hb h.p) rfl rfl rfl ?_
        refine g_iret rfl dX11_grit_38 ?_
        rw [fGrit, ifC_t hq, ifC_t ⟨h11, h17⟩]
        exact ⟨by rw [stoN_E (griN_E h.x) _ (Nat.le_refl _)], h.now (griN_E h.x)⟩
      · have hn : ¬ (¬ v < 0 ∧ v ≤ 9) := (fun q => by first | exact q.1 h11 | exact h17 q.2)
        refine g_bipush 22 rfl (v := (-102)) dX11_grit_20 (by decide) ?_
        refine g_iret rfl dX11_grit_22 ?_
        rw [fGrit, ifC_t hq, ifC_f hn]
        exact ⟨rfl, h⟩
  · refine g_ifne 10 7 rfl dX11_grit_4 (by decide) (fun h => absurd rfl h) (fun _ => ?_)
    refine g_bipush 9 rfl (v := (-103)) dX11_grit_7 (by decide) ?_
    refine g_iret rfl dX11_grit_9 ?_
    exact ⟨by rw [fGrit, ifC_f hq], by rw [fGrit, ifC_f hq]; exact h⟩
/-- a number names a stone -/
def isSn (g : Sg) (a : Int32) : Prop := vp_in a (gN g) ∧ ¬ sK (gX g) (ce a) = -1
theorem ok_isStn {l : Launch} {M : Mm} {g : Sg} {a : Int32} (h : CS g M) : Ok GC l mX11_isStone [.ref 0, .int a] M (qB M (isSn g a)) := by
  have h30 := h.p.1.le
  have e : isSn g a ↔ (vp_in a (gR g * gW g) ∧ ¬ sK (vC M 15) a.toNatClampNeg = -1) := by
    unfold isSn
    constructor
    · intro ⟨h1, h2⟩
      obtain ⟨c, hc, rfl⟩ := vp_in_of h1 (Nat.lt_of_le_of_lt h30 (by decide))
      refine ⟨h1, ?_⟩
      rw [nI_clamp (by unfold gN at hc; omega), h.x.K hc]
      rw [ce_nI (by unfold gN at hc; omega)] at h2
      exact h2
    · intro ⟨h1, h2⟩
      obtain ⟨c, hc, rfl⟩ := vp_in_of h1 (Nat.lt_of_le_of_lt h30 (by decide))
      refine ⟨h1, ?_⟩
      rw [nI_clamp (by omega), h.x.K hc] at h2
      rw [ce_nI (by omega)]
      exact h2
  have := ok_isStone (l := l) (a := a) h.p
  unfold qB at this ⊢
  rw [e]
  exact this
noncomputable def fBlow (g : Sg) (a w : Int32) : Int32 × Sg := ifC (isSn g a) (ifC (okW w) (sinkS (gR g) (gW g) (gX g) (ce a) w, sgX g (strS (gR g) (gW g) (ce a) w (gX g))) (-102, g)) (-101, g)
theorem pub_blow {l : Launch} {M : Mm} {g : Sg} {a w : Int32} (h : CS g M) : Ok GC l mX11_blow [.ref 0, .int a, .int w] M (qP (fBlow g a w)) := by
  have h30 := h.p.1.le
  have hb : isSt 15 := Or.inl rfl
  have ht := fun c (hc : c < gR g * gW g) => ok_X7_strike (l := l) (M := M) (x := vC M 15) (w := w) hb h.p hc
  rw [pC_vC] at ht
  refine ok_of (by decide +kernel) rfl rfl ?_
  refine g_aload0 1 rfl dX11_blow_0 ?_
  refine g_iload1 2 rfl dX11_blow_1 ?_
  refine g_callV 5 1 rfl kX11_185 (by first | rfl | exact st_o hb | exact st_1 hb | exact st_2 hb | exact st_3 hb | exact st_4 hb | exact st_5 hb | exact st_o hb2 | exact st_1 hb2 | exact st_2 hb2 | exact st_3 hb2 | exact st_4 hb2 | exact st_5 hb2) dX11_blow_2 ⟨rfl, rfl⟩ (ok_isStn h) rfl rfl rfl (fun r M1 hq => ?_)
  obtain ⟨rfl, ⟨rfl, hq⟩ | ⟨rfl, hq⟩⟩ := hq
  try simp only [rV, Option.toList, List.cons_append, List.nil_append]
  · obtain ⟨c, hc, rfl⟩ := vp_in_of hq.1 (Nat.lt_of_le_of_lt h30 (by decide))
    have hc : c < gR g * gW g := hc
    refine g_ifne 11 8 rfl dX11_blow_5 (by decide) (fun _ => ?_) (fun h => absurd h (by decide))
    refine g_iload2 12 rfl dX11_blow_11 ?_
    refine g_callS 15 1 rfl kX11_188 dX11_blow_12 ⟨rfl, rfl⟩ ok_isWeight rfl rfl rfl (fun r M1 hq => ?_)
    obtain ⟨rfl, ⟨rfl, hw⟩ | ⟨rfl, hw⟩⟩ := hq
    try simp only [rV, Option.toList, List.cons_append, List.nil_append]
    · refine g_ifne 21 18 rfl dX11_blow_15 (by decide) (fun _ => ?_) (fun h => absurd h (by decide))
      refine g_aload0 22 rfl dX11_blow_21 ?_
      refine g_getR 25 rfl fX11_45 (by first | rfl | exact st_o hb | exact st_1 hb | exact st_2 hb | exact st_3 hb | exact st_4 hb | exact st_5 hb | exact st_o hb2 | exact st_1 hb2 | exact st_2 hb2 | exact st_3 hb2 | exact st_4 hb2 | exact st_5 hb2) rfl dX11_blow_22 ?_
      refine g_iload1 26 rfl dX11_blow_25 ?_
      refine g_iload2 27 rfl dX11_blow_26 ?_
      refine g_callVi 30 2 rfl kX11_191 (by first | rfl | exact st_o hb | exact st_1 hb | exact st_2 hb | exact st_3 hb | exact st_4 hb | exact st_5 hb | exact st_o hb2 | exact st_1 hb2 | exact st_2 hb2 | exact st_3 hb2 | exact st_4 hb2 | exact st_5 hb2) dX11_blow_27 ⟨rfl, rfl⟩ (ht c hc) rfl rfl rfl ?_
      refine g_iret rfl dX11_blow_30 ?_
      exact ⟨by rw [fBlow, ifC_t hq, ifC_t hw, ce_nI (by omega), sinkS_E h.x hc], by rw [fBlow, ifC_t hq, ifC_t hw, ce_nI (by omega)]; exact h.now (strS_E h.x hc)⟩
    · refine g_ifne 21 18 rfl dX11_blow_15 (by decide) (fun h => absurd rfl h) (fun _ => ?_)
      refine g_bipush 20 rfl (v := (-102)) dX11_blow_18 (by decide) ?_
      refine g_iret rfl dX11_blow_20 ?_
      exact ⟨by rw [fBlow, ifC_t hq, ifC_f hw], by rw [fBlow, ifC_t hq, ifC_f hw]; exact h⟩
  · refine g_ifne 11 8 rfl dX11_blow_5 (by decide) (fun h => absurd rfl h) (fun _ => ?_)
    refine g_bipush 10 rfl (v := (-101)) dX11_blow_8 (by decide) ?_
    refine g_iret rfl dX11_blow_10 ?_
    exact ⟨by rw [fBlow, ifC_f hq], by rw [fBlow, ifC_f hq]; exact h⟩
noncomputable def fRings (g : Sg) (w : Int32) : Int32 × Sg := (ifC (0 < gN g) (ifC (okW w) (ringN (gR g) (gW g) (gX g) w (gN g)) (-102)) (-103), g)
theorem pub_rings {l : Launch} {M : Mm} {g : Sg} {w : Int32} (h : CS g M) : Ok GC l mX11_rings [.ref 0, .int w] M (qP (fRings g w)) := by
  have hb : isSt 15 := Or.inl rfl
  have ht := ok_X7_ringing (l := l) (M := M) (x := vC M 15) (w := w) hb h.p
  rw [pC_vC] at ht
  refine ok_of (by decide +kernel) rfl rfl ?_
  refine g_aload0 1 rfl dX11_rings_0 ?_
  refine g_callV 4 0 rfl kX11_171 (by first | rfl | exact st_o hb | exact st_1 hb | exact st_2 hb | exact st_3 hb | exact st_4 hb | exact st_5 hb | exact st_o hb2 | exact st_1 hb2 | exact st_2 hb2 | exact st_3 hb2 | exact st_4 hb2 | exact st_5 hb2) dX11_rings_1 ⟨rfl, rfl⟩ (ok_hasStreet h.p) rfl rfl rfl (fun r M1 hq => ?_)
  obtain ⟨rfl, ⟨rfl, hq⟩ | ⟨rfl, hq⟩⟩ := hq
  try simp only [rV, Option.toList, List.cons_append, List.nil_append]
  · refine g_ifne 10 7 rfl dX11_rings_4 (by decide) (fun _ => ?_) (fun h => absurd h (by decide))
    refine g_iload1 11 rfl dX11_rings_10 ?_
    refine g_callS 14 1 rfl kX11_188 dX11_rings_11 ⟨rfl, rfl⟩ ok_isWeight rfl rfl rfl (fun r M1 hq => ?_)
    obtain ⟨rfl, ⟨rfl, hw⟩ | ⟨rfl, hw⟩⟩ := hq
    try simp only [rV, Option.toList, List.cons_append, List.nil_append]
    · refine g_ifne 20 17 rfl dX11_rings_14 (by decide) (fun _ => ?_) (fun h => absurd h (by decide))
      refine g_aload0 21 rfl dX11_rings_20 ?_
      refine g_getR 24 rfl fX11_45 (by first | rfl | exact st_o hb | exact st_1 hb | exact st_2 hb | exact st_3 hb | exact st_4 hb | exact st_5 hb | exact st_o hb2 | exact st_1 hb2 | exact st_2 hb2 | exact st_3 hb2 | exact st_4 hb2 | exact st_5 hb2) rfl dX11_rings_21 ?_
      refine g_iload1 25 rfl dX11_rings_24 ?_
      refine g_callVi 28 1 rfl kX11_201 (by first | rfl | exact st_o hb | exact st_1 hb | exact st_2 hb | exact st_3 hb | exact st_4 hb | exact st_5 hb | exact st_o hb2 | exact st_1 hb2 | exact st_2 hb2 | exact st_3 hb2 | exact st_4 hb2 | exact st_5 hb2) dX11_rings_25 ⟨rfl, rfl⟩ ht rfl rfl rfl ?_
      refine g_iret rfl dX11_rings_28 ?_
      exact ⟨by rw [fRings, ifC_t hq, ifC_t hw, ringN_E h.x _ (Nat.le_refl _)], h⟩
    · refine g_ifne 20 17 rfl dX11_rings_14 (by decide) (fun h => absurd rfl h) (fun _ => ?_)
      refine g_bipush 19 rfl (v := (-102)) dX11_rings_17 (by decide) ?_
      refine g_iret rfl dX11_rings_19 ?_
      exact ⟨by rw [fRings, ifC_t hq, ifC_f hw], h⟩
  · refine g_ifne 10 7 rfl dX11_rings_4 (by decide) (fun h => absurd rfl h) (fun _ => ?_)
    refine g_bipush 9 rfl (v := (-103)) dX11_rings_7 (by decide) ?_
    refine g_iret rfl dX11_rings_9 ?_
    exact ⟨by rw [fRings, ifC_f hq], h⟩
noncomputable def fUneven (g : Sg) : Int32 × Sg := (ifC (0 < gN g) (sprS (gR g) (gW g) (gX g)) (-103), g)
theorem pub_uneven {l : Launch} {M : Mm} {g : Sg} (h : CS g M) : Ok GC l mX11_uneven [.ref 0] M (qP (fUneven g)) := by
  have hb : isSt 15 := Or.inl rfl
  have ht := ok_X7_spread (l := l) (M := M) (x := vC M 15) hb h.p
  rw [pC_vC] at ht
  refine ok_of (by decide +kernel) rfl rfl ?_
  refine g_aload0 1 rfl dX11_uneven_0 ?_
  refine g_callV 4 0 rfl kX11_171 (by first | rfl | exact st_o hb | exact st_1 hb | exact st_2 hb | exact st_3 hb | exact st_4 hb | exact st_5 hb | exact st_o hb2 | exact st_1 hb2 | exact st_2 hb2 | exact st_3 hb2 | exact st_4 hb2 | exact st_5 hb2) dX11_uneven_1 ⟨rfl, rfl⟩ (ok_hasStreet h.p) rfl rfl rfl (fun r M1 hq => ?_)
  obtain ⟨rfl, ⟨rfl, hq⟩ | ⟨rfl, hq⟩⟩ := hq
  try simp only [rV, Option.toList, List.cons_append, List.nil_append]
  · refine g_ifeq 17 7 rfl dX11_uneven_4 (by decide) (fun h => absurd h (by decide)) (fun _ => ?_)
    refine g_aload0 8 rfl dX11_uneven_7 ?_
    refine g_getR 11 rfl fX11_45 (by first | rfl | exact st_o hb | exact st_1 hb | exact st_2 hb | exact st_3 hb | exact st_4 hb | exact st_5 hb | exact st_o hb2 | exact st_1 hb2 | exact st_2 hb2 | exact st_3 hb2 | exact st_4 hb2 | exact st_5 hb2) rfl dX11_uneven_8 ?_
    refine g_callVi 14 0 rfl kX11_215 (by first | rfl | exact st_o hb | exact st_1 hb | exact st_2 hb | exact st_3 hb | exact st_4 hb | exact st_5 hb | exact st_o hb2 | exact st_1 hb2 | exact st_2 hb2 | exact st_3 hb2 | exact st_4 hb2 | exact st_5 hb2) dX11_uneven_11 ⟨rfl, rfl⟩ ht rfl rfl rfl ?_
    refine g_goto 19 dX11_uneven_14 (by decide) ?_
    refine g_iret rfl dX11_uneven_19 ?_
    exact ⟨by rw [fUneven, ifC_t hq, sprS_E h.x], h⟩
  · refine g_ifeq 17 7 rfl dX11_uneven_4 (by decide) (fun _ => ?_) (fun h => absurd rfl h)
    refine g_bipush 19 rfl (v := (-103)) dX11_uneven_17 (by decide) ?_
    refine g_iret rfl dX11_uneven_19 ?_
    exact ⟨by rw [fUneven, ifC_f hq], h⟩
